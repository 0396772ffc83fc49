/-! the reference: the cells 167 .. 173; what it is asked (1) -/
theorem nI_mul (a b : Nat) : nI a * nI b = nI (a * b) := (Int32.ofNat_mul a b).symm
theorem ix7 (n j : Nat) : (7 : Int32) * nI n + nI j = nI (7 * n + j) := by rw [show (7 : Int32) = nI 7 from rfl, nI_mul, nI_add]
theorem ix76 (n : Nat) : (7 : Int32) * nI n + 6 = nI (7 * n + 6) := ix7 n 6
def Wm (F : Nat → Nat → Int32) : Nat → Nat → Int32 := fun i j => F 169 (7 * i + j)
def Dm (F : Nat → Nat → Int32) : Nat → Int32 := fun i => F 169 (7 * i + 6)
theorem lnA (F : Nat → Nat → Int32) (n b : Nat) (hb : b ≤ 6) : some (Value.int (F 169 (7 * n + b))) = some (Value.int (if nI b = 6 then Dm F n else Wm F n b)) := by
  by_cases z : nI b = 6
  · rw [if_pos z]
    have : b = 6 := (nI_eq (by omega) (by decide)).mp z
    subst this; rfl
  · rw [if_neg z]; rfl
def mS (F : Nat → Nat → Int32) (G P : Nat) : Prop := F 167 9 = nI G ∧ F 167 10 = nI P ∧ F 167 0 = 0 ∧ G ≤ 8 ∧ P ≤ 24
theorem thr {F : Nat → Nat → Int32} (h : F 167 0 = 0) : up2 F 167 0 0 = F := by
  have := up2_id F 167 0
  rw [h] at this; exact this
theorem ng0 (x : Int32) : -x = 0 - x := (Int32.zero_sub x).symm
def sm (w : Nat → Int32) : Nat → Int32
  | 0 => 0
  | i + 1 => sm w i + abs32 (w i)
theorem sm_mw (w : Nat → Int32) : ∀ n, sm w n = mw w 0 0 n
  | 0 => rfl
  | i + 1 => by
    rw [sm, mw, sm_mw w i]
    have e : (if w i ≤ 0 then (0 : Int32) else 0) = 0 := by split <;> rfl
    rw [e, Int32.zero_shiftRight, Int32.zero_and, if_pos rfl]
def bt (x : Int32) (i : Nat) : Int32 := x >>> (nI i &&& 31) &&& 1
theorem bt64 : ∀ x, x < 64 → ∀ i, i < 6 → (bt (nI x) i = 0 ∨ bt (nI x) i = 1) ∧ (bt (nI x) i = 1 ↔ bt (nI x ^^^ -1) i = 0) := by decide +kernel
abbrev tw1 (a x : Int32) (i : Nat) : Prop := (¬ a ≤ 0 ∧ bt x i = 1) ∨ (a ≤ 0 ∧ ¬ bt x i = 1)
def we (w : Nat → Int32) (x : Int32) : Nat → Int32
  | 0 => 0
  | i + 1 => we w x i + (if tw1 (w i) x i then abs32 (w i) else 0)
theorem we_mw (w : Nat → Int32) {x : Nat} (hx : x < 64) : ∀ n, n ≤ 6 → we w (nI x) n = mw w (nI x) (nI x ^^^ -1) n
  | 0, _ => rfl
  | i + 1, h => by
    rw [we, mw, we_mw w hx i (by omega)]
    congr 1
    obtain ⟨h1, h2⟩ := bt64 x hx i (by omega)
    by_cases q : w i ≤ 0
    · rw [if_pos q]
      have e : (nI x >>> (nI i &&& 31) &&& 1 = 0) ↔ ¬ bt (nI x) i = 1 := by
        show bt (nI x) i = 0 ↔ _
        constructor
        · intro z; rw [z]; decide
        · intro z; exact h1.resolve_right z
      by_cases b : bt (nI x) i = 1
      · rw [if_neg (fun z => z.elim (fun y => y.1 q) (fun y => y.2 b)), if_neg (fun z => e.mp z b)]
      · rw [if_pos (Or.inr ⟨q, b⟩), if_pos (e.mpr b)]
    · rw [if_neg q]
      have e : ((nI x ^^^ -1) >>> (nI i &&& 31) &&& 1 = 0) ↔ bt (nI x) i = 1 := h2.symm
      by_cases b : bt (nI x) i = 1
      · rw [if_pos (Or.inl ⟨q, b⟩), if_pos (e.mpr b)]
      · rw [if_neg (fun z => z.elim (fun y => b y.2) (fun y => q y.1)), if_neg (fun z => b (e.mp z))]
theorem lnI {N : Nat} (hN : N ≤ 32) (i : Int32) : (¬ i < 0 ∧ ¬ nI N - 1 < i) ↔ isLn N i := by
  have e1 : (nI N - 1).toInt = (N : Int) - 1 := by
    rcases N with _ | N
    · decide
    · rw [nI_pred, nI_toInt (by omega)]; omega
  have e2 : (nI N).toInt = (N : Int) := nI_toInt (by omega)
  unfold isLn
  rw [Int32.lt_iff_toInt_lt, Int32.lt_iff_toInt_lt, Int32.le_iff_toInt_le, e1, e2]
  omega
set_option maxRecDepth 100000 in
set_option maxHeartbeats 4000000 in
theorem m_in (g : Gl) (l : Launch) (v a b : Int32) (S : Sg) : Ct g l yX8_in cX8_in 3 (some .boolean) 0 0 0 [.int v, .int a, .int b] S (fun r S2 => r = some (.int (if ¬ v < a ∧ ¬ b < v then 1 else 0)) ∧ S2 = S) := by
  refine Ct.of rfl (by decide) rfl (Nat.le_of_ble_eq_true rfl) ?_
  refine g_iload_n 1 dX8_in_0 rfl rfl ?_
  refine g_iload_n 2 dX8_in_1 rfl rfl ?_
  refine g_icmp_lt 14 5 dX8_in_2 rfl (by decide) (fun h2 => ?_) (fun h2 => ?_)
  · refine g_iconst (0) 15 dX8_in_14 rfl (by decide) ?_
    refine g_zret dX8_in_15 (by decide) ?_
    exact ⟨iv_neg (fun z => z.1 h2), rfl⟩
  · refine g_iload_n 6 dX8_in_5 rfl rfl ?_
    refine g_iload_n 7 dX8_in_6 rfl rfl ?_
    refine g_icmp_gt 14 10 dX8_in_7 rfl (by decide) (fun h7 => ?_) (fun h7 => ?_)
    · refine g_iconst (0) 15 dX8_in_14 rfl (by decide) ?_
      refine g_zret dX8_in_15 (by decide) ?_
      exact ⟨iv_neg (fun z => z.2 h7), rfl⟩
    · refine g_iconst (1) 11 dX8_in_10 rfl (by decide) ?_
      refine g_goto 15 dX8_in_11 (by decide) ?_
      refine g_zret dX8_in_15 (by decide) ?_
      exact ⟨iv_pos ⟨h2, h7⟩, rfl⟩

set_option maxRecDepth 100000 in
set_option maxHeartbeats 4000000 in
theorem m_size (g : Gl) (l : Launch) (v : Int32) (S : Sg) : Ct g l yX8_size cX8_size 1 (some .int) 0 0 0 [.int v] S (fun r S2 => r = some (.int (abs32 v)) ∧ S2 = S) := by
  refine Ct.of rfl (by decide) rfl (Nat.le_of_ble_eq_true rfl) ?_
  refine g_iload_n 1 dX8_size_0 rfl rfl ?_
  refine g_if_ge 9 4 dX8_size_1 rfl (by decide) (fun h1 => ?_) (fun h1 => ?_)
  · refine g_iload_n 10 dX8_size_9 rfl rfl ?_
    refine g_iret dX8_size_10 ?_
    exact ⟨by rw [abs32, if_pos h1], rfl⟩
  · refine g_iload_n 5 dX8_size_4 rfl rfl ?_
    refine g_ineg 6 dX8_size_5 rfl ?_
    refine g_goto 10 dX8_size_6 (by decide) ?_
    refine g_iret dX8_size_10 ?_
    exact ⟨by rw [abs32, if_neg h1, ← ng0], rfl⟩

set_option maxRecDepth 100000 in
set_option maxHeartbeats 4000000 in
theorem lm_weights (g : Gl) (l : Launch) (F : Nat → Nat → Int32) (J : Nat → Int64) {n0 : Nat} (hn0 : n0 < 33) {XX : State → Method → Prop} (n : Nat) : ∀ (i : Nat) (ix x : Int32), i + n = 6 → ix = nI i → x = sm (Wm F n0) i → Gj g l (rmd 1 0 0) XX (QM g (fun r S2 => r = some (.int (sm (Wm F n0) 6)) ∧ S2 = St F J) 0 0) RX8 cX8_weights 4 (some .int) 4 [some (.ref 167), some (.int (7 * nI n0)), some (.int x), some (.int ix)] [] (St F J) 0 0 := by
  induction n with
  | zero =>
    intro i ix x hi hx he
    obtain rfl : i = 6 := by omega
    subst hx; subst he
    refine g_iload_n 5 dX8_weights_4 rfl rfl ?_
    refine g_bipush (6) 7 dX8_weights_5 rfl (by decide) ?_
    refine g_icmp_ge 30 10 dX8_weights_7 rfl (by decide) (fun h7 => ?_) (fun h7 => ?_)
    · refine g_iload_n 31 dX8_weights_30 rfl rfl ?_
      refine g_iret dX8_weights_31 ?_
      exact ⟨rfl, rfl⟩
    · exact absurd (by decide) h7
  | succ n ih =>
    intro i ix x hi hx he
    subst hx
    refine g_iload_n 5 dX8_weights_4 rfl rfl ?_
    refine g_bipush (6) 7 dX8_weights_5 rfl (by decide) ?_
    refine g_icmp_ge 30 10 dX8_weights_7 rfl (by decide) (fun h7 => ?_) (fun h7 => ?_)
    · exact absurd h7 (lt6 (by omega))
    · refine g_iload_n 11 dX8_weights_10 rfl rfl ?_
      refine g_aload_n 12 dX8_weights_11 rfl rfl ?_
      refine gf_8_8 15 dX8_weights_12 rfl kf_X8_13 ?_
      refine g_iload_n 16 dX8_weights_15 rfl rfl ?_
      refine g_iload_n 17 dX8_weights_16 rfl rfl ?_
      refine g_iadd 18 dX8_weights_17 rfl ?_
      refine ga_ild (7 * n0 + i) 19 dX8_weights_18 rfl (by first | decide | assumption | exact ⟨Nat.le_of_ble_eq_true rfl, rfl⟩) (ix7 n0 i) (show 7 * n0 + i < 231 by omega) ?_
      refine g_s1 22 dX8_weights_19 rfl kl_X8_119 ms_X8_size ⟨Nat.le_of_ble_eq_true rfl, Nat.le_of_ble_eq_true rfl⟩ (Nat.le_of_ble_eq_true rfl) (m_size g l _ _) ?_
      rintro _ _ ⟨rfl, rfl⟩
      refine g_iadd 23 dX8_weights_22 rfl ?_
      refine g_istore_n 24 dX8_weights_23 rfl (by decide) ?_
      refine g_iinc (1) 27 dX8_weights_24 rfl (by decide) (by decide) rfl ?_
      refine g_goto 4 dX8_weights_27 (by decide) ?_
      exact ih (i + 1) _ _ (by omega) (nI_succ i).symm (by rw [sm, ← he]; rfl)

set_option maxRecDepth 100000 in
set_option maxHeartbeats 4000000 in
theorem m_weights (g : Gl) (l : Launch) (F : Nat → Nat → Int32) (J : Nat → Int64) {n0 : Nat} (hn0 : n0 < 33) : Ct g l yX8_weights cX8_weights 4 (some .int) 1 0 0 [.ref 167, .int (7 * nI n0)] (St F J) (fun r S2 => r = some (.int (sm (Wm F n0) 6)) ∧ S2 = St F J) := by
  refine Ct.of rfl (by decide) rfl (Nat.le_of_ble_eq_true rfl) ?_
  refine g_iconst (0) 1 dX8_weights_0 rfl (by decide) ?_
  refine g_istore_n 2 dX8_weights_1 rfl (by decide) ?_
  refine g_iconst (0) 3 dX8_weights_2 rfl (by decide) ?_
  refine g_istore_n 4 dX8_weights_3 rfl (by decide) ?_
  exact lm_weights g l F J hn0 6 0 _ _ rfl rfl rfl

set_option maxRecDepth 100000 in
set_option maxHeartbeats 4000000 in
theorem lm_weighs (g : Gl) (l : Launch) (w : Int32) (F : Nat → Nat → Int32) (J : Nat → Int64) {n0 : Nat} (hn0 : n0 < 33) {XX : State → Method → Prop} (n : Nat) : ∀ (i : Nat) (ix x : Int32) (x5 : Option Value), i + n = 6 → ix = nI i → x = we (Wm F n0) w i → Gj g l (rmd 1 0 0) XX (QM g (fun r S2 => r = some (.int (we (Wm F n0) w 6)) ∧ S2 = St F J) 0 0) RX8 cX8_weighs 6 (some .int) 5 [some (.ref 167), some (.int (7 * nI n0)), some (.int w), some (.int x), some (.int ix), x5] [] (St F J) 0 0 := by
  induction n with
  | zero =>
    intro i ix x x5 hi hx he
    obtain rfl : i = 6 := by omega
    subst hx; subst he
    refine g_iload 7 dX8_weighs_5 rfl rfl ?_
    refine g_bipush (6) 9 dX8_weighs_7 rfl (by decide) ?_
    refine g_icmp_ge 69 12 dX8_weighs_9 rfl (by decide) (fun h9 => ?_) (fun h9 => ?_)
    · refine g_iload_n 70 dX8_weighs_69 rfl rfl ?_
      refine g_iret dX8_weighs_70 ?_
      exact ⟨rfl, rfl⟩
    · exact absurd (by decide) h9
  | succ n ih =>
    intro i ix x x5 hi hx he
    subst hx
    refine g_iload 7 dX8_weighs_5 rfl rfl ?_
    refine g_bipush (6) 9 dX8_weighs_7 rfl (by decide) ?_
    refine g_icmp_ge 69 12 dX8_weighs_9 rfl (by decide) (fun h9 => ?_) (fun h9 => ?_)
    · exact absurd h9 (lt6 (by omega))
    · refine g_aload_n 13 dX8_weighs_12 rfl rfl ?_
      refine gf_8_8 16 dX8_weighs_13 rfl kf_X8_13 ?_
      refine g_iload_n 17 dX8_weighs_16 rfl rfl ?_
      refine g_iload 19 dX8_weighs_17 rfl rfl ?_
      refine g_iadd 20 dX8_weighs_19 rfl ?_
      refine ga_ild (7 * n0 + i) 21 dX8_weighs_20 rfl (by first | decide | assumption | exact ⟨Nat.le_of_ble_eq_true rfl, rfl⟩) (ix7 n0 i) (show 7 * n0 + i < 231 by omega) ?_
      refine g_istore 23 dX8_weighs_21 rfl (by decide) ?_
      refine g_iload_n 24 dX8_weighs_23 rfl rfl ?_
      refine g_iload 26 dX8_weighs_24 rfl rfl ?_
      refine g_if_le 33 29 dX8_weighs_26 rfl (by decide) (fun h26 => ?_) (fun h26 => ?_)
      · refine g_iconst (0) 34 dX8_weighs_33 rfl (by decide) ?_
        refine g_iload_n 35 dX8_weighs_34 rfl rfl ?_
        refine g_iload 37 dX8_weighs_35 rfl rfl ?_
        refine g_ishr 38 dX8_weighs_37 rfl ?_
        refine g_iconst (1) 39 dX8_weighs_38 rfl (by decide) ?_
        refine g_iand 40 dX8_weighs_39 rfl ?_
        refine g_iconst (1) 41 dX8_weighs_40 rfl (by decide) ?_
        refine g_icmp_ne 48 44 dX8_weighs_41 rfl (by decide) (fun h41 => ?_) (fun h41 => ?_)
        · refine g_iconst (0) 49 dX8_weighs_48 rfl (by decide) ?_
          refine g_icmp_ne 60 52 dX8_weighs_49 rfl (by decide) (fun h49 => ?_) (fun h49 => ?_)
          · exact absurd h49 (by decide)
          · refine g_iload 54 dX8_weighs_52 rfl rfl ?_
            refine g_s1 57 dX8_weighs_54 rfl kl_X8_119 ms_X8_size ⟨Nat.le_of_ble_eq_true rfl, Nat.le_of_ble_eq_true rfl⟩ (Nat.le_of_ble_eq_true rfl) (m_size g l _ _) ?_
            rintro _ _ ⟨rfl, rfl⟩
            refine g_goto 61 dX8_weighs_57 (by decide) ?_
            refine g_iadd 62 dX8_weighs_61 rfl ?_
            refine g_istore_n 63 dX8_weighs_62 rfl (by decide) ?_
            refine g_iinc (1) 66 dX8_weighs_63 rfl (by decide) (by decide) rfl ?_
            refine g_goto 5 dX8_weighs_66 (by decide) ?_
            exact ih (i + 1) _ _ _ (by omega) (nI_succ i).symm (by rw [we, ← he, if_pos (show tw1 (Wm F n0 i) w i from Or.inr ⟨h26, h41⟩)]; rfl)
        · refine g_iconst (1) 45 dX8_weighs_44 rfl (by decide) ?_
          refine g_goto 49 dX8_weighs_45 (by decide) ?_
          refine g_icmp_ne 60 52 dX8_weighs_49 rfl (by decide) (fun h49 => ?_) (fun h49 => ?_)
          · refine g_iconst (0) 61 dX8_weighs_60 rfl (by decide) ?_
            refine g_iadd 62 dX8_weighs_61 rfl ?_
            refine g_istore_n 63 dX8_weighs_62 rfl (by decide) ?_
            refine g_iinc (1) 66 dX8_weighs_63 rfl (by decide) (by decide) rfl ?_
            refine g_goto 5 dX8_weighs_66 (by decide) ?_
            exact ih (i + 1) _ _ _ (by omega) (nI_succ i).symm (by rw [we, ← he, if_neg (show ¬ tw1 (Wm F n0 i) w i from fun z => z.elim (fun y => y.1 h26) (fun y => y.2 h41))])
          · exact absurd h49 (by decide)
      · refine g_iconst (1) 30 dX8_weighs_29 rfl (by decide) ?_
        refine g_goto 34 dX8_weighs_30 (by decide) ?_
        refine g_iload_n 35 dX8_weighs_34 rfl rfl ?_
        refine g_iload 37 dX8_weighs_35 rfl rfl ?_
        refine g_ishr 38 dX8_weighs_37 rfl ?_
        refine g_iconst (1) 39 dX8_weighs_38 rfl (by decide) ?_
        refine g_iand 40 dX8_weighs_39 rfl ?_
        refine g_iconst (1) 41 dX8_weighs_40 rfl (by decide) ?_
        refine g_icmp_ne 48 44 dX8_weighs_41 rfl (by decide) (fun h41 => ?_) (fun h41 => ?_)
        · refine g_iconst (0) 49 dX8_weighs_48 rfl (by decide) ?_
          refine g_icmp_ne 60 52 dX8_weighs_49 rfl (by decide) (fun h49 => ?_) (fun h49 => ?_)
          · refine g_iconst (0) 61 dX8_weighs_60 rfl (by decide) ?_
            refine g_iadd 62 dX8_weighs_61 rfl ?_
            refine g_istore_n 63 dX8_weighs_62 rfl (by decide) ?_
            refine g_iinc (1) 66 dX8_weighs_63 rfl (by decide) (by decide) rfl ?_
            refine g_goto 5 dX8_weighs_66 (by decide) ?_
            exact ih (i + 1) _ _ _ (by omega) (nI_succ i).symm (by rw [we, ← he, if_neg (show ¬ tw1 (Wm F n0 i) w i from fun z => z.elim (fun y => h41 y.2) (fun y => h26 y.1))])
          · exact absurd h49 (by decide)
        · refine g_iconst (1) 45 dX8_weighs_44 rfl (by decide) ?_
          refine g_goto 49 dX8_weighs_45 (by decide) ?_
          refine g_icmp_ne 60 52 dX8_weighs_49 rfl (by decide) (fun h49 => ?_) (fun h49 => ?_)
          · exact absurd h49 (by decide)
          · refine g_iload 54 dX8_weighs_52 rfl rfl ?_
            refine g_s1 57 dX8_weighs_54 rfl kl_X8_119 ms_X8_size ⟨Nat.le_of_ble_eq_true rfl, Nat.le_of_ble_eq_true rfl⟩ (Nat.le_of_ble_eq_true rfl) (m_size g l _ _) ?_
            rintro _ _ ⟨rfl, rfl⟩
            refine g_goto 61 dX8_weighs_57 (by decide) ?_
            refine g_iadd 62 dX8_weighs_61 rfl ?_
            refine g_istore_n 63 dX8_weighs_62 rfl (by decide) ?_
            refine g_iinc (1) 66 dX8_weighs_63 rfl (by decide) (by decide) rfl ?_
            refine g_goto 5 dX8_weighs_66 (by decide) ?_
            exact ih (i + 1) _ _ _ (by omega) (nI_succ i).symm (by rw [we, ← he, if_pos (show tw1 (Wm F n0 i) w i from Or.inl ⟨h26, h41⟩)]; rfl)

set_option maxRecDepth 100000 in
set_option maxHeartbeats 4000000 in
theorem m_weighs (g : Gl) (l : Launch) (w : Int32) (F : Nat → Nat → Int32) (J : Nat → Int64) {n0 : Nat} (hn0 : n0 < 33) : Ct g l yX8_weighs cX8_weighs 6 (some .int) 1 0 0 [.ref 167, .int (7 * nI n0), .int w] (St F J) (fun r S2 => r = some (.int (we (Wm F n0) w 6)) ∧ S2 = St F J) := by
  refine Ct.of rfl (by decide) rfl (Nat.le_of_ble_eq_true rfl) ?_
  refine g_iconst (0) 1 dX8_weighs_0 rfl (by decide) ?_
  refine g_istore_n 2 dX8_weighs_1 rfl (by decide) ?_
  refine g_iconst (0) 3 dX8_weighs_2 rfl (by decide) ?_
  refine g_istore 5 dX8_weighs_3 rfl (by decide) ?_
  exact lm_weighs g l w F J hn0 6 0 _ _ _ rfl rfl rfl

set_option maxRecDepth 100000 in
set_option maxHeartbeats 4000000 in
theorem m_isHeld (g : Gl) (l : Launch) (F : Nat → Nat → Int32) (J : Nat → Int64) {n0 : Nat} (hn0 : n0 < 33) {w : Nat} (hw : w < 64) : Ct g l yX8_isHeld cX8_isHeld 3 (some .boolean) 2 0 0 [.ref 167, .int (nI n0), .int (nI w)] (St F J) (fun r S2 => r = some (.int (if mw (Wm F n0) (nI w) (nI w ^^^ -1) 6 < Dm F n0 then 0 else 1)) ∧ S2 = St F J) := by
  refine Ct.of rfl (by decide) rfl (Nat.le_of_ble_eq_true rfl) ?_
  refine g_aload_n 1 dX8_isHeld_0 rfl rfl ?_
  refine g_bipush (7) 3 dX8_isHeld_1 rfl (by decide) ?_
  refine g_iload_n 4 dX8_isHeld_3 rfl rfl ?_
  refine g_imul 5 dX8_isHeld_4 rfl ?_
  refine g_iload_n 6 dX8_isHeld_5 rfl rfl ?_
  refine g_v2 8 9 dX8_isHeld_6 rfl kl_X8_146 mv_X8_weighs rfl ⟨Nat.le_of_ble_eq_true rfl, Nat.le_of_ble_eq_true rfl⟩ (Nat.le_of_ble_eq_true rfl) (by first | decide | assumption | exact ⟨Nat.le_of_ble_eq_true rfl, rfl⟩) (m_weighs g l _ F J hn0) ?_
  rintro _ _ ⟨rfl, rfl⟩
  refine g_aload_n 10 dX8_isHeld_9 rfl rfl ?_
  refine gf_8_8 13 dX8_isHeld_10 rfl kf_X8_13 ?_
  refine g_bipush (7) 15 dX8_isHeld_13 rfl (by decide) ?_
  refine g_iload_n 16 dX8_isHeld_15 rfl rfl ?_
  refine g_imul 17 dX8_isHeld_16 rfl ?_
  refine g_bipush (6) 19 dX8_isHeld_17 rfl (by decide) ?_
  refine g_iadd 20 dX8_isHeld_19 rfl ?_
  refine ga_ild (7 * n0 + 6) 21 dX8_isHeld_20 rfl (by first | decide | assumption | exact ⟨Nat.le_of_ble_eq_true rfl, rfl⟩) (ix76 n0) (show 7 * n0 + 6 < 231 by omega) ?_
  rw [we_mw (Wm F n0) hw 6 (Nat.le_refl _)]
  refine g_icmp_lt 28 24 dX8_isHeld_21 rfl (by decide) (fun h21 => ?_) (fun h21 => ?_)
  · refine g_iconst (0) 29 dX8_isHeld_28 rfl (by decide) ?_
    refine g_zret dX8_isHeld_29 (by decide) ?_
    exact ⟨iv_pos h21, rfl⟩
  · refine g_iconst (1) 25 dX8_isHeld_24 rfl (by decide) ?_
    refine g_goto 29 dX8_isHeld_25 (by decide) ?_
    refine g_zret dX8_isHeld_29 (by decide) ?_
    exact ⟨iv_neg h21, rfl⟩

set_option maxRecDepth 100000 in
set_option maxHeartbeats 4000000 in
theorem lm_held (g : Gl) (l : Launch) (F : Nat → Nat → Int32) (J : Nat → Int64) {n0 : Nat} (hn0 : n0 < 33) {XX : State → Method → Prop} (n : Nat) : ∀ (i : Nat) (ix : Int32) (x : Int64), i + n = 64 → ix = nI i → x = wh (Wm F n0) (Dm F n0) i → Gj g l (rmd 3 0 0) XX (QM g (fun r S2 => r = some (.long (wh (Wm F n0) (Dm F n0) 64)) ∧ S2 = St F J) 0 0) RX8 cX8_held 5 (some .long) 5 [some (.ref 167), some (.int (nI n0)), some (.long x), none, some (.int ix)] [] (St F J) 0 0 := by
  induction n with
  | zero =>
    intro i ix x hi hx he
    obtain rfl : i = 64 := by omega
    subst hx; subst he
    refine g_iload 7 dX8_held_5 rfl rfl ?_
    refine g_bipush (64) 9 dX8_held_7 rfl (by decide) ?_
    refine g_icmp_ge 39 12 dX8_held_9 rfl (by decide) (fun h9 => ?_) (fun h9 => ?_)
    · refine g_lload_n 40 dX8_held_39 rfl rfl ?_
      refine g_lret dX8_held_40 ?_
      exact ⟨rfl, rfl⟩
    · exact absurd (by decide) h9
  | succ n ih =>
    intro i ix x hi hx he
    subst hx
    refine g_iload 7 dX8_held_5 rfl rfl ?_
    refine g_bipush (64) 9 dX8_held_7 rfl (by decide) ?_
    refine g_icmp_ge 39 12 dX8_held_9 rfl (by decide) (fun h9 => ?_) (fun h9 => ?_)
    · exact absurd h9 (lt64 (by omega))
    · refine g_lload_n 13 dX8_held_12 rfl rfl ?_
      refine g_aload_n 14 dX8_held_13 rfl rfl ?_
      refine g_iload_n 15 dX8_held_14 rfl rfl ?_
      refine g_iload 17 dX8_held_15 rfl rfl ?_
      refine g_v2 8 20 dX8_held_17 rfl kl_X8_149 mv_X8_isHeld rfl ⟨Nat.le_of_ble_eq_true rfl, Nat.le_of_ble_eq_true rfl⟩ (Nat.le_of_ble_eq_true rfl) (by first | decide | assumption | exact ⟨Nat.le_of_ble_eq_true rfl, rfl⟩) (m_isHeld g l F J hn0 (w := i) (by omega)) ?_
      rintro _ _ ⟨rfl, rfl⟩
      refine g_if_eq 30 23 dX8_held_20 rfl (by decide) (fun h20 => ?_) (fun h20 => ?_)
      · refine g_lconst (0) 31 dX8_held_30 rfl (by decide) ?_
        refine g_lor 32 dX8_held_31 rfl ?_
        refine g_lstore_n 33 dX8_held_32 rfl (by decide) ?_
        refine g_iinc (1) 36 dX8_held_33 rfl (by decide) (by decide) rfl ?_
        refine g_goto 5 dX8_held_36 (by decide) ?_
        exact ih (i + 1) _ _ (by omega) (nI_succ i).symm (by rw [wh, ← he, if_pos (b01.mp h20), Int64.or_zero])
      · refine g_lconst (1) 24 dX8_held_23 rfl (by decide) ?_
        refine g_iload 26 dX8_held_24 rfl rfl ?_
        refine g_lshl 27 dX8_held_26 rfl ?_
        refine g_goto 31 dX8_held_27 (by decide) ?_
        refine g_lor 32 dX8_held_31 rfl ?_
        refine g_lstore_n 33 dX8_held_32 rfl (by decide) ?_
        refine g_iinc (1) 36 dX8_held_33 rfl (by decide) (by decide) rfl ?_
        refine g_goto 5 dX8_held_36 (by decide) ?_
        exact ih (i + 1) _ _ (by omega) (nI_succ i).symm (by rw [wh, ← he, if_neg (fun z => h20 (b01.mpr z))])

set_option maxRecDepth 100000 in
set_option maxHeartbeats 4000000 in
theorem m_held (g : Gl) (l : Launch) (F : Nat → Nat → Int32) (J : Nat → Int64) {n0 : Nat} (hn0 : n0 < 33) : Ct g l yX8_held cX8_held 5 (some .long) 3 0 0 [.ref 167, .int (nI n0)] (St F J) (fun r S2 => r = some (.long (wh (Wm F n0) (Dm F n0) 64)) ∧ S2 = St F J) := by
  refine Ct.of rfl (by decide) rfl (Nat.le_of_ble_eq_true rfl) ?_
  refine g_lconst (0) 1 dX8_held_0 rfl (by decide) ?_
  refine g_lstore_n 2 dX8_held_1 rfl (by decide) ?_
  refine g_iconst (0) 3 dX8_held_2 rfl (by decide) ?_
  refine g_istore 5 dX8_held_3 rfl (by decide) ?_
  exact lm_held g l F J hn0 64 0 _ _ rfl rfl rfl

set_option maxRecDepth 100000 in
set_option maxHeartbeats 4000000 in
theorem m_isLine (g : Gl) (l : Launch) (i : Int32) (F : Nat → Nat → Int32) (J : Nat → Int64) {G P : Nat} (hS : mS F G P) : Ct g l yX8_isLine cX8_isLine 2 (some .boolean) 1 0 0 [.ref 167, .int i] (St F J) (fun r S2 => r = some (.int (if isLn (G + P) i then 1 else 0)) ∧ S2 = St F J) := by
  obtain ⟨hG, hP, hT, hG8, hP24⟩ := hS
  refine Ct.of rfl (by decide) rfl (Nat.le_of_ble_eq_true rfl) ?_
  refine g_iload_n 1 dX8_isLine_0 rfl rfl ?_
  refine g_iconst (0) 2 dX8_isLine_1 rfl (by decide) ?_
  refine g_aload_n 3 dX8_isLine_2 rfl rfl ?_
  refine gf_8_9 6 dX8_isLine_3 rfl kf_X8_106 (by first | decide | assumption | exact ⟨Nat.le_of_ble_eq_true rfl, rfl⟩) ?_
  refine g_aload_n 7 dX8_isLine_6 rfl rfl ?_
  refine gf_8_10 10 dX8_isLine_7 rfl kf_X8_109 (by first | decide | assumption | exact ⟨Nat.le_of_ble_eq_true rfl, rfl⟩) ?_
  refine g_iadd 11 dX8_isLine_10 rfl ?_
  refine gst_at (show F 167 9 + F 167 10 = nI (G + P) by rw [hG, hP, nI_add]) ?_
  refine g_iconst (1) 12 dX8_isLine_11 rfl (by decide) ?_
  refine g_isub 13 dX8_isLine_12 rfl ?_
  refine g_s3 16 dX8_isLine_13 rfl kl_X8_38 ms_X8_in ⟨Nat.le_of_ble_eq_true rfl, Nat.le_of_ble_eq_true rfl⟩ (Nat.le_of_ble_eq_true rfl) (m_in g l _ _ _ _) ?_
  rintro _ _ ⟨rfl, rfl⟩
  refine g_zret dX8_isLine_16 (by split <;> decide) ?_
  exact ⟨by
      by_cases h : isLn (G + P) i
      · rw [if_pos h, if_pos ((lnI (by omega) i).mpr h)]
      · rw [if_neg h, if_neg (fun z => h ((lnI (by omega) i).mp z))], rfl⟩

set_option maxRecDepth 100000 in
set_option maxHeartbeats 4000000 in
theorem m_line (g : Gl) (l : Launch) (i a : Int32) (F : Nat → Nat → Int32) (J : Nat → Int64) {G P : Nat} (hS : mS F G P) : Ct g l yX8_line cX8_line 3 (some .int) 2 0 0 [.ref 167, .int i, .int a] (St F J) (fun r S2 => r = some (.int (lineA (G + P) (Wm F) (Dm F) i a)) ∧ S2 = St F J) := by
  obtain ⟨hG, hP, hT, hG8, hP24⟩ := hS
  refine Ct.of rfl (by decide) rfl (Nat.le_of_ble_eq_true rfl) ?_
  refine g_aload_n 1 dX8_line_0 rfl rfl ?_
  refine g_iconst (0) 2 dX8_line_1 rfl (by decide) ?_
  refine gp_8_0 5 dX8_line_2 rfl kf_X8_35 (by first | decide | assumption | exact ⟨Nat.le_of_ble_eq_true rfl, rfl⟩) ?_
  refine gs_at (congrArg (fun x => St x J) (thr hT)) ?_
  refine g_aload_n 6 dX8_line_5 rfl rfl ?_
  refine g_iload_n 7 dX8_line_6 rfl rfl ?_
  refine g_v1 8 10 dX8_line_7 rfl kl_X8_142 mv_X8_isLine rfl ⟨Nat.le_of_ble_eq_true rfl, Nat.le_of_ble_eq_true rfl⟩ (Nat.le_of_ble_eq_true rfl) (by first | decide | assumption | exact ⟨Nat.le_of_ble_eq_true rfl, rfl⟩) (m_isLine g l _ F J ⟨hG, hP, hT, hG8, hP24⟩) ?_
  rintro _ _ ⟨rfl, rfl⟩
  refine g_if_eq 37 13 dX8_line_10 rfl (by decide) (fun h10 => ?_) (fun h10 => ?_)
  · refine g_ldc 39 dX8_line_37 rfl kc_X8_145 ?_
    refine g_iret dX8_line_39 ?_
    exact ⟨by rw [lineA, if_neg (fun z => b10.mp h10 z.1)], rfl⟩
  · obtain ⟨n, hn, en, cn⟩ := isLn_n (b10n h10) (by omega)
    subst en
    refine g_iload_n 14 dX8_line_13 rfl rfl ?_
    refine g_iconst (0) 15 dX8_line_14 rfl (by decide) ?_
    refine g_bipush (6) 17 dX8_line_15 rfl (by decide) ?_
    refine g_s3 20 dX8_line_17 rfl kl_X8_38 ms_X8_in ⟨Nat.le_of_ble_eq_true rfl, Nat.le_of_ble_eq_true rfl⟩ (Nat.le_of_ble_eq_true rfl) (m_in g l _ _ _ _) ?_
    rintro _ _ ⟨rfl, rfl⟩
    refine g_if_eq 37 23 dX8_line_20 rfl (by decide) (fun h20 => ?_) (fun h20 => ?_)
    · refine g_ldc 39 dX8_line_37 rfl kc_X8_145 ?_
      refine g_iret dX8_line_39 ?_
      exact ⟨by rw [lineA, if_neg (fun z => b10.mp h20 ⟨z.2.1, Int32.not_lt.mpr z.2.2⟩)], rfl⟩
    · have ha := b10n h20
      obtain ⟨b, hb, eb⟩ := nI_of2 (M := 6) (n := 6) rfl ha.1 (Int32.not_lt.mp ha.2)
      subst eb
      refine g_aload_n 24 dX8_line_23 rfl rfl ?_
      refine gf_8_8 27 dX8_line_24 rfl kf_X8_13 ?_
      refine g_bipush (7) 29 dX8_line_27 rfl (by decide) ?_
      refine g_iload_n 30 dX8_line_29 rfl rfl ?_
      refine g_imul 31 dX8_line_30 rfl ?_
      refine g_iload_n 32 dX8_line_31 rfl rfl ?_
      refine g_iadd 33 dX8_line_32 rfl ?_
      refine ga_ild (7 * n + b) 34 dX8_line_33 rfl (by first | decide | assumption | exact ⟨Nat.le_of_ble_eq_true rfl, rfl⟩) (ix7 n b) (show 7 * n + b < 231 by omega) ?_
      refine g_goto 39 dX8_line_34 (by decide) ?_
      refine g_iret dX8_line_39 ?_
      exact ⟨by rw [lineA, if_pos ⟨b10n h10, ha.1, Int32.not_lt.mp ha.2⟩, cn, nI_clamp (n := b) (by omega)]; exact lnA F n b hb, rfl⟩

set_option maxRecDepth 100000 in
set_option maxHeartbeats 4000000 in
theorem m_holds (g : Gl) (l : Launch) (i : Int32) (F : Nat → Nat → Int32) (J : Nat → Int64) {G P : Nat} (hS : mS F G P) : Ct g l yX8_holds cX8_holds 2 (some .long) 4 0 0 [.ref 167, .int i] (St F J) (fun r S2 => r = some (.long (holdsA (G + P) (Wm F) (Dm F) i)) ∧ S2 = St F J) := by
  obtain ⟨hG, hP, hT, hG8, hP24⟩ := hS
  refine Ct.of rfl (by decide) rfl (Nat.le_of_ble_eq_true rfl) ?_
  refine g_aload_n 1 dX8_holds_0 rfl rfl ?_
  refine g_iconst (0) 2 dX8_holds_1 rfl (by decide) ?_
  refine gp_8_0 5 dX8_holds_2 rfl kf_X8_35 (by first | decide | assumption | exact ⟨Nat.le_of_ble_eq_true rfl, rfl⟩) ?_
  refine gs_at (congrArg (fun x => St x J) (thr hT)) ?_
  refine g_aload_n 6 dX8_holds_5 rfl rfl ?_
  refine g_iload_n 7 dX8_holds_6 rfl rfl ?_
  refine g_v1 8 10 dX8_holds_7 rfl kl_X8_142 mv_X8_isLine rfl ⟨Nat.le_of_ble_eq_true rfl, Nat.le_of_ble_eq_true rfl⟩ (Nat.le_of_ble_eq_true rfl) (by first | decide | assumption | exact ⟨Nat.le_of_ble_eq_true rfl, rfl⟩) (m_isLine g l _ F J ⟨hG, hP, hT, hG8, hP24⟩) ?_
  rintro _ _ ⟨rfl, rfl⟩
  refine g_if_eq 21 13 dX8_holds_10 rfl (by decide) (fun h10 => ?_) (fun h10 => ?_)
  · refine g_lconst (0) 22 dX8_holds_21 rfl (by decide) ?_
    refine g_lret dX8_holds_22 ?_
    exact ⟨by rw [holdsA, if_neg (b10.mp h10)], rfl⟩
  · obtain ⟨n, hn, en, cn⟩ := isLn_n (b10n h10) (by omega)
    subst en
    refine g_aload_n 14 dX8_holds_13 rfl rfl ?_
    refine g_iload_n 15 dX8_holds_14 rfl rfl ?_
    refine g_v1 8 18 dX8_holds_15 rfl kl_X8_153 mv_X8_held rfl ⟨Nat.le_of_ble_eq_true rfl, Nat.le_of_ble_eq_true rfl⟩ (Nat.le_of_ble_eq_true rfl) (by first | decide | assumption | exact ⟨Nat.le_of_ble_eq_true rfl, rfl⟩) (m_held g l F J (n0 := n) (by omega)) ?_
    rintro _ _ ⟨rfl, rfl⟩
    refine g_goto 22 dX8_holds_18 (by decide) ?_
    refine g_lret dX8_holds_22 ?_
    exact ⟨by rw [holdsA, if_pos (b10n h10), cn], rfl⟩

set_option maxRecDepth 100000 in
set_option maxHeartbeats 4000000 in
theorem m_isBroken (g : Gl) (l : Launch) (F : Nat → Nat → Int32) (J : Nat → Int64) {n0 : Nat} (hn0 : n0 < 33) : Ct g l yX8_isBroken cX8_isBroken 2 (some .boolean) 2 0 0 [.ref 167, .int (nI n0)] (St F J) (fun r S2 => r = some (.int (if okB (Wm F) (Dm F) n0 then 0 else 1)) ∧ S2 = St F J) := by
  refine Ct.of rfl (by decide) rfl (Nat.le_of_ble_eq_true rfl) ?_
  refine g_aload_n 1 dX8_isBroken_0 rfl rfl ?_
  refine g_bipush (7) 3 dX8_isBroken_1 rfl (by decide) ?_
  refine g_iload_n 4 dX8_isBroken_3 rfl rfl ?_
  refine g_imul 5 dX8_isBroken_4 rfl ?_
  refine g_v1 8 8 dX8_isBroken_5 rfl kl_X8_123 mv_X8_weights rfl ⟨Nat.le_of_ble_eq_true rfl, Nat.le_of_ble_eq_true rfl⟩ (Nat.le_of_ble_eq_true rfl) (by first | decide | assumption | exact ⟨Nat.le_of_ble_eq_true rfl, rfl⟩) (m_weights g l F J hn0) ?_
  rintro _ _ ⟨rfl, rfl⟩
  refine g_aload_n 9 dX8_isBroken_8 rfl rfl ?_
  refine gf_8_8 12 dX8_isBroken_9 rfl kf_X8_13 ?_
  refine g_bipush (7) 14 dX8_isBroken_12 rfl (by decide) ?_
  refine g_iload_n 15 dX8_isBroken_14 rfl rfl ?_
  refine g_imul 16 dX8_isBroken_15 rfl ?_
  refine g_bipush (6) 18 dX8_isBroken_16 rfl (by decide) ?_
  refine g_iadd 19 dX8_isBroken_18 rfl ?_
  refine ga_ild (7 * n0 + 6) 20 dX8_isBroken_19 rfl (by first | decide | assumption | exact ⟨Nat.le_of_ble_eq_true rfl, rfl⟩) (ix76 n0) (show 7 * n0 + 6 < 231 by omega) ?_
  rw [sm_mw (Wm F n0) 6]
  refine g_icmp_ge 27 23 dX8_isBroken_20 rfl (by decide) (fun h20 => ?_) (fun h20 => ?_)
  · refine g_iconst (0) 28 dX8_isBroken_27 rfl (by decide) ?_
    refine g_zret dX8_isBroken_28 (by decide) ?_
    exact ⟨iv_pos h20, rfl⟩
  · refine g_iconst (1) 24 dX8_isBroken_23 rfl (by decide) ?_
    refine g_goto 28 dX8_isBroken_24 (by decide) ?_
    refine g_zret dX8_isBroken_28 (by decide) ?_
    exact ⟨iv_neg h20, rfl⟩

set_option maxRecDepth 100000 in
set_option maxHeartbeats 4000000 in
theorem m_broken (g : Gl) (l : Launch) (i : Int32) (F : Nat → Nat → Int32) (J : Nat → Int64) {G P : Nat} (hS : mS F G P) : Ct g l yX8_broken cX8_broken 2 (some .int) 3 0 0 [.ref 167, .int i] (St F J) (fun r S2 => r = some (.int (brokenA (G + P) (Wm F) (Dm F) i)) ∧ S2 = St F J) := by
  obtain ⟨hG, hP, hT, hG8, hP24⟩ := hS
  refine Ct.of rfl (by decide) rfl (Nat.le_of_ble_eq_true rfl) ?_
  refine g_aload_n 1 dX8_broken_0 rfl rfl ?_
  refine g_iconst (0) 2 dX8_broken_1 rfl (by decide) ?_
  refine gp_8_0 5 dX8_broken_2 rfl kf_X8_35 (by first | decide | assumption | exact ⟨Nat.le_of_ble_eq_true rfl, rfl⟩) ?_
  refine gs_at (congrArg (fun x => St x J) (thr hT)) ?_
  refine g_aload_n 6 dX8_broken_5 rfl rfl ?_
  refine g_iload_n 7 dX8_broken_6 rfl rfl ?_
  refine g_v1 8 10 dX8_broken_7 rfl kl_X8_142 mv_X8_isLine rfl ⟨Nat.le_of_ble_eq_true rfl, Nat.le_of_ble_eq_true rfl⟩ (Nat.le_of_ble_eq_true rfl) (by first | decide | assumption | exact ⟨Nat.le_of_ble_eq_true rfl, rfl⟩) (m_isLine g l _ F J ⟨hG, hP, hT, hG8, hP24⟩) ?_
  rintro _ _ ⟨rfl, rfl⟩
  refine g_if_ne 17 13 dX8_broken_10 rfl (by decide) (fun h10 => ?_) (fun h10 => ?_)
  · obtain ⟨n, hn, en, cn⟩ := isLn_n (b10n h10) (by omega)
    subst en
    refine g_aload_n 18 dX8_broken_17 rfl rfl ?_
    refine g_iload_n 19 dX8_broken_18 rfl rfl ?_
    refine g_v1 8 22 dX8_broken_19 rfl kl_X8_157 mv_X8_isBroken rfl ⟨Nat.le_of_ble_eq_true rfl, Nat.le_of_ble_eq_true rfl⟩ (Nat.le_of_ble_eq_true rfl) (by first | decide | assumption | exact ⟨Nat.le_of_ble_eq_true rfl, rfl⟩) (m_isBroken g l F J (n0 := n) (by omega)) ?_
    rintro _ _ ⟨rfl, rfl⟩
    refine g_if_eq 29 25 dX8_broken_22 rfl (by decide) (fun h22 => ?_) (fun h22 => ?_)
    · refine g_iconst (0) 30 dX8_broken_29 rfl (by decide) ?_
      refine g_iret dX8_broken_30 ?_
      exact ⟨by rw [brokenA, if_pos (b10n h10), cn, if_pos (b01.mp h22)], rfl⟩
    · refine g_iconst (1) 26 dX8_broken_25 rfl (by decide) ?_
      refine g_goto 30 dX8_broken_26 (by decide) ?_
      refine g_iret dX8_broken_30 ?_
      exact ⟨by rw [brokenA, if_pos (b10n h10), cn, if_neg (fun z => h22 (b01.mpr z))], rfl⟩
  · refine g_iconst (-1) 14 dX8_broken_13 rfl (by decide) ?_
    refine g_goto 30 dX8_broken_14 (by decide) ?_
    refine g_iret dX8_broken_30 ?_
    exact ⟨by rw [brokenA, if_neg (b10.mp h10)], rfl⟩

set_option maxRecDepth 100000 in
set_option maxHeartbeats 4000000 in
theorem lm_end (g : Gl) (l : Launch) (F : Nat → Nat → Int32) (J : Nat → Int64) {G P : Nat} (hS : mS F G P) {XX : State → Method → Prop} (n : Nat) : ∀ (i : Nat) (ix : Int32), i + n = G + P → ix = nI i → endR (Wm F) (Dm F) (G + P) 0 = endR (Wm F) (Dm F) n i → Gj g l (rmd 3 0 0) XX (QM g (fun r S2 => r = some (.int (endR (Wm F) (Dm F) (G + P) 0)) ∧ S2 = St F J) 0 0) RX8 cX8_end 2 (some .int) 7 [some (.ref 167), some (.int ix)] [] (St F J) 0 0 := by
  obtain ⟨hG, hP, hT, hG8, hP24⟩ := hS
  induction n with
  | zero =>
    intro i ix hi hx he
    obtain rfl : i = G + P := by omega
    subst hx
    refine g_iload_n 8 dX8_end_7 rfl rfl ?_
    refine g_aload_n 9 dX8_end_8 rfl rfl ?_
    refine gf_8_9 12 dX8_end_9 rfl kf_X8_106 (by first | decide | assumption | exact ⟨Nat.le_of_ble_eq_true rfl, rfl⟩) ?_
    refine g_aload_n 13 dX8_end_12 rfl rfl ?_
    refine gf_8_10 16 dX8_end_13 rfl kf_X8_109 (by first | decide | assumption | exact ⟨Nat.le_of_ble_eq_true rfl, rfl⟩) ?_
    refine g_iadd 17 dX8_end_16 rfl ?_
    refine gst_at (show F 167 9 + F 167 10 = nI (G + P) by rw [hG, hP, nI_add]) ?_
    refine g_icmp_ge 36 20 dX8_end_17 rfl (by decide) (fun h17 => ?_) (fun h17 => ?_)
    · refine g_bipush (-9) 38 dX8_end_36 rfl (by decide) ?_
      refine g_iret dX8_end_38 ?_
      exact ⟨by rw [he]; rfl, rfl⟩
    · exact absurd (nI_le (Nat.le_refl _) (by omega)) h17
  | succ n ih =>
    intro i ix hi hx he
    subst hx
    refine g_iload_n 8 dX8_end_7 rfl rfl ?_
    refine g_aload_n 9 dX8_end_8 rfl rfl ?_
    refine gf_8_9 12 dX8_end_9 rfl kf_X8_106 (by first | decide | assumption | exact ⟨Nat.le_of_ble_eq_true rfl, rfl⟩) ?_
    refine g_aload_n 13 dX8_end_12 rfl rfl ?_
    refine gf_8_10 16 dX8_end_13 rfl kf_X8_109 (by first | decide | assumption | exact ⟨Nat.le_of_ble_eq_true rfl, rfl⟩) ?_
    refine g_iadd 17 dX8_end_16 rfl ?_
    refine gst_at (show F 167 9 + F 167 10 = nI (G + P) by rw [hG, hP, nI_add]) ?_
    refine g_icmp_ge 36 20 dX8_end_17 rfl (by decide) (fun h17 => ?_) (fun h17 => ?_)
    · exact absurd h17 (nI_ge (by omega) (by omega))
    · refine g_aload_n 21 dX8_end_20 rfl rfl ?_
      refine g_iload_n 22 dX8_end_21 rfl rfl ?_
      refine g_v1 8 25 dX8_end_22 rfl kl_X8_157 mv_X8_isBroken rfl ⟨Nat.le_of_ble_eq_true rfl, Nat.le_of_ble_eq_true rfl⟩ (Nat.le_of_ble_eq_true rfl) (by first | decide | assumption | exact ⟨Nat.le_of_ble_eq_true rfl, rfl⟩) (m_isBroken g l F J (n0 := i) (by omega)) ?_
      rintro _ _ ⟨rfl, rfl⟩
      refine g_if_eq 30 28 dX8_end_25 rfl (by decide) (fun h25 => ?_) (fun h25 => ?_)
      · refine g_iinc (1) 33 dX8_end_30 rfl (by decide) (by decide) rfl ?_
        refine g_goto 7 dX8_end_33 (by decide) ?_
        exact ih (i + 1) _ (by omega) (nI_succ i).symm (by rw [he, endR, if_pos (b01.mp h25)])
      · refine g_iload_n 29 dX8_end_28 rfl rfl ?_
        refine g_iret dX8_end_29 ?_
        exact ⟨by rw [he, endR, if_neg (fun z => h25 (b01.mpr z))], rfl⟩

set_option maxRecDepth 100000 in
set_option maxHeartbeats 4000000 in
theorem m_end (g : Gl) (l : Launch) (F : Nat → Nat → Int32) (J : Nat → Int64) {G P : Nat} (hS : mS F G P) : Ct g l yX8_end cX8_end 2 (some .int) 3 0 0 [.ref 167] (St F J) (fun r S2 => r = some (.int (endR (Wm F) (Dm F) (G + P) 0)) ∧ S2 = St F J) := by
  obtain ⟨hG, hP, hT, hG8, hP24⟩ := hS
  refine Ct.of rfl (by decide) rfl (Nat.le_of_ble_eq_true rfl) ?_
  refine g_aload_n 1 dX8_end_0 rfl rfl ?_
  refine g_iconst (0) 2 dX8_end_1 rfl (by decide) ?_
  refine gp_8_0 5 dX8_end_2 rfl kf_X8_35 (by first | decide | assumption | exact ⟨Nat.le_of_ble_eq_true rfl, rfl⟩) ?_
  refine gs_at (congrArg (fun x => St x J) (thr hT)) ?_
  refine g_iconst (0) 6 dX8_end_5 rfl (by decide) ?_
  refine g_istore_n 7 dX8_end_6 rfl (by decide) ?_
  exact lm_end g l F J ⟨hG, hP, hT, hG8, hP24⟩ (G + P) 0 _ (Nat.zero_add _) rfl rfl

set_option maxRecDepth 100000 in
set_option maxHeartbeats 4000000 in
theorem m_both (g : Gl) (l : Launch) (i j what : Int32) (F : Nat → Nat → Int32) (J : Nat → Int64) {G P : Nat} (hS : mS F G P) : Ct g l yX8_both cX8_both 8 (some .int) 4 0 0 [.ref 167, .int i, .int j, .int what] (St F J) (fun r S2 => r = some (.int (bothA (G + P) (Wm F) (Dm F) i j what)) ∧ S2 = St F J) := by
  obtain ⟨hG, hP, hT, hG8, hP24⟩ := hS
  refine Ct.of rfl (by decide) rfl (Nat.le_of_ble_eq_true rfl) ?_
  refine g_aload_n 1 dX8_both_0 rfl rfl ?_
  refine g_iconst (0) 2 dX8_both_1 rfl (by decide) ?_
  refine gp_8_0 5 dX8_both_2 rfl kf_X8_35 (by first | decide | assumption | exact ⟨Nat.le_of_ble_eq_true rfl, rfl⟩) ?_
  refine gs_at (congrArg (fun x => St x J) (thr hT)) ?_
  refine g_aload_n 6 dX8_both_5 rfl rfl ?_
  refine g_iload_n 7 dX8_both_6 rfl rfl ?_
  refine g_v1 8 10 dX8_both_7 rfl kl_X8_142 mv_X8_isLine rfl ⟨Nat.le_of_ble_eq_true rfl, Nat.le_of_ble_eq_true rfl⟩ (Nat.le_of_ble_eq_true rfl) (by first | decide | assumption | exact ⟨Nat.le_of_ble_eq_true rfl, rfl⟩) (m_isLine g l _ F J ⟨hG, hP, hT, hG8, hP24⟩) ?_
  rintro _ _ ⟨rfl, rfl⟩
  refine g_if_eq 30 13 dX8_both_10 rfl (by decide) (fun h10 => ?_) (fun h10 => ?_)
  · refine g_iconst (-1) 31 dX8_both_30 rfl (by decide) ?_
    refine g_iret dX8_both_31 ?_
    exact ⟨by rw [bothA, if_neg (fun z => b10.mp h10 z.1)], rfl⟩
  · obtain ⟨n, hn, en, cn⟩ := isLn_n (b10n h10) (by omega)
    subst en
    refine g_aload_n 14 dX8_both_13 rfl rfl ?_
    refine g_iload_n 15 dX8_both_14 rfl rfl ?_
    refine g_v1 8 18 dX8_both_15 rfl kl_X8_142 mv_X8_isLine rfl ⟨Nat.le_of_ble_eq_true rfl, Nat.le_of_ble_eq_true rfl⟩ (Nat.le_of_ble_eq_true rfl) (by first | decide | assumption | exact ⟨Nat.le_of_ble_eq_true rfl, rfl⟩) (m_isLine g l _ F J ⟨hG, hP, hT, hG8, hP24⟩) ?_
    rintro _ _ ⟨rfl, rfl⟩
    refine g_if_eq 30 21 dX8_both_18 rfl (by decide) (fun h18 => ?_) (fun h18 => ?_)
    · refine g_iconst (-1) 31 dX8_both_30 rfl (by decide) ?_
      refine g_iret dX8_both_31 ?_
      exact ⟨by rw [bothA, if_neg (fun z => b10.mp h18 z.2.1)], rfl⟩
    · obtain ⟨m, hm, em, cm⟩ := isLn_n (b10n h18) (by omega)
      subst em
      refine g_iload_n 22 dX8_both_21 rfl rfl ?_
      refine g_iconst (0) 23 dX8_both_22 rfl (by decide) ?_
      refine g_iconst (1) 24 dX8_both_23 rfl (by decide) ?_
      refine g_s3 27 dX8_both_24 rfl kl_X8_38 ms_X8_in ⟨Nat.le_of_ble_eq_true rfl, Nat.le_of_ble_eq_true rfl⟩ (Nat.le_of_ble_eq_true rfl) (m_in g l _ _ _ _) ?_
      rintro _ _ ⟨rfl, rfl⟩
      refine g_if_ne 32 30 dX8_both_27 rfl (by decide) (fun h27 => ?_) (fun h27 => ?_)
      · refine g_aload_n 33 dX8_both_32 rfl rfl ?_
        refine g_iload_n 34 dX8_both_33 rfl rfl ?_
        refine g_v1 8 37 dX8_both_34 rfl kl_X8_153 mv_X8_held rfl ⟨Nat.le_of_ble_eq_true rfl, Nat.le_of_ble_eq_true rfl⟩ (Nat.le_of_ble_eq_true rfl) (by first | decide | assumption | exact ⟨Nat.le_of_ble_eq_true rfl, rfl⟩) (m_held g l F J (n0 := n) (by omega)) ?_
        rintro _ _ ⟨rfl, rfl⟩
        refine g_lstore 39 dX8_both_37 rfl (by decide) ?_
        refine g_aload_n 40 dX8_both_39 rfl rfl ?_
        refine g_iload_n 41 dX8_both_40 rfl rfl ?_
        refine g_v1 8 44 dX8_both_41 rfl kl_X8_153 mv_X8_held rfl ⟨Nat.le_of_ble_eq_true rfl, Nat.le_of_ble_eq_true rfl⟩ (Nat.le_of_ble_eq_true rfl) (by first | decide | assumption | exact ⟨Nat.le_of_ble_eq_true rfl, rfl⟩) (m_held g l F J (n0 := m) (by omega)) ?_
        rintro _ _ ⟨rfl, rfl⟩
        refine g_lstore 46 dX8_both_44 rfl (by decide) ?_
        refine g_iload_n 47 dX8_both_46 rfl rfl ?_
        refine g_if_ne 61 50 dX8_both_47 rfl (by decide) (fun h47 => ?_) (fun h47 => ?_)
        · refine g_lload 63 dX8_both_61 rfl rfl ?_
          refine g_lload 65 dX8_both_63 rfl rfl ?_
          refine g_ldc2 68 dX8_both_65 rfl kc_X8_160 ?_
          refine g_lxor 69 dX8_both_68 rfl ?_
          refine g_land 70 dX8_both_69 rfl ?_
          refine g_lconst (0) 71 dX8_both_70 rfl (by decide) ?_
          refine g_lc_ne 79 75 dX8_both_71 dX8_both_72 rfl (by decide) (fun h71 => ?_) (fun h71 => ?_)
          · refine g_iconst (0) 80 dX8_both_79 rfl (by decide) ?_
            refine g_iret dX8_both_80 ?_
            have hq := b10n h27
            have e1 : holdsA (G + P) (Wm F) (Dm F) (nI n) = wh (Wm F n) (Dm F n) 64 := by rw [holdsA, if_pos (b10n h10), cn]
            have e2 : holdsA (G + P) (Wm F) (Dm F) (nI m) = wh (Wm F m) (Dm F m) 64 := by rw [holdsA, if_pos (b10n h18), cm]
            exact ⟨by rw [bothA, if_pos ⟨b10n h10, b10n h18, hq.1, Int32.not_lt.mp hq.2⟩, e1, e2, if_neg h47, if_neg h71], rfl⟩
          · refine g_iconst (1) 76 dX8_both_75 rfl (by decide) ?_
            refine g_goto 80 dX8_both_76 (by decide) ?_
            refine g_iret dX8_both_80 ?_
            have hq := b10n h27
            have e1 : holdsA (G + P) (Wm F) (Dm F) (nI n) = wh (Wm F n) (Dm F n) 64 := by rw [holdsA, if_pos (b10n h10), cn]
            have e2 : holdsA (G + P) (Wm F) (Dm F) (nI m) = wh (Wm F m) (Dm F m) 64 := by rw [holdsA, if_pos (b10n h18), cm]
            exact ⟨by rw [bothA, if_pos ⟨b10n h10, b10n h18, hq.1, Int32.not_lt.mp hq.2⟩, e1, e2, if_neg h47, if_pos h71], rfl⟩
        · refine g_lload 52 dX8_both_50 rfl rfl ?_
          refine g_lload 54 dX8_both_52 rfl rfl ?_
          refine g_lc_ne 79 58 dX8_both_54 dX8_both_55 rfl (by decide) (fun h54 => ?_) (fun h54 => ?_)
          · refine g_iconst (0) 80 dX8_both_79 rfl (by decide) ?_
            refine g_iret dX8_both_80 ?_
            have hq := b10n h27
            have e1 : holdsA (G + P) (Wm F) (Dm F) (nI n) = wh (Wm F n) (Dm F n) 64 := by rw [holdsA, if_pos (b10n h10), cn]
            have e2 : holdsA (G + P) (Wm F) (Dm F) (nI m) = wh (Wm F m) (Dm F m) 64 := by rw [holdsA, if_pos (b10n h18), cm]
            exact ⟨by rw [bothA, if_pos ⟨b10n h10, b10n h18, hq.1, Int32.not_lt.mp hq.2⟩, e1, e2, if_pos h47, if_neg h54], rfl⟩
          · refine g_goto 75 dX8_both_58 (by decide) ?_
            refine g_iconst (1) 76 dX8_both_75 rfl (by decide) ?_
            refine g_goto 80 dX8_both_76 (by decide) ?_
            refine g_iret dX8_both_80 ?_
            have hq := b10n h27
            have e1 : holdsA (G + P) (Wm F) (Dm F) (nI n) = wh (Wm F n) (Dm F n) 64 := by rw [holdsA, if_pos (b10n h10), cn]
            have e2 : holdsA (G + P) (Wm F) (Dm F) (nI m) = wh (Wm F m) (Dm F m) 64 := by rw [holdsA, if_pos (b10n h18), cm]
            exact ⟨by rw [bothA, if_pos ⟨b10n h10, b10n h18, hq.1, Int32.not_lt.mp hq.2⟩, e1, e2, if_pos h47, if_pos h54], rfl⟩
      · refine g_iconst (-1) 31 dX8_both_30 rfl (by decide) ?_
        refine g_iret dX8_both_31 ?_
        exact ⟨by rw [bothA, if_neg (fun z => b10.mp h27 ⟨z.2.2.1, Int32.not_lt.mpr z.2.2.2⟩)], rfl⟩

def hbM (W : Nat → Nat → Int32) (D : Nat → Int32) (set : Int32) : Nat → Int64
  | 0 => -1
  | i + 1 => hbM W D set i &&& (if bt set i = 1 then wh (W i) (D i) 64 else -1)
theorem bt_pow : ∀ G, G ≤ 8 → ∀ i, i < 8 → (bt (nI (2 ^ G - 1)) i = 1 ↔ i < G) := by decide +kernel
theorem bt_256 : ∀ G, G ≤ 8 → ∀ s, s < 2 ^ G → ∀ i, i < 8 → G ≤ i → ¬ bt (nI s) i = 1 := by decide +kernel
theorem hb_tws (W : Nat → Nat → Int32) (D : Nat → Int32) {G : Nat} (hG : G ≤ 8) : ∀ n, n ≤ G → hbM W D (nI (2 ^ G - 1)) n = tws W D n
  | 0, _ => rfl
  | i + 1, h => by rw [hbM, tws, hb_tws W D hG i (by omega), if_pos ((bt_pow G hG i (by omega)).mpr (by omega))]
theorem i64_and_neg1 (x : Int64) : x &&& -1 = x := by simp
theorem hb_wog (W : Nat → Nat → Int32) (D : Nat → Int32) (J : Nat → Int64) {G s : Nat} (hG : G ≤ 8) (hs : s < 2 ^ G) : hbM W D (nI s) G = wog (gwF W D J G) (nI s) 8 := by
  have a : ∀ n, n ≤ G → hbM W D (nI s) n = wog (gwF W D J G) (nI s) n := by
    intro n
    induction n with
    | zero => intro _; rfl
    | succ i ih =>
      intro h
      rw [hbM, wog, ih (by omega)]
      by_cases b : bt (nI s) i = 1
      · rw [if_pos b, if_pos (show nI s >>> (nI i &&& 31) &&& 1 = 1 from b)]; rw [show gwF W D J G i = wh (W i) (D i) 64 by rw [gwF, if_pos (by omega)]]
      · rw [if_neg b, if_neg (show ¬ nI s >>> (nI i &&& 31) &&& 1 = 1 from b), i64_and_neg1]
  have b : ∀ n, G ≤ n → n ≤ 8 → wog (gwF W D J G) (nI s) n = wog (gwF W D J G) (nI s) G := by
    intro n
    induction n with
    | zero => intro h _; obtain rfl : G = 0 := by omega
              rfl
    | succ i ih =>
      intro h h8
      by_cases e : G = i + 1
      · rw [e]
      · rw [wog, if_neg (show ¬ nI s >>> (nI i &&& 31) &&& 1 = 1 from bt_256 G hG s hs i (by omega) (by omega)), ih (by omega) (by omega)]
  rw [a G (Nat.le_refl _), b 8 hG (Nat.le_refl _)]
set_option maxRecDepth 100000 in
set_option maxHeartbeats 4000000 in
theorem lm_heldBy (g : Gl) (l : Launch) (set : Int32) (F : Nat → Nat → Int32) (J : Nat → Int64) {G P : Nat} (hS : mS F G P) {XX : State → Method → Prop} (n : Nat) : ∀ (i : Nat) (ix : Int32) (x : Int64), i + n = G → ix = nI i → x = hbM (Wm F) (Dm F) set i → Gj g l (rmd 4 0 0) XX (QM g (fun r S2 => r = some (.long (hbM (Wm F) (Dm F) set G)) ∧ S2 = St F J) 0 0) RX8 cX8_heldBy 5 (some .long) 7 [some (.ref 167), some (.int set), some (.long x), none, some (.int ix)] [] (St F J) 0 0 := by
  obtain ⟨hG, hP, hT, hG8, hP24⟩ := hS
  induction n with
  | zero =>
    intro i ix x hi hx he
    obtain rfl : i = G := by omega
    subst hx; subst he
    refine g_iload 9 dX8_heldBy_7 rfl rfl ?_
    refine g_aload_n 10 dX8_heldBy_9 rfl rfl ?_
    refine gf_8_9 13 dX8_heldBy_10 rfl kf_X8_106 (by first | decide | assumption | exact ⟨Nat.le_of_ble_eq_true rfl, rfl⟩) ?_
    refine g_icmp_ge 47 16 dX8_heldBy_13 rfl (by decide) (fun h13 => ?_) (fun h13 => ?_)
    · refine g_lload_n 48 dX8_heldBy_47 rfl rfl ?_
      refine g_lret dX8_heldBy_48 ?_
      exact ⟨rfl, rfl⟩
    · exact absurd (by rw [hG]; exact nI_le (Nat.le_refl _) (by omega)) h13
  | succ n ih =>
    intro i ix x hi hx he
    subst hx
    refine g_iload 9 dX8_heldBy_7 rfl rfl ?_
    refine g_aload_n 10 dX8_heldBy_9 rfl rfl ?_
    refine gf_8_9 13 dX8_heldBy_10 rfl kf_X8_106 (by first | decide | assumption | exact ⟨Nat.le_of_ble_eq_true rfl, rfl⟩) ?_
    refine g_icmp_ge 47 16 dX8_heldBy_13 rfl (by decide) (fun h13 => ?_) (fun h13 => ?_)
    · exact absurd h13 (by rw [hG]; exact nI_ge (by omega) (by omega))
    · refine g_lload_n 17 dX8_heldBy_16 rfl rfl ?_
      refine g_iload_n 18 dX8_heldBy_17 rfl rfl ?_
      refine g_iload 20 dX8_heldBy_18 rfl rfl ?_
      refine g_ishr 21 dX8_heldBy_20 rfl ?_
      refine g_iconst (1) 22 dX8_heldBy_21 rfl (by decide) ?_
      refine g_iand 23 dX8_heldBy_22 rfl ?_
      refine g_iconst (1) 24 dX8_heldBy_23 rfl (by decide) ?_
      refine g_icmp_ne 36 27 dX8_heldBy_24 rfl (by decide) (fun h24 => ?_) (fun h24 => ?_)
      · refine g_ldc2 39 dX8_heldBy_36 rfl kc_X8_160 ?_
        refine g_land 40 dX8_heldBy_39 rfl ?_
        refine g_lstore_n 41 dX8_heldBy_40 rfl (by decide) ?_
        refine g_iinc (1) 44 dX8_heldBy_41 rfl (by decide) (by decide) rfl ?_
        refine g_goto 7 dX8_heldBy_44 (by decide) ?_
        exact ih (i + 1) _ _ (by omega) (nI_succ i).symm (by rw [hbM, ← he, if_neg (show ¬ bt set i = 1 from h24)])
      · refine g_aload_n 28 dX8_heldBy_27 rfl rfl ?_
        refine g_iload 30 dX8_heldBy_28 rfl rfl ?_
        refine g_v1 8 33 dX8_heldBy_30 rfl kl_X8_153 mv_X8_held rfl ⟨Nat.le_of_ble_eq_true rfl, Nat.le_of_ble_eq_true rfl⟩ (Nat.le_of_ble_eq_true rfl) (by first | decide | assumption | exact ⟨Nat.le_of_ble_eq_true rfl, rfl⟩) (m_held g l F J (n0 := i) (by omega)) ?_
        rintro _ _ ⟨rfl, rfl⟩
        refine g_goto 39 dX8_heldBy_33 (by decide) ?_
        refine g_land 40 dX8_heldBy_39 rfl ?_
        refine g_lstore_n 41 dX8_heldBy_40 rfl (by decide) ?_
        refine g_iinc (1) 44 dX8_heldBy_41 rfl (by decide) (by decide) rfl ?_
        refine g_goto 7 dX8_heldBy_44 (by decide) ?_
        exact ih (i + 1) _ _ (by omega) (nI_succ i).symm (by rw [hbM, ← he, if_pos (show bt set i = 1 from h24)])

set_option maxRecDepth 100000 in
set_option maxHeartbeats 4000000 in
theorem m_heldBy (g : Gl) (l : Launch) (set : Int32) (F : Nat → Nat → Int32) (J : Nat → Int64) {G P : Nat} (hS : mS F G P) : Ct g l yX8_heldBy cX8_heldBy 5 (some .long) 4 0 0 [.ref 167, .int set] (St F J) (fun r S2 => r = some (.long (hbM (Wm F) (Dm F) set G)) ∧ S2 = St F J) := by
  obtain ⟨hG, hP, hT, hG8, hP24⟩ := hS
  refine Ct.of rfl (by decide) rfl (Nat.le_of_ble_eq_true rfl) ?_
  refine g_ldc2 3 dX8_heldBy_0 rfl kc_X8_160 ?_
  refine g_lstore_n 4 dX8_heldBy_3 rfl (by decide) ?_
  refine g_iconst (0) 5 dX8_heldBy_4 rfl (by decide) ?_
  refine g_istore 7 dX8_heldBy_5 rfl (by decide) ?_
  exact lm_heldBy g l set F J ⟨hG, hP, hT, hG8, hP24⟩ G 0 _ _ (Nat.zero_add _) rfl rfl

theorem shl2 : ∀ G, G ≤ 8 → (1 : Int32) <<< (nI G &&& 31) - 1 = nI (2 ^ G - 1) := by decide +kernel
set_option maxRecDepth 100000 in
set_option maxHeartbeats 4000000 in
theorem m_trueWorlds (g : Gl) (l : Launch) (F : Nat → Nat → Int32) (J : Nat → Int64) {G P : Nat} (hS : mS F G P) : Ct g l yX8_trueWorlds cX8_trueWorlds 1 (some .long) 5 0 0 [.ref 167] (St F J) (fun r S2 => r = some (.long (tws (Wm F) (Dm F) G)) ∧ S2 = St F J) := by
  obtain ⟨hG, hP, hT, hG8, hP24⟩ := hS
  refine Ct.of rfl (by decide) rfl (Nat.le_of_ble_eq_true rfl) ?_
  refine g_aload_n 1 dX8_trueWorlds_0 rfl rfl ?_
  refine g_iconst (1) 2 dX8_trueWorlds_1 rfl (by decide) ?_
  refine g_aload_n 3 dX8_trueWorlds_2 rfl rfl ?_
  refine gf_8_9 6 dX8_trueWorlds_3 rfl kf_X8_106 (by first | decide | assumption | exact ⟨Nat.le_of_ble_eq_true rfl, rfl⟩) ?_
  refine g_ishl 7 dX8_trueWorlds_6 rfl ?_
  refine g_iconst (1) 8 dX8_trueWorlds_7 rfl (by decide) ?_
  refine g_isub 9 dX8_trueWorlds_8 rfl ?_
  refine gst_at (show (1 : Int32) <<< (F 167 9 &&& 31) - 1 = nI (2 ^ G - 1) by rw [hG]; exact shl2 G hG8) ?_
  refine g_v1 8 12 dX8_trueWorlds_9 rfl kl_X8_168 mv_X8_heldBy rfl ⟨Nat.le_of_ble_eq_true rfl, Nat.le_of_ble_eq_true rfl⟩ (Nat.le_of_ble_eq_true rfl) (by first | decide | assumption | exact ⟨Nat.le_of_ble_eq_true rfl, rfl⟩) (m_heldBy g l _ F J ⟨hG, hP, hT, hG8, hP24⟩) ?_
  rintro _ _ ⟨rfl, rfl⟩
  refine g_lret dX8_trueWorlds_12 ?_
  exact ⟨by rw [hb_tws (Wm F) (Dm F) hG8 G (Nat.le_refl _)], rfl⟩

set_option maxRecDepth 100000 in
set_option maxHeartbeats 4000000 in
theorem m_trues (g : Gl) (l : Launch) (F : Nat → Nat → Int32) (J : Nat → Int64) {G P : Nat} (hS : mS F G P) : Ct g l yX8_trues cX8_trues 1 (some .long) 6 0 0 [.ref 167] (St F J) (fun r S2 => r = some (.long (tws (Wm F) (Dm F) G)) ∧ S2 = St F J) := by
  obtain ⟨hG, hP, hT, hG8, hP24⟩ := hS
  refine Ct.of rfl (by decide) rfl (Nat.le_of_ble_eq_true rfl) ?_
  refine g_aload_n 1 dX8_trues_0 rfl rfl ?_
  refine g_iconst (0) 2 dX8_trues_1 rfl (by decide) ?_
  refine gp_8_0 5 dX8_trues_2 rfl kf_X8_35 (by first | decide | assumption | exact ⟨Nat.le_of_ble_eq_true rfl, rfl⟩) ?_
  refine gs_at (congrArg (fun x => St x J) (thr hT)) ?_
  refine g_aload_n 6 dX8_trues_5 rfl rfl ?_
  refine g_v0 8 9 dX8_trues_6 rfl kl_X8_171 mv_X8_trueWorlds rfl ⟨Nat.le_of_ble_eq_true rfl, Nat.le_of_ble_eq_true rfl⟩ (Nat.le_of_ble_eq_true rfl) (by first | decide | assumption | exact ⟨Nat.le_of_ble_eq_true rfl, rfl⟩) (m_trueWorlds g l F J ⟨hG, hP, hT, hG8, hP24⟩) ?_
  rintro _ _ ⟨rfl, rfl⟩
  refine g_lret dX8_trues_9 ?_
  exact ⟨rfl, rfl⟩

set_option maxRecDepth 100000 in
set_option maxHeartbeats 4000000 in
theorem m_told (g : Gl) (l : Launch) (i : Int32) (F : Nat → Nat → Int32) (J : Nat → Int64) {G P : Nat} (hS : mS F G P) : Ct g l yX8_told cX8_told 2 (some .int) 6 0 0 [.ref 167, .int i] (St F J) (fun r S2 => r = some (.int (toldA (G + P) G (Wm F) (Dm F) i)) ∧ S2 = St F J) := by
  obtain ⟨hG, hP, hT, hG8, hP24⟩ := hS
  refine Ct.of rfl (by decide) rfl (Nat.le_of_ble_eq_true rfl) ?_
  refine g_aload_n 1 dX8_told_0 rfl rfl ?_
  refine g_iconst (0) 2 dX8_told_1 rfl (by decide) ?_
  refine gp_8_0 5 dX8_told_2 rfl kf_X8_35 (by first | decide | assumption | exact ⟨Nat.le_of_ble_eq_true rfl, rfl⟩) ?_
  refine gs_at (congrArg (fun x => St x J) (thr hT)) ?_
  refine g_aload_n 6 dX8_told_5 rfl rfl ?_
  refine g_iload_n 7 dX8_told_6 rfl rfl ?_
  refine g_v1 8 10 dX8_told_7 rfl kl_X8_142 mv_X8_isLine rfl ⟨Nat.le_of_ble_eq_true rfl, Nat.le_of_ble_eq_true rfl⟩ (Nat.le_of_ble_eq_true rfl) (by first | decide | assumption | exact ⟨Nat.le_of_ble_eq_true rfl, rfl⟩) (m_isLine g l _ F J ⟨hG, hP, hT, hG8, hP24⟩) ?_
  rintro _ _ ⟨rfl, rfl⟩
  refine g_if_ne 17 13 dX8_told_10 rfl (by decide) (fun h10 => ?_) (fun h10 => ?_)
  · obtain ⟨n, hn, en, cn⟩ := isLn_n (b10n h10) (by omega)
    subst en
    refine g_aload_n 18 dX8_told_17 rfl rfl ?_
    refine g_v0 8 21 dX8_told_18 rfl kl_X8_171 mv_X8_trueWorlds rfl ⟨Nat.le_of_ble_eq_true rfl, Nat.le_of_ble_eq_true rfl⟩ (Nat.le_of_ble_eq_true rfl) (by first | decide | assumption | exact ⟨Nat.le_of_ble_eq_true rfl, rfl⟩) (m_trueWorlds g l F J ⟨hG, hP, hT, hG8, hP24⟩) ?_
    rintro _ _ ⟨rfl, rfl⟩
    refine g_aload_n 22 dX8_told_21 rfl rfl ?_
    refine g_iload_n 23 dX8_told_22 rfl rfl ?_
    refine g_v1 8 26 dX8_told_23 rfl kl_X8_153 mv_X8_held rfl ⟨Nat.le_of_ble_eq_true rfl, Nat.le_of_ble_eq_true rfl⟩ (Nat.le_of_ble_eq_true rfl) (by first | decide | assumption | exact ⟨Nat.le_of_ble_eq_true rfl, rfl⟩) (m_held g l F J (n0 := n) (by omega)) ?_
    rintro _ _ ⟨rfl, rfl⟩
    refine g_ldc2 29 dX8_told_26 rfl kc_X8_160 ?_
    refine g_lxor 30 dX8_told_29 rfl ?_
    refine g_land 31 dX8_told_30 rfl ?_
    refine g_lconst (0) 32 dX8_told_31 rfl (by decide) ?_
    refine g_lc_ne 40 36 dX8_told_32 dX8_told_33 rfl (by decide) (fun h32 => ?_) (fun h32 => ?_)
    · refine g_iconst (0) 41 dX8_told_40 rfl (by decide) ?_
      refine g_iret dX8_told_41 ?_
      have e1 : holdsA (G + P) (Wm F) (Dm F) (nI n) = wh (Wm F n) (Dm F n) 64 := by rw [holdsA, if_pos (b10n h10), cn]
      exact ⟨by rw [toldA, if_pos (b10n h10), e1, if_neg h32], rfl⟩
    · refine g_iconst (1) 37 dX8_told_36 rfl (by decide) ?_
      refine g_goto 41 dX8_told_37 (by decide) ?_
      refine g_iret dX8_told_41 ?_
      have e1 : holdsA (G + P) (Wm F) (Dm F) (nI n) = wh (Wm F n) (Dm F n) 64 := by rw [holdsA, if_pos (b10n h10), cn]
      exact ⟨by rw [toldA, if_pos (b10n h10), e1, if_pos h32], rfl⟩
  · refine g_iconst (-1) 14 dX8_told_13 rfl (by decide) ?_
    refine g_goto 41 dX8_told_14 (by decide) ?_
    refine g_iret dX8_told_41 ?_
    exact ⟨by rw [toldA, if_neg (b10.mp h10)], rfl⟩

