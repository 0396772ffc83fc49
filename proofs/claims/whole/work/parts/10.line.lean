/-! the class Line -/
theorem b01 {c : Prop} [Decidable c] : ((if c then (0 : Int32) else 1) = 0) ↔ c := by by_cases h : c <;> simp [h]
theorem b10 {c : Prop} [Decidable c] : ((if c then (1 : Int32) else 0) = 0) ↔ ¬ c := by by_cases h : c <;> simp [h]
theorem isl_w : ∀ k, k < 174 → sh k = 2 → (k + 1 < 174 ∧ sh (k + 1) = 10) ∧ ln (k + 1) = 6 := by decide +kernel
theorem lt6 {i : Nat} (h : i < 6) : ¬ (6 : Int32) ≤ nI i := nI_ge (a := i) (b := 6) h (by decide)
theorem lt64 {i : Nat} (h : i < 64) : ¬ (64 : Int32) ≤ nI i := nI_ge (a := i) (b := 64) h (by decide)
def mw (w : Nat → Int32) (so nt : Int32) : Nat → Int32
  | 0 => 0
  | i + 1 => mw w so nt i + (if (if w i ≤ 0 then so else nt) >>> (nI i &&& 31) &&& 1 = 0 then abs32 (w i) else 0)
def fillL (F : Nat → Nat → Int32) (k : Nat) (w : Nat → Int32) (i : Nat) : Nat → Nat → Int32 := fun q => if q = k + 1 then (fun j => if j < i then w j else F (k + 1) j) else F q
/-- the line k has these weights and that degree -/
def setL (F : Nat → Nat → Int32) (k : Nat) (w : Nat → Int32) (d : Int32) : Nat → Nat → Int32 := up2 (fillL F k w 6) k 1 d
theorem fillL_0 (F : Nat → Nat → Int32) (k : Nat) (w : Nat → Int32) : fillL F k w 0 = F := by
  funext q j
  simp only [fillL]
  split
  · simp_all
  · rfl
theorem fillL_s (F : Nat → Nat → Int32) (k : Nat) (w : Nat → Int32) (i : Nat) {x : Int32} (hx : x = w i) : up2 (fillL F k w i) (k + 1) i x = fillL F k w (i + 1) := by
  subst hx
  funext q j
  simp only [fillL, up2, upd]
  by_cases h : q = k + 1
  · subst h
    simp only [if_true]
    by_cases e : j = i
    · subst e; simp [upd]
    · by_cases e2 : j < i
      · simp [upd, e, e2, Nat.lt_succ_of_lt e2]
      · simp [upd, e, e2, show ¬ j < i + 1 by omega]
  · simp [h]
theorem fillL_ne (F : Nat → Nat → Int32) {k q : Nat} (w : Nat → Int32) (i : Nat) (h : q ≠ k + 1) : fillL F k w i q = F q := by simp [fillL, h]
theorem isl_ne {k k2 : Nat} (hk : k < 174 ∧ sh k = 2) (hk2 : k2 < 174 ∧ sh k2 = 2) : k2 ≠ k + 1 := by
  intro e; subst e
  have := (isl_w k hk.1 hk.2).1.2
  rw [hk2.2] at this; cases this
def sg32 (s z : Int32) : Int32 := if 0 ≤ s then z else -z
def cv (w : Nat → Int32) (set : Int32) : Nat → Int32
  | 0 => 0
  | i + 1 => cv w set i + (if set >>> (nI i &&& 31) &&& 1 = 0 then abs32 (w i) else 0)
def wh (w : Nat → Int32) (d : Int32) : Nat → Int64
  | 0 => 0
  | i + 1 => if mw w (nI i) (nI i ^^^ -1) 6 < d then wh w d i else wh w d i ||| ((1 : Int64) <<< ((nI i).toInt64 &&& 63))
theorem max1_ne (n : Int32) : ¬ max32 n 1 = 0 := by
  unfold max32
  split
  · decide
  · intro e; subst e; rename_i h; exact h (by decide)

set_option maxRecDepth 100000 in
set_option maxHeartbeats 4000000 in
theorem lp_mayWeigh (g : Gl) (l : Launch) {k : Nat} (hk : k < 174 ∧ sh k = 2) (so nt : Int32) (F : Nat → Nat → Int32) (J : Nat → Int64) {XX : State → Method → Prop} (n : Nat) : ∀ (i : Nat) (sm ix : Int32) (x5 x6 : Option Value), i + n = 6 → sm = mw (F (k + 1)) so nt i → ix = nI i → Gj g l (rmd 1 0 0) XX (QM g (fun r S2 => r = some (.int (mw (F (k + 1)) so nt 6)) ∧ S2 = St F J) 0 0) RX2 cX2_mayWeigh 7 (some .int) 5 [some (.ref k), some (.int so), some (.int nt), some (.int sm), some (.int ix), x5, x6] [] (St F J) 0 0 := by
  obtain ⟨hw, hln⟩ := isl_w k hk.1 hk.2
  induction n with
  | zero =>
    intro i sm ix x5 x6 hi hs hx
    obtain rfl : i = 6 := by omega
    subst hs; subst hx
    refine g_iload 7 dX2_mayWeigh_5 rfl rfl ?_
    refine g_bipush (6) 9 dX2_mayWeigh_7 rfl (by decide) ?_
    refine g_icmp_ge 57 12 dX2_mayWeigh_9 rfl (by decide) (fun h9 => ?_) (fun h9 => ?_)
    · refine g_iload_n 58 dX2_mayWeigh_57 rfl rfl ?_
      refine g_iret dX2_mayWeigh_58 ?_
      exact ⟨rfl, rfl⟩
    · exact absurd (by decide) h9
  | succ n ih =>
    intro i sm ix x5 x6 hi hs hx
    subst hx
    refine g_iload 7 dX2_mayWeigh_5 rfl rfl ?_
    refine g_bipush (6) 9 dX2_mayWeigh_7 rfl (by decide) ?_
    refine g_icmp_ge 57 12 dX2_mayWeigh_9 rfl (by decide) (fun h9 => ?_) (fun h9 => ?_)
    · exact absurd h9 (lt6 (by omega))
    · refine g_aload_n 13 dX2_mayWeigh_12 rfl rfl ?_
      refine gf_2_0 16 dX2_mayWeigh_13 rfl kf_X2_9 (by first | decide | assumption | exact ⟨Nat.le_of_ble_eq_true rfl, rfl⟩) ?_
      refine g_iload 18 dX2_mayWeigh_16 rfl rfl ?_
      refine ga_ild (i) 19 dX2_mayWeigh_18 rfl (by first | decide | assumption | exact ⟨Nat.le_of_ble_eq_true rfl, rfl⟩) rfl (by rw [hln]; omega) ?_
      refine g_istore 21 dX2_mayWeigh_19 rfl (by decide) ?_
      refine g_iload 23 dX2_mayWeigh_21 rfl rfl ?_
      refine g_if_le 30 26 dX2_mayWeigh_23 rfl (by decide) (fun h23 => ?_) (fun h23 => ?_)
      · refine g_iload_n 31 dX2_mayWeigh_30 rfl rfl ?_
        refine g_istore 33 dX2_mayWeigh_31 rfl (by decide) ?_
        refine g_iload 35 dX2_mayWeigh_33 rfl rfl ?_
        refine g_iload 37 dX2_mayWeigh_35 rfl rfl ?_
        refine g_ishr 38 dX2_mayWeigh_37 rfl ?_
        refine g_iconst (1) 39 dX2_mayWeigh_38 rfl (by decide) ?_
        refine g_iand 40 dX2_mayWeigh_39 rfl ?_
        refine g_if_ne 51 43 dX2_mayWeigh_40 rfl (by decide) (fun h40 => ?_) (fun h40 => ?_)
        · refine g_iinc (1) 54 dX2_mayWeigh_51 rfl (by decide) (by decide) rfl ?_
          refine g_goto 5 dX2_mayWeigh_54 (by decide) ?_
          exact ih (i + 1) _ _ _ _ (by omega) (by rw [mw, hs]; simp [h23, h40]) (nI_succ i).symm
        · refine g_iload_n 44 dX2_mayWeigh_43 rfl rfl ?_
          refine g_iload 46 dX2_mayWeigh_44 rfl rfl ?_
          refine g_mabs 49 dX2_mayWeigh_46 rfl kl_X2_22 ⟨Nat.le_of_ble_eq_true rfl, Nat.le_of_ble_eq_true rfl, Nat.le_of_ble_eq_true rfl, Nat.le_of_ble_eq_true rfl⟩ (Nat.le_of_ble_eq_true rfl) ?_
          refine g_iadd 50 dX2_mayWeigh_49 rfl ?_
          refine g_istore_n 51 dX2_mayWeigh_50 rfl (by decide) ?_
          refine g_iinc (1) 54 dX2_mayWeigh_51 rfl (by decide) (by decide) rfl ?_
          refine g_goto 5 dX2_mayWeigh_54 (by decide) ?_
          exact ih (i + 1) _ _ _ _ (by omega) (by rw [mw, hs]; simp [h23, h40]) (nI_succ i).symm
      · refine g_iload_n 27 dX2_mayWeigh_26 rfl rfl ?_
        refine g_goto 31 dX2_mayWeigh_27 (by decide) ?_
        refine g_istore 33 dX2_mayWeigh_31 rfl (by decide) ?_
        refine g_iload 35 dX2_mayWeigh_33 rfl rfl ?_
        refine g_iload 37 dX2_mayWeigh_35 rfl rfl ?_
        refine g_ishr 38 dX2_mayWeigh_37 rfl ?_
        refine g_iconst (1) 39 dX2_mayWeigh_38 rfl (by decide) ?_
        refine g_iand 40 dX2_mayWeigh_39 rfl ?_
        refine g_if_ne 51 43 dX2_mayWeigh_40 rfl (by decide) (fun h40 => ?_) (fun h40 => ?_)
        · refine g_iinc (1) 54 dX2_mayWeigh_51 rfl (by decide) (by decide) rfl ?_
          refine g_goto 5 dX2_mayWeigh_54 (by decide) ?_
          exact ih (i + 1) _ _ _ _ (by omega) (by rw [mw, hs]; simp [h23, h40]) (nI_succ i).symm
        · refine g_iload_n 44 dX2_mayWeigh_43 rfl rfl ?_
          refine g_iload 46 dX2_mayWeigh_44 rfl rfl ?_
          refine g_mabs 49 dX2_mayWeigh_46 rfl kl_X2_22 ⟨Nat.le_of_ble_eq_true rfl, Nat.le_of_ble_eq_true rfl, Nat.le_of_ble_eq_true rfl, Nat.le_of_ble_eq_true rfl⟩ (Nat.le_of_ble_eq_true rfl) ?_
          refine g_iadd 50 dX2_mayWeigh_49 rfl ?_
          refine g_istore_n 51 dX2_mayWeigh_50 rfl (by decide) ?_
          refine g_iinc (1) 54 dX2_mayWeigh_51 rfl (by decide) (by decide) rfl ?_
          refine g_goto 5 dX2_mayWeigh_54 (by decide) ?_
          exact ih (i + 1) _ _ _ _ (by omega) (by rw [mw, hs]; simp [h23, h40]) (nI_succ i).symm

set_option maxRecDepth 100000 in
set_option maxHeartbeats 4000000 in
theorem c_mayWeigh (g : Gl) (l : Launch) {k : Nat} (hk : k < 174 ∧ sh k = 2) (so nt : Int32) (F : Nat → Nat → Int32) (J : Nat → Int64) : Ct g l yX2_mayWeigh cX2_mayWeigh 7 (some .int) 1 0 0 [.ref k, .int so, .int nt] (St F J) (fun r S2 => r = some (.int (mw (F (k + 1)) so nt 6)) ∧ S2 = St F J) := by
  refine Ct.of rfl (by decide) rfl (Nat.le_of_ble_eq_true rfl) ?_
  refine g_iconst (0) 1 dX2_mayWeigh_0 rfl (by decide) ?_
  refine g_istore_n 2 dX2_mayWeigh_1 rfl (by decide) ?_
  refine g_iconst (0) 3 dX2_mayWeigh_2 rfl (by decide) ?_
  refine g_istore 5 dX2_mayWeigh_3 rfl (by decide) ?_
  exact lp_mayWeigh g l hk so nt F J 6 0 _ _ _ _ rfl rfl rfl

set_option maxRecDepth 100000 in
set_option maxHeartbeats 4000000 in
theorem c_weighsIn (g : Gl) (l : Launch) {k : Nat} (hk : k < 174 ∧ sh k = 2) (w : Int32) (F : Nat → Nat → Int32) (J : Nat → Int64) : Ct g l yX2_weighsIn cX2_weighsIn 2 (some .int) 2 0 0 [.ref k, .int w] (St F J) (fun r S2 => r = some (.int (mw (F (k + 1)) w (w ^^^ -1) 6)) ∧ S2 = St F J) := by
  refine Ct.of rfl (by decide) rfl (Nat.le_of_ble_eq_true rfl) ?_
  refine g_aload_n 1 dX2_weighsIn_0 rfl rfl ?_
  refine g_iload_n 2 dX2_weighsIn_1 rfl rfl ?_
  refine g_iload_n 3 dX2_weighsIn_2 rfl rfl ?_
  refine g_iconst (-1) 4 dX2_weighsIn_3 rfl (by decide) ?_
  refine g_ixor 5 dX2_weighsIn_4 rfl ?_
  refine g_v2 2 8 dX2_weighsIn_5 rfl kl_X2_42 mv_X2_mayWeigh rfl ⟨Nat.le_of_ble_eq_true rfl, Nat.le_of_ble_eq_true rfl⟩ (Nat.le_of_ble_eq_true rfl) (by first | decide | assumption | exact ⟨Nat.le_of_ble_eq_true rfl, rfl⟩) (c_mayWeigh g l hk _ _ F J) ?_
  rintro _ _ ⟨rfl, rfl⟩
  refine g_iret dX2_weighsIn_8 ?_
  exact ⟨rfl, rfl⟩

set_option maxRecDepth 100000 in
set_option maxHeartbeats 4000000 in
theorem c_isBrokenL (g : Gl) (l : Launch) {k : Nat} (hk : k < 174 ∧ sh k = 2) (F : Nat → Nat → Int32) (J : Nat → Int64) : Ct g l yX2_isBroken cX2_isBroken 1 (some .boolean) 2 0 0 [.ref k] (St F J) (fun r S2 => r = some (.int (if F k 1 ≤ mw (F (k + 1)) 0 0 6 then 0 else 1)) ∧ S2 = St F J) := by
  refine Ct.of rfl (by decide) rfl (Nat.le_of_ble_eq_true rfl) ?_
  refine g_aload_n 1 dX2_isBroken_0 rfl rfl ?_
  refine g_iconst (0) 2 dX2_isBroken_1 rfl (by decide) ?_
  refine g_iconst (0) 3 dX2_isBroken_2 rfl (by decide) ?_
  refine g_v2 2 6 dX2_isBroken_3 rfl kl_X2_42 mv_X2_mayWeigh rfl ⟨Nat.le_of_ble_eq_true rfl, Nat.le_of_ble_eq_true rfl⟩ (Nat.le_of_ble_eq_true rfl) (by first | decide | assumption | exact ⟨Nat.le_of_ble_eq_true rfl, rfl⟩) (c_mayWeigh g l hk _ _ F J) ?_
  rintro _ _ ⟨rfl, rfl⟩
  refine g_aload_n 7 dX2_isBroken_6 rfl rfl ?_
  refine gf_2_1 10 dX2_isBroken_7 rfl kf_X2_15 (by first | decide | assumption | exact ⟨Nat.le_of_ble_eq_true rfl, rfl⟩) ?_
  refine g_icmp_ge 17 13 dX2_isBroken_10 rfl (by decide) (fun h10 => ?_) (fun h10 => ?_)
  · refine g_iconst (0) 18 dX2_isBroken_17 rfl (by decide) ?_
    refine g_zret dX2_isBroken_18 (by decide) ?_
    exact ⟨by simp [h10], rfl⟩
  · refine g_iconst (1) 14 dX2_isBroken_13 rfl (by decide) ?_
    refine g_goto 18 dX2_isBroken_14 (by decide) ?_
    refine g_zret dX2_isBroken_18 (by decide) ?_
    exact ⟨by simp [h10], rfl⟩

set_option maxRecDepth 100000 in
set_option maxHeartbeats 4000000 in
theorem lp_worldsHeld (g : Gl) (l : Launch) {k : Nat} (hk : k < 174 ∧ sh k = 2) (F : Nat → Nat → Int32) (J : Nat → Int64) {XX : State → Method → Prop} (n : Nat) : ∀ (i : Nat) (sm : Int64) (ix : Int32), i + n = 64 → sm = wh (F (k + 1)) (F k 1) i → ix = nI i → Gj g l (rmd 3 0 0) XX (QM g (fun r S2 => r = some (.long (wh (F (k + 1)) (F k 1) 64)) ∧ S2 = St F J) 0 0) RX2 cX2_worldsHeld 4 (some .long) 4 [some (.ref k), some (.long sm), none, some (.int ix)] [] (St F J) 0 0 := by
  obtain ⟨hw, hln⟩ := isl_w k hk.1 hk.2
  induction n with
  | zero =>
    intro i sm ix hi hs hx
    obtain rfl : i = 64 := by omega
    subst hs; subst hx
    refine g_iload_n 5 dX2_worldsHeld_4 rfl rfl ?_
    refine g_bipush (64) 7 dX2_worldsHeld_5 rfl (by decide) ?_
    refine g_icmp_ge 34 10 dX2_worldsHeld_7 rfl (by decide) (fun h7 => ?_) (fun h7 => ?_)
    · refine g_lload_n 35 dX2_worldsHeld_34 rfl rfl ?_
      refine g_lret dX2_worldsHeld_35 ?_
      exact ⟨rfl, rfl⟩
    · exact absurd (by decide) h7
  | succ n ih =>
    intro i sm ix hi hs hx
    subst hx
    refine g_iload_n 5 dX2_worldsHeld_4 rfl rfl ?_
    refine g_bipush (64) 7 dX2_worldsHeld_5 rfl (by decide) ?_
    refine g_icmp_ge 34 10 dX2_worldsHeld_7 rfl (by decide) (fun h7 => ?_) (fun h7 => ?_)
    · exact absurd h7 (lt64 (by omega))
    · refine g_aload_n 11 dX2_worldsHeld_10 rfl rfl ?_
      refine g_iload_n 12 dX2_worldsHeld_11 rfl rfl ?_
      refine g_v1 2 15 dX2_worldsHeld_12 rfl kl_X2_46 mv_X2_weighsIn rfl ⟨Nat.le_of_ble_eq_true rfl, Nat.le_of_ble_eq_true rfl⟩ (Nat.le_of_ble_eq_true rfl) (by first | decide | assumption | exact ⟨Nat.le_of_ble_eq_true rfl, rfl⟩) (c_weighsIn g l hk _ F J) ?_
      rintro _ _ ⟨rfl, rfl⟩
      refine g_aload_n 16 dX2_worldsHeld_15 rfl rfl ?_
      refine gf_2_1 19 dX2_worldsHeld_16 rfl kf_X2_15 (by first | decide | assumption | exact ⟨Nat.le_of_ble_eq_true rfl, rfl⟩) ?_
      refine g_icmp_lt 28 22 dX2_worldsHeld_19 rfl (by decide) (fun h19 => ?_) (fun h19 => ?_)
      · refine g_iinc (1) 31 dX2_worldsHeld_28 rfl (by decide) (by decide) rfl ?_
        refine g_goto 4 dX2_worldsHeld_31 (by decide) ?_
        exact ih (i + 1) _ _ (by omega) (by rw [wh, hs]; first | rw [if_pos h19] | rw [if_neg h19]) (nI_succ i).symm
      · refine g_lload_n 23 dX2_worldsHeld_22 rfl rfl ?_
        refine g_lconst (1) 24 dX2_worldsHeld_23 rfl (by decide) ?_
        refine g_iload_n 25 dX2_worldsHeld_24 rfl rfl ?_
        refine g_lshl 26 dX2_worldsHeld_25 rfl ?_
        refine g_lor 27 dX2_worldsHeld_26 rfl ?_
        refine g_lstore_n 28 dX2_worldsHeld_27 rfl (by decide) ?_
        refine g_iinc (1) 31 dX2_worldsHeld_28 rfl (by decide) (by decide) rfl ?_
        refine g_goto 4 dX2_worldsHeld_31 (by decide) ?_
        exact ih (i + 1) _ _ (by omega) (by rw [wh, hs]; first | rw [if_pos h19] | rw [if_neg h19]) (nI_succ i).symm

set_option maxRecDepth 100000 in
set_option maxHeartbeats 4000000 in
theorem c_worldsHeld (g : Gl) (l : Launch) {k : Nat} (hk : k < 174 ∧ sh k = 2) (F : Nat → Nat → Int32) (J : Nat → Int64) : Ct g l yX2_worldsHeld cX2_worldsHeld 4 (some .long) 3 0 0 [.ref k] (St F J) (fun r S2 => r = some (.long (wh (F (k + 1)) (F k 1) 64)) ∧ S2 = St F J) := by
  refine Ct.of rfl (by decide) rfl (Nat.le_of_ble_eq_true rfl) ?_
  refine g_lconst (0) 1 dX2_worldsHeld_0 rfl (by decide) ?_
  refine g_lstore_n 2 dX2_worldsHeld_1 rfl (by decide) ?_
  refine g_iconst (0) 3 dX2_worldsHeld_2 rfl (by decide) ?_
  refine g_istore_n 4 dX2_worldsHeld_3 rfl (by decide) ?_
  exact lp_worldsHeld g l hk F J 64 0 _ _ rfl rfl rfl

set_option maxRecDepth 100000 in
set_option maxHeartbeats 4000000 in
theorem lp_isCoverL (g : Gl) (l : Launch) {k : Nat} (hk : k < 174 ∧ sh k = 2) (set : Int32) (F : Nat → Nat → Int32) (J : Nat → Int64) {XX : State → Method → Prop} (n : Nat) : ∀ (i : Nat) (sm ix : Int32), i + n = 6 → sm = cv (F (k + 1)) set i → ix = nI i → Gj g l (rmd 1 0 0) XX (QM g (fun r S2 => r = some (.int (if F k 1 ≤ cv (F (k + 1)) set 6 then 0 else 1)) ∧ S2 = St F J) 0 0) RX2 cX2_isCover 4 (some .boolean) 4 [some (.ref k), some (.int set), some (.int sm), some (.int ix)] [] (St F J) 0 0 := by
  obtain ⟨hw, hln⟩ := isl_w k hk.1 hk.2
  induction n with
  | zero =>
    intro i sm ix hi hs hx
    obtain rfl : i = 6 := by omega
    subst hs; subst hx
    refine g_iload_n 5 dX2_isCover_4 rfl rfl ?_
    refine g_bipush (6) 7 dX2_isCover_5 rfl (by decide) ?_
    refine g_icmp_ge 36 10 dX2_isCover_7 rfl (by decide) (fun h7 => ?_) (fun h7 => ?_)
    · refine g_iload_n 37 dX2_isCover_36 rfl rfl ?_
      refine g_aload_n 38 dX2_isCover_37 rfl rfl ?_
      refine gf_2_1 41 dX2_isCover_38 rfl kf_X2_15 (by first | decide | assumption | exact ⟨Nat.le_of_ble_eq_true rfl, rfl⟩) ?_
      refine g_icmp_ge 48 44 dX2_isCover_41 rfl (by decide) (fun h41 => ?_) (fun h41 => ?_)
      · refine g_iconst (0) 49 dX2_isCover_48 rfl (by decide) ?_
        refine g_zret dX2_isCover_49 (by decide) ?_
        exact ⟨by simp [h41], rfl⟩
      · refine g_iconst (1) 45 dX2_isCover_44 rfl (by decide) ?_
        refine g_goto 49 dX2_isCover_45 (by decide) ?_
        refine g_zret dX2_isCover_49 (by decide) ?_
        exact ⟨by simp [h41], rfl⟩
    · exact absurd (by decide) h7
  | succ n ih =>
    intro i sm ix hi hs hx
    subst hx
    refine g_iload_n 5 dX2_isCover_4 rfl rfl ?_
    refine g_bipush (6) 7 dX2_isCover_5 rfl (by decide) ?_
    refine g_icmp_ge 36 10 dX2_isCover_7 rfl (by decide) (fun h7 => ?_) (fun h7 => ?_)
    · exact absurd h7 (lt6 (by omega))
    · refine g_iload_n 11 dX2_isCover_10 rfl rfl ?_
      refine g_iload_n 12 dX2_isCover_11 rfl rfl ?_
      refine g_ishr 13 dX2_isCover_12 rfl ?_
      refine g_iconst (1) 14 dX2_isCover_13 rfl (by decide) ?_
      refine g_iand 15 dX2_isCover_14 rfl ?_
      refine g_if_ne 30 18 dX2_isCover_15 rfl (by decide) (fun h15 => ?_) (fun h15 => ?_)
      · refine g_iinc (1) 33 dX2_isCover_30 rfl (by decide) (by decide) rfl ?_
        refine g_goto 4 dX2_isCover_33 (by decide) ?_
        exact ih (i + 1) _ _ (by omega) (by rw [cv, hs]; simp [h15]) (nI_succ i).symm
      · refine g_iload_n 19 dX2_isCover_18 rfl rfl ?_
        refine g_aload_n 20 dX2_isCover_19 rfl rfl ?_
        refine gf_2_0 23 dX2_isCover_20 rfl kf_X2_9 (by first | decide | assumption | exact ⟨Nat.le_of_ble_eq_true rfl, rfl⟩) ?_
        refine g_iload_n 24 dX2_isCover_23 rfl rfl ?_
        refine ga_ild (i) 25 dX2_isCover_24 rfl (by first | decide | assumption | exact ⟨Nat.le_of_ble_eq_true rfl, rfl⟩) rfl (by rw [hln]; omega) ?_
        refine g_mabs 28 dX2_isCover_25 rfl kl_X2_22 ⟨Nat.le_of_ble_eq_true rfl, Nat.le_of_ble_eq_true rfl, Nat.le_of_ble_eq_true rfl, Nat.le_of_ble_eq_true rfl⟩ (Nat.le_of_ble_eq_true rfl) ?_
        refine g_iadd 29 dX2_isCover_28 rfl ?_
        refine g_istore_n 30 dX2_isCover_29 rfl (by decide) ?_
        refine g_iinc (1) 33 dX2_isCover_30 rfl (by decide) (by decide) rfl ?_
        refine g_goto 4 dX2_isCover_33 (by decide) ?_
        exact ih (i + 1) _ _ (by omega) (by rw [cv, hs]; simp [h15]) (nI_succ i).symm

set_option maxRecDepth 100000 in
set_option maxHeartbeats 4000000 in
theorem c_isCoverL (g : Gl) (l : Launch) {k : Nat} (hk : k < 174 ∧ sh k = 2) (set : Int32) (F : Nat → Nat → Int32) (J : Nat → Int64) : Ct g l yX2_isCover cX2_isCover 4 (some .boolean) 1 0 0 [.ref k, .int set] (St F J) (fun r S2 => r = some (.int (if F k 1 ≤ cv (F (k + 1)) set 6 then 0 else 1)) ∧ S2 = St F J) := by
  refine Ct.of rfl (by decide) rfl (Nat.le_of_ble_eq_true rfl) ?_
  refine g_iconst (0) 1 dX2_isCover_0 rfl (by decide) ?_
  refine g_istore_n 2 dX2_isCover_1 rfl (by decide) ?_
  refine g_iconst (0) 3 dX2_isCover_2 rfl (by decide) ?_
  refine g_istore_n 4 dX2_isCover_3 rfl (by decide) ?_
  exact lp_isCoverL g l hk set F J 6 0 _ _ rfl rfl rfl

abbrev spare (w : Nat → Int32) (d set : Int32) (j : Nat) : Prop := set >>> (nI j &&& 31) &&& 1 = 1 ∧ ¬ d ≤ cv w (set &&& ((1 : Int32) <<< (nI j &&& 31) ^^^ -1)) 6
abbrev lcov (w : Nat → Int32) (d set : Int32) : Prop := ¬ d ≤ cv w set 6 ∧ ∀ j, j < 6 → ¬ spare w d set j

set_option maxRecDepth 100000 in
set_option maxHeartbeats 4000000 in
theorem lp_isLeastCover (g : Gl) (l : Launch) {k : Nat} (hk : k < 174 ∧ sh k = 2) (set : Int32) (F : Nat → Nat → Int32) (J : Nat → Int64) (h0 : ¬ F k 1 ≤ cv (F (k + 1)) set 6) {XX : State → Method → Prop} (n : Nat) : ∀ (i : Nat) (ix : Int32), i + n = 6 → (∀ j, j < i → ¬ spare (F (k + 1)) (F k 1) set j) → ix = nI i → Gj g l (rmd 2 0 0) XX (QM g (fun r S2 => (∃ x : Int32, r = some (.int x) ∧ ((x = 1 ∧ lcov (F (k + 1)) (F k 1) set) ∨ (x = 0 ∧ ¬ lcov (F (k + 1)) (F k 1) set))) ∧ S2 = St F J) 0 0) RX2 cX2_isLeastCover 3 (some .boolean) 12 [some (.ref k), some (.int set), some (.int ix)] [] (St F J) 0 0 := by
  obtain ⟨hw, hln⟩ := isl_w k hk.1 hk.2
  induction n with
  | zero =>
    intro i ix hi hs hx
    obtain rfl : i = 6 := by omega
    subst hx
    refine g_iload_n 13 dX2_isLeastCover_12 rfl rfl ?_
    refine g_bipush (6) 15 dX2_isLeastCover_13 rfl (by decide) ?_
    refine g_icmp_ge 49 18 dX2_isLeastCover_15 rfl (by decide) (fun h15 => ?_) (fun h15 => ?_)
    · refine g_iconst (1) 50 dX2_isLeastCover_49 rfl (by decide) ?_
      refine g_zret dX2_isLeastCover_50 (by decide) ?_
      exact ⟨⟨1, rfl, Or.inl ⟨rfl, h0, hs⟩⟩, rfl⟩
    · exact absurd (by decide) h15
  | succ n ih =>
    intro i ix hi hs hx
    subst hx
    refine g_iload_n 13 dX2_isLeastCover_12 rfl rfl ?_
    refine g_bipush (6) 15 dX2_isLeastCover_13 rfl (by decide) ?_
    refine g_icmp_ge 49 18 dX2_isLeastCover_15 rfl (by decide) (fun h15 => ?_) (fun h15 => ?_)
    · exact absurd h15 (lt6 (by omega))
    · refine g_iload_n 19 dX2_isLeastCover_18 rfl rfl ?_
      refine g_iload_n 20 dX2_isLeastCover_19 rfl rfl ?_
      refine g_ishr 21 dX2_isLeastCover_20 rfl ?_
      refine g_iconst (1) 22 dX2_isLeastCover_21 rfl (by decide) ?_
      refine g_iand 23 dX2_isLeastCover_22 rfl ?_
      refine g_iconst (1) 24 dX2_isLeastCover_23 rfl (by decide) ?_
      refine g_icmp_ne 43 27 dX2_isLeastCover_24 rfl (by decide) (fun h24 => ?_) (fun h24 => ?_)
      · refine g_iinc (1) 46 dX2_isLeastCover_43 rfl (by decide) (by decide) rfl ?_
        refine g_goto 12 dX2_isLeastCover_46 (by decide) ?_
        refine ih (i + 1) _ (by omega) (fun j hj => ?_) (nI_succ i).symm
        rcases Nat.lt_or_ge j i with q | q
        · exact hs j q
        · obtain rfl : j = i := by omega
          first | exact fun z => h24 z.1 | exact fun z => z.2 (b01.mp h38)
      · refine g_aload_n 28 dX2_isLeastCover_27 rfl rfl ?_
        refine g_iload_n 29 dX2_isLeastCover_28 rfl rfl ?_
        refine g_iconst (1) 30 dX2_isLeastCover_29 rfl (by decide) ?_
        refine g_iload_n 31 dX2_isLeastCover_30 rfl rfl ?_
        refine g_ishl 32 dX2_isLeastCover_31 rfl ?_
        refine g_iconst (-1) 33 dX2_isLeastCover_32 rfl (by decide) ?_
        refine g_ixor 34 dX2_isLeastCover_33 rfl ?_
        refine g_iand 35 dX2_isLeastCover_34 rfl ?_
        refine g_v1 2 38 dX2_isLeastCover_35 rfl kl_X2_49 mv_X2_isCover rfl ⟨Nat.le_of_ble_eq_true rfl, Nat.le_of_ble_eq_true rfl⟩ (Nat.le_of_ble_eq_true rfl) (by first | decide | assumption | exact ⟨Nat.le_of_ble_eq_true rfl, rfl⟩) (c_isCoverL g l hk _ F J) ?_
        rintro _ _ ⟨rfl, rfl⟩
        try simp only [Option.toList] 
        refine g_if_eq 43 41 dX2_isLeastCover_38 rfl (by decide) (fun h38 => ?_) (fun h38 => ?_)
        · refine g_iinc (1) 46 dX2_isLeastCover_43 rfl (by decide) (by decide) rfl ?_
          refine g_goto 12 dX2_isLeastCover_46 (by decide) ?_
          refine ih (i + 1) _ (by omega) (fun j hj => ?_) (nI_succ i).symm
          rcases Nat.lt_or_ge j i with q | q
          · exact hs j q
          · obtain rfl : j = i := by omega
            first | exact fun z => h24 z.1 | exact fun z => z.2 (b01.mp h38)
        · refine g_iconst (0) 42 dX2_isLeastCover_41 rfl (by decide) ?_
          refine g_zret dX2_isLeastCover_42 (by decide) ?_
          exact ⟨⟨0, rfl, Or.inr ⟨rfl, fun q => q.2 i (by omega) ⟨h24, fun z => h38 (b01.mpr z)⟩⟩⟩, rfl⟩

set_option maxRecDepth 100000 in
set_option maxHeartbeats 4000000 in
theorem c_isLeastCover (g : Gl) (l : Launch) {k : Nat} (hk : k < 174 ∧ sh k = 2) (set : Int32) (F : Nat → Nat → Int32) (J : Nat → Int64) : Ct g l yX2_isLeastCover cX2_isLeastCover 3 (some .boolean) 2 0 0 [.ref k, .int set] (St F J) (fun r S2 => (∃ x : Int32, r = some (.int x) ∧ ((x = 1 ∧ lcov (F (k + 1)) (F k 1) set) ∨ (x = 0 ∧ ¬ lcov (F (k + 1)) (F k 1) set))) ∧ S2 = St F J) := by
  refine Ct.of rfl (by decide) rfl (Nat.le_of_ble_eq_true rfl) ?_
  refine g_aload_n 1 dX2_isLeastCover_0 rfl rfl ?_
  refine g_iload_n 2 dX2_isLeastCover_1 rfl rfl ?_
  refine g_v1 2 5 dX2_isLeastCover_2 rfl kl_X2_49 mv_X2_isCover rfl ⟨Nat.le_of_ble_eq_true rfl, Nat.le_of_ble_eq_true rfl⟩ (Nat.le_of_ble_eq_true rfl) (by first | decide | assumption | exact ⟨Nat.le_of_ble_eq_true rfl, rfl⟩) (c_isCoverL g l hk _ F J) ?_
  rintro _ _ ⟨rfl, rfl⟩
  refine g_if_ne 10 8 dX2_isLeastCover_5 rfl (by decide) (fun h5 => ?_) (fun h5 => ?_)
  · refine g_iconst (0) 11 dX2_isLeastCover_10 rfl (by decide) ?_
    refine g_istore_n 12 dX2_isLeastCover_11 rfl (by decide) ?_
    exact lp_isLeastCover g l hk set F J (fun z => h5 (b01.mpr z)) 6 0 _ rfl (fun j hj => absurd hj (Nat.not_lt_zero j)) rfl
  · refine g_iconst (0) 9 dX2_isLeastCover_8 rfl (by decide) ?_
    refine g_zret dX2_isLeastCover_9 (by decide) ?_
    exact ⟨⟨0, rfl, Or.inr ⟨rfl, fun q => q.1 (b01.mp h5)⟩⟩, rfl⟩

abbrev okL (w : Nat → Int32) (d : Int32) : Prop := (∀ j, j < 6 → abs32 (w j) ≤ 9999) ∧ d ≤ 99999

set_option maxRecDepth 100000 in
set_option maxHeartbeats 4000000 in
theorem lp_isTooGreat (g : Gl) (l : Launch) {k : Nat} (hk : k < 174 ∧ sh k = 2) (F : Nat → Nat → Int32) (J : Nat → Int64) {XX : State → Method → Prop} (n : Nat) : ∀ (i : Nat) (ix : Int32), i + n = 6 → (∀ j, j < i → abs32 (F (k + 1) j) ≤ 9999) → ix = nI i → Gj g l (rmd 1 0 0) XX (QM g (fun r S2 => (∃ x : Int32, r = some (.int x) ∧ ((x = 0 ∧ okL (F (k + 1)) (F k 1)) ∨ (x = 1 ∧ ¬ okL (F (k + 1)) (F k 1)))) ∧ S2 = St F J) 0 0) RX2 cX2_isTooGreat 2 (some .boolean) 2 [some (.ref k), some (.int ix)] [] (St F J) 0 0 := by
  obtain ⟨hw, hln⟩ := isl_w k hk.1 hk.2
  induction n with
  | zero =>
    intro i ix hi hs hx
    obtain rfl : i = 6 := by omega
    subst hx
    refine g_iload_n 3 dX2_isTooGreat_2 rfl rfl ?_
    refine g_bipush (6) 5 dX2_isTooGreat_3 rfl (by decide) ?_
    refine g_icmp_ge 31 8 dX2_isTooGreat_5 rfl (by decide) (fun h5 => ?_) (fun h5 => ?_)
    · refine g_aload_n 32 dX2_isTooGreat_31 rfl rfl ?_
      refine gf_2_1 35 dX2_isTooGreat_32 rfl kf_X2_15 (by first | decide | assumption | exact ⟨Nat.le_of_ble_eq_true rfl, rfl⟩) ?_
      refine g_ldc 37 dX2_isTooGreat_35 rfl kc_X2_45 ?_
      refine g_icmp_le 44 40 dX2_isTooGreat_37 rfl (by decide) (fun h37 => ?_) (fun h37 => ?_)
      · refine g_iconst (0) 45 dX2_isTooGreat_44 rfl (by decide) ?_
        refine g_zret dX2_isTooGreat_45 (by decide) ?_
        first | exact ⟨⟨0, rfl, Or.inl ⟨rfl, hs, h37⟩⟩, rfl⟩ | exact ⟨⟨1, rfl, Or.inr ⟨rfl, fun q => h37 q.2⟩⟩, rfl⟩
      · refine g_iconst (1) 41 dX2_isTooGreat_40 rfl (by decide) ?_
        refine g_goto 45 dX2_isTooGreat_41 (by decide) ?_
        refine g_zret dX2_isTooGreat_45 (by decide) ?_
        first | exact ⟨⟨0, rfl, Or.inl ⟨rfl, hs, h37⟩⟩, rfl⟩ | exact ⟨⟨1, rfl, Or.inr ⟨rfl, fun q => h37 q.2⟩⟩, rfl⟩
    · exact absurd (by decide) h5
  | succ n ih =>
    intro i ix hi hs hx
    subst hx
    refine g_iload_n 3 dX2_isTooGreat_2 rfl rfl ?_
    refine g_bipush (6) 5 dX2_isTooGreat_3 rfl (by decide) ?_
    refine g_icmp_ge 31 8 dX2_isTooGreat_5 rfl (by decide) (fun h5 => ?_) (fun h5 => ?_)
    · exact absurd h5 (lt6 (by omega))
    · refine g_aload_n 9 dX2_isTooGreat_8 rfl rfl ?_
      refine gf_2_0 12 dX2_isTooGreat_9 rfl kf_X2_9 (by first | decide | assumption | exact ⟨Nat.le_of_ble_eq_true rfl, rfl⟩) ?_
      refine g_iload_n 13 dX2_isTooGreat_12 rfl rfl ?_
      refine ga_ild (i) 14 dX2_isTooGreat_13 rfl (by first | decide | assumption | exact ⟨Nat.le_of_ble_eq_true rfl, rfl⟩) rfl (by rw [hln]; omega) ?_
      refine g_mabs 17 dX2_isTooGreat_14 rfl kl_X2_22 ⟨Nat.le_of_ble_eq_true rfl, Nat.le_of_ble_eq_true rfl, Nat.le_of_ble_eq_true rfl, Nat.le_of_ble_eq_true rfl⟩ (Nat.le_of_ble_eq_true rfl) ?_
      refine g_sipush (9999) 20 dX2_isTooGreat_17 rfl (by decide) ?_
      refine g_icmp_le 25 23 dX2_isTooGreat_20 rfl (by decide) (fun h20 => ?_) (fun h20 => ?_)
      · refine g_iinc (1) 28 dX2_isTooGreat_25 rfl (by decide) (by decide) rfl ?_
        refine g_goto 2 dX2_isTooGreat_28 (by decide) ?_
        refine ih (i + 1) _ (by omega) (fun j hj => ?_) (nI_succ i).symm
        rcases Nat.lt_or_ge j i with q | q
        · exact hs j q
        · obtain rfl : j = i := by omega
          exact h20
      · refine g_iconst (1) 24 dX2_isTooGreat_23 rfl (by decide) ?_
        refine g_zret dX2_isTooGreat_24 (by decide) ?_
        exact ⟨⟨1, rfl, Or.inr ⟨rfl, fun q => h20 (q.1 i (by omega))⟩⟩, rfl⟩

set_option maxRecDepth 100000 in
set_option maxHeartbeats 4000000 in
theorem c_isTooGreat (g : Gl) (l : Launch) {k : Nat} (hk : k < 174 ∧ sh k = 2) (F : Nat → Nat → Int32) (J : Nat → Int64) : Ct g l yX2_isTooGreat cX2_isTooGreat 2 (some .boolean) 1 0 0 [.ref k] (St F J) (fun r S2 => (∃ x : Int32, r = some (.int x) ∧ ((x = 0 ∧ okL (F (k + 1)) (F k 1)) ∨ (x = 1 ∧ ¬ okL (F (k + 1)) (F k 1)))) ∧ S2 = St F J) := by
  refine Ct.of rfl (by decide) rfl (Nat.le_of_ble_eq_true rfl) ?_
  refine g_iconst (0) 1 dX2_isTooGreat_0 rfl (by decide) ?_
  refine g_istore_n 2 dX2_isTooGreat_1 rfl (by decide) ?_
  exact lp_isTooGreat g l hk F J 6 0 _ rfl (fun j hj => absurd hj (Nat.not_lt_zero j)) rfl

set_option maxRecDepth 100000 in
set_option maxHeartbeats 4000000 in
theorem c_signed (g : Gl) (l : Launch) (x y : Int32) (S : Sg) : Ct g l yX2_signed cX2_signed 2 (some .int) 0 0 0 [.int x, .int y] S (fun r S2 => r = some (.int (sg32 x y)) ∧ S2 = S) := by
  refine Ct.of rfl (by decide) rfl (Nat.le_of_ble_eq_true rfl) ?_
  refine g_iload_n 1 dX2_signed_0 rfl rfl ?_
  refine g_if_ge 9 4 dX2_signed_1 rfl (by decide) (fun h1 => ?_) (fun h1 => ?_)
  · refine g_iload_n 10 dX2_signed_9 rfl rfl ?_
    refine g_iret dX2_signed_10 ?_
    exact ⟨by simp [sg32, h1], rfl⟩
  · refine g_iload_n 5 dX2_signed_4 rfl rfl ?_
    refine g_ineg 6 dX2_signed_5 rfl ?_
    refine g_goto 10 dX2_signed_6 (by decide) ?_
    refine g_iret dX2_signed_10 ?_
    exact ⟨by simp [sg32, h1], rfl⟩

set_option maxRecDepth 100000 in
set_option maxHeartbeats 4000000 in
theorem lp_becomeEmpty (g : Gl) (l : Launch) {k : Nat} (hk : k < 174 ∧ sh k = 2) (F : Nat → Nat → Int32) (J : Nat → Int64) {XX : State → Method → Prop} (n : Nat) : ∀ (i : Nat) (ix : Int32) (G : Nat → Nat → Int32), i + n = 6 → ix = nI i → G = fillL F k (fun _ => 0) i → Gj g l (rmd 0 0 0) XX (QM g (fun r S2 => r = none ∧ S2 = St (setL F k (fun _ => 0) (0)) J) 0 0) RX2 cX2_becomeEmpty 2 none 2 [some (.ref k), some (.int ix)] [] (St G J) 0 0 := by
  obtain ⟨hw, hln⟩ := isl_w k hk.1 hk.2
  induction n with
  | zero =>
    intro i ix G hi hx hG
    obtain rfl : i = 6 := by omega
    subst hx; subst hG
    refine g_iload_n 3 dX2_becomeEmpty_2 rfl rfl ?_
    refine g_bipush (6) 5 dX2_becomeEmpty_3 rfl (by decide) ?_
    refine g_icmp_ge 21 8 dX2_becomeEmpty_5 rfl (by decide) (fun h5 => ?_) (fun h5 => ?_)
    · refine g_aload_n 22 dX2_becomeEmpty_21 rfl rfl ?_
      refine g_iconst (0) 23 dX2_becomeEmpty_22 rfl (by decide) ?_
      refine gp_2_1 26 dX2_becomeEmpty_23 rfl kf_X2_15 (by first | decide | assumption | exact ⟨Nat.le_of_ble_eq_true rfl, rfl⟩) ?_
      refine g_vret dX2_becomeEmpty_26 ?_
      exact ⟨rfl, rfl⟩
    · exact absurd (by decide) h5
  | succ n ih =>
    intro i ix G hi hx hG
    subst hx; subst hG
    refine g_iload_n 3 dX2_becomeEmpty_2 rfl rfl ?_
    refine g_bipush (6) 5 dX2_becomeEmpty_3 rfl (by decide) ?_
    refine g_icmp_ge 21 8 dX2_becomeEmpty_5 rfl (by decide) (fun h5 => ?_) (fun h5 => ?_)
    · exact absurd h5 (lt6 (by omega))
    · refine g_aload_n 9 dX2_becomeEmpty_8 rfl rfl ?_
      refine gf_2_0 12 dX2_becomeEmpty_9 rfl kf_X2_9 (by first | decide | assumption | exact ⟨Nat.le_of_ble_eq_true rfl, rfl⟩) ?_
      refine g_iload_n 13 dX2_becomeEmpty_12 rfl rfl ?_
      refine g_iconst (0) 14 dX2_becomeEmpty_13 rfl (by decide) ?_
      refine ga_ist (i) 15 dX2_becomeEmpty_14 rfl (by first | decide | assumption | exact ⟨Nat.le_of_ble_eq_true rfl, rfl⟩) rfl (by rw [hln]; omega) ?_
      refine g_iinc (1) 18 dX2_becomeEmpty_15 rfl (by decide) (by decide) rfl ?_
      refine g_goto 2 dX2_becomeEmpty_18 (by decide) ?_
      exact ih (i + 1) _ _  (by omega) (nI_succ i).symm (fillL_s _ _ _ _ rfl)

set_option maxRecDepth 100000 in
set_option maxHeartbeats 4000000 in
theorem c_becomeEmpty (g : Gl) (l : Launch) {k : Nat} (hk : k < 174 ∧ sh k = 2) (F : Nat → Nat → Int32) (J : Nat → Int64) : Ct g l yX2_becomeEmpty cX2_becomeEmpty 2 none 0 0 0 [.ref k] (St F J) (fun r S2 => r = none ∧ S2 = St (setL F k (fun _ => 0) (0)) J) := by
  refine Ct.of rfl (by decide) rfl (Nat.le_of_ble_eq_true rfl) ?_
  refine g_iconst (0) 1 dX2_becomeEmpty_0 rfl (by decide) ?_
  refine g_istore_n 2 dX2_becomeEmpty_1 rfl (by decide) ?_
  exact lp_becomeEmpty g l hk F J 6 0 _ _  rfl rfl (fillL_0 _ _ _).symm

set_option maxRecDepth 100000 in
set_option maxHeartbeats 4000000 in
theorem lp_becomeSame (g : Gl) (l : Launch) {k : Nat} (hk : k < 174 ∧ sh k = 2) {k2 : Nat} (hk2 : k2 < 174 ∧ sh k2 = 2) (hne : k2 ≠ k) (F : Nat → Nat → Int32) (J : Nat → Int64) {XX : State → Method → Prop} (n : Nat) : ∀ (i : Nat) (ix : Int32) (G : Nat → Nat → Int32), i + n = 6 → ix = nI i → G = fillL F k (F (k2 + 1)) i → Gj g l (rmd 0 0 0) XX (QM g (fun r S2 => r = none ∧ S2 = St (setL F k (F (k2 + 1)) (F k2 1)) J) 0 0) RX2 cX2_becomeSame 3 none 2 [some (.ref k), some (.ref k2), some (.int ix)] [] (St G J) 0 0 := by
  obtain ⟨hw, hln⟩ := isl_w k hk.1 hk.2
  obtain ⟨hw2, hln2⟩ := isl_w k2 hk2.1 hk2.2
  have hn2 := isl_ne hk hk2
  have hn3 : k2 + 1 ≠ k + 1 := by omega
  have hn4 := isl_ne hk2 hk
  induction n with
  | zero =>
    intro i ix G hi hx hG
    obtain rfl : i = 6 := by omega
    subst hx; subst hG
    refine g_iload_n 3 dX2_becomeSame_2 rfl rfl ?_
    refine g_bipush (6) 5 dX2_becomeSame_3 rfl (by decide) ?_
    refine g_icmp_ge 26 8 dX2_becomeSame_5 rfl (by decide) (fun h5 => ?_) (fun h5 => ?_)
    · refine g_aload_n 27 dX2_becomeSame_26 rfl rfl ?_
      refine g_aload_n 28 dX2_becomeSame_27 rfl rfl ?_
      refine gf_2_1 31 dX2_becomeSame_28 rfl kf_X2_15 (by first | decide | assumption | exact ⟨Nat.le_of_ble_eq_true rfl, rfl⟩) ?_
      refine gp_2_1 34 dX2_becomeSame_31 rfl kf_X2_15 (by first | decide | assumption | exact ⟨Nat.le_of_ble_eq_true rfl, rfl⟩) ?_
      refine g_vret dX2_becomeSame_34 ?_
      exact ⟨rfl, by simp only [setL, fillL_ne _ _ _ hn2, fillL_ne _ _ _ hn3]⟩
    · exact absurd (by decide) h5
  | succ n ih =>
    intro i ix G hi hx hG
    subst hx; subst hG
    refine g_iload_n 3 dX2_becomeSame_2 rfl rfl ?_
    refine g_bipush (6) 5 dX2_becomeSame_3 rfl (by decide) ?_
    refine g_icmp_ge 26 8 dX2_becomeSame_5 rfl (by decide) (fun h5 => ?_) (fun h5 => ?_)
    · exact absurd h5 (lt6 (by omega))
    · refine g_aload_n 9 dX2_becomeSame_8 rfl rfl ?_
      refine gf_2_0 12 dX2_becomeSame_9 rfl kf_X2_9 (by first | decide | assumption | exact ⟨Nat.le_of_ble_eq_true rfl, rfl⟩) ?_
      refine g_iload_n 13 dX2_becomeSame_12 rfl rfl ?_
      refine g_aload_n 14 dX2_becomeSame_13 rfl rfl ?_
      refine gf_2_0 17 dX2_becomeSame_14 rfl kf_X2_9 (by first | decide | assumption | exact ⟨Nat.le_of_ble_eq_true rfl, rfl⟩) ?_
      refine g_iload_n 18 dX2_becomeSame_17 rfl rfl ?_
      refine ga_ild (i) 19 dX2_becomeSame_18 rfl (by first | decide | assumption | exact ⟨Nat.le_of_ble_eq_true rfl, rfl⟩) rfl (by rw [hln2]; omega) ?_
      refine ga_ist (i) 20 dX2_becomeSame_19 rfl (by first | decide | assumption | exact ⟨Nat.le_of_ble_eq_true rfl, rfl⟩) rfl (by rw [hln]; omega) ?_
      refine g_iinc (1) 23 dX2_becomeSame_20 rfl (by decide) (by decide) rfl ?_
      refine g_goto 2 dX2_becomeSame_23 (by decide) ?_
      exact ih (i + 1) _ _  (by omega) (nI_succ i).symm (fillL_s _ _ _ _ (by simp only [fillL_ne _ _ _ hn2, fillL_ne _ _ _ hn3]))

set_option maxRecDepth 100000 in
set_option maxHeartbeats 4000000 in
theorem c_becomeSame (g : Gl) (l : Launch) {k : Nat} (hk : k < 174 ∧ sh k = 2) {k2 : Nat} (hk2 : k2 < 174 ∧ sh k2 = 2) (hne : k2 ≠ k) (F : Nat → Nat → Int32) (J : Nat → Int64) : Ct g l yX2_becomeSame cX2_becomeSame 3 none 0 0 0 [.ref k, .ref k2] (St F J) (fun r S2 => r = none ∧ S2 = St (setL F k (F (k2 + 1)) (F k2 1)) J) := by
  refine Ct.of rfl (by decide) rfl (Nat.le_of_ble_eq_true rfl) ?_
  refine g_iconst (0) 1 dX2_becomeSame_0 rfl (by decide) ?_
  refine g_istore_n 2 dX2_becomeSame_1 rfl (by decide) ?_
  exact lp_becomeSame g l hk hk2 hne F J 6 0 _ _  rfl rfl (fillL_0 _ _ _).symm

set_option maxRecDepth 100000 in
set_option maxHeartbeats 4000000 in
theorem lp_becomeTimes (g : Gl) (l : Launch) {k : Nat} (hk : k < 174 ∧ sh k = 2) {k2 : Nat} (hk2 : k2 < 174 ∧ sh k2 = 2) (hne : k2 ≠ k) (m : Int32) (F : Nat → Nat → Int32) (J : Nat → Int64) {XX : State → Method → Prop} (n : Nat) : ∀ (i : Nat) (ix : Int32) (G : Nat → Nat → Int32), i + n = 6 → ix = nI i → G = fillL F k (fun j => F (k2 + 1) j * m) i → Gj g l (rmd 0 0 0) XX (QM g (fun r S2 => r = none ∧ S2 = St (setL F k (fun j => F (k2 + 1) j * m) (F k2 1 * m)) J) 0 0) RX2 cX2_becomeTimes 4 none 2 [some (.ref k), some (.ref k2), some (.int m), some (.int ix)] [] (St G J) 0 0 := by
  obtain ⟨hw, hln⟩ := isl_w k hk.1 hk.2
  obtain ⟨hw2, hln2⟩ := isl_w k2 hk2.1 hk2.2
  have hn2 := isl_ne hk hk2
  have hn3 : k2 + 1 ≠ k + 1 := by omega
  have hn4 := isl_ne hk2 hk
  induction n with
  | zero =>
    intro i ix G hi hx hG
    obtain rfl : i = 6 := by omega
    subst hx; subst hG
    refine g_iload_n 3 dX2_becomeTimes_2 rfl rfl ?_
    refine g_bipush (6) 5 dX2_becomeTimes_3 rfl (by decide) ?_
    refine g_icmp_ge 28 8 dX2_becomeTimes_5 rfl (by decide) (fun h5 => ?_) (fun h5 => ?_)
    · refine g_aload_n 29 dX2_becomeTimes_28 rfl rfl ?_
      refine g_aload_n 30 dX2_becomeTimes_29 rfl rfl ?_
      refine gf_2_1 33 dX2_becomeTimes_30 rfl kf_X2_15 (by first | decide | assumption | exact ⟨Nat.le_of_ble_eq_true rfl, rfl⟩) ?_
      refine g_iload_n 34 dX2_becomeTimes_33 rfl rfl ?_
      refine g_imul 35 dX2_becomeTimes_34 rfl ?_
      refine gp_2_1 38 dX2_becomeTimes_35 rfl kf_X2_15 (by first | decide | assumption | exact ⟨Nat.le_of_ble_eq_true rfl, rfl⟩) ?_
      refine g_vret dX2_becomeTimes_38 ?_
      exact ⟨rfl, by simp only [setL, fillL_ne _ _ _ hn2, fillL_ne _ _ _ hn3]⟩
    · exact absurd (by decide) h5
  | succ n ih =>
    intro i ix G hi hx hG
    subst hx; subst hG
    refine g_iload_n 3 dX2_becomeTimes_2 rfl rfl ?_
    refine g_bipush (6) 5 dX2_becomeTimes_3 rfl (by decide) ?_
    refine g_icmp_ge 28 8 dX2_becomeTimes_5 rfl (by decide) (fun h5 => ?_) (fun h5 => ?_)
    · exact absurd h5 (lt6 (by omega))
    · refine g_aload_n 9 dX2_becomeTimes_8 rfl rfl ?_
      refine gf_2_0 12 dX2_becomeTimes_9 rfl kf_X2_9 (by first | decide | assumption | exact ⟨Nat.le_of_ble_eq_true rfl, rfl⟩) ?_
      refine g_iload_n 13 dX2_becomeTimes_12 rfl rfl ?_
      refine g_aload_n 14 dX2_becomeTimes_13 rfl rfl ?_
      refine gf_2_0 17 dX2_becomeTimes_14 rfl kf_X2_9 (by first | decide | assumption | exact ⟨Nat.le_of_ble_eq_true rfl, rfl⟩) ?_
      refine g_iload_n 18 dX2_becomeTimes_17 rfl rfl ?_
      refine ga_ild (i) 19 dX2_becomeTimes_18 rfl (by first | decide | assumption | exact ⟨Nat.le_of_ble_eq_true rfl, rfl⟩) rfl (by rw [hln2]; omega) ?_
      refine g_iload_n 20 dX2_becomeTimes_19 rfl rfl ?_
      refine g_imul 21 dX2_becomeTimes_20 rfl ?_
      refine ga_ist (i) 22 dX2_becomeTimes_21 rfl (by first | decide | assumption | exact ⟨Nat.le_of_ble_eq_true rfl, rfl⟩) rfl (by rw [hln]; omega) ?_
      refine g_iinc (1) 25 dX2_becomeTimes_22 rfl (by decide) (by decide) rfl ?_
      refine g_goto 2 dX2_becomeTimes_25 (by decide) ?_
      exact ih (i + 1) _ _  (by omega) (nI_succ i).symm (fillL_s _ _ _ _ (by simp only [fillL_ne _ _ _ hn2, fillL_ne _ _ _ hn3]))

set_option maxRecDepth 100000 in
set_option maxHeartbeats 4000000 in
theorem c_becomeTimes (g : Gl) (l : Launch) {k : Nat} (hk : k < 174 ∧ sh k = 2) {k2 : Nat} (hk2 : k2 < 174 ∧ sh k2 = 2) (hne : k2 ≠ k) (m : Int32) (F : Nat → Nat → Int32) (J : Nat → Int64) : Ct g l yX2_becomeTimes cX2_becomeTimes 4 none 0 0 0 [.ref k, .ref k2, .int m] (St F J) (fun r S2 => r = none ∧ S2 = St (setL F k (fun j => F (k2 + 1) j * m) (F k2 1 * m)) J) := by
  refine Ct.of rfl (by decide) rfl (Nat.le_of_ble_eq_true rfl) ?_
  refine g_iconst (0) 1 dX2_becomeTimes_0 rfl (by decide) ?_
  refine g_istore_n 2 dX2_becomeTimes_1 rfl (by decide) ?_
  exact lp_becomeTimes g l hk hk2 hne m F J 6 0 _ _  rfl rfl (fillL_0 _ _ _).symm

set_option maxRecDepth 100000 in
set_option maxHeartbeats 4000000 in
theorem lp_becomeTrimmed (g : Gl) (l : Launch) {k : Nat} (hk : k < 174 ∧ sh k = 2) {k2 : Nat} (hk2 : k2 < 174 ∧ sh k2 = 2) (hne : k2 ≠ k) (F : Nat → Nat → Int32) (J : Nat → Int64) {XX : State → Method → Prop} (n : Nat) : ∀ (i : Nat) (ix : Int32) (G : Nat → Nat → Int32) (x3 : Option Value), i + n = 6 → ix = nI i → G = fillL F k (fun j => sg32 (F (k2 + 1) j) (min32 (abs32 (F (k2 + 1) j)) (F k2 1))) i → Gj g l (rmd 1 0 0) XX (QM g (fun r S2 => r = none ∧ S2 = St (setL F k (fun j => sg32 (F (k2 + 1) j) (min32 (abs32 (F (k2 + 1) j)) (F k2 1))) (F k2 1)) J) 0 0) RX2 cX2_becomeTrimmed 4 none 2 [some (.ref k), some (.ref k2), some (.int ix), x3] [] (St G J) 0 0 := by
  obtain ⟨hw, hln⟩ := isl_w k hk.1 hk.2
  obtain ⟨hw2, hln2⟩ := isl_w k2 hk2.1 hk2.2
  have hn2 := isl_ne hk hk2
  have hn3 : k2 + 1 ≠ k + 1 := by omega
  have hn4 := isl_ne hk2 hk
  induction n with
  | zero =>
    intro i ix G x3 hi hx hG
    obtain rfl : i = 6 := by omega
    subst hx; subst hG
    refine g_iload_n 3 dX2_becomeTrimmed_2 rfl rfl ?_
    refine g_bipush (6) 5 dX2_becomeTrimmed_3 rfl (by decide) ?_
    refine g_icmp_ge 42 8 dX2_becomeTrimmed_5 rfl (by decide) (fun h5 => ?_) (fun h5 => ?_)
    · refine g_aload_n 43 dX2_becomeTrimmed_42 rfl rfl ?_
      refine g_aload_n 44 dX2_becomeTrimmed_43 rfl rfl ?_
      refine gf_2_1 47 dX2_becomeTrimmed_44 rfl kf_X2_15 (by first | decide | assumption | exact ⟨Nat.le_of_ble_eq_true rfl, rfl⟩) ?_
      refine gp_2_1 50 dX2_becomeTrimmed_47 rfl kf_X2_15 (by first | decide | assumption | exact ⟨Nat.le_of_ble_eq_true rfl, rfl⟩) ?_
      refine g_vret dX2_becomeTrimmed_50 ?_
      exact ⟨rfl, by simp only [setL, fillL_ne _ _ _ hn2, fillL_ne _ _ _ hn3]⟩
    · exact absurd (by decide) h5
  | succ n ih =>
    intro i ix G x3 hi hx hG
    subst hx; subst hG
    refine g_iload_n 3 dX2_becomeTrimmed_2 rfl rfl ?_
    refine g_bipush (6) 5 dX2_becomeTrimmed_3 rfl (by decide) ?_
    refine g_icmp_ge 42 8 dX2_becomeTrimmed_5 rfl (by decide) (fun h5 => ?_) (fun h5 => ?_)
    · exact absurd h5 (lt6 (by omega))
    · refine g_aload_n 9 dX2_becomeTrimmed_8 rfl rfl ?_
      refine gf_2_0 12 dX2_becomeTrimmed_9 rfl kf_X2_9 (by first | decide | assumption | exact ⟨Nat.le_of_ble_eq_true rfl, rfl⟩) ?_
      refine g_iload_n 13 dX2_becomeTrimmed_12 rfl rfl ?_
      refine ga_ild (i) 14 dX2_becomeTrimmed_13 rfl (by first | decide | assumption | exact ⟨Nat.le_of_ble_eq_true rfl, rfl⟩) rfl (by rw [hln2]; omega) ?_
      refine g_istore_n 15 dX2_becomeTrimmed_14 rfl (by decide) ?_
      refine g_aload_n 16 dX2_becomeTrimmed_15 rfl rfl ?_
      refine gf_2_0 19 dX2_becomeTrimmed_16 rfl kf_X2_9 (by first | decide | assumption | exact ⟨Nat.le_of_ble_eq_true rfl, rfl⟩) ?_
      refine g_iload_n 20 dX2_becomeTrimmed_19 rfl rfl ?_
      refine g_iload_n 21 dX2_becomeTrimmed_20 rfl rfl ?_
      refine g_iload_n 22 dX2_becomeTrimmed_21 rfl rfl ?_
      refine g_mabs 25 dX2_becomeTrimmed_22 rfl kl_X2_22 ⟨Nat.le_of_ble_eq_true rfl, Nat.le_of_ble_eq_true rfl, Nat.le_of_ble_eq_true rfl, Nat.le_of_ble_eq_true rfl⟩ (Nat.le_of_ble_eq_true rfl) ?_
      refine g_aload_n 26 dX2_becomeTrimmed_25 rfl rfl ?_
      refine gf_2_1 29 dX2_becomeTrimmed_26 rfl kf_X2_15 (by first | decide | assumption | exact ⟨Nat.le_of_ble_eq_true rfl, rfl⟩) ?_
      refine g_mmin 32 dX2_becomeTrimmed_29 rfl kl_X2_28 ⟨Nat.le_of_ble_eq_true rfl, Nat.le_of_ble_eq_true rfl, Nat.le_of_ble_eq_true rfl, Nat.le_of_ble_eq_true rfl⟩ (Nat.le_of_ble_eq_true rfl) ?_
      refine g_s2 35 dX2_becomeTrimmed_32 rfl kl_X2_35 ms_X2_signed ⟨Nat.le_of_ble_eq_true rfl, Nat.le_of_ble_eq_true rfl⟩ (Nat.le_of_ble_eq_true rfl) (c_signed g l _ _ _) ?_
      rintro _ _ ⟨rfl, rfl⟩
      refine ga_ist (i) 36 dX2_becomeTrimmed_35 rfl (by first | decide | assumption | exact ⟨Nat.le_of_ble_eq_true rfl, rfl⟩) rfl (by rw [hln]; omega) ?_
      refine g_iinc (1) 39 dX2_becomeTrimmed_36 rfl (by decide) (by decide) rfl ?_
      refine g_goto 2 dX2_becomeTrimmed_39 (by decide) ?_
      exact ih (i + 1) _ _ _ (by omega) (nI_succ i).symm (fillL_s _ _ _ _ (by simp only [fillL_ne _ _ _ hn2, fillL_ne _ _ _ hn3]))

set_option maxRecDepth 100000 in
set_option maxHeartbeats 4000000 in
theorem c_becomeTrimmed (g : Gl) (l : Launch) {k : Nat} (hk : k < 174 ∧ sh k = 2) {k2 : Nat} (hk2 : k2 < 174 ∧ sh k2 = 2) (hne : k2 ≠ k) (F : Nat → Nat → Int32) (J : Nat → Int64) : Ct g l yX2_becomeTrimmed cX2_becomeTrimmed 4 none 1 0 0 [.ref k, .ref k2] (St F J) (fun r S2 => r = none ∧ S2 = St (setL F k (fun j => sg32 (F (k2 + 1) j) (min32 (abs32 (F (k2 + 1) j)) (F k2 1))) (F k2 1)) J) := by
  refine Ct.of rfl (by decide) rfl (Nat.le_of_ble_eq_true rfl) ?_
  refine g_iconst (0) 1 dX2_becomeTrimmed_0 rfl (by decide) ?_
  refine g_istore_n 2 dX2_becomeTrimmed_1 rfl (by decide) ?_
  exact lp_becomeTrimmed g l hk hk2 hne F J 6 0 _ _ _ rfl rfl (fillL_0 _ _ _).symm

set_option maxRecDepth 100000 in
set_option maxHeartbeats 4000000 in
theorem lp_becomeCut (g : Gl) (l : Launch) {k : Nat} (hk : k < 174 ∧ sh k = 2) {k2 : Nat} (hk2 : k2 < 174 ∧ sh k2 = 2) (hne : k2 ≠ k) (m : Int32) (F : Nat → Nat → Int32) (J : Nat → Int64) {XX : State → Method → Prop} (n : Nat) : ∀ (i : Nat) (ix : Int32) (G : Nat → Nat → Int32) (x5 : Option Value), i + n = 6 → ix = nI i → G = fillL F k (fun j => sg32 (F (k2 + 1) j) ((abs32 (F (k2 + 1) j) + max32 m 1 - 1) / max32 m 1)) i → Gj g l (rmd 1 0 0) XX (QM g (fun r S2 => r = none ∧ S2 = St (setL F k (fun j => sg32 (F (k2 + 1) j) ((abs32 (F (k2 + 1) j) + max32 m 1 - 1) / max32 m 1)) ((F k2 1 + max32 m 1 - 1) / max32 m 1)) J) 0 0) RX2 cX2_becomeCut 6 none 9 [some (.ref k), some (.ref k2), some (.int m), some (.int (max32 m 1)), some (.int ix), x5] [] (St G J) 0 0 := by
  obtain ⟨hw, hln⟩ := isl_w k hk.1 hk.2
  obtain ⟨hw2, hln2⟩ := isl_w k2 hk2.1 hk2.2
  have hn2 := isl_ne hk hk2
  have hn3 : k2 + 1 ≠ k + 1 := by omega
  have hn4 := isl_ne hk2 hk
  induction n with
  | zero =>
    intro i ix G x5 hi hx hG
    obtain rfl : i = 6 := by omega
    subst hx; subst hG
    refine g_iload 11 dX2_becomeCut_9 rfl rfl ?_
    refine g_bipush (6) 13 dX2_becomeCut_11 rfl (by decide) ?_
    refine g_icmp_ge 54 16 dX2_becomeCut_13 rfl (by decide) (fun h13 => ?_) (fun h13 => ?_)
    · refine g_aload_n 55 dX2_becomeCut_54 rfl rfl ?_
      refine g_aload_n 56 dX2_becomeCut_55 rfl rfl ?_
      refine gf_2_1 59 dX2_becomeCut_56 rfl kf_X2_15 (by first | decide | assumption | exact ⟨Nat.le_of_ble_eq_true rfl, rfl⟩) ?_
      refine g_iload_n 60 dX2_becomeCut_59 rfl rfl ?_
      refine g_iadd 61 dX2_becomeCut_60 rfl ?_
      refine g_iconst (1) 62 dX2_becomeCut_61 rfl (by decide) ?_
      refine g_isub 63 dX2_becomeCut_62 rfl ?_
      refine g_iload_n 64 dX2_becomeCut_63 rfl rfl ?_
      refine g_idiv 65 dX2_becomeCut_64 rfl (max1_ne m) ?_
      refine gp_2_1 68 dX2_becomeCut_65 rfl kf_X2_15 (by first | decide | assumption | exact ⟨Nat.le_of_ble_eq_true rfl, rfl⟩) ?_
      refine g_vret dX2_becomeCut_68 ?_
      exact ⟨rfl, by simp only [setL, fillL_ne _ _ _ hn2, fillL_ne _ _ _ hn3]⟩
    · exact absurd (by decide) h13
  | succ n ih =>
    intro i ix G x5 hi hx hG
    subst hx; subst hG
    refine g_iload 11 dX2_becomeCut_9 rfl rfl ?_
    refine g_bipush (6) 13 dX2_becomeCut_11 rfl (by decide) ?_
    refine g_icmp_ge 54 16 dX2_becomeCut_13 rfl (by decide) (fun h13 => ?_) (fun h13 => ?_)
    · exact absurd h13 (lt6 (by omega))
    · refine g_aload_n 17 dX2_becomeCut_16 rfl rfl ?_
      refine gf_2_0 20 dX2_becomeCut_17 rfl kf_X2_9 (by first | decide | assumption | exact ⟨Nat.le_of_ble_eq_true rfl, rfl⟩) ?_
      refine g_iload 22 dX2_becomeCut_20 rfl rfl ?_
      refine ga_ild (i) 23 dX2_becomeCut_22 rfl (by first | decide | assumption | exact ⟨Nat.le_of_ble_eq_true rfl, rfl⟩) rfl (by rw [hln2]; omega) ?_
      refine g_istore 25 dX2_becomeCut_23 rfl (by decide) ?_
      refine g_aload_n 26 dX2_becomeCut_25 rfl rfl ?_
      refine gf_2_0 29 dX2_becomeCut_26 rfl kf_X2_9 (by first | decide | assumption | exact ⟨Nat.le_of_ble_eq_true rfl, rfl⟩) ?_
      refine g_iload 31 dX2_becomeCut_29 rfl rfl ?_
      refine g_iload 33 dX2_becomeCut_31 rfl rfl ?_
      refine g_iload 35 dX2_becomeCut_33 rfl rfl ?_
      refine g_mabs 38 dX2_becomeCut_35 rfl kl_X2_22 ⟨Nat.le_of_ble_eq_true rfl, Nat.le_of_ble_eq_true rfl, Nat.le_of_ble_eq_true rfl, Nat.le_of_ble_eq_true rfl⟩ (Nat.le_of_ble_eq_true rfl) ?_
      refine g_iload_n 39 dX2_becomeCut_38 rfl rfl ?_
      refine g_iadd 40 dX2_becomeCut_39 rfl ?_
      refine g_iconst (1) 41 dX2_becomeCut_40 rfl (by decide) ?_
      refine g_isub 42 dX2_becomeCut_41 rfl ?_
      refine g_iload_n 43 dX2_becomeCut_42 rfl rfl ?_
      refine g_idiv 44 dX2_becomeCut_43 rfl (max1_ne m) ?_
      refine g_s2 47 dX2_becomeCut_44 rfl kl_X2_35 ms_X2_signed ⟨Nat.le_of_ble_eq_true rfl, Nat.le_of_ble_eq_true rfl⟩ (Nat.le_of_ble_eq_true rfl) (c_signed g l _ _ _) ?_
      rintro _ _ ⟨rfl, rfl⟩
      refine ga_ist (i) 48 dX2_becomeCut_47 rfl (by first | decide | assumption | exact ⟨Nat.le_of_ble_eq_true rfl, rfl⟩) rfl (by rw [hln]; omega) ?_
      refine g_iinc (1) 51 dX2_becomeCut_48 rfl (by decide) (by decide) rfl ?_
      refine g_goto 9 dX2_becomeCut_51 (by decide) ?_
      exact ih (i + 1) _ _ _ (by omega) (nI_succ i).symm (fillL_s _ _ _ _ (by simp only [fillL_ne _ _ _ hn2, fillL_ne _ _ _ hn3]))

set_option maxRecDepth 100000 in
set_option maxHeartbeats 4000000 in
theorem c_becomeCut (g : Gl) (l : Launch) {k : Nat} (hk : k < 174 ∧ sh k = 2) {k2 : Nat} (hk2 : k2 < 174 ∧ sh k2 = 2) (hne : k2 ≠ k) (m : Int32) (F : Nat → Nat → Int32) (J : Nat → Int64) : Ct g l yX2_becomeCut cX2_becomeCut 6 none 1 0 0 [.ref k, .ref k2, .int m] (St F J) (fun r S2 => r = none ∧ S2 = St (setL F k (fun j => sg32 (F (k2 + 1) j) ((abs32 (F (k2 + 1) j) + max32 m 1 - 1) / max32 m 1)) ((F k2 1 + max32 m 1 - 1) / max32 m 1)) J) := by
  refine Ct.of rfl (by decide) rfl (Nat.le_of_ble_eq_true rfl) ?_
  refine g_iload_n 1 dX2_becomeCut_0 rfl rfl ?_
  refine g_iconst (1) 2 dX2_becomeCut_1 rfl (by decide) ?_
  refine g_mmax 5 dX2_becomeCut_2 rfl kl_X2_32 ⟨Nat.le_of_ble_eq_true rfl, Nat.le_of_ble_eq_true rfl, Nat.le_of_ble_eq_true rfl, Nat.le_of_ble_eq_true rfl⟩ (Nat.le_of_ble_eq_true rfl) ?_
  refine g_istore_n 6 dX2_becomeCut_5 rfl (by decide) ?_
  refine g_iconst (0) 7 dX2_becomeCut_6 rfl (by decide) ?_
  refine g_istore 9 dX2_becomeCut_7 rfl (by decide) ?_
  exact lp_becomeCut g l hk hk2 hne m F J 6 0 _ _ _ rfl rfl (fillL_0 _ _ _).symm

set_option maxRecDepth 100000 in
set_option maxHeartbeats 4000000 in
theorem lp_becomeOpposite (g : Gl) (l : Launch) {k : Nat} (hk : k < 174 ∧ sh k = 2) {k2 : Nat} (hk2 : k2 < 174 ∧ sh k2 = 2) (hne : k2 ≠ k) (F : Nat → Nat → Int32) (J : Nat → Int64) {XX : State → Method → Prop} (n : Nat) : ∀ (i : Nat) (ix : Int32) (G : Nat → Nat → Int32), i + n = 6 → ix = nI i → G = fillL F k (fun j => -(F (k2 + 1) j)) i → Gj g l (rmd 2 0 0) XX (QM g (fun r S2 => r = none ∧ S2 = St (setL F k (fun j => -(F (k2 + 1) j)) (mw (F (k2 + 1)) 0 0 6 + 1 - F k2 1)) J) 0 0) RX2 cX2_becomeOpposite 3 none 2 [some (.ref k), some (.ref k2), some (.int ix)] [] (St G J) 0 0 := by
  obtain ⟨hw, hln⟩ := isl_w k hk.1 hk.2
  obtain ⟨hw2, hln2⟩ := isl_w k2 hk2.1 hk2.2
  have hn2 := isl_ne hk hk2
  have hn3 : k2 + 1 ≠ k + 1 := by omega
  have hn4 := isl_ne hk2 hk
  induction n with
  | zero =>
    intro i ix G hi hx hG
    obtain rfl : i = 6 := by omega
    subst hx; subst hG
    refine g_iload_n 3 dX2_becomeOpposite_2 rfl rfl ?_
    refine g_bipush (6) 5 dX2_becomeOpposite_3 rfl (by decide) ?_
    refine g_icmp_ge 27 8 dX2_becomeOpposite_5 rfl (by decide) (fun h5 => ?_) (fun h5 => ?_)
    · refine g_aload_n 28 dX2_becomeOpposite_27 rfl rfl ?_
      refine g_aload_n 29 dX2_becomeOpposite_28 rfl rfl ?_
      refine g_iconst (0) 30 dX2_becomeOpposite_29 rfl (by decide) ?_
      refine g_iconst (0) 31 dX2_becomeOpposite_30 rfl (by decide) ?_
      refine g_v2 2 34 dX2_becomeOpposite_31 rfl kl_X2_42 mv_X2_mayWeigh rfl ⟨Nat.le_of_ble_eq_true rfl, Nat.le_of_ble_eq_true rfl⟩ (Nat.le_of_ble_eq_true rfl) (by first | decide | assumption | exact ⟨Nat.le_of_ble_eq_true rfl, rfl⟩) (c_mayWeigh g l hk2 _ _ _ J) ?_
      rintro _ _ ⟨rfl, rfl⟩
      refine g_iconst (1) 35 dX2_becomeOpposite_34 rfl (by decide) ?_
      refine g_iadd 36 dX2_becomeOpposite_35 rfl ?_
      refine g_aload_n 37 dX2_becomeOpposite_36 rfl rfl ?_
      refine gf_2_1 40 dX2_becomeOpposite_37 rfl kf_X2_15 (by first | decide | assumption | exact ⟨Nat.le_of_ble_eq_true rfl, rfl⟩) ?_
      refine g_isub 41 dX2_becomeOpposite_40 rfl ?_
      refine gp_2_1 44 dX2_becomeOpposite_41 rfl kf_X2_15 (by first | decide | assumption | exact ⟨Nat.le_of_ble_eq_true rfl, rfl⟩) ?_
      refine g_vret dX2_becomeOpposite_44 ?_
      exact ⟨rfl, by simp only [setL, fillL_ne _ _ _ hn2, fillL_ne _ _ _ hn3]⟩
    · exact absurd (by decide) h5
  | succ n ih =>
    intro i ix G hi hx hG
    subst hx; subst hG
    refine g_iload_n 3 dX2_becomeOpposite_2 rfl rfl ?_
    refine g_bipush (6) 5 dX2_becomeOpposite_3 rfl (by decide) ?_
    refine g_icmp_ge 27 8 dX2_becomeOpposite_5 rfl (by decide) (fun h5 => ?_) (fun h5 => ?_)
    · exact absurd h5 (lt6 (by omega))
    · refine g_aload_n 9 dX2_becomeOpposite_8 rfl rfl ?_
      refine gf_2_0 12 dX2_becomeOpposite_9 rfl kf_X2_9 (by first | decide | assumption | exact ⟨Nat.le_of_ble_eq_true rfl, rfl⟩) ?_
      refine g_iload_n 13 dX2_becomeOpposite_12 rfl rfl ?_
      refine g_aload_n 14 dX2_becomeOpposite_13 rfl rfl ?_
      refine gf_2_0 17 dX2_becomeOpposite_14 rfl kf_X2_9 (by first | decide | assumption | exact ⟨Nat.le_of_ble_eq_true rfl, rfl⟩) ?_
      refine g_iload_n 18 dX2_becomeOpposite_17 rfl rfl ?_
      refine ga_ild (i) 19 dX2_becomeOpposite_18 rfl (by first | decide | assumption | exact ⟨Nat.le_of_ble_eq_true rfl, rfl⟩) rfl (by rw [hln2]; omega) ?_
      refine g_ineg 20 dX2_becomeOpposite_19 rfl ?_
      refine ga_ist (i) 21 dX2_becomeOpposite_20 rfl (by first | decide | assumption | exact ⟨Nat.le_of_ble_eq_true rfl, rfl⟩) rfl (by rw [hln]; omega) ?_
      refine g_iinc (1) 24 dX2_becomeOpposite_21 rfl (by decide) (by decide) rfl ?_
      refine g_goto 2 dX2_becomeOpposite_24 (by decide) ?_
      exact ih (i + 1) _ _  (by omega) (nI_succ i).symm (fillL_s _ _ _ _ (by simp only [fillL_ne _ _ _ hn2, fillL_ne _ _ _ hn3]))

set_option maxRecDepth 100000 in
set_option maxHeartbeats 4000000 in
theorem c_becomeOpposite (g : Gl) (l : Launch) {k : Nat} (hk : k < 174 ∧ sh k = 2) {k2 : Nat} (hk2 : k2 < 174 ∧ sh k2 = 2) (hne : k2 ≠ k) (F : Nat → Nat → Int32) (J : Nat → Int64) : Ct g l yX2_becomeOpposite cX2_becomeOpposite 3 none 2 0 0 [.ref k, .ref k2] (St F J) (fun r S2 => r = none ∧ S2 = St (setL F k (fun j => -(F (k2 + 1) j)) (mw (F (k2 + 1)) 0 0 6 + 1 - F k2 1)) J) := by
  refine Ct.of rfl (by decide) rfl (Nat.le_of_ble_eq_true rfl) ?_
  refine g_iconst (0) 1 dX2_becomeOpposite_0 rfl (by decide) ?_
  refine g_istore_n 2 dX2_becomeOpposite_1 rfl (by decide) ?_
  exact lp_becomeOpposite g l hk hk2 hne F J 6 0 _ _  rfl rfl (fillL_0 _ _ _).symm

def unl (v w : Int32) : Prop := (¬ 0 ≤ v ∧ 0 < w) ∨ (¬ v ≤ 0 ∧ ¬ 0 ≤ w)
abbrev unl_dec (v w : Int32) : Decidable (unl v w) := inferInstanceAs (Decidable ((¬ 0 ≤ v ∧ 0 < w) ∨ (¬ v ≤ 0 ∧ ¬ 0 ≤ w)))
def sd (v w : Nat → Int32) (d : Int32) : Nat → Int32
  | 0 => d
  | i + 1 => if (¬ 0 ≤ v i ∧ 0 < w i) ∨ (¬ v i ≤ 0 ∧ ¬ 0 ≤ w i) then sd v w d i - min32 (abs32 (v i)) (abs32 (w i)) else sd v w d i
theorem sd_pos {v w : Nat → Int32} {d : Int32} {i : Nat} (h : (¬ 0 ≤ v i ∧ 0 < w i) ∨ (¬ v i ≤ 0 ∧ ¬ 0 ≤ w i)) : sd v w d (i + 1) = sd v w d i - min32 (abs32 (v i)) (abs32 (w i)) := by rw [sd, if_pos h]
theorem sd_neg {v w : Nat → Int32} {d : Int32} {i : Nat} (h : ¬ ((¬ 0 ≤ v i ∧ 0 < w i) ∨ (¬ v i ≤ 0 ∧ ¬ 0 ≤ w i))) : sd v w d (i + 1) = sd v w d i := by rw [sd, if_neg h]
theorem setL_k (F : Nat → Nat → Int32) (k : Nat) (w : Nat → Int32) (d : Int32) : setL F k w d k 1 = d := by simp [setL, up2, upd]
theorem setL_w (F : Nat → Nat → Int32) (k : Nat) (w : Nat → Int32) (d : Int32) {j : Nat} (hj : j < 6) : setL F k w d (k + 1) j = w j := by simp [setL, up2, fillL, hj]
theorem setL_ne (F : Nat → Nat → Int32) {k q : Nat} (w : Nat → Int32) (d : Int32) (h1 : q ≠ k) (h2 : q ≠ k + 1) : setL F k w d q = F q := by simp [setL, up2, fillL, h1, h2]
theorem setL_upw (F : Nat → Nat → Int32) (k : Nat) (w : Nat → Int32) (d x : Int32) {j : Nat} (hj : j < 6) : up2 (setL F k w d) (k + 1) j x = setL F k (upd w j x) d := by
  funext q i
  by_cases h1 : q = k
  · subst h1; simp [setL, up2, upd, fillL]
  · by_cases h2 : q = k + 1
    · subst h2
      simp only [setL, up2, upd, fillL, if_true, if_neg (show ¬ k + 1 = k by omega)]
      by_cases e : i = j
      · subst e; simp [hj]
      · simp [e]
    · simp [setL, up2, upd, fillL, h1, h2]
theorem setL_upd (F : Nat → Nat → Int32) (k : Nat) (w : Nat → Int32) (d x : Int32) : up2 (setL F k w d) k 1 x = setL F k w x := by
  funext q i
  by_cases h1 : q = k
  · subst h1; simp only [setL, up2, upd, if_true]
    by_cases e : i = 1 <;> simp [e]
  · simp [setL, up2, h1]

set_option maxRecDepth 100000 in
set_option maxHeartbeats 4000000 in
theorem lp_becomeSum (g : Gl) (l : Launch) {k : Nat} (hk : k < 174 ∧ sh k = 2) {k2 : Nat} (hk2 : k2 < 174 ∧ sh k2 = 2) (hne : k2 ≠ k) {k3 : Nat} (hk3 : k3 < 174 ∧ sh k3 = 2) (hne3 : k3 ≠ k) (F : Nat → Nat → Int32) (J : Nat → Int64) {XX : State → Method → Prop} (n : Nat) : ∀ (i : Nat) (sm ix : Int32) (G : Nat → Nat → Int32) (x5 x6 : Option Value), i + n = 6 → sm = sd (F (k2 + 1)) (F (k3 + 1)) (F k2 1 + F k3 1) i → ix = nI i → G = fillL F k (fun j => F (k2 + 1) j + F (k3 + 1) j) i → Gj g l (rmd 1 0 0) XX (QM g (fun r S2 => r = none ∧ S2 = St (setL F k (fun j => F (k2 + 1) j + F (k3 + 1) j) (max32 (sd (F (k2 + 1)) (F (k3 + 1)) (F k2 1 + F k3 1) 6) 0)) J) 0 0) RX2 cX2_becomeSum 7 none 13 [some (.ref k), some (.ref k2), some (.ref k3), some (.int sm), some (.int ix), x5, x6] [] (St G J) 0 0 := by
  obtain ⟨hw, hln⟩ := isl_w k hk.1 hk.2
  obtain ⟨hw2, hln2⟩ := isl_w k2 hk2.1 hk2.2
  have hn2 := isl_ne hk hk2
  have hn3 : k2 + 1 ≠ k + 1 := by omega
  have hn4 := isl_ne hk2 hk
  obtain ⟨hw3, hln3⟩ := isl_w k3 hk3.1 hk3.2
  have hm2 := isl_ne hk hk3
  have hm3 : k3 + 1 ≠ k + 1 := by omega
  induction n with
  | zero =>
    intro i sm ix G x5 x6 hi hs hx hG
    obtain rfl : i = 6 := by omega
    subst hs; subst hx; subst hG
    refine g_iload 15 dX2_becomeSum_13 rfl rfl ?_
    refine g_bipush (6) 17 dX2_becomeSum_15 rfl (by decide) ?_
    refine g_icmp_ge 92 20 dX2_becomeSum_17 rfl (by decide) (fun h17 => ?_) (fun h17 => ?_)
    · refine g_aload_n 93 dX2_becomeSum_92 rfl rfl ?_
      refine g_iload_n 94 dX2_becomeSum_93 rfl rfl ?_
      refine g_iconst (0) 95 dX2_becomeSum_94 rfl (by decide) ?_
      refine g_mmax 98 dX2_becomeSum_95 rfl kl_X2_32 ⟨Nat.le_of_ble_eq_true rfl, Nat.le_of_ble_eq_true rfl, Nat.le_of_ble_eq_true rfl, Nat.le_of_ble_eq_true rfl⟩ (Nat.le_of_ble_eq_true rfl) ?_
      refine gp_2_1 101 dX2_becomeSum_98 rfl kf_X2_15 (by first | decide | assumption | exact ⟨Nat.le_of_ble_eq_true rfl, rfl⟩) ?_
      refine g_vret dX2_becomeSum_101 ?_
      exact ⟨rfl, rfl⟩
    · exact absurd (by decide) h17
  | succ n ih =>
    intro i sm ix G x5 x6 hi hs hx hG
    subst hx; subst hG
    have r2 : ∀ q, fillL F k (fun j => F (k2 + 1) j + F (k3 + 1) j) q (k2 + 1) = F (k2 + 1) := fun q => fillL_ne _ _ _ hn3
    have r3 : ∀ q, fillL F k (fun j => F (k2 + 1) j + F (k3 + 1) j) q (k3 + 1) = F (k3 + 1) := fun q => fillL_ne _ _ _ hm3
    refine g_iload 15 dX2_becomeSum_13 rfl rfl ?_
    refine g_bipush (6) 17 dX2_becomeSum_15 rfl (by decide) ?_
    refine g_icmp_ge 92 20 dX2_becomeSum_17 rfl (by decide) (fun h17 => ?_) (fun h17 => ?_)
    · exact absurd h17 (lt6 (by omega))
    · refine g_aload_n 21 dX2_becomeSum_20 rfl rfl ?_
      refine gf_2_0 24 dX2_becomeSum_21 rfl kf_X2_9 (by first | decide | assumption | exact ⟨Nat.le_of_ble_eq_true rfl, rfl⟩) ?_
      refine g_iload 26 dX2_becomeSum_24 rfl rfl ?_
      refine ga_ild (i) 27 dX2_becomeSum_26 rfl (by first | decide | assumption | exact ⟨Nat.le_of_ble_eq_true rfl, rfl⟩) rfl (by rw [hln2]; omega) ?_
      rw [r2]
      refine g_istore 29 dX2_becomeSum_27 rfl (by decide) ?_
      refine g_aload_n 30 dX2_becomeSum_29 rfl rfl ?_
      refine gf_2_0 33 dX2_becomeSum_30 rfl kf_X2_9 (by first | decide | assumption | exact ⟨Nat.le_of_ble_eq_true rfl, rfl⟩) ?_
      refine g_iload 35 dX2_becomeSum_33 rfl rfl ?_
      refine ga_ild (i) 36 dX2_becomeSum_35 rfl (by first | decide | assumption | exact ⟨Nat.le_of_ble_eq_true rfl, rfl⟩) rfl (by rw [hln3]; omega) ?_
      rw [r3]
      refine g_istore 38 dX2_becomeSum_36 rfl (by decide) ?_
      refine g_iload 40 dX2_becomeSum_38 rfl rfl ?_
      refine g_if_ge 48 43 dX2_becomeSum_40 rfl (by decide) (fun h40 => ?_) (fun h40 => ?_)
      · refine g_iload 50 dX2_becomeSum_48 rfl rfl ?_
        refine g_if_le 74 53 dX2_becomeSum_50 rfl (by decide) (fun h50 => ?_) (fun h50 => ?_)
        · refine g_aload_n 75 dX2_becomeSum_74 rfl rfl ?_
          refine gf_2_0 78 dX2_becomeSum_75 rfl kf_X2_9 (by first | decide | assumption | exact ⟨Nat.le_of_ble_eq_true rfl, rfl⟩) ?_
          refine g_iload 80 dX2_becomeSum_78 rfl rfl ?_
          refine g_iload 82 dX2_becomeSum_80 rfl rfl ?_
          refine g_iload 84 dX2_becomeSum_82 rfl rfl ?_
          refine g_iadd 85 dX2_becomeSum_84 rfl ?_
          refine ga_ist (i) 86 dX2_becomeSum_85 rfl (by first | decide | assumption | exact ⟨Nat.le_of_ble_eq_true rfl, rfl⟩) rfl (by rw [hln]; omega) ?_
          refine g_iinc (1) 89 dX2_becomeSum_86 rfl (by decide) (by decide) rfl ?_
          refine g_goto 13 dX2_becomeSum_89 (by decide) ?_
          exact ih (i + 1) _ _ _ _ _ (by omega) (by
            rw [hs]
            first
              | exact (sd_pos (Or.inl (And.intro h40 h45))).symm
              | exact (sd_pos (Or.inr (And.intro h50 h55))).symm
              | exact (sd_neg (fun z => z.elim (fun a => by first | exact a.1 h40 | exact h45 a.2) (fun a => by first | exact a.1 h50 | exact a.2 h55))).symm) (nI_succ i).symm (fillL_s _ _ _ _ rfl)
        · refine g_iload 55 dX2_becomeSum_53 rfl rfl ?_
          refine g_if_ge 74 58 dX2_becomeSum_55 rfl (by decide) (fun h55 => ?_) (fun h55 => ?_)
          · refine g_aload_n 75 dX2_becomeSum_74 rfl rfl ?_
            refine gf_2_0 78 dX2_becomeSum_75 rfl kf_X2_9 (by first | decide | assumption | exact ⟨Nat.le_of_ble_eq_true rfl, rfl⟩) ?_
            refine g_iload 80 dX2_becomeSum_78 rfl rfl ?_
            refine g_iload 82 dX2_becomeSum_80 rfl rfl ?_
            refine g_iload 84 dX2_becomeSum_82 rfl rfl ?_
            refine g_iadd 85 dX2_becomeSum_84 rfl ?_
            refine ga_ist (i) 86 dX2_becomeSum_85 rfl (by first | decide | assumption | exact ⟨Nat.le_of_ble_eq_true rfl, rfl⟩) rfl (by rw [hln]; omega) ?_
            refine g_iinc (1) 89 dX2_becomeSum_86 rfl (by decide) (by decide) rfl ?_
            refine g_goto 13 dX2_becomeSum_89 (by decide) ?_
            exact ih (i + 1) _ _ _ _ _ (by omega) (by
              rw [hs]
              first
                | exact (sd_pos (Or.inl (And.intro h40 h45))).symm
                | exact (sd_pos (Or.inr (And.intro h50 h55))).symm
                | exact (sd_neg (fun z => z.elim (fun a => by first | exact a.1 h40 | exact h45 a.2) (fun a => by first | exact a.1 h50 | exact a.2 h55))).symm) (nI_succ i).symm (fillL_s _ _ _ _ rfl)
          · refine g_iload_n 59 dX2_becomeSum_58 rfl rfl ?_
            refine g_iload 61 dX2_becomeSum_59 rfl rfl ?_
            refine g_mabs 64 dX2_becomeSum_61 rfl kl_X2_22 ⟨Nat.le_of_ble_eq_true rfl, Nat.le_of_ble_eq_true rfl, Nat.le_of_ble_eq_true rfl, Nat.le_of_ble_eq_true rfl⟩ (Nat.le_of_ble_eq_true rfl) ?_
            refine g_iload 66 dX2_becomeSum_64 rfl rfl ?_
            refine g_mabs 69 dX2_becomeSum_66 rfl kl_X2_22 ⟨Nat.le_of_ble_eq_true rfl, Nat.le_of_ble_eq_true rfl, Nat.le_of_ble_eq_true rfl, Nat.le_of_ble_eq_true rfl⟩ (Nat.le_of_ble_eq_true rfl) ?_
            refine g_mmin 72 dX2_becomeSum_69 rfl kl_X2_28 ⟨Nat.le_of_ble_eq_true rfl, Nat.le_of_ble_eq_true rfl, Nat.le_of_ble_eq_true rfl, Nat.le_of_ble_eq_true rfl⟩ (Nat.le_of_ble_eq_true rfl) ?_
            refine g_isub 73 dX2_becomeSum_72 rfl ?_
            refine g_istore_n 74 dX2_becomeSum_73 rfl (by decide) ?_
            refine g_aload_n 75 dX2_becomeSum_74 rfl rfl ?_
            refine gf_2_0 78 dX2_becomeSum_75 rfl kf_X2_9 (by first | decide | assumption | exact ⟨Nat.le_of_ble_eq_true rfl, rfl⟩) ?_
            refine g_iload 80 dX2_becomeSum_78 rfl rfl ?_
            refine g_iload 82 dX2_becomeSum_80 rfl rfl ?_
            refine g_iload 84 dX2_becomeSum_82 rfl rfl ?_
            refine g_iadd 85 dX2_becomeSum_84 rfl ?_
            refine ga_ist (i) 86 dX2_becomeSum_85 rfl (by first | decide | assumption | exact ⟨Nat.le_of_ble_eq_true rfl, rfl⟩) rfl (by rw [hln]; omega) ?_
            refine g_iinc (1) 89 dX2_becomeSum_86 rfl (by decide) (by decide) rfl ?_
            refine g_goto 13 dX2_becomeSum_89 (by decide) ?_
            exact ih (i + 1) _ _ _ _ _ (by omega) (by
              rw [hs]
              first
                | exact (sd_pos (Or.inl (And.intro h40 h45))).symm
                | exact (sd_pos (Or.inr (And.intro h50 h55))).symm
                | exact (sd_neg (fun z => z.elim (fun a => by first | exact a.1 h40 | exact h45 a.2) (fun a => by first | exact a.1 h50 | exact a.2 h55))).symm) (nI_succ i).symm (fillL_s _ _ _ _ rfl)
      · refine g_iload 45 dX2_becomeSum_43 rfl rfl ?_
        refine g_if_gt 58 48 dX2_becomeSum_45 rfl (by decide) (fun h45 => ?_) (fun h45 => ?_)
        · refine g_iload_n 59 dX2_becomeSum_58 rfl rfl ?_
          refine g_iload 61 dX2_becomeSum_59 rfl rfl ?_
          refine g_mabs 64 dX2_becomeSum_61 rfl kl_X2_22 ⟨Nat.le_of_ble_eq_true rfl, Nat.le_of_ble_eq_true rfl, Nat.le_of_ble_eq_true rfl, Nat.le_of_ble_eq_true rfl⟩ (Nat.le_of_ble_eq_true rfl) ?_
          refine g_iload 66 dX2_becomeSum_64 rfl rfl ?_
          refine g_mabs 69 dX2_becomeSum_66 rfl kl_X2_22 ⟨Nat.le_of_ble_eq_true rfl, Nat.le_of_ble_eq_true rfl, Nat.le_of_ble_eq_true rfl, Nat.le_of_ble_eq_true rfl⟩ (Nat.le_of_ble_eq_true rfl) ?_
          refine g_mmin 72 dX2_becomeSum_69 rfl kl_X2_28 ⟨Nat.le_of_ble_eq_true rfl, Nat.le_of_ble_eq_true rfl, Nat.le_of_ble_eq_true rfl, Nat.le_of_ble_eq_true rfl⟩ (Nat.le_of_ble_eq_true rfl) ?_
          refine g_isub 73 dX2_becomeSum_72 rfl ?_
          refine g_istore_n 74 dX2_becomeSum_73 rfl (by decide) ?_
          refine g_aload_n 75 dX2_becomeSum_74 rfl rfl ?_
          refine gf_2_0 78 dX2_becomeSum_75 rfl kf_X2_9 (by first | decide | assumption | exact ⟨Nat.le_of_ble_eq_true rfl, rfl⟩) ?_
          refine g_iload 80 dX2_becomeSum_78 rfl rfl ?_
          refine g_iload 82 dX2_becomeSum_80 rfl rfl ?_
          refine g_iload 84 dX2_becomeSum_82 rfl rfl ?_
          refine g_iadd 85 dX2_becomeSum_84 rfl ?_
          refine ga_ist (i) 86 dX2_becomeSum_85 rfl (by first | decide | assumption | exact ⟨Nat.le_of_ble_eq_true rfl, rfl⟩) rfl (by rw [hln]; omega) ?_
          refine g_iinc (1) 89 dX2_becomeSum_86 rfl (by decide) (by decide) rfl ?_
          refine g_goto 13 dX2_becomeSum_89 (by decide) ?_
          exact ih (i + 1) _ _ _ _ _ (by omega) (by
            rw [hs]
            first
              | exact (sd_pos (Or.inl (And.intro h40 h45))).symm
              | exact (sd_pos (Or.inr (And.intro h50 h55))).symm
              | exact (sd_neg (fun z => z.elim (fun a => by first | exact a.1 h40 | exact h45 a.2) (fun a => by first | exact a.1 h50 | exact a.2 h55))).symm) (nI_succ i).symm (fillL_s _ _ _ _ rfl)
        · refine g_iload 50 dX2_becomeSum_48 rfl rfl ?_
          refine g_if_le 74 53 dX2_becomeSum_50 rfl (by decide) (fun h50 => ?_) (fun h50 => ?_)
          · refine g_aload_n 75 dX2_becomeSum_74 rfl rfl ?_
            refine gf_2_0 78 dX2_becomeSum_75 rfl kf_X2_9 (by first | decide | assumption | exact ⟨Nat.le_of_ble_eq_true rfl, rfl⟩) ?_
            refine g_iload 80 dX2_becomeSum_78 rfl rfl ?_
            refine g_iload 82 dX2_becomeSum_80 rfl rfl ?_
            refine g_iload 84 dX2_becomeSum_82 rfl rfl ?_
            refine g_iadd 85 dX2_becomeSum_84 rfl ?_
            refine ga_ist (i) 86 dX2_becomeSum_85 rfl (by first | decide | assumption | exact ⟨Nat.le_of_ble_eq_true rfl, rfl⟩) rfl (by rw [hln]; omega) ?_
            refine g_iinc (1) 89 dX2_becomeSum_86 rfl (by decide) (by decide) rfl ?_
            refine g_goto 13 dX2_becomeSum_89 (by decide) ?_
            exact ih (i + 1) _ _ _ _ _ (by omega) (by
              rw [hs]
              first
                | exact (sd_pos (Or.inl (And.intro h40 h45))).symm
                | exact (sd_pos (Or.inr (And.intro h50 h55))).symm
                | exact (sd_neg (fun z => z.elim (fun a => by first | exact a.1 h40 | exact h45 a.2) (fun a => by first | exact a.1 h50 | exact a.2 h55))).symm) (nI_succ i).symm (fillL_s _ _ _ _ rfl)
          · refine g_iload 55 dX2_becomeSum_53 rfl rfl ?_
            refine g_if_ge 74 58 dX2_becomeSum_55 rfl (by decide) (fun h55 => ?_) (fun h55 => ?_)
            · refine g_aload_n 75 dX2_becomeSum_74 rfl rfl ?_
              refine gf_2_0 78 dX2_becomeSum_75 rfl kf_X2_9 (by first | decide | assumption | exact ⟨Nat.le_of_ble_eq_true rfl, rfl⟩) ?_
              refine g_iload 80 dX2_becomeSum_78 rfl rfl ?_
              refine g_iload 82 dX2_becomeSum_80 rfl rfl ?_
              refine g_iload 84 dX2_becomeSum_82 rfl rfl ?_
              refine g_iadd 85 dX2_becomeSum_84 rfl ?_
              refine ga_ist (i) 86 dX2_becomeSum_85 rfl (by first | decide | assumption | exact ⟨Nat.le_of_ble_eq_true rfl, rfl⟩) rfl (by rw [hln]; omega) ?_
              refine g_iinc (1) 89 dX2_becomeSum_86 rfl (by decide) (by decide) rfl ?_
              refine g_goto 13 dX2_becomeSum_89 (by decide) ?_
              exact ih (i + 1) _ _ _ _ _ (by omega) (by
                rw [hs]
                first
                  | exact (sd_pos (Or.inl (And.intro h40 h45))).symm
                  | exact (sd_pos (Or.inr (And.intro h50 h55))).symm
                  | exact (sd_neg (fun z => z.elim (fun a => by first | exact a.1 h40 | exact h45 a.2) (fun a => by first | exact a.1 h50 | exact a.2 h55))).symm) (nI_succ i).symm (fillL_s _ _ _ _ rfl)
            · refine g_iload_n 59 dX2_becomeSum_58 rfl rfl ?_
              refine g_iload 61 dX2_becomeSum_59 rfl rfl ?_
              refine g_mabs 64 dX2_becomeSum_61 rfl kl_X2_22 ⟨Nat.le_of_ble_eq_true rfl, Nat.le_of_ble_eq_true rfl, Nat.le_of_ble_eq_true rfl, Nat.le_of_ble_eq_true rfl⟩ (Nat.le_of_ble_eq_true rfl) ?_
              refine g_iload 66 dX2_becomeSum_64 rfl rfl ?_
              refine g_mabs 69 dX2_becomeSum_66 rfl kl_X2_22 ⟨Nat.le_of_ble_eq_true rfl, Nat.le_of_ble_eq_true rfl, Nat.le_of_ble_eq_true rfl, Nat.le_of_ble_eq_true rfl⟩ (Nat.le_of_ble_eq_true rfl) ?_
              refine g_mmin 72 dX2_becomeSum_69 rfl kl_X2_28 ⟨Nat.le_of_ble_eq_true rfl, Nat.le_of_ble_eq_true rfl, Nat.le_of_ble_eq_true rfl, Nat.le_of_ble_eq_true rfl⟩ (Nat.le_of_ble_eq_true rfl) ?_
              refine g_isub 73 dX2_becomeSum_72 rfl ?_
              refine g_istore_n 74 dX2_becomeSum_73 rfl (by decide) ?_
              refine g_aload_n 75 dX2_becomeSum_74 rfl rfl ?_
              refine gf_2_0 78 dX2_becomeSum_75 rfl kf_X2_9 (by first | decide | assumption | exact ⟨Nat.le_of_ble_eq_true rfl, rfl⟩) ?_
              refine g_iload 80 dX2_becomeSum_78 rfl rfl ?_
              refine g_iload 82 dX2_becomeSum_80 rfl rfl ?_
              refine g_iload 84 dX2_becomeSum_82 rfl rfl ?_
              refine g_iadd 85 dX2_becomeSum_84 rfl ?_
              refine ga_ist (i) 86 dX2_becomeSum_85 rfl (by first | decide | assumption | exact ⟨Nat.le_of_ble_eq_true rfl, rfl⟩) rfl (by rw [hln]; omega) ?_
              refine g_iinc (1) 89 dX2_becomeSum_86 rfl (by decide) (by decide) rfl ?_
              refine g_goto 13 dX2_becomeSum_89 (by decide) ?_
              exact ih (i + 1) _ _ _ _ _ (by omega) (by
                rw [hs]
                first
                  | exact (sd_pos (Or.inl (And.intro h40 h45))).symm
                  | exact (sd_pos (Or.inr (And.intro h50 h55))).symm
                  | exact (sd_neg (fun z => z.elim (fun a => by first | exact a.1 h40 | exact h45 a.2) (fun a => by first | exact a.1 h50 | exact a.2 h55))).symm) (nI_succ i).symm (fillL_s _ _ _ _ rfl)

set_option maxRecDepth 100000 in
set_option maxHeartbeats 4000000 in
theorem c_becomeSum (g : Gl) (l : Launch) {k : Nat} (hk : k < 174 ∧ sh k = 2) {k2 : Nat} (hk2 : k2 < 174 ∧ sh k2 = 2) (hne : k2 ≠ k) {k3 : Nat} (hk3 : k3 < 174 ∧ sh k3 = 2) (hne3 : k3 ≠ k) (F : Nat → Nat → Int32) (J : Nat → Int64) : Ct g l yX2_becomeSum cX2_becomeSum 7 none 1 0 0 [.ref k, .ref k2, .ref k3] (St F J) (fun r S2 => r = none ∧ S2 = St (setL F k (fun j => F (k2 + 1) j + F (k3 + 1) j) (max32 (sd (F (k2 + 1)) (F (k3 + 1)) (F k2 1 + F k3 1) 6) 0)) J) := by
  refine Ct.of rfl (by decide) rfl (Nat.le_of_ble_eq_true rfl) ?_
  refine g_aload_n 1 dX2_becomeSum_0 rfl rfl ?_
  refine gf_2_1 4 dX2_becomeSum_1 rfl kf_X2_15 (by first | decide | assumption | exact ⟨Nat.le_of_ble_eq_true rfl, rfl⟩) ?_
  refine g_aload_n 5 dX2_becomeSum_4 rfl rfl ?_
  refine gf_2_1 8 dX2_becomeSum_5 rfl kf_X2_15 (by first | decide | assumption | exact ⟨Nat.le_of_ble_eq_true rfl, rfl⟩) ?_
  refine g_iadd 9 dX2_becomeSum_8 rfl ?_
  refine g_istore_n 10 dX2_becomeSum_9 rfl (by decide) ?_
  refine g_iconst (0) 11 dX2_becomeSum_10 rfl (by decide) ?_
  refine g_istore 13 dX2_becomeSum_11 rfl (by decide) ?_
  exact lp_becomeSum g l hk hk2 hne hk3 hne3 F J 6 0 _ _ _ _ _ rfl rfl rfl (fillL_0 _ _ _).symm

theorem j_in {j : Nat} (h : j < 6) : ¬ nI j < 0 ∧ ¬ (6 : Int32) ≤ nI j := ⟨nI_pos (by omega), lt6 h⟩

set_option maxRecDepth 100000 in
set_option maxHeartbeats 4000000 in
theorem c_becomeBare (g : Gl) (l : Launch) {k : Nat} (hk : k < 174 ∧ sh k = 2) {j : Nat} (hj : j < 6) (x : Int32) (F : Nat → Nat → Int32) (J : Nat → Int64) : Ct g l yX2_becomeBare cX2_becomeBare 3 none 1 0 0 [.ref k, .int (nI j), .int x] (St F J) (fun r S2 => r = none ∧ S2 = St (setL F k (upd (fun _ => 0) j x) 0) J) := by
  obtain ⟨hw, hln⟩ := isl_w k hk.1 hk.2
  refine Ct.of rfl (by decide) rfl (Nat.le_of_ble_eq_true rfl) ?_
  refine g_aload_n 1 dX2_becomeBare_0 rfl rfl ?_
  refine g_v0 2 4 dX2_becomeBare_1 rfl kl_X2_19 mv_X2_becomeEmpty rfl ⟨Nat.le_of_ble_eq_true rfl, Nat.le_of_ble_eq_true rfl⟩ (Nat.le_of_ble_eq_true rfl) (by first | decide | assumption | exact ⟨Nat.le_of_ble_eq_true rfl, rfl⟩) (c_becomeEmpty g l hk F J) ?_
  rintro _ _ ⟨rfl, rfl⟩
  refine g_iload_n 5 dX2_becomeBare_4 rfl rfl ?_
  refine g_if_lt 21 8 dX2_becomeBare_5 rfl (by decide) (fun h5 => ?_) (fun h5 => ?_)
  · exact absurd h5 (j_in hj).1
  · refine g_iload_n 9 dX2_becomeBare_8 rfl rfl ?_
    refine g_bipush (6) 11 dX2_becomeBare_9 rfl (by decide) ?_
    refine g_icmp_ge 21 14 dX2_becomeBare_11 rfl (by decide) (fun h11 => ?_) (fun h11 => ?_)
    · exact absurd h11 (j_in hj).2
    · refine g_aload_n 15 dX2_becomeBare_14 rfl rfl ?_
      refine gf_2_0 18 dX2_becomeBare_15 rfl kf_X2_9 (by first | decide | assumption | exact ⟨Nat.le_of_ble_eq_true rfl, rfl⟩) ?_
      refine g_iload_n 19 dX2_becomeBare_18 rfl rfl ?_
      refine g_iload_n 20 dX2_becomeBare_19 rfl rfl ?_
      refine ga_ist (j) 21 dX2_becomeBare_20 rfl (by first | decide | assumption | exact ⟨Nat.le_of_ble_eq_true rfl, rfl⟩) rfl (by rw [hln]; exact hj) ?_
      refine g_vret dX2_becomeBare_21 ?_
      exact ⟨rfl, by rw [setL_upw _ _ _ _ _ hj]⟩

set_option maxRecDepth 100000 in
set_option maxHeartbeats 4000000 in
theorem c_becomeDropped (g : Gl) (l : Launch) {k : Nat} (hk : k < 174 ∧ sh k = 2) {k2 : Nat} (hk2 : k2 < 174 ∧ sh k2 = 2) (hne : k2 ≠ k) {j : Nat} (hj : j < 6) (F : Nat → Nat → Int32) (J : Nat → Int64) : Ct g l yX2_becomeDropped cX2_becomeDropped 3 none 1 0 0 [.ref k, .ref k2, .int (nI j)] (St F J) (fun r S2 => r = none ∧ S2 = St (setL F k (upd (F (k2 + 1)) j 0) (max32 (F k2 1 - abs32 (F (k2 + 1) j)) 0)) J) := by
  obtain ⟨hw, hln⟩ := isl_w k hk.1 hk.2
  refine Ct.of rfl (by decide) rfl (Nat.le_of_ble_eq_true rfl) ?_
  refine g_aload_n 1 dX2_becomeDropped_0 rfl rfl ?_
  refine g_aload_n 2 dX2_becomeDropped_1 rfl rfl ?_
  refine g_v1 2 5 dX2_becomeDropped_2 rfl kl_X2_38 mv_X2_becomeSame rfl ⟨Nat.le_of_ble_eq_true rfl, Nat.le_of_ble_eq_true rfl⟩ (Nat.le_of_ble_eq_true rfl) (by first | decide | assumption | exact ⟨Nat.le_of_ble_eq_true rfl, rfl⟩) (c_becomeSame g l hk hk2 hne F J) ?_
  rintro _ _ ⟨rfl, rfl⟩
  refine g_iload_n 6 dX2_becomeDropped_5 rfl rfl ?_
  refine g_if_lt 44 9 dX2_becomeDropped_6 rfl (by decide) (fun h6 => ?_) (fun h6 => ?_)
  · exact absurd h6 (j_in hj).1
  · refine g_iload_n 10 dX2_becomeDropped_9 rfl rfl ?_
    refine g_bipush (6) 12 dX2_becomeDropped_10 rfl (by decide) ?_
    refine g_icmp_ge 44 15 dX2_becomeDropped_12 rfl (by decide) (fun h12 => ?_) (fun h12 => ?_)
    · exact absurd h12 (j_in hj).2
    · refine g_aload_n 16 dX2_becomeDropped_15 rfl rfl ?_
      refine g_aload_n 17 dX2_becomeDropped_16 rfl rfl ?_
      refine gf_2_1 20 dX2_becomeDropped_17 rfl kf_X2_15 (by first | decide | assumption | exact ⟨Nat.le_of_ble_eq_true rfl, rfl⟩) ?_
      refine g_aload_n 21 dX2_becomeDropped_20 rfl rfl ?_
      refine gf_2_0 24 dX2_becomeDropped_21 rfl kf_X2_9 (by first | decide | assumption | exact ⟨Nat.le_of_ble_eq_true rfl, rfl⟩) ?_
      refine g_iload_n 25 dX2_becomeDropped_24 rfl rfl ?_
      refine ga_ild (j) 26 dX2_becomeDropped_25 rfl (by first | decide | assumption | exact ⟨Nat.le_of_ble_eq_true rfl, rfl⟩) rfl (by rw [hln]; exact hj) ?_
      refine g_mabs 29 dX2_becomeDropped_26 rfl kl_X2_22 ⟨Nat.le_of_ble_eq_true rfl, Nat.le_of_ble_eq_true rfl, Nat.le_of_ble_eq_true rfl, Nat.le_of_ble_eq_true rfl⟩ (Nat.le_of_ble_eq_true rfl) ?_
      refine g_isub 30 dX2_becomeDropped_29 rfl ?_
      refine g_iconst (0) 31 dX2_becomeDropped_30 rfl (by decide) ?_
      refine g_mmax 34 dX2_becomeDropped_31 rfl kl_X2_32 ⟨Nat.le_of_ble_eq_true rfl, Nat.le_of_ble_eq_true rfl, Nat.le_of_ble_eq_true rfl, Nat.le_of_ble_eq_true rfl⟩ (Nat.le_of_ble_eq_true rfl) ?_
      refine gp_2_1 37 dX2_becomeDropped_34 rfl kf_X2_15 (by first | decide | assumption | exact ⟨Nat.le_of_ble_eq_true rfl, rfl⟩) ?_
      refine g_aload_n 38 dX2_becomeDropped_37 rfl rfl ?_
      refine gf_2_0 41 dX2_becomeDropped_38 rfl kf_X2_9 (by first | decide | assumption | exact ⟨Nat.le_of_ble_eq_true rfl, rfl⟩) ?_
      refine g_iload_n 42 dX2_becomeDropped_41 rfl rfl ?_
      refine g_iconst (0) 43 dX2_becomeDropped_42 rfl (by decide) ?_
      refine ga_ist (j) 44 dX2_becomeDropped_43 rfl (by first | decide | assumption | exact ⟨Nat.le_of_ble_eq_true rfl, rfl⟩) rfl (by rw [hln]; exact hj) ?_
      refine g_vret dX2_becomeDropped_44 ?_
      exact ⟨rfl, by rw [setL_upd, setL_upw _ _ _ _ _ hj, setL_k, setL_w _ _ _ _ hj]⟩

