/-! the reference: what a step does to the line -/
theorem less_min (a b : Int32) : (abs32 b ≤ abs32 a → abs32 b = min32 (abs32 a) (abs32 b)) ∧ (¬ abs32 b ≤ abs32 a → abs32 a = min32 (abs32 a) (abs32 b)) := by
  unfold min32
  refine ⟨fun h => ?_, fun h => ?_⟩
  · by_cases z : abs32 b < abs32 a
    · rw [if_pos z]
    · rw [if_neg z]; exact Int32.le_antisymm h (Int32.not_lt.mp z)
  · rw [if_neg (fun z => h (Int32.le_of_lt z))]
theorem min_0l {a b : Int32} (hb : b = 0) (ha : wbd a) : min32 (abs32 a) (abs32 b) = 0 := by
  subst hb
  have h := abs_in ha
  unfold min32
  by_cases z : abs32 0 < abs32 a
  · rw [if_pos z]; rfl
  · rw [if_neg z]
    rw [Int32.lt_iff_toInt_lt, h] at z
    have z0 : (abs32 0).toInt = 0 := rfl
    rw [z0] at z
    apply Int32.toInt_inj.mp
    rw [h]; show _ = (0 : Int)
    split at z <;> split <;> omega
theorem min_0r {a b : Int32} (ha : a = 0) (hb : wbd b) : min32 (abs32 a) (abs32 b) = 0 := by
  subst ha
  have h := abs_in hb
  unfold min32
  by_cases z : abs32 b < abs32 0
  · rw [Int32.lt_iff_toInt_lt, h] at z
    have z0 : (abs32 0).toInt = 0 := rfl
    rw [z0] at z
    exfalso; split at z <;> omega
  · rw [if_neg z]; rfl
theorem ge_cases {b : Int32} (h : 0 ≤ b) : b = 0 ∨ 0 < b := by
  by_cases z : b = 0
  · exact Or.inl z
  · exact Or.inr (Int32.lt_iff_le_and_ne.mpr ⟨h, fun q => z q.symm⟩)
theorem sd_eq {v w : Nat → Int32} {d : Int32} {i : Nat} (h : (0 ≤ v i ∧ 0 ≤ w i) ∨ (¬ 0 ≤ v i ∧ ¬ 0 ≤ w i)) : sd v w d (i + 1) = sd v w d i - 0 := by
  rw [Int32.sub_zero]
  refine sd_neg fun z => ?_
  rcases h with ⟨a, b⟩ | ⟨a, b⟩
  · rcases z with z | z
    · exact z.1 a
    · exact z.2 b
  · rcases z with z | z
    · exact b (Int32.le_of_lt z.2)
    · exact z.1 (Int32.le_of_lt (Int32.not_le.mp a))
theorem sd_df {v w : Nat → Int32} {d x : Int32} {i : Nat} (hv : wbd (v i)) (hw : wbd (w i)) (h : (¬ 0 ≤ v i ∧ 0 ≤ w i) ∨ (0 ≤ v i ∧ ¬ 0 ≤ w i)) (hx : x = min32 (abs32 (v i)) (abs32 (w i))) : sd v w d (i + 1) = sd v w d i - x := by
  subst hx
  rcases h with ⟨a, b⟩ | ⟨a, b⟩
  · rcases ge_cases b with q | q
    · rw [min_0l q hv, Int32.sub_zero]
      refine sd_neg fun z => ?_
      rcases z with z | z
      · rw [q] at z; exact absurd z.2 (by decide)
      · exact z.2 b
    · exact sd_pos (Or.inl ⟨a, q⟩)
  · rcases ge_cases a with q | q
    · rw [min_0r q hw, Int32.sub_zero]
      refine sd_neg fun z => ?_
      rcases z with z | z
      · exact z.1 a
      · rw [q] at z; exact absurd z.1 (by decide)
    · exact sd_pos (Or.inr ⟨Int32.not_le.mpr q, b⟩)
/-- the line that a step makes, place by place -/
def trm (v d : Int32) : Int32 := if v ≤ d then (if -d ≤ v then v else -d) else d
def dcut (v n : Int32) : Int32 := if 0 ≤ v then (abs32 v + n - 1) / n else -((abs32 v + n - 1) / n)
def max0 (x : Int32) : Int32 := if 0 ≤ x then x else 0
def addV (v w : Nat → Int32) : Nat → Int32 := fun j => if j < 6 then v j + w j else max0 (sd v w (v 6 + w 6) 6)
theorem congrArg₂' {a b c d : Int32} (h1 : a = c) (h2 : b = d) : a + b = c + d := by rw [h1, h2]
set_option maxRecDepth 100000 in
set_option maxHeartbeats 4000000 in
theorem lm_fA (g : Gl) (l : Launch) {zc : Option Value → Sg → Prop} (F : Nat → Nat → Int32) (J : Nat → Int64) {m s : Nat} (hm : m < 32) (hs : s < 24) (u : Nat → Int32) (nn oi wh : Int32) (x8 x9 x10 x11 x12 : Option Value) {f : Nat} (hf : f < m) (hwh : ¬ 5 ≤ wh) {XX : State → Method → Prop} (n : Nat) : ∀ (i : Nat) (ix : Int32), i + n = 7 → ix = nI i → (∀ x7, Gj g l (rmd 1 0 0) XX (QM g zc 0 0) RX8 cX8_does 13 none 102 [some (.ref 167), some (.int (nI s)), some (.int (7 * nI m)), some (.int (10 * nI s)), some (.int wh), some (.int (7 * nI f)), some (.int nn), x7, x8, x9, x10, x11, x12] [] (St (lnF F m (fun j => F 169 (7 * f + j))) J) 0 0) → Gj g l (rmd 1 0 0) XX (QM g zc 0 0) RX8 cX8_does 13 none 39 [some (.ref 167), some (.int (nI s)), some (.int (7 * nI m)), some (.int (10 * nI s)), some (.int wh), some (.int (7 * nI f)), some (.int nn), some (.int ix), x8, x9, x10, x11, x12] [] (St (lnF F m (pre7 (fun j => F 169 (7 * f + j)) u i)) J) 0 0 := by
  induction n with
  | zero =>
    intro i ix hi hx kk
    obtain rfl : i = 7 := by omega
    subst hx
    refine g_iload 41 dX8_does_39 rfl rfl ?_
    refine g_bipush (7) 43 dX8_does_41 rfl (by decide) ?_
    refine g_icmp_ge 102 46 dX8_does_43 rfl (by decide) (fun h43 => ?_) (fun h43 => ?_)
    · refine gs_at (congrArg (fun x => St x J) pre7_7) ?_
      exact kk _
    · exact absurd (by decide) h43
  | succ n ih =>
    intro i ix hi hx kk
    subst hx
    refine g_iload 41 dX8_does_39 rfl rfl ?_
    refine g_bipush (7) 43 dX8_does_41 rfl (by decide) ?_
    refine g_icmp_ge 102 46 dX8_does_43 rfl (by decide) (fun h43 => ?_) (fun h43 => ?_)
    · exact absurd h43 (lt7 (by omega))
    · refine g_aload_n 47 dX8_does_46 rfl rfl ?_
      refine gf_8_8 50 dX8_does_47 rfl kf_X8_13 ?_
      refine g_iload_n 51 dX8_does_50 rfl rfl ?_
      refine g_iload 53 dX8_does_51 rfl rfl ?_
      refine g_iadd 54 dX8_does_53 rfl ?_
      refine g_iload 56 dX8_does_54 rfl rfl ?_
      refine g_iconst (5) 57 dX8_does_56 rfl (by decide) ?_
      refine g_icmp_ge 73 60 dX8_does_57 rfl (by decide) (fun h57 => ?_) (fun h57 => ?_)
      · exact absurd h57 hwh
      · refine g_aload_n 61 dX8_does_60 rfl rfl ?_
        refine gf_8_8 64 dX8_does_61 rfl kf_X8_13 ?_
        refine g_iload 66 dX8_does_64 rfl rfl ?_
        refine g_iload 68 dX8_does_66 rfl rfl ?_
        refine g_iadd 69 dX8_does_68 rfl ?_
        refine ga_ild (7 * f + i) 70 dX8_does_69 rfl (by first | decide | assumption | exact ⟨Nat.le_of_ble_eq_true rfl, rfl⟩) (ix7 f i) (show 7 * f + i < 231 by omega) ?_
        refine g_goto 95 dX8_does_70 (by decide) ?_
        refine ga_ist (7 * m + i) 96 dX8_does_95 rfl (by first | decide | assumption | exact ⟨Nat.le_of_ble_eq_true rfl, rfl⟩) (ix7 m i) (show 7 * m + i < 231 by omega) ?_
        refine g_iinc (1) 99 dX8_does_96 rfl (by decide) (by decide) rfl ?_
        refine g_goto 39 dX8_does_99 (by decide) ?_
        refine gs_at (congrArg (fun x => St x J) (pre7_s (v := (fun j => F 169 (7 * f + j))) (u := u) (by omega) (lnF_out F _ hf (by omega)))) ?_
        exact ih (i + 1) _ (by omega) (nI_succ i).symm kk

set_option maxRecDepth 100000 in
set_option maxHeartbeats 4000000 in
theorem lm_fB (g : Gl) (l : Launch) {zc : Option Value → Sg → Prop} (F : Nat → Nat → Int32) (J : Nat → Int64) {m s : Nat} (hm : m < 32) (hs : s < 24) (u : Nat → Int32) (nn oi wh : Int32) (x8 x9 x10 x11 x12 : Option Value)  {XX : State → Method → Prop} (n : Nat) : ∀ (i : Nat) (ix : Int32), i + n = 7 → ix = nI i → (∀ x7, Gj g l (rmd 1 0 0) XX (QM g zc 0 0) RX8 cX8_does 13 none 102 [some (.ref 167), some (.int (nI s)), some (.int (7 * nI m)), some (.int (10 * nI s)), some (.int 7), some (.int oi), some (.int nn), x7, x8, x9, x10, x11, x12] [] (St (lnF F m (fun j => F 171 (10 * s + 3 + j))) J) 0 0) → Gj g l (rmd 1 0 0) XX (QM g zc 0 0) RX8 cX8_does 13 none 39 [some (.ref 167), some (.int (nI s)), some (.int (7 * nI m)), some (.int (10 * nI s)), some (.int 7), some (.int oi), some (.int nn), some (.int ix), x8, x9, x10, x11, x12] [] (St (lnF F m (pre7 (fun j => F 171 (10 * s + 3 + j)) u i)) J) 0 0 := by
  induction n with
  | zero =>
    intro i ix hi hx kk
    obtain rfl : i = 7 := by omega
    subst hx
    refine g_iload 41 dX8_does_39 rfl rfl ?_
    refine g_bipush (7) 43 dX8_does_41 rfl (by decide) ?_
    refine g_icmp_ge 102 46 dX8_does_43 rfl (by decide) (fun h43 => ?_) (fun h43 => ?_)
    · refine gs_at (congrArg (fun x => St x J) pre7_7) ?_
      exact kk _
    · exact absurd (by decide) h43
  | succ n ih =>
    intro i ix hi hx kk
    subst hx
    refine g_iload 41 dX8_does_39 rfl rfl ?_
    refine g_bipush (7) 43 dX8_does_41 rfl (by decide) ?_
    refine g_icmp_ge 102 46 dX8_does_43 rfl (by decide) (fun h43 => ?_) (fun h43 => ?_)
    · exact absurd h43 (lt7 (by omega))
    · refine g_aload_n 47 dX8_does_46 rfl rfl ?_
      refine gf_8_8 50 dX8_does_47 rfl kf_X8_13 ?_
      refine g_iload_n 51 dX8_does_50 rfl rfl ?_
      refine g_iload 53 dX8_does_51 rfl rfl ?_
      refine g_iadd 54 dX8_does_53 rfl ?_
      refine g_iload 56 dX8_does_54 rfl rfl ?_
      refine g_iconst (5) 57 dX8_does_56 rfl (by decide) ?_
      refine g_icmp_ge 73 60 dX8_does_57 rfl (by decide) (fun h57 => ?_) (fun h57 => ?_)
      · refine g_iload 75 dX8_does_73 rfl rfl ?_
        refine g_bipush (7) 77 dX8_does_75 rfl (by decide) ?_
        refine g_icmp_ne 94 80 dX8_does_77 rfl (by decide) (fun h77 => ?_) (fun h77 => ?_)
        · exact absurd h77 (by decide)
        · refine g_aload_n 81 dX8_does_80 rfl rfl ?_
          refine gf_8_15 84 dX8_does_81 rfl kf_X8_26 ?_
          refine g_iload_n 85 dX8_does_84 rfl rfl ?_
          refine g_iconst (3) 86 dX8_does_85 rfl (by decide) ?_
          refine g_iadd 87 dX8_does_86 rfl ?_
          refine g_iload 89 dX8_does_87 rfl rfl ?_
          refine g_iadd 90 dX8_does_89 rfl ?_
          refine ga_ild (10 * s + 3 + i) 91 dX8_does_90 rfl (by first | decide | assumption | exact ⟨Nat.le_of_ble_eq_true rfl, rfl⟩) (ix103 s i) (show 10 * s + 3 + i < 240 by omega) ?_
          refine g_goto 95 dX8_does_91 (by decide) ?_
          refine ga_ist (7 * m + i) 96 dX8_does_95 rfl (by first | decide | assumption | exact ⟨Nat.le_of_ble_eq_true rfl, rfl⟩) (ix7 m i) (show 7 * m + i < 231 by omega) ?_
          refine g_iinc (1) 99 dX8_does_96 rfl (by decide) (by decide) rfl ?_
          refine g_goto 39 dX8_does_99 (by decide) ?_
          refine gs_at (congrArg (fun x => St x J) (pre7_s (v := (fun j => F 171 (10 * s + 3 + j))) (u := u) (by omega) (by rw [lnF_ne _ _ _ (by decide)]))) ?_
          exact ih (i + 1) _ (by omega) (nI_succ i).symm kk
      · exact absurd h57 (by decide)

set_option maxRecDepth 100000 in
set_option maxHeartbeats 4000000 in
theorem lm_fC (g : Gl) (l : Launch) {zc : Option Value → Sg → Prop} (F : Nat → Nat → Int32) (J : Nat → Int64) {m s : Nat} (hm : m < 32) (hs : s < 24) (u : Nat → Int32) (nn oi wh : Int32) (x8 x9 x10 x11 x12 : Option Value) (h5 : 5 ≤ wh) (h7 : ¬ wh = 7) {XX : State → Method → Prop} (n : Nat) : ∀ (i : Nat) (ix : Int32), i + n = 7 → ix = nI i → (∀ x7, Gj g l (rmd 1 0 0) XX (QM g zc 0 0) RX8 cX8_does 13 none 102 [some (.ref 167), some (.int (nI s)), some (.int (7 * nI m)), some (.int (10 * nI s)), some (.int wh), some (.int oi), some (.int nn), x7, x8, x9, x10, x11, x12] [] (St (lnF F m (fun _ => 0)) J) 0 0) → Gj g l (rmd 1 0 0) XX (QM g zc 0 0) RX8 cX8_does 13 none 39 [some (.ref 167), some (.int (nI s)), some (.int (7 * nI m)), some (.int (10 * nI s)), some (.int wh), some (.int oi), some (.int nn), some (.int ix), x8, x9, x10, x11, x12] [] (St (lnF F m (pre7 (fun _ => 0) u i)) J) 0 0 := by
  induction n with
  | zero =>
    intro i ix hi hx kk
    obtain rfl : i = 7 := by omega
    subst hx
    refine g_iload 41 dX8_does_39 rfl rfl ?_
    refine g_bipush (7) 43 dX8_does_41 rfl (by decide) ?_
    refine g_icmp_ge 102 46 dX8_does_43 rfl (by decide) (fun h43 => ?_) (fun h43 => ?_)
    · refine gs_at (congrArg (fun x => St x J) pre7_7) ?_
      exact kk _
    · exact absurd (by decide) h43
  | succ n ih =>
    intro i ix hi hx kk
    subst hx
    refine g_iload 41 dX8_does_39 rfl rfl ?_
    refine g_bipush (7) 43 dX8_does_41 rfl (by decide) ?_
    refine g_icmp_ge 102 46 dX8_does_43 rfl (by decide) (fun h43 => ?_) (fun h43 => ?_)
    · exact absurd h43 (lt7 (by omega))
    · refine g_aload_n 47 dX8_does_46 rfl rfl ?_
      refine gf_8_8 50 dX8_does_47 rfl kf_X8_13 ?_
      refine g_iload_n 51 dX8_does_50 rfl rfl ?_
      refine g_iload 53 dX8_does_51 rfl rfl ?_
      refine g_iadd 54 dX8_does_53 rfl ?_
      refine g_iload 56 dX8_does_54 rfl rfl ?_
      refine g_iconst (5) 57 dX8_does_56 rfl (by decide) ?_
      refine g_icmp_ge 73 60 dX8_does_57 rfl (by decide) (fun h57 => ?_) (fun h57 => ?_)
      · refine g_iload 75 dX8_does_73 rfl rfl ?_
        refine g_bipush (7) 77 dX8_does_75 rfl (by decide) ?_
        refine g_icmp_ne 94 80 dX8_does_77 rfl (by decide) (fun h77 => ?_) (fun h77 => ?_)
        · refine g_iconst (0) 95 dX8_does_94 rfl (by decide) ?_
          refine ga_ist (7 * m + i) 96 dX8_does_95 rfl (by first | decide | assumption | exact ⟨Nat.le_of_ble_eq_true rfl, rfl⟩) (ix7 m i) (show 7 * m + i < 231 by omega) ?_
          refine g_iinc (1) 99 dX8_does_96 rfl (by decide) (by decide) rfl ?_
          refine g_goto 39 dX8_does_99 (by decide) ?_
          refine gs_at (congrArg (fun x => St x J) (pre7_s (v := (fun _ => 0)) (u := u) (by omega) (rfl))) ?_
          exact ih (i + 1) _ (by omega) (nI_succ i).symm kk
        · exact absurd h77 h7
      · exact absurd h5 h57

set_option maxRecDepth 100000 in
set_option maxHeartbeats 4000000 in
theorem lm_add (g : Gl) (l : Launch) (F : Nat → Nat → Int32) (J : Nat → Int64) {m s : Nat} (hm : m < 32) (hs : s < 24) {f h : Nat} (hf : f < m) (hh : h < m) (hWf : ∀ j, j < 6 → wbd (F 169 (7 * f + j))) (hWh : ∀ j, j < 6 → wbd (F 169 (7 * h + j))) {XX : State → Method → Prop} (n : Nat) : ∀ (i : Nat) (ix x : Int32) (x10 x11 x12 : Option Value), i + n = 6 → ix = nI i → x = sd (fun j => F 169 (7 * f + j)) (fun j => F 169 (7 * h + j)) (F 169 (7 * f + 6) + F 169 (7 * h + 6)) i → Gj g l (rmd 1 0 0) XX (QM g (fun r S2 => r = none ∧ S2 = St (lnF F m (addV (fun j => F 169 (7 * f + j)) (fun j => F 169 (7 * h + j)))) J) 0 0) RX8 cX8_does 13 none 140 [some (.ref 167), some (.int (nI s)), some (.int (7 * nI m)), some (.int (10 * nI s)), some (.int 0), some (.int (7 * nI f)), some (.int (nI h)), some (.int (7 * nI h)), some (.int x), some (.int ix), x10, x11, x12] [] (St (lnF F m (pre7 (addV (fun j => F 169 (7 * f + j)) (fun j => F 169 (7 * h + j))) (fun j => F 169 (7 * f + j)) i)) J) 0 0 := by
  induction n with
  | zero =>
    intro i ix x x10 x11 x12 hi hx he
    obtain rfl : i = 6 := by omega
    subst hx
    refine g_iload 142 dX8_does_140 rfl rfl ?_
    refine g_bipush (6) 144 dX8_does_142 rfl (by decide) ?_
    refine g_icmp_ge 253 147 dX8_does_144 rfl (by decide) (fun h144 => ?_) (fun h144 => ?_)
    · refine g_aload_n 254 dX8_does_253 rfl rfl ?_
      refine gf_8_8 257 dX8_does_254 rfl kf_X8_13 ?_
      refine g_iload_n 258 dX8_does_257 rfl rfl ?_
      refine g_bipush (6) 260 dX8_does_258 rfl (by decide) ?_
      refine g_iadd 261 dX8_does_260 rfl ?_
      refine g_iload 263 dX8_does_261 rfl rfl ?_
      refine g_if_ge 270 266 dX8_does_263 rfl (by decide) (fun h263 => ?_) (fun h263 => ?_)
      · refine g_iload 272 dX8_does_270 rfl rfl ?_
        refine ga_ist (7 * m + 6) 273 dX8_does_272 rfl (by first | decide | assumption | exact ⟨Nat.le_of_ble_eq_true rfl, rfl⟩) (ix76 m) (show 7 * m + 6 < 231 by omega) ?_
        refine g_goto 571 dX8_does_273 (by decide) ?_
        refine g_vret dX8_does_571 ?_
        refine ⟨rfl, congrArg (fun x => St x J) ?_⟩
        rw [lnF_up _ _ _ _ (by decide)]
        refine lnF_eq fun j hj => ?_
        by_cases e : j < 6
        · simp only [upd, if_neg (show ¬ j = 6 by omega), pre7, if_pos e]
        · obtain rfl : j = 6 := by omega
          rw [addV, if_neg e]
          simp only [upd, if_true, max0]
          rw [← he, if_pos h263]
      · refine g_iconst (0) 267 dX8_does_266 rfl (by decide) ?_
        refine g_goto 272 dX8_does_267 (by decide) ?_
        refine ga_ist (7 * m + 6) 273 dX8_does_272 rfl (by first | decide | assumption | exact ⟨Nat.le_of_ble_eq_true rfl, rfl⟩) (ix76 m) (show 7 * m + 6 < 231 by omega) ?_
        refine g_goto 571 dX8_does_273 (by decide) ?_
        refine g_vret dX8_does_571 ?_
        refine ⟨rfl, congrArg (fun x => St x J) ?_⟩
        rw [lnF_up _ _ _ _ (by decide)]
        refine lnF_eq fun j hj => ?_
        by_cases e : j < 6
        · simp only [upd, if_neg (show ¬ j = 6 by omega), pre7, if_pos e]
        · obtain rfl : j = 6 := by omega
          rw [addV, if_neg e]
          simp only [upd, if_true, max0]
          rw [← he, if_neg h263]
    · exact absurd (by decide) h144
  | succ n ih =>
    intro i ix x x10 x11 x12 hi hx he
    subst hx
    have e1 : lnF F m (pre7 (addV (fun j => F 169 (7 * f + j)) (fun j => F 169 (7 * h + j))) (fun j => F 169 (7 * f + j)) i) 169 (7 * f + i) = F 169 (7 * f + i) := lnF_out F _ hf (by omega)
    have e2 : lnF F m (pre7 (addV (fun j => F 169 (7 * f + j)) (fun j => F 169 (7 * h + j))) (fun j => F 169 (7 * f + j)) i) 169 (7 * h + i) = F 169 (7 * h + i) := lnF_out F _ hh (by omega)
    refine g_iload 142 dX8_does_140 rfl rfl ?_
    refine g_bipush (6) 144 dX8_does_142 rfl (by decide) ?_
    refine g_icmp_ge 253 147 dX8_does_144 rfl (by decide) (fun h144 => ?_) (fun h144 => ?_)
    · exact absurd h144 (lt6 (by omega))
    · refine g_aload_n 148 dX8_does_147 rfl rfl ?_
      refine gf_8_8 151 dX8_does_148 rfl kf_X8_13 ?_
      refine g_iload 153 dX8_does_151 rfl rfl ?_
      refine g_iload 155 dX8_does_153 rfl rfl ?_
      refine g_iadd 156 dX8_does_155 rfl ?_
      refine ga_ild (7 * f + i) 157 dX8_does_156 rfl (by first | decide | assumption | exact ⟨Nat.le_of_ble_eq_true rfl, rfl⟩) (ix7 f i) (show 7 * f + i < 231 by omega) ?_
      refine g_istore 159 dX8_does_157 rfl (by decide) ?_
      refine g_aload_n 160 dX8_does_159 rfl rfl ?_
      refine gf_8_8 163 dX8_does_160 rfl kf_X8_13 ?_
      refine g_iload 165 dX8_does_163 rfl rfl ?_
      refine g_iload 167 dX8_does_165 rfl rfl ?_
      refine g_iadd 168 dX8_does_167 rfl ?_
      refine ga_ild (7 * h + i) 169 dX8_does_168 rfl (by first | decide | assumption | exact ⟨Nat.le_of_ble_eq_true rfl, rfl⟩) (ix7 h i) (show 7 * h + i < 231 by omega) ?_
      refine g_istore 171 dX8_does_169 rfl (by decide) ?_
      refine g_iload 173 dX8_does_171 rfl rfl ?_
      refine g_s1 176 dX8_does_173 rfl kl_X8_119 ms_X8_size ⟨Nat.le_of_ble_eq_true rfl, Nat.le_of_ble_eq_true rfl⟩ (Nat.le_of_ble_eq_true rfl) (m_size g l _ _) ?_
      rintro _ _ ⟨rfl, rfl⟩
      refine g_iload 178 dX8_does_176 rfl rfl ?_
      refine g_s1 181 dX8_does_178 rfl kl_X8_119 ms_X8_size ⟨Nat.le_of_ble_eq_true rfl, Nat.le_of_ble_eq_true rfl⟩ (Nat.le_of_ble_eq_true rfl) (m_size g l _ _) ?_
      rintro _ _ ⟨rfl, rfl⟩
      refine g_icmp_ge 192 184 dX8_does_181 rfl (by decide) (fun h181 => ?_) (fun h181 => ?_)
      · refine g_iload 194 dX8_does_192 rfl rfl ?_
        refine g_s1 197 dX8_does_194 rfl kl_X8_119 ms_X8_size ⟨Nat.le_of_ble_eq_true rfl, Nat.le_of_ble_eq_true rfl⟩ (Nat.le_of_ble_eq_true rfl) (m_size g l _ _) ?_
        rintro _ _ ⟨rfl, rfl⟩
        refine g_istore 199 dX8_does_197 rfl (by decide) ?_
        refine g_iload 201 dX8_does_199 rfl rfl ?_
        refine g_iload 203 dX8_does_201 rfl rfl ?_
        refine g_if_ge 210 206 dX8_does_203 rfl (by decide) (fun h203 => ?_) (fun h203 => ?_)
        · refine g_iconst (0) 211 dX8_does_210 rfl (by decide) ?_
          refine g_iload 213 dX8_does_211 rfl rfl ?_
          refine g_if_ge 220 216 dX8_does_213 rfl (by decide) (fun h213 => ?_) (fun h213 => ?_)
          · refine g_iconst (0) 221 dX8_does_220 rfl (by decide) ?_
            refine g_icmp_eq 229 224 dX8_does_221 rfl (by decide) (fun h221 => ?_) (fun h221 => ?_)
            · refine g_iconst (0) 230 dX8_does_229 rfl (by decide) ?_
              refine g_isub 231 dX8_does_230 rfl ?_
              refine g_istore 233 dX8_does_231 rfl (by decide) ?_
              refine g_aload_n 234 dX8_does_233 rfl rfl ?_
              refine gf_8_8 237 dX8_does_234 rfl kf_X8_13 ?_
              refine g_iload_n 238 dX8_does_237 rfl rfl ?_
              refine g_iload 240 dX8_does_238 rfl rfl ?_
              refine g_iadd 241 dX8_does_240 rfl ?_
              refine g_iload 243 dX8_does_241 rfl rfl ?_
              refine g_iload 245 dX8_does_243 rfl rfl ?_
              refine g_iadd 246 dX8_does_245 rfl ?_
              refine ga_ist (7 * m + i) 247 dX8_does_246 rfl (by first | decide | assumption | exact ⟨Nat.le_of_ble_eq_true rfl, rfl⟩) (ix7 m i) (show 7 * m + i < 231 by omega) ?_
              refine g_iinc (1) 250 dX8_does_247 rfl (by decide) (by decide) rfl ?_
              refine g_goto 140 dX8_does_250 (by decide) ?_
              have q203 : 0 ≤ F 169 (7 * f + i) := by rw [e1] at h203; exact h203
              have q213 : 0 ≤ F 169 (7 * h + i) := by rw [e2] at h213; exact h213
              refine gs_at (congrArg (fun x => St x J) (pre7_s (v := (addV (fun j => F 169 (7 * f + j)) (fun j => F 169 (7 * h + j)))) (u := (fun j => F 169 (7 * f + j))) (by omega) (by rw [e1, e2, addV, if_pos (show i < 6 by omega)]))) ?_
              exact ih (i + 1) _ _ _ _ _ (by omega) (nI_succ i).symm (by rw [sd_eq (v := (fun j => F 169 (7 * f + j))) (w := (fun j => F 169 (7 * h + j))) (d := F 169 (7 * f + 6) + F 169 (7 * h + 6)) (i := i) (Or.inl ⟨q203, q213⟩), ← he])
            · exact absurd h221 (by decide)
          · refine g_iconst (1) 217 dX8_does_216 rfl (by decide) ?_
            refine g_goto 221 dX8_does_217 (by decide) ?_
            refine g_icmp_eq 229 224 dX8_does_221 rfl (by decide) (fun h221 => ?_) (fun h221 => ?_)
            · exact absurd h221 (by decide)
            · refine g_iload 226 dX8_does_224 rfl rfl ?_
              refine g_goto 230 dX8_does_226 (by decide) ?_
              refine g_isub 231 dX8_does_230 rfl ?_
              refine g_istore 233 dX8_does_231 rfl (by decide) ?_
              refine g_aload_n 234 dX8_does_233 rfl rfl ?_
              refine gf_8_8 237 dX8_does_234 rfl kf_X8_13 ?_
              refine g_iload_n 238 dX8_does_237 rfl rfl ?_
              refine g_iload 240 dX8_does_238 rfl rfl ?_
              refine g_iadd 241 dX8_does_240 rfl ?_
              refine g_iload 243 dX8_does_241 rfl rfl ?_
              refine g_iload 245 dX8_does_243 rfl rfl ?_
              refine g_iadd 246 dX8_does_245 rfl ?_
              refine ga_ist (7 * m + i) 247 dX8_does_246 rfl (by first | decide | assumption | exact ⟨Nat.le_of_ble_eq_true rfl, rfl⟩) (ix7 m i) (show 7 * m + i < 231 by omega) ?_
              refine g_iinc (1) 250 dX8_does_247 rfl (by decide) (by decide) rfl ?_
              refine g_goto 140 dX8_does_250 (by decide) ?_
              have q203 : 0 ≤ F 169 (7 * f + i) := by rw [e1] at h203; exact h203
              have q213 : ¬ 0 ≤ F 169 (7 * h + i) := by rw [e2] at h213; exact h213
              have q181 : abs32 (F 169 (7 * h + i)) ≤ abs32 (F 169 (7 * f + i)) := by rw [e1, e2] at h181; exact h181
              have qm : abs32 (F 169 (7 * h + i)) = min32 (abs32 (F 169 (7 * f + i))) (abs32 (F 169 (7 * h + i))) := (less_min _ _).1 q181
              refine gs_at (congrArg (fun x => St x J) (pre7_s (v := (addV (fun j => F 169 (7 * f + j)) (fun j => F 169 (7 * h + j)))) (u := (fun j => F 169 (7 * f + j))) (by omega) (by rw [e1, e2, addV, if_pos (show i < 6 by omega)]))) ?_
              exact ih (i + 1) _ _ _ _ _ (by omega) (nI_succ i).symm (by rw [sd_df (v := (fun j => F 169 (7 * f + j))) (w := (fun j => F 169 (7 * h + j))) (d := F 169 (7 * f + 6) + F 169 (7 * h + 6)) (i := i) (hWf i (by omega)) (hWh i (by omega)) (Or.inr ⟨q203, q213⟩) qm, ← he, e2])
        · refine g_iconst (1) 207 dX8_does_206 rfl (by decide) ?_
          refine g_goto 211 dX8_does_207 (by decide) ?_
          refine g_iload 213 dX8_does_211 rfl rfl ?_
          refine g_if_ge 220 216 dX8_does_213 rfl (by decide) (fun h213 => ?_) (fun h213 => ?_)
          · refine g_iconst (0) 221 dX8_does_220 rfl (by decide) ?_
            refine g_icmp_eq 229 224 dX8_does_221 rfl (by decide) (fun h221 => ?_) (fun h221 => ?_)
            · exact absurd h221 (by decide)
            · refine g_iload 226 dX8_does_224 rfl rfl ?_
              refine g_goto 230 dX8_does_226 (by decide) ?_
              refine g_isub 231 dX8_does_230 rfl ?_
              refine g_istore 233 dX8_does_231 rfl (by decide) ?_
              refine g_aload_n 234 dX8_does_233 rfl rfl ?_
              refine gf_8_8 237 dX8_does_234 rfl kf_X8_13 ?_
              refine g_iload_n 238 dX8_does_237 rfl rfl ?_
              refine g_iload 240 dX8_does_238 rfl rfl ?_
              refine g_iadd 241 dX8_does_240 rfl ?_
              refine g_iload 243 dX8_does_241 rfl rfl ?_
              refine g_iload 245 dX8_does_243 rfl rfl ?_
              refine g_iadd 246 dX8_does_245 rfl ?_
              refine ga_ist (7 * m + i) 247 dX8_does_246 rfl (by first | decide | assumption | exact ⟨Nat.le_of_ble_eq_true rfl, rfl⟩) (ix7 m i) (show 7 * m + i < 231 by omega) ?_
              refine g_iinc (1) 250 dX8_does_247 rfl (by decide) (by decide) rfl ?_
              refine g_goto 140 dX8_does_250 (by decide) ?_
              have q203 : ¬ 0 ≤ F 169 (7 * f + i) := by rw [e1] at h203; exact h203
              have q213 : 0 ≤ F 169 (7 * h + i) := by rw [e2] at h213; exact h213
              have q181 : abs32 (F 169 (7 * h + i)) ≤ abs32 (F 169 (7 * f + i)) := by rw [e1, e2] at h181; exact h181
              have qm : abs32 (F 169 (7 * h + i)) = min32 (abs32 (F 169 (7 * f + i))) (abs32 (F 169 (7 * h + i))) := (less_min _ _).1 q181
              refine gs_at (congrArg (fun x => St x J) (pre7_s (v := (addV (fun j => F 169 (7 * f + j)) (fun j => F 169 (7 * h + j)))) (u := (fun j => F 169 (7 * f + j))) (by omega) (by rw [e1, e2, addV, if_pos (show i < 6 by omega)]))) ?_
              exact ih (i + 1) _ _ _ _ _ (by omega) (nI_succ i).symm (by rw [sd_df (v := (fun j => F 169 (7 * f + j))) (w := (fun j => F 169 (7 * h + j))) (d := F 169 (7 * f + 6) + F 169 (7 * h + 6)) (i := i) (hWf i (by omega)) (hWh i (by omega)) (Or.inl ⟨q203, q213⟩) qm, ← he, e2])
          · refine g_iconst (1) 217 dX8_does_216 rfl (by decide) ?_
            refine g_goto 221 dX8_does_217 (by decide) ?_
            refine g_icmp_eq 229 224 dX8_does_221 rfl (by decide) (fun h221 => ?_) (fun h221 => ?_)
            · refine g_iconst (0) 230 dX8_does_229 rfl (by decide) ?_
              refine g_isub 231 dX8_does_230 rfl ?_
              refine g_istore 233 dX8_does_231 rfl (by decide) ?_
              refine g_aload_n 234 dX8_does_233 rfl rfl ?_
              refine gf_8_8 237 dX8_does_234 rfl kf_X8_13 ?_
              refine g_iload_n 238 dX8_does_237 rfl rfl ?_
              refine g_iload 240 dX8_does_238 rfl rfl ?_
              refine g_iadd 241 dX8_does_240 rfl ?_
              refine g_iload 243 dX8_does_241 rfl rfl ?_
              refine g_iload 245 dX8_does_243 rfl rfl ?_
              refine g_iadd 246 dX8_does_245 rfl ?_
              refine ga_ist (7 * m + i) 247 dX8_does_246 rfl (by first | decide | assumption | exact ⟨Nat.le_of_ble_eq_true rfl, rfl⟩) (ix7 m i) (show 7 * m + i < 231 by omega) ?_
              refine g_iinc (1) 250 dX8_does_247 rfl (by decide) (by decide) rfl ?_
              refine g_goto 140 dX8_does_250 (by decide) ?_
              have q203 : ¬ 0 ≤ F 169 (7 * f + i) := by rw [e1] at h203; exact h203
              have q213 : ¬ 0 ≤ F 169 (7 * h + i) := by rw [e2] at h213; exact h213
              refine gs_at (congrArg (fun x => St x J) (pre7_s (v := (addV (fun j => F 169 (7 * f + j)) (fun j => F 169 (7 * h + j)))) (u := (fun j => F 169 (7 * f + j))) (by omega) (by rw [e1, e2, addV, if_pos (show i < 6 by omega)]))) ?_
              exact ih (i + 1) _ _ _ _ _ (by omega) (nI_succ i).symm (by rw [sd_eq (v := (fun j => F 169 (7 * f + j))) (w := (fun j => F 169 (7 * h + j))) (d := F 169 (7 * f + 6) + F 169 (7 * h + 6)) (i := i) (Or.inr ⟨q203, q213⟩), ← he])
            · exact absurd h221 (by decide)
      · refine g_iload 186 dX8_does_184 rfl rfl ?_
        refine g_s1 189 dX8_does_186 rfl kl_X8_119 ms_X8_size ⟨Nat.le_of_ble_eq_true rfl, Nat.le_of_ble_eq_true rfl⟩ (Nat.le_of_ble_eq_true rfl) (m_size g l _ _) ?_
        rintro _ _ ⟨rfl, rfl⟩
        refine g_goto 197 dX8_does_189 (by decide) ?_
        refine g_istore 199 dX8_does_197 rfl (by decide) ?_
        refine g_iload 201 dX8_does_199 rfl rfl ?_
        refine g_iload 203 dX8_does_201 rfl rfl ?_
        refine g_if_ge 210 206 dX8_does_203 rfl (by decide) (fun h203 => ?_) (fun h203 => ?_)
        · refine g_iconst (0) 211 dX8_does_210 rfl (by decide) ?_
          refine g_iload 213 dX8_does_211 rfl rfl ?_
          refine g_if_ge 220 216 dX8_does_213 rfl (by decide) (fun h213 => ?_) (fun h213 => ?_)
          · refine g_iconst (0) 221 dX8_does_220 rfl (by decide) ?_
            refine g_icmp_eq 229 224 dX8_does_221 rfl (by decide) (fun h221 => ?_) (fun h221 => ?_)
            · refine g_iconst (0) 230 dX8_does_229 rfl (by decide) ?_
              refine g_isub 231 dX8_does_230 rfl ?_
              refine g_istore 233 dX8_does_231 rfl (by decide) ?_
              refine g_aload_n 234 dX8_does_233 rfl rfl ?_
              refine gf_8_8 237 dX8_does_234 rfl kf_X8_13 ?_
              refine g_iload_n 238 dX8_does_237 rfl rfl ?_
              refine g_iload 240 dX8_does_238 rfl rfl ?_
              refine g_iadd 241 dX8_does_240 rfl ?_
              refine g_iload 243 dX8_does_241 rfl rfl ?_
              refine g_iload 245 dX8_does_243 rfl rfl ?_
              refine g_iadd 246 dX8_does_245 rfl ?_
              refine ga_ist (7 * m + i) 247 dX8_does_246 rfl (by first | decide | assumption | exact ⟨Nat.le_of_ble_eq_true rfl, rfl⟩) (ix7 m i) (show 7 * m + i < 231 by omega) ?_
              refine g_iinc (1) 250 dX8_does_247 rfl (by decide) (by decide) rfl ?_
              refine g_goto 140 dX8_does_250 (by decide) ?_
              have q203 : 0 ≤ F 169 (7 * f + i) := by rw [e1] at h203; exact h203
              have q213 : 0 ≤ F 169 (7 * h + i) := by rw [e2] at h213; exact h213
              refine gs_at (congrArg (fun x => St x J) (pre7_s (v := (addV (fun j => F 169 (7 * f + j)) (fun j => F 169 (7 * h + j)))) (u := (fun j => F 169 (7 * f + j))) (by omega) (by rw [e1, e2, addV, if_pos (show i < 6 by omega)]))) ?_
              exact ih (i + 1) _ _ _ _ _ (by omega) (nI_succ i).symm (by rw [sd_eq (v := (fun j => F 169 (7 * f + j))) (w := (fun j => F 169 (7 * h + j))) (d := F 169 (7 * f + 6) + F 169 (7 * h + 6)) (i := i) (Or.inl ⟨q203, q213⟩), ← he])
            · exact absurd h221 (by decide)
          · refine g_iconst (1) 217 dX8_does_216 rfl (by decide) ?_
            refine g_goto 221 dX8_does_217 (by decide) ?_
            refine g_icmp_eq 229 224 dX8_does_221 rfl (by decide) (fun h221 => ?_) (fun h221 => ?_)
            · exact absurd h221 (by decide)
            · refine g_iload 226 dX8_does_224 rfl rfl ?_
              refine g_goto 230 dX8_does_226 (by decide) ?_
              refine g_isub 231 dX8_does_230 rfl ?_
              refine g_istore 233 dX8_does_231 rfl (by decide) ?_
              refine g_aload_n 234 dX8_does_233 rfl rfl ?_
              refine gf_8_8 237 dX8_does_234 rfl kf_X8_13 ?_
              refine g_iload_n 238 dX8_does_237 rfl rfl ?_
              refine g_iload 240 dX8_does_238 rfl rfl ?_
              refine g_iadd 241 dX8_does_240 rfl ?_
              refine g_iload 243 dX8_does_241 rfl rfl ?_
              refine g_iload 245 dX8_does_243 rfl rfl ?_
              refine g_iadd 246 dX8_does_245 rfl ?_
              refine ga_ist (7 * m + i) 247 dX8_does_246 rfl (by first | decide | assumption | exact ⟨Nat.le_of_ble_eq_true rfl, rfl⟩) (ix7 m i) (show 7 * m + i < 231 by omega) ?_
              refine g_iinc (1) 250 dX8_does_247 rfl (by decide) (by decide) rfl ?_
              refine g_goto 140 dX8_does_250 (by decide) ?_
              have q203 : 0 ≤ F 169 (7 * f + i) := by rw [e1] at h203; exact h203
              have q213 : ¬ 0 ≤ F 169 (7 * h + i) := by rw [e2] at h213; exact h213
              have q181 : ¬ abs32 (F 169 (7 * h + i)) ≤ abs32 (F 169 (7 * f + i)) := by rw [e1, e2] at h181; exact h181
              have qm : abs32 (F 169 (7 * f + i)) = min32 (abs32 (F 169 (7 * f + i))) (abs32 (F 169 (7 * h + i))) := (less_min _ _).2 q181
              refine gs_at (congrArg (fun x => St x J) (pre7_s (v := (addV (fun j => F 169 (7 * f + j)) (fun j => F 169 (7 * h + j)))) (u := (fun j => F 169 (7 * f + j))) (by omega) (by rw [e1, e2, addV, if_pos (show i < 6 by omega)]))) ?_
              exact ih (i + 1) _ _ _ _ _ (by omega) (nI_succ i).symm (by rw [sd_df (v := (fun j => F 169 (7 * f + j))) (w := (fun j => F 169 (7 * h + j))) (d := F 169 (7 * f + 6) + F 169 (7 * h + 6)) (i := i) (hWf i (by omega)) (hWh i (by omega)) (Or.inr ⟨q203, q213⟩) qm, ← he, e1])
        · refine g_iconst (1) 207 dX8_does_206 rfl (by decide) ?_
          refine g_goto 211 dX8_does_207 (by decide) ?_
          refine g_iload 213 dX8_does_211 rfl rfl ?_
          refine g_if_ge 220 216 dX8_does_213 rfl (by decide) (fun h213 => ?_) (fun h213 => ?_)
          · refine g_iconst (0) 221 dX8_does_220 rfl (by decide) ?_
            refine g_icmp_eq 229 224 dX8_does_221 rfl (by decide) (fun h221 => ?_) (fun h221 => ?_)
            · exact absurd h221 (by decide)
            · refine g_iload 226 dX8_does_224 rfl rfl ?_
              refine g_goto 230 dX8_does_226 (by decide) ?_
              refine g_isub 231 dX8_does_230 rfl ?_
              refine g_istore 233 dX8_does_231 rfl (by decide) ?_
              refine g_aload_n 234 dX8_does_233 rfl rfl ?_
              refine gf_8_8 237 dX8_does_234 rfl kf_X8_13 ?_
              refine g_iload_n 238 dX8_does_237 rfl rfl ?_
              refine g_iload 240 dX8_does_238 rfl rfl ?_
              refine g_iadd 241 dX8_does_240 rfl ?_
              refine g_iload 243 dX8_does_241 rfl rfl ?_
              refine g_iload 245 dX8_does_243 rfl rfl ?_
              refine g_iadd 246 dX8_does_245 rfl ?_
              refine ga_ist (7 * m + i) 247 dX8_does_246 rfl (by first | decide | assumption | exact ⟨Nat.le_of_ble_eq_true rfl, rfl⟩) (ix7 m i) (show 7 * m + i < 231 by omega) ?_
              refine g_iinc (1) 250 dX8_does_247 rfl (by decide) (by decide) rfl ?_
              refine g_goto 140 dX8_does_250 (by decide) ?_
              have q203 : ¬ 0 ≤ F 169 (7 * f + i) := by rw [e1] at h203; exact h203
              have q213 : 0 ≤ F 169 (7 * h + i) := by rw [e2] at h213; exact h213
              have q181 : ¬ abs32 (F 169 (7 * h + i)) ≤ abs32 (F 169 (7 * f + i)) := by rw [e1, e2] at h181; exact h181
              have qm : abs32 (F 169 (7 * f + i)) = min32 (abs32 (F 169 (7 * f + i))) (abs32 (F 169 (7 * h + i))) := (less_min _ _).2 q181
              refine gs_at (congrArg (fun x => St x J) (pre7_s (v := (addV (fun j => F 169 (7 * f + j)) (fun j => F 169 (7 * h + j)))) (u := (fun j => F 169 (7 * f + j))) (by omega) (by rw [e1, e2, addV, if_pos (show i < 6 by omega)]))) ?_
              exact ih (i + 1) _ _ _ _ _ (by omega) (nI_succ i).symm (by rw [sd_df (v := (fun j => F 169 (7 * f + j))) (w := (fun j => F 169 (7 * h + j))) (d := F 169 (7 * f + 6) + F 169 (7 * h + 6)) (i := i) (hWf i (by omega)) (hWh i (by omega)) (Or.inl ⟨q203, q213⟩) qm, ← he, e1])
          · refine g_iconst (1) 217 dX8_does_216 rfl (by decide) ?_
            refine g_goto 221 dX8_does_217 (by decide) ?_
            refine g_icmp_eq 229 224 dX8_does_221 rfl (by decide) (fun h221 => ?_) (fun h221 => ?_)
            · refine g_iconst (0) 230 dX8_does_229 rfl (by decide) ?_
              refine g_isub 231 dX8_does_230 rfl ?_
              refine g_istore 233 dX8_does_231 rfl (by decide) ?_
              refine g_aload_n 234 dX8_does_233 rfl rfl ?_
              refine gf_8_8 237 dX8_does_234 rfl kf_X8_13 ?_
              refine g_iload_n 238 dX8_does_237 rfl rfl ?_
              refine g_iload 240 dX8_does_238 rfl rfl ?_
              refine g_iadd 241 dX8_does_240 rfl ?_
              refine g_iload 243 dX8_does_241 rfl rfl ?_
              refine g_iload 245 dX8_does_243 rfl rfl ?_
              refine g_iadd 246 dX8_does_245 rfl ?_
              refine ga_ist (7 * m + i) 247 dX8_does_246 rfl (by first | decide | assumption | exact ⟨Nat.le_of_ble_eq_true rfl, rfl⟩) (ix7 m i) (show 7 * m + i < 231 by omega) ?_
              refine g_iinc (1) 250 dX8_does_247 rfl (by decide) (by decide) rfl ?_
              refine g_goto 140 dX8_does_250 (by decide) ?_
              have q203 : ¬ 0 ≤ F 169 (7 * f + i) := by rw [e1] at h203; exact h203
              have q213 : ¬ 0 ≤ F 169 (7 * h + i) := by rw [e2] at h213; exact h213
              refine gs_at (congrArg (fun x => St x J) (pre7_s (v := (addV (fun j => F 169 (7 * f + j)) (fun j => F 169 (7 * h + j)))) (u := (fun j => F 169 (7 * f + j))) (by omega) (by rw [e1, e2, addV, if_pos (show i < 6 by omega)]))) ?_
              exact ih (i + 1) _ _ _ _ _ (by omega) (nI_succ i).symm (by rw [sd_eq (v := (fun j => F 169 (7 * f + j))) (w := (fun j => F 169 (7 * h + j))) (d := F 169 (7 * f + 6) + F 169 (7 * h + 6)) (i := i) (Or.inr ⟨q203, q213⟩), ← he])
            · exact absurd h221 (by decide)

set_option maxRecDepth 100000 in
set_option maxHeartbeats 4000000 in
theorem t_add (g : Gl) (l : Launch) (F : Nat → Nat → Int32) (J : Nat → Int64) {m s : Nat} (hm : m < 32) (hs : s < 24) {f h : Nat} (hf : f < m) (hh : h < m) (hWf : ∀ j, j < 6 → wbd (F 169 (7 * f + j))) (hWh : ∀ j, j < 6 → wbd (F 169 (7 * h + j))) {XX : State → Method → Prop} (x7 x8 x9 x10 x11 x12 : Option Value) : Gj g l (rmd 1 0 0) XX (QM g (fun r S2 => r = none ∧ S2 = St (lnF F m (addV (fun j => F 169 (7 * f + j)) (fun j => F 169 (7 * h + j)))) J) 0 0) RX8 cX8_does 13 none 102 [some (.ref 167), some (.int (nI s)), some (.int (7 * nI m)), some (.int (10 * nI s)), some (.int 0), some (.int (7 * nI f)), some (.int (nI h)), x7, x8, x9, x10, x11, x12] [] (St (lnF F m (fun j => F 169 (7 * f + j))) J) 0 0 := by
  refine g_iload 104 dX8_does_102 rfl rfl ?_
  refine g_if_ne 276 107 dX8_does_104 rfl (by decide) (fun h104 => ?_) (fun h104 => ?_)
  · exact absurd h104 (by decide)
  · refine g_bipush (7) 109 dX8_does_107 rfl (by decide) ?_
    refine g_iload 111 dX8_does_109 rfl rfl ?_
    refine g_imul 112 dX8_does_111 rfl ?_
    refine g_istore 114 dX8_does_112 rfl (by decide) ?_
    refine g_aload_n 115 dX8_does_114 rfl rfl ?_
    refine gf_8_8 118 dX8_does_115 rfl kf_X8_13 ?_
    refine g_iload 120 dX8_does_118 rfl rfl ?_
    refine g_bipush (6) 122 dX8_does_120 rfl (by decide) ?_
    refine g_iadd 123 dX8_does_122 rfl ?_
    refine ga_ild (7 * f + 6) 124 dX8_does_123 rfl (by first | decide | assumption | exact ⟨Nat.le_of_ble_eq_true rfl, rfl⟩) (ix76 f) (show 7 * f + 6 < 231 by omega) ?_
    refine g_aload_n 125 dX8_does_124 rfl rfl ?_
    refine gf_8_8 128 dX8_does_125 rfl kf_X8_13 ?_
    refine g_iload 130 dX8_does_128 rfl rfl ?_
    refine g_bipush (6) 132 dX8_does_130 rfl (by decide) ?_
    refine g_iadd 133 dX8_does_132 rfl ?_
    refine ga_ild (7 * h + 6) 134 dX8_does_133 rfl (by first | decide | assumption | exact ⟨Nat.le_of_ble_eq_true rfl, rfl⟩) (ix76 h) (show 7 * h + 6 < 231 by omega) ?_
    refine g_iadd 135 dX8_does_134 rfl ?_
    refine g_istore 137 dX8_does_135 rfl (by decide) ?_
    refine g_iconst (0) 138 dX8_does_137 rfl (by decide) ?_
    refine g_istore 140 dX8_does_138 rfl (by decide) ?_
    have h0 : lnF F m (fun j => F 169 (7 * f + j)) = lnF F m (pre7 (addV (fun j => F 169 (7 * f + j)) (fun j => F 169 (7 * h + j))) (fun j => F 169 (7 * f + j)) 0) := by rw [pre7_0]
    refine gs_at (congrArg (fun x => St x J) h0) ?_
    exact lm_add g l F J hm hs hf hh hWf hWh 6 0 _ _ _ _ _ rfl rfl (by rw [sd]; exact congrArg₂' (lnF_out F _ hf (by omega)) (lnF_out F _ hh (by omega)))

set_option maxRecDepth 100000 in
set_option maxHeartbeats 4000000 in
theorem lm_times (g : Gl) (l : Launch) (F : Nat → Nat → Int32) (J : Nat → Int64) {m s : Nat} (hm : m < 32) (hs : s < 24) (u : Nat → Int32) (oi nn : Int32)  (x9 x10 x11 x12 : Option Value) {XX : State → Method → Prop} (n : Nat) : ∀ (i : Nat) (ix : Int32) (x8 : Option Value), i + n = 7 → ix = nI i → Gj g l (rmd 1 0 0) XX (QM g (fun r S2 => r = none ∧ S2 = St (lnF F m (fun j => u j * nn)) J) 0 0) RX8 cX8_does 13 none 285 [some (.ref 167), some (.int (nI s)), some (.int (7 * nI m)), some (.int (10 * nI s)), some (.int 1), some (.int oi), some (.int nn), some (.int ix), x8, x9, x10, x11, x12] [] (St (lnF F m (pre7 (fun j => u j * nn) u i)) J) 0 0 := by
  induction n with
  | zero =>
    intro i ix x8 hi hx
    obtain rfl : i = 7 := by omega
    subst hx
    refine g_iload 287 dX8_does_285 rfl rfl ?_
    refine g_bipush (7) 289 dX8_does_287 rfl (by decide) ?_
    refine g_icmp_ge 312 292 dX8_does_289 rfl (by decide) (fun h289 => ?_) (fun h289 => ?_)
    · refine g_goto 571 dX8_does_312 (by decide) ?_
      refine g_vret dX8_does_571 ?_
      exact ⟨rfl, congrArg (fun x => St x J) pre7_7⟩
    · exact absurd (by decide) h289
  | succ n ih =>
    intro i ix x8 hi hx
    subst hx
    have e1 : lnF F m (pre7 (fun j => u j * nn) u i) 169 (7 * m + i) = u i := by rw [lnF_in _ _ _ (by omega), pre7, if_neg (Nat.lt_irrefl i)]
    refine g_iload 287 dX8_does_285 rfl rfl ?_
    refine g_bipush (7) 289 dX8_does_287 rfl (by decide) ?_
    refine g_icmp_ge 312 292 dX8_does_289 rfl (by decide) (fun h289 => ?_) (fun h289 => ?_)
    · exact absurd h289 (lt7 (by omega))
    · refine g_aload_n 293 dX8_does_292 rfl rfl ?_
      refine gf_8_8 296 dX8_does_293 rfl kf_X8_13 ?_
      refine g_iload_n 297 dX8_does_296 rfl rfl ?_
      refine g_iload 299 dX8_does_297 rfl rfl ?_
      refine g_iadd 300 dX8_does_299 rfl ?_
      refine g_dup2 301 dX8_does_300 rfl rfl rfl ?_
      refine ga_ild (7 * m + i) 302 dX8_does_301 rfl (by first | decide | assumption | exact ⟨Nat.le_of_ble_eq_true rfl, rfl⟩) (ix7 m i) (show 7 * m + i < 231 by omega) ?_
      refine g_iload 304 dX8_does_302 rfl rfl ?_
      refine g_imul 305 dX8_does_304 rfl ?_
      refine ga_ist (7 * m + i) 306 dX8_does_305 rfl (by first | decide | assumption | exact ⟨Nat.le_of_ble_eq_true rfl, rfl⟩) (ix7 m i) (show 7 * m + i < 231 by omega) ?_
      refine g_iinc (1) 309 dX8_does_306 rfl (by decide) (by decide) rfl ?_
      refine g_goto 285 dX8_does_309 (by decide) ?_
      refine gs_at (congrArg (fun x => St x J) (pre7_s (v := (fun j => u j * nn)) (u := u) (by omega) (by rw [e1]))) ?_
      exact ih (i + 1) _ _ (by omega) (nI_succ i).symm

set_option maxRecDepth 100000 in
set_option maxHeartbeats 4000000 in
theorem t_times (g : Gl) (l : Launch) (F : Nat → Nat → Int32) (J : Nat → Int64) {m s : Nat} (hm : m < 32) (hs : s < 24) (u : Nat → Int32) (oi nn : Int32)  {XX : State → Method → Prop} (x7 x8 x9 x10 x11 x12 : Option Value) : Gj g l (rmd 1 0 0) XX (QM g (fun r S2 => r = none ∧ S2 = St (lnF F m (fun j => u j * nn)) J) 0 0) RX8 cX8_does 13 none 102 [some (.ref 167), some (.int (nI s)), some (.int (7 * nI m)), some (.int (10 * nI s)), some (.int 1), some (.int oi), some (.int nn), x7, x8, x9, x10, x11, x12] [] (St (lnF F m u) J) 0 0 := by
  refine g_iload 104 dX8_does_102 rfl rfl ?_
  refine g_if_ne 276 107 dX8_does_104 rfl (by decide) (fun h104 => ?_) (fun h104 => ?_)
  · refine g_iload 278 dX8_does_276 rfl rfl ?_
    refine g_iconst (1) 279 dX8_does_278 rfl (by decide) ?_
    refine g_icmp_ne 315 282 dX8_does_279 rfl (by decide) (fun h279 => ?_) (fun h279 => ?_)
    · exact absurd h279 (by decide)
    · refine g_iconst (0) 283 dX8_does_282 rfl (by decide) ?_
      refine g_istore 285 dX8_does_283 rfl (by decide) ?_
      have h0 : lnF F m u = lnF F m (pre7 (fun j => u j * nn) u 0) := by rw [pre7_0]
      refine gs_at (congrArg (fun x => St x J) h0) ?_
      exact lm_times g l F J hm hs u oi nn _ _ _ _ 7 0 _ _ rfl rfl
  · exact absurd h104 (by decide)

set_option maxRecDepth 100000 in
set_option maxHeartbeats 4000000 in
theorem lm_cut (g : Gl) (l : Launch) (F : Nat → Nat → Int32) (J : Nat → Int64) {m s : Nat} (hm : m < 32) (hs : s < 24) (u : Nat → Int32) (oi nn : Int32) (hnn : ¬ nn = 0) (x9 x10 x11 x12 : Option Value) {XX : State → Method → Prop} (n : Nat) : ∀ (i : Nat) (ix : Int32) (x8 : Option Value), i + n = 7 → ix = nI i → Gj g l (rmd 1 0 0) XX (QM g (fun r S2 => r = none ∧ S2 = St (lnF F m (fun j => dcut (u j) nn)) J) 0 0) RX8 cX8_does 13 none 324 [some (.ref 167), some (.int (nI s)), some (.int (7 * nI m)), some (.int (10 * nI s)), some (.int 2), some (.int oi), some (.int nn), some (.int ix), x8, x9, x10, x11, x12] [] (St (lnF F m (pre7 (fun j => dcut (u j) nn) u i)) J) 0 0 := by
  induction n with
  | zero =>
    intro i ix x8 hi hx
    obtain rfl : i = 7 := by omega
    subst hx
    refine g_iload 326 dX8_does_324 rfl rfl ?_
    refine g_bipush (7) 328 dX8_does_326 rfl (by decide) ?_
    refine g_icmp_ge 388 331 dX8_does_328 rfl (by decide) (fun h328 => ?_) (fun h328 => ?_)
    · refine g_goto 571 dX8_does_388 (by decide) ?_
      refine g_vret dX8_does_571 ?_
      exact ⟨rfl, congrArg (fun x => St x J) pre7_7⟩
    · exact absurd (by decide) h328
  | succ n ih =>
    intro i ix x8 hi hx
    subst hx
    have e1 : lnF F m (pre7 (fun j => dcut (u j) nn) u i) 169 (7 * m + i) = u i := by rw [lnF_in _ _ _ (by omega), pre7, if_neg (Nat.lt_irrefl i)]
    refine g_iload 326 dX8_does_324 rfl rfl ?_
    refine g_bipush (7) 328 dX8_does_326 rfl (by decide) ?_
    refine g_icmp_ge 388 331 dX8_does_328 rfl (by decide) (fun h328 => ?_) (fun h328 => ?_)
    · exact absurd h328 (lt7 (by omega))
    · refine g_aload_n 332 dX8_does_331 rfl rfl ?_
      refine gf_8_8 335 dX8_does_332 rfl kf_X8_13 ?_
      refine g_iload_n 336 dX8_does_335 rfl rfl ?_
      refine g_iload 338 dX8_does_336 rfl rfl ?_
      refine g_iadd 339 dX8_does_338 rfl ?_
      refine ga_ild (7 * m + i) 340 dX8_does_339 rfl (by first | decide | assumption | exact ⟨Nat.le_of_ble_eq_true rfl, rfl⟩) (ix7 m i) (show 7 * m + i < 231 by omega) ?_
      refine g_s1 343 dX8_does_340 rfl kl_X8_119 ms_X8_size ⟨Nat.le_of_ble_eq_true rfl, Nat.le_of_ble_eq_true rfl⟩ (Nat.le_of_ble_eq_true rfl) (m_size g l _ _) ?_
      rintro _ _ ⟨rfl, rfl⟩
      refine g_iload 345 dX8_does_343 rfl rfl ?_
      refine g_iadd 346 dX8_does_345 rfl ?_
      refine g_iconst (1) 347 dX8_does_346 rfl (by decide) ?_
      refine g_isub 348 dX8_does_347 rfl ?_
      refine g_iload 350 dX8_does_348 rfl rfl ?_
      refine g_idiv 351 dX8_does_350 rfl hnn ?_
      refine g_istore 353 dX8_does_351 rfl (by decide) ?_
      refine g_aload_n 354 dX8_does_353 rfl rfl ?_
      refine gf_8_8 357 dX8_does_354 rfl kf_X8_13 ?_
      refine g_iload_n 358 dX8_does_357 rfl rfl ?_
      refine g_iload 360 dX8_does_358 rfl rfl ?_
      refine g_iadd 361 dX8_does_360 rfl ?_
      refine g_aload_n 362 dX8_does_361 rfl rfl ?_
      refine gf_8_8 365 dX8_does_362 rfl kf_X8_13 ?_
      refine g_iload_n 366 dX8_does_365 rfl rfl ?_
      refine g_iload 368 dX8_does_366 rfl rfl ?_
      refine g_iadd 369 dX8_does_368 rfl ?_
      refine ga_ild (7 * m + i) 370 dX8_does_369 rfl (by first | decide | assumption | exact ⟨Nat.le_of_ble_eq_true rfl, rfl⟩) (ix7 m i) (show 7 * m + i < 231 by omega) ?_
      refine g_if_ge 379 373 dX8_does_370 rfl (by decide) (fun h370 => ?_) (fun h370 => ?_)
      · refine g_iload 381 dX8_does_379 rfl rfl ?_
        refine ga_ist (7 * m + i) 382 dX8_does_381 rfl (by first | decide | assumption | exact ⟨Nat.le_of_ble_eq_true rfl, rfl⟩) (ix7 m i) (show 7 * m + i < 231 by omega) ?_
        refine g_iinc (1) 385 dX8_does_382 rfl (by decide) (by decide) rfl ?_
        refine g_goto 324 dX8_does_385 (by decide) ?_
        refine gs_at (congrArg (fun x => St x J) (pre7_s (v := (fun j => dcut (u j) nn)) (u := u) (by omega) (by rw [e1] at h370 ⊢; rw [dcut, if_pos h370]))) ?_
        exact ih (i + 1) _ _ (by omega) (nI_succ i).symm
      · refine g_iload 375 dX8_does_373 rfl rfl ?_
        refine g_ineg 376 dX8_does_375 rfl ?_
        refine g_goto 381 dX8_does_376 (by decide) ?_
        refine ga_ist (7 * m + i) 382 dX8_does_381 rfl (by first | decide | assumption | exact ⟨Nat.le_of_ble_eq_true rfl, rfl⟩) (ix7 m i) (show 7 * m + i < 231 by omega) ?_
        refine g_iinc (1) 385 dX8_does_382 rfl (by decide) (by decide) rfl ?_
        refine g_goto 324 dX8_does_385 (by decide) ?_
        refine gs_at (congrArg (fun x => St x J) (pre7_s (v := (fun j => dcut (u j) nn)) (u := u) (by omega) (by rw [e1] at h370 ⊢; rw [dcut, if_neg h370]))) ?_
        exact ih (i + 1) _ _ (by omega) (nI_succ i).symm

set_option maxRecDepth 100000 in
set_option maxHeartbeats 4000000 in
theorem t_cut (g : Gl) (l : Launch) (F : Nat → Nat → Int32) (J : Nat → Int64) {m s : Nat} (hm : m < 32) (hs : s < 24) (u : Nat → Int32) (oi nn : Int32) (hnn : ¬ nn = 0) {XX : State → Method → Prop} (x7 x8 x9 x10 x11 x12 : Option Value) : Gj g l (rmd 1 0 0) XX (QM g (fun r S2 => r = none ∧ S2 = St (lnF F m (fun j => dcut (u j) nn)) J) 0 0) RX8 cX8_does 13 none 102 [some (.ref 167), some (.int (nI s)), some (.int (7 * nI m)), some (.int (10 * nI s)), some (.int 2), some (.int oi), some (.int nn), x7, x8, x9, x10, x11, x12] [] (St (lnF F m u) J) 0 0 := by
  refine g_iload 104 dX8_does_102 rfl rfl ?_
  refine g_if_ne 276 107 dX8_does_104 rfl (by decide) (fun h104 => ?_) (fun h104 => ?_)
  · refine g_iload 278 dX8_does_276 rfl rfl ?_
    refine g_iconst (1) 279 dX8_does_278 rfl (by decide) ?_
    refine g_icmp_ne 315 282 dX8_does_279 rfl (by decide) (fun h279 => ?_) (fun h279 => ?_)
    · refine g_iload 317 dX8_does_315 rfl rfl ?_
      refine g_iconst (2) 318 dX8_does_317 rfl (by decide) ?_
      refine g_icmp_ne 391 321 dX8_does_318 rfl (by decide) (fun h318 => ?_) (fun h318 => ?_)
      · exact absurd h318 (by decide)
      · refine g_iconst (0) 322 dX8_does_321 rfl (by decide) ?_
        refine g_istore 324 dX8_does_322 rfl (by decide) ?_
        have h0 : lnF F m u = lnF F m (pre7 (fun j => dcut (u j) nn) u 0) := by rw [pre7_0]
        refine gs_at (congrArg (fun x => St x J) h0) ?_
        exact lm_cut g l F J hm hs u oi nn hnn _ _ _ _ 7 0 _ _ rfl rfl
    · exact absurd h279 (by decide)
  · exact absurd h104 (by decide)

set_option maxRecDepth 100000 in
set_option maxHeartbeats 4000000 in
theorem lm_trim (g : Gl) (l : Launch) (F : Nat → Nat → Int32) (J : Nat → Int64) {m s : Nat} (hm : m < 32) (hs : s < 24) (u : Nat → Int32) (oi nn : Int32) (x10 x11 x12 : Option Value) {XX : State → Method → Prop} (n : Nat) : ∀ (i : Nat) (ix : Int32) (x9 : Option Value), i + n = 6 → ix = nI i → Gj g l (rmd 1 0 0) XX (QM g (fun r S2 => r = none ∧ S2 = St (lnF F m (fun j => if j < 6 then trm (u j) (u 6) else u 6)) J) 0 0) RX8 cX8_does 13 none 411 [some (.ref 167), some (.int (nI s)), some (.int (7 * nI m)), some (.int (10 * nI s)), some (.int 3), some (.int oi), some (.int nn), some (.int (u 6)), some (.int ix), x9, x10, x11, x12] [] (St (lnF F m (pre7 (fun j => if j < 6 then trm (u j) (u 6) else u 6) u i)) J) 0 0 := by
  induction n with
  | zero =>
    intro i ix x9 hi hx
    obtain rfl : i = 6 := by omega
    subst hx
    refine g_iload 413 dX8_does_411 rfl rfl ?_
    refine g_bipush (6) 415 dX8_does_413 rfl (by decide) ?_
    refine g_icmp_ge 472 418 dX8_does_415 rfl (by decide) (fun h415 => ?_) (fun h415 => ?_)
    · refine g_goto 571 dX8_does_472 (by decide) ?_
      refine g_vret dX8_does_571 ?_
      refine ⟨rfl, congrArg (fun x => St x J) ?_⟩
      refine lnF_eq fun j hj => ?_
      by_cases e : j < 6
      · rw [pre7, if_pos e]
      · obtain rfl : j = 6 := by omega
        rw [pre7, if_neg e, if_neg e]
    · exact absurd (by decide) h415
  | succ n ih =>
    intro i ix x9 hi hx
    subst hx
    have e1 : lnF F m (pre7 (fun j => if j < 6 then trm (u j) (u 6) else u 6) u i) 169 (7 * m + i) = u i := by rw [lnF_in _ _ _ (by omega), pre7, if_neg (Nat.lt_irrefl i)]
    refine g_iload 413 dX8_does_411 rfl rfl ?_
    refine g_bipush (6) 415 dX8_does_413 rfl (by decide) ?_
    refine g_icmp_ge 472 418 dX8_does_415 rfl (by decide) (fun h415 => ?_) (fun h415 => ?_)
    · exact absurd h415 (lt6 (by omega))
    · refine g_aload_n 419 dX8_does_418 rfl rfl ?_
      refine gf_8_8 422 dX8_does_419 rfl kf_X8_13 ?_
      refine g_iload_n 423 dX8_does_422 rfl rfl ?_
      refine g_iload 425 dX8_does_423 rfl rfl ?_
      refine g_iadd 426 dX8_does_425 rfl ?_
      refine ga_ild (7 * m + i) 427 dX8_does_426 rfl (by first | decide | assumption | exact ⟨Nat.le_of_ble_eq_true rfl, rfl⟩) (ix7 m i) (show 7 * m + i < 231 by omega) ?_
      refine g_istore 429 dX8_does_427 rfl (by decide) ?_
      refine g_aload_n 430 dX8_does_429 rfl rfl ?_
      refine gf_8_8 433 dX8_does_430 rfl kf_X8_13 ?_
      refine g_iload_n 434 dX8_does_433 rfl rfl ?_
      refine g_iload 436 dX8_does_434 rfl rfl ?_
      refine g_iadd 437 dX8_does_436 rfl ?_
      refine g_iload 439 dX8_does_437 rfl rfl ?_
      refine g_iload 441 dX8_does_439 rfl rfl ?_
      refine g_icmp_le 449 444 dX8_does_441 rfl (by decide) (fun h441 => ?_) (fun h441 => ?_)
      · refine g_iload 451 dX8_does_449 rfl rfl ?_
        refine g_iload 453 dX8_does_451 rfl rfl ?_
        refine g_ineg 454 dX8_does_453 rfl ?_
        refine g_icmp_ge 463 457 dX8_does_454 rfl (by decide) (fun h454 => ?_) (fun h454 => ?_)
        · refine g_iload 465 dX8_does_463 rfl rfl ?_
          refine ga_ist (7 * m + i) 466 dX8_does_465 rfl (by first | decide | assumption | exact ⟨Nat.le_of_ble_eq_true rfl, rfl⟩) (ix7 m i) (show 7 * m + i < 231 by omega) ?_
          refine g_iinc (1) 469 dX8_does_466 rfl (by decide) (by decide) rfl ?_
          refine g_goto 411 dX8_does_469 (by decide) ?_
          rw [e1] at h441 h454
          refine gs_at (congrArg (fun x => St x J) (pre7_s (v := (fun j => if j < 6 then trm (u j) (u 6) else u 6)) (u := u) (by omega) (by rw [e1]; simp only [if_pos (show i < 6 by omega)]; rw [trm, if_pos h441, if_pos h454]))) ?_
          exact ih (i + 1) _ _ (by omega) (nI_succ i).symm
        · refine g_iload 459 dX8_does_457 rfl rfl ?_
          refine g_ineg 460 dX8_does_459 rfl ?_
          refine g_goto 465 dX8_does_460 (by decide) ?_
          refine ga_ist (7 * m + i) 466 dX8_does_465 rfl (by first | decide | assumption | exact ⟨Nat.le_of_ble_eq_true rfl, rfl⟩) (ix7 m i) (show 7 * m + i < 231 by omega) ?_
          refine g_iinc (1) 469 dX8_does_466 rfl (by decide) (by decide) rfl ?_
          refine g_goto 411 dX8_does_469 (by decide) ?_
          rw [e1] at h441 h454
          refine gs_at (congrArg (fun x => St x J) (pre7_s (v := (fun j => if j < 6 then trm (u j) (u 6) else u 6)) (u := u) (by omega) (by simp only [if_pos (show i < 6 by omega)]; rw [trm, if_pos h441, if_neg h454]))) ?_
          exact ih (i + 1) _ _ (by omega) (nI_succ i).symm
      · refine g_iload 446 dX8_does_444 rfl rfl ?_
        refine g_goto 465 dX8_does_446 (by decide) ?_
        refine ga_ist (7 * m + i) 466 dX8_does_465 rfl (by first | decide | assumption | exact ⟨Nat.le_of_ble_eq_true rfl, rfl⟩) (ix7 m i) (show 7 * m + i < 231 by omega) ?_
        refine g_iinc (1) 469 dX8_does_466 rfl (by decide) (by decide) rfl ?_
        refine g_goto 411 dX8_does_469 (by decide) ?_
        rw [e1] at h441
        refine gs_at (congrArg (fun x => St x J) (pre7_s (v := (fun j => if j < 6 then trm (u j) (u 6) else u 6)) (u := u) (by omega) (by simp only [if_pos (show i < 6 by omega)]; rw [trm, if_neg h441]))) ?_
        exact ih (i + 1) _ _ (by omega) (nI_succ i).symm

set_option maxRecDepth 100000 in
set_option maxHeartbeats 4000000 in
theorem t_trim (g : Gl) (l : Launch) (F : Nat → Nat → Int32) (J : Nat → Int64) {m s : Nat} (hm : m < 32) (hs : s < 24) (u : Nat → Int32) (oi nn : Int32) {XX : State → Method → Prop} (x7 x8 x9 x10 x11 x12 : Option Value) : Gj g l (rmd 1 0 0) XX (QM g (fun r S2 => r = none ∧ S2 = St (lnF F m (fun j => if j < 6 then trm (u j) (u 6) else u 6)) J) 0 0) RX8 cX8_does 13 none 102 [some (.ref 167), some (.int (nI s)), some (.int (7 * nI m)), some (.int (10 * nI s)), some (.int 3), some (.int oi), some (.int nn), x7, x8, x9, x10, x11, x12] [] (St (lnF F m u) J) 0 0 := by
  refine g_iload 104 dX8_does_102 rfl rfl ?_
  refine g_if_ne 276 107 dX8_does_104 rfl (by decide) (fun h104 => ?_) (fun h104 => ?_)
  · refine g_iload 278 dX8_does_276 rfl rfl ?_
    refine g_iconst (1) 279 dX8_does_278 rfl (by decide) ?_
    refine g_icmp_ne 315 282 dX8_does_279 rfl (by decide) (fun h279 => ?_) (fun h279 => ?_)
    · refine g_iload 317 dX8_does_315 rfl rfl ?_
      refine g_iconst (2) 318 dX8_does_317 rfl (by decide) ?_
      refine g_icmp_ne 391 321 dX8_does_318 rfl (by decide) (fun h318 => ?_) (fun h318 => ?_)
      · refine g_iload 393 dX8_does_391 rfl rfl ?_
        refine g_iconst (3) 394 dX8_does_393 rfl (by decide) ?_
        refine g_icmp_ne 475 397 dX8_does_394 rfl (by decide) (fun h394 => ?_) (fun h394 => ?_)
        · exact absurd h394 (by decide)
        · refine g_aload_n 398 dX8_does_397 rfl rfl ?_
          refine gf_8_8 401 dX8_does_398 rfl kf_X8_13 ?_
          refine g_iload_n 402 dX8_does_401 rfl rfl ?_
          refine g_bipush (6) 404 dX8_does_402 rfl (by decide) ?_
          refine g_iadd 405 dX8_does_404 rfl ?_
          refine ga_ild (7 * m + 6) 406 dX8_does_405 rfl (by first | decide | assumption | exact ⟨Nat.le_of_ble_eq_true rfl, rfl⟩) (ix76 m) (show 7 * m + 6 < 231 by omega) ?_
          refine gst_at (show lnF F m u 169 (7 * m + 6) = u 6 from lnF_in _ _ _ (by decide)) ?_
          refine g_istore 408 dX8_does_406 rfl (by decide) ?_
          refine g_iconst (0) 409 dX8_does_408 rfl (by decide) ?_
          refine g_istore 411 dX8_does_409 rfl (by decide) ?_
          have h0 : lnF F m u = lnF F m (pre7 (fun j => if j < 6 then trm (u j) (u 6) else u 6) u 0) := by rw [pre7_0]
          refine gs_at (congrArg (fun x => St x J) h0) ?_
          exact lm_trim g l F J hm hs u oi nn _ _ _ 6 0 _ _ rfl rfl
      · exact absurd h318 (by decide)
    · exact absurd h279 (by decide)
  · exact absurd h104 (by decide)

set_option maxRecDepth 100000 in
set_option maxHeartbeats 4000000 in
theorem t_drop (g : Gl) (l : Launch) (F : Nat → Nat → Int32) (J : Nat → Int64) {m s : Nat} (hm : m < 32) (hs : s < 24) (u : Nat → Int32) (oi : Int32) {a : Nat} (ha : a < 6) {XX : State → Method → Prop} (x7 x8 x9 x10 x11 x12 : Option Value) : Gj g l (rmd 1 0 0) XX (QM g (fun r S2 => r = none ∧ S2 = St (lnF F m (upd (upd u a 0) 6 (max0 (u 6 - abs32 (u a))))) J) 0 0) RX8 cX8_does 13 none 102 [some (.ref 167), some (.int (nI s)), some (.int (7 * nI m)), some (.int (10 * nI s)), some (.int 4), some (.int oi), some (.int (nI a)), x7, x8, x9, x10, x11, x12] [] (St (lnF F m u) J) 0 0 := by
  refine g_iload 104 dX8_does_102 rfl rfl ?_
  refine g_if_ne 276 107 dX8_does_104 rfl (by decide) (fun h104 => ?_) (fun h104 => ?_)
  · refine g_iload 278 dX8_does_276 rfl rfl ?_
    refine g_iconst (1) 279 dX8_does_278 rfl (by decide) ?_
    refine g_icmp_ne 315 282 dX8_does_279 rfl (by decide) (fun h279 => ?_) (fun h279 => ?_)
    · refine g_iload 317 dX8_does_315 rfl rfl ?_
      refine g_iconst (2) 318 dX8_does_317 rfl (by decide) ?_
      refine g_icmp_ne 391 321 dX8_does_318 rfl (by decide) (fun h318 => ?_) (fun h318 => ?_)
      · refine g_iload 393 dX8_does_391 rfl rfl ?_
        refine g_iconst (3) 394 dX8_does_393 rfl (by decide) ?_
        refine g_icmp_ne 475 397 dX8_does_394 rfl (by decide) (fun h394 => ?_) (fun h394 => ?_)
        · refine g_iload 477 dX8_does_475 rfl rfl ?_
          refine g_iconst (4) 478 dX8_does_477 rfl (by decide) ?_
          refine g_icmp_ne 538 481 dX8_does_478 rfl (by decide) (fun h478 => ?_) (fun h478 => ?_)
          · exact absurd h478 (by decide)
          · refine g_aload_n 482 dX8_does_481 rfl rfl ?_
            refine gf_8_8 485 dX8_does_482 rfl kf_X8_13 ?_
            refine g_iload_n 486 dX8_does_485 rfl rfl ?_
            refine g_bipush (6) 488 dX8_does_486 rfl (by decide) ?_
            refine g_iadd 489 dX8_does_488 rfl ?_
            refine ga_ild (7 * m + 6) 490 dX8_does_489 rfl (by first | decide | assumption | exact ⟨Nat.le_of_ble_eq_true rfl, rfl⟩) (ix76 m) (show 7 * m + 6 < 231 by omega) ?_
            refine g_aload_n 491 dX8_does_490 rfl rfl ?_
            refine gf_8_8 494 dX8_does_491 rfl kf_X8_13 ?_
            refine g_iload_n 495 dX8_does_494 rfl rfl ?_
            refine g_iload 497 dX8_does_495 rfl rfl ?_
            refine g_iadd 498 dX8_does_497 rfl ?_
            refine ga_ild (7 * m + a) 499 dX8_does_498 rfl (by first | decide | assumption | exact ⟨Nat.le_of_ble_eq_true rfl, rfl⟩) (ix7 m a) (show 7 * m + a < 231 by omega) ?_
            refine g_s1 502 dX8_does_499 rfl kl_X8_119 ms_X8_size ⟨Nat.le_of_ble_eq_true rfl, Nat.le_of_ble_eq_true rfl⟩ (Nat.le_of_ble_eq_true rfl) (m_size g l _ _) ?_
            rintro _ _ ⟨rfl, rfl⟩
            refine g_isub 503 dX8_does_502 rfl ?_
            refine gst_at (show lnF F m u 169 (7 * m + 6) - abs32 (lnF F m u 169 (7 * m + a)) = u 6 - abs32 (u a) by rw [lnF_in _ _ _ (by decide), lnF_in _ _ _ (by omega)]) ?_
            refine g_istore 505 dX8_does_503 rfl (by decide) ?_
            refine g_aload_n 506 dX8_does_505 rfl rfl ?_
            refine gf_8_8 509 dX8_does_506 rfl kf_X8_13 ?_
            refine g_iload_n 510 dX8_does_509 rfl rfl ?_
            refine g_iload 512 dX8_does_510 rfl rfl ?_
            refine g_iadd 513 dX8_does_512 rfl ?_
            refine g_iconst (0) 514 dX8_does_513 rfl (by decide) ?_
            refine ga_ist (7 * m + a) 515 dX8_does_514 rfl (by first | decide | assumption | exact ⟨Nat.le_of_ble_eq_true rfl, rfl⟩) (ix7 m a) (show 7 * m + a < 231 by omega) ?_
            refine g_aload_n 516 dX8_does_515 rfl rfl ?_
            refine gf_8_8 519 dX8_does_516 rfl kf_X8_13 ?_
            refine g_iload_n 520 dX8_does_519 rfl rfl ?_
            refine g_bipush (6) 522 dX8_does_520 rfl (by decide) ?_
            refine g_iadd 523 dX8_does_522 rfl ?_
            refine g_iload 525 dX8_does_523 rfl rfl ?_
            refine g_if_ge 532 528 dX8_does_525 rfl (by decide) (fun h525 => ?_) (fun h525 => ?_)
            · refine g_iload 534 dX8_does_532 rfl rfl ?_
              refine ga_ist (7 * m + 6) 535 dX8_does_534 rfl (by first | decide | assumption | exact ⟨Nat.le_of_ble_eq_true rfl, rfl⟩) (ix76 m) (show 7 * m + 6 < 231 by omega) ?_
              refine g_goto 571 dX8_does_535 (by decide) ?_
              refine g_vret dX8_does_571 ?_
              refine ⟨rfl, congrArg (fun x => St x J) ?_⟩
              rw [lnF_up _ _ _ _ (by omega), lnF_up _ _ _ _ (by decide), max0, if_pos h525]
            · refine g_iconst (0) 529 dX8_does_528 rfl (by decide) ?_
              refine g_goto 534 dX8_does_529 (by decide) ?_
              refine ga_ist (7 * m + 6) 535 dX8_does_534 rfl (by first | decide | assumption | exact ⟨Nat.le_of_ble_eq_true rfl, rfl⟩) (ix76 m) (show 7 * m + 6 < 231 by omega) ?_
              refine g_goto 571 dX8_does_535 (by decide) ?_
              refine g_vret dX8_does_571 ?_
              refine ⟨rfl, congrArg (fun x => St x J) ?_⟩
              rw [lnF_up _ _ _ _ (by omega), lnF_up _ _ _ _ (by decide), max0, if_neg h525]
        · exact absurd h394 (by decide)
      · exact absurd h318 (by decide)
    · exact absurd h279 (by decide)
  · exact absurd h104 (by decide)

set_option maxRecDepth 100000 in
set_option maxHeartbeats 4000000 in
theorem t_lit5 (g : Gl) (l : Launch) (F : Nat → Nat → Int32) (J : Nat → Int64) {m s : Nat} (hm : m < 32) (hs : s < 24) (u : Nat → Int32) (oi : Int32) {a : Nat} (ha : a < 6) {XX : State → Method → Prop} (x7 x8 x9 x10 x11 x12 : Option Value) : Gj g l (rmd 1 0 0) XX (QM g (fun r S2 => r = none ∧ S2 = St (lnF F m (upd u a (1))) J) 0 0) RX8 cX8_does 13 none 102 [some (.ref 167), some (.int (nI s)), some (.int (7 * nI m)), some (.int (10 * nI s)), some (.int 5), some (.int oi), some (.int (nI a)), x7, x8, x9, x10, x11, x12] [] (St (lnF F m u) J) 0 0 := by
  refine g_iload 104 dX8_does_102 rfl rfl ?_
  refine g_if_ne 276 107 dX8_does_104 rfl (by decide) (fun h104 => ?_) (fun h104 => ?_)
  · refine g_iload 278 dX8_does_276 rfl rfl ?_
    refine g_iconst (1) 279 dX8_does_278 rfl (by decide) ?_
    refine g_icmp_ne 315 282 dX8_does_279 rfl (by decide) (fun h279 => ?_) (fun h279 => ?_)
    · refine g_iload 317 dX8_does_315 rfl rfl ?_
      refine g_iconst (2) 318 dX8_does_317 rfl (by decide) ?_
      refine g_icmp_ne 391 321 dX8_does_318 rfl (by decide) (fun h318 => ?_) (fun h318 => ?_)
      · refine g_iload 393 dX8_does_391 rfl rfl ?_
        refine g_iconst (3) 394 dX8_does_393 rfl (by decide) ?_
        refine g_icmp_ne 475 397 dX8_does_394 rfl (by decide) (fun h394 => ?_) (fun h394 => ?_)
        · refine g_iload 477 dX8_does_475 rfl rfl ?_
          refine g_iconst (4) 478 dX8_does_477 rfl (by decide) ?_
          refine g_icmp_ne 538 481 dX8_does_478 rfl (by decide) (fun h478 => ?_) (fun h478 => ?_)
          · refine g_iload 540 dX8_does_538 rfl rfl ?_
            refine g_iconst (5) 541 dX8_does_540 rfl (by decide) ?_
            refine g_icmp_eq 551 544 dX8_does_541 rfl (by decide) (fun h541 => ?_) (fun h541 => ?_)
            · refine g_aload_n 552 dX8_does_551 rfl rfl ?_
              refine gf_8_8 555 dX8_does_552 rfl kf_X8_13 ?_
              refine g_iload_n 556 dX8_does_555 rfl rfl ?_
              refine g_iload 558 dX8_does_556 rfl rfl ?_
              refine g_iadd 559 dX8_does_558 rfl ?_
              refine g_iload 561 dX8_does_559 rfl rfl ?_
              refine g_iconst (5) 562 dX8_does_561 rfl (by decide) ?_
              refine g_icmp_ne 569 565 dX8_does_562 rfl (by decide) (fun h562 => ?_) (fun h562 => ?_)
              · exact absurd h562 (by decide)
              · refine g_iconst (1) 566 dX8_does_565 rfl (by decide) ?_
                refine g_goto 570 dX8_does_566 (by decide) ?_
                refine ga_ist (7 * m + a) 571 dX8_does_570 rfl (by first | decide | assumption | exact ⟨Nat.le_of_ble_eq_true rfl, rfl⟩) (ix7 m a) (show 7 * m + a < 231 by omega) ?_
                refine g_vret dX8_does_571 ?_
                exact ⟨rfl, congrArg (fun x => St x J) (lnF_up _ _ _ _ (by omega))⟩
            · exact absurd h541 (by decide)
          · exact absurd h478 (by decide)
        · exact absurd h394 (by decide)
      · exact absurd h318 (by decide)
    · exact absurd h279 (by decide)
  · exact absurd h104 (by decide)

set_option maxRecDepth 100000 in
set_option maxHeartbeats 4000000 in
theorem t_lit6 (g : Gl) (l : Launch) (F : Nat → Nat → Int32) (J : Nat → Int64) {m s : Nat} (hm : m < 32) (hs : s < 24) (u : Nat → Int32) (oi : Int32) {a : Nat} (ha : a < 6) {XX : State → Method → Prop} (x7 x8 x9 x10 x11 x12 : Option Value) : Gj g l (rmd 1 0 0) XX (QM g (fun r S2 => r = none ∧ S2 = St (lnF F m (upd u a (-1))) J) 0 0) RX8 cX8_does 13 none 102 [some (.ref 167), some (.int (nI s)), some (.int (7 * nI m)), some (.int (10 * nI s)), some (.int 6), some (.int oi), some (.int (nI a)), x7, x8, x9, x10, x11, x12] [] (St (lnF F m u) J) 0 0 := by
  refine g_iload 104 dX8_does_102 rfl rfl ?_
  refine g_if_ne 276 107 dX8_does_104 rfl (by decide) (fun h104 => ?_) (fun h104 => ?_)
  · refine g_iload 278 dX8_does_276 rfl rfl ?_
    refine g_iconst (1) 279 dX8_does_278 rfl (by decide) ?_
    refine g_icmp_ne 315 282 dX8_does_279 rfl (by decide) (fun h279 => ?_) (fun h279 => ?_)
    · refine g_iload 317 dX8_does_315 rfl rfl ?_
      refine g_iconst (2) 318 dX8_does_317 rfl (by decide) ?_
      refine g_icmp_ne 391 321 dX8_does_318 rfl (by decide) (fun h318 => ?_) (fun h318 => ?_)
      · refine g_iload 393 dX8_does_391 rfl rfl ?_
        refine g_iconst (3) 394 dX8_does_393 rfl (by decide) ?_
        refine g_icmp_ne 475 397 dX8_does_394 rfl (by decide) (fun h394 => ?_) (fun h394 => ?_)
        · refine g_iload 477 dX8_does_475 rfl rfl ?_
          refine g_iconst (4) 478 dX8_does_477 rfl (by decide) ?_
          refine g_icmp_ne 538 481 dX8_does_478 rfl (by decide) (fun h478 => ?_) (fun h478 => ?_)
          · refine g_iload 540 dX8_does_538 rfl rfl ?_
            refine g_iconst (5) 541 dX8_does_540 rfl (by decide) ?_
            refine g_icmp_eq 551 544 dX8_does_541 rfl (by decide) (fun h541 => ?_) (fun h541 => ?_)
            · exact absurd h541 (by decide)
            · refine g_iload 546 dX8_does_544 rfl rfl ?_
              refine g_bipush (6) 548 dX8_does_546 rfl (by decide) ?_
              refine g_icmp_ne 571 551 dX8_does_548 rfl (by decide) (fun h548 => ?_) (fun h548 => ?_)
              · exact absurd h548 (by decide)
              · refine g_aload_n 552 dX8_does_551 rfl rfl ?_
                refine gf_8_8 555 dX8_does_552 rfl kf_X8_13 ?_
                refine g_iload_n 556 dX8_does_555 rfl rfl ?_
                refine g_iload 558 dX8_does_556 rfl rfl ?_
                refine g_iadd 559 dX8_does_558 rfl ?_
                refine g_iload 561 dX8_does_559 rfl rfl ?_
                refine g_iconst (5) 562 dX8_does_561 rfl (by decide) ?_
                refine g_icmp_ne 569 565 dX8_does_562 rfl (by decide) (fun h562 => ?_) (fun h562 => ?_)
                · refine g_iconst (-1) 570 dX8_does_569 rfl (by decide) ?_
                  refine ga_ist (7 * m + a) 571 dX8_does_570 rfl (by first | decide | assumption | exact ⟨Nat.le_of_ble_eq_true rfl, rfl⟩) (ix7 m a) (show 7 * m + a < 231 by omega) ?_
                  refine g_vret dX8_does_571 ?_
                  exact ⟨rfl, congrArg (fun x => St x J) (lnF_up _ _ _ _ (by omega))⟩
                · exact absurd h562 (by decide)
          · exact absurd h478 (by decide)
        · exact absurd h394 (by decide)
      · exact absurd h318 (by decide)
    · exact absurd h279 (by decide)
  · exact absurd h104 (by decide)

set_option maxRecDepth 100000 in
set_option maxHeartbeats 4000000 in
theorem t_claim (g : Gl) (l : Launch) (F : Nat → Nat → Int32) (J : Nat → Int64) {m s : Nat} (hm : m < 32) (hs : s < 24) (u : Nat → Int32) (oi nn : Int32) {XX : State → Method → Prop} (x7 x8 x9 x10 x11 x12 : Option Value) : Gj g l (rmd 1 0 0) XX (QM g (fun r S2 => r = none ∧ S2 = St (lnF F m u) J) 0 0) RX8 cX8_does 13 none 102 [some (.ref 167), some (.int (nI s)), some (.int (7 * nI m)), some (.int (10 * nI s)), some (.int 7), some (.int oi), some (.int nn), x7, x8, x9, x10, x11, x12] [] (St (lnF F m u) J) 0 0 := by
  refine g_iload 104 dX8_does_102 rfl rfl ?_
  refine g_if_ne 276 107 dX8_does_104 rfl (by decide) (fun h104 => ?_) (fun h104 => ?_)
  · refine g_iload 278 dX8_does_276 rfl rfl ?_
    refine g_iconst (1) 279 dX8_does_278 rfl (by decide) ?_
    refine g_icmp_ne 315 282 dX8_does_279 rfl (by decide) (fun h279 => ?_) (fun h279 => ?_)
    · refine g_iload 317 dX8_does_315 rfl rfl ?_
      refine g_iconst (2) 318 dX8_does_317 rfl (by decide) ?_
      refine g_icmp_ne 391 321 dX8_does_318 rfl (by decide) (fun h318 => ?_) (fun h318 => ?_)
      · refine g_iload 393 dX8_does_391 rfl rfl ?_
        refine g_iconst (3) 394 dX8_does_393 rfl (by decide) ?_
        refine g_icmp_ne 475 397 dX8_does_394 rfl (by decide) (fun h394 => ?_) (fun h394 => ?_)
        · refine g_iload 477 dX8_does_475 rfl rfl ?_
          refine g_iconst (4) 478 dX8_does_477 rfl (by decide) ?_
          refine g_icmp_ne 538 481 dX8_does_478 rfl (by decide) (fun h478 => ?_) (fun h478 => ?_)
          · refine g_iload 540 dX8_does_538 rfl rfl ?_
            refine g_iconst (5) 541 dX8_does_540 rfl (by decide) ?_
            refine g_icmp_eq 551 544 dX8_does_541 rfl (by decide) (fun h541 => ?_) (fun h541 => ?_)
            · exact absurd h541 (by decide)
            · refine g_iload 546 dX8_does_544 rfl rfl ?_
              refine g_bipush (6) 548 dX8_does_546 rfl (by decide) ?_
              refine g_icmp_ne 571 551 dX8_does_548 rfl (by decide) (fun h548 => ?_) (fun h548 => ?_)
              · refine g_vret dX8_does_571 ?_
                exact ⟨rfl, rfl⟩
              · exact absurd h548 (by decide)
          · exact absurd h478 (by decide)
        · exact absurd h394 (by decide)
      · exact absurd h318 (by decide)
    · exact absurd h279 (by decide)
  · exact absurd h104 (by decide)

def doV (F : Nat → Nat → Int32) (kd f : Nat) (n : Int32) (s : Nat) : Nat → Int32 :=
  if kd = 0 then addV (fun j => F 169 (7 * f + j)) (fun j => F 169 (7 * n.toNatClampNeg + j))
  else if kd = 1 then (fun j => F 169 (7 * f + j) * n)
  else if kd = 2 then (fun j => dcut (F 169 (7 * f + j)) n)
  else if kd = 3 then (fun j => if j < 6 then trm (F 169 (7 * f + j)) (F 169 (7 * f + 6)) else F 169 (7 * f + 6))
  else if kd = 4 then upd (upd (fun j => F 169 (7 * f + j)) n.toNatClampNeg 0) 6 (max0 (F 169 (7 * f + 6) - abs32 (F 169 (7 * f + n.toNatClampNeg))))
  else if kd = 5 then upd (fun _ => 0) n.toNatClampNeg 1
  else if kd = 6 then upd (fun _ => 0) n.toNatClampNeg (-1)
  else (fun j => F 171 (10 * s + 3 + j))
def okD (F : Nat → Nat → Int32) (m s kd f : Nat) : Prop := kd < 8 ∧ F 171 (10 * s) = nI kd ∧ (kd < 5 → f < m ∧ F 171 (10 * s + 1) = nI f) ∧ (kd = 0 → ∃ h, h < m ∧ F 171 (10 * s + 2) = nI h) ∧ (kd = 2 → ¬ F 171 (10 * s + 2) = 0) ∧ (kd = 4 ∨ kd = 5 ∨ kd = 6 → ∃ a, a < 6 ∧ F 171 (10 * s + 2) = nI a)
set_option maxRecDepth 100000 in
set_option maxHeartbeats 4000000 in
theorem m_does0 (g : Gl) (l : Launch) (F : Nat → Nat → Int32) (J : Nat → Int64) {m s : Nat} (hm : m < 32) (hs : s < 24) (f : Nat) (hok : okD F m s 0 f) (hW : ∀ i, i < m → ∀ j, j < 6 → wbd (F 169 (7 * i + j))) : Ct g l yX8_does cX8_does 13 none 1 0 0 [.ref 167, .int (nI s), .int (7 * nI m)] (St F J) (fun r S2 => r = none ∧ S2 = St (lnF F m (doV F 0 f (F 171 (10 * s + 2)) s)) J) := by
  obtain ⟨h8, hk, hf1, h0a, h2a, h4a⟩ := hok
  obtain ⟨hf, hfe⟩ := hf1 (by decide)
  obtain ⟨h, hh, hn⟩ := h0a rfl
  have ev : doV F 0 f (F 171 (10 * s + 2)) s = (addV (fun j => F 169 (7 * f + j)) (fun j => F 169 (7 * h + j))) := by rw [hn]; show addV (fun j => F 169 (7 * f + j)) (fun j => F 169 (7 * (nI h).toNatClampNeg + j)) = _; rw [nI_clamp (by omega)]
  rw [ev]
  refine Ct.of rfl (by decide) rfl (Nat.le_of_ble_eq_true rfl) ?_
  refine g_bipush (10) 2 dX8_does_0 rfl (by decide) ?_
  refine g_iload_n 3 dX8_does_2 rfl rfl ?_
  refine g_imul 4 dX8_does_3 rfl ?_
  refine g_istore_n 5 dX8_does_4 rfl (by decide) ?_
  refine g_aload_n 6 dX8_does_5 rfl rfl ?_
  refine gf_8_15 9 dX8_does_6 rfl kf_X8_26 ?_
  refine g_iload_n 10 dX8_does_9 rfl rfl ?_
  refine ga_ild (10 * s + 0) 11 dX8_does_10 rfl (by first | decide | assumption | exact ⟨Nat.le_of_ble_eq_true rfl, rfl⟩) (ix10_0 s) (show 10 * s + 0 < 240 by omega) ?_
  refine gst_at (show F 171 (10 * s + 0) = 0 from hk) ?_
  refine g_istore 13 dX8_does_11 rfl (by decide) ?_
  refine g_bipush (7) 15 dX8_does_13 rfl (by decide) ?_
  refine g_aload_n 16 dX8_does_15 rfl rfl ?_
  refine gf_8_15 19 dX8_does_16 rfl kf_X8_26 ?_
  refine g_iload_n 20 dX8_does_19 rfl rfl ?_
  refine g_iconst (1) 21 dX8_does_20 rfl (by decide) ?_
  refine g_iadd 22 dX8_does_21 rfl ?_
  refine ga_ild (10 * s + 1) 23 dX8_does_22 rfl (by first | decide | assumption | exact ⟨Nat.le_of_ble_eq_true rfl, rfl⟩) (ix10 s 1) (show 10 * s + 1 < 240 by omega) ?_
  refine gst_at (show F 171 (10 * s + 1) = nI f from hfe) ?_
  refine g_imul 24 dX8_does_23 rfl ?_
  refine g_istore 26 dX8_does_24 rfl (by decide) ?_
  refine g_aload_n 27 dX8_does_26 rfl rfl ?_
  refine gf_8_15 30 dX8_does_27 rfl kf_X8_26 ?_
  refine g_iload_n 31 dX8_does_30 rfl rfl ?_
  refine g_iconst (2) 32 dX8_does_31 rfl (by decide) ?_
  refine g_iadd 33 dX8_does_32 rfl ?_
  refine ga_ild (10 * s + 2) 34 dX8_does_33 rfl (by first | decide | assumption | exact ⟨Nat.le_of_ble_eq_true rfl, rfl⟩) (ix10 s 2) (show 10 * s + 2 < 240 by omega) ?_
  refine gst_at (show F 171 (10 * s + 2) = nI h from hn) ?_
  refine g_istore 36 dX8_does_34 rfl (by decide) ?_
  refine g_iconst (0) 37 dX8_does_36 rfl (by decide) ?_
  refine g_istore 39 dX8_does_37 rfl (by decide) ?_
  have h0 : F = lnF F m (pre7 (fun j => F 169 (7 * f + j)) (fun j => F 169 (7 * m + j)) 0) := by rw [pre7_0]; exact lnF_id F m
  refine gs_at (congrArg (fun x => St x J) h0) ?_
  refine lm_fA g l F J hm hs (fun j => F 169 (7 * m + j)) _ 0 _ _ _ _ _ _ hf (by decide) 7 0 _ rfl rfl (fun x7 => ?_)
  exact t_add g l F J hm hs hf hh (fun j hj => hW f (by omega) j hj) (fun j hj => hW h (by omega) j hj) _ _ _ _ _ _

set_option maxRecDepth 100000 in
set_option maxHeartbeats 4000000 in
theorem m_does1 (g : Gl) (l : Launch) (F : Nat → Nat → Int32) (J : Nat → Int64) {m s : Nat} (hm : m < 32) (hs : s < 24) (f : Nat) (hok : okD F m s 1 f) (hW : ∀ i, i < m → ∀ j, j < 6 → wbd (F 169 (7 * i + j))) : Ct g l yX8_does cX8_does 13 none 1 0 0 [.ref 167, .int (nI s), .int (7 * nI m)] (St F J) (fun r S2 => r = none ∧ S2 = St (lnF F m (doV F 1 f (F 171 (10 * s + 2)) s)) J) := by
  obtain ⟨h8, hk, hf1, h0a, h2a, h4a⟩ := hok
  obtain ⟨hf, hfe⟩ := hf1 (by decide)
  have ev : doV F 1 f (F 171 (10 * s + 2)) s = (fun j => F 169 (7 * f + j) * F 171 (10 * s + 2)) := by rfl
  rw [ev]
  refine Ct.of rfl (by decide) rfl (Nat.le_of_ble_eq_true rfl) ?_
  refine g_bipush (10) 2 dX8_does_0 rfl (by decide) ?_
  refine g_iload_n 3 dX8_does_2 rfl rfl ?_
  refine g_imul 4 dX8_does_3 rfl ?_
  refine g_istore_n 5 dX8_does_4 rfl (by decide) ?_
  refine g_aload_n 6 dX8_does_5 rfl rfl ?_
  refine gf_8_15 9 dX8_does_6 rfl kf_X8_26 ?_
  refine g_iload_n 10 dX8_does_9 rfl rfl ?_
  refine ga_ild (10 * s + 0) 11 dX8_does_10 rfl (by first | decide | assumption | exact ⟨Nat.le_of_ble_eq_true rfl, rfl⟩) (ix10_0 s) (show 10 * s + 0 < 240 by omega) ?_
  refine gst_at (show F 171 (10 * s + 0) = 1 from hk) ?_
  refine g_istore 13 dX8_does_11 rfl (by decide) ?_
  refine g_bipush (7) 15 dX8_does_13 rfl (by decide) ?_
  refine g_aload_n 16 dX8_does_15 rfl rfl ?_
  refine gf_8_15 19 dX8_does_16 rfl kf_X8_26 ?_
  refine g_iload_n 20 dX8_does_19 rfl rfl ?_
  refine g_iconst (1) 21 dX8_does_20 rfl (by decide) ?_
  refine g_iadd 22 dX8_does_21 rfl ?_
  refine ga_ild (10 * s + 1) 23 dX8_does_22 rfl (by first | decide | assumption | exact ⟨Nat.le_of_ble_eq_true rfl, rfl⟩) (ix10 s 1) (show 10 * s + 1 < 240 by omega) ?_
  refine gst_at (show F 171 (10 * s + 1) = nI f from hfe) ?_
  refine g_imul 24 dX8_does_23 rfl ?_
  refine g_istore 26 dX8_does_24 rfl (by decide) ?_
  refine g_aload_n 27 dX8_does_26 rfl rfl ?_
  refine gf_8_15 30 dX8_does_27 rfl kf_X8_26 ?_
  refine g_iload_n 31 dX8_does_30 rfl rfl ?_
  refine g_iconst (2) 32 dX8_does_31 rfl (by decide) ?_
  refine g_iadd 33 dX8_does_32 rfl ?_
  refine ga_ild (10 * s + 2) 34 dX8_does_33 rfl (by first | decide | assumption | exact ⟨Nat.le_of_ble_eq_true rfl, rfl⟩) (ix10 s 2) (show 10 * s + 2 < 240 by omega) ?_
  refine g_istore 36 dX8_does_34 rfl (by decide) ?_
  refine g_iconst (0) 37 dX8_does_36 rfl (by decide) ?_
  refine g_istore 39 dX8_does_37 rfl (by decide) ?_
  have h0 : F = lnF F m (pre7 (fun j => F 169 (7 * f + j)) (fun j => F 169 (7 * m + j)) 0) := by rw [pre7_0]; exact lnF_id F m
  refine gs_at (congrArg (fun x => St x J) h0) ?_
  refine lm_fA g l F J hm hs (fun j => F 169 (7 * m + j)) _ 0 _ _ _ _ _ _ hf (by decide) 7 0 _ rfl rfl (fun x7 => ?_)
  exact t_times g l F J hm hs _ _ _ _ _ _ _ _ _

set_option maxRecDepth 100000 in
set_option maxHeartbeats 4000000 in
theorem m_does2 (g : Gl) (l : Launch) (F : Nat → Nat → Int32) (J : Nat → Int64) {m s : Nat} (hm : m < 32) (hs : s < 24) (f : Nat) (hok : okD F m s 2 f) (hW : ∀ i, i < m → ∀ j, j < 6 → wbd (F 169 (7 * i + j))) : Ct g l yX8_does cX8_does 13 none 1 0 0 [.ref 167, .int (nI s), .int (7 * nI m)] (St F J) (fun r S2 => r = none ∧ S2 = St (lnF F m (doV F 2 f (F 171 (10 * s + 2)) s)) J) := by
  obtain ⟨h8, hk, hf1, h0a, h2a, h4a⟩ := hok
  obtain ⟨hf, hfe⟩ := hf1 (by decide)
  have hn := h2a rfl
  have ev : doV F 2 f (F 171 (10 * s + 2)) s = (fun j => dcut (F 169 (7 * f + j)) (F 171 (10 * s + 2))) := by rfl
  rw [ev]
  refine Ct.of rfl (by decide) rfl (Nat.le_of_ble_eq_true rfl) ?_
  refine g_bipush (10) 2 dX8_does_0 rfl (by decide) ?_
  refine g_iload_n 3 dX8_does_2 rfl rfl ?_
  refine g_imul 4 dX8_does_3 rfl ?_
  refine g_istore_n 5 dX8_does_4 rfl (by decide) ?_
  refine g_aload_n 6 dX8_does_5 rfl rfl ?_
  refine gf_8_15 9 dX8_does_6 rfl kf_X8_26 ?_
  refine g_iload_n 10 dX8_does_9 rfl rfl ?_
  refine ga_ild (10 * s + 0) 11 dX8_does_10 rfl (by first | decide | assumption | exact ⟨Nat.le_of_ble_eq_true rfl, rfl⟩) (ix10_0 s) (show 10 * s + 0 < 240 by omega) ?_
  refine gst_at (show F 171 (10 * s + 0) = 2 from hk) ?_
  refine g_istore 13 dX8_does_11 rfl (by decide) ?_
  refine g_bipush (7) 15 dX8_does_13 rfl (by decide) ?_
  refine g_aload_n 16 dX8_does_15 rfl rfl ?_
  refine gf_8_15 19 dX8_does_16 rfl kf_X8_26 ?_
  refine g_iload_n 20 dX8_does_19 rfl rfl ?_
  refine g_iconst (1) 21 dX8_does_20 rfl (by decide) ?_
  refine g_iadd 22 dX8_does_21 rfl ?_
  refine ga_ild (10 * s + 1) 23 dX8_does_22 rfl (by first | decide | assumption | exact ⟨Nat.le_of_ble_eq_true rfl, rfl⟩) (ix10 s 1) (show 10 * s + 1 < 240 by omega) ?_
  refine gst_at (show F 171 (10 * s + 1) = nI f from hfe) ?_
  refine g_imul 24 dX8_does_23 rfl ?_
  refine g_istore 26 dX8_does_24 rfl (by decide) ?_
  refine g_aload_n 27 dX8_does_26 rfl rfl ?_
  refine gf_8_15 30 dX8_does_27 rfl kf_X8_26 ?_
  refine g_iload_n 31 dX8_does_30 rfl rfl ?_
  refine g_iconst (2) 32 dX8_does_31 rfl (by decide) ?_
  refine g_iadd 33 dX8_does_32 rfl ?_
  refine ga_ild (10 * s + 2) 34 dX8_does_33 rfl (by first | decide | assumption | exact ⟨Nat.le_of_ble_eq_true rfl, rfl⟩) (ix10 s 2) (show 10 * s + 2 < 240 by omega) ?_
  refine g_istore 36 dX8_does_34 rfl (by decide) ?_
  refine g_iconst (0) 37 dX8_does_36 rfl (by decide) ?_
  refine g_istore 39 dX8_does_37 rfl (by decide) ?_
  have h0 : F = lnF F m (pre7 (fun j => F 169 (7 * f + j)) (fun j => F 169 (7 * m + j)) 0) := by rw [pre7_0]; exact lnF_id F m
  refine gs_at (congrArg (fun x => St x J) h0) ?_
  refine lm_fA g l F J hm hs (fun j => F 169 (7 * m + j)) _ 0 _ _ _ _ _ _ hf (by decide) 7 0 _ rfl rfl (fun x7 => ?_)
  exact t_cut g l F J hm hs _ _ _ hn _ _ _ _ _ _

set_option maxRecDepth 100000 in
set_option maxHeartbeats 4000000 in
theorem m_does3 (g : Gl) (l : Launch) (F : Nat → Nat → Int32) (J : Nat → Int64) {m s : Nat} (hm : m < 32) (hs : s < 24) (f : Nat) (hok : okD F m s 3 f) (hW : ∀ i, i < m → ∀ j, j < 6 → wbd (F 169 (7 * i + j))) : Ct g l yX8_does cX8_does 13 none 1 0 0 [.ref 167, .int (nI s), .int (7 * nI m)] (St F J) (fun r S2 => r = none ∧ S2 = St (lnF F m (doV F 3 f (F 171 (10 * s + 2)) s)) J) := by
  obtain ⟨h8, hk, hf1, h0a, h2a, h4a⟩ := hok
  obtain ⟨hf, hfe⟩ := hf1 (by decide)
  have ev : doV F 3 f (F 171 (10 * s + 2)) s = (fun j => if j < 6 then trm (F 169 (7 * f + j)) (F 169 (7 * f + 6)) else F 169 (7 * f + 6)) := by rfl
  rw [ev]
  refine Ct.of rfl (by decide) rfl (Nat.le_of_ble_eq_true rfl) ?_
  refine g_bipush (10) 2 dX8_does_0 rfl (by decide) ?_
  refine g_iload_n 3 dX8_does_2 rfl rfl ?_
  refine g_imul 4 dX8_does_3 rfl ?_
  refine g_istore_n 5 dX8_does_4 rfl (by decide) ?_
  refine g_aload_n 6 dX8_does_5 rfl rfl ?_
  refine gf_8_15 9 dX8_does_6 rfl kf_X8_26 ?_
  refine g_iload_n 10 dX8_does_9 rfl rfl ?_
  refine ga_ild (10 * s + 0) 11 dX8_does_10 rfl (by first | decide | assumption | exact ⟨Nat.le_of_ble_eq_true rfl, rfl⟩) (ix10_0 s) (show 10 * s + 0 < 240 by omega) ?_
  refine gst_at (show F 171 (10 * s + 0) = 3 from hk) ?_
  refine g_istore 13 dX8_does_11 rfl (by decide) ?_
  refine g_bipush (7) 15 dX8_does_13 rfl (by decide) ?_
  refine g_aload_n 16 dX8_does_15 rfl rfl ?_
  refine gf_8_15 19 dX8_does_16 rfl kf_X8_26 ?_
  refine g_iload_n 20 dX8_does_19 rfl rfl ?_
  refine g_iconst (1) 21 dX8_does_20 rfl (by decide) ?_
  refine g_iadd 22 dX8_does_21 rfl ?_
  refine ga_ild (10 * s + 1) 23 dX8_does_22 rfl (by first | decide | assumption | exact ⟨Nat.le_of_ble_eq_true rfl, rfl⟩) (ix10 s 1) (show 10 * s + 1 < 240 by omega) ?_
  refine gst_at (show F 171 (10 * s + 1) = nI f from hfe) ?_
  refine g_imul 24 dX8_does_23 rfl ?_
  refine g_istore 26 dX8_does_24 rfl (by decide) ?_
  refine g_aload_n 27 dX8_does_26 rfl rfl ?_
  refine gf_8_15 30 dX8_does_27 rfl kf_X8_26 ?_
  refine g_iload_n 31 dX8_does_30 rfl rfl ?_
  refine g_iconst (2) 32 dX8_does_31 rfl (by decide) ?_
  refine g_iadd 33 dX8_does_32 rfl ?_
  refine ga_ild (10 * s + 2) 34 dX8_does_33 rfl (by first | decide | assumption | exact ⟨Nat.le_of_ble_eq_true rfl, rfl⟩) (ix10 s 2) (show 10 * s + 2 < 240 by omega) ?_
  refine g_istore 36 dX8_does_34 rfl (by decide) ?_
  refine g_iconst (0) 37 dX8_does_36 rfl (by decide) ?_
  refine g_istore 39 dX8_does_37 rfl (by decide) ?_
  have h0 : F = lnF F m (pre7 (fun j => F 169 (7 * f + j)) (fun j => F 169 (7 * m + j)) 0) := by rw [pre7_0]; exact lnF_id F m
  refine gs_at (congrArg (fun x => St x J) h0) ?_
  refine lm_fA g l F J hm hs (fun j => F 169 (7 * m + j)) _ 0 _ _ _ _ _ _ hf (by decide) 7 0 _ rfl rfl (fun x7 => ?_)
  exact t_trim g l F J hm hs _ _ _ _ _ _ _ _ _

set_option maxRecDepth 100000 in
set_option maxHeartbeats 4000000 in
theorem m_does4 (g : Gl) (l : Launch) (F : Nat → Nat → Int32) (J : Nat → Int64) {m s : Nat} (hm : m < 32) (hs : s < 24) (f : Nat) (hok : okD F m s 4 f) (hW : ∀ i, i < m → ∀ j, j < 6 → wbd (F 169 (7 * i + j))) : Ct g l yX8_does cX8_does 13 none 1 0 0 [.ref 167, .int (nI s), .int (7 * nI m)] (St F J) (fun r S2 => r = none ∧ S2 = St (lnF F m (doV F 4 f (F 171 (10 * s + 2)) s)) J) := by
  obtain ⟨h8, hk, hf1, h0a, h2a, h4a⟩ := hok
  obtain ⟨hf, hfe⟩ := hf1 (by decide)
  obtain ⟨a, ha, hn⟩ := h4a (by decide)
  have ev : doV F 4 f (F 171 (10 * s + 2)) s = (upd (upd (fun j => F 169 (7 * f + j)) a 0) 6 (max0 (F 169 (7 * f + 6) - abs32 (F 169 (7 * f + a))))) := by rw [hn]; show upd (upd (fun j => F 169 (7 * f + j)) (nI a).toNatClampNeg 0) 6 (max0 (F 169 (7 * f + 6) - abs32 (F 169 (7 * f + (nI a).toNatClampNeg)))) = _; rw [nI_clamp (by omega)]
  rw [ev]
  refine Ct.of rfl (by decide) rfl (Nat.le_of_ble_eq_true rfl) ?_
  refine g_bipush (10) 2 dX8_does_0 rfl (by decide) ?_
  refine g_iload_n 3 dX8_does_2 rfl rfl ?_
  refine g_imul 4 dX8_does_3 rfl ?_
  refine g_istore_n 5 dX8_does_4 rfl (by decide) ?_
  refine g_aload_n 6 dX8_does_5 rfl rfl ?_
  refine gf_8_15 9 dX8_does_6 rfl kf_X8_26 ?_
  refine g_iload_n 10 dX8_does_9 rfl rfl ?_
  refine ga_ild (10 * s + 0) 11 dX8_does_10 rfl (by first | decide | assumption | exact ⟨Nat.le_of_ble_eq_true rfl, rfl⟩) (ix10_0 s) (show 10 * s + 0 < 240 by omega) ?_
  refine gst_at (show F 171 (10 * s + 0) = 4 from hk) ?_
  refine g_istore 13 dX8_does_11 rfl (by decide) ?_
  refine g_bipush (7) 15 dX8_does_13 rfl (by decide) ?_
  refine g_aload_n 16 dX8_does_15 rfl rfl ?_
  refine gf_8_15 19 dX8_does_16 rfl kf_X8_26 ?_
  refine g_iload_n 20 dX8_does_19 rfl rfl ?_
  refine g_iconst (1) 21 dX8_does_20 rfl (by decide) ?_
  refine g_iadd 22 dX8_does_21 rfl ?_
  refine ga_ild (10 * s + 1) 23 dX8_does_22 rfl (by first | decide | assumption | exact ⟨Nat.le_of_ble_eq_true rfl, rfl⟩) (ix10 s 1) (show 10 * s + 1 < 240 by omega) ?_
  refine gst_at (show F 171 (10 * s + 1) = nI f from hfe) ?_
  refine g_imul 24 dX8_does_23 rfl ?_
  refine g_istore 26 dX8_does_24 rfl (by decide) ?_
  refine g_aload_n 27 dX8_does_26 rfl rfl ?_
  refine gf_8_15 30 dX8_does_27 rfl kf_X8_26 ?_
  refine g_iload_n 31 dX8_does_30 rfl rfl ?_
  refine g_iconst (2) 32 dX8_does_31 rfl (by decide) ?_
  refine g_iadd 33 dX8_does_32 rfl ?_
  refine ga_ild (10 * s + 2) 34 dX8_does_33 rfl (by first | decide | assumption | exact ⟨Nat.le_of_ble_eq_true rfl, rfl⟩) (ix10 s 2) (show 10 * s + 2 < 240 by omega) ?_
  refine gst_at (show F 171 (10 * s + 2) = nI a from hn) ?_
  refine g_istore 36 dX8_does_34 rfl (by decide) ?_
  refine g_iconst (0) 37 dX8_does_36 rfl (by decide) ?_
  refine g_istore 39 dX8_does_37 rfl (by decide) ?_
  have h0 : F = lnF F m (pre7 (fun j => F 169 (7 * f + j)) (fun j => F 169 (7 * m + j)) 0) := by rw [pre7_0]; exact lnF_id F m
  refine gs_at (congrArg (fun x => St x J) h0) ?_
  refine lm_fA g l F J hm hs (fun j => F 169 (7 * m + j)) _ 0 _ _ _ _ _ _ hf (by decide) 7 0 _ rfl rfl (fun x7 => ?_)
  exact t_drop g l F J hm hs _ _ ha _ _ _ _ _ _

set_option maxRecDepth 100000 in
set_option maxHeartbeats 4000000 in
theorem m_does5 (g : Gl) (l : Launch) (F : Nat → Nat → Int32) (J : Nat → Int64) {m s : Nat} (hm : m < 32) (hs : s < 24) (f : Nat) (hok : okD F m s 5 f) (hW : ∀ i, i < m → ∀ j, j < 6 → wbd (F 169 (7 * i + j))) : Ct g l yX8_does cX8_does 13 none 1 0 0 [.ref 167, .int (nI s), .int (7 * nI m)] (St F J) (fun r S2 => r = none ∧ S2 = St (lnF F m (doV F 5 f (F 171 (10 * s + 2)) s)) J) := by
  obtain ⟨h8, hk, hf1, h0a, h2a, h4a⟩ := hok
  obtain ⟨a, ha, hn⟩ := h4a (by decide)
  have ev : doV F 5 f (F 171 (10 * s + 2)) s = (upd (fun _ => 0) a 1) := by rw [hn]; show upd (fun _ => 0) (nI a).toNatClampNeg 1 = _; rw [nI_clamp (by omega)]
  rw [ev]
  refine Ct.of rfl (by decide) rfl (Nat.le_of_ble_eq_true rfl) ?_
  refine g_bipush (10) 2 dX8_does_0 rfl (by decide) ?_
  refine g_iload_n 3 dX8_does_2 rfl rfl ?_
  refine g_imul 4 dX8_does_3 rfl ?_
  refine g_istore_n 5 dX8_does_4 rfl (by decide) ?_
  refine g_aload_n 6 dX8_does_5 rfl rfl ?_
  refine gf_8_15 9 dX8_does_6 rfl kf_X8_26 ?_
  refine g_iload_n 10 dX8_does_9 rfl rfl ?_
  refine ga_ild (10 * s + 0) 11 dX8_does_10 rfl (by first | decide | assumption | exact ⟨Nat.le_of_ble_eq_true rfl, rfl⟩) (ix10_0 s) (show 10 * s + 0 < 240 by omega) ?_
  refine gst_at (show F 171 (10 * s + 0) = 5 from hk) ?_
  refine g_istore 13 dX8_does_11 rfl (by decide) ?_
  refine g_bipush (7) 15 dX8_does_13 rfl (by decide) ?_
  refine g_aload_n 16 dX8_does_15 rfl rfl ?_
  refine gf_8_15 19 dX8_does_16 rfl kf_X8_26 ?_
  refine g_iload_n 20 dX8_does_19 rfl rfl ?_
  refine g_iconst (1) 21 dX8_does_20 rfl (by decide) ?_
  refine g_iadd 22 dX8_does_21 rfl ?_
  refine ga_ild (10 * s + 1) 23 dX8_does_22 rfl (by first | decide | assumption | exact ⟨Nat.le_of_ble_eq_true rfl, rfl⟩) (ix10 s 1) (show 10 * s + 1 < 240 by omega) ?_
  refine g_imul 24 dX8_does_23 rfl ?_
  refine g_istore 26 dX8_does_24 rfl (by decide) ?_
  refine g_aload_n 27 dX8_does_26 rfl rfl ?_
  refine gf_8_15 30 dX8_does_27 rfl kf_X8_26 ?_
  refine g_iload_n 31 dX8_does_30 rfl rfl ?_
  refine g_iconst (2) 32 dX8_does_31 rfl (by decide) ?_
  refine g_iadd 33 dX8_does_32 rfl ?_
  refine ga_ild (10 * s + 2) 34 dX8_does_33 rfl (by first | decide | assumption | exact ⟨Nat.le_of_ble_eq_true rfl, rfl⟩) (ix10 s 2) (show 10 * s + 2 < 240 by omega) ?_
  refine gst_at (show F 171 (10 * s + 2) = nI a from hn) ?_
  refine g_istore 36 dX8_does_34 rfl (by decide) ?_
  refine g_iconst (0) 37 dX8_does_36 rfl (by decide) ?_
  refine g_istore 39 dX8_does_37 rfl (by decide) ?_
  have h0 : F = lnF F m (pre7 (fun _ => 0) (fun j => F 169 (7 * m + j)) 0) := by rw [pre7_0]; exact lnF_id F m
  refine gs_at (congrArg (fun x => St x J) h0) ?_
  refine lm_fC g l F J hm hs (fun j => F 169 (7 * m + j)) _ _ _ _ _ _ _ _ (by decide) (by decide) 7 0 _ rfl rfl (fun x7 => ?_)
  exact t_lit5 g l F J hm hs _ _ ha _ _ _ _ _ _

set_option maxRecDepth 100000 in
set_option maxHeartbeats 4000000 in
theorem m_does6 (g : Gl) (l : Launch) (F : Nat → Nat → Int32) (J : Nat → Int64) {m s : Nat} (hm : m < 32) (hs : s < 24) (f : Nat) (hok : okD F m s 6 f) (hW : ∀ i, i < m → ∀ j, j < 6 → wbd (F 169 (7 * i + j))) : Ct g l yX8_does cX8_does 13 none 1 0 0 [.ref 167, .int (nI s), .int (7 * nI m)] (St F J) (fun r S2 => r = none ∧ S2 = St (lnF F m (doV F 6 f (F 171 (10 * s + 2)) s)) J) := by
  obtain ⟨h8, hk, hf1, h0a, h2a, h4a⟩ := hok
  obtain ⟨a, ha, hn⟩ := h4a (by decide)
  have ev : doV F 6 f (F 171 (10 * s + 2)) s = (upd (fun _ => 0) a (-1)) := by rw [hn]; show upd (fun _ => 0) (nI a).toNatClampNeg (-1) = _; rw [nI_clamp (by omega)]
  rw [ev]
  refine Ct.of rfl (by decide) rfl (Nat.le_of_ble_eq_true rfl) ?_
  refine g_bipush (10) 2 dX8_does_0 rfl (by decide) ?_
  refine g_iload_n 3 dX8_does_2 rfl rfl ?_
  refine g_imul 4 dX8_does_3 rfl ?_
  refine g_istore_n 5 dX8_does_4 rfl (by decide) ?_
  refine g_aload_n 6 dX8_does_5 rfl rfl ?_
  refine gf_8_15 9 dX8_does_6 rfl kf_X8_26 ?_
  refine g_iload_n 10 dX8_does_9 rfl rfl ?_
  refine ga_ild (10 * s + 0) 11 dX8_does_10 rfl (by first | decide | assumption | exact ⟨Nat.le_of_ble_eq_true rfl, rfl⟩) (ix10_0 s) (show 10 * s + 0 < 240 by omega) ?_
  refine gst_at (show F 171 (10 * s + 0) = 6 from hk) ?_
  refine g_istore 13 dX8_does_11 rfl (by decide) ?_
  refine g_bipush (7) 15 dX8_does_13 rfl (by decide) ?_
  refine g_aload_n 16 dX8_does_15 rfl rfl ?_
  refine gf_8_15 19 dX8_does_16 rfl kf_X8_26 ?_
  refine g_iload_n 20 dX8_does_19 rfl rfl ?_
  refine g_iconst (1) 21 dX8_does_20 rfl (by decide) ?_
  refine g_iadd 22 dX8_does_21 rfl ?_
  refine ga_ild (10 * s + 1) 23 dX8_does_22 rfl (by first | decide | assumption | exact ⟨Nat.le_of_ble_eq_true rfl, rfl⟩) (ix10 s 1) (show 10 * s + 1 < 240 by omega) ?_
  refine g_imul 24 dX8_does_23 rfl ?_
  refine g_istore 26 dX8_does_24 rfl (by decide) ?_
  refine g_aload_n 27 dX8_does_26 rfl rfl ?_
  refine gf_8_15 30 dX8_does_27 rfl kf_X8_26 ?_
  refine g_iload_n 31 dX8_does_30 rfl rfl ?_
  refine g_iconst (2) 32 dX8_does_31 rfl (by decide) ?_
  refine g_iadd 33 dX8_does_32 rfl ?_
  refine ga_ild (10 * s + 2) 34 dX8_does_33 rfl (by first | decide | assumption | exact ⟨Nat.le_of_ble_eq_true rfl, rfl⟩) (ix10 s 2) (show 10 * s + 2 < 240 by omega) ?_
  refine gst_at (show F 171 (10 * s + 2) = nI a from hn) ?_
  refine g_istore 36 dX8_does_34 rfl (by decide) ?_
  refine g_iconst (0) 37 dX8_does_36 rfl (by decide) ?_
  refine g_istore 39 dX8_does_37 rfl (by decide) ?_
  have h0 : F = lnF F m (pre7 (fun _ => 0) (fun j => F 169 (7 * m + j)) 0) := by rw [pre7_0]; exact lnF_id F m
  refine gs_at (congrArg (fun x => St x J) h0) ?_
  refine lm_fC g l F J hm hs (fun j => F 169 (7 * m + j)) _ _ _ _ _ _ _ _ (by decide) (by decide) 7 0 _ rfl rfl (fun x7 => ?_)
  exact t_lit6 g l F J hm hs _ _ ha _ _ _ _ _ _

set_option maxRecDepth 100000 in
set_option maxHeartbeats 4000000 in
theorem m_does7 (g : Gl) (l : Launch) (F : Nat → Nat → Int32) (J : Nat → Int64) {m s : Nat} (hm : m < 32) (hs : s < 24) (f : Nat) (hok : okD F m s 7 f) (hW : ∀ i, i < m → ∀ j, j < 6 → wbd (F 169 (7 * i + j))) : Ct g l yX8_does cX8_does 13 none 1 0 0 [.ref 167, .int (nI s), .int (7 * nI m)] (St F J) (fun r S2 => r = none ∧ S2 = St (lnF F m (doV F 7 f (F 171 (10 * s + 2)) s)) J) := by
  obtain ⟨h8, hk, hf1, h0a, h2a, h4a⟩ := hok
  have ev : doV F 7 f (F 171 (10 * s + 2)) s = (fun j => F 171 (10 * s + 3 + j)) := by rfl
  rw [ev]
  refine Ct.of rfl (by decide) rfl (Nat.le_of_ble_eq_true rfl) ?_
  refine g_bipush (10) 2 dX8_does_0 rfl (by decide) ?_
  refine g_iload_n 3 dX8_does_2 rfl rfl ?_
  refine g_imul 4 dX8_does_3 rfl ?_
  refine g_istore_n 5 dX8_does_4 rfl (by decide) ?_
  refine g_aload_n 6 dX8_does_5 rfl rfl ?_
  refine gf_8_15 9 dX8_does_6 rfl kf_X8_26 ?_
  refine g_iload_n 10 dX8_does_9 rfl rfl ?_
  refine ga_ild (10 * s + 0) 11 dX8_does_10 rfl (by first | decide | assumption | exact ⟨Nat.le_of_ble_eq_true rfl, rfl⟩) (ix10_0 s) (show 10 * s + 0 < 240 by omega) ?_
  refine gst_at (show F 171 (10 * s + 0) = 7 from hk) ?_
  refine g_istore 13 dX8_does_11 rfl (by decide) ?_
  refine g_bipush (7) 15 dX8_does_13 rfl (by decide) ?_
  refine g_aload_n 16 dX8_does_15 rfl rfl ?_
  refine gf_8_15 19 dX8_does_16 rfl kf_X8_26 ?_
  refine g_iload_n 20 dX8_does_19 rfl rfl ?_
  refine g_iconst (1) 21 dX8_does_20 rfl (by decide) ?_
  refine g_iadd 22 dX8_does_21 rfl ?_
  refine ga_ild (10 * s + 1) 23 dX8_does_22 rfl (by first | decide | assumption | exact ⟨Nat.le_of_ble_eq_true rfl, rfl⟩) (ix10 s 1) (show 10 * s + 1 < 240 by omega) ?_
  refine g_imul 24 dX8_does_23 rfl ?_
  refine g_istore 26 dX8_does_24 rfl (by decide) ?_
  refine g_aload_n 27 dX8_does_26 rfl rfl ?_
  refine gf_8_15 30 dX8_does_27 rfl kf_X8_26 ?_
  refine g_iload_n 31 dX8_does_30 rfl rfl ?_
  refine g_iconst (2) 32 dX8_does_31 rfl (by decide) ?_
  refine g_iadd 33 dX8_does_32 rfl ?_
  refine ga_ild (10 * s + 2) 34 dX8_does_33 rfl (by first | decide | assumption | exact ⟨Nat.le_of_ble_eq_true rfl, rfl⟩) (ix10 s 2) (show 10 * s + 2 < 240 by omega) ?_
  refine g_istore 36 dX8_does_34 rfl (by decide) ?_
  refine g_iconst (0) 37 dX8_does_36 rfl (by decide) ?_
  refine g_istore 39 dX8_does_37 rfl (by decide) ?_
  have h0 : F = lnF F m (pre7 (fun j => F 171 (10 * s + 3 + j)) (fun j => F 169 (7 * m + j)) 0) := by rw [pre7_0]; exact lnF_id F m
  refine gs_at (congrArg (fun x => St x J) h0) ?_
  refine lm_fB g l F J hm hs (fun j => F 169 (7 * m + j)) _ _ 0 _ _ _ _ _ 7 0 _ rfl rfl (fun x7 => ?_)
  exact t_claim g l F J hm hs _ _ _ _ _ _ _ _ _

set_option maxRecDepth 100000 in
set_option maxHeartbeats 4000000 in
theorem m_does (g : Gl) (l : Launch) (F : Nat → Nat → Int32) (J : Nat → Int64) {m s : Nat} (hm : m < 32) (hs : s < 24) (kd f : Nat) (hok : okD F m s kd f) (hW : ∀ i, i < m → ∀ j, j < 6 → wbd (F 169 (7 * i + j))) : Ct g l yX8_does cX8_does 13 none 1 0 0 [.ref 167, .int (nI s), .int (7 * nI m)] (St F J) (fun r S2 => r = none ∧ S2 = St (lnF F m (doV F kd f (F 171 (10 * s + 2)) s)) J) := by
  have h8 := hok.1
  have : kd = 0 ∨ kd = 1 ∨ kd = 2 ∨ kd = 3 ∨ kd = 4 ∨ kd = 5 ∨ kd = 6 ∨ kd = 7 := by omega
  rcases this with h | h | h | h | h | h | h | h <;> subst h
  · exact m_does0 g l F J hm hs f hok hW
  · exact m_does1 g l F J hm hs f hok hW
  · exact m_does2 g l F J hm hs f hok hW
  · exact m_does3 g l F J hm hs f hok hW
  · exact m_does4 g l F J hm hs f hok hW
  · exact m_does5 g l F J hm hs f hok hW
  · exact m_does6 g l F J hm hs f hok hW
  · exact m_does7 g l F J hm hs f hok hW

