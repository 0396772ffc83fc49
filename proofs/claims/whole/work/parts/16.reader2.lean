def lZ (x : Bool × Nat × (Nat → Int32) × Int32) (F : Nat → Nat → Int32) (J : Nat → Int64) (k : Nat) : Option Value → Sg → Prop := fun r S2 => (x.1 = true ∧ r = some (.int 1) ∧ S2 = St (nw (setL F k x.2.2.1 x.2.2.2) x.2.1) J) ∨ (x.1 = false ∧ r = some (.int 0) ∧ S2 = St (nw (setL F k x.2.2.1 x.2.2.2) x.2.1) J)
theorem lZ_y {x : Bool × Nat × (Nat → Int32) × Int32} {F : Nat → Nat → Int32} {J : Nat → Int64} {k : Nat} {d : Int32} {j : Nat} {w : Nat → Int32} (h : x = (true, j, w, d)) : lZ x F J k (some (.int 1)) (St (nw (setL F k w d) j) J) := Or.inl ⟨by rw [h], rfl, by rw [h]⟩
theorem lZ_n {x : Bool × Nat × (Nat → Int32) × Int32} {F : Nat → Nat → Int32} {J : Nat → Int64} {k : Nat} {d : Int32} {j : Nat} {w : Nat → Int32} (h : x = (false, j, w, d)) : lZ x F J k (some (.int 0)) (St (nw (setL F k w d) j) J) := Or.inr ⟨by rw [h], rfl, by rw [h]⟩
theorem setL_setL (F : Nat → Nat → Int32) (k : Nat) (w v : Nat → Int32) (d e : Int32) : setL (setL F k w d) k v e = setL F k v e := by
  funext q i
  by_cases h1 : q = k
  · subst h1
    simp only [setL, up2, if_true, upd]
    by_cases e1 : i = 1
    · simp [e1]
    · simp [e1, fillL, up2, upd]
  · by_cases h2 : q = k + 1
    · subst h2
      simp only [setL, up2, fillL, if_neg (show ¬ k + 1 = k by omega), if_true]
      by_cases h6 : i < 6 <;> simp [h6]
    · simp [setL, up2, fillL, h1, h2]
theorem nw_deg (F : Nat → Nat → Int32) (i : Nat) {k : Nat} (hk : k < 174 ∧ sh k = 2) (w : Nat → Int32) (d v : Int32) : up2 (nw (setL F k w d) i) k 1 v = nw (setL F k w v) i := by
  rw [← nw_set F i hk, setL_upd, nw_set F i hk]

set_option maxRecDepth 100000 in
set_option maxHeartbeats 4000000 in
theorem ex_takeLine (g : Gl) (l : Launch) {k : Nat} (hk : k < 174 ∧ sh k = 2) (F : Nat → Nat → Int32) (J : Nat → Int64) {K V : Nat → Int32} {c j : Nat} (hR : RE F K V c) (hj : j < c) {XX : State → Method → Prop} (i : Nat) (hi : i < c) (w : Nat → Int32) (x2 : Option Value) (he : pTerms (crF K V) (gn c) 7 (fun _ => 0) j = (true, i, w)) : Gj g l (rmd 3 0 0) XX (QM g (lZ (pLine (crF K V) (gn c) j) F J k) 0 0) RX3 cX3_takeLine 3 (some .boolean) 39 [some (.ref 3), some (.ref k), x2] [] (St (nw (setL F k w 0) i) J) 0 0 := by
  have hR2 := hR.set hk w 0
  have hi2 := pTok_lt (K := K) (V := V) (c := c) 3 hi
  have hV : ∀ d q, (nw (setL F k w d) q) 8 = V := fun d q => (hR.set hk w d).2.1
  have e0 : pLine (crF K V) (gn c) j = pDeg (crF K V) (gn c) w i := by rw [pLine, he, if_pos rfl]
  refine g_aload_n 40 dX3_takeLine_39 rfl rfl ?_
  refine g_iconst (3) 41 dX3_takeLine_40 rfl (by decide) ?_
  refine g_v1 3 44 dX3_takeLine_41 rfl kl_X3_44 mv_X3_take rfl ⟨Nat.le_of_ble_eq_true rfl, Nat.le_of_ble_eq_true rfl⟩ (Nat.le_of_ble_eq_true rfl) (by first | decide | assumption | exact ⟨Nat.le_of_ble_eq_true rfl, rfl⟩) (c_take g l 3 (setL F k w 0) J hR2 hi) ?_
  rintro r S2 (⟨q0, rfl, rfl⟩ | ⟨q0, rfl, rfl⟩)
  · refine g_if_ne 49 47 dX3_takeLine_44 rfl (by decide) (fun h44 => ?_) (fun h44 => ?_)
    · refine g_aload_n 50 dX3_takeLine_49 rfl rfl ?_
      refine g_aload_n 51 dX3_takeLine_50 rfl rfl ?_
      refine gf_3_2 54 dX3_takeLine_51 rfl kf_X3_26 ?_
      refine g_v0 6 57 dX3_takeLine_54 rfl kl_X3_64 mv_X6_value rfl ⟨Nat.le_of_ble_eq_true rfl, Nat.le_of_ble_eq_true rfl⟩ (Nat.le_of_ble_eq_true rfl) (by first | decide | assumption | exact ⟨Nat.le_of_ble_eq_true rfl, rfl⟩) (c_value g l (nw (setL F k w 0) _) J rfl (by have := hR.2.2.2.2; omega)) ?_
      rintro _ _ ⟨rfl, rfl⟩
      rw [hV]
      refine gp_2_1 60 dX3_takeLine_57 rfl kf_X3_67 (by first | decide | assumption | exact ⟨Nat.le_of_ble_eq_true rfl, rfl⟩) ?_
      rw [nw_deg F _ hk]
      refine g_aload_n 61 dX3_takeLine_60 rfl rfl ?_
      refine g_iconst (0) 62 dX3_takeLine_61 rfl (by decide) ?_
      refine g_sipush (999) 65 dX3_takeLine_62 rfl (by decide) ?_
      refine g_v2 3 68 dX3_takeLine_65 rfl kl_X3_71 mv_X3_takeNumberWithin rfl ⟨Nat.le_of_ble_eq_true rfl, Nat.le_of_ble_eq_true rfl⟩ (Nat.le_of_ble_eq_true rfl) (by first | decide | assumption | exact ⟨Nat.le_of_ble_eq_true rfl, rfl⟩) (c_takeNum g l 0 999 (setL F k w _) J (hR.set hk w _) hi2) ?_
      rintro r S2 (⟨q1, rfl, rfl⟩ | ⟨q1, rfl, rfl⟩)
      · refine g_zret dX3_takeLine_68 (by decide) ?_
        exact lZ_y (by rw [e0, pDeg, if_pos q0, q1]; rfl)
      · refine g_zret dX3_takeLine_68 (by decide) ?_
        exact lZ_n (by rw [e0, pDeg, if_pos q0, q1]; rfl)
    · exact absurd h44 (by decide)
  · refine g_if_ne 49 47 dX3_takeLine_44 rfl (by decide) (fun h44 => ?_) (fun h44 => ?_)
    · exact absurd h44 (by decide)
    · refine g_iconst (0) 48 dX3_takeLine_47 rfl (by decide) ?_
      refine g_zret dX3_takeLine_48 (by decide) ?_
      exact lZ_n (by rw [e0, pDeg, if_neg (by rw [q0]; decide)])

set_option maxRecDepth 100000 in
set_option maxHeartbeats 4000000 in
theorem lp_takeLine (g : Gl) (l : Launch) {k : Nat} (hk : k < 174 ∧ sh k = 2) (F : Nat → Nat → Int32) (J : Nat → Int64) {K V : Nat → Int32} {c j : Nat} (hR : RE F K V c) (hj : j < c) {XX : State → Method → Prop} (n : Nat) : ∀ (i : Nat) (ix : Int32) (w : Nat → Int32) (jj : Nat), i + n = 7 → ix = nI i → jj < c → pTerms (crF K V) (gn c) 7 (fun _ => 0) j = pTerms (crF K V) (gn c) n w jj → Gj g l (rmd 3 0 0) XX (QM g (lZ (pLine (crF K V) (gn c) j) F J k) 0 0) RX3 cX3_takeLine 3 (some .boolean) 6 [some (.ref 3), some (.ref k), some (.int ix)] [] (St (nw (setL F k w 0) jj) J) 0 0 := by
  induction n with
  | zero =>
    intro i ix w jj hi hx hjj he
    obtain rfl : i = 7 := by omega
    subst hx
    refine g_iload_n 7 dX3_takeLine_6 rfl rfl ?_
    refine g_bipush (6) 9 dX3_takeLine_7 rfl (by decide) ?_
    refine g_icmp_gt 39 12 dX3_takeLine_9 rfl (by decide) (fun h9 => ?_) (fun h9 => ?_)
    · exact ex_takeLine g l hk F J hR hj _ hjj w _ he
    · exact absurd (by decide) h9
  | succ n ih =>
    intro i ix w jj hi hx hjj he
    subst hx
    have hl2 := pTerm_lt (K := K) (V := V) (w := w) hjj
    refine g_iload_n 7 dX3_takeLine_6 rfl rfl ?_
    refine g_bipush (6) 9 dX3_takeLine_7 rfl (by decide) ?_
    refine g_icmp_gt 39 12 dX3_takeLine_9 rfl (by decide) (fun h9 => ?_) (fun h9 => ?_)
    · exact absurd h9 (nI_nlt (a := 6) (b := i) (by omega) (by decide))
    · refine g_aload_n 13 dX3_takeLine_12 rfl rfl ?_
      refine g_aload_n 14 dX3_takeLine_13 rfl rfl ?_
      refine g_v1 3 17 dX3_takeLine_14 rfl kl_X3_61 mv_X3_takeTerm rfl ⟨Nat.le_of_ble_eq_true rfl, Nat.le_of_ble_eq_true rfl⟩ (Nat.le_of_ble_eq_true rfl) (by first | decide | assumption | exact ⟨Nat.le_of_ble_eq_true rfl, rfl⟩) (c_takeTerm g l hk w 0 F J hR hjj) ?_
      rintro r S2 (⟨q0, rfl, rfl⟩ | ⟨q0, rfl, rfl⟩)
      · refine g_if_ne 22 20 dX3_takeLine_17 rfl (by decide) (fun h17 => ?_) (fun h17 => ?_)
        · refine g_aload_n 23 dX3_takeLine_22 rfl rfl ?_
          refine g_iconst (4) 24 dX3_takeLine_23 rfl (by decide) ?_
          refine g_v1 3 27 dX3_takeLine_24 rfl kl_X3_44 mv_X3_take rfl ⟨Nat.le_of_ble_eq_true rfl, Nat.le_of_ble_eq_true rfl⟩ (Nat.le_of_ble_eq_true rfl) (by first | decide | assumption | exact ⟨Nat.le_of_ble_eq_true rfl, rfl⟩) (c_take g l 4 (setL F k _ 0) J (hR.set hk _ 0) hl2) ?_
          rintro r S2 (⟨q1, rfl, rfl⟩ | ⟨q1, rfl, rfl⟩)
          · refine g_if_ne 33 30 dX3_takeLine_27 rfl (by decide) (fun h27 => ?_) (fun h27 => ?_)
            · refine g_iinc (1) 36 dX3_takeLine_33 rfl (by decide) (by decide) rfl ?_
              refine g_goto 6 dX3_takeLine_36 (by decide) ?_
              exact ih (i + 1) _ _ _ (by omega) (nI_succ i).symm (pTok_lt 4 hl2) (by rw [he, pTerms, if_pos q0, if_pos q1])
            · exact absurd h27 (by decide)
          · refine g_if_ne 33 30 dX3_takeLine_27 rfl (by decide) (fun h27 => ?_) (fun h27 => ?_)
            · exact absurd h27 (by decide)
            · refine g_goto 39 dX3_takeLine_30 (by decide) ?_
              exact ex_takeLine g l hk F J hR hj _ (pTok_lt 4 hl2) _ _ (by rw [he, pTerms, if_pos q0, if_neg (by rw [q1]; decide)])
        · exact absurd h17 (by decide)
      · refine g_if_ne 22 20 dX3_takeLine_17 rfl (by decide) (fun h17 => ?_) (fun h17 => ?_)
        · exact absurd h17 (by decide)
        · refine g_iconst (0) 21 dX3_takeLine_20 rfl (by decide) ?_
          refine g_zret dX3_takeLine_21 (by decide) ?_
          have e1 : pTerms (crF K V) (gn c) 7 (fun _ => 0) j = (false, (pTerm (crF K V) (gn c) w jj).2.1, (pTerm (crF K V) (gn c) w jj).2.2) := by rw [he, pTerms, if_neg (by rw [q0]; decide)]
          exact lZ_n (by rw [pLine, e1, if_neg (show ¬ false = true by decide)])

set_option maxRecDepth 100000 in
set_option maxHeartbeats 4000000 in
theorem c_takeLine (g : Gl) (l : Launch) {k : Nat} (hk : k < 174 ∧ sh k = 2) (F : Nat → Nat → Int32) (J : Nat → Int64) {K V : Nat → Int32} {c j : Nat} (hR : RE F K V c) (hj : j < c) : Ct g l yX3_takeLine cX3_takeLine 3 (some .boolean) 3 0 0 [.ref 3, .ref k] (St (nw F j) J) (lZ (pLine (crF K V) (gn c) j) F J k) := by
  refine Ct.of rfl (by decide) rfl (Nat.le_of_ble_eq_true rfl) ?_
  refine g_aload_n 1 dX3_takeLine_0 rfl rfl ?_
  refine g_v0 2 4 dX3_takeLine_1 rfl kl_X3_58 mv_X2_becomeEmpty rfl ⟨Nat.le_of_ble_eq_true rfl, Nat.le_of_ble_eq_true rfl⟩ (Nat.le_of_ble_eq_true rfl) (by first | decide | assumption | exact ⟨Nat.le_of_ble_eq_true rfl, rfl⟩) (c_becomeEmpty g l hk (nw F j) J) ?_
  rintro _ _ ⟨rfl, rfl⟩
  rw [nw_set F j hk]
  refine g_iconst (0) 5 dX3_takeLine_4 rfl (by decide) ?_
  refine g_istore_n 6 dX3_takeLine_5 rfl (by decide) ?_
  exact lp_takeLine g l hk F J hR hj 7 0 _ _ j rfl rfl hj rfl

theorem ist : ∀ t, t < 174 → sh t = 4 → 10 ≤ t ∧ (t + 1 < 174 ∧ sh (t + 1) = 2) := by decide +kernel
def stF (F : Nat → Nat → Int32) (t : Nat) (a b c : Int32) (w : Nat → Int32) (d : Int32) : Nat → Nat → Int32 := setL (fun q => if q = t then (fun j => if j = 0 then a else if j = 1 then b else if j = 2 then c else F t j) else F q) (t + 1) w d
theorem stF_t (F : Nat → Nat → Int32) (t : Nat) (a b c : Int32) (w : Nat → Int32) (d : Int32) : stF F t a b c w d t = fun j => if j = 0 then a else if j = 1 then b else if j = 2 then c else F t j := by
  unfold stF; rw [setL_ne _ _ _ (by omega) (by omega)]; simp
theorem stF_ne (F : Nat → Nat → Int32) {t q : Nat} (a b c : Int32) (w : Nat → Int32) (d : Int32) (h0 : q ≠ t) (h1 : q ≠ t + 1) (h2 : q ≠ t + 2) : stF F t a b c w d q = F q := by
  unfold stF; rw [setL_ne _ _ _ h1 h2]; simp [h0]
theorem stF_up (F : Nat → Nat → Int32) (t : Nat) (a b c : Int32) (w : Nat → Int32) (d x : Int32) : up2 (stF F t a b c w d) t 0 x = stF F t x b c w d ∧ up2 (stF F t a b c w d) t 1 x = stF F t a x c w d ∧ up2 (stF F t a b c w d) t 2 x = stF F t a b x w d := by
  have key : ∀ (i : Nat) (a2 b2 c2 : Int32), (∀ j, upd (fun j => if j = 0 then a else if j = 1 then b else if j = 2 then c else F t j) i x j = if j = 0 then a2 else if j = 1 then b2 else if j = 2 then c2 else F t j) → up2 (stF F t a b c w d) t i x = stF F t a2 b2 c2 w d := by
    intro i a2 b2 c2 h
    funext q j
    by_cases e : q = t
    · subst e; rw [up2_same, stF_t, stF_t]; exact h j
    · rw [up2_ne _ _ _ e]
      simp only [stF, setL, up2, fillL, if_neg e, if_neg (show ¬ t + 1 = t by omega), if_neg (show ¬ t + 1 + 1 = t by omega)]
  refine ⟨key 0 x b c (fun j => ?_), key 1 a x c (fun j => ?_), key 2 a b x (fun j => ?_)⟩
  · by_cases e : j = 0 <;> simp [upd, e]
  · by_cases e : j = 1 <;> simp [upd, e]
  · by_cases e : j = 2 <;> simp [upd, e]
theorem stF_set (F : Nat → Nat → Int32) (t : Nat) (a b c : Int32) (w v : Nat → Int32) (d e : Int32) : setL (stF F t a b c w d) (t + 1) v e = stF F t a b c v e := by unfold stF; rw [setL_setL]
theorem stF_self (F : Nat → Nat → Int32) (t : Nat) : F = stF F t (F t 0) (F t 1) (F t 2) (F (t + 2)) (F (t + 1) 1) := by
  funext q j
  by_cases h0 : q = t
  · subst h0
    rw [stF_t]
    by_cases e0 : j = 0
    · simp [e0]
    · by_cases e1 : j = 1
      · simp [e1]
      · by_cases e2 : j = 2 <;> simp [e0, e1, e2]
  · by_cases h1 : q = t + 1
    · subst h1
      simp only [stF, setL, up2, if_true, upd, fillL, if_neg (show ¬ t + 1 = t + 1 + 1 by omega), if_neg h0]
      by_cases e1 : j = 1 <;> simp [e1]
    · by_cases h2 : q = t + 2
      · subst h2
        simp only [stF, setL, up2, fillL, if_neg (show ¬ t + 2 = t + 1 by omega), if_neg (show ¬ t + 1 + 1 = t by omega), if_true]
        by_cases e : j < 6 <;> simp [e]
      · rw [stF_ne _ _ _ _ _ _ h0 h1 h2]
theorem nw_up (F : Nat → Nat → Int32) (j : Nat) {t : Nat} (i : Nat) (x : Int32) (h : t ≠ 6) : up2 (nw F j) t i x = nw (up2 F t i x) j := by
  funext q r
  by_cases h1 : q = t
  · subst h1; simp [nw, up2, h]
  · by_cases h2 : q = 6
    · subst h2; simp [nw, up2, h1, show ¬ 6 = t from fun z => h z.symm]
    · simp [nw, up2, h1, h2]
theorem RE.st {F : Nat → Nat → Int32} {K V : Nat → Int32} {c t : Nat} (h : RE F K V c) (ht : 10 ≤ t) (a b x : Int32) (w : Nat → Int32) (d : Int32) : RE (stF F t a b x w d) K V c := by
  refine ⟨?_, ?_, ?_, h.2.2.2⟩
  · rw [stF_ne _ _ _ _ _ _ (by omega) (by omega) (by omega)]; exact h.1
  · rw [stF_ne _ _ _ _ _ _ (by omega) (by omega) (by omega)]; exact h.2.1
  · rw [stF_ne _ _ _ _ _ _ (by omega) (by omega) (by omega)]; exact h.2.2.1

set_option maxRecDepth 100000 in
set_option maxHeartbeats 4000000 in
theorem c_takeLetter (g : Gl) (l : Launch) {t : Nat} (ht : t < 174 ∧ sh t = 4) (a b e : Int32) (w : Nat → Int32) (d : Int32) (F : Nat → Nat → Int32) (J : Nat → Int64) {K V : Nat → Int32} {c j : Nat} (hR : RE F K V c) (hj : j < c) : Ct g l yX3_takeLetter cX3_takeLetter 2 (some .boolean) 2 0 0 [.ref 3, .ref t] (St (nw (stF F t a b e w d) j) J) (bZ (pTok (crF K V) (gn c) 1 j) (stF F t a b (V j) w d) J) := by
  obtain ⟨t10, ht1⟩ := ist t ht.1 ht.2
  have hR2 := fun a b e w d => hR.st t10 a b e w d
  have hV : ∀ a b e w d q, (nw (stF F t a b e w d) q) 8 = V := fun a b e w d q => (hR2 a b e w d).2.1
  have hj4 : j < 401 := by have := hR.2.2.2.2; omega
  refine Ct.of rfl (by decide) rfl (Nat.le_of_ble_eq_true rfl) ?_
  refine g_aload_n 1 dX3_takeLetter_0 rfl rfl ?_
  refine g_aload_n 2 dX3_takeLetter_1 rfl rfl ?_
  refine gf_3_2 5 dX3_takeLetter_2 rfl kf_X3_26 ?_
  refine g_v0 6 8 dX3_takeLetter_5 rfl kl_X3_64 mv_X6_value rfl ⟨Nat.le_of_ble_eq_true rfl, Nat.le_of_ble_eq_true rfl⟩ (Nat.le_of_ble_eq_true rfl) (by first | decide | assumption | exact ⟨Nat.le_of_ble_eq_true rfl, rfl⟩) (c_value g l (nw (stF F t _ _ _ _ _) _) J rfl (by have := hR.2.2.2.2; omega)) ?_
  rintro _ _ ⟨rfl, rfl⟩
  rw [hV]
  refine gp_4_2 11 dX3_takeLetter_8 rfl kf_X3_99 (by first | decide | assumption | exact ⟨Nat.le_of_ble_eq_true rfl, rfl⟩) ?_
  rw [nw_up _ _ _ _ (by omega), (stF_up F t a b e w d _).2.2]
  refine g_aload_n 12 dX3_takeLetter_11 rfl rfl ?_
  refine g_iconst (1) 13 dX3_takeLetter_12 rfl (by decide) ?_
  refine g_v1 3 16 dX3_takeLetter_13 rfl kl_X3_44 mv_X3_take rfl ⟨Nat.le_of_ble_eq_true rfl, Nat.le_of_ble_eq_true rfl⟩ (Nat.le_of_ble_eq_true rfl) (by first | decide | assumption | exact ⟨Nat.le_of_ble_eq_true rfl, rfl⟩) (c_take g l 1 (stF F t a b (V j) w d) J (hR2 _ _ _ _ _) hj) ?_
  rintro r S2 (⟨q0, rfl, rfl⟩ | ⟨q0, rfl, rfl⟩)
  · refine g_zret dX3_takeLetter_16 (by decide) ?_
    exact Or.inl ⟨q0, rfl, rfl⟩
  · refine g_zret dX3_takeLetter_16 (by decide) ?_
    exact Or.inr ⟨q0, rfl, rfl⟩

set_option maxRecDepth 100000 in
set_option maxHeartbeats 4000000 in
theorem c_takeFirst (g : Gl) (l : Launch) (ah : Int32) {t : Nat} (ht : t < 174 ∧ sh t = 4) (a b e : Int32) (w : Nat → Int32) (d : Int32) (F : Nat → Nat → Int32) (J : Nat → Int64) {K V : Nat → Int32} {c j : Nat} (hR : RE F K V c) (hj : j < c) : Ct g l yX3_takeFirst cX3_takeFirst 3 (some .boolean) 2 0 0 [.ref 3, .ref t, .int ah] (St (nw (stF F t a b e w d) j) J) (bZ (pNum (crF K V) (gn c) 0 (ah - 1) j) (stF F t a (V j) e w d) J) := by
  obtain ⟨t10, ht1⟩ := ist t ht.1 ht.2
  have hR2 := fun a b e w d => hR.st t10 a b e w d
  have hV : ∀ a b e w d q, (nw (stF F t a b e w d) q) 8 = V := fun a b e w d q => (hR2 a b e w d).2.1
  have hj4 : j < 401 := by have := hR.2.2.2.2; omega
  refine Ct.of rfl (by decide) rfl (Nat.le_of_ble_eq_true rfl) ?_
  refine g_aload_n 1 dX3_takeFirst_0 rfl rfl ?_
  refine g_aload_n 2 dX3_takeFirst_1 rfl rfl ?_
  refine gf_3_2 5 dX3_takeFirst_2 rfl kf_X3_26 ?_
  refine g_v0 6 8 dX3_takeFirst_5 rfl kl_X3_64 mv_X6_value rfl ⟨Nat.le_of_ble_eq_true rfl, Nat.le_of_ble_eq_true rfl⟩ (Nat.le_of_ble_eq_true rfl) (by first | decide | assumption | exact ⟨Nat.le_of_ble_eq_true rfl, rfl⟩) (c_value g l (nw (stF F t _ _ _ _ _) _) J rfl (by have := hR.2.2.2.2; omega)) ?_
  rintro _ _ ⟨rfl, rfl⟩
  rw [hV]
  refine gp_4_1 11 dX3_takeFirst_8 rfl kf_X3_96 (by first | decide | assumption | exact ⟨Nat.le_of_ble_eq_true rfl, rfl⟩) ?_
  rw [nw_up _ _ _ _ (by omega), (stF_up F t a b e w d _).2.1]
  refine g_aload_n 12 dX3_takeFirst_11 rfl rfl ?_
  refine g_iconst (0) 13 dX3_takeFirst_12 rfl (by decide) ?_
  refine g_iload_n 14 dX3_takeFirst_13 rfl rfl ?_
  refine g_iconst (1) 15 dX3_takeFirst_14 rfl (by decide) ?_
  refine g_isub 16 dX3_takeFirst_15 rfl ?_
  refine g_v2 3 19 dX3_takeFirst_16 rfl kl_X3_71 mv_X3_takeNumberWithin rfl ⟨Nat.le_of_ble_eq_true rfl, Nat.le_of_ble_eq_true rfl⟩ (Nat.le_of_ble_eq_true rfl) (by first | decide | assumption | exact ⟨Nat.le_of_ble_eq_true rfl, rfl⟩) (c_takeNum g l 0 (ah - 1) (stF F t a (V j) e w d) J (hR2 _ _ _ _ _) hj) ?_
  rintro r S2 (⟨q0, rfl, rfl⟩ | ⟨q0, rfl, rfl⟩)
  · refine g_zret dX3_takeFirst_19 (by decide) ?_
    exact Or.inl ⟨q0, rfl, rfl⟩
  · refine g_zret dX3_takeFirst_19 (by decide) ?_
    exact Or.inr ⟨q0, rfl, rfl⟩

set_option maxRecDepth 100000 in
set_option maxHeartbeats 4000000 in
theorem c_takeSecond (g : Gl) (l : Launch) (lo hi : Int32) {t : Nat} (ht : t < 174 ∧ sh t = 4) (a b e : Int32) (w : Nat → Int32) (d : Int32) (F : Nat → Nat → Int32) (J : Nat → Int64) {K V : Nat → Int32} {c j : Nat} (hR : RE F K V c) (hj : j < c) : Ct g l yX3_takeSecond cX3_takeSecond 4 (some .boolean) 2 0 0 [.ref 3, .ref t, .int lo, .int hi] (St (nw (stF F t a b e w d) j) J) (bZ (pNum (crF K V) (gn c) lo hi j) (stF F t a b (V j) w d) J) := by
  obtain ⟨t10, ht1⟩ := ist t ht.1 ht.2
  have hR2 := fun a b e w d => hR.st t10 a b e w d
  have hV : ∀ a b e w d q, (nw (stF F t a b e w d) q) 8 = V := fun a b e w d q => (hR2 a b e w d).2.1
  have hj4 : j < 401 := by have := hR.2.2.2.2; omega
  refine Ct.of rfl (by decide) rfl (Nat.le_of_ble_eq_true rfl) ?_
  refine g_aload_n 1 dX3_takeSecond_0 rfl rfl ?_
  refine g_aload_n 2 dX3_takeSecond_1 rfl rfl ?_
  refine gf_3_2 5 dX3_takeSecond_2 rfl kf_X3_26 ?_
  refine g_v0 6 8 dX3_takeSecond_5 rfl kl_X3_64 mv_X6_value rfl ⟨Nat.le_of_ble_eq_true rfl, Nat.le_of_ble_eq_true rfl⟩ (Nat.le_of_ble_eq_true rfl) (by first | decide | assumption | exact ⟨Nat.le_of_ble_eq_true rfl, rfl⟩) (c_value g l (nw (stF F t _ _ _ _ _) _) J rfl (by have := hR.2.2.2.2; omega)) ?_
  rintro _ _ ⟨rfl, rfl⟩
  rw [hV]
  refine gp_4_2 11 dX3_takeSecond_8 rfl kf_X3_99 (by first | decide | assumption | exact ⟨Nat.le_of_ble_eq_true rfl, rfl⟩) ?_
  rw [nw_up _ _ _ _ (by omega), (stF_up F t a b e w d _).2.2]
  refine g_aload_n 12 dX3_takeSecond_11 rfl rfl ?_
  refine g_iload_n 13 dX3_takeSecond_12 rfl rfl ?_
  refine g_iload_n 14 dX3_takeSecond_13 rfl rfl ?_
  refine g_v2 3 17 dX3_takeSecond_14 rfl kl_X3_71 mv_X3_takeNumberWithin rfl ⟨Nat.le_of_ble_eq_true rfl, Nat.le_of_ble_eq_true rfl⟩ (Nat.le_of_ble_eq_true rfl) (by first | decide | assumption | exact ⟨Nat.le_of_ble_eq_true rfl, rfl⟩) (c_takeNum g l lo hi (stF F t a b (V j) w d) J (hR2 _ _ _ _ _) hj) ?_
  rintro r S2 (⟨q0, rfl, rfl⟩ | ⟨q0, rfl, rfl⟩)
  · refine g_zret dX3_takeSecond_17 (by decide) ?_
    exact Or.inl ⟨q0, rfl, rfl⟩
  · refine g_zret dX3_takeSecond_17 (by decide) ?_
    exact Or.inr ⟨q0, rfl, rfl⟩

section PSTEP
variable {σ : Type} (cur : σ → Int32 × Int32) (adv : σ → σ)
def pSec (kd ah : Int32) (s : σ) : Bool × σ := if kd = 5 then pTok cur adv 1 s else if kd = 1 then pNum cur adv 0 (ah - 1) s else if kd = 2 then pNum cur adv 1 99 s else pNum cur adv 2 99 s
/-- a step: a truth, where it stands, first, second, the line claimed -/
def pArg (kd ah : Int32) (s : σ) (f0 s0 : Int32) (w0 : Nat → Int32) (d0 : Int32) : Bool × σ × Int32 × Int32 × (Nat → Int32) × Int32 :=
  if kd = 8 then ((pLine cur adv s).1, (pLine cur adv s).2.1, f0, s0, (pLine cur adv s).2.2.1, (pLine cur adv s).2.2.2)
  else if kd = 6 ∨ kd = 7 then ((pTok cur adv 1 s).1, (pTok cur adv 1 s).2, f0, (cur s).2, w0, d0)
  else if kd = 4 then ((pNum cur adv 0 (ah - 1) s).1, (pNum cur adv 0 (ah - 1) s).2, (cur s).2, s0, w0, d0)
  else if (pNum cur adv 0 (ah - 1) s).1 = true then ((pSec cur adv kd ah (pNum cur adv 0 (ah - 1) s).2).1, (pSec cur adv kd ah (pNum cur adv 0 (ah - 1) s).2).2, (cur s).2, (cur (pNum cur adv 0 (ah - 1) s).2).2, w0, d0)
  else (false, (pNum cur adv 0 (ah - 1) s).2, (cur s).2, s0, w0, d0)
def pStep (ah : Int32) (s : σ) (f0 s0 : Int32) (w0 : Nat → Int32) (d0 : Int32) : Bool × σ × Int32 × Int32 × (Nat → Int32) × Int32 :=
  if (pTok cur adv 7 s).1 = true then pArg cur adv (cur s).2 ah (pTok cur adv 7 s).2 f0 s0 w0 d0 else (false, (pTok cur adv 7 s).2, f0, s0, w0, d0)
end PSTEP
theorem pSec_lt {K V : Nat → Int32} {c j : Nat} (kd ah : Int32) (h : j < c) : (pSec (crF K V) (gn c) kd ah j).2 < c := by
  unfold pSec; split
  · exact pTok_lt 1 h
  · split
    · exact pNum_lt _ _ h
    · split <;> exact pNum_lt _ _ h
theorem pArg_lt {K V : Nat → Int32} {c j : Nat} (kd ah f0 s0 : Int32) (w0 : Nat → Int32) (d0 : Int32) (h : j < c) : (pArg (crF K V) (gn c) kd ah j f0 s0 w0 d0).2.1 < c := by
  unfold pArg; split
  · exact pLine_lt h
  · split
    · exact pTok_lt 1 h
    · split
      · exact pNum_lt _ _ h
      · split
        · exact pSec_lt _ _ (pNum_lt _ _ h)
        · exact pNum_lt _ _ h
theorem pStep_lt {K V : Nat → Int32} {c j : Nat} (ah f0 s0 : Int32) (w0 : Nat → Int32) (d0 : Int32) (h : j < c) : (pStep (crF K V) (gn c) ah j f0 s0 w0 d0).2.1 < c := by
  unfold pStep; split
  · exact pArg_lt _ _ _ _ _ _ (pTok_lt 7 h)
  · exact pTok_lt 7 h
abbrev P6 : Type := Bool × Nat × Int32 × Int32 × (Nat → Int32) × Int32
def sZ (x : P6) (F : Nat → Nat → Int32) (J : Nat → Int64) (t : Nat) (kd : Int32) : Option Value → Sg → Prop := fun r S2 => (x.1 = true ∧ r = some (.int 1) ∧ S2 = St (nw (stF F t kd x.2.2.1 x.2.2.2.1 x.2.2.2.2.1 x.2.2.2.2.2) x.2.1) J) ∨ (x.1 = false ∧ r = some (.int 0) ∧ S2 = St (nw (stF F t kd x.2.2.1 x.2.2.2.1 x.2.2.2.2.1 x.2.2.2.2.2) x.2.1) J)
theorem sZ_y {x : P6} {F : Nat → Nat → Int32} {J : Nat → Int64} {t j : Nat} {kd f s d : Int32} {w : Nat → Int32} (h : x = (true, j, f, s, w, d)) : sZ x F J t kd (some (.int 1)) (St (nw (stF F t kd f s w d) j) J) := Or.inl ⟨by rw [h], rfl, by rw [h]⟩
theorem sZ_n {x : P6} {F : Nat → Nat → Int32} {J : Nat → Int64} {t j : Nat} {kd f s d : Int32} {w : Nat → Int32} (h : x = (false, j, f, s, w, d)) : sZ x F J t kd (some (.int 0)) (St (nw (stF F t kd f s w d) j) J) := Or.inr ⟨by rw [h], rfl, by rw [h]⟩
theorem ts_off {x : Int32} (h : ∀ v : Int32, v = 1 ∨ v = 2 ∨ v = 4 ∨ v = 5 ∨ v = 6 ∨ v = 7 ∨ v = 8 → ¬ x = v) : (x.toInt < 1 ∨ 8 < x.toInt) ∨ x = 3 := by
  have e : ∀ v : Int32, ¬ x = v → ¬ x.toInt = v.toInt := fun v h z => h (Int32.toInt_inj.mp z)
  have a1 : ¬ x.toInt = 1 := e 1 (h 1 (by decide))
  have a2 : ¬ x.toInt = 2 := e 2 (h 2 (by decide))
  have a4 : ¬ x.toInt = 4 := e 4 (h 4 (by decide))
  have a5 : ¬ x.toInt = 5 := e 5 (h 5 (by decide))
  have a6 : ¬ x.toInt = 6 := e 6 (h 6 (by decide))
  have a7 : ¬ x.toInt = 7 := e 7 (h 7 (by decide))
  have a8 : ¬ x.toInt = 8 := e 8 (h 8 (by decide))
  by_cases a3 : x.toInt = 3
  · exact Or.inr (Int32.toInt_inj.mp a3)
  · exact Or.inl (by omega)

set_option maxRecDepth 100000 in
set_option maxHeartbeats 4000000 in
theorem ar_claim (g : Gl) (l : Launch) {x : P6} {t : Nat} (ht : t < 174 ∧ sh t = 4) (ah kd b e : Int32) (w : Nat → Int32) (d : Int32) (F : Nat → Nat → Int32) (J : Nat → Int64) {K V : Nat → Int32} {c j : Nat} (hR : RE F K V c) (hj : j < c) {XX : State → Method → Prop} (hx : x = pArg (crF K V) (gn c) kd ah j b e w d) (hkd : kd = 8) : Gj g l (rmd 4 0 0) XX (QM g (sZ x F J t kd) 0 0) RX3 cX3_takeStepText 3 (some .boolean) 72 [some (.ref 3), some (.ref t), some (.int ah)] [] (St (nw (stF F t kd b e w d) j) J) 0 0 := by
  obtain ⟨t10, ht1⟩ := ist t ht.1 ht.2
  have hR2 := fun a b e w d => hR.st t10 a b e w d
  refine g_aload_n 73 dX3_takeStepText_72 rfl rfl ?_
  refine g_aload_n 74 dX3_takeStepText_73 rfl rfl ?_
  refine gf_4_3 77 dX3_takeStepText_74 rfl kf_X3_81 (by first | decide | assumption | exact ⟨Nat.le_of_ble_eq_true rfl, rfl⟩) ?_
  refine g_v1 3 80 dX3_takeStepText_77 rfl kl_X3_40 mv_X3_takeLine rfl ⟨Nat.le_of_ble_eq_true rfl, Nat.le_of_ble_eq_true rfl⟩ (Nat.le_of_ble_eq_true rfl) (by first | decide | assumption | exact ⟨Nat.le_of_ble_eq_true rfl, rfl⟩) (c_takeLine g l ht1 (stF F t kd b e w d) J (hR2 _ _ _ _ _) hj) ?_
  rintro r S2 (⟨q0, rfl, rfl⟩ | ⟨q0, rfl, rfl⟩)
  all_goals rw [stF_set]
  · refine g_zret dX3_takeStepText_80 (by decide) ?_
    exact sZ_y (by rw [hx, pArg, if_pos hkd, q0])
  · refine g_zret dX3_takeStepText_80 (by decide) ?_
    exact sZ_n (by rw [hx, pArg, if_pos hkd, q0])

set_option maxRecDepth 100000 in
set_option maxHeartbeats 4000000 in
theorem ar_letter (g : Gl) (l : Launch) {x : P6} {t : Nat} (ht : t < 174 ∧ sh t = 4) (ah kd b e : Int32) (w : Nat → Int32) (d : Int32) (F : Nat → Nat → Int32) (J : Nat → Int64) {K V : Nat → Int32} {c j : Nat} (hR : RE F K V c) (hj : j < c) {XX : State → Method → Prop} (hx : x = pArg (crF K V) (gn c) kd ah j b e w d) (hkd : kd = 6 ∨ kd = 7) : Gj g l (rmd 4 0 0) XX (QM g (sZ x F J t kd) 0 0) RX3 cX3_takeStepText 3 (some .boolean) 81 [some (.ref 3), some (.ref t), some (.int ah)] [] (St (nw (stF F t kd b e w d) j) J) 0 0 := by
  obtain ⟨t10, ht1⟩ := ist t ht.1 ht.2
  have hR2 := fun a b e w d => hR.st t10 a b e w d
  refine g_aload_n 82 dX3_takeStepText_81 rfl rfl ?_
  refine g_aload_n 83 dX3_takeStepText_82 rfl rfl ?_
  refine g_v1 3 86 dX3_takeStepText_83 rfl kl_X3_85 mv_X3_takeLetter rfl ⟨Nat.le_of_ble_eq_true rfl, Nat.le_of_ble_eq_true rfl⟩ (Nat.le_of_ble_eq_true rfl) (by first | decide | assumption | exact ⟨Nat.le_of_ble_eq_true rfl, rfl⟩) (c_takeLetter g l ht kd b e w d F J hR hj) ?_
  rintro r S2 (⟨q0, rfl, rfl⟩ | ⟨q0, rfl, rfl⟩)
  · refine g_zret dX3_takeStepText_86 (by decide) ?_
    exact sZ_y (by rw [hx, pArg, if_neg (show ¬ kd = 8 from fun z => by rcases hkd with y | y <;> rw [y] at z <;> exact absurd z (by decide)), if_pos hkd, q0]; rfl)
  · refine g_zret dX3_takeStepText_86 (by decide) ?_
    exact sZ_n (by rw [hx, pArg, if_neg (show ¬ kd = 8 from fun z => by rcases hkd with y | y <;> rw [y] at z <;> exact absurd z (by decide)), if_pos hkd, q0]; rfl)

set_option maxRecDepth 100000 in
set_option maxHeartbeats 4000000 in
theorem ar_trim (g : Gl) (l : Launch) {x : P6} {t : Nat} (ht : t < 174 ∧ sh t = 4) (ah kd b e : Int32) (w : Nat → Int32) (d : Int32) (F : Nat → Nat → Int32) (J : Nat → Int64) {K V : Nat → Int32} {c j : Nat} (hR : RE F K V c) (hj : j < c) {XX : State → Method → Prop} (hx : x = pArg (crF K V) (gn c) kd ah j b e w d) (hkd : kd = 4) : Gj g l (rmd 4 0 0) XX (QM g (sZ x F J t kd) 0 0) RX3 cX3_takeStepText 3 (some .boolean) 87 [some (.ref 3), some (.ref t), some (.int ah)] [] (St (nw (stF F t kd b e w d) j) J) 0 0 := by
  obtain ⟨t10, ht1⟩ := ist t ht.1 ht.2
  have hR2 := fun a b e w d => hR.st t10 a b e w d
  refine g_aload_n 88 dX3_takeStepText_87 rfl rfl ?_
  refine g_aload_n 89 dX3_takeStepText_88 rfl rfl ?_
  refine g_iload_n 90 dX3_takeStepText_89 rfl rfl ?_
  refine g_v2 3 93 dX3_takeStepText_90 rfl kl_X3_89 mv_X3_takeFirst rfl ⟨Nat.le_of_ble_eq_true rfl, Nat.le_of_ble_eq_true rfl⟩ (Nat.le_of_ble_eq_true rfl) (by first | decide | assumption | exact ⟨Nat.le_of_ble_eq_true rfl, rfl⟩) (c_takeFirst g l ah ht kd b e w d F J hR hj) ?_
  rintro r S2 (⟨q0, rfl, rfl⟩ | ⟨q0, rfl, rfl⟩)
  · refine g_zret dX3_takeStepText_93 (by decide) ?_
    exact sZ_y (by rw [hx, pArg, if_neg (show ¬ kd = 8 by rw [hkd]; decide), if_neg (show ¬ (kd = 6 ∨ kd = 7) by rw [hkd]; decide), if_pos hkd, q0]; rfl)
  · refine g_zret dX3_takeStepText_93 (by decide) ?_
    exact sZ_n (by rw [hx, pArg, if_neg (show ¬ kd = 8 by rw [hkd]; decide), if_neg (show ¬ (kd = 6 ∨ kd = 7) by rw [hkd]; decide), if_pos hkd, q0]; rfl)

set_option maxRecDepth 100000 in
set_option maxHeartbeats 4000000 in
theorem ar_drop (g : Gl) (l : Launch) {x : P6} {t : Nat} (ht : t < 174 ∧ sh t = 4) (ah kd b e : Int32) (w : Nat → Int32) (d : Int32) (F : Nat → Nat → Int32) (J : Nat → Int64) {K V : Nat → Int32} {c j : Nat} (hR : RE F K V c) (hj : j < c) {XX : State → Method → Prop} (hx : x = pArg (crF K V) (gn c) kd ah j b e w d) (hkd : kd = 5) : Gj g l (rmd 4 0 0) XX (QM g (sZ x F J t kd) 0 0) RX3 cX3_takeStepText 3 (some .boolean) 94 [some (.ref 3), some (.ref t), some (.int ah)] [] (St (nw (stF F t kd b e w d) j) J) 0 0 := by
  obtain ⟨t10, ht1⟩ := ist t ht.1 ht.2
  have hR2 := fun a b e w d => hR.st t10 a b e w d
  refine g_aload_n 95 dX3_takeStepText_94 rfl rfl ?_
  refine g_aload_n 96 dX3_takeStepText_95 rfl rfl ?_
  refine g_iload_n 97 dX3_takeStepText_96 rfl rfl ?_
  refine g_v2 3 100 dX3_takeStepText_97 rfl kl_X3_89 mv_X3_takeFirst rfl ⟨Nat.le_of_ble_eq_true rfl, Nat.le_of_ble_eq_true rfl⟩ (Nat.le_of_ble_eq_true rfl) (by first | decide | assumption | exact ⟨Nat.le_of_ble_eq_true rfl, rfl⟩) (c_takeFirst g l ah ht kd b e w d F J hR hj) ?_
  rintro r S2 (⟨q0, rfl, rfl⟩ | ⟨q0, rfl, rfl⟩)
  · refine g_if_eq 115 103 dX3_takeStepText_100 rfl (by decide) (fun h100 => ?_) (fun h100 => ?_)
    · exact absurd h100 (by decide)
    · refine g_aload_n 104 dX3_takeStepText_103 rfl rfl ?_
      refine g_aload_n 105 dX3_takeStepText_104 rfl rfl ?_
      refine g_v1 3 108 dX3_takeStepText_105 rfl kl_X3_85 mv_X3_takeLetter rfl ⟨Nat.le_of_ble_eq_true rfl, Nat.le_of_ble_eq_true rfl⟩ (Nat.le_of_ble_eq_true rfl) (by first | decide | assumption | exact ⟨Nat.le_of_ble_eq_true rfl, rfl⟩) (c_takeLetter g l ht kd _ e w d F J hR (pNum_lt 0 (ah - 1) hj)) ?_
      rintro r S2 (⟨q1, rfl, rfl⟩ | ⟨q1, rfl, rfl⟩)
      · refine g_if_eq 115 111 dX3_takeStepText_108 rfl (by decide) (fun h108 => ?_) (fun h108 => ?_)
        · exact absurd h108 (by decide)
        · refine g_iconst (1) 112 dX3_takeStepText_111 rfl (by decide) ?_
          refine g_goto 116 dX3_takeStepText_112 (by decide) ?_
          refine g_zret dX3_takeStepText_116 (by decide) ?_
          exact sZ_y (by rw [hx, pArg, if_neg (show ¬ kd = 8 by rw [hkd]; decide), if_neg (show ¬ (kd = 6 ∨ kd = 7) by rw [hkd]; decide), if_neg (show ¬ kd = 4 by rw [hkd]; decide), if_pos q0, pSec, if_pos hkd, q1]; rfl)
      · refine g_if_eq 115 111 dX3_takeStepText_108 rfl (by decide) (fun h108 => ?_) (fun h108 => ?_)
        · refine g_iconst (0) 116 dX3_takeStepText_115 rfl (by decide) ?_
          refine g_zret dX3_takeStepText_116 (by decide) ?_
          exact sZ_n (by rw [hx, pArg, if_neg (show ¬ kd = 8 by rw [hkd]; decide), if_neg (show ¬ (kd = 6 ∨ kd = 7) by rw [hkd]; decide), if_neg (show ¬ kd = 4 by rw [hkd]; decide), if_pos q0, pSec, if_pos hkd, q1]; rfl)
        · exact absurd h108 (by decide)
  · refine g_if_eq 115 103 dX3_takeStepText_100 rfl (by decide) (fun h100 => ?_) (fun h100 => ?_)
    · refine g_iconst (0) 116 dX3_takeStepText_115 rfl (by decide) ?_
      refine g_zret dX3_takeStepText_116 (by decide) ?_
      exact sZ_n (by rw [hx, pArg, if_neg (show ¬ kd = 8 by rw [hkd]; decide), if_neg (show ¬ (kd = 6 ∨ kd = 7) by rw [hkd]; decide), if_neg (show ¬ kd = 4 by rw [hkd]; decide), if_neg (by rw [q0]; decide)]; rfl)
    · exact absurd h100 (by decide)

set_option maxRecDepth 100000 in
set_option maxHeartbeats 4000000 in
theorem ar_add (g : Gl) (l : Launch) {x : P6} {t : Nat} (ht : t < 174 ∧ sh t = 4) (ah kd b e : Int32) (w : Nat → Int32) (d : Int32) (F : Nat → Nat → Int32) (J : Nat → Int64) {K V : Nat → Int32} {c j : Nat} (hR : RE F K V c) (hj : j < c) {XX : State → Method → Prop} (hx : x = pArg (crF K V) (gn c) kd ah j b e w d) (hkd : kd = 1) : Gj g l (rmd 4 0 0) XX (QM g (sZ x F J t kd) 0 0) RX3 cX3_takeStepText 3 (some .boolean) 117 [some (.ref 3), some (.ref t), some (.int ah)] [] (St (nw (stF F t kd b e w d) j) J) 0 0 := by
  obtain ⟨t10, ht1⟩ := ist t ht.1 ht.2
  have hR2 := fun a b e w d => hR.st t10 a b e w d
  refine g_aload_n 118 dX3_takeStepText_117 rfl rfl ?_
  refine g_aload_n 119 dX3_takeStepText_118 rfl rfl ?_
  refine g_iload_n 120 dX3_takeStepText_119 rfl rfl ?_
  refine g_v2 3 123 dX3_takeStepText_120 rfl kl_X3_89 mv_X3_takeFirst rfl ⟨Nat.le_of_ble_eq_true rfl, Nat.le_of_ble_eq_true rfl⟩ (Nat.le_of_ble_eq_true rfl) (by first | decide | assumption | exact ⟨Nat.le_of_ble_eq_true rfl, rfl⟩) (c_takeFirst g l ah ht kd b e w d F J hR hj) ?_
  rintro r S2 (⟨q0, rfl, rfl⟩ | ⟨q0, rfl, rfl⟩)
  · refine g_if_eq 142 126 dX3_takeStepText_123 rfl (by decide) (fun h123 => ?_) (fun h123 => ?_)
    · exact absurd h123 (by decide)
    · refine g_aload_n 127 dX3_takeStepText_126 rfl rfl ?_
      refine g_aload_n 128 dX3_takeStepText_127 rfl rfl ?_
      refine g_iconst (0) 129 dX3_takeStepText_128 rfl (by decide) ?_
      refine g_iload_n 130 dX3_takeStepText_129 rfl rfl ?_
      refine g_iconst (1) 131 dX3_takeStepText_130 rfl (by decide) ?_
      refine g_isub 132 dX3_takeStepText_131 rfl ?_
      refine g_v3 3 135 dX3_takeStepText_132 rfl kl_X3_92 mv_X3_takeSecond rfl ⟨Nat.le_of_ble_eq_true rfl, Nat.le_of_ble_eq_true rfl⟩ (Nat.le_of_ble_eq_true rfl) (by first | decide | assumption | exact ⟨Nat.le_of_ble_eq_true rfl, rfl⟩) (c_takeSecond g l 0 (ah - 1) ht kd _ e w d F J hR (pNum_lt 0 (ah - 1) hj)) ?_
      rintro r S2 (⟨q1, rfl, rfl⟩ | ⟨q1, rfl, rfl⟩)
      · refine g_if_eq 142 138 dX3_takeStepText_135 rfl (by decide) (fun h135 => ?_) (fun h135 => ?_)
        · exact absurd h135 (by decide)
        · refine g_iconst (1) 139 dX3_takeStepText_138 rfl (by decide) ?_
          refine g_goto 143 dX3_takeStepText_139 (by decide) ?_
          refine g_zret dX3_takeStepText_143 (by decide) ?_
          exact sZ_y (by rw [hx, pArg, if_neg (show ¬ kd = 8 by rw [hkd]; decide), if_neg (show ¬ (kd = 6 ∨ kd = 7) by rw [hkd]; decide), if_neg (show ¬ kd = 4 by rw [hkd]; decide), if_pos q0, pSec, if_neg (show ¬ kd = 5 by rw [hkd]; decide), if_pos hkd, q1]; rfl)
      · refine g_if_eq 142 138 dX3_takeStepText_135 rfl (by decide) (fun h135 => ?_) (fun h135 => ?_)
        · refine g_iconst (0) 143 dX3_takeStepText_142 rfl (by decide) ?_
          refine g_zret dX3_takeStepText_143 (by decide) ?_
          exact sZ_n (by rw [hx, pArg, if_neg (show ¬ kd = 8 by rw [hkd]; decide), if_neg (show ¬ (kd = 6 ∨ kd = 7) by rw [hkd]; decide), if_neg (show ¬ kd = 4 by rw [hkd]; decide), if_pos q0, pSec, if_neg (show ¬ kd = 5 by rw [hkd]; decide), if_pos hkd, q1]; rfl)
        · exact absurd h135 (by decide)
  · refine g_if_eq 142 126 dX3_takeStepText_123 rfl (by decide) (fun h123 => ?_) (fun h123 => ?_)
    · refine g_iconst (0) 143 dX3_takeStepText_142 rfl (by decide) ?_
      refine g_zret dX3_takeStepText_143 (by decide) ?_
      exact sZ_n (by rw [hx, pArg, if_neg (show ¬ kd = 8 by rw [hkd]; decide), if_neg (show ¬ (kd = 6 ∨ kd = 7) by rw [hkd]; decide), if_neg (show ¬ kd = 4 by rw [hkd]; decide), if_neg (by rw [q0]; decide)]; rfl)
    · exact absurd h123 (by decide)

set_option maxRecDepth 100000 in
set_option maxHeartbeats 4000000 in
theorem ar_times (g : Gl) (l : Launch) {x : P6} {t : Nat} (ht : t < 174 ∧ sh t = 4) (ah kd b e : Int32) (w : Nat → Int32) (d : Int32) (F : Nat → Nat → Int32) (J : Nat → Int64) {K V : Nat → Int32} {c j : Nat} (hR : RE F K V c) (hj : j < c) {XX : State → Method → Prop} (hx : x = pArg (crF K V) (gn c) kd ah j b e w d) (hkd : kd = 2) : Gj g l (rmd 4 0 0) XX (QM g (sZ x F J t kd) 0 0) RX3 cX3_takeStepText 3 (some .boolean) 144 [some (.ref 3), some (.ref t), some (.int ah)] [] (St (nw (stF F t kd b e w d) j) J) 0 0 := by
  obtain ⟨t10, ht1⟩ := ist t ht.1 ht.2
  have hR2 := fun a b e w d => hR.st t10 a b e w d
  refine g_aload_n 145 dX3_takeStepText_144 rfl rfl ?_
  refine g_aload_n 146 dX3_takeStepText_145 rfl rfl ?_
  refine g_iload_n 147 dX3_takeStepText_146 rfl rfl ?_
  refine g_v2 3 150 dX3_takeStepText_147 rfl kl_X3_89 mv_X3_takeFirst rfl ⟨Nat.le_of_ble_eq_true rfl, Nat.le_of_ble_eq_true rfl⟩ (Nat.le_of_ble_eq_true rfl) (by first | decide | assumption | exact ⟨Nat.le_of_ble_eq_true rfl, rfl⟩) (c_takeFirst g l ah ht kd b e w d F J hR hj) ?_
  rintro r S2 (⟨q0, rfl, rfl⟩ | ⟨q0, rfl, rfl⟩)
  · refine g_if_eq 168 153 dX3_takeStepText_150 rfl (by decide) (fun h150 => ?_) (fun h150 => ?_)
    · exact absurd h150 (by decide)
    · refine g_aload_n 154 dX3_takeStepText_153 rfl rfl ?_
      refine g_aload_n 155 dX3_takeStepText_154 rfl rfl ?_
      refine g_iconst (1) 156 dX3_takeStepText_155 rfl (by decide) ?_
      refine g_bipush (99) 158 dX3_takeStepText_156 rfl (by decide) ?_
      refine g_v3 3 161 dX3_takeStepText_158 rfl kl_X3_92 mv_X3_takeSecond rfl ⟨Nat.le_of_ble_eq_true rfl, Nat.le_of_ble_eq_true rfl⟩ (Nat.le_of_ble_eq_true rfl) (by first | decide | assumption | exact ⟨Nat.le_of_ble_eq_true rfl, rfl⟩) (c_takeSecond g l 1 99 ht kd _ e w d F J hR (pNum_lt 0 (ah - 1) hj)) ?_
      rintro r S2 (⟨q1, rfl, rfl⟩ | ⟨q1, rfl, rfl⟩)
      · refine g_if_eq 168 164 dX3_takeStepText_161 rfl (by decide) (fun h161 => ?_) (fun h161 => ?_)
        · exact absurd h161 (by decide)
        · refine g_iconst (1) 165 dX3_takeStepText_164 rfl (by decide) ?_
          refine g_goto 169 dX3_takeStepText_165 (by decide) ?_
          refine g_zret dX3_takeStepText_169 (by decide) ?_
          exact sZ_y (by rw [hx, pArg, if_neg (show ¬ kd = 8 by rw [hkd]; decide), if_neg (show ¬ (kd = 6 ∨ kd = 7) by rw [hkd]; decide), if_neg (show ¬ kd = 4 by rw [hkd]; decide), if_pos q0, pSec, if_neg (show ¬ kd = 5 by rw [hkd]; decide), if_neg (show ¬ kd = 1 by rw [hkd]; decide), if_pos hkd, q1]; rfl)
      · refine g_if_eq 168 164 dX3_takeStepText_161 rfl (by decide) (fun h161 => ?_) (fun h161 => ?_)
        · refine g_iconst (0) 169 dX3_takeStepText_168 rfl (by decide) ?_
          refine g_zret dX3_takeStepText_169 (by decide) ?_
          exact sZ_n (by rw [hx, pArg, if_neg (show ¬ kd = 8 by rw [hkd]; decide), if_neg (show ¬ (kd = 6 ∨ kd = 7) by rw [hkd]; decide), if_neg (show ¬ kd = 4 by rw [hkd]; decide), if_pos q0, pSec, if_neg (show ¬ kd = 5 by rw [hkd]; decide), if_neg (show ¬ kd = 1 by rw [hkd]; decide), if_pos hkd, q1]; rfl)
        · exact absurd h161 (by decide)
  · refine g_if_eq 168 153 dX3_takeStepText_150 rfl (by decide) (fun h150 => ?_) (fun h150 => ?_)
    · refine g_iconst (0) 169 dX3_takeStepText_168 rfl (by decide) ?_
      refine g_zret dX3_takeStepText_169 (by decide) ?_
      exact sZ_n (by rw [hx, pArg, if_neg (show ¬ kd = 8 by rw [hkd]; decide), if_neg (show ¬ (kd = 6 ∨ kd = 7) by rw [hkd]; decide), if_neg (show ¬ kd = 4 by rw [hkd]; decide), if_neg (by rw [q0]; decide)]; rfl)
    · exact absurd h150 (by decide)

set_option maxRecDepth 100000 in
set_option maxHeartbeats 4000000 in
theorem ar_cut (g : Gl) (l : Launch) {x : P6} {t : Nat} (ht : t < 174 ∧ sh t = 4) (ah kd b e : Int32) (w : Nat → Int32) (d : Int32) (F : Nat → Nat → Int32) (J : Nat → Int64) {K V : Nat → Int32} {c j : Nat} (hR : RE F K V c) (hj : j < c) {XX : State → Method → Prop} (hx : x = pArg (crF K V) (gn c) kd ah j b e w d) (hkd : ∀ v : Int32, v = 1 ∨ v = 2 ∨ v = 4 ∨ v = 5 ∨ v = 6 ∨ v = 7 ∨ v = 8 → ¬ kd = v) : Gj g l (rmd 4 0 0) XX (QM g (sZ x F J t kd) 0 0) RX3 cX3_takeStepText 3 (some .boolean) 170 [some (.ref 3), some (.ref t), some (.int ah)] [] (St (nw (stF F t kd b e w d) j) J) 0 0 := by
  obtain ⟨t10, ht1⟩ := ist t ht.1 ht.2
  have hR2 := fun a b e w d => hR.st t10 a b e w d
  refine g_aload_n 171 dX3_takeStepText_170 rfl rfl ?_
  refine g_aload_n 172 dX3_takeStepText_171 rfl rfl ?_
  refine g_iload_n 173 dX3_takeStepText_172 rfl rfl ?_
  refine g_v2 3 176 dX3_takeStepText_173 rfl kl_X3_89 mv_X3_takeFirst rfl ⟨Nat.le_of_ble_eq_true rfl, Nat.le_of_ble_eq_true rfl⟩ (Nat.le_of_ble_eq_true rfl) (by first | decide | assumption | exact ⟨Nat.le_of_ble_eq_true rfl, rfl⟩) (c_takeFirst g l ah ht kd b e w d F J hR hj) ?_
  rintro r S2 (⟨q0, rfl, rfl⟩ | ⟨q0, rfl, rfl⟩)
  · refine g_if_eq 194 179 dX3_takeStepText_176 rfl (by decide) (fun h176 => ?_) (fun h176 => ?_)
    · exact absurd h176 (by decide)
    · refine g_aload_n 180 dX3_takeStepText_179 rfl rfl ?_
      refine g_aload_n 181 dX3_takeStepText_180 rfl rfl ?_
      refine g_iconst (2) 182 dX3_takeStepText_181 rfl (by decide) ?_
      refine g_bipush (99) 184 dX3_takeStepText_182 rfl (by decide) ?_
      refine g_v3 3 187 dX3_takeStepText_184 rfl kl_X3_92 mv_X3_takeSecond rfl ⟨Nat.le_of_ble_eq_true rfl, Nat.le_of_ble_eq_true rfl⟩ (Nat.le_of_ble_eq_true rfl) (by first | decide | assumption | exact ⟨Nat.le_of_ble_eq_true rfl, rfl⟩) (c_takeSecond g l 2 99 ht kd _ e w d F J hR (pNum_lt 0 (ah - 1) hj)) ?_
      rintro r S2 (⟨q1, rfl, rfl⟩ | ⟨q1, rfl, rfl⟩)
      · refine g_if_eq 194 190 dX3_takeStepText_187 rfl (by decide) (fun h187 => ?_) (fun h187 => ?_)
        · exact absurd h187 (by decide)
        · refine g_iconst (1) 191 dX3_takeStepText_190 rfl (by decide) ?_
          refine g_goto 195 dX3_takeStepText_191 (by decide) ?_
          refine g_zret dX3_takeStepText_195 (by decide) ?_
          exact sZ_y (by rw [hx, pArg, if_neg (hkd 8 (by decide)), if_neg (fun z => z.elim (hkd 6 (by decide)) (hkd 7 (by decide))), if_neg (hkd 4 (by decide)), if_pos q0, pSec, if_neg (hkd 5 (by decide)), if_neg (hkd 1 (by decide)), if_neg (hkd 2 (by decide)), q1]; rfl)
      · refine g_if_eq 194 190 dX3_takeStepText_187 rfl (by decide) (fun h187 => ?_) (fun h187 => ?_)
        · refine g_iconst (0) 195 dX3_takeStepText_194 rfl (by decide) ?_
          refine g_zret dX3_takeStepText_195 (by decide) ?_
          exact sZ_n (by rw [hx, pArg, if_neg (hkd 8 (by decide)), if_neg (fun z => z.elim (hkd 6 (by decide)) (hkd 7 (by decide))), if_neg (hkd 4 (by decide)), if_pos q0, pSec, if_neg (hkd 5 (by decide)), if_neg (hkd 1 (by decide)), if_neg (hkd 2 (by decide)), q1]; rfl)
        · exact absurd h187 (by decide)
  · refine g_if_eq 194 179 dX3_takeStepText_176 rfl (by decide) (fun h176 => ?_) (fun h176 => ?_)
    · refine g_iconst (0) 195 dX3_takeStepText_194 rfl (by decide) ?_
      refine g_zret dX3_takeStepText_195 (by decide) ?_
      exact sZ_n (by rw [hx, pArg, if_neg (hkd 8 (by decide)), if_neg (fun z => z.elim (hkd 6 (by decide)) (hkd 7 (by decide))), if_neg (hkd 4 (by decide)), if_neg (by rw [q0]; decide)]; rfl)
    · exact absurd h176 (by decide)

set_option maxRecDepth 100000 in
set_option maxHeartbeats 4000000 in
theorem c_takeStepText (g : Gl) (l : Launch) (ah : Int32) {t : Nat} (ht : t < 174 ∧ sh t = 4) (a b e : Int32) (w : Nat → Int32) (d : Int32) (F : Nat → Nat → Int32) (J : Nat → Int64) {K V : Nat → Int32} {c j : Nat} (hR : RE F K V c) (hj : j < c) : Ct g l yX3_takeStepText cX3_takeStepText 3 (some .boolean) 4 0 0 [.ref 3, .ref t, .int ah] (St (nw (stF F t a b e w d) j) J) (sZ (pStep (crF K V) (gn c) ah j b e w d) F J t (V j)) := by
  obtain ⟨t10, ht1⟩ := ist t ht.1 ht.2
  have hR2 := fun a b e w d => hR.st t10 a b e w d
  have hV : ∀ a b e w d q, (nw (stF F t a b e w d) q) 8 = V := fun a b e w d q => (hR2 a b e w d).2.1
  have hj4 : j < 401 := by have := hR.2.2.2.2; omega
  have hj1 := pTok_lt (K := K) (V := V) 7 hj
  refine Ct.of rfl (by decide) rfl (Nat.le_of_ble_eq_true rfl) ?_
  refine g_aload_n 1 dX3_takeStepText_0 rfl rfl ?_
  refine g_aload_n 2 dX3_takeStepText_1 rfl rfl ?_
  refine gf_3_2 5 dX3_takeStepText_2 rfl kf_X3_26 ?_
  refine g_v0 6 8 dX3_takeStepText_5 rfl kl_X3_64 mv_X6_value rfl ⟨Nat.le_of_ble_eq_true rfl, Nat.le_of_ble_eq_true rfl⟩ (Nat.le_of_ble_eq_true rfl) (by first | decide | assumption | exact ⟨Nat.le_of_ble_eq_true rfl, rfl⟩) (c_value g l (nw (stF F t _ _ _ _ _) _) J rfl (by have := hR.2.2.2.2; omega)) ?_
  rintro _ _ ⟨rfl, rfl⟩
  rw [hV]
  refine gp_4_0 11 dX3_takeStepText_8 rfl kf_X3_79 (by first | decide | assumption | exact ⟨Nat.le_of_ble_eq_true rfl, rfl⟩) ?_
  rw [nw_up _ _ _ _ (by omega), (stF_up F t a b e w d _).1]
  refine g_aload_n 12 dX3_takeStepText_11 rfl rfl ?_
  refine g_bipush (7) 14 dX3_takeStepText_12 rfl (by decide) ?_
  refine g_v1 3 17 dX3_takeStepText_14 rfl kl_X3_44 mv_X3_take rfl ⟨Nat.le_of_ble_eq_true rfl, Nat.le_of_ble_eq_true rfl⟩ (Nat.le_of_ble_eq_true rfl) (by first | decide | assumption | exact ⟨Nat.le_of_ble_eq_true rfl, rfl⟩) (c_take g l 7 (stF F t (V j) b e w d) J (hR2 _ _ _ _ _) hj) ?_
  rintro r S2 (⟨q0, rfl, rfl⟩ | ⟨q0, rfl, rfl⟩)
  · refine g_if_ne 22 20 dX3_takeStepText_17 rfl (by decide) (fun h17 => ?_) (fun h17 => ?_)
    · refine g_aload_n 23 dX3_takeStepText_22 rfl rfl ?_
      refine gf_4_0 26 dX3_takeStepText_23 rfl kf_X3_79 (by first | decide | assumption | exact ⟨Nat.le_of_ble_eq_true rfl, rfl⟩) ?_
      rw [show (nw (stF F t (V j) b e w d) (pTok (crF K V) (gn c) 7 j).2) t 0 = V j by rw [nw_ne _ _ (by omega), stF_t]; rfl]
      have hx : pStep (crF K V) (gn c) ah j b e w d = pArg (crF K V) (gn c) (V j) ah (pTok (crF K V) (gn c) 7 j).2 b e w d := by rw [pStep, if_pos q0]; rfl
      generalize V j = kd at hx ⊢
      by_cases h8 : kd = 8
      · subst h8
        refine g_tsIn (off := 46) 72 dX3_takeStepText_26 (by decide) (by decide) (by decide) (by decide) ?_
        exact ar_claim g l ht ah _ b e w d F J hR hj1 hx rfl
      by_cases h7 : kd = 7
      · subst h7
        refine g_tsIn (off := 55) 81 dX3_takeStepText_26 (by decide) (by decide) (by decide) (by decide) ?_
        exact ar_letter g l ht ah _ b e w d F J hR hj1 hx (Or.inr rfl)
      by_cases h6 : kd = 6
      · subst h6
        refine g_tsIn (off := 55) 81 dX3_takeStepText_26 (by decide) (by decide) (by decide) (by decide) ?_
        exact ar_letter g l ht ah _ b e w d F J hR hj1 hx (Or.inl rfl)
      by_cases h5 : kd = 5
      · subst h5
        refine g_tsIn (off := 68) 94 dX3_takeStepText_26 (by decide) (by decide) (by decide) (by decide) ?_
        exact ar_drop g l ht ah _ b e w d F J hR hj1 hx rfl
      by_cases h4 : kd = 4
      · subst h4
        refine g_tsIn (off := 61) 87 dX3_takeStepText_26 (by decide) (by decide) (by decide) (by decide) ?_
        exact ar_trim g l ht ah _ b e w d F J hR hj1 hx rfl
      by_cases h2 : kd = 2
      · subst h2
        refine g_tsIn (off := 118) 144 dX3_takeStepText_26 (by decide) (by decide) (by decide) (by decide) ?_
        exact ar_times g l ht ah _ b e w d F J hR hj1 hx rfl
      by_cases h1 : kd = 1
      · subst h1
        refine g_tsIn (off := 91) 117 dX3_takeStepText_26 (by decide) (by decide) (by decide) (by decide) ?_
        exact ar_add g l ht ah _ b e w d F J hR hj1 hx rfl
      have hall : ∀ v : Int32, v = 1 ∨ v = 2 ∨ v = 4 ∨ v = 5 ∨ v = 6 ∨ v = 7 ∨ v = 8 → ¬ kd = v := by
        rintro v (rfl | rfl | rfl | rfl | rfl | rfl | rfl) <;> assumption
      rcases ts_off hall with ho | rfl
      · refine g_tsOut 170 dX3_takeStepText_26 ho (by decide) ?_
        exact ar_cut g l ht ah _ b e w d F J hR hj1 hx hall
      · refine g_tsIn (off := 144) 170 dX3_takeStepText_26 (by decide) (by decide) (by decide) (by decide) ?_
        exact ar_cut g l ht ah _ b e w d F J hR hj1 hx hall
    · exact absurd h17 (by decide)
  · refine g_if_ne 22 20 dX3_takeStepText_17 rfl (by decide) (fun h17 => ?_) (fun h17 => ?_)
    · exact absurd h17 (by decide)
    · refine g_iconst (0) 21 dX3_takeStepText_20 rfl (by decide) ?_
      refine g_zret dX3_takeStepText_21 (by decide) ?_
      exact sZ_n (by rw [pStep, if_neg (by rw [q0]; decide)])

