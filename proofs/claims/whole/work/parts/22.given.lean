/-! given() and proof() of the class -/
theorem sp_pl {tb : Nat → Int32} {len : Nat} {q0 : TR} (h0 : q0.2.2.2 = 0) : ∀ i, ∀ j, j < (spT tb len q0 i).2.2.2.2 → ∃ p, p < len ∧ (spT tb len q0 i).2.2.2.1 j = nI p
  | 0 => fun j hj => by rw [spT, h0] at hj; exact absurd hj (Nat.not_lt_zero j)
  | i + 1 => fun j hj => by
    have ih := sp_pl (tb := tb) (len := len) h0 i
    rw [spT] at hj ⊢
    by_cases h1 : len ≤ (spT tb len q0 i).1
    · rw [if_pos h1] at hj ⊢; exact ih j hj
    · rw [if_neg h1] at hj ⊢
      by_cases h2 : tb (spT tb len q0 i).1 = 32
      · rw [if_pos h2] at hj ⊢; exact ih j hj
      · rw [if_neg h2] at hj ⊢
        simp only [pshT] at hj ⊢
        by_cases e : j = (spT tb len q0 i).2.2.2.2
        · exact ⟨(spT tb len q0 i).1, by omega, by simp [upd, e]⟩
        · simp only [upd, if_neg e]; exact ih j (by omega)
theorem allT_pl (tb : Nat → Int32) (len : Nat) (F : Nat → Nat → Int32) : ∀ j, j < (allT tb len (q0F F)).2.2.2 → ∃ p, p ≤ len ∧ (allT tb len (q0F F)).2.2.1 j = nI p := by
  intro j hj
  simp only [allT, pshT] at hj ⊢
  by_cases e : j = (spT tb len (q0F F) 400).2.2.2.2
  · exact ⟨len, Nat.le_refl _, by simp [upd, e]⟩
  · obtain ⟨p, h1, h2⟩ := sp_pl (tb := tb) (len := len) (q0 := q0F F) rfl 400 j (by omega)
    exact ⟨p, by omega, by simp only [upd, if_neg e]; exact h2⟩
theorem gv_lt {K V : Nat → Int32} {c : Nat} : ∀ (n i s : Nat) (L : LL), s < c → (gvR (crF K V) (gn c) n i s L).2.2.1 < c ∧ (gvR (crF K V) (gn c) n i s L).2.1 ≤ i + n
  | 0, i, s, L, h => ⟨h, Nat.le_refl _⟩
  | n + 1, i, s, L, h => by
    rw [gvR]
    by_cases h0 : ((crF K V) s).1 = 0
    · rw [if_pos h0]; exact ⟨h, by show i ≤ i + (n + 1); omega⟩
    · rw [if_neg h0]
      by_cases h1 : (pLine (crF K V) (gn c) s).1 = true
      · rw [if_pos h1]
        by_cases h2 : (pTok (crF K V) (gn c) 6 (pLine (crF K V) (gn c) s).2.1).1 = true
        · rw [if_pos h2]
          have := gv_lt (K := K) (V := V) (c := c) n (i + 1) _ (va_up L i ((pLine (crF K V) (gn c) s).2.2.1, (pLine (crF K V) (gn c) s).2.2.2)) (pTok_lt (K := K) (V := V) 6 (pLine_lt (K := K) (V := V) h))
          exact ⟨this.1, by omega⟩
        · rw [if_neg h2]; exact ⟨pTok_lt 6 (pLine_lt h), by show i ≤ i + (n + 1); omega⟩
      · rw [if_neg h1]; exact ⟨pLine_lt h, by show i ≤ i + (n + 1); omega⟩
theorem pr_lt {K V : Nat → Int32} {c : Nat} (gc : Int32) (Q0 : Nat → P5) : ∀ (n i s : Nat) (L : Nat → P5), s < c → (prR (crF K V) (gn c) gc Q0 n i s L).2.2.1 < c ∧ (prR (crF K V) (gn c) gc Q0 n i s L).2.1 ≤ i + n
  | 0, i, s, L, h => ⟨h, Nat.le_refl _⟩
  | n + 1, i, s, L, h => by
    have hp : (pSt (crF K V) (gn c) gc Q0 i s).2.1 < c := pStep_lt _ _ _ _ _ h
    rw [prR]
    by_cases h0 : ((crF K V) s).1 = 0
    · rw [if_pos h0]; exact ⟨h, by show i ≤ i + (n + 1); omega⟩
    · rw [if_neg h0]
      by_cases h1 : (pSt (crF K V) (gn c) gc Q0 i s).1 = true
      · rw [if_pos h1]
        by_cases h2 : (pTok (crF K V) (gn c) 6 (pSt (crF K V) (gn c) gc Q0 i s).2.1).1 = true
        · rw [if_pos h2]
          have := pr_lt (K := K) (V := V) (c := c) gc Q0 n (i + 1) _ (va_up L i (pRc (crF K V) (gn c) gc Q0 i s)) (pTok_lt (K := K) (V := V) 6 hp)
          exact ⟨this.1, by omega⟩
        · rw [if_neg h2]; exact ⟨pTok_lt 6 hp, by show i ≤ i + (n + 1); omega⟩
      · rw [if_neg h1]; exact ⟨hp, by show i ≤ i + (n + 1); omega⟩
theorem flt_neg : ∀ p, p ≤ 400 → -10 - nI p < 0 := by
  intro p hp
  rw [Int32.lt_iff_toInt_lt, Int32.toInt_sub, nI_toInt (by omega)]
  show ((-10 : Int) - p).bmod (2 ^ 32) < 0
  rw [Int.bmod_eq_of_le (by omega) (by omega)]
  omega
/-- GIVEN's lines are copied from the reader's -/
def glF (F : Nat → Nat → Int32) : Nat → Nat → Nat → Int32
  | 0 => F
  | i + 1 => setL (glF F i) (101 + 2 * i) (F (10 + 2 * i + 1)) (F (10 + 2 * i) 1)
theorem glF_ne (F : Nat → Nat → Int32) {q : Nat} : ∀ {m : Nat}, (q < 101 ∨ 101 + 2 * m ≤ q) → glF F m q = F q
  | 0, h => rfl
  | m + 1, h => by rw [glF, setL_ne _ _ _ (by omega) (by omega), glF_ne F (by omega)]
theorem glF_at (F : Nat → Nat → Int32) : ∀ {m i : Nat}, i < m → (∀ j, j < 6 → Wc (glF F m) i j = F (10 + 2 * i + 1) j) ∧ Dc (glF F m) i = F (10 + 2 * i) 1
  | 0, i, h => absurd h (Nat.not_lt_zero i)
  | m + 1, i, h => by
    rw [glF, Wc_set, Dc_set]
    by_cases e : i = m
    · subst e; exact ⟨fun j hj => by simp [upW, hj], by simp [va_up]⟩
    · have := glF_at F (m := m) (i := i) (by omega)
      exact ⟨fun j hj => by simp only [upW, if_neg e]; exact this.1 j hj, by simp only [va_up, if_neg e]; exact this.2⟩
theorem tdF_at (F : Nat → Nat → Int32) (L : LL) : ∀ {m i : Nat}, i < m → (∀ j, j < 6 → tdF F L m (10 + 2 * i + 1) j = (L i).1 j) ∧ tdF F L m (10 + 2 * i) 1 = (L i).2
  | 0, i, h => absurd h (Nat.not_lt_zero i)
  | m + 1, i, h => by
    rw [tdF]
    by_cases e : i = m
    · subst e; exact ⟨fun j hj => setL_w _ _ _ _ hj, setL_k _ _ _ _⟩
    · have := tdF_at F L (m := m) (i := i) (by omega)
      exact ⟨fun j hj => by rw [setL_ne _ _ _ (by omega) (by omega)]; exact this.1 j hj, by rw [setL_ne _ _ _ (by omega) (by omega)]; exact this.2⟩
def gZ (x : Bool × Nat × Nat × LL) (F : Nat → Nat → Int32) (P : Nat → Int32) (J : Nat → Int64) : Option Value → Sg → Prop := fun r S2 =>
  (x.1 = true ∧ r = some (.int (nI x.2.1)) ∧ ∃ F2, S2 = St F2 J ∧ F2 0 7 = nI x.2.1 ∧ F2 0 8 = 0 ∧ F2 0 9 = 0 ∧ F2 0 10 = -9 ∧ F2 0 11 = -9 ∧ F2 1 1 = 0 ∧ (∀ i, i < x.2.1 → (∀ j, j < 6 → Wc F2 i j = (x.2.2.2 i).1 j) ∧ Dc F2 i = (x.2.2.2 i).2) ∧ ∀ q, 165 ≤ q → F2 q = F q) ∨ (x.1 = false ∧ r = some (.int (-10 - P x.2.2.1)) ∧ ∃ F2, S2 = St F2 J ∧ kpR F F2)

theorem hd_hd (F : Nat → Nat → Int32) (a b c d e a2 b2 c2 d2 e2 : Int32) : hdF (hdF F a b c d e) a2 b2 c2 d2 e2 = hdF F a2 b2 c2 d2 e2 := by
  funext q j
  by_cases z : q = 0
  · subst z
    simp only [hdF, if_true]
    by_cases e7 : j = 7
    · simp [e7]
    · by_cases e8 : j = 8
      · simp [e8]
      · by_cases e9 : j = 9
        · simp [e9]
        · by_cases e10 : j = 10
          · simp [e10]
          · by_cases e11 : j = 11 <;> simp [e7, e8, e9, e10, e11]
  · rw [hd_ne _ _ _ _ _ _ z, hd_ne _ _ _ _ _ _ z, hd_ne _ _ _ _ _ _ z]
set_option maxRecDepth 100000 in
set_option maxHeartbeats 4000000 in
theorem lp_given (g : Gl) (l : Launch) (Fa : Nat → Nat → Int32) (J : Nat → Int64) {N : Nat} (hN : N ≤ 8) {Z9 : Option Value → Sg → Prop} {XX : State → Method → Prop} (hz : Z9 (some (.int (nI N))) (St (up2 (hdF (glF Fa N) (nI N) 0 0 (-9) (-9)) 1 1 0) J)) (n : Nat) : ∀ (i : Nat) (ix : Int32), i + n = N → ix = nI i → Gj g l (rmd 9 0 0) XX (QM g Z9 0 0) RX7 cX7_given 3 (some .int) 20 [some (.ref 0), some (.int (nI N)), some (.int ix)] [] (St (glF Fa i) J) 0 0 := by
  induction n with
  | zero =>
    intro i ix hi hx
    obtain rfl : i = N := by omega
    subst hx
    refine g_iload_n 21 dX7_given_20 rfl rfl ?_
    refine g_iload_n 22 dX7_given_21 rfl rfl ?_
    refine g_icmp_ge 55 25 dX7_given_22 rfl (by decide) (fun h22 => ?_) (fun h22 => ?_)
    · refine g_aload_n 56 dX7_given_55 rfl rfl ?_
      refine g_iload_n 57 dX7_given_56 rfl rfl ?_
      refine gp_7_7 60 dX7_given_57 rfl kf_X7_81 (by first | decide | assumption | exact ⟨Nat.le_of_ble_eq_true rfl, rfl⟩) ?_
      refine g_aload_n 61 dX7_given_60 rfl rfl ?_
      refine g_v0 7 64 dX7_given_61 rfl kl_X7_84 mv_X7_forgetProof rfl ⟨Nat.le_of_ble_eq_true rfl, Nat.le_of_ble_eq_true rfl⟩ (Nat.le_of_ble_eq_true rfl) (by first | decide | assumption | exact ⟨Nat.le_of_ble_eq_true rfl, rfl⟩) (c_forget g l _ J) ?_
      rintro _ _ ⟨rfl, rfl⟩
      rw [show up2 (glF Fa i) 0 7 (nI i) = hdF (glF Fa i) (nI i) (glF Fa i 0 8) (glF Fa i 0 9) (glF Fa i 0 10) (glF Fa i 0 11) by
        have h := congrArg (fun X => up2 X 0 7 (nI i)) (hd_self (glF Fa i))
        exact h.trans (hd_up _ _ _ _ _ _ _).1]
      rw [show hdF (hdF (glF Fa i) (nI i) (glF Fa i 0 8) (glF Fa i 0 9) (glF Fa i 0 10) (glF Fa i 0 11)) (hdF (glF Fa i) (nI i) (glF Fa i 0 8) (glF Fa i 0 9) (glF Fa i 0 10) (glF Fa i 0 11) 0 7) 0 0 (-9) (-9) = hdF (glF Fa i) (nI i) 0 0 (-9) (-9) from hd_hd _ _ _ _ _ _ _ _ _ _ _]
      refine g_aload_n 65 dX7_given_64 rfl rfl ?_
      refine gf_7_0 68 dX7_given_65 rfl kf_X7_10 ?_
      refine g_v0 5 71 dX7_given_68 rfl kl_X7_66 mv_X5_empty rfl ⟨Nat.le_of_ble_eq_true rfl, Nat.le_of_ble_eq_true rfl⟩ (Nat.le_of_ble_eq_true rfl) (by first | decide | assumption | exact ⟨Nat.le_of_ble_eq_true rfl, rfl⟩) (c_empty g l _ J) ?_
      rintro _ _ ⟨rfl, rfl⟩
      refine g_pop 72 dX7_given_71 rfl rfl ?_
      refine g_iload_n 73 dX7_given_72 rfl rfl ?_
      refine g_iret dX7_given_73 ?_
      exact hz
    · exact absurd (nI_le (Nat.le_refl _) (by omega)) h22
  | succ n ih =>
    intro i ix hi hx
    subst hx
    refine g_iload_n 21 dX7_given_20 rfl rfl ?_
    refine g_iload_n 22 dX7_given_21 rfl rfl ?_
    refine g_icmp_ge 55 25 dX7_given_22 rfl (by decide) (fun h22 => ?_) (fun h22 => ?_)
    · exact absurd h22 (nI_ge (by omega) (by omega))
    · refine g_iload_n 26 dX7_given_25 rfl rfl ?_
      refine g_bipush (8) 28 dX7_given_26 rfl (by decide) ?_
      refine g_icmp_ge 55 31 dX7_given_28 rfl (by decide) (fun h28 => ?_) (fun h28 => ?_)
      · exact absurd h28 (nI_ge (a := i) (b := 8) (by omega) (by decide))
      · refine g_aload_n 32 dX7_given_31 rfl rfl ?_
        refine gf_7_4 35 dX7_given_32 rfl kf_X7_39 ?_
        refine g_iload_n 36 dX7_given_35 rfl rfl ?_
        refine ga_lines i 37 dX7_given_36 rfl rfl (by omega) ?_
        refine g_aload_n 38 dX7_given_37 rfl rfl ?_
        refine gf_7_1 41 dX7_given_38 rfl kf_X7_19 ?_
        refine gf_3_0 44 dX7_given_41 rfl kf_X7_74 ?_
        refine g_iload_n 45 dX7_given_44 rfl rfl ?_
        refine ga_told i 46 dX7_given_45 rfl rfl (by omega) ?_
        refine g_v1 2 49 dX7_given_46 rfl kl_X7_77 mv_X2_becomeSame rfl ⟨Nat.le_of_ble_eq_true rfl, Nat.le_of_ble_eq_true rfl⟩ (Nat.le_of_ble_eq_true rfl) (ln_is i (by omega)) (c_becomeSame g l (ln_is i (by omega)) (td_is i (by omega)) (by omega) (glF Fa i) J) ?_
        rintro _ _ ⟨rfl, rfl⟩
        refine g_iinc (1) 52 dX7_given_49 rfl (by decide) (by decide) rfl ?_
        refine g_goto 20 dX7_given_52 (by decide) ?_
        exact gs_at (congrArg (fun X => St X J) (show _ = glF Fa (i + 1) by rw [glF, glF_ne Fa (by omega), glF_ne Fa (by omega)])) (ih (i + 1) _ (by omega) (nI_succ i).symm)

set_option maxRecDepth 100000 in
set_option maxHeartbeats 4000000 in
theorem c_given (g : Gl) (l : Launch) (F : Nat → Nat → Int32) (J : Nat → Int64) {len : Nat} (hl : F 1 1 = nI len) (hlen : len ≤ 400) : Ct g l yX7_given cX7_given 3 (some .int) 9 0 0 [.ref 0] (St F J) (let A := (allT (at_ F len) len (q0F F)); gZ (gvR (crF A.1 A.2.1) (gn A.2.2.2) 8 0 0 L0) F A.2.2.1 J) := by
  have hA := allT_c (at_ F len) len F
  have hpl := allT_pl (at_ F len) len F
  have hrd := c_readGiven g l F J hl hlen
  dsimp only at hrd ⊢
  generalize allT (at_ F len) len (q0F F) = A at hA hpl hrd ⊢
  have hgv := gv_lt (K := A.1) (V := A.2.1) (c := A.2.2.2) 8 0 0 L0 (by omega)
  generalize hx : gvR (crF A.1 A.2.1) (gn A.2.2.2) 8 0 0 L0 = x at hgv hrd ⊢
  refine Ct.of rfl (by decide) rfl (Nat.le_of_ble_eq_true rfl) ?_
  refine g_aload_n 1 dX7_given_0 rfl rfl ?_
  refine gf_7_1 4 dX7_given_1 rfl kf_X7_19 ?_
  refine g_aload_n 5 dX7_given_4 rfl rfl ?_
  refine gf_7_0 8 dX7_given_5 rfl kf_X7_10 ?_
  refine g_v1 3 11 dX7_given_8 rfl kl_X7_70 mv_X3_readGiven rfl ⟨Nat.le_of_ble_eq_true rfl, Nat.le_of_ble_eq_true rfl⟩ (Nat.le_of_ble_eq_true rfl) (by first | decide | assumption | exact ⟨Nat.le_of_ble_eq_true rfl, rfl⟩) (hrd) ?_
  rintro r S2 (⟨hx1, rfl, rfl⟩ | ⟨hx1, rfl, G, rfl, hk⟩)
  · refine g_istore_n 12 dX7_given_11 rfl (by decide) ?_
    refine g_iload_n 13 dX7_given_12 rfl rfl ?_
    refine g_if_ge 18 16 dX7_given_13 rfl (by decide) (fun h13 => ?_) (fun h13 => ?_)
    · refine g_iconst (0) 19 dX7_given_18 rfl (by decide) ?_
      refine g_istore_n 20 dX7_given_19 rfl (by decide) ?_
      refine lp_given g l _ J (N := x.2.1) (by omega) (Or.inl ⟨hx1, rfl, _, rfl, ?_, ?_, ?_, ?_, ?_, ?_, ?_, ?_⟩) x.2.1 0 _ (Nat.zero_add _) rfl
      · rw [up2_ne _ _ _ (by decide)]; rfl
      · rw [up2_ne _ _ _ (by decide)]; rfl
      · rw [up2_ne _ _ _ (by decide)]; rfl
      · rw [up2_ne _ _ _ (by decide)]; rfl
      · rw [up2_ne _ _ _ (by decide)]; rfl
      · rw [up2_same]; rfl
      · intro i hi
        have e : ∀ G : Nat → Nat → Int32, Wc (up2 (hdF G (nI x.2.1) 0 0 (-9) (-9)) 1 1 0) = Wc G ∧ Dc (up2 (hdF G (nI x.2.1) 0 0 (-9) (-9)) 1 1 0) = Dc G := fun G => Wc_x (fun q h => by rw [up2_ne _ _ _ (by omega), hd_ne _ _ _ _ _ _ (by omega)])
        rw [(e _).1, (e _).2]
        have h1 := glF_at (nw (tdF (stT F A) x.2.2.2 x.2.1) x.2.2.1) hi
        have h2 := tdF_at (stT F A) x.2.2.2 hi
        rw [nw_ne _ _ (by omega), nw_ne _ _ (by omega)] at h1
        exact ⟨fun j hj => (h1.1 j hj).trans (h2.1 j hj), h1.2.trans h2.2⟩
      · intro q hq
        rw [up2_ne _ _ _ (by omega), hd_ne _ _ _ _ _ _ (by omega), glF_ne _ (by omega), up2_ne _ _ _ (by omega), tdF_ne _ _ (by omega), stT_ne _ _ (by omega)]
    · exact absurd (nI_pos' (by omega)) h13
  · refine g_istore_n 12 dX7_given_11 rfl (by decide) ?_
    refine g_iload_n 13 dX7_given_12 rfl rfl ?_
    refine g_if_ge 18 16 dX7_given_13 rfl (by decide) (fun h13 => ?_) (fun h13 => ?_)
    · exact absurd h13 (by
        obtain ⟨p, hp, e⟩ := hpl _ hgv.1
        rw [e]; exact Int32.not_le.mpr (flt_neg p (by omega)))
    · refine g_iload_n 17 dX7_given_16 rfl rfl ?_
      refine g_iret dX7_given_17 ?_
      exact Or.inr ⟨hx1, rfl, G, rfl, hk⟩

