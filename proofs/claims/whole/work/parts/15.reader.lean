/-! how a text is read, over any row of tokens (cur: kind and value of the one that stands now; adv: the next) -/
section PARSE
variable {σ : Type} (cur : σ → Int32 × Int32) (adv : σ → σ)
def pTok (k : Int32) (s : σ) : Bool × σ := if (cur s).1 = k then (true, adv s) else (false, s)
def pNum (lo hi : Int32) (s : σ) : Bool × σ := if (cur s).1 = 2 ∧ ¬ (cur s).2 < lo ∧ (cur s).2 ≤ hi then (true, adv s) else (false, s)
def pTm1 (s : σ) : Bool × σ := if (cur s).1 = 2 then pNum cur adv 1 99 s else (true, s)
def pTmW (s : σ) : Int32 := if (cur s).1 = 2 then (cur s).2 else 1
def pTm2 (w : Nat → Int32) (wt : Int32) (s : σ) : Bool × σ × (Nat → Int32) :=
  if (cur s).1 = 1 ∧ ¬ (cur s).2 < 0 ∧ ¬ 6 ≤ (cur s).2 ∧ w (cur s).2.toNatClampNeg = 0 then (true, adv s, upd w (cur s).2.toNatClampNeg wt) else (false, s, w)
def pTerm (w : Nat → Int32) (s : σ) : Bool × σ × (Nat → Int32) :=
  if (pTm1 cur adv s).1 = true then pTm2 cur adv w (if (pTok cur adv 5 (pTm1 cur adv s).2).1 = true then -(pTmW cur s) else pTmW cur s) (pTok cur adv 5 (pTm1 cur adv s).2).2 else (false, (pTm1 cur adv s).2, w)
def pTerms : Nat → (Nat → Int32) → σ → Bool × σ × (Nat → Int32)
  | 0, w, s => (true, s, w)
  | n + 1, w, s => if (pTerm cur adv w s).1 = true then (if (pTok cur adv 4 (pTerm cur adv w s).2.1).1 = true then pTerms n (pTerm cur adv w s).2.2 (pTok cur adv 4 (pTerm cur adv w s).2.1).2 else (true, (pTok cur adv 4 (pTerm cur adv w s).2.1).2, (pTerm cur adv w s).2.2)) else (false, (pTerm cur adv w s).2.1, (pTerm cur adv w s).2.2)
/-- behind the terms: >= and the degree -/
def pDeg (w : Nat → Int32) (s : σ) : Bool × σ × (Nat → Int32) × Int32 :=
  if (pTok cur adv 3 s).1 = true then ((pNum cur adv 0 999 (pTok cur adv 3 s).2).1, (pNum cur adv 0 999 (pTok cur adv 3 s).2).2, w, (cur (pTok cur adv 3 s).2).2) else (false, (pTok cur adv 3 s).2, w, 0)
def pLine (s : σ) : Bool × σ × (Nat → Int32) × Int32 :=
  if (pTerms cur adv 7 (fun _ => 0) s).1 = true then pDeg cur adv (pTerms cur adv 7 (fun _ => 0) s).2.2 (pTerms cur adv 7 (fun _ => 0) s).2.1 else (false, (pTerms cur adv 7 (fun _ => 0) s).2.1, (pTerms cur adv 7 (fun _ => 0) s).2.2, 0)
end PARSE
def gn (c j : Nat) : Nat := if j + 1 < c then j + 1 else j
theorem gn_lt {c j : Nat} (h : j < c) : gn c j < c := by unfold gn; split <;> omega
def crF (K V : Nat → Int32) : Nat → Int32 × Int32 := fun j => (K j, V j)
def RE (F : Nat → Nat → Int32) (K V : Nat → Int32) (c : Nat) : Prop := F 7 = K ∧ F 8 = V ∧ F 6 3 = nI c ∧ 1 ≤ c ∧ c ≤ 401
def nw (F : Nat → Nat → Int32) (j : Nat) : Nat → Nat → Int32 := up2 F 6 4 (nI j)
theorem nw_nw (F : Nat → Nat → Int32) (i j : Nat) : up2 (nw F i) 6 4 (nI j) = nw F j := by
  funext q r
  by_cases h : q = 6
  · subst h; simp only [nw, up2, upd, if_true]; by_cases e : r = 4 <;> simp [e]
  · simp [nw, up2, h]
theorem isl_10 : ∀ k, k < 174 → sh k = 2 → 10 ≤ k := by decide +kernel
theorem nw_ne (F : Nat → Nat → Int32) (j : Nat) {q : Nat} (h : q ≠ 6) : nw F j q = F q := up2_ne F 4 _ h
theorem nw_set (F : Nat → Nat → Int32) (j : Nat) {k : Nat} (hk : k < 174 ∧ sh k = 2) (w : Nat → Int32) (d : Int32) : setL (nw F j) k w d = nw (setL F k w d) j := by
  have h10 := isl_10 k hk.1 hk.2
  funext q r
  by_cases h : q = 6
  · subst h; simp [setL, nw, up2, fillL, show ¬ 6 = k by omega, show ¬ 5 = k by omega, show ¬ k = 5 by omega]
  · by_cases h1 : q = k
    · subst h1; simp [setL, nw, up2, fillL, h]
    · by_cases h2 : q = k + 1
      · subst h2; simp [setL, nw, up2, fillL, h, show ¬ k = 5 by omega]
      · simp [setL, nw, up2, fillL, h, h1, h2]
theorem RE.set {F : Nat → Nat → Int32} {K V : Nat → Int32} {c k : Nat} (h : RE F K V c) (hk : k < 174 ∧ sh k = 2) (w : Nat → Int32) (d : Int32) : RE (setL F k w d) K V c := by
  have h10 := isl_10 k hk.1 hk.2
  refine ⟨?_, ?_, ?_, h.2.2.2⟩
  · rw [setL_ne _ _ _ (by omega) (by omega)]; exact h.1
  · rw [setL_ne _ _ _ (by omega) (by omega)]; exact h.2.1
  · rw [setL_ne _ _ _ (by omega) (by omega)]; exact h.2.2.1
/-- a truth and where it stands now -/
def bZ (x : Bool × Nat) (F : Nat → Nat → Int32) (J : Nat → Int64) : Option Value → Sg → Prop := fun r S2 => (x.1 = true ∧ r = some (.int 1) ∧ S2 = St (nw F x.2) J) ∨ (x.1 = false ∧ r = some (.int 0) ∧ S2 = St (nw F x.2) J)
theorem bZ_y {x : Bool × Nat} {F : Nat → Nat → Int32} {J : Nat → Int64} {j : Nat} (h : x = (true, j)) : bZ x F J (some (.int 1)) (St (nw F j) J) := Or.inl ⟨by rw [h], rfl, by rw [h]⟩
theorem bZ_n {x : Bool × Nat} {F : Nat → Nat → Int32} {J : Nat → Int64} {j : Nat} (h : x = (false, j)) : bZ x F J (some (.int 0)) (St (nw F j) J) := Or.inr ⟨by rw [h], rfl, by rw [h]⟩

set_option maxRecDepth 100000 in
set_option maxHeartbeats 4000000 in
theorem c_take (g : Gl) (l : Launch) (kd : Int32) (F : Nat → Nat → Int32) (J : Nat → Int64) {K V : Nat → Int32} {c j : Nat} (hR : RE F K V c) (hj : j < c) : Ct g l yX3_take cX3_take 2 (some .boolean) 1 0 0 [.ref 3, .int kd] (St (nw F j) J) (bZ (pTok (crF K V) (gn c) kd j) F J) := by
  obtain ⟨hK, hV, hc, hc1, hc4⟩ := hR
  subst hK; subst hV
  refine Ct.of rfl (by decide) rfl (Nat.le_of_ble_eq_true rfl) ?_
  refine g_aload_n 1 dX3_take_0 rfl rfl ?_
  refine gf_3_2 4 dX3_take_1 rfl kf_X3_26 ?_
  refine g_v0 6 7 dX3_take_4 rfl kl_X3_36 mv_X6_kind rfl ⟨Nat.le_of_ble_eq_true rfl, Nat.le_of_ble_eq_true rfl⟩ (Nat.le_of_ble_eq_true rfl) (by first | decide | assumption | exact ⟨Nat.le_of_ble_eq_true rfl, rfl⟩) (c_kind g l (nw F j) J (j := j) rfl (by omega)) ?_
  rintro _ _ ⟨rfl, rfl⟩
  refine g_iload_n 8 dX3_take_7 rfl rfl ?_
  refine g_icmp_eq 13 11 dX3_take_8 rfl (by decide) (fun h8 => ?_) (fun h8 => ?_)
  · refine g_aload_n 14 dX3_take_13 rfl rfl ?_
    refine gf_3_2 17 dX3_take_14 rfl kf_X3_26 ?_
    refine g_v0 6 20 dX3_take_17 rfl kl_X3_55 mv_X6_goOn rfl ⟨Nat.le_of_ble_eq_true rfl, Nat.le_of_ble_eq_true rfl⟩ (Nat.le_of_ble_eq_true rfl) (by first | decide | assumption | exact ⟨Nat.le_of_ble_eq_true rfl, rfl⟩) (c_goOn g l (nw F j) J (j := j) (c := c) rfl hc (by omega) hc1 hc4) ?_
    rintro _ _ ⟨rfl, rfl⟩
    rw [nw_nw]
    refine g_iconst (1) 21 dX3_take_20 rfl (by decide) ?_
    refine g_zret dX3_take_21 (by decide) ?_
    exact bZ_y (by rw [pTok]; exact if_pos h8)
  · refine g_iconst (0) 12 dX3_take_11 rfl (by decide) ?_
    refine g_zret dX3_take_12 (by decide) ?_
    exact bZ_n (by rw [pTok]; exact if_neg h8)

set_option maxRecDepth 100000 in
set_option maxHeartbeats 4000000 in
theorem c_takeNum (g : Gl) (l : Launch) (lo hi : Int32) (F : Nat → Nat → Int32) (J : Nat → Int64) {K V : Nat → Int32} {c j : Nat} (hR : RE F K V c) (hj : j < c) : Ct g l yX3_takeNumberWithin cX3_takeNumberWithin 3 (some .boolean) 1 0 0 [.ref 3, .int lo, .int hi] (St (nw F j) J) (bZ (pNum (crF K V) (gn c) lo hi j) F J) := by
  obtain ⟨hK, hV, hc, hc1, hc4⟩ := hR
  subst hK; subst hV
  refine Ct.of rfl (by decide) rfl (Nat.le_of_ble_eq_true rfl) ?_
  refine g_aload_n 1 dX3_takeNumberWithin_0 rfl rfl ?_
  refine gf_3_2 4 dX3_takeNumberWithin_1 rfl kf_X3_26 ?_
  refine g_v0 6 7 dX3_takeNumberWithin_4 rfl kl_X3_36 mv_X6_kind rfl ⟨Nat.le_of_ble_eq_true rfl, Nat.le_of_ble_eq_true rfl⟩ (Nat.le_of_ble_eq_true rfl) (by first | decide | assumption | exact ⟨Nat.le_of_ble_eq_true rfl, rfl⟩) (c_kind g l (nw F j) J (j := j) rfl (by omega)) ?_
  rintro _ _ ⟨rfl, rfl⟩
  refine g_iconst (2) 8 dX3_takeNumberWithin_7 rfl (by decide) ?_
  refine g_icmp_ne 33 11 dX3_takeNumberWithin_8 rfl (by decide) (fun h8 => ?_) (fun h8 => ?_)
  · refine g_iconst (0) 34 dX3_takeNumberWithin_33 rfl (by decide) ?_
    refine g_zret dX3_takeNumberWithin_34 (by decide) ?_
    exact bZ_n (by rw [pNum]; exact if_neg (fun z => h8 z.1))
  · refine g_aload_n 12 dX3_takeNumberWithin_11 rfl rfl ?_
    refine gf_3_2 15 dX3_takeNumberWithin_12 rfl kf_X3_26 ?_
    refine g_v0 6 18 dX3_takeNumberWithin_15 rfl kl_X3_64 mv_X6_value rfl ⟨Nat.le_of_ble_eq_true rfl, Nat.le_of_ble_eq_true rfl⟩ (Nat.le_of_ble_eq_true rfl) (by first | decide | assumption | exact ⟨Nat.le_of_ble_eq_true rfl, rfl⟩) (c_value g l (nw F j) J (j := j) rfl (by omega)) ?_
    rintro _ _ ⟨rfl, rfl⟩
    refine g_iload_n 19 dX3_takeNumberWithin_18 rfl rfl ?_
    refine g_icmp_lt 33 22 dX3_takeNumberWithin_19 rfl (by decide) (fun h19 => ?_) (fun h19 => ?_)
    · refine g_iconst (0) 34 dX3_takeNumberWithin_33 rfl (by decide) ?_
      refine g_zret dX3_takeNumberWithin_34 (by decide) ?_
      exact bZ_n (by rw [pNum]; exact if_neg (fun z => z.2.1 h19))
    · refine g_aload_n 23 dX3_takeNumberWithin_22 rfl rfl ?_
      refine gf_3_2 26 dX3_takeNumberWithin_23 rfl kf_X3_26 ?_
      refine g_v0 6 29 dX3_takeNumberWithin_26 rfl kl_X3_64 mv_X6_value rfl ⟨Nat.le_of_ble_eq_true rfl, Nat.le_of_ble_eq_true rfl⟩ (Nat.le_of_ble_eq_true rfl) (by first | decide | assumption | exact ⟨Nat.le_of_ble_eq_true rfl, rfl⟩) (c_value g l (nw F j) J (j := j) rfl (by omega)) ?_
      rintro _ _ ⟨rfl, rfl⟩
      refine g_iload_n 30 dX3_takeNumberWithin_29 rfl rfl ?_
      refine g_icmp_le 35 33 dX3_takeNumberWithin_30 rfl (by decide) (fun h30 => ?_) (fun h30 => ?_)
      · refine g_aload_n 36 dX3_takeNumberWithin_35 rfl rfl ?_
        refine gf_3_2 39 dX3_takeNumberWithin_36 rfl kf_X3_26 ?_
        refine g_v0 6 42 dX3_takeNumberWithin_39 rfl kl_X3_55 mv_X6_goOn rfl ⟨Nat.le_of_ble_eq_true rfl, Nat.le_of_ble_eq_true rfl⟩ (Nat.le_of_ble_eq_true rfl) (by first | decide | assumption | exact ⟨Nat.le_of_ble_eq_true rfl, rfl⟩) (c_goOn g l (nw F j) J (j := j) (c := c) rfl hc (by omega) hc1 hc4) ?_
        rintro _ _ ⟨rfl, rfl⟩
        rw [nw_nw]
        refine g_iconst (1) 43 dX3_takeNumberWithin_42 rfl (by decide) ?_
        refine g_zret dX3_takeNumberWithin_43 (by decide) ?_
        exact bZ_y (by rw [pNum]; exact if_pos ⟨h8, h19, h30⟩)
      · refine g_iconst (0) 34 dX3_takeNumberWithin_33 rfl (by decide) ?_
        refine g_zret dX3_takeNumberWithin_34 (by decide) ?_
        exact bZ_n (by rw [pNum]; exact if_neg (fun z => h30 z.2.2))

/-- a truth, where it stands, the weights of line k -/
def tZ (x : Bool × Nat × (Nat → Int32)) (F : Nat → Nat → Int32) (J : Nat → Int64) (k : Nat) (d : Int32) : Option Value → Sg → Prop := fun r S2 => (x.1 = true ∧ r = some (.int 1) ∧ S2 = St (nw (setL F k x.2.2 d) x.2.1) J) ∨ (x.1 = false ∧ r = some (.int 0) ∧ S2 = St (nw (setL F k x.2.2 d) x.2.1) J)
theorem tZ_y {x : Bool × Nat × (Nat → Int32)} {F : Nat → Nat → Int32} {J : Nat → Int64} {k : Nat} {d : Int32} {j : Nat} {w : Nat → Int32} (h : x = (true, j, w)) : tZ x F J k d (some (.int 1)) (St (nw (setL F k w d) j) J) := Or.inl ⟨by rw [h], rfl, by rw [h]⟩
theorem tZ_n {x : Bool × Nat × (Nat → Int32)} {F : Nat → Nat → Int32} {J : Nat → Int64} {k : Nat} {d : Int32} {j : Nat} {w : Nat → Int32} (h : x = (false, j, w)) : tZ x F J k d (some (.int 0)) (St (nw (setL F k w d) j) J) := Or.inr ⟨by rw [h], rfl, by rw [h]⟩
theorem pTok_lt {K V : Nat → Int32} {c j : Nat} (k : Int32) (h : j < c) : (pTok (crF K V) (gn c) k j).2 < c := by
  unfold pTok; split
  · exact gn_lt h
  · exact h
theorem pNum_lt {K V : Nat → Int32} {c j : Nat} (lo hi : Int32) (h : j < c) : (pNum (crF K V) (gn c) lo hi j).2 < c := by
  unfold pNum; split
  · exact gn_lt h
  · exact h
theorem pTm1_lt {K V : Nat → Int32} {c j : Nat} (h : j < c) : (pTm1 (crF K V) (gn c) j).2 < c := by
  unfold pTm1; split
  · exact pNum_lt 1 99 h
  · exact h
theorem pTm2_lt {K V : Nat → Int32} {c j : Nat} {w : Nat → Int32} {x : Int32} (h : j < c) : (pTm2 (crF K V) (gn c) w x j).2.1 < c := by
  unfold pTm2; split
  · exact gn_lt h
  · exact h
theorem pTerm_lt {K V : Nat → Int32} {c j : Nat} {w : Nat → Int32} (h : j < c) : (pTerm (crF K V) (gn c) w j).2.1 < c := by
  unfold pTerm; split
  · exact pTm2_lt (pTok_lt 5 (pTm1_lt h))
  · exact pTm1_lt h
theorem pTerms_lt {K V : Nat → Int32} {c : Nat} : ∀ {n : Nat} {w : Nat → Int32} {j : Nat}, j < c → (pTerms (crF K V) (gn c) n w j).2.1 < c
  | 0, w, j, h => h
  | n + 1, w, j, h => by
    rw [pTerms]; split
    · split
      · exact pTerms_lt (pTok_lt 4 (pTerm_lt h))
      · exact pTok_lt 4 (pTerm_lt h)
    · exact pTerm_lt h
theorem pDeg_lt {K V : Nat → Int32} {c j : Nat} {w : Nat → Int32} (h : j < c) : (pDeg (crF K V) (gn c) w j).2.1 < c := by
  unfold pDeg; split
  · exact pNum_lt 0 999 (pTok_lt 3 h)
  · exact pTok_lt 3 h
theorem pLine_lt {K V : Nat → Int32} {c j : Nat} (h : j < c) : (pLine (crF K V) (gn c) j).2.1 < c := by
  unfold pLine; split
  · exact pDeg_lt (pTerms_lt h)
  · exact pTerms_lt h

set_option maxRecDepth 100000 in
set_option maxHeartbeats 4000000 in
theorem ex_takeTerm (g : Gl) (l : Launch) {k : Nat} (hk : k < 174 ∧ sh k = 2) (w : Nat → Int32) (d : Int32) (F : Nat → Nat → Int32) (J : Nat → Int64) {K V : Nat → Int32} {c j : Nat} (hR : RE F K V c) (hj : j < c) {XX : State → Method → Prop} (i : Nat) (hi : i < c) (wt : Int32) (x3 : Option Value) (he : pTerm (crF K V) (gn c) w j = pTm2 (crF K V) (gn c) w wt i) : Gj g l (rmd 2 0 0) XX (QM g (tZ (pTerm (crF K V) (gn c) w j) F J k d) 0 0) RX3 cX3_takeTerm 4 (some .boolean) 44 [some (.ref 3), some (.ref k), some (.int wt), x3] [] (St (nw (setL F k w d) i) J) 0 0 := by
  obtain ⟨hK, hV, hc, hc1, hc4⟩ := hR.set hk w d
  obtain ⟨hw, hln⟩ := isl_w k hk.1 hk.2
  have h10 := isl_10 k hk.1 hk.2
  have ew : nw (setL F k w d) i (k + 1) = setL F k w d (k + 1) := nw_ne _ _ (by omega)
  refine g_aload_n 45 dX3_takeTerm_44 rfl rfl ?_
  refine gf_3_2 48 dX3_takeTerm_45 rfl kf_X3_26 ?_
  refine g_v0 6 51 dX3_takeTerm_48 rfl kl_X3_64 mv_X6_value rfl ⟨Nat.le_of_ble_eq_true rfl, Nat.le_of_ble_eq_true rfl⟩ (Nat.le_of_ble_eq_true rfl) (by first | decide | assumption | exact ⟨Nat.le_of_ble_eq_true rfl, rfl⟩) (c_value g l (nw (setL F k w d) i) J (j := i) rfl (by omega)) ?_
  rintro _ _ ⟨rfl, rfl⟩
  refine g_istore_n 52 dX3_takeTerm_51 rfl (by decide) ?_
  rw [show (nw (setL F k w d) i) 8 = V from hV]
  refine g_aload_n 53 dX3_takeTerm_52 rfl rfl ?_
  refine gf_3_2 56 dX3_takeTerm_53 rfl kf_X3_26 ?_
  refine g_v0 6 59 dX3_takeTerm_56 rfl kl_X3_36 mv_X6_kind rfl ⟨Nat.le_of_ble_eq_true rfl, Nat.le_of_ble_eq_true rfl⟩ (Nat.le_of_ble_eq_true rfl) (by first | decide | assumption | exact ⟨Nat.le_of_ble_eq_true rfl, rfl⟩) (c_kind g l (nw (setL F k w d) i) J (j := i) rfl (by omega)) ?_
  rintro _ _ ⟨rfl, rfl⟩
  refine g_iconst (1) 60 dX3_takeTerm_59 rfl (by decide) ?_
  rw [show (nw (setL F k w d) i) 7 = K from hK]
  refine g_icmp_ne 82 63 dX3_takeTerm_60 rfl (by decide) (fun h60 => ?_) (fun h60 => ?_)
  · refine g_iconst (0) 83 dX3_takeTerm_82 rfl (by decide) ?_
    refine g_zret dX3_takeTerm_83 (by decide) ?_
    exact tZ_n (by rw [he, pTm2]; exact if_neg (fun z => h60 z.1))
  · refine g_iload_n 64 dX3_takeTerm_63 rfl rfl ?_
    refine g_if_lt 82 67 dX3_takeTerm_64 rfl (by decide) (fun h64 => ?_) (fun h64 => ?_)
    · refine g_iconst (0) 83 dX3_takeTerm_82 rfl (by decide) ?_
      refine g_zret dX3_takeTerm_83 (by decide) ?_
      exact tZ_n (by rw [he, pTm2]; exact if_neg (fun z => z.2.1 h64))
    · refine g_iload_n 68 dX3_takeTerm_67 rfl rfl ?_
      refine g_bipush (6) 70 dX3_takeTerm_68 rfl (by decide) ?_
      refine g_icmp_ge 82 73 dX3_takeTerm_70 rfl (by decide) (fun h70 => ?_) (fun h70 => ?_)
      · refine g_iconst (0) 83 dX3_takeTerm_82 rfl (by decide) ?_
        refine g_zret dX3_takeTerm_83 (by decide) ?_
        exact tZ_n (by rw [he, pTm2]; exact if_neg (fun z => z.2.2.1 h70))
      · obtain ⟨a, ha, hai⟩ : ∃ a : Nat, a < 6 ∧ V i = nI a := by
          obtain ⟨a, ha, e⟩ := nI_of h64
          refine ⟨a, ?_, e⟩
          rcases Nat.lt_or_ge a 6 with q | q
          · exact q
          · rw [e] at h70; exact absurd (nI_le (a := 6) (b := a) q (by omega)) h70
        have hcl : (V i).toNatClampNeg = a := by rw [hai]; exact nI_clamp (by omega)
        refine g_aload_n 74 dX3_takeTerm_73 rfl rfl ?_
        refine gf_2_0 77 dX3_takeTerm_74 rfl kf_X3_75 (by first | decide | assumption | exact ⟨Nat.le_of_ble_eq_true rfl, rfl⟩) ?_
        refine g_iload_n 78 dX3_takeTerm_77 rfl rfl ?_
        refine ga_ild (a) 79 dX3_takeTerm_78 rfl (by first | decide | assumption | exact ⟨Nat.le_of_ble_eq_true rfl, rfl⟩) hai (by rw [hln]; exact ha) ?_
        rw [ew, setL_w _ _ _ _ ha]
        refine g_if_eq 84 82 dX3_takeTerm_79 rfl (by decide) (fun h79 => ?_) (fun h79 => ?_)
        · refine g_aload_n 85 dX3_takeTerm_84 rfl rfl ?_
          refine gf_2_0 88 dX3_takeTerm_85 rfl kf_X3_75 (by first | decide | assumption | exact ⟨Nat.le_of_ble_eq_true rfl, rfl⟩) ?_
          refine g_iload_n 89 dX3_takeTerm_88 rfl rfl ?_
          refine g_iload_n 90 dX3_takeTerm_89 rfl rfl ?_
          refine ga_ist (a) 91 dX3_takeTerm_90 rfl (by first | decide | assumption | exact ⟨Nat.le_of_ble_eq_true rfl, rfl⟩) hai (by rw [hln]; exact ha) ?_
          rw [show up2 (nw (setL F k w d) i) (k + 1) a wt = nw (setL F k (upd w a wt) d) i by rw [← nw_set F i hk, setL_upw _ _ _ _ _ ha, nw_set F i hk]]
          refine g_aload_n 92 dX3_takeTerm_91 rfl rfl ?_
          refine gf_3_2 95 dX3_takeTerm_92 rfl kf_X3_26 ?_
          refine g_v0 6 98 dX3_takeTerm_95 rfl kl_X3_55 mv_X6_goOn rfl ⟨Nat.le_of_ble_eq_true rfl, Nat.le_of_ble_eq_true rfl⟩ (Nat.le_of_ble_eq_true rfl) (by first | decide | assumption | exact ⟨Nat.le_of_ble_eq_true rfl, rfl⟩) (c_goOn g l _ J (j := i) (c := c) rfl (by show setL F k _ d 6 3 = _; rw [setL_ne _ _ _ (by omega) (by omega)]; exact hR.2.2.1) (by omega) hc1 hc4) ?_
          rintro _ _ ⟨rfl, rfl⟩
          refine g_iconst (1) 99 dX3_takeTerm_98 rfl (by decide) ?_
          refine g_zret dX3_takeTerm_99 (by decide) ?_
          rw [nw_nw]
          exact tZ_y (by rw [he, pTm2, if_pos ⟨h60, h64, h70, by rw [show (crF K V i).2.toNatClampNeg = a from hcl]; exact h79⟩, show (crF K V i).2.toNatClampNeg = a from hcl]; rfl)
        · refine g_iconst (0) 83 dX3_takeTerm_82 rfl (by decide) ?_
          refine g_zret dX3_takeTerm_83 (by decide) ?_
          exact tZ_n (by rw [he, pTm2]; exact if_neg (fun z => h79 (by have := z.2.2.2; rw [show (crF K V i).2.toNatClampNeg = a from hcl] at this; exact this)))

set_option maxRecDepth 100000 in
set_option maxHeartbeats 4000000 in
theorem md_takeTerm (g : Gl) (l : Launch) {k : Nat} (hk : k < 174 ∧ sh k = 2) (w : Nat → Int32) (d : Int32) (F : Nat → Nat → Int32) (J : Nat → Int64) {K V : Nat → Int32} {c j : Nat} (hR : RE F K V c) (hj : j < c) {XX : State → Method → Prop} (i : Nat) (hi : i < c) (wt : Int32) (x3 : Option Value) (he : pTerm (crF K V) (gn c) w j = pTm2 (crF K V) (gn c) w (if (pTok (crF K V) (gn c) 5 i).1 = true then -wt else wt) (pTok (crF K V) (gn c) 5 i).2) : Gj g l (rmd 2 0 0) XX (QM g (tZ (pTerm (crF K V) (gn c) w j) F J k d) 0 0) RX3 cX3_takeTerm 4 (some .boolean) 33 [some (.ref 3), some (.ref k), some (.int wt), x3] [] (St (nw (setL F k w d) i) J) 0 0 := by
  have hR2 := hR.set hk w d
  have hi2 := pTok_lt (K := K) (V := V) (c := c) 5 hi
  refine g_aload_n 34 dX3_takeTerm_33 rfl rfl ?_
  refine g_iconst (5) 35 dX3_takeTerm_34 rfl (by decide) ?_
  refine g_v1 3 38 dX3_takeTerm_35 rfl kl_X3_44 mv_X3_take rfl ⟨Nat.le_of_ble_eq_true rfl, Nat.le_of_ble_eq_true rfl⟩ (Nat.le_of_ble_eq_true rfl) (by first | decide | assumption | exact ⟨Nat.le_of_ble_eq_true rfl, rfl⟩) (c_take g l 5 (setL F k w d) J hR2 hi) ?_
  rintro r S2 (⟨q, rfl, rfl⟩ | ⟨q, rfl, rfl⟩)
  · refine g_if_eq 44 41 dX3_takeTerm_38 rfl (by decide) (fun h38 => ?_) (fun h38 => ?_)
    · exact absurd h38 (by decide)
    · refine g_iload_n 42 dX3_takeTerm_41 rfl rfl ?_
      refine g_ineg 43 dX3_takeTerm_42 rfl ?_
      refine g_istore_n 44 dX3_takeTerm_43 rfl (by decide) ?_
      exact ex_takeTerm g l hk w d F J hR hj _ hi2 _ _ (by rw [he, if_pos q])
  · refine g_if_eq 44 41 dX3_takeTerm_38 rfl (by decide) (fun h38 => ?_) (fun h38 => ?_)
    · exact ex_takeTerm g l hk w d F J hR hj _ hi2 _ _ (by rw [he, if_neg (by rw [q]; decide)])
    · exact absurd h38 (by decide)

set_option maxRecDepth 100000 in
set_option maxHeartbeats 4000000 in
theorem c_takeTerm (g : Gl) (l : Launch) {k : Nat} (hk : k < 174 ∧ sh k = 2) (w : Nat → Int32) (d : Int32) (F : Nat → Nat → Int32) (J : Nat → Int64) {K V : Nat → Int32} {c j : Nat} (hR : RE F K V c) (hj : j < c) : Ct g l yX3_takeTerm cX3_takeTerm 4 (some .boolean) 2 0 0 [.ref 3, .ref k] (St (nw (setL F k w d) j) J) (tZ (pTerm (crF K V) (gn c) w j) F J k d) := by
  have hR2 := hR.set hk w d
  obtain ⟨hK, hV, hc, hc1, hc4⟩ := id hR2
  refine Ct.of rfl (by decide) rfl (Nat.le_of_ble_eq_true rfl) ?_
  refine g_iconst (1) 1 dX3_takeTerm_0 rfl (by decide) ?_
  refine g_istore_n 2 dX3_takeTerm_1 rfl (by decide) ?_
  refine g_aload_n 3 dX3_takeTerm_2 rfl rfl ?_
  refine gf_3_2 6 dX3_takeTerm_3 rfl kf_X3_26 ?_
  refine g_v0 6 9 dX3_takeTerm_6 rfl kl_X3_36 mv_X6_kind rfl ⟨Nat.le_of_ble_eq_true rfl, Nat.le_of_ble_eq_true rfl⟩ (Nat.le_of_ble_eq_true rfl) (by first | decide | assumption | exact ⟨Nat.le_of_ble_eq_true rfl, rfl⟩) (c_kind g l (nw (setL F k w d) j) J (j := j) rfl (by omega)) ?_
  rintro _ _ ⟨rfl, rfl⟩
  refine g_iconst (2) 10 dX3_takeTerm_9 rfl (by decide) ?_
  rw [show (nw (setL F k w d) j) 7 = K from hK]
  refine g_icmp_ne 33 13 dX3_takeTerm_10 rfl (by decide) (fun h10 => ?_) (fun h10 => ?_)
  · have e1 : pTm1 (crF K V) (gn c) j = (true, j) := if_neg h10
    exact md_takeTerm g l hk w d F J hR hj j hj 1 _ (by rw [pTerm, e1, if_pos rfl, pTmW, if_neg (show ¬ (crF K V j).1 = 2 from h10)])
  · refine g_aload_n 14 dX3_takeTerm_13 rfl rfl ?_
    refine gf_3_2 17 dX3_takeTerm_14 rfl kf_X3_26 ?_
    refine g_v0 6 20 dX3_takeTerm_17 rfl kl_X3_64 mv_X6_value rfl ⟨Nat.le_of_ble_eq_true rfl, Nat.le_of_ble_eq_true rfl⟩ (Nat.le_of_ble_eq_true rfl) (by first | decide | assumption | exact ⟨Nat.le_of_ble_eq_true rfl, rfl⟩) (c_value g l (nw (setL F k w d) j) J (j := j) rfl (by omega)) ?_
    rintro _ _ ⟨rfl, rfl⟩
    rw [show (nw (setL F k w d) j) 8 = V from hV]
    refine g_istore_n 21 dX3_takeTerm_20 rfl (by decide) ?_
    refine g_aload_n 22 dX3_takeTerm_21 rfl rfl ?_
    refine g_iconst (1) 23 dX3_takeTerm_22 rfl (by decide) ?_
    refine g_bipush (99) 25 dX3_takeTerm_23 rfl (by decide) ?_
    refine g_v2 3 28 dX3_takeTerm_25 rfl kl_X3_71 mv_X3_takeNumberWithin rfl ⟨Nat.le_of_ble_eq_true rfl, Nat.le_of_ble_eq_true rfl⟩ (Nat.le_of_ble_eq_true rfl) (by first | decide | assumption | exact ⟨Nat.le_of_ble_eq_true rfl, rfl⟩) (c_takeNum g l 1 99 (setL F k w d) J hR2 hj) ?_
    rintro r S2 (⟨q, rfl, rfl⟩ | ⟨q, rfl, rfl⟩)
    · refine g_if_ne 33 31 dX3_takeTerm_28 rfl (by decide) (fun h28 => ?_) (fun h28 => ?_)
      · have e1 : pTm1 (crF K V) (gn c) j = pNum (crF K V) (gn c) 1 99 j := if_pos h10
        exact md_takeTerm g l hk w d F J hR hj _ (pNum_lt 1 99 hj) _ _ (by rw [pTerm, e1, if_pos q, pTmW, if_pos (show (crF K V j).1 = 2 from h10)]; rfl)
      · exact absurd h28 (by decide)
    · refine g_if_ne 33 31 dX3_takeTerm_28 rfl (by decide) (fun h28 => ?_) (fun h28 => ?_)
      · exact absurd h28 (by decide)
      · refine g_iconst (0) 32 dX3_takeTerm_31 rfl (by decide) ?_
        refine g_zret dX3_takeTerm_32 (by decide) ?_
        have e1 : pTm1 (crF K V) (gn c) j = pNum (crF K V) (gn c) 1 99 j := if_pos h10
        exact tZ_n (by rw [pTerm, e1, if_neg (by rw [q]; decide)])

