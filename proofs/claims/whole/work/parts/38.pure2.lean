/-! what class and reference compute is the same (2): what is read is in its bounds; one step -/
theorem pk99 {x : Int32} {lo hi : Int32} (h : ¬ x < lo ∧ x ≤ hi) : lo.toInt ≤ x.toInt ∧ x.toInt ≤ hi.toInt := ⟨Int32.le_iff_toInt_le.mp (Int32.not_lt.mp h.1), Int32.le_iff_toInt_le.mp h.2⟩
theorem pTmW_in {K V : Nat → Int32} {c j : Nat} (h : (pTm1 (crF K V) (gn c) j).1 = true) : 1 ≤ (pTmW (crF K V) j).toInt ∧ (pTmW (crF K V) j).toInt ≤ 99 := by
  unfold pTm1 at h; unfold pTmW
  by_cases q : (crF K V j).1 = 2
  · rw [if_pos q] at h ⊢; exact pk99 (pNum_y h)
  · rw [if_neg q]; decide
theorem pTerm_in {K V : Nat → Int32} {c : Nat} {w : Nat → Int32} {j : Nat} (hw : ∀ b, b < 6 → bz 99 (w b)) : ∀ b, b < 6 → bz 99 ((pTerm (crF K V) (gn c) w j).2.2 b) := by
  unfold pTerm
  by_cases h : (pTm1 (crF K V) (gn c) j).1 = true
  · rw [if_pos h]
    have hi := pTmW_in h
    have hz : bz 99 (if (pTok (crF K V) (gn c) 5 (pTm1 (crF K V) (gn c) j).2).1 = true then -(pTmW (crF K V) j) else pTmW (crF K V) j) := by
      split
      · unfold bz; rw [neg_in2 ⟨by omega, by omega⟩]; omega
      · unfold bz; omega
    generalize (if (pTok (crF K V) (gn c) 5 (pTm1 (crF K V) (gn c) j).2).1 = true then -(pTmW (crF K V) j) else pTmW (crF K V) j) = z at hz ⊢
    unfold pTm2
    split
    · intro b hb
      show bz 99 (upd w _ z b)
      simp only [upd]; split
      · exact hz
      · exact hw b hb
    · exact hw
  · rw [if_neg h]; exact hw
theorem pTerms_in {K V : Nat → Int32} {c : Nat} : ∀ (n : Nat) {w : Nat → Int32} {j : Nat}, (∀ b, b < 6 → bz 99 (w b)) → ∀ b, b < 6 → bz 99 ((pTerms (crF K V) (gn c) n w j).2.2 b)
  | 0, w, j, hw => hw
  | n + 1, w, j, hw => by
    have h1 := pTerm_in (K := K) (V := V) (c := c) (j := j) hw
    rw [pTerms]
    by_cases h : (pTerm (crF K V) (gn c) w j).1 = true
    · rw [if_pos h]
      split
      · exact pTerms_in n h1
      · exact h1
    · rw [if_neg h]; exact h1
/-- a line that was read is in its bounds -/
theorem pLine_in {K V : Nat → Int32} {c j : Nat} (h : (pLine (crF K V) (gn c) j).1 = true) : (∀ b, b < 6 → bz 99 ((pLine (crF K V) (gn c) j).2.2.1 b)) ∧ 0 ≤ (pLine (crF K V) (gn c) j).2.2.2.toInt ∧ (pLine (crF K V) (gn c) j).2.2.2.toInt ≤ 999 := by
  unfold pLine at h ⊢
  by_cases q : (pTerms (crF K V) (gn c) 7 (fun _ => 0) j).1 = true
  · rw [if_pos q] at h ⊢
    have ht := pTerms_in (K := K) (V := V) (c := c) (j := j) 7 (w := fun _ => 0) (fun _ _ => ⟨by decide, by decide⟩)
    unfold pDeg at h ⊢
    by_cases r : (pTok (crF K V) (gn c) 3 (pTerms (crF K V) (gn c) 7 (fun _ => 0) j).2.1).1 = true
    · rw [if_pos r] at h ⊢; exact ⟨ht, pk99 (pNum_y h)⟩
    · rw [if_neg r] at h; exact absurd h Bool.false_ne_true
  · rw [if_neg q] at h; exact absurd h Bool.false_ne_true
theorem in_bL {w : Nat → Int32} {d : Int32} (h : (∀ b, b < 6 → bz 99 (w b)) ∧ 0 ≤ d.toInt ∧ d.toInt ≤ 999) : bL w d := ⟨fun j hj => bz_m (by decide) (h.1 j hj), h.2.1, by have := h.2.2; omega⟩
theorem gv_in {K V : Nat → Int32} {c : Nat} : ∀ (n i s : Nat) (L : LL), (∀ j, j < i → bL (L j).1 (L j).2) → ∀ j, j < (gvR (crF K V) (gn c) n i s L).2.1 → bL ((gvR (crF K V) (gn c) n i s L).2.2.2 j).1 ((gvR (crF K V) (gn c) n i s L).2.2.2 j).2
  | 0, i, s, L, h => h
  | n + 1, i, s, L, h => by
    rw [gvR]
    by_cases h0 : ((crF K V) s).1 = 0
    · rw [if_pos h0]; exact h
    · rw [if_neg h0]
      by_cases h1 : (pLine (crF K V) (gn c) s).1 = true
      · rw [if_pos h1]
        by_cases h2 : (pTok (crF K V) (gn c) 6 (pLine (crF K V) (gn c) s).2.1).1 = true
        · rw [if_pos h2]
          refine gv_in n (i + 1) _ _ (fun j hj => ?_)
          by_cases e : j = i
          · subst e; simp only [va_up, if_pos]; exact in_bL (pLine_in h1)
          · simp only [va_up, if_neg e]; exact h j (by omega)
        · rw [if_neg h2]; exact h
      · rw [if_neg h1]; exact h
theorem wfN_step {K V : Nat → Int32} {c G i s : Nat} (Q0 : Nat → P5) (h : (pSt (crF K V) (gn c) (nI G) Q0 i s).1 = true) : wfN (pRc (crF K V) (gn c) (nI G) Q0 i s) := by
  have h7 : (pTok (crF K V) (gn c) 7 s).1 = true := by
    unfold pSt pStep at h
    by_cases q : (pTok (crF K V) (gn c) 7 s).1 = true
    · exact q
    · rw [if_neg q] at h; exact absurd h Bool.false_ne_true
  have ep : pSt (crF K V) (gn c) (nI G) Q0 i s = pArg (crF K V) (gn c) (V s) (nI G + nI i) (pTok (crF K V) (gn c) 7 s).2 (Q0 i).2.1 (Q0 i).2.2.1 (Q0 i).2.2.2.1 (Q0 i).2.2.2.2 := by unfold pSt pStep; rw [if_pos h7]; rfl
  unfold wfN pRc
  rw [ep] at h ⊢
  show (V s = 2 → _) ∧ (V s = 3 → _) ∧ (V s = 8 → _)
  dsimp only
  generalize (pTok (crF K V) (gn c) 7 s).2 = j at h ⊢
  refine ⟨fun z => ?_, fun z => ?_, fun z => ?_⟩
  · rw [z] at h ⊢
    unfold pArg at h ⊢
    rw [if_neg (by decide), if_neg (by decide), if_neg (by decide)] at h ⊢
    by_cases hp : (pNum (crF K V) (gn c) 0 (nI G + nI i - 1) j).1 = true
    · rw [if_pos hp] at h ⊢
      unfold pSec at h
      rw [if_neg (by decide), if_neg (by decide), if_pos rfl] at h
      exact pk99 (pNum_y h)
    · rw [if_neg hp] at h; exact absurd h Bool.false_ne_true
  · rw [z] at h ⊢
    unfold pArg at h ⊢
    rw [if_neg (by decide), if_neg (by decide), if_neg (by decide)] at h ⊢
    by_cases hp : (pNum (crF K V) (gn c) 0 (nI G + nI i - 1) j).1 = true
    · rw [if_pos hp] at h ⊢
      unfold pSec at h
      rw [if_neg (by decide), if_neg (by decide), if_neg (by decide)] at h
      exact pk99 (pNum_y h)
    · rw [if_neg hp] at h; exact absurd h Bool.false_ne_true
  · rw [z] at h ⊢
    unfold pArg at h ⊢
    rw [if_pos rfl] at h ⊢
    exact pLine_in h
theorem wfN_all {K V : Nat → Int32} {c G : Nat} (Q0 : Nat → P5) : ∀ (n i s : Nat) (Q : Nat → P5), (∀ j, j < i → wfN (Q j)) → ∀ j, j < (prR (crF K V) (gn c) (nI G) Q0 n i s Q).2.1 → wfN ((prR (crF K V) (gn c) (nI G) Q0 n i s Q).2.2.2 j)
  | 0, i, s, Q, h => h
  | n + 1, i, s, Q, h => by
    rw [prR]
    by_cases h0 : ((crF K V) s).1 = 0
    · rw [if_pos h0]; exact h
    · rw [if_neg h0]
      by_cases h1 : (pSt (crF K V) (gn c) (nI G) Q0 i s).1 = true
      · rw [if_pos h1]
        by_cases h2 : (pTok (crF K V) (gn c) 6 (pSt (crF K V) (gn c) (nI G) Q0 i s).2.1).1 = true
        · rw [if_pos h2]
          refine wfN_all Q0 n (i + 1) _ _ (fun j hj => ?_)
          by_cases e : j = i
          · subst e; simp only [va_up, if_pos]; exact wfN_step Q0 h1
          · simp only [va_up, if_neg e]; exact h j (by omega)
        · rw [if_neg h2]; exact h
      · rw [if_neg h1]; exact h
theorem pr_n {K V : Nat → Int32} {c G : Nat} (Q0 : Nat → P5) : ∀ (n i s : Nat) (Q : Nat → P5), i + n ≤ 24 → (prR (crF K V) (gn c) (nI G) Q0 n i s Q).2.1 ≤ 24
  | 0, i, s, Q, h => h
  | n + 1, i, s, Q, h => by
    rw [prR]
    by_cases h0 : ((crF K V) s).1 = 0
    · rw [if_pos h0]; show i ≤ 24; omega
    · rw [if_neg h0]
      by_cases h1 : (pSt (crF K V) (gn c) (nI G) Q0 i s).1 = true
      · rw [if_pos h1]
        by_cases h2 : (pTok (crF K V) (gn c) 6 (pSt (crF K V) (gn c) (nI G) Q0 i s).2.1).1 = true
        · rw [if_pos h2]; exact pr_n Q0 n (i + 1) _ _ (by omega)
        · rw [if_neg h2]; show i ≤ 24; omega
      · rw [if_neg h1]; show i ≤ 24; omega
theorem gv_n {K V : Nat → Int32} {c : Nat} : ∀ (n i s : Nat) (L : LL), i + n ≤ 8 → (gvR (crF K V) (gn c) n i s L).2.1 ≤ 8
  | 0, i, s, L, h => h
  | n + 1, i, s, L, h => by
    rw [gvR]
    by_cases h0 : ((crF K V) s).1 = 0
    · rw [if_pos h0]; show i ≤ 8; omega
    · rw [if_neg h0]
      by_cases h1 : (pLine (crF K V) (gn c) s).1 = true
      · rw [if_pos h1]
        by_cases h2 : (pTok (crF K V) (gn c) 6 (pLine (crF K V) (gn c) s).2.1).1 = true
        · rw [if_pos h2]; exact gv_n n (i + 1) _ _ (by omega)
        · rw [if_neg h2]; show i ≤ 8; omega
      · rw [if_neg h1]; show i ≤ 8; omega
/-! one step -/
def AG (F W : Nat → Nat → Int32) (D : Nat → Int32) (m : Nat) : Prop := ∀ i, i < m → (∀ j, j < 6 → Wm F i j = W i j) ∧ Dm F i = D i
def BB (W : Nat → Nat → Int32) (D : Nat → Int32) (m : Nat) : Prop := ∀ i, i < m → bL (W i) (D i)
theorem AG_b {F W : Nat → Nat → Int32} {D : Nat → Int32} {m : Nat} (h : AG F W D m) (hb : BB W D m) : ∀ i, i < m → bL (Wm F i) (Dm F i) := fun i hi => by
  rw [(h i hi).2]; exact bL_c (fun j hj => ((h i hi).1 j hj).symm) (hb i hi)
theorem st_kd {m : Nat} {q : P5} (h : wfS m q) : ∃ kd, kd < 8 ∧ q.1 = nI (kd + 1) := by
  by_cases h6 : q.1 = 6
  · exact ⟨5, by decide, h6⟩
  by_cases h7 : q.1 = 7
  · exact ⟨6, by decide, h7⟩
  by_cases h8 : q.1 = 8
  · exact ⟨7, by decide, h8⟩
  rcases (h.1 h6 h7 h8).1 with z | z | z | z | z
  · exact ⟨0, by decide, z⟩
  · exact ⟨1, by decide, z⟩
  · exact ⟨2, by decide, z⟩
  · exact ⟨3, by decide, z⟩
  · exact ⟨4, by decide, z⟩
theorem kdn {kd : Nat} (h : kd < 8) (k : Nat) (hk : k < 9) : (nI (kd + 1) = nI k) ↔ kd + 1 = k := nI_eq (by omega) (by omega)
theorem cl_nI {n : Nat} (h : n < 1000) : (nI n).toNatClampNeg = n := by
  show (nI n).toInt.toNat = n
  rw [nI_toInt (by omega)]; rfl
theorem st_okD {F : Nat → Nat → Int32} {m s : Nat} {q : P5} (hm : m < 1000) (hw : wfS m q) (hn : wfN q) (hs : stR F s q) {kd : Nat} (hk : kd < 8) (hq : q.1 = nI (kd + 1)) : okD F m s kd q.2.1.toNatClampNeg := by
  obtain ⟨s0, s1, s2, s3⟩ := hs
  obtain ⟨w1, w2, w3⟩ := hw
  obtain ⟨n1, n2, n3⟩ := hn
  have K := kdn hk
  have e : ∀ k : Nat, k < 9 → (q.1 = nI k ↔ kd + 1 = k) := fun k h => by rw [hq]; exact K k h
  have E : ∀ (k : Nat) (h : k < 9), kd + 1 = k → q.1 = nI k := fun k h z => (e k h).mpr z
  refine ⟨hk, ?_, fun h5 => ?_, fun h0 => ?_, fun h2 => ?_, fun h4 => ?_⟩
  · have z : F 171 (10 * s) + 1 = nI kd + 1 := by
      have : F 171 (10 * s + 0) + 1 = nI (kd + 1) := by rw [s0, hq]
      rw [nI_1]; exact this
    have : F 171 (10 * s) + 1 - 1 = nI kd + 1 - 1 := by rw [z]
    rwa [Int32.add_sub_cancel, Int32.add_sub_cancel] at this
  · have z6 : ¬ q.1 = 6 := fun z => by have := (e 6 (by decide)).mp z; omega
    have z7 : ¬ q.1 = 7 := fun z => by have := (e 7 (by decide)).mp z; omega
    have z8 : ¬ q.1 = 8 := fun z => by have := (e 8 (by decide)).mp z; omega
    obtain ⟨hor, f, hf, ef⟩ := w1 z6 z7 z8
    rw [ef, cl_nI (by omega)]
    exact ⟨hf, by rw [← ef]; exact s1 hor⟩
  · have z1 : q.1 = 1 := E 1 (by decide) (by omega)
    obtain ⟨f, hf, ef⟩ := w2 z1
    exact ⟨f, hf, by rw [← ef]; exact s2 (Or.inl z1)⟩
  · have z3 : q.1 = 3 := E 3 (by decide) (by omega)
    have e2 := s2 (Or.inr (Or.inr (Or.inl z3)))
    rw [e2]
    intro z
    have := (n2 z3).1
    rw [z] at this
    exact absurd this (by decide)
  · have z5 : q.1 = 5 ∨ q.1 = 6 ∨ q.1 = 7 := by
      rcases h4 with h | h | h
      · exact Or.inl (E 5 (by decide) (by omega))
      · exact Or.inr (Or.inl (E 6 (by decide) (by omega)))
      · exact Or.inr (Or.inr (E 7 (by decide) (by omega)))
    obtain ⟨a, ha, ea⟩ := w3 z5
    refine ⟨a, ha, ?_⟩
    rw [← ea]
    refine s2 ?_
    rcases z5 with h | h | h
    · exact Or.inr (Or.inr (Or.inr (Or.inl h)))
    · exact Or.inr (Or.inr (Or.inr (Or.inr (Or.inl h))))
    · exact Or.inr (Or.inr (Or.inr (Or.inr (Or.inr h))))
/-- the row that the reference makes, and the line of the class -/
theorem st_row {F W : Nat → Nat → Int32} {D : Nat → Int32} {m s : Nat} {q : P5} (hm : m < 1000) (hA : AG F W D m) (hB : BB W D m) (hw : wfS m q) (hn : wfN q) (hs : stR F s q) {kd : Nat} (hk : kd < 7) (hq : q.1 = nI (kd + 1)) : rowE (doV F kd q.2.1.toNatClampNeg (F 171 (10 * s + 2)) s) (opL W D q.1 q.2.1.toNatClampNeg q.2.2.1).1 (opL W D q.1 q.2.1.toNatClampNeg q.2.2.1).2 ∧ (∀ j, j < 6 → bz 1000000 ((opL W D q.1 q.2.1.toNatClampNeg q.2.2.1).1 j)) ∧ 0 ≤ (opL W D q.1 q.2.1.toNatClampNeg q.2.2.1).2.toInt := by
  obtain ⟨o1, o2, o3, o4, o5, o6⟩ := st_okD hm hw hn hs (show kd < 8 by omega) hq
  obtain ⟨s0, s1, s2, s3⟩ := hs
  obtain ⟨n1, n2, n3⟩ := hn
  have e : ∀ k : Nat, k < 9 → (q.1 = nI k ↔ kd + 1 = k) := fun k h => by rw [hq]; exact kdn (by omega) k h
  have hf : kd + 1 ≤ 5 → q.2.1.toNatClampNeg < m := fun h => (o3 (by omega)).1
  have en : ¬ kd = 3 → F 171 (10 * s + 2) = q.2.2.1 := fun h => by
    refine s2 ?_
    rcases (show kd = 0 ∨ kd = 1 ∨ kd = 2 ∨ kd = 4 ∨ kd = 5 ∨ kd = 6 by omega) with z | z | z | z | z | z
    · exact Or.inl ((e 1 (by decide)).mpr (by omega))
    · exact Or.inr (Or.inl ((e 2 (by decide)).mpr (by omega)))
    · exact Or.inr (Or.inr (Or.inl ((e 3 (by decide)).mpr (by omega))))
    · exact Or.inr (Or.inr (Or.inr (Or.inl ((e 5 (by decide)).mpr (by omega)))))
    · exact Or.inr (Or.inr (Or.inr (Or.inr (Or.inl ((e 6 (by decide)).mpr (by omega))))))
    · exact Or.inr (Or.inr (Or.inr (Or.inr (Or.inr ((e 7 (by decide)).mpr (by omega))))))
  have eo : opL W D q.1 q.2.1.toNatClampNeg q.2.2.1 = opL W D (nI (kd + 1)) q.2.1.toNatClampNeg (F 171 (10 * s + 2)) := by
    rw [hq]
    by_cases z : kd = 3
    · subst z
      exact (op_4 W D _ _).trans (op_4 W D _ _).symm
    · rw [en z]
  rw [eo]
  generalize F 171 (10 * s + 2) = n at *
  generalize q.2.1.toNatClampNeg = f at *
  have hb := AG_b hA hB
  have h1 : kd + 1 = 1 → n.toNatClampNeg < m := fun h => by
    obtain ⟨x, hx, ex⟩ := o4 (by omega)
    rw [ex, cl_nI (by omega)]; exact hx
  have h5 : kd + 1 = 5 ∨ kd + 1 = 6 ∨ kd + 1 = 7 → n.toNatClampNeg < 6 := fun h => by
    obtain ⟨x, hx, ex⟩ := o6 (by omega)
    rw [ex, cl_nI (by omega)]; exact hx
  have h2 : kd + 1 = 2 → 1 ≤ n.toInt ∧ n.toInt ≤ 99 := fun h => by rw [en (by omega)]; exact n1 ((e 2 (by decide)).mpr h)
  have h3 : kd + 1 = 3 → 2 ≤ n.toInt ∧ n.toInt ≤ 99 := fun h => by rw [en (by omega)]; exact n2 ((e 3 (by decide)).mpr h)
  have d := do_op (F := F) (m := m) (kd := kd + 1) (f := f) (s := s) (n := n) (by omega) (by omega) hb hf (fun h => by have := (h3 h).1; omega) h5
  have c := op_c (W := Wm F) (V := W) (D := Dm F) (E := D) (m := m) (kd := kd + 1) (f := f) (n := n) (by omega) (by omega) hA hf h1 (fun h => h5 (Or.inl h))
  have i := op_in (W := W) (D := D) (m := m) (kd := kd + 1) (f := f) (n := n) (by omega) (by omega) hB hf h1 (fun h => h5 (Or.inl h)) h2 h3
  refine ⟨⟨fun j hj => (d.1 j hj).trans (c.1 j hj), d.2.trans c.2⟩, i⟩
theorem lnW {F : Nat → Nat → Int32} {m : Nat} (u : Nat → Int32) {i : Nat} (hi : i < m) {j : Nat} (hj : j < 7) : lnF F m u 169 (7 * i + j) = F 169 (7 * i + j) := lnF_out F u hi hj
theorem upW_at (W : Nat → Nat → Int32) (m : Nat) (w : Nat → Int32) {j : Nat} (hj : j < 6) : upW W m w m j = w j := by simp only [upW, if_true, if_pos hj]
theorem upW_ne (W : Nat → Nat → Int32) {m i : Nat} (w : Nat → Int32) (h : ¬ i = m) : upW W m w i = W i := by simp only [upW, if_neg h]
theorem AG_ln {F W : Nat → Nat → Int32} {D : Nat → Int32} {m : Nat} {u w : Nat → Int32} {d : Int32} (hA : AG F W D m) (hr : rowE u w d) : AG (lnF F m u) (upW W m w) (va_up D m d) (m + 1) := by
  intro i hi
  by_cases e : i = m
  · subst e
    refine ⟨fun j hj => ?_, ?_⟩
    · rw [upW_at _ _ _ hj, Wm, lnF_in _ _ _ (by omega)]; exact hr.1 j hj
    · rw [Dm, lnF_in _ _ _ (by decide)]; simp only [va_up, if_true]; exact hr.2
  · obtain ⟨a1, a2⟩ := hA i (by omega)
    refine ⟨fun j hj => ?_, ?_⟩
    · rw [upW_ne _ _ e, Wm, lnF_out _ _ (by omega) (by omega)]; exact a1 j hj
    · rw [Dm, lnF_out _ _ (by omega) (by decide)]; simp only [va_up, if_neg e]; exact a2
theorem BB_up {W : Nat → Nat → Int32} {D : Nat → Int32} {m : Nat} {w : Nat → Int32} {d : Int32} (hB : BB W D m) (hb : bL w d) : BB (upW W m w) (va_up D m d) (m + 1) := by
  intro i hi
  by_cases e : i = m
  · subst e
    have : va_up D i d i = d := by simp only [va_up, if_true]
    rw [this]
    exact bL_c (fun j hj => (upW_at _ _ _ hj).symm) hb
  · have : va_up D m d i = D i := by simp only [va_up, if_neg e]
    rw [this, upW_ne _ _ e]; exact hB i (by omega)
theorem AG_up {F W : Nat → Nat → Int32} {D : Nat → Int32} {m : Nat} (w : Nat → Int32) (d : Int32) (h : AG F W D m) : AG F (upW W m w) (va_up D m d) m := fun i hi => by
  have e : ¬ i = m := by omega
  rw [upW_ne _ _ e]; simp only [va_up, if_neg e]; exact h i hi
theorem BB_k {W : Nat → Nat → Int32} {D : Nat → Int32} {m : Nat} (w : Nat → Int32) (d : Int32) (h : BB W D m) : BB (upW W m w) (va_up D m d) m := fun i hi => by
  have e : ¬ i = m := by omega
  rw [upW_ne _ _ e]; simp only [va_up, if_neg e]; exact h i hi
theorem upW_upW (W : Nat → Nat → Int32) (m : Nat) (w v : Nat → Int32) {i j : Nat} (hj : j < 6) : upW (upW W m v) m w i j = upW W m w i j := by
  simp only [upW]
  by_cases e : i = m
  · simp [e, hj]
  · simp [e]
theorem AG_c {F W V : Nat → Nat → Int32} {D E : Nat → Int32} {m : Nat} (h : AG F W D m) (hw : ∀ i, i < m → ∀ j, j < 6 → W i j = V i j) (hd : ∀ i, i < m → D i = E i) : AG F V E m := fun i hi => ⟨fun j hj => ((h i hi).1 j hj).trans (hw i hi j hj), (h i hi).2.trans (hd i hi)⟩
theorem BB_c {W V : Nat → Nat → Int32} {D E : Nat → Int32} {m : Nat} (h : BB W D m) (hw : ∀ i, i < m → ∀ j, j < 6 → W i j = V i j) (hd : ∀ i, i < m → D i = E i) : BB V E m := fun i hi => by
  rw [← hd i hi]; exact bL_c (hw i hi) (h i hi)
/-- the step as it is done, not a claim -/
theorem wk_do {F W : Nat → Nat → Int32} {D : Nat → Int32} {m s : Nat} {q : P5} (hm : m < 1000) (hA : AG F W D m) (hB : BB W D m) (hw : wfS m q) (hn : wfN q) (hs : stR F s q) {kd : Nat} (hk : kd < 7) (hq : q.1 = nI (kd + 1)) {X : Nat → Nat → Int32} (hX : X = lnF F m (doV F kd q.2.1.toNatClampNeg (F 171 (10 * s + 2)) s)) : (okL (Wm X m) (Dm X m) → (wk1 q m W D).2.2 = 0 ∧ AG X (wk1 q m W D).1 (wk1 q m W D).2.1 (m + 1) ∧ BB (wk1 q m W D).1 (wk1 q m W D).2.1 (m + 1)) ∧ (¬ okL (Wm X m) (Dm X m) → (wk1 q m W D).2.2 = 1 ∧ AG X (wk1 q m W D).1 (wk1 q m W D).2.1 m ∧ BB (wk1 q m W D).1 (wk1 q m W D).2.1 m) := by
  obtain ⟨hr, hi, h0⟩ := st_row hm hA hB hw hn hs hk hq
  have h8 : ¬ q.1 = 8 := fun z => by have := (kdn (show kd < 8 by omega) 8 (by decide)).mp (hq ▸ z); omega
  have ew : wk1 q m W D = (upW W m (opL W D q.1 q.2.1.toNatClampNeg q.2.2.1).1, va_up D m (opL W D q.1 q.2.1.toNatClampNeg q.2.2.1).2, if okL (opL W D q.1 q.2.1.toNatClampNeg q.2.2.1).1 (opL W D q.1 q.2.1.toNatClampNeg q.2.2.1).2 then 0 else 1) := by rw [wk1, if_neg h8]
  rw [ew]
  have ag := AG_ln hA hr
  rw [← hX] at ag
  generalize opL W D q.1 q.2.1.toNatClampNeg q.2.2.1 = o at *
  have eo : okL (Wm X m) (Dm X m) ↔ okL o.1 o.2 := by
    have e1 : Dm X m = o.2 := by rw [hX, Dm, lnF_in _ _ _ (by decide)]; exact hr.2
    rw [e1]
    exact okL_c (fun j hj => by rw [hX, Wm, lnF_in _ _ _ (by omega)]; exact hr.1 j hj)
  refine ⟨fun h => ?_, fun h => ?_⟩
  · have h := eo.mp h
    rw [if_pos h]
    exact ⟨rfl, ag, BB_up hB (ok_b hi h0 h)⟩
  · have h := fun z => h (eo.mpr z)
    rw [if_neg h]
    exact ⟨rfl, fun i hi => ag i (by omega), BB_k _ _ hB⟩
/-- a claim -/
def oF (X : Nat → Nat → Int32) (m : Nat) : Nat → Nat → Int32 := lnF X m (opp (Wm X m) (Dm X m))
theorem wk_cl {F W : Nat → Nat → Int32} {D : Nat → Int32} {m s : Nat} {q : P5} (hA : AG F W D m) (hB : BB W D m) (hn : wfN q) (hs : stR F s q) (hq : q.1 = 8) (f : Nat) (n : Int32) {X : Nat → Nat → Int32} (hX : X = lnF F m (doV F 7 f n s)) : okL (Wm X m) (Dm X m) ∧ (∀ i, i < m + 1 → ∀ j, j < 6 → wbd (Wm (oF X m) i j)) ∧ ((fps (Wm (oF X m)) (Dm (oF X m)) (m + 1) 0 0 7).1.2.2 = 0 → (wk1 q m W D).2.2 = 2 ∧ AG X (wk1 q m W D).1 (wk1 q m W D).2.1 m ∧ BB (wk1 q m W D).1 (wk1 q m W D).2.1 m) ∧ (¬ (fps (Wm (oF X m)) (Dm (oF X m)) (m + 1) 0 0 7).1.2.2 = 0 → (wk1 q m W D).2.2 = 0 ∧ AG X (wk1 q m W D).1 (wk1 q m W D).2.1 (m + 1) ∧ BB (wk1 q m W D).1 (wk1 q m W D).2.1 (m + 1)) := by
  have hr : rowE (doV F 7 f n s) q.2.2.2.1 q.2.2.2.2 := (hs.2.2.2 hq)
  have hb : bL q.2.2.2.1 q.2.2.2.2 := in_bL (hn.2.2 hq)
  generalize hw : q.2.2.2.1 = w at *
  generalize hd : q.2.2.2.2 = d at *
  have eW : ∀ j, j < 6 → Wm X m j = w j := fun j hj => by rw [hX, Wm, lnF_in _ _ _ (by omega)]; exact hr.1 j hj
  have eD : Dm X m = d := by rw [hX, Dm, lnF_in _ _ _ (by decide)]; exact hr.2
  have hbX : bL (Wm X m) (Dm X m) := by rw [eD]; exact bL_c (fun j hj => (eW j hj).symm) hb
  have ag := AG_ln hA hr
  rw [← hX] at ag
  have oW : ∀ i, i < m → ∀ j, j < 6 → Wm (oF X m) i j = W i j := fun i hi j hj => by
    have := (ag i (by omega)).1 j hj
    rw [upW_ne _ _ (by omega)] at this
    rw [Wm, oF, lnF_out _ _ hi (by omega)]; exact this
  have oD : ∀ i, i < m → Dm (oF X m) i = D i := fun i hi => by
    have := (ag i (by omega)).2
    simp only [va_up, if_neg (show ¬ i = m by omega)] at this
    rw [Dm, oF, lnF_out _ _ hi (by decide)]; exact this
  have oWm : ∀ j, j < 6 → Wm (oF X m) m j = -(w j) := fun j hj => by
    rw [Wm, oF, lnF_in _ _ _ (by omega), opp, if_pos hj, eW j hj]
  have oDm : Dm (oF X m) m = if mw w 0 0 6 + 1 - d < 0 then 0 else mw w 0 0 6 + 1 - d := by
    rw [Dm, oF, lnF_in _ _ _ (by decide), opp, if_neg (by decide), mw_c 0 0 eW, eD]
  have ef : fps (Wm (oF X m)) (Dm (oF X m)) (m + 1) 0 0 7 = fps (upW W m (fun j => -(w j))) (va_up D m (mw w 0 0 6 + 1 - d)) (m + 1) 0 0 7 := by
    refine fps_c 0 0 (fun i hi x y z => ?_) 7
    by_cases e : i = m
    · subst e
      have e1 : va_up D i (mw w 0 0 6 + 1 - d) i = mw w 0 0 6 + 1 - d := by simp only [va_up, if_true]
      rw [e1, oDm, vst_c _ x y z oWm, ← opp_v hb]
      exact vst_c _ x y z (fun j hj => (upW_at W i (fun j => -(w j)) hj).symm)
    · have e1 : va_up D m (mw w 0 0 6 + 1 - d) i = D i := by simp only [va_up, if_neg e]
      rw [e1, upW_ne _ _ e, oD i (by omega)]
      exact vst_c _ x y z (oW i (by omega))
  refine ⟨b_ok hbX, fun i hi j hj => ?_, ?_⟩
  · by_cases e : i = m
    · subst e
      rw [oWm j hj]
      have := hb.1 j hj
      refine bz_w ?_
      unfold bz; rw [neg_in2 (bz_m (by decide) this)]; have t1 := this.1; have t2 := this.2; omega
    · rw [oW i (by omega) j hj]; exact bz_w ((hB i (by omega)).1 j hj)
  · rw [ef]
    have ew : wk1 q m W D = (if (fps (upW W m (fun j => -(w j))) (va_up D m (mw w 0 0 6 + 1 - d)) (m + 1) 0 0 7).1.2.2 = 0 then (upW W m (fun j => -(w j)), va_up D m (mw w 0 0 6 + 1 - d), 2) else (upW (upW W m (fun j => -(w j))) m w, va_up (va_up D m (mw w 0 0 6 + 1 - d)) m d, 0)) := by rw [wk1, if_pos hq, hw, hd]
    rw [ew]
    refine ⟨fun h => ?_, fun h => ?_⟩
    · rw [if_pos h]
      refine ⟨rfl, fun i hi => ?_, BB_k _ _ hB⟩
      have e : ¬ i = m := by omega
      obtain ⟨a1, a2⟩ := ag i (by omega)
      rw [upW_ne _ _ e] at a1
      simp only [va_up, if_neg e] at a2
      refine ⟨fun j hj => ?_, ?_⟩
      · show Wm X i j = upW W m _ i j
        rw [upW_ne _ _ e]; exact a1 j hj
      · show Dm X i = va_up D m _ i
        simp only [va_up, if_neg e]; exact a2
    · rw [if_neg h]
      have c1 : ∀ i, i < m + 1 → ∀ j, j < 6 → upW W m w i j = upW (upW W m (fun j => -(w j))) m w i j := fun i _ j hj => (upW_upW W m w _ hj).symm
      have c2 : ∀ i, i < m + 1 → va_up D m d i = va_up (va_up D m (mw w 0 0 6 + 1 - d)) m d i := fun i _ => by
        by_cases e : i = m <;> simp [va_up, e]
      exact ⟨rfl, AG_c ag c1 c2, BB_c (BB_up hB hb) c1 c2⟩

