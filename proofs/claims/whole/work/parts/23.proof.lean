/-! what stands in the rows of tokens -/
def tv1 (k v : Int32) : Prop := (k = 1 → ∃ a, a < 6 ∧ v = nI a) ∧ (k = 7 → ∃ a, 1 ≤ a ∧ a ≤ 8 ∧ v = nI a)
theorem stk_in (tb : Nat → Int32) (a b : Nat) : stk tb a b = 0 ∨ ∃ k, 1 ≤ k ∧ k ≤ 8 ∧ stk tb a b = nI k := by
  unfold stk
  repeat' split
  · exact Or.inr ⟨1, by omega, by omega, by decide⟩
  · exact Or.inr ⟨2, by omega, by omega, by decide⟩
  · exact Or.inr ⟨3, by omega, by omega, by decide⟩
  · exact Or.inr ⟨4, by omega, by omega, by decide⟩
  · exact Or.inr ⟨5, by omega, by omega, by decide⟩
  · exact Or.inr ⟨6, by omega, by omega, by decide⟩
  · exact Or.inr ⟨7, by omega, by omega, by decide⟩
  · exact Or.inr ⟨8, by omega, by omega, by decide⟩
  · exact Or.inl rfl
theorem sm_n {x : Int32} (h : isSm x) : ∃ b, 97 ≤ b ∧ b ≤ 122 ∧ x = nI b := by
  obtain ⟨b, hb, e⟩ := ts_i (x := x) (m := 122) (fun z => h.1 (Int32.lt_trans z (by decide))) (Int32.not_lt.mp h.2) (by decide)
  refine ⟨b, ?_, hb, e⟩
  rcases Nat.lt_or_ge b 97 with q | q
  · rw [e] at h; exact absurd (nI_lt (a := b) (b := 97) q (by decide)) h.1
  · exact q
theorem sgk_in (x : Int32) : ¬ sgk x = 1 ∧ ¬ sgk x = 7 := by
  unfold sgk
  repeat' split
  all_goals decide
theorem tv_tok (tb : Nat → Int32) (len m : Nat) : tv1 (tok1 tb len m).1 (tok1 tb len m).2.1 := by
  unfold tok1
  by_cases h1 : isSm (tb m)
  · rw [if_pos h1]
    unfold tkW
    by_cases h2 : wend tb len (m + 1) = m + 1
    · rw [if_pos h2]
      obtain ⟨b, b1, b2, e⟩ := sm_n h1
      have e97 : tb m - 97 = nI (b - 97) := by rw [e]; exact pk_sub (a := b) (b := 97) b1
      by_cases h3 : 6 ≤ tb m - 97
      · simp only [if_pos h3]; exact ⟨fun z => absurd z (by decide), fun z => absurd z (by decide)⟩
      · simp only [if_neg h3]
        refine ⟨fun _ => ⟨b - 97, ?_, e97⟩, fun z => absurd z (by decide)⟩
        rcases Nat.lt_or_ge (b - 97) 6 with q | q
        · exact q
        · rw [e97] at h3; exact absurd (nI_le (a := 6) q (by omega)) h3
    · rw [if_neg h2]
      by_cases h3 : stk tb m (wend tb len (m + 1)) = 0
      · simp only [if_pos h3]; exact ⟨fun z => absurd z (by decide), fun z => absurd z (by decide)⟩
      · simp only [if_neg h3]
        exact ⟨fun z => absurd z (by decide), fun _ => (stk_in tb m (wend tb len (m + 1))).resolve_left h3⟩
  · rw [if_neg h1]
    by_cases h2 : isDg (tb m)
    · rw [if_pos h2]
      unfold tkN
      dsimp only
      split <;> exact ⟨fun z => absurd z (by decide), fun z => absurd z (by decide)⟩
    · rw [if_neg h2]
      unfold tkS
      by_cases h3 : tb m = 62 ∧ tb (m + 1) = 61
      · rw [if_pos h3]; exact ⟨fun z => absurd z (show ¬((3:Int32) = 1) by decide), fun z => absurd z (show ¬((3:Int32) = 7) by decide)⟩
      · rw [if_neg h3]; exact ⟨fun z => absurd z (sgk_in _).1, fun z => absurd z (sgk_in _).2⟩
def TV (K V : Nat → Int32) (c : Nat) : Prop := ∀ j, j < c → tv1 (K j) (V j)
theorem sp_tv {tb : Nat → Int32} {len : Nat} {q0 : TR} (h0 : q0.2.2.2 = 0) : ∀ i, TV (spT tb len q0 i).2.1 (spT tb len q0 i).2.2.1 (spT tb len q0 i).2.2.2.2
  | 0 => fun j hj => by rw [spT, h0] at hj; exact absurd hj (Nat.not_lt_zero j)
  | i + 1 => fun j hj => by
    have ih := sp_tv (tb := tb) (len := len) h0 i
    rw [spT] at hj ⊢
    by_cases h1 : len ≤ (spT tb len q0 i).1
    · rw [if_pos h1] at hj ⊢; exact ih j hj
    · rw [if_neg h1] at hj ⊢
      by_cases h2 : tb (spT tb len q0 i).1 = 32
      · rw [if_pos h2] at hj ⊢; exact ih j hj
      · rw [if_neg h2] at hj ⊢
        simp only [pshT] at hj ⊢
        by_cases e : j = (spT tb len q0 i).2.2.2.2
        · simp only [upd, if_pos e]; exact tv_tok _ _ _
        · simp only [upd, if_neg e]; exact ih j (by omega)
theorem allT_tv (tb : Nat → Int32) (len : Nat) (F : Nat → Nat → Int32) : TV (allT tb len (q0F F)).1 (allT tb len (q0F F)).2.1 (allT tb len (q0F F)).2.2.2 := by
  intro j hj
  simp only [allT, pshT] at hj ⊢
  by_cases e : j = (spT tb len (q0F F) 400).2.2.2.2
  · simp only [upd, if_pos e]; exact ⟨fun z => absurd z (by decide), fun z => absurd z (by decide)⟩
  · simp only [upd, if_neg e]; exact sp_tv rfl 400 j (by omega)
theorem pTok_y {K V : Nat → Int32} {c j : Nat} {k : Int32} (h : (pTok (crF K V) (gn c) k j).1 = true) : K j = k := by
  unfold pTok at h
  by_cases q : ((crF K V) j).1 = k
  · exact q
  · rw [if_neg q] at h; exact absurd h Bool.false_ne_true
theorem pNum_y {K V : Nat → Int32} {c j : Nat} {lo hi : Int32} (h : (pNum (crF K V) (gn c) lo hi j).1 = true) : ¬ V j < lo ∧ V j ≤ hi := by
  unfold pNum at h
  by_cases q : ((crF K V) j).1 = 2 ∧ ¬ ((crF K V) j).2 < lo ∧ ((crF K V) j).2 ≤ hi
  · exact q.2
  · rw [if_neg q] at h; exact absurd h Bool.false_ne_true
theorem num_in {x : Int32} {m : Nat} (hm : m < 1000) (h : ¬ x < 0 ∧ x ≤ nI m - 1) : ∃ f, f < m ∧ x = nI f := by
  obtain ⟨n, hn, e⟩ := nI_of h.1
  refine ⟨n, ?_, e⟩
  rcases Nat.eq_zero_or_pos m with q | q
  · subst q; rw [e] at h; exact absurd h.2 (by
      intro z
      have : nI n < 0 := Int32.lt_of_le_of_lt z (by decide)
      exact nI_pos hn this)
  · obtain ⟨d, rfl⟩ : ∃ d, m = d + 1 := ⟨m - 1, by omega⟩
    rw [nI_pred, e] at h
    rcases Nat.lt_or_ge n (d + 1) with z | z
    · exact z
    · exact absurd h.2 (nI_ge (by omega) hn)
theorem wf_step {K V : Nat → Int32} {c G i s : Nat} (hT : TV K V c) (hs : s < c) (hm : G + i < 1000) (Q0 : Nat → P5) (h : (pSt (crF K V) (gn c) (nI G) Q0 i s).1 = true) : wfS (G + i) (pRc (crF K V) (gn c) (nI G) Q0 i s) := by
  have h7 : (pTok (crF K V) (gn c) 7 s).1 = true := by
    unfold pSt pStep at h
    by_cases q : (pTok (crF K V) (gn c) 7 s).1 = true
    · exact q
    · rw [if_neg q] at h; exact absurd h Bool.false_ne_true
  obtain ⟨k, k1, k8, ek⟩ := (hT s hs).2 (pTok_y h7)
  have hj := pTok_lt (K := K) (V := V) 7 hs
  have ep : pSt (crF K V) (gn c) (nI G) Q0 i s = pArg (crF K V) (gn c) (V s) (nI G + nI i) (pTok (crF K V) (gn c) 7 s).2 (Q0 i).2.1 (Q0 i).2.2.1 (Q0 i).2.2.2.1 (Q0 i).2.2.2.2 := by unfold pSt pStep; rw [if_pos h7]; rfl
  unfold wfS pRc
  rw [ep] at h ⊢
  rw [nI_add] at h ⊢
  generalize (pTok (crF K V) (gn c) 7 s).2 = j at hj h ⊢
  have hn1 : ∀ p, p < c → (pNum (crF K V) (gn c) 0 (nI (G + i) - 1) p).1 = true → ∃ f, f < G + i ∧ V p = nI f := fun p _ hp => num_in hm (pNum_y hp)
  have hl1 : ∀ p, p < c → (pTok (crF K V) (gn c) 1 p).1 = true → ∃ a, a < 6 ∧ V p = nI a := fun p hp hq => (hT p hp).1 (pTok_y hq)
  have hnl := pNum_lt (K := K) (V := V) 0 (nI (G + i) - 1) hj
  show (¬ V s = 6 → ¬ V s = 7 → ¬ V s = 8 → (V s = 1 ∨ V s = 2 ∨ V s = 3 ∨ V s = 4 ∨ V s = 5) ∧ _) ∧ (V s = 1 → _) ∧ (V s = 5 ∨ V s = 6 ∨ V s = 7 → _)
  dsimp only
  generalize V s = kd at *
  unfold pArg at h ⊢
  by_cases a8 : kd = 8
  · subst a8; exact ⟨fun _ _ z => absurd rfl z, fun z => absurd z (by decide), fun z => absurd z (by decide)⟩
  rw [if_neg a8] at h ⊢
  by_cases a67 : kd = 6 ∨ kd = 7
  · rw [if_pos a67] at h ⊢
    exact ⟨fun z y => absurd a67 (fun w => w.elim z y), fun z => by rw [z] at a67; exact absurd a67 (by decide), fun _ => hl1 _ hj h⟩
  rw [if_neg a67] at h ⊢
  have a15 : kd = 1 ∨ kd = 2 ∨ kd = 3 ∨ kd = 4 ∨ kd = 5 := by
    rcases (show k = 1 ∨ k = 2 ∨ k = 3 ∨ k = 4 ∨ k = 5 ∨ k = 6 ∨ k = 7 ∨ k = 8 by omega) with rfl | rfl | rfl | rfl | rfl | rfl | rfl | rfl
    · exact Or.inl ek
    · exact Or.inr (Or.inl ek)
    · exact Or.inr (Or.inr (Or.inl ek))
    · exact Or.inr (Or.inr (Or.inr (Or.inl ek)))
    · exact Or.inr (Or.inr (Or.inr (Or.inr ek)))
    · exact absurd (Or.inl ek) a67
    · exact absurd (Or.inr ek) a67
    · exact absurd ek a8
  by_cases a4 : kd = 4
  · rw [if_pos a4] at h ⊢
    exact ⟨fun _ _ _ => ⟨a15, hn1 _ hj h⟩, fun z => by rw [z] at a4; exact absurd a4 (by decide), fun z => by rw [a4] at z; exact absurd z (by decide)⟩
  rw [if_neg a4] at h ⊢
  by_cases hp : (pNum (crF K V) (gn c) 0 (nI (G + i) - 1) j).1 = true
  · rw [if_pos hp] at h ⊢
    refine ⟨fun _ _ _ => ⟨a15, hn1 _ hj hp⟩, fun z => ?_, fun z => ?_⟩
    · subst z
      unfold pSec at h
      rw [if_neg (by decide), if_pos rfl] at h
      exact hn1 _ hnl h
    · rcases z with z | z
      · subst z
        unfold pSec at h
        rw [if_pos rfl] at h
        exact hl1 _ hnl h
      · exact absurd z a67
  · rw [if_neg hp] at h; exact absurd h Bool.false_ne_true
theorem wf_all {K V : Nat → Int32} {c G : Nat} (hT : TV K V c) (hG : G ≤ 8) (Q0 : Nat → P5) : ∀ (n i s : Nat) (Q : Nat → P5), s < c → i + n ≤ 24 → (∀ j, j < i → wfS (G + j) (Q j)) → ∀ j, j < (prR (crF K V) (gn c) (nI G) Q0 n i s Q).2.1 → wfS (G + j) ((prR (crF K V) (gn c) (nI G) Q0 n i s Q).2.2.2 j)
  | 0, i, s, Q, hs, hi, h => h
  | n + 1, i, s, Q, hs, hi, h => by
    have hp : (pSt (crF K V) (gn c) (nI G) Q0 i s).2.1 < c := pStep_lt _ _ _ _ _ hs
    rw [prR]
    by_cases h0 : ((crF K V) s).1 = 0
    · rw [if_pos h0]; exact h
    · rw [if_neg h0]
      by_cases h1 : (pSt (crF K V) (gn c) (nI G) Q0 i s).1 = true
      · rw [if_pos h1]
        by_cases h2 : (pTok (crF K V) (gn c) 6 (pSt (crF K V) (gn c) (nI G) Q0 i s).2.1).1 = true
        · rw [if_pos h2]
          refine wf_all hT hG Q0 n (i + 1) _ _ (pTok_lt 6 hp) (by omega) (fun j hj => ?_)
          by_cases e : j = i
          · subst e; simp only [va_up, if_pos]; exact wf_step hT hs (by omega) Q0 h1
          · simp only [va_up, if_neg e]; exact h j (by omega)
        · rw [if_neg h2]; exact h
      · rw [if_neg h1]; exact h
theorem wfS_eq {m : Nat} {q p : P5} (h1 : p.1 = q.1) (h2 : p.2.1 = q.2.1) (h3 : p.2.2.1 = q.2.2.1) (h : wfS m q) : wfS m p := by
  unfold wfS at *; rw [h1, h2, h3]; exact h
/-- two steps that tell the same -/
def sameQ (p q : P5) : Prop := p.1 = q.1 ∧ p.2.1 = q.2.1 ∧ p.2.2.1 = q.2.2.1 ∧ (∀ j, j < 6 → p.2.2.2.1 j = q.2.2.2.1 j) ∧ p.2.2.2.2 = q.2.2.2.2
theorem sdF_at (F : Nat → Nat → Int32) (Q : Nat → P5) : ∀ {m i : Nat}, i < m → sameQ (oldQ (sdF F Q m) i) (Q i)
  | 0, i, h => absurd h (Nat.not_lt_zero i)
  | m + 1, i, h => by
    rw [sdF]
    by_cases e : i = m
    · subst e
      refine ⟨?_, ?_, ?_, fun j hj => ?_, ?_⟩
      · simp only [oldQ]; rw [stF_t]; rfl
      · simp only [oldQ]; rw [stF_t]; rfl
      · simp only [oldQ]; rw [stF_t]; rfl
      · show stF _ _ _ _ _ _ _ (26 + 3 * i + 1 + 1) j = _
        unfold stF; exact setL_w _ _ _ _ hj
      · show stF _ _ _ _ _ _ _ (26 + 3 * i + 1) 1 = _
        unfold stF; exact setL_k _ _ _ _
    · have ih := sdF_at F Q (m := m) (i := i) (by omega)
      have r : ∀ q, q < 26 + 3 * m → stF (sdF F Q m) (26 + 3 * m) (Q m).1 (Q m).2.1 (Q m).2.2.1 (Q m).2.2.2.1 (Q m).2.2.2.2 q = sdF F Q m q := fun q hq => stF_ne _ _ _ _ _ _ (by omega) (by omega) (by omega)
      have e2 : oldQ (stF (sdF F Q m) (26 + 3 * m) (Q m).1 (Q m).2.1 (Q m).2.2.1 (Q m).2.2.2.1 (Q m).2.2.2.2) i = oldQ (sdF F Q m) i := by
        simp only [oldQ]; rw [r _ (by omega), r _ (by omega), r _ (by omega)]
      rw [e2]; exact ih
def pZ (x : Bool × Nat × Nat × (Nat → P5)) (F : Nat → Nat → Int32) (G : Nat) (P : Nat → Int32) (J : Nat → Int64) : Option Value → Sg → Prop := fun r S2 =>
  (x.1 = true ∧ ∃ Q, (∀ i, i < x.2.1 → sameQ (Q i) (x.2.2.2 i)) ∧ r = some (.int (nI (wkS Q G (Wc F) (Dc F) x.2.1).2.2.2)) ∧ ∃ F2, S2 = St F2 J ∧ F2 0 7 = nI G ∧ F2 0 8 = nI (wkS Q G (Wc F) (Dc F) x.2.1).2.2.2 ∧ F2 0 9 = nI x.2.1 ∧ F2 0 10 = (if (wkS Q G (Wc F) (Dc F) x.2.1).2.2.1 = 0 then -9 else nI (wkS Q G (Wc F) (Dc F) x.2.1).2.2.2) ∧ F2 0 11 = (if (wkS Q G (Wc F) (Dc F) x.2.1).2.2.1 = 0 then -9 else (wkS Q G (Wc F) (Dc F) x.2.1).2.2.1) ∧ F2 1 1 = 0 ∧ Wc F2 = (wkS Q G (Wc F) (Dc F) x.2.1).1 ∧ Dc F2 = (wkS Q G (Wc F) (Dc F) x.2.1).2.1 ∧ ∀ q, 165 ≤ q → F2 q = F q) ∨ (x.1 = false ∧ r = some (.int (-10 - P x.2.2.1)) ∧ ∃ F2, S2 = St F2 J ∧ kpR F F2)

set_option maxRecDepth 100000 in
set_option maxHeartbeats 4000000 in
theorem c_proof (g : Gl) (l : Launch) (F : Nat → Nat → Int32) (J : Nat → Int64) {len G : Nat} (hl : F 1 1 = nI len) (hlen : len ≤ 400) (hG : F 0 7 = nI G) (hG8 : G ≤ 8) : Ct g l yX7_proof cX7_proof 2 (some .int) 9 0 0 [.ref 0] (St F J) (let A := (allT (at_ F len) len (q0F F)); pZ (prR (crF A.1 A.2.1) (gn A.2.2.2) (nI G) (oldQ F) 24 0 0 Q00) F G A.2.2.1 J) := by
  have hA := allT_c (at_ F len) len F
  have hpl := allT_pl (at_ F len) len F
  have htv := allT_tv (at_ F len) len F
  have hrd := c_readProof g l (nI G) F J hl hlen
  dsimp only at hrd ⊢
  generalize allT (at_ F len) len (q0F F) = A at hA hpl htv hrd ⊢
  have hgv := pr_lt (K := A.1) (V := A.2.1) (c := A.2.2.2) (nI G) (oldQ F) 24 0 0 Q00 (by omega)
  have hwf := wf_all (K := A.1) (V := A.2.1) (c := A.2.2.2) htv hG8 (oldQ F) 24 0 0 Q00 (by omega) (by omega) (fun j hj => absurd hj (Nat.not_lt_zero j))
  generalize hx : prR (crF A.1 A.2.1) (gn A.2.2.2) (nI G) (oldQ F) 24 0 0 Q00 = x at hgv hwf hrd ⊢
  have hb : ∀ q, q ≠ 0 → (up2 (hdF (nw (sdF (stT F A) x.2.2.2 x.2.1) x.2.2.1) (nw (sdF (stT F A) x.2.2.2 x.2.1) x.2.2.1 0 7) 0 0 (-9) (-9)) 0 9 (nI x.2.1)) q = nw (sdF (stT F A) x.2.2.2 x.2.1) x.2.2.1 q := fun q hq => by rw [up2_ne _ _ _ hq, hd_ne _ _ _ _ _ _ hq]
  have h0 : nw (sdF (stT F A) x.2.2.2 x.2.1) x.2.2.1 0 7 = nI G := by rw [nw_ne _ _ (by decide), sdF_ne _ _ (by omega), stT_ne _ _ (by omega)]; exact hG
  have hbe : (up2 (hdF (nw (sdF (stT F A) x.2.2.2 x.2.1) x.2.2.1) (nw (sdF (stT F A) x.2.2.2 x.2.1) x.2.2.1 0 7) 0 0 (-9) (-9)) 0 9 (nI x.2.1)) = hdF (nw (sdF (stT F A) x.2.2.2 x.2.1) x.2.2.1) (nI G) 0 (nI x.2.1) (-9) (-9) := by rw [(hd_up _ _ _ _ _ _ _).2.2.1, h0]
  have hold : ∀ i, i < x.2.1 → sameQ (oldQ (up2 (hdF (nw (sdF (stT F A) x.2.2.2 x.2.1) x.2.2.1) (nw (sdF (stT F A) x.2.2.2 x.2.1) x.2.2.1 0 7) 0 0 (-9) (-9)) 0 9 (nI x.2.1)) i) (x.2.2.2 i) := fun i hi => by
    have := sdF_at (stT F A) x.2.2.2 hi
    have e : oldQ (up2 (hdF (nw (sdF (stT F A) x.2.2.2 x.2.1) x.2.2.1) (nw (sdF (stT F A) x.2.2.2 x.2.1) x.2.2.1 0 7) 0 0 (-9) (-9)) 0 9 (nI x.2.1)) i = oldQ (sdF (stT F A) x.2.2.2 x.2.1) i := by
      simp only [oldQ]
      rw [hb _ (by omega), hb _ (by omega), hb _ (by omega), nw_ne _ _ (by omega), nw_ne _ _ (by omega), nw_ne _ _ (by omega)]
    rw [e]; exact this
  have hWb := Wc_x (F := F) (G := (up2 (hdF (nw (sdF (stT F A) x.2.2.2 x.2.1) x.2.2.1) (nw (sdF (stT F A) x.2.2.2 x.2.1) x.2.2.1 0 7) 0 0 (-9) (-9)) 0 9 (nI x.2.1))) (fun q hq => by rw [hb _ (by omega), nw_ne _ _ (by omega), sdF_ne _ _ (by omega), stT_ne _ _ (by omega)])
  refine Ct.of rfl (by decide) rfl (Nat.le_of_ble_eq_true rfl) ?_
  refine g_aload_n 1 dX7_proof_0 rfl rfl ?_
  refine gf_7_1 4 dX7_proof_1 rfl kf_X7_19 ?_
  refine g_aload_n 5 dX7_proof_4 rfl rfl ?_
  refine gf_7_0 8 dX7_proof_5 rfl kf_X7_10 ?_
  refine g_aload_n 9 dX7_proof_8 rfl rfl ?_
  refine gf_7_7 12 dX7_proof_9 rfl kf_X7_81 (by first | decide | assumption | exact ⟨Nat.le_of_ble_eq_true rfl, rfl⟩) ?_
  refine gst_at hG ?_
  refine g_v2 3 15 dX7_proof_12 rfl kl_X7_87 mv_X3_readProof rfl ⟨Nat.le_of_ble_eq_true rfl, Nat.le_of_ble_eq_true rfl⟩ (Nat.le_of_ble_eq_true rfl) (by first | decide | assumption | exact ⟨Nat.le_of_ble_eq_true rfl, rfl⟩) (hrd) ?_
  rintro r S2 (⟨hx1, rfl, rfl⟩ | ⟨hx1, rfl, G2, rfl, hk⟩)
  · refine g_istore_n 16 dX7_proof_15 rfl (by decide) ?_
    refine g_iload_n 17 dX7_proof_16 rfl rfl ?_
    refine g_if_ge 22 20 dX7_proof_17 rfl (by decide) (fun h17 => ?_) (fun h17 => ?_)
    · refine g_aload_n 23 dX7_proof_22 rfl rfl ?_
      refine g_v0 7 26 dX7_proof_23 rfl kl_X7_84 mv_X7_forgetProof rfl ⟨Nat.le_of_ble_eq_true rfl, Nat.le_of_ble_eq_true rfl⟩ (Nat.le_of_ble_eq_true rfl) (by first | decide | assumption | exact ⟨Nat.le_of_ble_eq_true rfl, rfl⟩) (c_forget g l _ J) ?_
      rintro _ _ ⟨rfl, rfl⟩
      refine g_aload_n 27 dX7_proof_26 rfl rfl ?_
      refine g_iload_n 28 dX7_proof_27 rfl rfl ?_
      refine gp_7_9 31 dX7_proof_28 rfl kf_X7_91 (by first | decide | assumption | exact ⟨Nat.le_of_ble_eq_true rfl, rfl⟩) ?_
      refine g_aload_n 32 dX7_proof_31 rfl rfl ?_
      refine g_v0 7 35 dX7_proof_32 rfl kl_X7_94 mv_X7_walkProof rfl ⟨Nat.le_of_ble_eq_true rfl, Nat.le_of_ble_eq_true rfl⟩ (Nat.le_of_ble_eq_true rfl) (by first | decide | assumption | exact ⟨Nat.le_of_ble_eq_true rfl, rfl⟩) (c_walkProof g l (up2 (hdF (nw (sdF (stT F A) x.2.2.2 x.2.1) x.2.2.1) (nw (sdF (stT F A) x.2.2.2 x.2.1) x.2.2.1 0 7) 0 0 (-9) (-9)) 0 9 (nI x.2.1)) J (G := G) (T := x.2.1) hG8 (by omega) (fun s hs => wfS_eq (hold s hs).1 (hold s hs).2.1 (hold s hs).2.2.1 (hwf s hs)) (by rw [hbe]; rfl) (by rw [hbe]; rfl) (by rw [hbe]; rfl) (by rw [hbe]; rfl) (by rw [hbe]; rfl)) ?_
      rintro r S2 ⟨rfl, F2, rfl, w7, w8, w9, w10, w11, wW, wD, wk⟩
      rw [hWb.1, hWb.2] at w8 w10 w11 wW wD
      refine g_aload_n 36 dX7_proof_35 rfl rfl ?_
      refine gf_7_0 39 dX7_proof_36 rfl kf_X7_10 ?_
      refine g_v0 5 42 dX7_proof_39 rfl kl_X7_66 mv_X5_empty rfl ⟨Nat.le_of_ble_eq_true rfl, Nat.le_of_ble_eq_true rfl⟩ (Nat.le_of_ble_eq_true rfl) (by first | decide | assumption | exact ⟨Nat.le_of_ble_eq_true rfl, rfl⟩) (c_empty g l _ J) ?_
      rintro _ _ ⟨rfl, rfl⟩
      refine g_pop 43 dX7_proof_42 rfl rfl ?_
      refine g_aload_n 44 dX7_proof_43 rfl rfl ?_
      refine gf_7_8 47 dX7_proof_44 rfl kf_X7_97 (by first | decide | assumption | exact ⟨Nat.le_of_ble_eq_true rfl, rfl⟩) ?_
      refine g_iret dX7_proof_47 ?_
      have u0 : ∀ j, up2 F2 1 1 0 0 j = F2 0 j := fun j => by rw [up2_ne _ _ _ (by decide)]
      have uW := Wc_x (F := F2) (G := up2 F2 1 1 0) (fun q hq => up2_ne _ _ _ (by omega))
      refine Or.inl ⟨hx1, oldQ (up2 (hdF (nw (sdF (stT F A) x.2.2.2 x.2.1) x.2.2.1) (nw (sdF (stT F A) x.2.2.2 x.2.1) x.2.2.1 0 7) 0 0 (-9) (-9)) 0 9 (nI x.2.1)), hold, by rw [u0, w8], _, rfl, ?_, ?_, ?_, ?_, ?_, ?_, ?_, ?_, ?_⟩
      · rw [u0]; exact w7
      · rw [u0]; exact w8
      · rw [u0]; exact w9
      · rw [u0]; exact w10
      · rw [u0]; exact w11
      · rw [up2_same]; rfl
      · rw [uW.1]; exact wW
      · rw [uW.2]; exact wD
      · intro q hq
        rw [up2_ne _ _ _ (by omega), wk q (by omega) (by omega) (by omega), hb _ (by omega), nw_ne _ _ (by omega), sdF_ne _ _ (by omega), stT_ne _ _ (by omega)]
    · exact absurd (nI_pos' (by omega)) h17
  · refine g_istore_n 16 dX7_proof_15 rfl (by decide) ?_
    refine g_iload_n 17 dX7_proof_16 rfl rfl ?_
    refine g_if_ge 22 20 dX7_proof_17 rfl (by decide) (fun h17 => ?_) (fun h17 => ?_)
    · exact absurd h17 (by
        obtain ⟨p, hp, e⟩ := hpl _ hgv.1
        rw [e]; exact Int32.not_le.mpr (flt_neg p (by omega)))
    · refine g_iload_n 21 dX7_proof_20 rfl rfl ?_
      refine g_iret dX7_proof_21 ?_
      exact Or.inr ⟨hx1, rfl, G2, rfl, hk⟩

