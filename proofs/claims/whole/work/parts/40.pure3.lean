/-! what class and reference compute is the same (3): the asks over lines that agree -/
def EQ (V : Nat → Nat → Int32) (E : Nat → Int32) (W : Nat → Nat → Int32) (D : Nat → Int32) (N : Nat) : Prop := ∀ i, i < N → (∀ j, j < 6 → V i j = W i j) ∧ E i = D i
theorem wh_c {w v : Nat → Int32} (d : Int32) (h : ∀ j, j < 6 → w j = v j) : ∀ n, wh w d n = wh v d n
  | 0 => rfl
  | n + 1 => by rw [wh, wh, wh_c d h n, mw_c _ _ h]
theorem line_c {V W : Nat → Nat → Int32} {E D : Nat → Int32} {N : Nat} (hN : N ≤ 32) (h : EQ V E W D N) (i a : Int32) : lineA N V E i a = lineA N W D i a := by
  unfold lineA
  by_cases c : isLn N i ∧ ¬ a < 0 ∧ a ≤ 6
  · rw [if_pos c, if_pos c]
    obtain ⟨n, hn, -, e⟩ := isLn_n c.1 hN
    rw [e]
    by_cases z : a = 6
    · rw [if_pos z, if_pos z]; exact (h n hn).2
    · rw [if_neg z, if_neg z]
      have h6 : ¬ 6 ≤ a := fun q => z (Int32.le_antisymm c.2.2 q)
      obtain ⟨b, hb, -, e2⟩ := a_in c.2.1 h6
      rw [e2]; exact (h n hn).1 b hb
  · rw [if_neg c, if_neg c]
theorem holds_c {V W : Nat → Nat → Int32} {E D : Nat → Int32} {N : Nat} (hN : N ≤ 32) (h : EQ V E W D N) (i : Int32) : holdsA N V E i = holdsA N W D i := by
  unfold holdsA
  by_cases c : isLn N i
  · rw [if_pos c, if_pos c]
    obtain ⟨n, hn, -, e⟩ := isLn_n c hN
    rw [e, (h n hn).2, wh_c _ (h n hn).1]
  · rw [if_neg c, if_neg c]
theorem okB_c {V W : Nat → Nat → Int32} {E D : Nat → Int32} {N n : Nat} (h : EQ V E W D N) (hn : n < N) : okB V E n ↔ okB W D n := by
  unfold okB; rw [(h n hn).2, mw_c _ _ (h n hn).1]
theorem broken_c {V W : Nat → Nat → Int32} {E D : Nat → Int32} {N : Nat} (hN : N ≤ 32) (h : EQ V E W D N) (i : Int32) : brokenA N V E i = brokenA N W D i := by
  unfold brokenA
  by_cases c : isLn N i
  · rw [if_pos c, if_pos c]
    obtain ⟨n, hn, -, e⟩ := isLn_n c hN
    rw [e]
    have := okB_c h hn
    by_cases z : okB V E n
    · rw [if_pos z, if_pos (this.mp z)]
    · rw [if_neg z, if_neg (fun q => z (this.mpr q))]
  · rw [if_neg c, if_neg c]
theorem end_c {V W : Nat → Nat → Int32} {E D : Nat → Int32} {N : Nat} (h : EQ V E W D N) : ∀ n i, i + n ≤ N → endR V E n i = endR W D n i
  | 0, _, _ => rfl
  | n + 1, i, hi => by
    rw [endR, endR, end_c h n (i + 1) (by omega)]
    have := okB_c h (show i < N by omega)
    by_cases z : okB V E i
    · rw [if_pos z, if_pos (this.mp z)]
    · rw [if_neg z, if_neg (fun q => z (this.mpr q))]
theorem both_c {V W : Nat → Nat → Int32} {E D : Nat → Int32} {N : Nat} (hN : N ≤ 32) (h : EQ V E W D N) (i j what : Int32) : bothA N V E i j what = bothA N W D i j what := by
  unfold bothA; rw [holds_c hN h i, holds_c hN h j]
theorem tws_c {V W : Nat → Nat → Int32} {E D : Nat → Int32} {N : Nat} (h : EQ V E W D N) : ∀ {n}, n ≤ N → tws V E n = tws W D n
  | 0, _ => rfl
  | n + 1, hn => by rw [tws, tws, tws_c h (by omega), (h n (by omega)).2, wh_c _ (h n (by omega)).1]
theorem told_c {V W : Nat → Nat → Int32} {E D : Nat → Int32} {N G : Nat} (hG : G ≤ N) (hN : N ≤ 32) (h : EQ V E W D N) (i : Int32) : toldA N G V E i = toldA N G W D i := by
  unfold toldA; rw [holds_c hN h i, tws_c h hG]
theorem tgt_c (t : Int64) {w v : Nat → Int32} (h : ∀ j, j < 6 → w j = v j) : ∀ n, tgt t w n = tgt t v n
  | 0 => rfl
  | n + 1 => by rw [tgt, tgt, tgt_c t h n, mw_c _ _ h]
theorem tight_c {V W : Nat → Nat → Int32} {E D : Nat → Int32} {N G : Nat} (hG : G ≤ N) (hN : N ≤ 32) (h : EQ V E W D N) (i : Int32) : tightA N G V E i = tightA N G W D i := by
  unfold tightA
  by_cases c : isLn N i
  · rw [if_pos c, if_pos c]
    obtain ⟨n, hn, -, e⟩ := isLn_n c hN
    rw [e, tws_c h hG, tgt_c _ (h n hn).1]
  · rw [if_neg c, if_neg c]
theorem wog_c {X Y : Nat → Int64} {set : Int32} : ∀ {n}, (∀ i, i < n → set >>> (nI i &&& 31) &&& 1 = 1 → X i = Y i) → wog X set n = wog Y set n
  | 0, _ => rfl
  | n + 1, h => by
    rw [wog, wog, wog_c (fun i hi => h i (by omega))]
    by_cases z : set >>> (nI n &&& 31) &&& 1 = 1
    · rw [if_pos z, if_pos z, h n (by omega) z]
    · rw [if_neg z, if_neg z]
theorem bit_hi : ∀ i, i < 8 → ∀ s, s < 2 ^ i → ¬ nI s >>> (nI i &&& 31) &&& 1 = 1 := by decide +kernel
theorem lts_c {X Y : Nat → Int64} (held : Int64) {G : Nat} (hG : G ≤ 8) (h : ∀ i, i < G → X i = Y i) : ∀ s, s ≤ 2 ^ G → lts X held s = lts Y held s
  | 0, _ => rfl
  | s + 1, hs => by
    rw [lts, lts, lts_c held hG h s (by omega)]
    have e : wog X (nI s) 8 = wog Y (nI s) 8 := wog_c (fun i hi hb => by
      rcases Nat.lt_or_ge s (2 ^ i) with q | q
      · exact absurd hb (bit_hi i hi s q)
      · refine h i ?_
        rcases Nat.lt_or_ge i G with r | r
        · exact r
        · have := Nat.pow_le_pow_right (n := 2) (by decide) r
          omega)
    rw [e]
theorem needed_c {V W : Nat → Nat → Int32} {E D : Nat → Int32} {N G : Nat} (J J2 : Nat → Int64) (hG8 : G ≤ 8) (hG : G ≤ N) (hN : N ≤ 32) (h : EQ V E W D N) (i what : Int32) : neededA N G V E J i what = neededA N G W D J2 i what := by
  unfold neededA
  have e : lts (gwF V E J G) (holdsA N V E i) (2 ^ G) = lts (gwF W D J2 G) (holdsA N W D i) (2 ^ G) := by
    rw [holds_c hN h i]
    refine lts_c _ hG8 (fun j hj => ?_) _ (Nat.le_refl _)
    unfold gwF
    rw [if_pos hj, if_pos hj, (h j (by omega)).2, wh_c _ (h j (by omega)).1]
  rw [e]
theorem cos_c {C B : Nat → Int32} (w : Int32) : ∀ {n}, (∀ j, j < n → C j = B j) → cos C w n = cos B w n
  | 0, _ => rfl
  | n + 1, h => by rw [cos, cos, cos_c w (fun j hj => h j (by omega)), h n (by omega)]
theorem chs_c (t : Int64) {C B : Nat → Int32} (h : ∀ j, j < 6 → C j = B j) : ∀ n, chs t C n = chs t B n
  | 0 => rfl
  | n + 1 => by rw [chs, chs, chs_c t h n, cos_c _ h, cos_c _ h]
theorem least_c {V W : Nat → Nat → Int32} {E D : Nat → Int32} {N G : Nat} {C B : Nat → Int32} (hG : G ≤ N) (h : EQ V E W D N) (hC : ∀ j, j < 6 → C j = B j) (what : Int32) : leastA G V E C what = leastA G W D B what := by
  unfold leastA; rw [tws_c h hG, chs_c _ hC, cos_c _ hC]
theorem cost_c {C B : Nat → Int32} (h : ∀ j, j < 6 → C j = B j) (a v : Int32) : costA C a v = costA B a v ∧ ∀ j, j < 6 → costC C a v j = costC B a v j := by
  unfold costA costC
  by_cases c : ¬ a < 0 ∧ ¬ 6 ≤ a ∧ ¬ v < 0 ∧ v ≤ 99
  · rw [if_pos c, if_pos c, if_pos c, if_pos c]
    obtain ⟨b, hb, -, e⟩ := a_in c.1 c.2.1
    rw [e]
    refine ⟨h b hb, fun j hj => ?_⟩
    simp only [upd]; split
    · rfl
    · exact h j hj
  · rw [if_neg c, if_neg c, if_neg c, if_neg c]; exact ⟨rfl, h⟩
theorem forced_c {V W : Nat → Nat → Int32} {E D : Nat → Int32} {N : Nat} (h : EQ V E W D N) (n so nt what : Int32) : forcedA N V E n so nt what = forcedA N W D n so nt what := by
  unfold forcedA
  by_cases c : okF N n so nt what
  · rw [if_pos c, if_pos c]
    have : n.toNatClampNeg ≤ N ∨ 2 ^ 31 ≤ N := by
      obtain ⟨k, hk, e, e2⟩ := f_in ⟨c.1, c.2.1⟩
      rw [e2]
      rcases Nat.lt_or_ge N (2 ^ 31) with q | q
      · refine Or.inl ?_
        have := c.2.1
        rw [e] at this
        rcases Nat.lt_or_ge N k with r | r
        · exact absurd (nI_lt r hk) this
        · exact r
      · exact Or.inr q
    rcases this with q | q
    · rw [fps_c (W := V) (V := W) (D := E) (E := D) so nt (fun i hi x y z => by rw [(h i (by omega)).2]; exact vst_c _ x y z (h i (by omega)).1) 7]
    · have hl : n.toNatClampNeg ≤ N := by
        have := Int32.toInt_lt n
        have e : n.toNatClampNeg = n.toInt.toNat := rfl
        omega
      rw [fps_c (W := V) (V := W) (D := E) (E := D) so nt (fun i hi x y z => by rw [(h i (by omega)).2]; exact vst_c _ x y z (h i (by omega)).1) 7]
  · rw [if_neg c, if_neg c]
/-! covers -/
theorem cv_c {w v : Nat → Int32} (set : Int32) : ∀ {n}, (∀ j, j < n → w j = v j) → cv w set n = cv v set n
  | 0, _ => rfl
  | n + 1, h => by rw [cv, cv, cv_c set (fun j hj => h j (by omega)), h n (by omega)]
theorem cv_in {w : Nat → Int32} (set : Int32) : ∀ {n}, n ≤ 6 → (∀ j, j < n → bz 9999 (w j)) → 0 ≤ (cv w set n).toInt ∧ (cv w set n).toInt ≤ 9999 * n
  | 0, _, _ => ⟨by rw [cv, i0]; omega, by rw [cv, i0]; omega⟩
  | n + 1, hn, h => by
    obtain ⟨h1, h2⟩ := cv_in set (n := n) (by omega) (fun j hj => h j (by omega))
    have hw := h n (by omega)
    have ha := abs_in2 (x := w n) ⟨by have := hw.1; omega, by have := hw.2; omega⟩
    have hb : 0 ≤ (abs32 (w n)).toInt ∧ (abs32 (w n)).toInt ≤ 9999 := by
      rw [ha]; have := hw.1; have := hw.2; split <;> omega
    rw [cv]
    split
    · rw [add_in (by omega) (by omega)]; omega
    · rw [Int32.add_zero]; omega
theorem bt01 (x : Int32) {i : Nat} (hi : i < 32) : bt x i = 0 ∨ bt x i = 1 := by
  rw [bt_bv x hi]
  by_cases z : x.toBitVec.getLsbD i = true
  · rw [if_pos z]; exact Or.inr rfl
  · rw [if_neg z]; exact Or.inl rfl
theorem cvM_e {w : Nat → Int32} {d : Int32} (set : Int32) (hd : 0 ≤ d.toInt ∧ d.toInt ≤ 99999) : ∀ {n}, n ≤ 6 → (∀ j, j < n → bz 9999 (w j)) → (cvM w d set n).toInt = (cv w set n).toInt - d.toInt
  | 0, _, _ => by rw [cvM, cv, i0, neg_in2 ⟨by omega, by omega⟩]; omega
  | n + 1, hn, h => by
    have ih := cvM_e set hd (n := n) (by omega) (fun j hj => h j (by omega))
    obtain ⟨c1, c2⟩ := cv_in set (w := w) (n := n) (by omega) (fun j hj => h j (by omega))
    have hw := h n (by omega)
    have ha := abs_in2 (x := w n) ⟨by have := hw.1; omega, by have := hw.2; omega⟩
    have hb : 0 ≤ (abs32 (w n)).toInt ∧ (abs32 (w n)).toInt ≤ 9999 := by
      rw [ha]; have := hw.1; have := hw.2; split <;> omega
    rw [cvM, cv]
    rcases bt01 set (i := n) (by omega) with z | z
    · rw [if_neg (by rw [z]; decide), if_pos (show set >>> (nI n &&& 31) &&& 1 = 0 from z), add_in (by omega) (by omega), add_in (by omega) (by omega), ih]; omega
    · rw [if_pos z, if_neg (show ¬ set >>> (nI n &&& 31) &&& 1 = 0 by rw [show set >>> (nI n &&& 31) &&& 1 = 1 from z]; decide), Int32.add_zero, Int32.add_zero, ih]
theorem isc_e {w : Nat → Int32} {d : Int32} (hb : bL w d) (set : Int32) : isc w d set ↔ ¬ d ≤ cv w set 6 := by
  have e := cvM_e set ⟨hb.2.1, hb.2.2⟩ (Nat.le_refl 6) hb.1
  unfold isc
  rw [Int32.lt_iff_toInt_lt, i0, Int32.le_iff_toInt_le, e]; omega
theorem bit_wo : ∀ s, s < 64 → ∀ j, j < 6 → ∀ i, i < 6 → ¬ i = j → (nI s &&& ((1 : Int32) <<< (nI j &&& 31) ^^^ -1)) >>> (nI i &&& 31) &&& 1 = nI s >>> (nI i &&& 31) &&& 1 := by decide +kernel
theorem cv_wo {w : Nat → Int32} {s j : Nat} (hs : s < 64) (hj : j < 6) (h0 : w j = 0) : ∀ {n}, n ≤ 6 → cv w (nI s &&& ((1 : Int32) <<< (nI j &&& 31) ^^^ -1)) n = cv w (nI s) n
  | 0, _ => rfl
  | n + 1, hn => by
    rw [cv, cv, cv_wo hs hj h0 (by omega)]
    by_cases e : n = j
    · subst e
      have z : abs32 (w n) = 0 := by rw [h0]; decide
      rw [z]
      split <;> split <;> rfl
    · rw [bit_wo s hs j hj n (by omega) e]
theorem nsp_e {w : Nat → Int32} {d : Int32} (hb : bL w d) {s j : Nat} (hs : s < 64) (hj : j < 6) (hc : ¬ d ≤ cv w (nI s) 6) : nsp w d (nI s) j ↔ ¬ spare w d (nI s) j := by
  unfold nsp spare
  rw [isc_e hb]
  rcases bt01 (nI s) (i := j) (by omega) with z | z
  · refine ⟨fun _ q => ?_, fun _ => Or.inl z⟩
    rw [show nI s >>> (nI j &&& 31) &&& 1 = 0 from z] at q
    exact absurd q.1 (by decide)
  · constructor
    · rintro (q | ⟨q, r⟩)
      · rw [z] at q; exact absurd q (by decide)
      · exact fun p => r p.2
    · intro q
      refine Or.inr ⟨fun h0 => ?_, fun r => q ⟨z, r⟩⟩
      exact q ⟨z, by rw [cv_wo hs hj h0 (Nat.le_refl 6)]; exact hc⟩
theorem lcm_e {w : Nat → Int32} {d : Int32} (hb : bL w d) {s : Nat} (hs : s < 64) : ∀ {n}, n ≤ 6 → (lcm' w d (nI s) n ↔ (¬ d ≤ cv w (nI s) 6 ∧ ∀ j, j < n → ¬ spare w d (nI s) j))
  | 0, _ => by
    rw [lcm', isc_e hb]
    exact ⟨fun h => ⟨h, fun j hj => absurd hj (Nat.not_lt_zero j)⟩, fun h => h.1⟩
  | n + 1, hn => by
    rw [lcm', lcm_e hb hs (by omega)]
    constructor
    · rintro ⟨⟨h1, h2⟩, h3⟩
      refine ⟨h1, fun j hj => ?_⟩
      by_cases e : j = n
      · subst e; exact (nsp_e hb hs (by omega) h1).mp h3
      · exact h2 j (by omega)
    · rintro ⟨h1, h2⟩
      exact ⟨⟨h1, fun j hj => h2 j (by omega)⟩, (nsp_e hb hs (by omega) h1).mpr (h2 n (by omega))⟩
theorem cov_e {w : Nat → Int32} {d k : Int32} (hb : bL w d) (hk : -1 ≤ k) : ∀ (n s : Nat) (f r : Int32), s + n = 64 → covM w d k n s f r → r = covR w d k n s f
  | 0, s, f, r, _, h => by
    rw [covM] at h
    rw [h, covR]
    by_cases z : k = -1
    · rw [if_pos z, if_pos (by rw [z]; decide)]
    · rw [if_neg z, if_neg (fun q => z ?_)]
      rw [Int32.lt_iff_toInt_lt, i0] at q
      rw [Int32.le_iff_toInt_le] at hk
      have e : (-1 : Int32).toInt = -1 := rfl
      exact Int32.toInt_inj.mp (by omega)
  | n + 1, s, f, r, hs, h => by
    rw [covM] at h
    rw [covR]
    have e := lcm_e hb (s := s) (by omega) (Nat.le_refl 6)
    rcases h with ⟨a, b, c⟩ | ⟨a, b, c⟩ | ⟨a, c⟩
    · rw [if_pos (e.mp a), if_pos b, c]
    · rw [if_pos (e.mp a), if_neg b]; exact cov_e hb hk n (s + 1) _ r (by omega) c
    · rw [if_neg (fun z => a (e.mpr z))]; exact cov_e hb hk n (s + 1) f r (by omega) c
theorem covR_c {w v : Nat → Int32} (d k : Int32) (h : ∀ j, j < 6 → w j = v j) : ∀ n s f, covR w d k n s f = covR v d k n s f
  | 0, _, _ => rfl
  | n + 1, s, f => by
    have e : lcov w d (nI s) ↔ lcov v d (nI s) := by
      unfold lcov spare
      rw [cv_c _ h]
      constructor
      · rintro ⟨a, b⟩
        exact ⟨a, fun j hj => by rw [← cv_c _ h]; exact b j hj⟩
      · rintro ⟨a, b⟩
        exact ⟨a, fun j hj => by rw [cv_c _ h]; exact b j hj⟩
    rw [covR, covR, covR_c d k h n (s + 1) (f + 1), covR_c d k h n (s + 1) f]
    by_cases z : lcov w d (nI s)
    · rw [if_pos z, if_pos (e.mp z)]
    · rw [if_neg z, if_neg (fun q => z (e.mpr q))]
theorem covers_c {V W : Nat → Nat → Int32} {E D : Nat → Int32} {N : Nat} (hN : N ≤ 32) (h : EQ V E W D N) (hB : BB W D N) (i k : Int32) {x : Int32} (hx : if isLn N i ∧ -1 ≤ k then covM (V i.toNatClampNeg) (E i.toNatClampNeg) k 64 0 0 x else x = -1) : x = coversA N W D i k := by
  unfold coversA
  by_cases c : isLn N i ∧ -1 ≤ k
  · rw [if_pos c] at hx ⊢
    obtain ⟨n, hn, -, e⟩ := isLn_n c.1 hN
    rw [e] at hx ⊢
    have hb : bL (V n) (E n) := by rw [(h n hn).2]; exact bL_c (fun j hj => ((h n hn).1 j hj).symm) (hB n hn)
    rw [cov_e hb c.2 64 0 0 x rfl hx, (h n hn).2]
    exact covR_c _ _ (h n hn).1 _ _ _
  · rw [if_neg c] at hx ⊢; exact hx
/-! the text -/
theorem ushL_bv (x : Int64) {w : Nat} (hw : w < 64) : (ushL x (nI w)).toBitVec = x.toBitVec >>> w := by
  have e2 : ∀ w, w < 64 → ((nI w).toInt64.toUInt64 &&& Int64.toUInt64 63).toBitVec = BitVec.ofNat 64 w := by decide +kernel
  show ((x.toUInt64 >>> ((nI w).toInt64.toUInt64 &&& Int64.toUInt64 63)).toInt64).toBitVec = _
  have : ((x.toUInt64 >>> ((nI w).toInt64.toUInt64 &&& Int64.toUInt64 63)).toInt64).toBitVec = (x.toUInt64 >>> ((nI w).toInt64.toUInt64 &&& Int64.toUInt64 63)).toBitVec := rfl
  rw [this, UInt64.toBitVec_shiftRight, e2 w hw]
  have : ∀ w, w < 64 → (BitVec.ofNat 64 w % 64) = BitVec.ofNat 64 w := by decide +kernel
  rw [this w hw, BitVec.ushiftRight_eq']
  have e5 : (BitVec.ofNat 64 w).toNat = w := by simp; omega
  rw [e5]; rfl
theorem shr_bv (x : Int64) {w : Nat} (hw : w < 64) : (x >>> ((nI w).toInt64 &&& 63)).toBitVec = x.toBitVec.sshiftRight w := by
  have e1 : ∀ w, w < 64 → ((nI w).toInt64 &&& 63).toBitVec.smod 64 = BitVec.ofNat 64 w := by decide +kernel
  have e5 : (BitVec.ofNat 64 w).toNat = w := by simp; omega
  rw [Int64.toBitVec_shiftRight, e1 w hw, BitVec.sshiftRight_eq', e5]
theorem by_e (v : Int64) {i : Nat} (hi : i < 8) : byM v i = byC v i &&& 255 := by
  have e9 : ∀ i, i < 8 → (8 : Int32) * nI i = nI (8 * i) := by decide +kernel
  have m32 : ∀ j, j < 32 → (255 : Int32).toBitVec.getLsbD j = decide (j < 8) := by decide +kernel
  have m64 : ∀ j, j < 64 → (255 : Int64).toBitVec.getLsbD j = decide (j < 8) := by decide +kernel
  unfold byM byC
  rw [e9 i hi]
  apply Int32.toBitVec.inj
  have a1 : ∀ x : Int64, x.toInt32.toBitVec = x.toBitVec.signExtend 32 := fun x => rfl
  have a2 : ∀ x : Int32, x.toInt8.toBitVec = x.toBitVec.signExtend 8 := fun x => rfl
  have a3 : ∀ x : Int8, x.toInt32.toBitVec = x.toBitVec.signExtend 32 := fun x => rfl
  apply BitVec.eq_of_getLsbD_eq
  intro j hj
  rw [a1, BitVec.getLsbD_signExtend, if_pos (by omega), Int64.toBitVec_and, BitVec.getLsbD_and, shr_bv v (by omega), m64 j (by omega), Int32.toBitVec_and, BitVec.getLsbD_and, m32 j hj]
  by_cases h : j < 8
  · rw [a3, BitVec.getLsbD_signExtend, if_pos h, a2, BitVec.getLsbD_signExtend, if_pos (by omega), Int32.toBitVec_and, BitVec.getLsbD_and, m32 j hj, a1, BitVec.getLsbD_signExtend, if_pos (by omega), ushL_bv v (by omega), BitVec.getLsbD_ushiftRight, BitVec.getLsbD_sshiftRight]
    simp [h, hj, show 8 * i + j < 64 by omega, show ¬ 64 ≤ j by omega]
  · simp [h]

