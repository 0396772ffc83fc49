/-! the reference: what is forced -/
theorem bt_bv (x : Int32) {j : Nat} (hj : j < 32) : bt x j = if x.toBitVec.getLsbD j then 1 else 0 := by
  have e1 : ∀ w, w < 32 → (nI w &&& 31).toBitVec.smod 32 = BitVec.ofNat 32 w := by decide +kernel
  apply Int32.toBitVec.inj
  unfold bt
  rw [Int32.toBitVec_and, Int32.toBitVec_shiftRight, e1 j hj]
  have e5 : (BitVec.ofNat 32 j).toNat = j := by simp; omega
  apply BitVec.eq_of_getLsbD_eq
  intro i hi
  have r1 : ∀ i, i < 32 → (1 : Int32).toBitVec.getLsbD i = decide (i = 0) := by decide +kernel
  have r0 : ∀ i, i < 32 → (0 : Int32).toBitVec.getLsbD i = false := by decide +kernel
  rw [BitVec.getLsbD_and, BitVec.sshiftRight_eq', e5, BitVec.getLsbD_sshiftRight, r1 i hi]
  by_cases h : i = 0
  · subst h
    by_cases q : x.toBitVec.getLsbD j = true
    · rw [if_pos q, r1 0 hi]; simp only [Nat.add_zero, if_pos hj, q]; rfl
    · rw [if_neg q, r0 0 hi]; simp only [Nat.add_zero, if_pos hj, q]; rfl
  · by_cases q : x.toBitVec.getLsbD j = true
    · rw [if_pos q, r1 i hi]; simp [h]
    · rw [if_neg q, r0 i hi]; simp [h]
theorem bt_01 (x : Int32) {j : Nat} (hj : j < 32) : bt x j = 0 ∨ bt x j = 1 := by
  rw [bt_bv x hj]; split
  · exact Or.inr rfl
  · exact Or.inl rfl
theorem bt_or (x : Int32) : ∀ {i j : Nat}, i < 6 → j < 6 → bt (x ||| bit1 i) j = if j = i then 1 else bt x j := by
  intro i j hi hj
  have e : ∀ i, i < 6 → ∀ j, j < 6 → (bit1 i).toBitVec.getLsbD j = decide (j = i) := by decide +kernel
  rw [bt_bv _ (by omega), bt_bv _ (by omega), Int32.toBitVec_or, BitVec.getLsbD_or, e i hi j hj]
  by_cases h : j = i
  · simp [h]
  · simp [h]
def cn1 (x : Int32) (i : Nat) : Nat := if bt x i = 1 then 1 else 0
def cnt (x : Int32) : Nat := cn1 x 0 + cn1 x 1 + cn1 x 2 + cn1 x 3 + cn1 x 4 + cn1 x 5
theorem cnt_le (x : Int32) : cnt x ≤ 6 := by
  have c : ∀ i, cn1 x i ≤ 1 := fun i => by unfold cn1; split <;> omega
  have c0 := c 0; have c1 := c 1; have c2 := c 2; have c3 := c 3; have c4 := c 4; have c5 := c 5
  unfold cnt; omega
theorem cn1_or (x : Int32) {i j : Nat} (hi : i < 6) (hj : j < 6) (h0 : bt x i = 0) : cn1 (x ||| bit1 i) j = cn1 x j + (if j = i then 1 else 0) := by
  unfold cn1
  rw [bt_or x hi hj]
  by_cases h : j = i
  · subst h; simp [h0]
  · simp [h]
theorem cnt_or (x : Int32) {i : Nat} (hi : i < 6) (h0 : bt x i = 0) : cnt (x ||| bit1 i) = cnt x + 1 := by
  unfold cnt
  rw [cn1_or x hi (by omega : 0 < 6) h0, cn1_or x hi (by omega : 1 < 6) h0, cn1_or x hi (by omega : 2 < 6) h0, cn1_or x hi (by omega : 3 < 6) h0, cn1_or x hi (by omega : 4 < 6) h0, cn1_or x hi (by omega : 5 < 6) h0]
  have : i = 0 ∨ i = 1 ∨ i = 2 ∨ i = 3 ∨ i = 4 ∨ i = 5 := by omega
  rcases this with h | h | h | h | h | h <;> subst h <;> simp <;> omega
theorem or_l (a b c : Int32) : (a ||| c) ||| b = (a ||| b) ||| c := by rw [Int32.or_assoc, Int32.or_comm c b, ← Int32.or_assoc]
theorem or_r (a b c : Int32) : a ||| (b ||| c) = (a ||| b) ||| c := (Int32.or_assoc a b c).symm
/-- a step of the letters either leaves all or adds one -/
theorem vs_cnt (w : Nat → Int32) (sl a b : Int32) : ∀ i, i ≤ 6 → cnt (a ||| b) ≤ cnt ((vs w sl a b i).1 ||| (vs w sl a b i).2) ∧ (cnt (a ||| b) = cnt ((vs w sl a b i).1 ||| (vs w sl a b i).2) → vs w sl a b i = (a, b))
  | 0, _ => ⟨Nat.le_refl _, fun _ => rfl⟩
  | i + 1, h => by
    obtain ⟨h1, h2⟩ := vs_cnt w sl a b i (by omega)
    rw [vs]
    split
    · rename_i q
      dsimp only
      rw [or_l, cnt_or _ (by omega) q.1]
      exact ⟨by omega, fun z => by omega⟩
    · split
      · rename_i q
        dsimp only
        rw [or_r, cnt_or _ (by omega) q.1]
        exact ⟨by omega, fun z => by omega⟩
      · exact ⟨h1, h2⟩
theorem vst_cnt (w : Nat → Int32) (d a b c : Int32) : cnt (a ||| b) ≤ cnt ((vst w d a b c).1 ||| (vst w d a b c).2.1) ∧ (cnt (a ||| b) = cnt ((vst w d a b c).1 ||| (vst w d a b c).2.1) → (vst w d a b c).1 = a ∧ (vst w d a b c).2.1 = b) := by
  unfold vst
  split
  · obtain ⟨h1, h2⟩ := vs_cnt w (mw w a b 6 - d) a b 6 (Nat.le_refl _)
    exact ⟨h1, fun z => by have := h2 z; dsimp only; rw [this]; exact ⟨rfl, rfl⟩⟩
  · exact ⟨Nat.le_refl _, fun _ => ⟨rfl, rfl⟩⟩
theorem pvs_cnt (W : Nat → Nat → Int32) (D : Nat → Int32) (a b : Int32) : ∀ i, cnt (a ||| b) ≤ cnt ((pvs W D a b i).1 ||| (pvs W D a b i).2.1) ∧ (cnt (a ||| b) = cnt ((pvs W D a b i).1 ||| (pvs W D a b i).2.1) → (pvs W D a b i).1 = a ∧ (pvs W D a b i).2.1 = b)
  | 0 => ⟨Nat.le_refl _, fun _ => ⟨rfl, rfl⟩⟩
  | i + 1 => by
    obtain ⟨h1, h2⟩ := pvs_cnt W D a b i
    rw [pvs]
    split
    · obtain ⟨k1, k2⟩ := vst_cnt (W i) (D i) (pvs W D a b i).1 (pvs W D a b i).2.1 (pvs W D a b i).2.2
      refine ⟨by omega, fun z => ?_⟩
      obtain ⟨e1, e2⟩ := h2 (by omega)
      obtain ⟨f1, f2⟩ := k2 (by omega)
      exact ⟨f1.trans e1, f2.trans e2⟩
    · exact ⟨h1, h2⟩
theorem fps_cnt (W : Nat → Nat → Int32) (D : Nat → Int32) (N : Nat) (a b : Int32) : ∀ p, ¬ ((fps W D N a b p).2 = 0 ∨ ¬ (fps W D N a b p).1.2.2 = 0) → p ≤ cnt ((fps W D N a b p).1.1 ||| (fps W D N a b p).1.2.1)
  | 0, _ => Nat.zero_le _
  | p + 1, h => by
    by_cases q : (fps W D N a b p).2 = 0 ∨ ¬ (fps W D N a b p).1.2.2 = 0
    · rw [fps, if_pos q] at h; exact absurd q h
    · have ih := fps_cnt W D N a b p q
      rw [fps, if_neg q] at h ⊢
      dsimp only at h ⊢
      obtain ⟨h1, h2⟩ := pvs_cnt W D (fps W D N a b p).1.1 (fps W D N a b p).1.2.1 N
      rcases Nat.lt_or_ge (cnt ((fps W D N a b p).1.1 ||| (fps W D N a b p).1.2.1)) (cnt ((pvs W D (fps W D N a b p).1.1 (fps W D N a b p).1.2.1 N).1 ||| (pvs W D (fps W D N a b p).1.1 (fps W D N a b p).1.2.1 N).2.1)) with z | z
      · omega
      · obtain ⟨e1, e2⟩ := h2 (by omega)
        exact absurd (Or.inl (by rw [if_pos (by rw [e1, e2])])) h
theorem fps_end (W : Nat → Nat → Int32) (D : Nat → Int32) (N : Nat) (a b : Int32) : (fps W D N a b 7).2 = 0 ∨ ¬ (fps W D N a b 7).1.2.2 = 0 := by
  by_cases q : (fps W D N a b 7).2 = 0 ∨ ¬ (fps W D N a b 7).1.2.2 = 0
  · exact q
  · have := fps_cnt W D N a b 7 q
    have := cnt_le ((fps W D N a b 7).1.1 ||| (fps W D N a b 7).1.2.1)
    omega
def wbd (x : Int32) : Prop := -100000 ≤ x.toInt ∧ x.toInt ≤ 100000
theorem abs_in {x : Int32} (h : wbd x) : (abs32 x).toInt = if 0 ≤ x.toInt then x.toInt else - x.toInt := by
  unfold abs32
  have a0 : (0 : Int32).toInt = 0 := rfl
  by_cases z : 0 ≤ x
  · rw [if_pos z, if_pos (by rw [Int32.le_iff_toInt_le, a0] at z; exact z)]
  · rw [if_neg z, if_neg (by rw [Int32.le_iff_toInt_le, a0] at z; exact z), Int32.toInt_sub, a0]
    have h1 := h.1; have h2 := h.2
    rw [show (0 : Int) - x.toInt = - x.toInt by omega]
    have := Int.bmod_eq_of_le (n := - x.toInt) (m := 2 ^ 32) (by omega) (by omega)
    exact this
theorem neg_in {x : Int32} (h : wbd x) : (-x).toInt = - x.toInt := by
  rw [Int32.toInt_neg]
  have h1 := h.1; have h2 := h.2
  exact Int.bmod_eq_of_le (by omega) (by omega)
def slM (w : Nat → Int32) (d so nt : Int32) : Nat → Int32
  | 0 => -d
  | i + 1 => slM w d so nt i + (if bt (if w i ≤ 0 then so else nt) i = 1 then 0 else abs32 (w i))
theorem sl_mw (w : Nat → Int32) (d so nt : Int32) : ∀ n, n ≤ 6 → slM w d so nt n = mw w so nt n - d
  | 0, _ => by rw [slM, mw, Int32.zero_sub]
  | i + 1, h => by
    rw [slM, mw, sl_mw w d so nt i (by omega)]
    have e : (if bt (if w i ≤ 0 then so else nt) i = 1 then (0 : Int32) else abs32 (w i)) = (if (if w i ≤ 0 then so else nt) >>> (nI i &&& 31) &&& 1 = 0 then abs32 (w i) else 0) := by
      rcases bt_01 (if w i ≤ 0 then so else nt) (j := i) (by omega) with q | q
      · rw [if_neg (by rw [q]; decide), if_pos (show (if w i ≤ 0 then so else nt) >>> (nI i &&& 31) &&& 1 = 0 from q)]
      · rw [if_pos q, if_neg (by intro z; have : bt (if w i ≤ 0 then so else nt) i = 0 := z; rw [q] at this; exact absurd this (by decide))]
    rw [e, Int32.sub_eq_add_neg, Int32.sub_eq_add_neg, Int32.add_assoc, Int32.add_comm (-d), ← Int32.add_assoc]
def fsn (F : Nat → Nat → Int32) (a b : Int32) : Nat → Nat → Int32 := fun q => if q = 167 then (fun j => if j = 16 then a else if j = 17 then b else F 167 j) else F q
theorem fsn_16 (F : Nat → Nat → Int32) (a b x : Int32) : up2 (fsn F a b) 167 16 x = fsn F x b := by
  funext q j
  by_cases h : q = 167
  · subst h; simp only [up2, upd, fsn, if_true]; by_cases e : j = 16 <;> simp [e]
  · simp [up2, fsn, h]
theorem fsn_17 (F : Nat → Nat → Int32) (a b x : Int32) : up2 (fsn F a b) 167 17 x = fsn F a x := by
  funext q j
  by_cases h : q = 167
  · subst h; simp only [up2, upd, fsn, if_true]
    by_cases e : j = 17
    · simp [e]
    · simp [e]
  · simp [up2, fsn, h]
theorem fsn_id (F : Nat → Nat → Int32) : F = fsn F (F 167 16) (F 167 17) := by
  funext q j
  by_cases h : q = 167
  · subst h; simp only [fsn, if_true]
    by_cases e : j = 16
    · simp [e]
    · by_cases e2 : j = 17 <;> simp [e, e2]
  · simp [fsn, h]
theorem fsn_0 (F : Nat → Nat → Int32) (a b : Int32) : up2 (up2 F 167 16 a) 167 17 b = fsn F a b := by
  have h : up2 (up2 F 167 16 a) 167 17 b = up2 (up2 (fsn F (F 167 16) (F 167 17)) 167 16 a) 167 17 b := congrArg (fun G => up2 (up2 G 167 16 a) 167 17 b) (fsn_id F)
  rw [h, fsn_16, fsn_17]
/-- a letter's step in the words of the class -/
theorem vs_st {w : Nat → Int32} {sl a b : Int32} {i : Nat} (hw : wbd (w i)) (hs : 0 ≤ sl) (hsl : wbd sl ∨ True) :
    (bt ((vs w sl a b i).1 ||| (vs w sl a b i).2) i = 0 → ¬ abs32 (w i) ≤ sl → (¬ w i ≤ 0 → vs w sl a b (i + 1) = ((vs w sl a b i).1 ||| bit1 i, (vs w sl a b i).2)) ∧ (w i ≤ 0 → ¬ 0 ≤ w i ∧ vs w sl a b (i + 1) = ((vs w sl a b i).1, (vs w sl a b i).2 ||| bit1 i))) ∧ (bt ((vs w sl a b i).1 ||| (vs w sl a b i).2) i = 0 → abs32 (w i) ≤ sl → vs w sl a b (i + 1) = vs w sl a b i) ∧ (¬ bt ((vs w sl a b i).1 ||| (vs w sl a b i).2) i = 0 → vs w sl a b (i + 1) = vs w sl a b i) := by
  have ea := abs_in hw
  have en := neg_in hw
  rw [Int32.le_iff_toInt_le] at hs
  have a0 : (0 : Int32).toInt = 0 := rfl
  rw [a0] at hs
  refine ⟨fun h0 h1 => ⟨fun h2 => ?_, fun h2 => ?_⟩, fun h0 h1 => ?_, fun h0 => ?_⟩
  · rw [Int32.le_iff_toInt_le] at h1 h2
    rw [a0] at h2
    rw [ea, if_pos (by omega)] at h1
    rw [vs, if_pos ⟨h0, by rw [Int32.le_iff_toInt_le]; omega⟩]
  · rw [Int32.le_iff_toInt_le] at h1 h2
    rw [a0] at h2
    by_cases z : 0 ≤ (w i).toInt
    · rw [ea, if_pos z] at h1; omega
    · rw [ea, if_neg z] at h1
      refine ⟨by rw [Int32.le_iff_toInt_le, a0]; omega, ?_⟩
      rw [vs, if_neg (fun y => y.2 (by rw [Int32.le_iff_toInt_le]; omega)), if_pos ⟨h0, by rw [Int32.le_iff_toInt_le, en]; omega⟩]
  · rw [Int32.le_iff_toInt_le, ea] at h1
    have k1 : w i ≤ sl := by rw [Int32.le_iff_toInt_le]; split at h1 <;> omega
    have k2 : -(w i) ≤ sl := by rw [Int32.le_iff_toInt_le, en]; split at h1 <;> omega
    rw [vs, if_neg (fun y => y.2 k1), if_neg (fun y => y.2 k2)]
  · exact vs_no h0
def fg (m m2 : Int32) (a b s t : Int32) : Prop := (m2 = m ∧ s = a ∧ t = b) ∨ (m2 = 1 ∧ cnt (a ||| b) < cnt (s ||| t))
theorem fg_tr {m m1 m2 a b s t u v : Int32} (h1 : fg m m1 a b s t) (h2 : fg m1 m2 s t u v) : fg m m2 a b u v := by
  rcases h1 with ⟨rfl, rfl, rfl⟩ | ⟨rfl, c1⟩
  · exact h2
  · rcases h2 with ⟨rfl, rfl, rfl⟩ | ⟨rfl, c2⟩
    · exact Or.inr ⟨rfl, c1⟩
    · exact Or.inr ⟨rfl, by omega⟩
set_option maxRecDepth 100000 in
set_option maxHeartbeats 4000000 in
theorem lm_sl (g : Gl) (l : Launch) {zc : Option Value → Sg → Prop} (a0 b0 : Int32) (N : Nat) (m s t : Int32) (F : Nat → Nat → Int32) (J : Nat → Int64) {n0 : Nat} (hn0 : n0 < 33) {XX : State → Method → Prop} (n : Nat) : ∀ (j : Nat) (jx x : Int32) (x9 x10 : Option Value), j + n = 6 → jx = nI j → x = slM (Wm F n0) (Dm F n0) s t j → (∀ x8 x9 x10, Gj g l (rmd 1 0 0) XX (QM g zc 0 0) RX8 cX8_clashes 11 (some .boolean) 121 [some (.ref 167), some (.int (nI N)), some (.int a0), some (.int b0), some (.int m), some (.int (nI n0)), some (.int (7 * nI n0)), some (.int (mw (Wm F n0) s t 6 - Dm F n0)), x8, x9, x10] [] (St (fsn F s t) J) 0 0) → Gj g l (rmd 1 0 0) XX (QM g zc 0 0) RX8 cX8_clashes 11 (some .boolean) 53 [some (.ref 167), some (.int (nI N)), some (.int a0), some (.int b0), some (.int m), some (.int (nI n0)), some (.int (7 * nI n0)), some (.int x), some (.int jx), x9, x10] [] (St (fsn F s t) J) 0 0 := by
  induction n with
  | zero =>
    intro j jx x x9 x10 hi hx he kk
    obtain rfl : j = 6 := by omega
    subst hx; subst he
    refine g_iload 55 dX8_clashes_53 rfl rfl ?_
    refine g_bipush (6) 57 dX8_clashes_55 rfl (by decide) ?_
    refine g_icmp_ge 121 60 dX8_clashes_57 rfl (by decide) (fun h57 => ?_) (fun h57 => ?_)
    · rw [sl_mw (Wm F n0) (Dm F n0) s t 6 (Nat.le_refl _)]
      exact kk _ _ _
    · exact absurd (by decide) h57
  | succ n ih =>
    intro j jx x x9 x10 hi hx he kk
    subst hx
    refine g_iload 55 dX8_clashes_53 rfl rfl ?_
    refine g_bipush (6) 57 dX8_clashes_55 rfl (by decide) ?_
    refine g_icmp_ge 121 60 dX8_clashes_57 rfl (by decide) (fun h57 => ?_) (fun h57 => ?_)
    · exact absurd h57 (lt6 (by omega))
    · refine g_aload_n 61 dX8_clashes_60 rfl rfl ?_
      refine gf_8_8 64 dX8_clashes_61 rfl kf_X8_13 ?_
      refine g_iload 66 dX8_clashes_64 rfl rfl ?_
      refine g_iload 68 dX8_clashes_66 rfl rfl ?_
      refine g_iadd 69 dX8_clashes_68 rfl ?_
      refine ga_ild (7 * n0 + j) 70 dX8_clashes_69 rfl (by first | decide | assumption | exact ⟨Nat.le_of_ble_eq_true rfl, rfl⟩) (ix7 n0 j) (show 7 * n0 + j < 231 by omega) ?_
      refine g_istore 72 dX8_clashes_70 rfl (by decide) ?_
      refine g_iload 74 dX8_clashes_72 rfl rfl ?_
      refine g_if_le 84 77 dX8_clashes_74 rfl (by decide) (fun h74 => ?_) (fun h74 => ?_)
      · refine g_aload_n 85 dX8_clashes_84 rfl rfl ?_
        refine gf_8_16 88 dX8_clashes_85 rfl kf_X8_162 (by first | decide | assumption | exact ⟨Nat.le_of_ble_eq_true rfl, rfl⟩) ?_
        refine g_istore 90 dX8_clashes_88 rfl (by decide) ?_
        refine g_iload 92 dX8_clashes_90 rfl rfl ?_
        refine g_iload 94 dX8_clashes_92 rfl rfl ?_
        refine g_iload 96 dX8_clashes_94 rfl rfl ?_
        refine g_ishr 97 dX8_clashes_96 rfl ?_
        refine g_iconst (1) 98 dX8_clashes_97 rfl (by decide) ?_
        refine g_iand 99 dX8_clashes_98 rfl ?_
        refine g_iconst (1) 100 dX8_clashes_99 rfl (by decide) ?_
        refine g_icmp_ne 107 103 dX8_clashes_100 rfl (by decide) (fun h100 => ?_) (fun h100 => ?_)
        · refine g_iload 109 dX8_clashes_107 rfl rfl ?_
          refine g_s1 112 dX8_clashes_109 rfl kl_X8_119 ms_X8_size ⟨Nat.le_of_ble_eq_true rfl, Nat.le_of_ble_eq_true rfl⟩ (Nat.le_of_ble_eq_true rfl) (m_size g l _ _) ?_
          rintro _ _ ⟨rfl, rfl⟩
          refine g_iadd 113 dX8_clashes_112 rfl ?_
          refine g_istore 115 dX8_clashes_113 rfl (by decide) ?_
          refine g_iinc (1) 118 dX8_clashes_115 rfl (by decide) (by decide) rfl ?_
          refine g_goto 53 dX8_clashes_118 (by decide) ?_
          exact ih (j + 1) _ _ _ _ (by omega) (nI_succ j).symm (by rw [slM, ← he, if_pos (show Wm F n0 j ≤ 0 from h74), if_neg (show ¬ bt s j = 1 from h100)]; rfl) kk
        · refine g_iconst (0) 104 dX8_clashes_103 rfl (by decide) ?_
          refine g_goto 112 dX8_clashes_104 (by decide) ?_
          refine g_iadd 113 dX8_clashes_112 rfl ?_
          refine g_istore 115 dX8_clashes_113 rfl (by decide) ?_
          refine g_iinc (1) 118 dX8_clashes_115 rfl (by decide) (by decide) rfl ?_
          refine g_goto 53 dX8_clashes_118 (by decide) ?_
          exact ih (j + 1) _ _ _ _ (by omega) (nI_succ j).symm (by rw [slM, ← he, if_pos (show Wm F n0 j ≤ 0 from h74), if_pos (show bt s j = 1 from h100)]) kk
      · refine g_aload_n 78 dX8_clashes_77 rfl rfl ?_
        refine gf_8_17 81 dX8_clashes_78 rfl kf_X8_165 (by first | decide | assumption | exact ⟨Nat.le_of_ble_eq_true rfl, rfl⟩) ?_
        refine g_goto 88 dX8_clashes_81 (by decide) ?_
        refine g_istore 90 dX8_clashes_88 rfl (by decide) ?_
        refine g_iload 92 dX8_clashes_90 rfl rfl ?_
        refine g_iload 94 dX8_clashes_92 rfl rfl ?_
        refine g_iload 96 dX8_clashes_94 rfl rfl ?_
        refine g_ishr 97 dX8_clashes_96 rfl ?_
        refine g_iconst (1) 98 dX8_clashes_97 rfl (by decide) ?_
        refine g_iand 99 dX8_clashes_98 rfl ?_
        refine g_iconst (1) 100 dX8_clashes_99 rfl (by decide) ?_
        refine g_icmp_ne 107 103 dX8_clashes_100 rfl (by decide) (fun h100 => ?_) (fun h100 => ?_)
        · refine g_iload 109 dX8_clashes_107 rfl rfl ?_
          refine g_s1 112 dX8_clashes_109 rfl kl_X8_119 ms_X8_size ⟨Nat.le_of_ble_eq_true rfl, Nat.le_of_ble_eq_true rfl⟩ (Nat.le_of_ble_eq_true rfl) (m_size g l _ _) ?_
          rintro _ _ ⟨rfl, rfl⟩
          refine g_iadd 113 dX8_clashes_112 rfl ?_
          refine g_istore 115 dX8_clashes_113 rfl (by decide) ?_
          refine g_iinc (1) 118 dX8_clashes_115 rfl (by decide) (by decide) rfl ?_
          refine g_goto 53 dX8_clashes_118 (by decide) ?_
          exact ih (j + 1) _ _ _ _ (by omega) (nI_succ j).symm (by rw [slM, ← he, if_neg (show ¬ Wm F n0 j ≤ 0 from h74), if_neg (show ¬ bt t j = 1 from h100)]; rfl) kk
        · refine g_iconst (0) 104 dX8_clashes_103 rfl (by decide) ?_
          refine g_goto 112 dX8_clashes_104 (by decide) ?_
          refine g_iadd 113 dX8_clashes_112 rfl ?_
          refine g_istore 115 dX8_clashes_113 rfl (by decide) ?_
          refine g_iinc (1) 118 dX8_clashes_115 rfl (by decide) (by decide) rfl ?_
          refine g_goto 53 dX8_clashes_118 (by decide) ?_
          exact ih (j + 1) _ _ _ _ (by omega) (nI_succ j).symm (by rw [slM, ← he, if_neg (show ¬ Wm F n0 j ≤ 0 from h74), if_pos (show bt t j = 1 from h100)]) kk

set_option maxRecDepth 100000 in
set_option maxHeartbeats 4000000 in
theorem lm_let (g : Gl) (l : Launch) {zc : Option Value → Sg → Prop} (a0 b0 : Int32) (N : Nat) (m0 s0 t0 sl : Int32) (hsl : 0 ≤ sl) (F : Nat → Nat → Int32) (J : Nat → Int64) {n0 : Nat} (hn0 : n0 < 33) (hW : ∀ j, j < 6 → wbd (Wm F n0 j)) {XX : State → Method → Prop} (n : Nat) : ∀ (j : Nat) (jx s t m : Int32) (x9 x10 : Option Value), j + n = 6 → jx = nI j → (s, t) = vs (Wm F n0) sl s0 t0 j → fg m0 m s0 t0 s t → (∀ s t m x8 x9 x10, (s, t) = vs (Wm F n0) sl s0 t0 6 → fg m0 m s0 t0 s t → Gj g l (rmd 1 0 0) XX (QM g zc 0 0) RX8 cX8_clashes 11 (some .boolean) 230 [some (.ref 167), some (.int (nI N)), some (.int a0), some (.int b0), some (.int m), some (.int (nI n0)), some (.int (7 * nI n0)), some (.int sl), x8, x9, x10] [] (St (fsn F s t) J) 0 0) → Gj g l (rmd 1 0 0) XX (QM g zc 0 0) RX8 cX8_clashes 11 (some .boolean) 131 [some (.ref 167), some (.int (nI N)), some (.int a0), some (.int b0), some (.int m), some (.int (nI n0)), some (.int (7 * nI n0)), some (.int sl), some (.int jx), x9, x10] [] (St (fsn F s t) J) 0 0 := by
  induction n with
  | zero =>
    intro j jx s t m x9 x10 hi hx he hf kk
    obtain rfl : j = 6 := by omega
    subst hx
    refine g_iload 133 dX8_clashes_131 rfl rfl ?_
    refine g_bipush (6) 135 dX8_clashes_133 rfl (by decide) ?_
    refine g_icmp_ge 230 138 dX8_clashes_135 rfl (by decide) (fun h135 => ?_) (fun h135 => ?_)
    · exact kk _ _ _ _ _ _ he hf
    · exact absurd (by decide) h135
  | succ n ih =>
    intro j jx s t m x9 x10 hi hx he hf kk
    subst hx
    obtain ⟨v1, v2, v3⟩ := vs_st (w := Wm F n0) (sl := sl) (a := s0) (b := t0) (i := j) (hW j (by omega)) hsl (Or.inr trivial)
    have es : s = (vs (Wm F n0) sl s0 t0 j).1 := by rw [← he]
    have et : t = (vs (Wm F n0) sl s0 t0 j).2 := by rw [← he]
    rw [← es, ← et] at v1 v2 v3
    refine g_iload 133 dX8_clashes_131 rfl rfl ?_
    refine g_bipush (6) 135 dX8_clashes_133 rfl (by decide) ?_
    refine g_icmp_ge 230 138 dX8_clashes_135 rfl (by decide) (fun h135 => ?_) (fun h135 => ?_)
    · exact absurd h135 (lt6 (by omega))
    · refine g_aload_n 139 dX8_clashes_138 rfl rfl ?_
      refine gf_8_8 142 dX8_clashes_139 rfl kf_X8_13 ?_
      refine g_iload 144 dX8_clashes_142 rfl rfl ?_
      refine g_iload 146 dX8_clashes_144 rfl rfl ?_
      refine g_iadd 147 dX8_clashes_146 rfl ?_
      refine ga_ild (7 * n0 + j) 148 dX8_clashes_147 rfl (by first | decide | assumption | exact ⟨Nat.le_of_ble_eq_true rfl, rfl⟩) (ix7 n0 j) (show 7 * n0 + j < 231 by omega) ?_
      refine g_istore 150 dX8_clashes_148 rfl (by decide) ?_
      refine g_aload_n 151 dX8_clashes_150 rfl rfl ?_
      refine gf_8_16 154 dX8_clashes_151 rfl kf_X8_162 (by first | decide | assumption | exact ⟨Nat.le_of_ble_eq_true rfl, rfl⟩) ?_
      refine g_aload_n 155 dX8_clashes_154 rfl rfl ?_
      refine gf_8_17 158 dX8_clashes_155 rfl kf_X8_165 (by first | decide | assumption | exact ⟨Nat.le_of_ble_eq_true rfl, rfl⟩) ?_
      refine g_ior 159 dX8_clashes_158 rfl ?_
      refine g_iload 161 dX8_clashes_159 rfl rfl ?_
      refine g_ishr 162 dX8_clashes_161 rfl ?_
      refine g_iconst (1) 163 dX8_clashes_162 rfl (by decide) ?_
      refine g_iand 164 dX8_clashes_163 rfl ?_
      refine g_if_ne 224 167 dX8_clashes_164 rfl (by decide) (fun h164 => ?_) (fun h164 => ?_)
      · refine g_iinc (1) 227 dX8_clashes_224 rfl (by decide) (by decide) rfl ?_
        refine g_goto 131 dX8_clashes_227 (by decide) ?_
        exact ih (j + 1) _ _ _ _ _ _ (by omega) (nI_succ j).symm (by rw [v3 h164]; exact he) hf kk
      · refine g_iload 169 dX8_clashes_167 rfl rfl ?_
        refine g_s1 172 dX8_clashes_169 rfl kl_X8_119 ms_X8_size ⟨Nat.le_of_ble_eq_true rfl, Nat.le_of_ble_eq_true rfl⟩ (Nat.le_of_ble_eq_true rfl) (m_size g l _ _) ?_
        rintro _ _ ⟨rfl, rfl⟩
        refine g_iload 174 dX8_clashes_172 rfl rfl ?_
        refine g_icmp_le 224 177 dX8_clashes_174 rfl (by decide) (fun h174 => ?_) (fun h174 => ?_)
        · refine g_iinc (1) 227 dX8_clashes_224 rfl (by decide) (by decide) rfl ?_
          refine g_goto 131 dX8_clashes_227 (by decide) ?_
          exact ih (j + 1) _ _ _ _ _ _ (by omega) (nI_succ j).symm (by rw [v2 h164 h174]; exact he) hf kk
        · refine g_aload_n 178 dX8_clashes_177 rfl rfl ?_
          refine g_dup 179 dX8_clashes_178 rfl rfl ?_
          refine gf_8_16 182 dX8_clashes_179 rfl kf_X8_162 (by first | decide | assumption | exact ⟨Nat.le_of_ble_eq_true rfl, rfl⟩) ?_
          refine g_iload 184 dX8_clashes_182 rfl rfl ?_
          refine g_if_le 194 187 dX8_clashes_184 rfl (by decide) (fun h184 => ?_) (fun h184 => ?_)
          · refine g_iconst (0) 195 dX8_clashes_194 rfl (by decide) ?_
            refine g_ior 196 dX8_clashes_195 rfl ?_
            refine gp_8_16 199 dX8_clashes_196 rfl kf_X8_162 (by first | decide | assumption | exact ⟨Nat.le_of_ble_eq_true rfl, rfl⟩) ?_
            refine g_aload_n 200 dX8_clashes_199 rfl rfl ?_
            refine g_dup 201 dX8_clashes_200 rfl rfl ?_
            refine gf_8_17 204 dX8_clashes_201 rfl kf_X8_165 (by first | decide | assumption | exact ⟨Nat.le_of_ble_eq_true rfl, rfl⟩) ?_
            refine g_iload 206 dX8_clashes_204 rfl rfl ?_
            refine g_if_ge 216 209 dX8_clashes_206 rfl (by decide) (fun h206 => ?_) (fun h206 => ?_)
            · exact absurd h206 ((v1 h164 h174).2 h184).1
            · refine g_iconst (1) 210 dX8_clashes_209 rfl (by decide) ?_
              refine g_iload 212 dX8_clashes_210 rfl rfl ?_
              refine g_ishl 213 dX8_clashes_212 rfl ?_
              refine g_goto 217 dX8_clashes_213 (by decide) ?_
              refine g_ior 218 dX8_clashes_217 rfl ?_
              refine gp_8_17 221 dX8_clashes_218 rfl kf_X8_165 (by first | decide | assumption | exact ⟨Nat.le_of_ble_eq_true rfl, rfl⟩) ?_
              refine g_iconst (1) 222 dX8_clashes_221 rfl (by decide) ?_
              refine g_istore 224 dX8_clashes_222 rfl (by decide) ?_
              refine g_iinc (1) 227 dX8_clashes_224 rfl (by decide) (by decide) rfl ?_
              refine g_goto 131 dX8_clashes_227 (by decide) ?_
              rw [fsn_16, fsn_17]
              refine ih (j + 1) _ _ _ _ _ _ (by omega) (nI_succ j).symm ?_ (fg_tr hf (Or.inr ⟨rfl, ?_⟩)) kk
              · rw [((v1 h164 h174).2 h184).2]
                show (s ||| 0, t ||| bit1 j) = (s, t ||| bit1 j)
                rw [Int32.or_zero]
              · show cnt (s ||| t) < cnt ((s ||| 0) ||| (t ||| bit1 j))
                rw [Int32.or_zero, or_r, cnt_or (s ||| t) (by omega) h164]; omega
          · refine g_iconst (1) 188 dX8_clashes_187 rfl (by decide) ?_
            refine g_iload 190 dX8_clashes_188 rfl rfl ?_
            refine g_ishl 191 dX8_clashes_190 rfl ?_
            refine g_goto 195 dX8_clashes_191 (by decide) ?_
            refine g_ior 196 dX8_clashes_195 rfl ?_
            refine gp_8_16 199 dX8_clashes_196 rfl kf_X8_162 (by first | decide | assumption | exact ⟨Nat.le_of_ble_eq_true rfl, rfl⟩) ?_
            refine g_aload_n 200 dX8_clashes_199 rfl rfl ?_
            refine g_dup 201 dX8_clashes_200 rfl rfl ?_
            refine gf_8_17 204 dX8_clashes_201 rfl kf_X8_165 (by first | decide | assumption | exact ⟨Nat.le_of_ble_eq_true rfl, rfl⟩) ?_
            refine g_iload 206 dX8_clashes_204 rfl rfl ?_
            refine g_if_ge 216 209 dX8_clashes_206 rfl (by decide) (fun h206 => ?_) (fun h206 => ?_)
            · refine g_iconst (0) 217 dX8_clashes_216 rfl (by decide) ?_
              refine g_ior 218 dX8_clashes_217 rfl ?_
              refine gp_8_17 221 dX8_clashes_218 rfl kf_X8_165 (by first | decide | assumption | exact ⟨Nat.le_of_ble_eq_true rfl, rfl⟩) ?_
              refine g_iconst (1) 222 dX8_clashes_221 rfl (by decide) ?_
              refine g_istore 224 dX8_clashes_222 rfl (by decide) ?_
              refine g_iinc (1) 227 dX8_clashes_224 rfl (by decide) (by decide) rfl ?_
              refine g_goto 131 dX8_clashes_227 (by decide) ?_
              rw [fsn_16, fsn_17]
              refine ih (j + 1) _ _ _ _ _ _ (by omega) (nI_succ j).symm ?_ (fg_tr hf (Or.inr ⟨rfl, ?_⟩)) kk
              · rw [(v1 h164 h174).1 h184]
                show (s ||| bit1 j, t ||| 0) = (s ||| bit1 j, t)
                rw [Int32.or_zero]
              · show cnt (s ||| t) < cnt ((s ||| bit1 j) ||| (t ||| 0))
                rw [Int32.or_zero, or_l, cnt_or (s ||| t) (by omega) h164]; omega
            · exact absurd (Int32.le_of_lt (Int32.not_le.mp h184)) h206

theorem pvs_next {W : Nat → Nat → Int32} {D : Nat → Int32} {a b s t : Int32} {i : Nat} (he : pvs W D a b i = (s, t, 0)) : pvs W D a b (i + 1) = vst (W i) (D i) s t 0 := by rw [pvs, he]; rfl
set_option maxRecDepth 100000 in
set_option maxHeartbeats 4000000 in
theorem lm_lines (g : Gl) (l : Launch) {zc : Option Value → Sg → Prop} (a0 b0 : Int32) (N : Nat) (a b m0 : Int32) (hN : N ≤ 33) (F : Nat → Nat → Int32) (J : Nat → Int64) (hW : ∀ i, i < N → ∀ j, j < 6 → wbd (Wm F i j)) (kc : ∀ s t, pvs (Wm F) (Dm F) a b N = (s, t, 1) → zc (some (.int 1)) (St (fsn F s t) J)) {XX : State → Method → Prop} (n : Nat) : ∀ (i : Nat) (ix s t m : Int32) (x6 x7 x8 x9 x10 : Option Value), i + n = N → ix = nI i → pvs (Wm F) (Dm F) a b i = (s, t, 0) → fg m0 m a b s t → (∀ s t m x5 x6 x7 x8 x9 x10, pvs (Wm F) (Dm F) a b N = (s, t, 0) → fg m0 m a b s t → Gj g l (rmd 1 0 0) XX (QM g zc 0 0) RX8 cX8_clashes 11 (some .boolean) 236 [some (.ref 167), some (.int (nI N)), some (.int a0), some (.int b0), some (.int m), x5, x6, x7, x8, x9, x10] [] (St (fsn F s t) J) 0 0) → Gj g l (rmd 1 0 0) XX (QM g zc 0 0) RX8 cX8_clashes 11 (some .boolean) 24 [some (.ref 167), some (.int (nI N)), some (.int a0), some (.int b0), some (.int m), some (.int ix), x6, x7, x8, x9, x10] [] (St (fsn F s t) J) 0 0 := by
  induction n with
  | zero =>
    intro i ix s t m x6 x7 x8 x9 x10 hi hx he hf kk
    obtain rfl : i = N := by omega
    subst hx
    refine g_iload 26 dX8_clashes_24 rfl rfl ?_
    refine g_iload_n 27 dX8_clashes_26 rfl rfl ?_
    refine g_icmp_ge 236 30 dX8_clashes_27 rfl (by decide) (fun h27 => ?_) (fun h27 => ?_)
    · exact kk _ _ _ _ _ _ _ _ _ he hf
    · exact absurd (nI_le (Nat.le_refl _) (by omega)) h27
  | succ n ih =>
    intro i ix s t m x6 x7 x8 x9 x10 hi hx he hf kk
    subst hx
    have hp := pvs_next he
    refine g_iload 26 dX8_clashes_24 rfl rfl ?_
    refine g_iload_n 27 dX8_clashes_26 rfl rfl ?_
    refine g_icmp_ge 236 30 dX8_clashes_27 rfl (by decide) (fun h27 => ?_) (fun h27 => ?_)
    · exact absurd h27 (nI_ge (by omega) (by omega))
    · refine g_bipush (7) 32 dX8_clashes_30 rfl (by decide) ?_
      refine g_iload 34 dX8_clashes_32 rfl rfl ?_
      refine g_imul 35 dX8_clashes_34 rfl ?_
      refine g_istore 37 dX8_clashes_35 rfl (by decide) ?_
      refine g_aload_n 38 dX8_clashes_37 rfl rfl ?_
      refine gf_8_8 41 dX8_clashes_38 rfl kf_X8_13 ?_
      refine g_iload 43 dX8_clashes_41 rfl rfl ?_
      refine g_bipush (6) 45 dX8_clashes_43 rfl (by decide) ?_
      refine g_iadd 46 dX8_clashes_45 rfl ?_
      refine ga_ild (7 * i + 6) 47 dX8_clashes_46 rfl (by first | decide | assumption | exact ⟨Nat.le_of_ble_eq_true rfl, rfl⟩) (ix76 i) (show 7 * i + 6 < 231 by omega) ?_
      refine g_ineg 48 dX8_clashes_47 rfl ?_
      refine g_istore 50 dX8_clashes_48 rfl (by decide) ?_
      refine g_iconst (0) 51 dX8_clashes_50 rfl (by decide) ?_
      refine g_istore 53 dX8_clashes_51 rfl (by decide) ?_
      refine lm_sl g l a0 b0 N m s t F J (n0 := i) (by omega) 6 0 _ _ _ _ rfl rfl rfl (fun x8 x9 x10 => ?_)
      refine g_iload 123 dX8_clashes_121 rfl rfl ?_
      refine g_if_ge 128 126 dX8_clashes_123 rfl (by decide) (fun h123 => ?_) (fun h123 => ?_)
      · refine g_iconst (0) 129 dX8_clashes_128 rfl (by decide) ?_
        refine g_istore 131 dX8_clashes_129 rfl (by decide) ?_
        refine lm_let g l a0 b0 N m s t _ h123 F J (n0 := i) (by omega) (hW i (by omega)) 6 0 _ s t m _ _ rfl rfl rfl (Or.inl ⟨rfl, rfl, rfl⟩) (fun s2 t2 m2 x8 x9 x10 hv hg => ?_)
        refine g_iinc (1) 233 dX8_clashes_230 rfl (by decide) (by decide) rfl ?_
        refine g_goto 24 dX8_clashes_233 (by decide) ?_
        refine ih (i + 1) _ s2 t2 m2 _ _ _ _ _ (by omega) (nI_succ i).symm ?_ (fg_tr hf hg) kk
        rw [hp, vst, if_pos h123, ← hv]
      · refine g_iconst (1) 127 dX8_clashes_126 rfl (by decide) ?_
        refine g_zret dX8_clashes_127 (by decide) ?_
        exact kc s t (by rw [pvs_stay (i := i + 1) (by rw [hp, vst_neg h123]; show ¬ (1 : Int32) = 0; decide) (by omega), hp, vst_neg h123])

set_option maxRecDepth 100000 in
set_option maxHeartbeats 4000000 in
theorem lm_cl (g : Gl) (l : Launch) (a0 b0 : Int32) (N : Nat) (hN : N ≤ 33) (F : Nat → Nat → Int32) (J : Nat → Int64) (hW : ∀ i, i < N → ∀ j, j < 6 → wbd (Wm F i j)) {XX : State → Method → Prop} (n : Nat) : ∀ (p : Nat) (s t m : Int32) (x5 x6 x7 x8 x9 x10 : Option Value), p + n = 7 → fps (Wm F) (Dm F) N a0 b0 p = ((s, t, 0), m) → (m = 0 ∨ m = 1) → Gj g l (rmd 1 0 0) XX (QM g (fun r S2 => r = some (.int (if (fps (Wm F) (Dm F) N a0 b0 7).1.2.2 = 0 then 0 else 1)) ∧ S2 = St (fsn F (fps (Wm F) (Dm F) N a0 b0 7).1.1 (fps (Wm F) (Dm F) N a0 b0 7).1.2.1) J) 0 0) RX8 cX8_clashes 11 (some .boolean) 13 [some (.ref 167), some (.int (nI N)), some (.int a0), some (.int b0), some (.int m), x5, x6, x7, x8, x9, x10] [] (St (fsn F s t) J) 0 0 := by
  induction n with
  | zero =>
    intro p s t m x5 x6 x7 x8 x9 x10 hi he hm
    obtain rfl : p = 7 := by omega
    have hz : m = 0 := by
      have := fps_end (Wm F) (Dm F) N a0 b0
      rw [he] at this
      exact this.elim id (fun h => absurd rfl h)
    subst hz
    refine g_iload 15 dX8_clashes_13 rfl rfl ?_
    refine g_if_eq 239 18 dX8_clashes_15 rfl (by decide) (fun h15 => ?_) (fun h15 => ?_)
    · refine g_iconst (0) 240 dX8_clashes_239 rfl (by decide) ?_
      refine g_zret dX8_clashes_240 (by decide) ?_
      exact ⟨by rw [he]; rfl, by rw [he]⟩
    · exact absurd h15 (by decide)
  | succ n ih =>
    intro p s t m x5 x6 x7 x8 x9 x10 hi he hm
    rcases hm with rfl | rfl
    · have hs := fps_stay (W := Wm F) (D := Dm F) (N := N) (a := a0) (b := b0) (i := p) (j := 7) (Or.inl (by rw [he])) (by omega)
      refine g_iload 15 dX8_clashes_13 rfl rfl ?_
      refine g_if_eq 239 18 dX8_clashes_15 rfl (by decide) (fun h15 => ?_) (fun h15 => ?_)
      · refine g_iconst (0) 240 dX8_clashes_239 rfl (by decide) ?_
        refine g_zret dX8_clashes_240 (by decide) ?_
        exact ⟨by rw [hs, he]; rfl, by rw [hs, he]⟩
      · exact absurd h15 (by decide)
    · have hg := fps_go (W := Wm F) (D := Dm F) (N := N) (a := a0) (b := b0) (i := p) he.symm (by decide) rfl
      dsimp only at hg
      refine g_iload 15 dX8_clashes_13 rfl rfl ?_
      refine g_if_eq 239 18 dX8_clashes_15 rfl (by decide) (fun h15 => ?_) (fun h15 => ?_)
      · exact absurd h15 (by decide)
      · refine g_iconst (0) 19 dX8_clashes_18 rfl (by decide) ?_
        refine g_istore 21 dX8_clashes_19 rfl (by decide) ?_
        refine g_iconst (0) 22 dX8_clashes_21 rfl (by decide) ?_
        refine g_istore 24 dX8_clashes_22 rfl (by decide) ?_
        refine lm_lines g l a0 b0 N s t 0 hN F J hW (fun s2 t2 h2 => ?_) N 0 _ s t 0 _ _ _ _ _ (Nat.zero_add _) rfl rfl (Or.inl ⟨rfl, rfl, rfl⟩) (fun s2 t2 m2 x5 x6 x7 x8 x9 x10 h2 hf => ?_)
        · have h7 := fps_stay (W := Wm F) (D := Dm F) (N := N) (a := a0) (b := b0) (i := p + 1) (j := 7) (Or.inr (by rw [hg, h2]; show ¬ (1 : Int32) = 0; decide)) (by omega)
          rw [h7, hg, h2]; exact ⟨rfl, rfl⟩
        · refine g_goto 13 dX8_clashes_236 (by decide) ?_
          rcases hf with ⟨rfl, rfl, rfl⟩ | ⟨rfl, hc⟩
          · exact ih (p + 1) _ _ _ _ _ _ _ _ _ (by omega) (by rw [hg, h2]; show ((s2, t2, 0), if s2 ||| t2 = s2 ||| t2 then (0 : Int32) else 1) = _; rw [if_pos rfl]) (Or.inl rfl)
          · exact ih (p + 1) _ _ _ _ _ _ _ _ _ (by omega) (by rw [hg, h2]; show ((s2, t2, 0), if s2 ||| t2 = s ||| t then (0 : Int32) else 1) = _; rw [if_neg (fun z => by rw [z] at hc; omega)]) (Or.inr rfl)

set_option maxRecDepth 100000 in
set_option maxHeartbeats 4000000 in
theorem m_clashes (g : Gl) (l : Launch) (a0 b0 : Int32) {N : Nat} (hN : N ≤ 33) (F : Nat → Nat → Int32) (J : Nat → Int64) (hW : ∀ i, i < N → ∀ j, j < 6 → wbd (Wm F i j)) : Ct g l yX8_clashes cX8_clashes 11 (some .boolean) 1 0 0 [.ref 167, .int (nI N), .int a0, .int b0] (St F J) (fun r S2 => r = some (.int (if (fps (Wm F) (Dm F) N a0 b0 7).1.2.2 = 0 then 0 else 1)) ∧ S2 = St (fsn F (fps (Wm F) (Dm F) N a0 b0 7).1.1 (fps (Wm F) (Dm F) N a0 b0 7).1.2.1) J) := by
  refine Ct.of rfl (by decide) rfl (Nat.le_of_ble_eq_true rfl) ?_
  refine g_aload_n 1 dX8_clashes_0 rfl rfl ?_
  refine g_iload_n 2 dX8_clashes_1 rfl rfl ?_
  refine gp_8_16 5 dX8_clashes_2 rfl kf_X8_162 (by first | decide | assumption | exact ⟨Nat.le_of_ble_eq_true rfl, rfl⟩) ?_
  refine g_aload_n 6 dX8_clashes_5 rfl rfl ?_
  refine g_iload_n 7 dX8_clashes_6 rfl rfl ?_
  refine gp_8_17 10 dX8_clashes_7 rfl kf_X8_165 (by first | decide | assumption | exact ⟨Nat.le_of_ble_eq_true rfl, rfl⟩) ?_
  rw [fsn_0]
  refine g_iconst (1) 11 dX8_clashes_10 rfl (by decide) ?_
  refine g_istore 13 dX8_clashes_11 rfl (by decide) ?_
  exact lm_cl g l a0 b0 N hN F J hW 7 0 _ _ _ _ _ _ _ _ _ rfl rfl (Or.inr rfl)

