/-! what class and reference compute is the same (1): lines, forcing, steps -/
theorem i0 : (0 : Int32).toInt = 0 := rfl
theorem i1 : (1 : Int32).toInt = 1 := rfl
def bz (m : Int) (x : Int32) : Prop := -m ≤ x.toInt ∧ x.toInt ≤ m
theorem bmo {n : Int} (h1 : -2000000000 ≤ n) (h2 : n ≤ 2000000000) : n.bmod (2 ^ 32) = n := Int.bmod_eq_of_le (by omega) (by omega)
theorem add_in {x y : Int32} (h1 : -2000000000 ≤ x.toInt + y.toInt) (h2 : x.toInt + y.toInt ≤ 2000000000) : (x + y).toInt = x.toInt + y.toInt := by rw [Int32.toInt_add]; exact bmo h1 h2
theorem sub_in {x y : Int32} (h1 : -2000000000 ≤ x.toInt - y.toInt) (h2 : x.toInt - y.toInt ≤ 2000000000) : (x - y).toInt = x.toInt - y.toInt := by rw [Int32.toInt_sub]; exact bmo h1 h2
theorem mul_in {x y : Int32} (h1 : -2000000000 ≤ x.toInt * y.toInt) (h2 : x.toInt * y.toInt ≤ 2000000000) : (x * y).toInt = x.toInt * y.toInt := by rw [Int32.toInt_mul]; exact bmo h1 h2
theorem neg_in2 {x : Int32} (h : bz 1000000000 x) : (-x).toInt = - x.toInt := by
  rw [Int32.toInt_neg]; have h1 := h.1; have h2 := h.2; exact bmo (by omega) (by omega)
theorem abs_in2 {x : Int32} (h : bz 1000000000 x) : (abs32 x).toInt = if 0 ≤ x.toInt then x.toInt else - x.toInt := by
  unfold abs32
  by_cases z : 0 ≤ x
  · rw [if_pos z, if_pos (by rw [Int32.le_iff_toInt_le, i0] at z; exact z)]
  · rw [if_neg z, if_neg (by rw [Int32.le_iff_toInt_le, i0] at z; exact z), ← ng0]; exact neg_in2 h
theorem div_in {x y : Int32} (hx : 0 ≤ x.toInt) (hy : 1 ≤ y.toInt) : (x / y).toInt = x.toInt / y.toInt ∧ 0 ≤ x.toInt / y.toInt ∧ x.toInt / y.toInt ≤ x.toInt := by
  have h1 : 0 ≤ x.toInt / y.toInt := Int.ediv_nonneg hx (by omega)
  have h2 : x.toInt / y.toInt ≤ x.toInt := Int.ediv_le_self _ hx
  refine ⟨?_, h1, h2⟩
  rw [Int32.toInt_div, Int.tdiv_eq_ediv_of_nonneg hx]
  have h3 := Int32.toInt_lt x
  have h4 := Int32.le_toInt x
  exact Int.bmod_eq_of_le (by omega) (by omega)
/-- congruences -/
theorem mw_c {w v : Nat → Int32} (so nt : Int32) : ∀ {n : Nat}, (∀ j, j < n → w j = v j) → mw w so nt n = mw v so nt n
  | 0, _ => rfl
  | n + 1, h => by rw [mw, mw, mw_c so nt (fun j hj => h j (by omega)), h n (by omega)]
theorem vs_c {w v : Nat → Int32} (sl a b : Int32) : ∀ {n : Nat}, (∀ j, j < n → w j = v j) → vs w sl a b n = vs v sl a b n
  | 0, _ => rfl
  | n + 1, h => by rw [vs, vs, vs_c sl a b (fun j hj => h j (by omega)), h n (by omega)]
theorem vst_c {w v : Nat → Int32} (d a b c : Int32) (h : ∀ j, j < 6 → w j = v j) : vst w d a b c = vst v d a b c := by rw [vst, vst, mw_c a b h, vs_c _ a b h]
theorem pvs_c {W V : Nat → Nat → Int32} {D E : Nat → Int32} (a b : Int32) : ∀ {n : Nat}, (∀ i, i < n → ∀ x y z, vst (W i) (D i) x y z = vst (V i) (E i) x y z) → pvs W D a b n = pvs V E a b n
  | 0, _ => rfl
  | n + 1, h => by rw [pvs, pvs, pvs_c a b (fun i hi => h i (by omega)), h n (by omega)]
theorem fps_c {W V : Nat → Nat → Int32} {D E : Nat → Int32} {N : Nat} (a b : Int32) (h : ∀ i, i < N → ∀ x y z, vst (W i) (D i) x y z = vst (V i) (E i) x y z) : ∀ p, fps W D N a b p = fps V E N a b p
  | 0 => rfl
  | p + 1 => by rw [fps, fps, fps_c a b h p, pvs_c _ _ h]
theorem sd_c {w v w2 v2 : Nat → Int32} (d : Int32) : ∀ {n : Nat}, (∀ j, j < n → w j = w2 j) → (∀ j, j < n → v j = v2 j) → sd w v d n = sd w2 v2 d n
  | 0, _, _ => rfl
  | n + 1, h, h2 => by rw [sd, sd, sd_c d (fun j hj => h j (by omega)) (fun j hj => h2 j (by omega)), h n (by omega), h2 n (by omega)]
/-- what weighs is not below any open letter's weight -/
theorem mw_in {w : Nat → Int32} (so nt : Int32) : ∀ {n : Nat}, n ≤ 6 → (∀ j, j < n → bz 9999 (w j)) → 0 ≤ (mw w so nt n).toInt ∧ (mw w so nt n).toInt ≤ 9999 * n ∧ ∀ j, j < n → isOp so nt j → (abs32 (w j)).toInt ≤ (mw w so nt n).toInt
  | 0, _, _ => ⟨by rw [mw, i0]; omega, by rw [mw, i0]; omega, fun j hj => absurd hj (Nat.not_lt_zero j)⟩
  | n + 1, hn, h => by
    obtain ⟨h1, h2, h3⟩ := mw_in so nt (n := n) (by omega) (fun j hj => h j (by omega))
    have hw := h n (by omega)
    have ha := abs_in2 (x := w n) ⟨by have := hw.1; omega, by have := hw.2; omega⟩
    have hb : 0 ≤ (abs32 (w n)).toInt ∧ (abs32 (w n)).toInt ≤ 9999 := by
      rw [ha]; have := hw.1; have := hw.2; split <;> omega
    rw [mw]
    by_cases c : (if w n ≤ 0 then so else nt) >>> (nI n &&& 31) &&& 1 = 0
    · rw [if_pos c]
      have e := add_in (x := mw w so nt n) (y := abs32 (w n)) (by omega) (by omega)
      rw [e]
      refine ⟨by omega, by omega, fun j hj ho => ?_⟩
      by_cases q : j = n
      · subst q; omega
      · have := h3 j (by omega) ho; omega
    · rw [if_neg c, Int32.add_zero]
      refine ⟨h1, by omega, fun j hj ho => ?_⟩
      by_cases q : j = n
      · exfalso
        subst q
        have hor : bt (so ||| nt) j = 0 := ho
        rw [bt_bv _ (by omega), Int32.toBitVec_or, BitVec.getLsbD_or] at hor
        have z : bt (if w j ≤ 0 then so else nt) j = 0 := by
          by_cases s1 : so.toBitVec.getLsbD j = true
          · rw [s1, Bool.true_or, if_pos rfl] at hor; exact absurd hor (by decide)
          · by_cases s2 : nt.toBitVec.getLsbD j = true
            · rw [s2, Bool.or_true, if_pos rfl] at hor; exact absurd hor (by decide)
            · split
              · rw [bt_bv _ (by omega), if_neg s1]
              · rw [bt_bv _ (by omega), if_neg s2]
        exact c z
      · exact h3 j (by omega) ho
/-- a line that nothing can break says nothing -/
theorem vst_0 {w : Nat → Int32} {d : Int32} (hw : ∀ j, j < 6 → bz 9999 (w j)) (h0 : d.toInt ≤ 0) (h1 : -1000000 ≤ d.toInt) (so nt c : Int32) : vst w d so nt c = (so, nt, c) := by
  obtain ⟨m1, m2, m3⟩ := mw_in so nt (Nat.le_refl 6) hw
  have es := sub_in (x := mw w so nt 6) (y := d) (by omega) (by omega)
  have hv : ∀ n, n ≤ 6 → vs w (mw w so nt 6 - d) so nt n = (so, nt) := by
    intro n
    induction n with
    | zero => intro _; rfl
    | succ n ih =>
      intro hn
      have e := ih (by omega)
      have hb := hw n (by omega)
      have ha := abs_in2 (x := w n) ⟨by have := hb.1; omega, by have := hb.2; omega⟩
      have hng := neg_in2 (x := w n) ⟨by have := hb.1; omega, by have := hb.2; omega⟩
      rw [vs, e]
      dsimp only
      by_cases o : isOp so nt n
      · have k := m3 n (by omega) o
        rw [ha] at k
        have k1 : w n ≤ mw w so nt 6 - d := by rw [Int32.le_iff_toInt_le, es]; split at k <;> omega
        have k2 : -(w n) ≤ mw w so nt 6 - d := by rw [Int32.le_iff_toInt_le, es, hng]; split at k <;> omega
        rw [if_neg (fun z => z.2 k1), if_neg (fun z => z.2 k2)]
      · rw [if_neg (fun z => o z.1), if_neg (fun z => o z.1)]
  rw [vst, if_pos (by rw [Int32.le_iff_toInt_le, i0, es]; omega), hv 6 (Nat.le_refl _)]
def bL (w : Nat → Int32) (d : Int32) : Prop := (∀ j, j < 6 → bz 9999 (w j)) ∧ 0 ≤ d.toInt ∧ d.toInt ≤ 99999
theorem bL_c {w v : Nat → Int32} {d : Int32} (h : ∀ j, j < 6 → w j = v j) (hb : bL w d) : bL v d := ⟨fun j hj => by rw [← h j hj]; exact hb.1 j hj, hb.2⟩
theorem bz_w {x : Int32} (h : bz 9999 x) : wbd x := ⟨by have := h.1; omega, by have := h.2; omega⟩
theorem bz_m {a b : Int} (hab : a ≤ b) {x : Int32} (h : bz a x) : bz b x := ⟨by have := h.1; omega, by have := h.2; omega⟩
/-- the opposite of a line: the two degrees force alike -/
theorem opp_v {w : Nat → Int32} {d : Int32} (hb : bL w d) (x y z : Int32) : vst (fun j => -(w j)) (mw w 0 0 6 + 1 - d) x y z = vst (fun j => -(w j)) (if mw w 0 0 6 + 1 - d < 0 then 0 else mw w 0 0 6 + 1 - d) x y z := by
  by_cases h : mw w 0 0 6 + 1 - d < 0
  · rw [if_pos h]
    obtain ⟨m1, m2, -⟩ := mw_in (w := w) 0 0 (Nat.le_refl 6) hb.1
    have h1 := hb.2.1; have h2 := hb.2.2
    have e1 := add_in (x := mw w 0 0 6) (y := 1) (by rw [i1]; omega) (by rw [i1]; omega)
    rw [i1] at e1
    have e2 := sub_in (x := mw w 0 0 6 + 1) (y := d) (by omega) (by omega)
    rw [Int32.lt_iff_toInt_lt, i0, e2, e1] at h
    have hn : ∀ j, j < 6 → bz 9999 (-(w j)) := fun j hj => by
      have q := hb.1 j hj
      have e := neg_in2 (bz_m (by decide : (9999 : Int) ≤ 1000000000) q)
      unfold bz; rw [e]; have := q.1; have := q.2; omega
    rw [vst_0 hn (by rw [e2, e1]; omega) (by rw [e2, e1]; omega), vst_0 hn (by rw [i0]; omega) (by rw [i0]; omega)]
  · rw [if_neg h]
/-! a step's line -/
theorem max0_e (x : Int32) : max0 x = max32 x 0 := by
  unfold max0 max32
  by_cases h : 0 ≤ x
  · rw [if_pos h, if_neg (Int32.not_lt.mpr h)]
  · rw [if_neg h, if_pos (Int32.not_le.mp h)]
theorem max0_in (x : Int32) : 0 ≤ (max0 x).toInt ∧ (max0 x).toInt ≤ (if 0 ≤ x.toInt then x.toInt else 0) := by
  unfold max0
  by_cases h : 0 ≤ x
  · rw [if_pos h]; rw [Int32.le_iff_toInt_le, i0] at h; rw [if_pos h]; exact ⟨h, by omega⟩
  · rw [if_neg h, i0]; refine ⟨by omega, ?_⟩; split <;> omega
theorem max1_e {n : Int32} (h : 1 ≤ n.toInt) : max32 n 1 = n := by
  unfold max32
  rw [if_neg (by rw [Int32.lt_iff_toInt_lt, i1]; omega)]
theorem trm_e {v d : Int32} (hv : bz 9999 v) (h0 : 0 ≤ d.toInt) (h1 : d.toInt ≤ 99999) : trm v d = sg32 v (min32 (abs32 v) d) := by
  have ha := abs_in2 (bz_m (by decide : (9999 : Int) ≤ 1000000000) hv)
  have hn := neg_in2 (bz_m (by decide : (9999 : Int) ≤ 1000000000) hv)
  have hd := neg_in2 (x := d) ⟨by omega, by omega⟩
  by_cases p : 0 ≤ v
  · have p' := p
    rw [Int32.le_iff_toInt_le, i0] at p'
    have ea : abs32 v = v := by unfold abs32; rw [if_pos p]
    rw [trm, sg32, if_pos p, ea, min32]
    by_cases q : v ≤ d
    · rw [if_pos q, if_neg (Int32.not_lt.mpr q), if_pos (by rw [Int32.le_iff_toInt_le, hd]; omega)]
    · rw [if_neg q, if_pos (Int32.not_le.mp q)]
  · have p' := p
    rw [Int32.le_iff_toInt_le, i0] at p'
    have ea : abs32 v = -v := by unfold abs32; rw [if_neg p, ← ng0]
    rw [trm, sg32, if_neg p, ea, min32, if_pos (by rw [Int32.le_iff_toInt_le]; omega)]
    by_cases q : -d ≤ v
    · rw [if_pos q, if_neg (by rw [Int32.lt_iff_toInt_lt, hn]; rw [Int32.le_iff_toInt_le, hd] at q; omega), ngng]
    · rw [if_neg q, if_pos (by rw [Int32.lt_iff_toInt_lt, hn]; rw [Int32.le_iff_toInt_le, hd] at q; omega)]
/-- the numbers of a step are in their bounds -/
def wfN (q : P5) : Prop := (q.1 = 2 → 1 ≤ q.2.2.1.toInt ∧ q.2.2.1.toInt ≤ 99) ∧ (q.1 = 3 → 2 ≤ q.2.2.1.toInt ∧ q.2.2.1.toInt ≤ 99) ∧ (q.1 = 8 → (∀ j, j < 6 → bz 99 (q.2.2.2.1 j)) ∧ 0 ≤ q.2.2.2.2.toInt ∧ q.2.2.2.2.toInt ≤ 999)
theorem op_1 (W : Nat → Nat → Int32) (D : Nat → Int32) (f : Nat) (s : Int32) : opL W D 1 f s = (fun j => W f j + W s.toNatClampNeg j, max32 (sd (W f) (W s.toNatClampNeg) (D f + D s.toNatClampNeg) 6) 0) := by rw [opL, if_pos rfl]
theorem op_2 (W : Nat → Nat → Int32) (D : Nat → Int32) (f : Nat) (s : Int32) : opL W D 2 f s = (fun j => W f j * s, D f * s) := by rw [opL, if_neg (by decide), if_pos rfl]
theorem op_3 (W : Nat → Nat → Int32) (D : Nat → Int32) (f : Nat) (s : Int32) : opL W D 3 f s = (fun j => sg32 (W f j) ((abs32 (W f j) + max32 s 1 - 1) / max32 s 1), (D f + max32 s 1 - 1) / max32 s 1) := by rw [opL, if_neg (by decide), if_neg (by decide), if_pos rfl]
theorem op_4 (W : Nat → Nat → Int32) (D : Nat → Int32) (f : Nat) (s : Int32) : opL W D 4 f s = (fun j => sg32 (W f j) (min32 (abs32 (W f j)) (D f)), D f) := by rw [opL, if_neg (by decide), if_neg (by decide), if_neg (by decide), if_pos rfl]
theorem op_5 (W : Nat → Nat → Int32) (D : Nat → Int32) (f : Nat) (s : Int32) : opL W D 5 f s = (upd (W f) s.toNatClampNeg 0, max32 (D f - abs32 (W f s.toNatClampNeg)) 0) := by rw [opL, if_neg (by decide), if_neg (by decide), if_neg (by decide), if_neg (by decide), if_pos rfl]
theorem op_6 (W : Nat → Nat → Int32) (D : Nat → Int32) (f : Nat) (s : Int32) : opL W D 6 f s = (upd (fun _ => 0) s.toNatClampNeg 1, 0) := by rw [opL, if_neg (by decide), if_neg (by decide), if_neg (by decide), if_neg (by decide), if_neg (by decide), if_pos rfl]
theorem op_7 (W : Nat → Nat → Int32) (D : Nat → Int32) (f : Nat) (s : Int32) : opL W D 7 f s = (upd (fun _ => 0) s.toNatClampNeg (-1), 0) := by rw [opL, if_neg (by decide), if_neg (by decide), if_neg (by decide), if_neg (by decide), if_neg (by decide), if_neg (by decide)]
/-- the row of the reference's step is the line of the class's -/
def rowE (u w : Nat → Int32) (d : Int32) : Prop := (∀ j, j < 6 → u j = w j) ∧ u 6 = d
theorem do_op {F : Nat → Nat → Int32} {m kd f s : Nat} {n : Int32} (h1 : 1 ≤ kd) (h7 : kd ≤ 7) (hb : ∀ i, i < m → bL (Wm F i) (Dm F i)) (hf : kd ≤ 5 → f < m) (hn : kd = 3 → 1 ≤ n.toInt) (ha : kd = 5 ∨ kd = 6 ∨ kd = 7 → n.toNatClampNeg < 6) : rowE (doV F (kd - 1) f n s) (opL (Wm F) (Dm F) (nI kd) f n).1 (opL (Wm F) (Dm F) (nI kd) f n).2 := by
  have : kd = 1 ∨ kd = 2 ∨ kd = 3 ∨ kd = 4 ∨ kd = 5 ∨ kd = 6 ∨ kd = 7 := by omega
  rcases this with h | h | h | h | h | h | h <;> subst h
  · have e : opL (Wm F) (Dm F) (nI 1) f n = _ := op_1 (Wm F) (Dm F) f n
    rw [e]
    refine ⟨fun j hj => ?_, ?_⟩
    · show addV _ _ j = _
      rw [addV, if_pos hj]; rfl
    · show addV _ _ 6 = _
      rw [addV, if_neg (by decide), max0_e]; rfl
  · have e : opL (Wm F) (Dm F) (nI 2) f n = _ := op_2 (Wm F) (Dm F) f n
    rw [e]; exact ⟨fun j hj => rfl, rfl⟩
  · have e : opL (Wm F) (Dm F) (nI 3) f n = _ := op_3 (Wm F) (Dm F) f n
    rw [e, max1_e (hn rfl)]
    refine ⟨fun j hj => rfl, ?_⟩
    show dcut (F 169 (7 * f + 6)) n = (Dm F f + n - 1) / n
    have hd := (hb f (hf (by decide))).2.1
    have z : 0 ≤ Dm F f := by rw [Int32.le_iff_toInt_le, i0]; exact hd
    have ea : abs32 (Dm F f) = Dm F f := by unfold abs32; rw [if_pos z]
    show dcut (Dm F f) n = _
    rw [dcut, if_pos z, ea]
  · have e : opL (Wm F) (Dm F) (nI 4) f n = _ := op_4 (Wm F) (Dm F) f n
    rw [e]
    have hd := hb f (hf (by decide))
    refine ⟨fun j hj => ?_, ?_⟩
    · show (if j < 6 then trm (Wm F f j) (Dm F f) else _) = _
      rw [if_pos hj]; exact trm_e (hd.1 j hj) hd.2.1 hd.2.2
    · rfl
  · have e : opL (Wm F) (Dm F) (nI 5) f n = _ := op_5 (Wm F) (Dm F) f n
    rw [e]
    refine ⟨fun j hj => ?_, ?_⟩
    · show upd (upd (Wm F f) n.toNatClampNeg 0) 6 _ j = _
      simp only [upd, if_neg (show ¬ j = 6 by omega)]
    · show upd (upd (Wm F f) n.toNatClampNeg 0) 6 (max0 (Dm F f - abs32 (Wm F f n.toNatClampNeg))) 6 = _
      simp only [upd, if_true, max0_e]
  · have e : opL (Wm F) (Dm F) (nI 6) f n = _ := op_6 (Wm F) (Dm F) f n
    rw [e]
    refine ⟨fun j hj => rfl, ?_⟩
    show upd (fun _ => 0) n.toNatClampNeg 1 6 = 0
    have := ha (by decide)
    simp only [upd, if_neg (show ¬ 6 = n.toNatClampNeg by omega)]
  · have e : opL (Wm F) (Dm F) (nI 7) f n = _ := op_7 (Wm F) (Dm F) f n
    rw [e]
    refine ⟨fun j hj => rfl, ?_⟩
    show upd (fun _ => 0) n.toNatClampNeg (-1) 6 = 0
    have := ha (by decide)
    simp only [upd, if_neg (show ¬ 6 = n.toNatClampNeg by omega)]
/-- lines that agree make lines that agree -/
theorem op_c {W V : Nat → Nat → Int32} {D E : Nat → Int32} {m kd f : Nat} {n : Int32} (h1 : 1 ≤ kd) (h7 : kd ≤ 7) (h : ∀ i, i < m → (∀ j, j < 6 → W i j = V i j) ∧ D i = E i) (hf : kd ≤ 5 → f < m) (h2 : kd = 1 → n.toNatClampNeg < m) (ha : kd = 5 → n.toNatClampNeg < 6) : (∀ j, j < 6 → (opL W D (nI kd) f n).1 j = (opL V E (nI kd) f n).1 j) ∧ (opL W D (nI kd) f n).2 = (opL V E (nI kd) f n).2 := by
  have : kd = 1 ∨ kd = 2 ∨ kd = 3 ∨ kd = 4 ∨ kd = 5 ∨ kd = 6 ∨ kd = 7 := by omega
  rcases this with q | q | q | q | q | q | q <;> subst q
  · rw [show opL W D (nI 1) f n = _ from op_1 W D f n, show opL V E (nI 1) f n = _ from op_1 V E f n]
    obtain ⟨a1, a2⟩ := h f (hf (by decide))
    obtain ⟨b1, b2⟩ := h _ (h2 rfl)
    refine ⟨fun j hj => ?_, ?_⟩
    · show W f j + W _ j = V f j + V _ j
      rw [a1 j hj, b1 j hj]
    · show max32 _ 0 = max32 _ 0
      rw [a2, b2, sd_c _ a1 b1]
  · rw [show opL W D (nI 2) f n = _ from op_2 W D f n, show opL V E (nI 2) f n = _ from op_2 V E f n]
    obtain ⟨a1, a2⟩ := h f (hf (by decide))
    exact ⟨fun j hj => by show W f j * n = V f j * n; rw [a1 j hj], by show D f * n = E f * n; rw [a2]⟩
  · rw [show opL W D (nI 3) f n = _ from op_3 W D f n, show opL V E (nI 3) f n = _ from op_3 V E f n]
    obtain ⟨a1, a2⟩ := h f (hf (by decide))
    exact ⟨fun j hj => by dsimp only; rw [a1 j hj], by dsimp only; rw [a2]⟩
  · rw [show opL W D (nI 4) f n = _ from op_4 W D f n, show opL V E (nI 4) f n = _ from op_4 V E f n]
    obtain ⟨a1, a2⟩ := h f (hf (by decide))
    exact ⟨fun j hj => by dsimp only; rw [a1 j hj, a2], by dsimp only; rw [a2]⟩
  · rw [show opL W D (nI 5) f n = _ from op_5 W D f n, show opL V E (nI 5) f n = _ from op_5 V E f n]
    obtain ⟨a1, a2⟩ := h f (hf (by decide))
    refine ⟨fun j hj => ?_, by dsimp only; rw [a2, a1 _ (ha rfl)]⟩
    simp only [upd]; split
    · rfl
    · exact a1 j hj
  · rw [show opL W D (nI 6) f n = _ from op_6 W D f n, show opL V E (nI 6) f n = _ from op_6 V E f n]; exact ⟨fun _ _ => rfl, rfl⟩
  · rw [show opL W D (nI 7) f n = _ from op_7 W D f n, show opL V E (nI 7) f n = _ from op_7 V E f n]; exact ⟨fun _ _ => rfl, rfl⟩
theorem sd_in {v w : Nat → Int32} {d : Int32} (hd : 0 ≤ d.toInt ∧ d.toInt ≤ 1000000) : ∀ {n : Nat}, n ≤ 6 → (∀ j, j < n → bz 9999 (v j)) → (∀ j, j < n → bz 9999 (w j)) → d.toInt - 9999 * n ≤ (sd v w d n).toInt ∧ (sd v w d n).toInt ≤ d.toInt
  | 0, _, _, _ => ⟨by rw [sd]; omega, by rw [sd]; omega⟩
  | n + 1, hn, hv, hw => by
    obtain ⟨h1, h2⟩ := sd_in hd (n := n) (by omega) (fun j hj => hv j (by omega)) (fun j hj => hw j (by omega))
    have q := hv n (by omega)
    have r := hw n (by omega)
    have ea := abs_in2 (bz_m (by decide : (9999 : Int) ≤ 1000000000) q)
    have eb := abs_in2 (bz_m (by decide : (9999 : Int) ≤ 1000000000) r)
    have hm : 0 ≤ (min32 (abs32 (v n)) (abs32 (w n))).toInt ∧ (min32 (abs32 (v n)) (abs32 (w n))).toInt ≤ 9999 := by
      have q1 := q.1; have q2 := q.2; have r1 := r.1; have r2 := r.2
      unfold min32
      split
      · rw [eb]; split <;> omega
      · rw [ea]; split <;> omega
    rw [sd]
    split
    · have e := sub_in (x := sd v w d n) (y := min32 (abs32 (v n)) (abs32 (w n))) (by omega) (by omega)
      rw [e]; omega
    · omega
theorem min_in {x y : Int32} (hx : 0 ≤ x.toInt) (hy : 0 ≤ y.toInt) : 0 ≤ (min32 x y).toInt ∧ (min32 x y).toInt ≤ x.toInt := by
  unfold min32
  by_cases h : y < x
  · rw [if_pos h]; rw [Int32.lt_iff_toInt_lt] at h; omega
  · rw [if_neg h]; omega
theorem sg_in {s z : Int32} {m : Int} (hm : m ≤ 1000000000) (h : 0 ≤ z.toInt) (h2 : z.toInt ≤ m) : bz m (sg32 s z) := by
  unfold sg32 bz
  split
  · omega
  · rw [neg_in2 ⟨by omega, by omega⟩]; omega
/-- what a step makes of lines in their bounds is no more than a million -/
theorem op_in {W : Nat → Nat → Int32} {D : Nat → Int32} {m kd f : Nat} {n : Int32} (h1 : 1 ≤ kd) (h7 : kd ≤ 7) (hb : ∀ i, i < m → bL (W i) (D i)) (hf : kd ≤ 5 → f < m) (h2 : kd = 1 → n.toNatClampNeg < m) (ha : kd = 5 → n.toNatClampNeg < 6) (hn2 : kd = 2 → 1 ≤ n.toInt ∧ n.toInt ≤ 99) (hn3 : kd = 3 → 2 ≤ n.toInt ∧ n.toInt ≤ 99) : (∀ j, j < 6 → bz 1000000 ((opL W D (nI kd) f n).1 j)) ∧ 0 ≤ (opL W D (nI kd) f n).2.toInt := by
  have : kd = 1 ∨ kd = 2 ∨ kd = 3 ∨ kd = 4 ∨ kd = 5 ∨ kd = 6 ∨ kd = 7 := by omega
  rcases this with q | q | q | q | q | q | q <;> subst q
  · rw [show opL W D (nI 1) f n = _ from op_1 W D f n]
    obtain ⟨a1, a2, a3⟩ := hb f (hf (by decide))
    obtain ⟨b1, b2, b3⟩ := hb _ (h2 rfl)
    refine ⟨fun j hj => ?_, ?_⟩
    · have x := a1 j hj; have y := b1 j hj
      have x1 := x.1; have x2 := x.2; have y1 := y.1; have y2 := y.2
      show bz 1000000 (W f j + W _ j)
      unfold bz; rw [add_in (by omega) (by omega)]; omega
    · show 0 ≤ (max32 _ 0).toInt
      rw [← max0_e]; exact (max0_in _).1
  · rw [show opL W D (nI 2) f n = _ from op_2 W D f n]
    obtain ⟨a1, a2, a3⟩ := hb f (hf (by decide))
    obtain ⟨n1, n2⟩ := hn2 rfl
    refine ⟨fun j hj => ?_, ?_⟩
    · have x := a1 j hj
      have l : -(9999 * 99) ≤ (W f j).toInt * n.toInt ∧ (W f j).toInt * n.toInt ≤ 9999 * 99 := by
        have u1 : (W f j).toInt * n.toInt ≤ 9999 * n.toInt := Int.mul_le_mul_of_nonneg_right x.2 (by omega)
        have u2 : (-9999) * n.toInt ≤ (W f j).toInt * n.toInt := Int.mul_le_mul_of_nonneg_right x.1 (by omega)
        omega
      show bz 1000000 (W f j * n)
      unfold bz; rw [mul_in (by omega) (by omega)]; omega
    · have l : 0 ≤ (D f).toInt * n.toInt := Int.mul_nonneg a2 (by omega)
      have u : (D f).toInt * n.toInt ≤ 99999 * n.toInt := Int.mul_le_mul_of_nonneg_right a3 (by omega)
      show 0 ≤ (D f * n).toInt
      rw [mul_in (by omega) (by omega)]; exact l
  · rw [show opL W D (nI 3) f n = _ from op_3 W D f n]
    obtain ⟨a1, a2, a3⟩ := hb f (hf (by decide))
    obtain ⟨n1, n2⟩ := hn3 rfl
    rw [max1_e (by omega)]
    have key : ∀ x : Int32, 0 ≤ x.toInt → x.toInt ≤ 99999 → 0 ≤ ((x + n - 1) / n).toInt ∧ ((x + n - 1) / n).toInt ≤ 100098 := fun x x1 x2 => by
      have e1 := add_in (x := x) (y := n) (by omega) (by omega)
      have e2 := sub_in (x := x + n) (y := 1) (by rw [i1]; omega) (by rw [i1]; omega)
      rw [i1, e1] at e2
      obtain ⟨d1, d2, d3⟩ := div_in (x := x + n - 1) (y := n) (by rw [e2]; omega) (by omega)
      rw [d1]; rw [e2] at d2 d3 ⊢; omega
    refine ⟨fun j hj => ?_, (key (D f) a2 a3).1⟩
    have x := a1 j hj
    have ea := abs_in2 (bz_m (by decide : (9999 : Int) ≤ 1000000000) x)
    have hx : 0 ≤ (abs32 (W f j)).toInt ∧ (abs32 (W f j)).toInt ≤ 9999 := by rw [ea]; have := x.1; have := x.2; split <;> omega
    obtain ⟨k1, k2⟩ := key (abs32 (W f j)) hx.1 (by omega)
    exact sg_in (by decide) k1 (by omega)
  · rw [show opL W D (nI 4) f n = _ from op_4 W D f n]
    obtain ⟨a1, a2, a3⟩ := hb f (hf (by decide))
    refine ⟨fun j hj => ?_, a2⟩
    have x := a1 j hj
    have ea := abs_in2 (bz_m (by decide : (9999 : Int) ≤ 1000000000) x)
    have hx : 0 ≤ (abs32 (W f j)).toInt ∧ (abs32 (W f j)).toInt ≤ 9999 := by rw [ea]; have := x.1; have := x.2; split <;> omega
    obtain ⟨k1, k2⟩ := min_in hx.1 a2
    exact sg_in (by decide) k1 (by omega)
  · rw [show opL W D (nI 5) f n = _ from op_5 W D f n]
    obtain ⟨a1, a2, a3⟩ := hb f (hf (by decide))
    refine ⟨fun j hj => ?_, ?_⟩
    · simp only [upd]; split
      · exact ⟨by rw [i0]; decide, by rw [i0]; decide⟩
      · exact bz_m (by decide) (a1 j hj)
    · show 0 ≤ (max32 _ 0).toInt
      rw [← max0_e]; exact (max0_in _).1
  · rw [show opL W D (nI 6) f n = _ from op_6 W D f n]
    refine ⟨fun j hj => ?_, by show 0 ≤ (0 : Int32).toInt; decide⟩
    simp only [upd]; split
    · exact ⟨by decide, by decide⟩
    · exact ⟨by decide, by decide⟩
  · rw [show opL W D (nI 7) f n = _ from op_7 W D f n]
    refine ⟨fun j hj => ?_, by show 0 ≤ (0 : Int32).toInt; decide⟩
    simp only [upd]; split
    · exact ⟨by decide, by decide⟩
    · exact ⟨by decide, by decide⟩
theorem ok_b {w : Nat → Int32} {d : Int32} (h : ∀ j, j < 6 → bz 1000000 (w j)) (h0 : 0 ≤ d.toInt) (ho : okL w d) : bL w d := by
  refine ⟨fun j hj => ?_, h0, ?_⟩
  · have a := ho.1 j hj
    have e := abs_in2 (bz_m (by decide : (1000000 : Int) ≤ 1000000000) (h j hj))
    rw [Int32.le_iff_toInt_le, e] at a
    have z : (9999 : Int32).toInt = 9999 := rfl
    rw [z] at a
    unfold bz; split at a <;> omega
  · have a := ho.2
    rw [Int32.le_iff_toInt_le] at a
    exact a
theorem b_ok {w : Nat → Int32} {d : Int32} (h : bL w d) : okL w d := by
  refine ⟨fun j hj => ?_, ?_⟩
  · have q := h.1 j hj
    have e := abs_in2 (bz_m (by decide : (9999 : Int) ≤ 1000000000) q)
    rw [Int32.le_iff_toInt_le, e]
    have z : (9999 : Int32).toInt = 9999 := rfl
    rw [z]; have := q.1; have := q.2; split <;> omega
  · rw [Int32.le_iff_toInt_le]; exact h.2.2
theorem okL_c {w v : Nat → Int32} {d : Int32} (h : ∀ j, j < 6 → w j = v j) : okL w d ↔ okL v d := by
  constructor
  · intro z; exact ⟨fun j hj => by rw [← h j hj]; exact z.1 j hj, z.2⟩
  · intro z; exact ⟨fun j hj => by rw [h j hj]; exact z.1 j hj, z.2⟩

