/-! the class Forcing: the cell 98 -/
def fo (F : Nat → Nat → Int32) (a b c : Int32) : Nat → Nat → Int32 := fun q => if q = 98 then (fun j => if j = 0 then a else if j = 1 then b else if j = 2 then c else F 98 j) else F q
theorem fo_0 (F : Nat → Nat → Int32) (a b c x : Int32) : up2 (fo F a b c) 98 0 x = fo F x b c := by
  funext q j
  by_cases h : q = 98
  · subst h; simp only [up2, upd, fo, if_true]; by_cases e : j = 0 <;> simp [e]
  · simp [up2, fo, h]
theorem fo_1 (F : Nat → Nat → Int32) (a b c x : Int32) : up2 (fo F a b c) 98 1 x = fo F a x c := by
  funext q j
  by_cases h : q = 98
  · subst h; simp only [up2, upd, fo, if_true]; by_cases e : j = 1 <;> simp [e]
  · simp [up2, fo, h]
theorem fo_2 (F : Nat → Nat → Int32) (a b c x : Int32) : up2 (fo F a b c) 98 2 x = fo F a b x := by
  funext q j
  by_cases h : q = 98
  · subst h; simp only [up2, upd, fo, if_true]; by_cases e : j = 2 <;> simp [e]
  · simp [up2, fo, h]
theorem fo_set (F : Nat → Nat → Int32) (a b c : Int32) : up2 (up2 (up2 F 98 0 a) 98 1 b) 98 2 c = fo F a b c := by
  funext q j
  by_cases h : q = 98
  · subst h
    simp only [fo, up2, upd, if_true]
    by_cases e0 : j = 0
    · simp [e0]
    · by_cases e1 : j = 1
      · simp [e1]
      · by_cases e2 : j = 2 <;> simp [e0, e1, e2]
  · simp [fo, up2, h]
theorem fo_ne (F : Nat → Nat → Int32) {q : Nat} (a b c : Int32) (h : q ≠ 98) : fo F a b c q = F q := by simp [fo, h]
theorem is_ne98 : ∀ k, k < 174 → sh k = 2 → k ≠ 98 ∧ k + 1 ≠ 98 := by decide +kernel
def bit1 (i : Nat) : Int32 := (1 : Int32) <<< (nI i &&& 31)
abbrev isOp (so nt : Int32) (i : Nat) : Prop := (so ||| nt) >>> (nI i &&& 31) &&& 1 = 0
def vs (w : Nat → Int32) (sl so nt : Int32) : Nat → Int32 × Int32
  | 0 => (so, nt)
  | i + 1 => if isOp (vs w sl so nt i).1 (vs w sl so nt i).2 i ∧ ¬ w i ≤ sl then ((vs w sl so nt i).1 ||| bit1 i, (vs w sl so nt i).2)
    else if isOp (vs w sl so nt i).1 (vs w sl so nt i).2 i ∧ ¬ -(w i) ≤ sl then ((vs w sl so nt i).1, (vs w sl so nt i).2 ||| bit1 i) else vs w sl so nt i
theorem vs_no {w : Nat → Int32} {sl a b : Int32} {i : Nat} (h : ¬ isOp (vs w sl a b i).1 (vs w sl a b i).2 i) : vs w sl a b (i + 1) = vs w sl a b i := by
  rw [vs, if_neg (fun z => h z.1), if_neg (fun z => h z.1)]
theorem vs_so {w : Nat → Int32} {sl a b : Int32} {i : Nat} (h : isOp (vs w sl a b i).1 (vs w sl a b i).2 i) (h2 : ¬ w i ≤ sl) : vs w sl a b (i + 1) = ((vs w sl a b i).1 ||| bit1 i, (vs w sl a b i).2) := by
  rw [vs, if_pos ⟨h, h2⟩]
theorem vs_nt {w : Nat → Int32} {sl a b : Int32} {i : Nat} (h : isOp (vs w sl a b i).1 (vs w sl a b i).2 i) (h2 : w i ≤ sl) (h3 : ¬ -(w i) ≤ sl) : vs w sl a b (i + 1) = ((vs w sl a b i).1, (vs w sl a b i).2 ||| bit1 i) := by
  rw [vs, if_neg (fun z => z.2 h2), if_pos ⟨h, h3⟩]
theorem vs_sm {w : Nat → Int32} {sl a b : Int32} {i : Nat} (h2 : w i ≤ sl) (h3 : -(w i) ≤ sl) : vs w sl a b (i + 1) = vs w sl a b i := by
  rw [vs, if_neg (fun z => z.2 h2), if_neg (fun z => z.2 h3)]
/-- what one line forces: so, not, whether it clashes (1) -/
def vst (w : Nat → Int32) (d so nt c : Int32) : Int32 × Int32 × Int32 := if 0 ≤ mw w so nt 6 - d then ((vs w (mw w so nt 6 - d) so nt 6).1, (vs w (mw w so nt 6 - d) so nt 6).2, c) else (so, nt, 1)
theorem vst_neg {w : Nat → Int32} {d so nt c : Int32} (h : ¬ 0 ≤ mw w so nt 6 - d) : vst w d so nt c = (so, nt, 1) := by rw [vst, if_neg h]
theorem iv_pos {c : Prop} [Decidable c] {a b : Int32} (h : c) : some (Value.int a) = some (Value.int (if c then a else b)) := by rw [if_pos h]
theorem iv_neg {c : Prop} [Decidable c] {a b : Int32} (h : ¬ c) : some (Value.int b) = some (Value.int (if c then a else b)) := by rw [if_neg h]
def fo3 (F : Nat → Nat → Int32) (q : Int32 × Int32 × Int32) : Nat → Nat → Int32 := fo F q.1 q.2.1 q.2.2
/-- one pass over the first lines, till it clashes -/
def pvs (W : Nat → Nat → Int32) (D : Nat → Int32) (a b : Int32) : Nat → Int32 × Int32 × Int32
  | 0 => (a, b, 0)
  | i + 1 => if (pvs W D a b i).2.2 = 0 then vst (W i) (D i) (pvs W D a b i).1 (pvs W D a b i).2.1 (pvs W D a b i).2.2 else pvs W D a b i
theorem pvs_stay {W : Nat → Nat → Int32} {D : Nat → Int32} {a b : Int32} {i : Nat} (h : ¬ (pvs W D a b i).2.2 = 0) : ∀ {j : Nat}, i ≤ j → pvs W D a b j = pvs W D a b i := by
  intro j hj
  induction j with
  | zero => obtain rfl : i = 0 := by omega
            rfl
  | succ j ih =>
    rcases Nat.lt_or_ge j i with q | q
    · obtain rfl : i = j + 1 := by omega
      rfl
    · rw [pvs, ih q, if_neg h]
/-- passes, till nothing is new or it clashes -/
def fps (W : Nat → Nat → Int32) (D : Nat → Int32) (N : Nat) (a b : Int32) : Nat → (Int32 × Int32 × Int32) × Int32
  | 0 => ((a, b, 0), 1)
  | p + 1 => if (fps W D N a b p).2 = 0 ∨ ¬ (fps W D N a b p).1.2.2 = 0 then fps W D N a b p else
      (pvs W D (fps W D N a b p).1.1 (fps W D N a b p).1.2.1 N, if ((pvs W D (fps W D N a b p).1.1 (fps W D N a b p).1.2.1 N).1 ||| (pvs W D (fps W D N a b p).1.1 (fps W D N a b p).1.2.1 N).2.1) = ((fps W D N a b p).1.1 ||| (fps W D N a b p).1.2.1) then 0 else 1)
theorem fps_stay {W : Nat → Nat → Int32} {D : Nat → Int32} {N : Nat} {a b : Int32} {i j : Nat} (h : (fps W D N a b i).2 = 0 ∨ ¬ (fps W D N a b i).1.2.2 = 0) (hj : i ≤ j) : fps W D N a b j = fps W D N a b i := by
  induction j with
  | zero => obtain rfl : i = 0 := by omega
            rfl
  | succ j ih =>
    rcases Nat.lt_or_ge j i with q | q
    · obtain rfl : i = j + 1 := by omega
      rfl
    · rw [fps, ih q, if_pos h]
theorem fps_go {W : Nat → Nat → Int32} {D : Nat → Int32} {N : Nat} {a b : Int32} {i : Nat} {q : Int32 × Int32 × Int32} {nw : Int32} (hq : (q, nw) = fps W D N a b i) (h1 : ¬ nw = 0) (h2 : q.2.2 = 0) : fps W D N a b (i + 1) = (pvs W D q.1 q.2.1 N, if ((pvs W D q.1 q.2.1 N).1 ||| (pvs W D q.1 q.2.1 N).2.1) = (q.1 ||| q.2.1) then 0 else 1) := by
  rw [fps, ← hq, if_neg (fun z => z.elim h1 (fun y => y h2))]

set_option maxRecDepth 100000 in
set_option maxHeartbeats 4000000 in
theorem lp_visit (g : Gl) (l : Launch) {k : Nat} (hk : k < 174 ∧ sh k = 2) (a b c sl : Int32) (F : Nat → Nat → Int32) (J : Nat → Int64) (hsl : sl = mw (F (k + 1)) a b 6 - F k 1) (h0 : 0 ≤ sl) {XX : State → Method → Prop} (n : Nat) : ∀ (i : Nat) (so nt ix : Int32) (x4 x5 : Option Value), i + n = 6 → so = (vs (F (k + 1)) sl a b i).1 → nt = (vs (F (k + 1)) sl a b i).2 → ix = nI i → Gj g l (rmd 2 0 0) XX (QM g (fun r S2 => r = none ∧ S2 = St (fo3 F (vst (F (k + 1)) (F k 1) a b c)) J) 0 0) RX1 cX1_visit 6 none 30 [some (.ref 98), some (.ref k), some (.int sl), some (.int ix), x4, x5] [] (St (fo F so nt c) J) 0 0 := by
  obtain ⟨hw, hln⟩ := isl_w k hk.1 hk.2
  obtain ⟨n1, n2⟩ := is_ne98 k hk.1 hk.2
  induction n with
  | zero =>
    intro i so nt ix x4 x5 hi hs hn hx
    obtain rfl : i = 6 := by omega
    subst hs; subst hn; subst hx
    refine g_iload_n 31 dX1_visit_30 rfl rfl ?_
    refine g_bipush (6) 33 dX1_visit_31 rfl (by decide) ?_
    refine g_icmp_ge 123 36 dX1_visit_33 rfl (by decide) (fun h33 => ?_) (fun h33 => ?_)
    · refine g_vret dX1_visit_123 ?_
      exact ⟨rfl, by rw [vst, ← hsl, if_pos h0]; rfl⟩
    · exact absurd (by decide) h33
  | succ n ih =>
    intro i so nt ix x4 x5 hi hs hn hx
    subst hx
    have rw1 : fo F so nt c (k + 1) = F (k + 1) := fo_ne F _ _ _ n2
    refine g_iload_n 31 dX1_visit_30 rfl rfl ?_
    refine g_bipush (6) 33 dX1_visit_31 rfl (by decide) ?_
    refine g_icmp_ge 123 36 dX1_visit_33 rfl (by decide) (fun h33 => ?_) (fun h33 => ?_)
    · exact absurd h33 (lt6 (by omega))
    · refine g_aload_n 37 dX1_visit_36 rfl rfl ?_
      refine gf_2_0 40 dX1_visit_37 rfl kf_X1_39 (by first | decide | assumption | exact ⟨Nat.le_of_ble_eq_true rfl, rfl⟩) ?_
      refine g_iload_n 41 dX1_visit_40 rfl rfl ?_
      refine ga_ild (i) 42 dX1_visit_41 rfl (by first | decide | assumption | exact ⟨Nat.le_of_ble_eq_true rfl, rfl⟩) rfl (by rw [hln]; omega) ?_
      rw [rw1]
      refine g_istore 44 dX1_visit_42 rfl (by decide) ?_
      refine g_aload_n 45 dX1_visit_44 rfl rfl ?_
      refine gf_1_0 48 dX1_visit_45 rfl kf_X1_9 (by first | decide | assumption | exact ⟨Nat.le_of_ble_eq_true rfl, rfl⟩) ?_
      refine g_aload_n 49 dX1_visit_48 rfl rfl ?_
      refine gf_1_1 52 dX1_visit_49 rfl kf_X1_15 (by first | decide | assumption | exact ⟨Nat.le_of_ble_eq_true rfl, rfl⟩) ?_
      refine g_ior 53 dX1_visit_52 rfl ?_
      refine g_iload_n 54 dX1_visit_53 rfl rfl ?_
      refine g_ishr 55 dX1_visit_54 rfl ?_
      refine g_iconst (1) 56 dX1_visit_55 rfl (by decide) ?_
      refine g_iand 57 dX1_visit_56 rfl ?_
      refine g_if_ne 64 60 dX1_visit_57 rfl (by decide) (fun h57 => ?_) (fun h57 => ?_)
      · refine g_iconst (0) 65 dX1_visit_64 rfl (by decide) ?_
        refine g_istore 67 dX1_visit_65 rfl (by decide) ?_
        refine g_iload 69 dX1_visit_67 rfl rfl ?_
        refine g_if_eq 93 72 dX1_visit_69 rfl (by decide) (fun h69 => ?_) (fun h69 => ?_)
        · refine g_iload 95 dX1_visit_93 rfl rfl ?_
          refine g_if_eq 117 98 dX1_visit_95 rfl (by decide) (fun h95 => ?_) (fun h95 => ?_)
          · refine g_iinc (1) 120 dX1_visit_117 rfl (by decide) (by decide) rfl ?_
            refine g_goto 30 dX1_visit_120 (by decide) ?_
            exact ih (i + 1) _ _ _ _ _ (by omega) (by rw [vs_no (by rw [← hs, ← hn]; exact h57), hs]) (by rw [vs_no (by rw [← hs, ← hn]; exact h57), hn]) (nI_succ i).symm
          · exact absurd h95 (by decide)
        · exact absurd h69 (by decide)
      · refine g_iconst (1) 61 dX1_visit_60 rfl (by decide) ?_
        refine g_goto 65 dX1_visit_61 (by decide) ?_
        refine g_istore 67 dX1_visit_65 rfl (by decide) ?_
        refine g_iload 69 dX1_visit_67 rfl rfl ?_
        refine g_if_eq 93 72 dX1_visit_69 rfl (by decide) (fun h69 => ?_) (fun h69 => ?_)
        · exact absurd h69 (by decide)
        · refine g_iload 74 dX1_visit_72 rfl rfl ?_
          refine g_iload_n 75 dX1_visit_74 rfl rfl ?_
          refine g_icmp_le 93 78 dX1_visit_75 rfl (by decide) (fun h75 => ?_) (fun h75 => ?_)
          · refine g_iload 95 dX1_visit_93 rfl rfl ?_
            refine g_if_eq 117 98 dX1_visit_95 rfl (by decide) (fun h95 => ?_) (fun h95 => ?_)
            · exact absurd h95 (by decide)
            · refine g_iload 100 dX1_visit_98 rfl rfl ?_
              refine g_ineg 101 dX1_visit_100 rfl ?_
              refine g_iload_n 102 dX1_visit_101 rfl rfl ?_
              refine g_icmp_le 117 105 dX1_visit_102 rfl (by decide) (fun h102 => ?_) (fun h102 => ?_)
              · refine g_iinc (1) 120 dX1_visit_117 rfl (by decide) (by decide) rfl ?_
                refine g_goto 30 dX1_visit_120 (by decide) ?_
                exact ih (i + 1) _ _ _ _ _ (by omega) (by rw [vs_sm h75 h102, hs]) (by rw [vs_sm h75 h102, hn]) (nI_succ i).symm
              · refine g_aload_n 106 dX1_visit_105 rfl rfl ?_
                refine g_dup 107 dX1_visit_106 rfl rfl ?_
                refine gf_1_1 110 dX1_visit_107 rfl kf_X1_15 (by first | decide | assumption | exact ⟨Nat.le_of_ble_eq_true rfl, rfl⟩) ?_
                refine g_iconst (1) 111 dX1_visit_110 rfl (by decide) ?_
                refine g_iload_n 112 dX1_visit_111 rfl rfl ?_
                refine g_ishl 113 dX1_visit_112 rfl ?_
                refine g_ior 114 dX1_visit_113 rfl ?_
                refine gp_1_1 117 dX1_visit_114 rfl kf_X1_15 (by first | decide | assumption | exact ⟨Nat.le_of_ble_eq_true rfl, rfl⟩) ?_
                refine g_iinc (1) 120 dX1_visit_117 rfl (by decide) (by decide) rfl ?_
                refine g_goto 30 dX1_visit_120 (by decide) ?_
                rw [fo_1]
                exact ih (i + 1) _ _ _ _ _ (by omega) (by rw [vs_nt (by rw [← hs, ← hn]; exact h57) h75 h102, hs]) (by rw [vs_nt (by rw [← hs, ← hn]; exact h57) h75 h102, hn]; rfl) (nI_succ i).symm
          · refine g_aload_n 79 dX1_visit_78 rfl rfl ?_
            refine g_dup 80 dX1_visit_79 rfl rfl ?_
            refine gf_1_0 83 dX1_visit_80 rfl kf_X1_9 (by first | decide | assumption | exact ⟨Nat.le_of_ble_eq_true rfl, rfl⟩) ?_
            refine g_iconst (1) 84 dX1_visit_83 rfl (by decide) ?_
            refine g_iload_n 85 dX1_visit_84 rfl rfl ?_
            refine g_ishl 86 dX1_visit_85 rfl ?_
            refine g_ior 87 dX1_visit_86 rfl ?_
            refine gp_1_0 90 dX1_visit_87 rfl kf_X1_9 (by first | decide | assumption | exact ⟨Nat.le_of_ble_eq_true rfl, rfl⟩) ?_
            refine g_goto 117 dX1_visit_90 (by decide) ?_
            refine g_iinc (1) 120 dX1_visit_117 rfl (by decide) (by decide) rfl ?_
            refine g_goto 30 dX1_visit_120 (by decide) ?_
            rw [fo_0]
            exact ih (i + 1) _ _ _ _ _ (by omega) (by rw [vs_so (by rw [← hs, ← hn]; exact h57) h75, hs]; rfl) (by rw [vs_so (by rw [← hs, ← hn]; exact h57) h75, hn]) (nI_succ i).symm

set_option maxRecDepth 100000 in
set_option maxHeartbeats 4000000 in
theorem c_visit (g : Gl) (l : Launch) {k : Nat} (hk : k < 174 ∧ sh k = 2) (a b c : Int32) (F : Nat → Nat → Int32) (J : Nat → Int64) : Ct g l yX1_visit cX1_visit 6 none 2 0 0 [.ref 98, .ref k] (St (fo F a b c) J) (fun r S2 => r = none ∧ S2 = St (fo3 F (vst (F (k + 1)) (F k 1) a b c)) J) := by
  obtain ⟨hw, hln⟩ := isl_w k hk.1 hk.2
  obtain ⟨n1, n2⟩ := is_ne98 k hk.1 hk.2
  have rw1 : fo F a b c (k + 1) = F (k + 1) := fo_ne F _ _ _ n2
  have rw2 : fo F a b c k = F k := fo_ne F _ _ _ n1
  refine Ct.of rfl (by decide) rfl (Nat.le_of_ble_eq_true rfl) ?_
  refine g_aload_n 1 dX1_visit_0 rfl rfl ?_
  refine g_aload_n 2 dX1_visit_1 rfl rfl ?_
  refine gf_1_0 5 dX1_visit_2 rfl kf_X1_9 (by first | decide | assumption | exact ⟨Nat.le_of_ble_eq_true rfl, rfl⟩) ?_
  refine g_aload_n 6 dX1_visit_5 rfl rfl ?_
  refine gf_1_1 9 dX1_visit_6 rfl kf_X1_15 (by first | decide | assumption | exact ⟨Nat.le_of_ble_eq_true rfl, rfl⟩) ?_
  refine g_v2 2 12 dX1_visit_9 rfl kl_X1_30 mv_X2_mayWeigh rfl ⟨Nat.le_of_ble_eq_true rfl, Nat.le_of_ble_eq_true rfl⟩ (Nat.le_of_ble_eq_true rfl) (by first | decide | assumption | exact ⟨Nat.le_of_ble_eq_true rfl, rfl⟩) (c_mayWeigh g l hk _ _ _ J) ?_
  rintro _ _ ⟨rfl, rfl⟩
  refine g_aload_n 13 dX1_visit_12 rfl rfl ?_
  refine gf_2_1 16 dX1_visit_13 rfl kf_X1_36 (by first | decide | assumption | exact ⟨Nat.le_of_ble_eq_true rfl, rfl⟩) ?_
  rw [rw1, rw2]
  refine g_isub 17 dX1_visit_16 rfl ?_
  refine g_istore_n 18 dX1_visit_17 rfl (by decide) ?_
  refine g_iload_n 19 dX1_visit_18 rfl rfl ?_
  refine g_if_ge 28 22 dX1_visit_19 rfl (by decide) (fun h19 => ?_) (fun h19 => ?_)
  · refine g_iconst (0) 29 dX1_visit_28 rfl (by decide) ?_
    refine g_istore_n 30 dX1_visit_29 rfl (by decide) ?_
    exact lp_visit g l hk a b c _ F J rfl h19 6 0 _ _ _ _ _ rfl rfl rfl rfl
  · refine g_aload_n 23 dX1_visit_22 rfl rfl ?_
    refine g_iconst (1) 24 dX1_visit_23 rfl (by decide) ?_
    refine gp_1_2 27 dX1_visit_24 rfl kf_X1_18 (by first | decide | assumption | exact ⟨Nat.le_of_ble_eq_true rfl, rfl⟩) (by decide) ?_
    refine g_vret dX1_visit_27 ?_
    exact ⟨rfl, by rw [fo_2, vst_neg (so := a) (nt := b) h19]; rfl⟩

set_option maxRecDepth 100000 in
set_option maxHeartbeats 4000000 in
theorem ex_passOver (g : Gl) (l : Launch) (a b : Int32) (N : Nat) (F : Nat → Nat → Int32) (J : Nat → Int64) {XX : State → Method → Prop} (x4 : Option Value) (nn : Int32) (q : Int32 × Int32 × Int32) (hq : q = pvs (fun i => F (101 + 2 * i + 1)) (fun i => F (101 + 2 * i) 1) a b N) : Gj g l (rmd 3 0 0) XX (QM g (fun r S2 => r = some (.int (if ((pvs (fun i => F (101 + 2 * i + 1)) (fun i => F (101 + 2 * i) 1) a b N).1 ||| (pvs (fun i => F (101 + 2 * i + 1)) (fun i => F (101 + 2 * i) 1) a b N).2.1) = (a ||| b) then 0 else 1)) ∧ S2 = St (fo3 F (pvs (fun i => F (101 + 2 * i + 1)) (fun i => F (101 + 2 * i) 1) a b N)) J) 0 0) RX1 cX1_passOver 5 (some .boolean) 47 [some (.ref 98), some (.ref 100), some (.int nn), some (.int (a ||| b)), x4] [] (St (fo3 F q) J) 0 0 := by
  subst hq
  refine g_aload_n 48 dX1_passOver_47 rfl rfl ?_
  refine gf_1_0 51 dX1_passOver_48 rfl kf_X1_9 (by first | decide | assumption | exact ⟨Nat.le_of_ble_eq_true rfl, rfl⟩) ?_
  refine g_aload_n 52 dX1_passOver_51 rfl rfl ?_
  refine gf_1_1 55 dX1_passOver_52 rfl kf_X1_15 (by first | decide | assumption | exact ⟨Nat.le_of_ble_eq_true rfl, rfl⟩) ?_
  refine g_ior 56 dX1_passOver_55 rfl ?_
  refine g_iload_n 57 dX1_passOver_56 rfl rfl ?_
  refine g_icmp_eq 64 60 dX1_passOver_57 rfl (by decide) (fun h57 => ?_) (fun h57 => ?_)
  · refine g_iconst (0) 65 dX1_passOver_64 rfl (by decide) ?_
    refine g_zret dX1_passOver_65 (by decide) ?_
    exact ⟨iv_pos h57, rfl⟩
  · refine g_iconst (1) 61 dX1_passOver_60 rfl (by decide) ?_
    refine g_goto 65 dX1_passOver_61 (by decide) ?_
    refine g_zret dX1_passOver_65 (by decide) ?_
    exact ⟨iv_neg h57, rfl⟩

theorem ln_is : ∀ j, j < 32 → (101 + 2 * j < 174 ∧ sh (101 + 2 * j) = 2) := by decide +kernel
set_option maxRecDepth 100000 in
set_option maxHeartbeats 4000000 in
theorem lp_passOver (g : Gl) (l : Launch) (a b : Int32) {N : Nat} (hN : N ≤ 32) (F : Nat → Nat → Int32) (J : Nat → Int64) {XX : State → Method → Prop} (n : Nat) : ∀ (i : Nat) (ix : Int32) (q : Int32 × Int32 × Int32), i + n = N → ix = nI i → q = pvs (fun i => F (101 + 2 * i + 1)) (fun i => F (101 + 2 * i) 1) a b i → Gj g l (rmd 3 0 0) XX (QM g (fun r S2 => r = some (.int (if ((pvs (fun i => F (101 + 2 * i + 1)) (fun i => F (101 + 2 * i) 1) a b N).1 ||| (pvs (fun i => F (101 + 2 * i + 1)) (fun i => F (101 + 2 * i) 1) a b N).2.1) = (a ||| b) then 0 else 1)) ∧ S2 = St (fo3 F (pvs (fun i => F (101 + 2 * i + 1)) (fun i => F (101 + 2 * i) 1) a b N)) J) 0 0) RX1 cX1_passOver 5 (some .boolean) 13 [some (.ref 98), some (.ref 100), some (.int (nI N)), some (.int (a ||| b)), some (.int ix)] [] (St (fo3 F q) J) 0 0 := by
  induction n with
  | zero =>
    intro i ix q hi hx hq
    obtain rfl : i = N := by omega
    subst hx
    refine g_iload 15 dX1_passOver_13 rfl rfl ?_
    refine g_iload_n 16 dX1_passOver_15 rfl rfl ?_
    refine g_icmp_ge 47 19 dX1_passOver_16 rfl (by decide) (fun h16 => ?_) (fun h16 => ?_)
    · exact ex_passOver g l a b i F J _ _ q hq
    · exact absurd (nI_le (Nat.le_refl i) (by omega)) h16
  | succ n ih =>
    intro i ix q hi hx hq
    subst hx
    refine g_iload 15 dX1_passOver_13 rfl rfl ?_
    refine g_iload_n 16 dX1_passOver_15 rfl rfl ?_
    refine g_icmp_ge 47 19 dX1_passOver_16 rfl (by decide) (fun h16 => ?_) (fun h16 => ?_)
    · exact absurd h16 (nI_ge (by omega) (by omega))
    · refine g_iload 21 dX1_passOver_19 rfl rfl ?_
      refine g_aload_n 22 dX1_passOver_21 rfl rfl ?_
      refine ga_len 23 dX1_passOver_22 rfl ⟨by decide, Or.inr rfl⟩ ?_
      refine g_icmp_ge 47 26 dX1_passOver_23 rfl (by decide) (fun h23 => ?_) (fun h23 => ?_)
      · exact absurd h23 (nI_ge (a := i) (b := 32) (by omega) (by decide))
      · refine g_aload_n 27 dX1_passOver_26 rfl rfl ?_
        refine gf_1_2 30 dX1_passOver_27 rfl kf_X1_18 (by first | decide | assumption | exact ⟨Nat.le_of_ble_eq_true rfl, rfl⟩) ?_
        refine g_if_ne 47 33 dX1_passOver_30 rfl (by decide) (fun h30 => ?_) (fun h30 => ?_)
        · exact ex_passOver g l a b N F J _ _ q (by rw [hq]; exact (pvs_stay (by rw [← hq]; exact h30) (by omega)).symm)
        · refine g_aload_n 34 dX1_passOver_33 rfl rfl ?_
          refine g_aload_n 35 dX1_passOver_34 rfl rfl ?_
          refine g_iload 37 dX1_passOver_35 rfl rfl ?_
          refine ga_lines i 38 dX1_passOver_37 rfl rfl (by omega) ?_
          refine g_v1 1 41 dX1_passOver_38 rfl kl_X1_26 mv_X1_visit rfl ⟨Nat.le_of_ble_eq_true rfl, Nat.le_of_ble_eq_true rfl⟩ (Nat.le_of_ble_eq_true rfl) (by first | decide | assumption | exact ⟨Nat.le_of_ble_eq_true rfl, rfl⟩) (c_visit g l (ln_is i (by omega)) q.1 q.2.1 q.2.2 F J) ?_
          rintro _ _ ⟨rfl, rfl⟩
          refine g_iinc (1) 44 dX1_passOver_41 rfl (by decide) (by decide) rfl ?_
          refine g_goto 13 dX1_passOver_44 (by decide) ?_
          exact ih (i + 1) _ _ (by omega) (nI_succ i).symm (by rw [pvs, ← hq]; exact (if_pos h30).symm)

set_option maxRecDepth 100000 in
set_option maxHeartbeats 4000000 in
theorem c_passOver (g : Gl) (l : Launch) (a b : Int32) {N : Nat} (hN : N ≤ 32) (F : Nat → Nat → Int32) (J : Nat → Int64) : Ct g l yX1_passOver cX1_passOver 5 (some .boolean) 3 0 0 [.ref 98, .ref 100, .int (nI N)] (St (fo F a b 0) J) (fun r S2 => r = some (.int (if ((pvs (fun i => F (101 + 2 * i + 1)) (fun i => F (101 + 2 * i) 1) a b N).1 ||| (pvs (fun i => F (101 + 2 * i + 1)) (fun i => F (101 + 2 * i) 1) a b N).2.1) = (a ||| b) then 0 else 1)) ∧ S2 = St (fo3 F (pvs (fun i => F (101 + 2 * i + 1)) (fun i => F (101 + 2 * i) 1) a b N)) J) := by
  refine Ct.of rfl (by decide) rfl (Nat.le_of_ble_eq_true rfl) ?_
  refine g_aload_n 1 dX1_passOver_0 rfl rfl ?_
  refine gf_1_0 4 dX1_passOver_1 rfl kf_X1_9 (by first | decide | assumption | exact ⟨Nat.le_of_ble_eq_true rfl, rfl⟩) ?_
  refine g_aload_n 5 dX1_passOver_4 rfl rfl ?_
  refine gf_1_1 8 dX1_passOver_5 rfl kf_X1_15 (by first | decide | assumption | exact ⟨Nat.le_of_ble_eq_true rfl, rfl⟩) ?_
  refine g_ior 9 dX1_passOver_8 rfl ?_
  refine g_istore_n 10 dX1_passOver_9 rfl (by decide) ?_
  refine g_iconst (0) 11 dX1_passOver_10 rfl (by decide) ?_
  refine g_istore 13 dX1_passOver_11 rfl (by decide) ?_
  exact lp_passOver g l a b hN F J N 0 _ (a, b, 0) (by omega) rfl rfl

theorem pass_at (g : Gl) (l : Launch) {N : Nat} (hN : N ≤ 32) (F : Nat → Nat → Int32) (J : Nat → Int64) (q : Int32 × Int32 × Int32) (h : q.2.2 = 0) : Ct g l yX1_passOver cX1_passOver 5 (some .boolean) 3 0 0 [.ref 98, .ref 100, .int (nI N)] (St (fo3 F q) J) (fun r S2 => r = some (.int (if ((pvs (fun i => F (101 + 2 * i + 1)) (fun i => F (101 + 2 * i) 1) q.1 q.2.1 N).1 ||| (pvs (fun i => F (101 + 2 * i + 1)) (fun i => F (101 + 2 * i) 1) q.1 q.2.1 N).2.1) = (q.1 ||| q.2.1) then 0 else 1)) ∧ S2 = St (fo3 F (pvs (fun i => F (101 + 2 * i + 1)) (fun i => F (101 + 2 * i) 1) q.1 q.2.1 N)) J) := by
  have e : fo3 F q = fo F q.1 q.2.1 0 := by rw [fo3, h]
  rw [e]
  exact c_passOver g l q.1 q.2.1 hN F J
set_option maxRecDepth 100000 in
set_option maxHeartbeats 4000000 in
theorem lp_force (g : Gl) (l : Launch) (a b : Int32) {N : Nat} (hN : N ≤ 32) (F : Nat → Nat → Int32) (J : Nat → Int64) {XX : State → Method → Prop} (n : Nat) : ∀ (i : Nat) (ix nw : Int32) (q : Int32 × Int32 × Int32), i + n = 7 → ix = nI i → (q, nw) = fps (fun i => F (101 + 2 * i + 1)) (fun i => F (101 + 2 * i) 1) N a b i → Gj g l (rmd 4 0 0) XX (QM g (fun r S2 => r = none ∧ S2 = St (fo3 F (fps (fun i => F (101 + 2 * i + 1)) (fun i => F (101 + 2 * i) 1) N a b 7).1) J) 0 0) RX1 cX1_force 7 none 22 [some (.ref 98), some (.ref 100), some (.int (nI N)), some (.int a), some (.int b), some (.int nw), some (.int ix)] [] (St (fo3 F q) J) 0 0 := by
  induction n with
  | zero =>
    intro i ix nw q hi hx hq
    obtain rfl : i = 7 := by omega
    subst hx
    refine g_iload 24 dX1_force_22 rfl rfl ?_
    refine g_bipush (6) 26 dX1_force_24 rfl (by decide) ?_
    refine g_icmp_gt 55 29 dX1_force_26 rfl (by decide) (fun h26 => ?_) (fun h26 => ?_)
    · refine g_vret dX1_force_55 ?_
      exact ⟨rfl, by rw [← hq]⟩
    · exact absurd (by decide) h26
  | succ n ih =>
    intro i ix nw q hi hx hq
    subst hx
    refine g_iload 24 dX1_force_22 rfl rfl ?_
    refine g_bipush (6) 26 dX1_force_24 rfl (by decide) ?_
    refine g_icmp_gt 55 29 dX1_force_26 rfl (by decide) (fun h26 => ?_) (fun h26 => ?_)
    · exact absurd h26 (nI_nlt (a := 6) (b := i) (by omega) (by decide))
    · refine g_iload 31 dX1_force_29 rfl rfl ?_
      refine g_if_eq 55 34 dX1_force_31 rfl (by decide) (fun h31 => ?_) (fun h31 => ?_)
      · refine g_vret dX1_force_55 ?_
        exact ⟨rfl, by rw [fps_stay (i := i) (j := 7) (by rw [← hq]; exact Or.inl h31) (by omega), ← hq]⟩
      · refine g_aload_n 35 dX1_force_34 rfl rfl ?_
        refine gf_1_2 38 dX1_force_35 rfl kf_X1_18 (by first | decide | assumption | exact ⟨Nat.le_of_ble_eq_true rfl, rfl⟩) ?_
        refine g_if_ne 55 41 dX1_force_38 rfl (by decide) (fun h38 => ?_) (fun h38 => ?_)
        · refine g_vret dX1_force_55 ?_
          exact ⟨rfl, by rw [fps_stay (i := i) (j := 7) (by rw [← hq]; exact Or.inr h38) (by omega), ← hq]⟩
        · refine g_aload_n 42 dX1_force_41 rfl rfl ?_
          refine g_aload_n 43 dX1_force_42 rfl rfl ?_
          refine g_iload_n 44 dX1_force_43 rfl rfl ?_
          refine g_v2 1 47 dX1_force_44 rfl kl_X1_22 mv_X1_passOver rfl ⟨Nat.le_of_ble_eq_true rfl, Nat.le_of_ble_eq_true rfl⟩ (Nat.le_of_ble_eq_true rfl) (by first | decide | assumption | exact ⟨Nat.le_of_ble_eq_true rfl, rfl⟩) (pass_at g l hN F J q h38) ?_
          rintro _ _ ⟨rfl, rfl⟩
          refine g_istore 49 dX1_force_47 rfl (by decide) ?_
          refine g_iinc (1) 52 dX1_force_49 rfl (by decide) (by decide) rfl ?_
          refine g_goto 22 dX1_force_52 (by decide) ?_
          exact ih (i + 1) _ _ _ (by omega) (nI_succ i).symm (fps_go hq h31 h38).symm

set_option maxRecDepth 100000 in
set_option maxHeartbeats 4000000 in
theorem c_force (g : Gl) (l : Launch) (a b : Int32) {N : Nat} (hN : N ≤ 32) (F : Nat → Nat → Int32) (J : Nat → Int64) : Ct g l yX1_force cX1_force 7 none 4 0 0 [.ref 98, .ref 100, .int (nI N), .int a, .int b] (St F J) (fun r S2 => r = none ∧ S2 = St (fo3 F (fps (fun i => F (101 + 2 * i + 1)) (fun i => F (101 + 2 * i) 1) N a b 7).1) J) := by
  refine Ct.of rfl (by decide) rfl (Nat.le_of_ble_eq_true rfl) ?_
  refine g_aload_n 1 dX1_force_0 rfl rfl ?_
  refine g_iload_n 2 dX1_force_1 rfl rfl ?_
  refine gp_1_0 5 dX1_force_2 rfl kf_X1_9 (by first | decide | assumption | exact ⟨Nat.le_of_ble_eq_true rfl, rfl⟩) ?_
  refine g_aload_n 6 dX1_force_5 rfl rfl ?_
  refine g_iload 8 dX1_force_6 rfl rfl ?_
  refine gp_1_1 11 dX1_force_8 rfl kf_X1_15 (by first | decide | assumption | exact ⟨Nat.le_of_ble_eq_true rfl, rfl⟩) ?_
  refine g_aload_n 12 dX1_force_11 rfl rfl ?_
  refine g_iconst (0) 13 dX1_force_12 rfl (by decide) ?_
  refine gp_1_2 16 dX1_force_13 rfl kf_X1_18 (by first | decide | assumption | exact ⟨Nat.le_of_ble_eq_true rfl, rfl⟩) (by decide) ?_
  rw [fo_set]
  refine g_iconst (1) 17 dX1_force_16 rfl (by decide) ?_
  refine g_istore 19 dX1_force_17 rfl (by decide) ?_
  refine g_iconst (0) 20 dX1_force_19 rfl (by decide) ?_
  refine g_istore 22 dX1_force_20 rfl (by decide) ?_
  exact lp_force g l a b hN F J 7 0 _ _ (a, b, 0) rfl rfl rfl

