/-! the reference: proof -/
abbrev X4 : Type := Bool × Nat × Nat × (Nat → P5)
def mpZ (x : X4) (Q : Nat → P5) (F : Nat → Nat → Int32) (G : Nat) (W : Nat → Nat → Int32) (D : Nat → Int32) (P : Nat → Int32) (J : Nat → Int64) : Option Value → Sg → Prop := fun r S2 =>
  (x.1 = true ∧ r = some (.int (nI (wkS Q G W D x.2.1).2.2.2)) ∧ ∃ F2, S2 = St F2 J ∧ F2 167 9 = nI G ∧ F2 167 10 = nI (wkS Q G W D x.2.1).2.2.2 ∧ F2 167 11 = nI x.2.1 ∧ F2 167 12 = (if (wkS Q G W D x.2.1).2.2.1 = 0 then -9 else nI (wkS Q G W D x.2.1).2.2.2) ∧ F2 167 13 = (if (wkS Q G W D x.2.1).2.2.1 = 0 then -9 else (wkS Q G W D x.2.1).2.2.1) ∧ F2 167 2 = 0 ∧ F2 167 0 = F 167 0 ∧ AG F2 (wkS Q G W D x.2.1).1 (wkS Q G W D x.2.1).2.1 (G + (wkS Q G W D x.2.1).2.2.2) ∧ BB (wkS Q G W D x.2.1).1 (wkS Q G W D x.2.1).2.1 (G + (wkS Q G W D x.2.1).2.2.2) ∧ ∀ q, q ≠ 167 → q ≠ 169 → q ≠ 170 → q ≠ 171 → F2 q = F q) ∨ (x.1 = false ∧ r = some (.int (-10 - P x.2.2.1)) ∧ ∃ F2, S2 = St F2 J ∧ kpF F F2)
def ivM (F : Nat → Nat → Int32) (Q : Nat → P5) (G : Nat) (W : Nat → Nat → Int32) (D : Nat → Int32) (T s : Nat) (F1 : Nat → Nat → Int32) : Prop := F1 167 9 = nI G ∧ F1 167 10 = nI s ∧ F1 167 11 = nI T ∧ F1 167 12 = -9 ∧ F1 167 13 = -9 ∧ F1 167 2 = 0 ∧ F1 167 0 = F 167 0 ∧ AG F1 (wkS Q G W D s).1 (wkS Q G W D s).2.1 (G + s) ∧ BB (wkS Q G W D s).1 (wkS Q G W D s).2.1 (G + s) ∧ (∀ b, b < T → stR F1 b (Q b)) ∧ (wkS Q G W D s).2.2.1 = 0 ∧ ∀ q, q ≠ 167 → q ≠ 169 → q ≠ 170 → q ≠ 171 → F1 q = F q
theorem wkS_nx {Q : Nat → P5} {G : Nat} {W : Nat → Nat → Int32} {D : Nat → Int32} {s : Nat} (h : (wkS Q G W D s).2.2.1 = 0) : wkS Q G W D (s + 1) = ((wk1 (Q s) (G + s) (wkS Q G W D s).1 (wkS Q G W D s).2.1).1, (wk1 (Q s) (G + s) (wkS Q G W D s).1 (wkS Q G W D s).2.1).2.1, (wk1 (Q s) (G + s) (wkS Q G W D s).1 (wkS Q G W D s).2.1).2.2, if (wk1 (Q s) (G + s) (wkS Q G W D s).1 (wkS Q G W D s).2.1).2.2 = 0 then s + 1 else s) := by rw [wkS, if_pos h]
abbrev f3 (Y : Nat → Nat → Int32) (a b c : Int32) : Nat → Nat → Int32 := up2 (up2 (up2 Y 167 13 a) 167 12 b) 167 10 c
theorem f3_q (Y : Nat → Nat → Int32) (a b c : Int32) {q : Nat} (h : q ≠ 167) : f3 Y a b c q = Y q := by simp [f3, up2, h]
theorem AG_169 {F F2 W : Nat → Nat → Int32} {D : Nat → Int32} {m : Nat} (e : F2 169 = F 169) (h : AG F W D m) : AG F2 W D m := fun i hi => by
  unfold Wm Dm; rw [e]; exact h i hi
theorem stR_171 {F F2 : Nat → Nat → Int32} {i : Nat} {q : P5} (e : F2 171 = F 171) (h : stR F i q) : stR F2 i q := by
  unfold stR; rw [e]; exact h
theorem iv_ok {F F1 X Y : Nat → Nat → Int32} {Q : Nat → P5} {G : Nat} {W : Nat → Nat → Int32} {D : Nat → Int32} {T s : Nat} (hI : ivM F Q G W D T s F1) (hY : ∀ q, q ≠ 167 → q ≠ 169 → Y q = F1 q) (h7 : ∀ j, j < 16 → Y 167 j = F1 167 j) (h9 : Y 169 = X 169) (h : (wk1 (Q s) (G + s) (wkS Q G W D s).1 (wkS Q G W D s).2.1).2.2 = 0 ∧ AG X (wk1 (Q s) (G + s) (wkS Q G W D s).1 (wkS Q G W D s).2.1).1 (wk1 (Q s) (G + s) (wkS Q G W D s).1 (wkS Q G W D s).2.1).2.1 (G + s + 1) ∧ BB (wk1 (Q s) (G + s) (wkS Q G W D s).1 (wkS Q G W D s).2.1).1 (wk1 (Q s) (G + s) (wkS Q G W D s).1 (wkS Q G W D s).2.1).2.1 (G + s + 1)) : ivM F Q G W D T (s + 1) (f3 Y (-9) (-9) (nI (s + 1))) := by
  obtain ⟨i9, i10, i11, i12, i13, i2, i0, iA, iB, iS, iz, iq⟩ := hI
  obtain ⟨z, a, b⟩ := h
  have e := wkS_nx (Q := Q) (G := G) (W := W) (D := D) iz
  refine ⟨(h7 9 (by decide)).trans i9, rfl, (h7 11 (by decide)).trans i11, rfl, rfl, (h7 2 (by decide)).trans i2, (h7 0 (by decide)).trans i0, ?_, ?_, fun b hb => ?_, ?_, fun q q1 q2 q3 q4 => ?_⟩
  · rw [e]; exact AG_169 ((f3_q _ _ _ _ (by decide)).trans h9) a
  · rw [e]; exact b
  · exact stR_171 ((f3_q _ _ _ _ (by decide)).trans (hY 171 (by decide) (by decide))) (iS b hb)
  · rw [e]; exact z
  · rw [f3_q _ _ _ _ q1, hY q q1 q2]; exact iq q q1 q2 q3 q4
theorem iv_bad {x : X4} {P : Nat → Int32} {J : Nat → Int64} {F F1 X Y : Nat → Nat → Int32} {Q : Nat → P5} {G : Nat} {W : Nat → Nat → Int32} {D : Nat → Int32} {T s : Nat} (hx : x.1 = true ∧ x.2.1 = T) (hs : s < T) (hI : ivM F Q G W D T s F1) (hY : ∀ q, q ≠ 167 → q ≠ 169 → Y q = F1 q) (h7 : ∀ j, j < 16 → Y 167 j = F1 167 j) (h9 : Y 169 = X 169) {v : Int32} (hv : ¬ v = 0) (h : (wk1 (Q s) (G + s) (wkS Q G W D s).1 (wkS Q G W D s).2.1).2.2 = v ∧ AG X (wk1 (Q s) (G + s) (wkS Q G W D s).1 (wkS Q G W D s).2.1).1 (wk1 (Q s) (G + s) (wkS Q G W D s).1 (wkS Q G W D s).2.1).2.1 (G + s) ∧ BB (wk1 (Q s) (G + s) (wkS Q G W D s).1 (wkS Q G W D s).2.1).1 (wk1 (Q s) (G + s) (wkS Q G W D s).1 (wkS Q G W D s).2.1).2.1 (G + s)) : mpZ x Q F G W D P J (some (.int (f3 Y v (nI s) (nI s) 167 10))) (St (f3 Y v (nI s) (nI s)) J) := by
  obtain ⟨i9, i10, i11, i12, i13, i2, i0, iA, iB, iS, iz, iq⟩ := hI
  obtain ⟨z, a, b⟩ := h
  have e := wkS_nx (Q := Q) (G := G) (W := W) (D := D) iz
  have hn : ¬ (wkS Q G W D (s + 1)).2.2.1 = 0 := by rw [e]; show ¬ _ = 0; rw [z]; exact hv
  have eT : wkS Q G W D x.2.1 = wkS Q G W D (s + 1) := by rw [hx.2]; exact wkS_stay hn (by omega)
  have e1 : (wkS Q G W D (s + 1)).2.2.1 = v := by rw [e]; exact z
  have e2 : (wkS Q G W D (s + 1)).2.2.2 = s := by rw [e]; exact if_neg (by rw [z]; exact hv)
  refine Or.inl ⟨hx.1, ?_, _, rfl, (h7 9 (by decide)).trans i9, ?_, by rw [hx.2]; exact (h7 11 (by decide)).trans i11, ?_, ?_, (h7 2 (by decide)).trans i2, (h7 0 (by decide)).trans i0, ?_, ?_, fun q q1 q2 q3 q4 => ?_⟩
  · rw [eT, e2]; rfl
  · rw [eT, e2]; rfl
  · rw [eT, e1, if_neg hv, e2]; rfl
  · rw [eT, e1, if_neg hv]; rfl
  · rw [eT, e2, e]; exact AG_169 ((f3_q _ _ _ _ (by decide)).trans h9) a
  · rw [eT, e2, e]; exact b
  · rw [f3_q _ _ _ _ q1, hY q q1 q2]; exact iq q q1 q2 q3 q4
theorem iv_end {x : X4} {P : Nat → Int32} {J : Nat → Int64} {F F1 : Nat → Nat → Int32} {Q : Nat → P5} {G : Nat} {W : Nat → Nat → Int32} {D : Nat → Int32} {T : Nat} (hx : x.1 = true ∧ x.2.1 = T) (hI : ivM F Q G W D T T F1) : mpZ x Q F G W D P J (some (.int (F1 167 10))) (St F1 J) := by
  obtain ⟨i9, i10, i11, i12, i13, i2, i0, iA, iB, iS, iz, iq⟩ := hI
  have e2 := wkS_cnt (Q := Q) (G := G) (W := W) (D := D) iz
  refine Or.inl ⟨hx.1, ?_, F1, rfl, i9, ?_, by rw [hx.2]; exact i11, ?_, ?_, i2, i0, ?_, ?_, iq⟩
  · rw [hx.2, e2, i10]
  · rw [hx.2, e2, i10]
  · rw [hx.2, if_pos iz, i12]
  · rw [hx.2, if_pos iz, i13]
  · rw [hx.2, e2]; exact iA
  · rw [hx.2, e2]; exact iB
theorem m_isRight2 (g : Gl) (l : Launch) (X : Nat → Nat → Int32) (J : Nat → Int64) {m : Nat} (hm : m < 32) (hW : ∀ i, i < m + 1 → ∀ j, j < 6 → wbd (Wm (oF X m) i j)) : Ct g l yX8_isRight cX8_isRight 7 (some .boolean) 2 0 0 [.ref 167, .int (nI m)] (St X J) (fun r S2 => ((r = some (.int 0) ∧ (fps (Wm (oF X m)) (Dm (oF X m)) (m + 1) 0 0 7).1.2.2 = 0) ∨ (r = some (.int 1) ∧ ¬ (fps (Wm (oF X m)) (Dm (oF X m)) (m + 1) 0 0 7).1.2.2 = 0)) ∧ ∃ a b, S2 = St (fsn X a b) J) := by
  refine Ct.weak ?_ (m_isRight g l X J hm hW)
  rintro r S2 ⟨rfl, F2, rfl, a, b, rfl⟩
  refine ⟨?_, a, b, rfl⟩
  unfold oF
  generalize (fps (Wm (lnF X m (opp (Wm X m) (Dm X m)))) (Dm (lnF X m (opp (Wm X m) (Dm X m)))) (m + 1) 0 0 7).1.2.2 = v
  by_cases h : v = 0
  · exact Or.inl ⟨by rw [if_pos h], h⟩
  · exact Or.inr ⟨by rw [if_neg h], h⟩
set_option maxRecDepth 100000 in
set_option maxHeartbeats 4000000 in
theorem mp_end (g : Gl) (l : Launch) {x : X4} (F : Nat → Nat → Int32) (J : Nat → Int64) {Q : Nat → P5} {G : Nat} {W : Nat → Nat → Int32} {D : Nat → Int32} {P : Nat → Int32} (F3 : Nat → Nat → Int32) (h : mpZ x Q F G W D P J (some (.int (F3 167 10))) (St F3 J)) (h12 : ¬ F3 167 12 = -9) (x1 x3 x4 x5 : Option Value) (sx : Int32) {XX : State → Method → Prop} : Gj g l (rmd 7 0 0) XX (QM g (mpZ x Q F G W D P J) 0 0) RX8 cX8_proof 6 (some .int) 103 [some (.ref 167), x1, some (.int sx), x3, x4, x5] [] (St F3 J) 0 0 := by
  refine g_iload_n 104 dX8_proof_103 rfl rfl ?_
  refine g_aload_n 105 dX8_proof_104 rfl rfl ?_
  refine gf_8_11 108 dX8_proof_105 rfl kf_X8_112 (by first | decide | assumption | exact ⟨Nat.le_of_ble_eq_true rfl, rfl⟩) ?_
  refine g_icmp_ge 255 111 dX8_proof_108 rfl (by decide) (fun h108 => ?_) (fun h108 => ?_)
  · refine g_aload_n 256 dX8_proof_255 rfl rfl ?_
    refine gf_8_10 259 dX8_proof_256 rfl kf_X8_109 (by first | decide | assumption | exact ⟨Nat.le_of_ble_eq_true rfl, rfl⟩) ?_
    refine g_iret dX8_proof_259 ?_
    exact h
  · refine g_aload_n 112 dX8_proof_111 rfl rfl ?_
    refine gf_8_12 115 dX8_proof_112 rfl kf_X8_16 (by first | decide | assumption | exact ⟨Nat.le_of_ble_eq_true rfl, rfl⟩) ?_
    refine g_bipush (-9) 117 dX8_proof_115 rfl (by decide) ?_
    refine g_icmp_ne 255 120 dX8_proof_117 rfl (by decide) (fun h117 => ?_) (fun h117 => ?_)
    · refine g_aload_n 256 dX8_proof_255 rfl rfl ?_
      refine gf_8_10 259 dX8_proof_256 rfl kf_X8_109 (by first | decide | assumption | exact ⟨Nat.le_of_ble_eq_true rfl, rfl⟩) ?_
      refine g_iret dX8_proof_259 ?_
      exact h
    · exact absurd h117 h12

theorem sne {s : Nat} (h : s < 24) : ¬ nI s = -9 := fun z => by
  have e : (nI s).toInt = (-9 : Int32).toInt := by rw [z]
  rw [nI_toInt (by omega)] at e
  have : ((-9 : Int32)).toInt = -9 := rfl
  omega
set_option maxRecDepth 100000 in
set_option maxHeartbeats 4000000 in
theorem mp_lp (g : Gl) (l : Launch) {x : X4} (F : Nat → Nat → Int32) (J : Nat → Int64) {Q : Nat → P5} {G : Nat} {W : Nat → Nat → Int32} {D : Nat → Int32} {P : Nat → Int32} {T : Nat} (hT : T ≤ 24) (hG8 : G ≤ 8) (hx : x.1 = true ∧ x.2.1 = T) (hS : ∀ b, b < T → wfS (G + b) (Q b)) (hN : ∀ b, b < T → wfN (Q b)) (t1 : Int32) {XX : State → Method → Prop} (n : Nat) : ∀ (s : Nat) (F1 : Nat → Nat → Int32) (sx : Int32) (x3 x4 x5 : Option Value), s + n = T → ivM F Q G W D T s F1 → sx = nI s → Gj g l (rmd 7 0 0) XX (QM g (mpZ x Q F G W D P J) 0 0) RX8 cX8_proof 6 (some .int) 103 [some (.ref 167), some (.int t1), some (.int sx), x3, x4, x5] [] (St F1 J) 0 0 := by
  induction n with
  | zero =>
    intro s F1 sx x3 x4 x5 hi hI hsx
    obtain rfl : s = T := by omega
    subst hsx
    have i11 := hI.2.2.1
    refine g_iload_n 104 dX8_proof_103 rfl rfl ?_
    refine g_aload_n 105 dX8_proof_104 rfl rfl ?_
    refine gf_8_11 108 dX8_proof_105 rfl kf_X8_112 (by first | decide | assumption | exact ⟨Nat.le_of_ble_eq_true rfl, rfl⟩) ?_
    refine gst_at i11 ?_
    refine g_icmp_ge 255 111 dX8_proof_108 rfl (by decide) (fun h108 => ?_) (fun h108 => ?_)
    · refine g_aload_n 256 dX8_proof_255 rfl rfl ?_
      refine gf_8_10 259 dX8_proof_256 rfl kf_X8_109 (by first | decide | assumption | exact ⟨Nat.le_of_ble_eq_true rfl, rfl⟩) ?_
      refine g_iret dX8_proof_259 ?_
      exact iv_end hx hI
    · exact absurd (Int32.le_refl _) h108
  | succ n ih =>
    intro s F1 sx x3 x4 x5 hi hI hsx
    subst hsx
    obtain ⟨i9, i10, i11, i12, i13, i2, i0, iA, iB, iS, iz, iq⟩ := id hI
    obtain ⟨kd, hkd, hkq⟩ := st_kd (hS s (by omega))
    have hok := st_okD (by omega) (hS s (by omega)) (hN s (by omega)) (iS s (by omega)) hkd hkq
    have ok2 := hok.2.1
    refine g_iload_n 104 dX8_proof_103 rfl rfl ?_
    refine g_aload_n 105 dX8_proof_104 rfl rfl ?_
    refine gf_8_11 108 dX8_proof_105 rfl kf_X8_112 (by first | decide | assumption | exact ⟨Nat.le_of_ble_eq_true rfl, rfl⟩) ?_
    refine gst_at i11 ?_
    refine g_icmp_ge 255 111 dX8_proof_108 rfl (by decide) (fun h108 => ?_) (fun h108 => ?_)
    · exact absurd h108 (nI_ge (a := s) (b := T) (by omega) (by omega))
    · refine g_aload_n 112 dX8_proof_111 rfl rfl ?_
      refine gf_8_12 115 dX8_proof_112 rfl kf_X8_16 (by first | decide | assumption | exact ⟨Nat.le_of_ble_eq_true rfl, rfl⟩) ?_
      refine g_bipush (-9) 117 dX8_proof_115 rfl (by decide) ?_
      refine g_icmp_ne 255 120 dX8_proof_117 rfl (by decide) (fun h117 => ?_) (fun h117 => ?_)
      · exact absurd i12 h117
      · refine g_aload_n 121 dX8_proof_120 rfl rfl ?_
        refine gf_8_9 124 dX8_proof_121 rfl kf_X8_106 (by first | decide | assumption | exact ⟨Nat.le_of_ble_eq_true rfl, rfl⟩) ?_
        refine g_aload_n 125 dX8_proof_124 rfl rfl ?_
        refine gf_8_10 128 dX8_proof_125 rfl kf_X8_109 (by first | decide | assumption | exact ⟨Nat.le_of_ble_eq_true rfl, rfl⟩) ?_
        refine g_iadd 129 dX8_proof_128 rfl ?_
        refine gst_at (show F1 167 9 + F1 167 10 = nI (G + s) by rw [i9, i10, nI_add]) ?_
        refine g_istore_n 130 dX8_proof_129 rfl (by decide) ?_
        refine g_aload_n 131 dX8_proof_130 rfl rfl ?_
        refine g_iload_n 132 dX8_proof_131 rfl rfl ?_
        refine g_bipush (7) 134 dX8_proof_132 rfl (by decide) ?_
        refine g_iload_n 135 dX8_proof_134 rfl rfl ?_
        refine g_imul 136 dX8_proof_135 rfl ?_
        refine g_v2 8 139 dX8_proof_136 rfl kl_X8_132 mv_X8_does rfl ⟨Nat.le_of_ble_eq_true rfl, Nat.le_of_ble_eq_true rfl⟩ (Nat.le_of_ble_eq_true rfl) (by first | decide | assumption | exact ⟨Nat.le_of_ble_eq_true rfl, rfl⟩) (m_does g l F1 J (m := G + s) (s := s) (by omega) (by omega) kd _ hok (fun i hi j hj => bz_w ((AG_b iA iB i hi).1 j hj))) ?_
        rintro _ _ ⟨rfl, rfl⟩
        obtain ⟨X, hX⟩ : ∃ X, X = lnF F1 (G + s) (doV F1 kd (Q s).2.1.toNatClampNeg (F1 171 (10 * s + 2)) s) := ⟨_, rfl⟩
        refine gs_at (congrArg (fun x => St x J) hX.symm) ?_
        have hXq : ∀ q, q ≠ 169 → X q = F1 q := fun q hq => by rw [hX]; exact lnF_ne _ _ _ hq
        refine g_aload_n 140 dX8_proof_139 rfl rfl ?_
        refine g_bipush (7) 142 dX8_proof_140 rfl (by decide) ?_
        refine g_iload_n 143 dX8_proof_142 rfl rfl ?_
        refine g_imul 144 dX8_proof_143 rfl ?_
        refine g_v1 8 147 dX8_proof_144 rfl kl_X8_136 mv_X8_isGreat rfl ⟨Nat.le_of_ble_eq_true rfl, Nat.le_of_ble_eq_true rfl⟩ (Nat.le_of_ble_eq_true rfl) (by first | decide | assumption | exact ⟨Nat.le_of_ble_eq_true rfl, rfl⟩) (m_isGreat g l X J (n0 := G + s) (by omega)) ?_
        rintro r S2 ⟨⟨y, rfl, ⟨rfl, hok⟩ | ⟨rfl, hok⟩⟩, rfl⟩
        · refine g_istore 149 dX8_proof_147 rfl (by decide) ?_
          refine g_iload 151 dX8_proof_149 rfl rfl ?_
          refine g_if_ne 176 154 dX8_proof_151 rfl (by decide) (fun h151 => ?_) (fun h151 => ?_)
          · exact absurd h151 (by decide)
          · refine g_aload_n 155 dX8_proof_154 rfl rfl ?_
            refine gf_8_15 158 dX8_proof_155 rfl kf_X8_26 ?_
            refine g_bipush (10) 160 dX8_proof_158 rfl (by decide) ?_
            refine g_iload_n 161 dX8_proof_160 rfl rfl ?_
            refine g_imul 162 dX8_proof_161 rfl ?_
            refine ga_ild (10 * s + 0) 163 dX8_proof_162 rfl (by first | decide | assumption | exact ⟨Nat.le_of_ble_eq_true rfl, rfl⟩) (ix10_0 s) (show 10 * s + 0 < 240 by omega) ?_
            refine g_bipush (7) 165 dX8_proof_163 rfl (by decide) ?_
            refine g_icmp_ne 176 168 dX8_proof_165 rfl (by decide) (fun h165 => ?_) (fun h165 => ?_)
            · refine g_iconst (1) 177 dX8_proof_176 rfl (by decide) ?_
              refine g_goto 181 dX8_proof_177 (by decide) ?_
              refine g_istore 183 dX8_proof_181 rfl (by decide) ?_
              refine g_aload_n 184 dX8_proof_183 rfl rfl ?_
              refine g_iload 186 dX8_proof_184 rfl rfl ?_
              refine g_if_eq 193 189 dX8_proof_186 rfl (by decide) (fun h186 => ?_) (fun h186 => ?_)
              · refine g_iload 195 dX8_proof_193 rfl rfl ?_
                refine g_if_eq 203 198 dX8_proof_195 rfl (by decide) (fun h195 => ?_) (fun h195 => ?_)
                · exact absurd h195 (by decide)
                · refine g_bipush (-9) 200 dX8_proof_198 rfl (by decide) ?_
                  refine g_goto 204 dX8_proof_200 (by decide) ?_
                  refine gp_8_13 207 dX8_proof_204 rfl kf_X8_20 (by first | decide | assumption | exact ⟨Nat.le_of_ble_eq_true rfl, rfl⟩) ?_
                  refine g_aload_n 208 dX8_proof_207 rfl rfl ?_
                  refine g_aload_n 209 dX8_proof_208 rfl rfl ?_
                  refine gf_8_13 212 dX8_proof_209 rfl kf_X8_20 (by first | decide | assumption | exact ⟨Nat.le_of_ble_eq_true rfl, rfl⟩) ?_
                  refine g_bipush (-9) 214 dX8_proof_212 rfl (by decide) ?_
                  refine g_icmp_ne 222 217 dX8_proof_214 rfl (by decide) (fun h214 => ?_) (fun h214 => ?_)
                  · exact absurd rfl h214
                  · refine g_bipush (-9) 219 dX8_proof_217 rfl (by decide) ?_
                    refine g_goto 223 dX8_proof_219 (by decide) ?_
                    
                    refine gp_8_12 226 dX8_proof_223 rfl kf_X8_16 (by first | decide | assumption | exact ⟨Nat.le_of_ble_eq_true rfl, rfl⟩) ?_
                    refine g_aload_n 227 dX8_proof_226 rfl rfl ?_
                    refine g_dup 228 dX8_proof_227 rfl rfl ?_
                    refine gf_8_10 231 dX8_proof_228 rfl kf_X8_109 (by first | decide | assumption | exact ⟨Nat.le_of_ble_eq_true rfl, rfl⟩) ?_
                    refine g_aload_n 232 dX8_proof_231 rfl rfl ?_
                    refine gf_8_13 235 dX8_proof_232 rfl kf_X8_20 (by first | decide | assumption | exact ⟨Nat.le_of_ble_eq_true rfl, rfl⟩) ?_
                    refine g_bipush (-9) 237 dX8_proof_235 rfl (by decide) ?_
                    refine g_icmp_ne 244 240 dX8_proof_237 rfl (by decide) (fun h237 => ?_) (fun h237 => ?_)
                    · exact absurd rfl h237
                    · refine g_iconst (1) 241 dX8_proof_240 rfl (by decide) ?_
                      refine g_goto 245 dX8_proof_241 (by decide) ?_
                      refine g_iadd 246 dX8_proof_245 rfl ?_
                      refine gst_at (show X 167 10 + 1 = nI (s + 1) by rw [show X 167 10 = nI s from (congrFun (hXq 167 (by decide)) 10).trans i10, nI_1]) ?_
                      refine gp_8_10 249 dX8_proof_246 rfl kf_X8_109 (by first | decide | assumption | exact ⟨Nat.le_of_ble_eq_true rfl, rfl⟩) ?_
                      refine g_iinc (1) 252 dX8_proof_249 rfl (by decide) (by decide) rfl ?_
                      refine g_goto 103 dX8_proof_252 (by decide) ?_
                      have h7k : ¬ kd = 7 := fun z => h165 (by rw [show X 171 (10 * s + 0) = nI kd from by rw [hXq 171 (by decide)]; exact ok2]; rw [z]; rfl)
                      exact ih (s + 1) _ _ (some (.int (nI (G + s)))) (some (.int 0)) (some (.int 1)) (by omega) (iv_ok hI (Y := X) (X := X) (fun q _ h => hXq q h) (fun j _ => by rw [hXq 167 (by decide)]) rfl ((wk_do (by omega) iA iB (hS s (by omega)) (hN s (by omega)) (iS s (by omega)) (by omega) hkq hX).1 hok)) (nI_1 s)
              · exact absurd h186 (by decide)
            · have h8 : kd = 7 := (nI_eq (a := kd) (b := 7) (by omega) (by decide)).mp (by rw [← ok2]; have := h165; rw [hXq 171 (by decide)] at this; exact this)
              have hC := wk_cl iA iB (hN s (by omega)) (iS s (by omega)) (show (Q s).1 = 8 by rw [hkq, h8]; rfl) (Q s).2.1.toNatClampNeg (F1 171 (10 * s + 2)) (X := X) (by rw [hX, h8])
              refine g_aload_n 169 dX8_proof_168 rfl rfl ?_
              refine g_iload_n 170 dX8_proof_169 rfl rfl ?_
              refine g_v1 8 173 dX8_proof_170 rfl kl_X8_139 mv_X8_isRight rfl ⟨Nat.le_of_ble_eq_true rfl, Nat.le_of_ble_eq_true rfl⟩ (Nat.le_of_ble_eq_true rfl) (by first | decide | assumption | exact ⟨Nat.le_of_ble_eq_true rfl, rfl⟩) (m_isRight2 g l X J (m := G + s) (by omega) hC.2.1) ?_
              rintro r S2 ⟨⟨rfl, hf⟩ | ⟨rfl, hf⟩, e1, e2, rfl⟩
              · refine g_if_eq 180 176 dX8_proof_173 rfl (by decide) (fun h173 => ?_) (fun h173 => ?_)
                · refine g_iconst (0) 181 dX8_proof_180 rfl (by decide) ?_
                  refine g_istore 183 dX8_proof_181 rfl (by decide) ?_
                  refine g_aload_n 184 dX8_proof_183 rfl rfl ?_
                  refine g_iload 186 dX8_proof_184 rfl rfl ?_
                  refine g_if_eq 193 189 dX8_proof_186 rfl (by decide) (fun h186 => ?_) (fun h186 => ?_)
                  · refine g_iload 195 dX8_proof_193 rfl rfl ?_
                    refine g_if_eq 203 198 dX8_proof_195 rfl (by decide) (fun h195 => ?_) (fun h195 => ?_)
                    · refine g_iconst (2) 204 dX8_proof_203 rfl (by decide) ?_
                      refine gp_8_13 207 dX8_proof_204 rfl kf_X8_20 (by first | decide | assumption | exact ⟨Nat.le_of_ble_eq_true rfl, rfl⟩) ?_
                      refine g_aload_n 208 dX8_proof_207 rfl rfl ?_
                      refine g_aload_n 209 dX8_proof_208 rfl rfl ?_
                      refine gf_8_13 212 dX8_proof_209 rfl kf_X8_20 (by first | decide | assumption | exact ⟨Nat.le_of_ble_eq_true rfl, rfl⟩) ?_
                      refine g_bipush (-9) 214 dX8_proof_212 rfl (by decide) ?_
                      refine g_icmp_ne 222 217 dX8_proof_214 rfl (by decide) (fun h214 => ?_) (fun h214 => ?_)
                      · refine g_iload_n 223 dX8_proof_222 rfl rfl ?_
                        
                        refine gp_8_12 226 dX8_proof_223 rfl kf_X8_16 (by first | decide | assumption | exact ⟨Nat.le_of_ble_eq_true rfl, rfl⟩) ?_
                        refine g_aload_n 227 dX8_proof_226 rfl rfl ?_
                        refine g_dup 228 dX8_proof_227 rfl rfl ?_
                        refine gf_8_10 231 dX8_proof_228 rfl kf_X8_109 (by first | decide | assumption | exact ⟨Nat.le_of_ble_eq_true rfl, rfl⟩) ?_
                        refine g_aload_n 232 dX8_proof_231 rfl rfl ?_
                        refine gf_8_13 235 dX8_proof_232 rfl kf_X8_20 (by first | decide | assumption | exact ⟨Nat.le_of_ble_eq_true rfl, rfl⟩) ?_
                        refine g_bipush (-9) 237 dX8_proof_235 rfl (by decide) ?_
                        refine g_icmp_ne 244 240 dX8_proof_237 rfl (by decide) (fun h237 => ?_) (fun h237 => ?_)
                        · refine g_iconst (0) 245 dX8_proof_244 rfl (by decide) ?_
                          refine g_iadd 246 dX8_proof_245 rfl ?_
                          refine gst_at (show (fsn X e1 e2) 167 10 + 0 = nI s by rw [show (fsn X e1 e2) 167 10 = nI s from (congrFun (hXq 167 (by decide)) 10).trans i10, Int32.add_zero]) ?_
                          refine gp_8_10 249 dX8_proof_246 rfl kf_X8_109 (by first | decide | assumption | exact ⟨Nat.le_of_ble_eq_true rfl, rfl⟩) ?_
                          refine g_iinc (1) 252 dX8_proof_249 rfl (by decide) (by decide) rfl ?_
                          refine g_goto 103 dX8_proof_252 (by decide) ?_
                          refine mp_end g l F J _ (iv_bad hx (by omega) hI (Y := fsn X e1 e2) (X := X) (v := 2) (fun q h1 h => by rw [← hXq q h]; simp [fsn, h1]) (fun j hj => by rw [← hXq 167 (by decide)]; show (if j = 16 then e1 else if j = 17 then e2 else X 167 j) = _; rw [if_neg (by omega), if_neg (by omega)]) rfl (by decide) (hC.2.2.1 hf)) (sne (by omega)) _ _ _ _ _
                        · exact absurd h237 (show ¬ (2 : Int32) = -9 by decide)
                      · exact absurd h214 (show ¬ (2 : Int32) = -9 by decide)
                    · exact absurd h195 (by decide)
                  · exact absurd h186 (by decide)
                · exact absurd h173 (by decide)
              · refine g_if_eq 180 176 dX8_proof_173 rfl (by decide) (fun h173 => ?_) (fun h173 => ?_)
                · exact absurd h173 (by decide)
                · refine g_iconst (1) 177 dX8_proof_176 rfl (by decide) ?_
                  refine g_goto 181 dX8_proof_177 (by decide) ?_
                  refine g_istore 183 dX8_proof_181 rfl (by decide) ?_
                  refine g_aload_n 184 dX8_proof_183 rfl rfl ?_
                  refine g_iload 186 dX8_proof_184 rfl rfl ?_
                  refine g_if_eq 193 189 dX8_proof_186 rfl (by decide) (fun h186 => ?_) (fun h186 => ?_)
                  · refine g_iload 195 dX8_proof_193 rfl rfl ?_
                    refine g_if_eq 203 198 dX8_proof_195 rfl (by decide) (fun h195 => ?_) (fun h195 => ?_)
                    · exact absurd h195 (by decide)
                    · refine g_bipush (-9) 200 dX8_proof_198 rfl (by decide) ?_
                      refine g_goto 204 dX8_proof_200 (by decide) ?_
                      refine gp_8_13 207 dX8_proof_204 rfl kf_X8_20 (by first | decide | assumption | exact ⟨Nat.le_of_ble_eq_true rfl, rfl⟩) ?_
                      refine g_aload_n 208 dX8_proof_207 rfl rfl ?_
                      refine g_aload_n 209 dX8_proof_208 rfl rfl ?_
                      refine gf_8_13 212 dX8_proof_209 rfl kf_X8_20 (by first | decide | assumption | exact ⟨Nat.le_of_ble_eq_true rfl, rfl⟩) ?_
                      refine g_bipush (-9) 214 dX8_proof_212 rfl (by decide) ?_
                      refine g_icmp_ne 222 217 dX8_proof_214 rfl (by decide) (fun h214 => ?_) (fun h214 => ?_)
                      · exact absurd rfl h214
                      · refine g_bipush (-9) 219 dX8_proof_217 rfl (by decide) ?_
                        refine g_goto 223 dX8_proof_219 (by decide) ?_
                        
                        refine gp_8_12 226 dX8_proof_223 rfl kf_X8_16 (by first | decide | assumption | exact ⟨Nat.le_of_ble_eq_true rfl, rfl⟩) ?_
                        refine g_aload_n 227 dX8_proof_226 rfl rfl ?_
                        refine g_dup 228 dX8_proof_227 rfl rfl ?_
                        refine gf_8_10 231 dX8_proof_228 rfl kf_X8_109 (by first | decide | assumption | exact ⟨Nat.le_of_ble_eq_true rfl, rfl⟩) ?_
                        refine g_aload_n 232 dX8_proof_231 rfl rfl ?_
                        refine gf_8_13 235 dX8_proof_232 rfl kf_X8_20 (by first | decide | assumption | exact ⟨Nat.le_of_ble_eq_true rfl, rfl⟩) ?_
                        refine g_bipush (-9) 237 dX8_proof_235 rfl (by decide) ?_
                        refine g_icmp_ne 244 240 dX8_proof_237 rfl (by decide) (fun h237 => ?_) (fun h237 => ?_)
                        · exact absurd rfl h237
                        · refine g_iconst (1) 241 dX8_proof_240 rfl (by decide) ?_
                          refine g_goto 245 dX8_proof_241 (by decide) ?_
                          refine g_iadd 246 dX8_proof_245 rfl ?_
                          refine gst_at (show (fsn X e1 e2) 167 10 + 1 = nI (s + 1) by rw [show (fsn X e1 e2) 167 10 = nI s from (congrFun (hXq 167 (by decide)) 10).trans i10, nI_1]) ?_
                          refine gp_8_10 249 dX8_proof_246 rfl kf_X8_109 (by first | decide | assumption | exact ⟨Nat.le_of_ble_eq_true rfl, rfl⟩) ?_
                          refine g_iinc (1) 252 dX8_proof_249 rfl (by decide) (by decide) rfl ?_
                          refine g_goto 103 dX8_proof_252 (by decide) ?_
                          exact ih (s + 1) _ _ (some (.int (nI (G + s)))) (some (.int 0)) (some (.int 1)) (by omega) (iv_ok hI (Y := fsn X e1 e2) (X := X) (fun q h1 h => by rw [← hXq q h]; simp [fsn, h1]) (fun j hj => by rw [← hXq 167 (by decide)]; show (if j = 16 then e1 else if j = 17 then e2 else X 167 j) = _; rw [if_neg (by omega), if_neg (by omega)]) rfl (hC.2.2.2 hf)) (nI_1 s)
                  · exact absurd h186 (by decide)
        · refine g_istore 149 dX8_proof_147 rfl (by decide) ?_
          refine g_iload 151 dX8_proof_149 rfl rfl ?_
          refine g_if_ne 176 154 dX8_proof_151 rfl (by decide) (fun h151 => ?_) (fun h151 => ?_)
          · refine g_iconst (1) 177 dX8_proof_176 rfl (by decide) ?_
            refine g_goto 181 dX8_proof_177 (by decide) ?_
            refine g_istore 183 dX8_proof_181 rfl (by decide) ?_
            refine g_aload_n 184 dX8_proof_183 rfl rfl ?_
            refine g_iload 186 dX8_proof_184 rfl rfl ?_
            refine g_if_eq 193 189 dX8_proof_186 rfl (by decide) (fun h186 => ?_) (fun h186 => ?_)
            · exact absurd h186 (by decide)
            · refine g_iconst (1) 190 dX8_proof_189 rfl (by decide) ?_
              refine g_goto 204 dX8_proof_190 (by decide) ?_
              refine gp_8_13 207 dX8_proof_204 rfl kf_X8_20 (by first | decide | assumption | exact ⟨Nat.le_of_ble_eq_true rfl, rfl⟩) ?_
              refine g_aload_n 208 dX8_proof_207 rfl rfl ?_
              refine g_aload_n 209 dX8_proof_208 rfl rfl ?_
              refine gf_8_13 212 dX8_proof_209 rfl kf_X8_20 (by first | decide | assumption | exact ⟨Nat.le_of_ble_eq_true rfl, rfl⟩) ?_
              refine g_bipush (-9) 214 dX8_proof_212 rfl (by decide) ?_
              refine g_icmp_ne 222 217 dX8_proof_214 rfl (by decide) (fun h214 => ?_) (fun h214 => ?_)
              · refine g_iload_n 223 dX8_proof_222 rfl rfl ?_
                
                refine gp_8_12 226 dX8_proof_223 rfl kf_X8_16 (by first | decide | assumption | exact ⟨Nat.le_of_ble_eq_true rfl, rfl⟩) ?_
                refine g_aload_n 227 dX8_proof_226 rfl rfl ?_
                refine g_dup 228 dX8_proof_227 rfl rfl ?_
                refine gf_8_10 231 dX8_proof_228 rfl kf_X8_109 (by first | decide | assumption | exact ⟨Nat.le_of_ble_eq_true rfl, rfl⟩) ?_
                refine g_aload_n 232 dX8_proof_231 rfl rfl ?_
                refine gf_8_13 235 dX8_proof_232 rfl kf_X8_20 (by first | decide | assumption | exact ⟨Nat.le_of_ble_eq_true rfl, rfl⟩) ?_
                refine g_bipush (-9) 237 dX8_proof_235 rfl (by decide) ?_
                refine g_icmp_ne 244 240 dX8_proof_237 rfl (by decide) (fun h237 => ?_) (fun h237 => ?_)
                · refine g_iconst (0) 245 dX8_proof_244 rfl (by decide) ?_
                  refine g_iadd 246 dX8_proof_245 rfl ?_
                  refine gst_at (show X 167 10 + 0 = nI s by rw [show X 167 10 = nI s from (congrFun (hXq 167 (by decide)) 10).trans i10, Int32.add_zero]) ?_
                  refine gp_8_10 249 dX8_proof_246 rfl kf_X8_109 (by first | decide | assumption | exact ⟨Nat.le_of_ble_eq_true rfl, rfl⟩) ?_
                  refine g_iinc (1) 252 dX8_proof_249 rfl (by decide) (by decide) rfl ?_
                  refine g_goto 103 dX8_proof_252 (by decide) ?_
                  by_cases h8 : kd = 7
                  · exact absurd (wk_cl iA iB (hN s (by omega)) (iS s (by omega)) (show (Q s).1 = 8 by rw [hkq, h8]; rfl) _ _ (by rw [hX, h8])).1 hok
                  · refine mp_end g l F J _ (iv_bad hx (by omega) hI (Y := X) (X := X) (v := 1) (fun q _ h => hXq q h) (fun j _ => by rw [hXq 167 (by decide)]) rfl (by decide) ((wk_do (by omega) iA iB (hS s (by omega)) (hN s (by omega)) (iS s (by omega)) (by omega) hkq hX).2 hok)) (sne (by omega)) _ _ _ _ _
                · exact absurd h237 (show ¬ (1 : Int32) = -9 by decide)
              · exact absurd h214 (show ¬ (1 : Int32) = -9 by decide)
          · exact absurd h151 (by decide)

set_option maxRecDepth 100000 in
set_option maxHeartbeats 4000000 in
theorem pf_ok (g : Gl) (l : Launch) {x : X4} (F : Nat → Nat → Int32) (J : Nat → Int64) {Q : Nat → P5} {G : Nat} {W : Nat → Nat → Int32} {D : Nat → Int32} {P : Nat → Int32} (F1 : Nat → Nat → Int32) (nx tk pl vl : Int32) {i : Nat} (hi : i ≤ 24) (hG8 : G ≤ 8) (hx : x.1 = true ∧ x.2.1 = i) (hG : F 167 9 = nI G) (hA : AG F W D G) (hB : BB W D G) (hS : ∀ b, b < i → wfS (G + b) (Q b)) (hN : ∀ b, b < i → wfN (Q b)) (hk : ∀ q, q ≠ 171 → F1 q = F q) (hs : ∀ b, b < i → stR F1 b (Q b)) (x2 x3 x4 x5 : Option Value) {XX : State → Method → Prop} : Gj g l (rmd 7 0 0) XX (QM g (mpZ x Q F G W D P J) 0 0) RX8 cX8_proof 6 (some .int) 59 [some (.ref 167), some (.int (nI i)), x2, x3, x4, x5] [] (St (mt F1 nx tk pl vl (-1)) J) 0 0 := by
  refine g_aload_n 60 dX8_proof_59 rfl rfl ?_
  refine g_v0 8 63 dX8_proof_60 rfl kl_X8_80 mv_X8_isWell rfl ⟨Nat.le_of_ble_eq_true rfl, Nat.le_of_ble_eq_true rfl⟩ (Nat.le_of_ble_eq_true rfl) (by first | decide | assumption | exact ⟨Nat.le_of_ble_eq_true rfl, rfl⟩) (m_well g l F1 J _ _ _ _) ?_
  rintro _ _ ⟨rfl, rfl⟩
  refine g_if_ne 74 66 dX8_proof_63 rfl (by decide) (fun h63 => ?_) (fun h63 => ?_)
  · refine g_aload_n 75 dX8_proof_74 rfl rfl ?_
    refine g_iload_n 76 dX8_proof_75 rfl rfl ?_
    refine gp_8_11 79 dX8_proof_76 rfl kf_X8_112 (by first | decide | assumption | exact ⟨Nat.le_of_ble_eq_true rfl, rfl⟩) ?_
    refine g_aload_n 80 dX8_proof_79 rfl rfl ?_
    refine g_iconst (0) 81 dX8_proof_80 rfl (by decide) ?_
    refine gp_8_10 84 dX8_proof_81 rfl kf_X8_109 (by first | decide | assumption | exact ⟨Nat.le_of_ble_eq_true rfl, rfl⟩) ?_
    refine g_aload_n 85 dX8_proof_84 rfl rfl ?_
    refine g_bipush (-9) 87 dX8_proof_85 rfl (by decide) ?_
    refine gp_8_12 90 dX8_proof_87 rfl kf_X8_16 (by first | decide | assumption | exact ⟨Nat.le_of_ble_eq_true rfl, rfl⟩) ?_
    refine g_aload_n 91 dX8_proof_90 rfl rfl ?_
    refine g_bipush (-9) 93 dX8_proof_91 rfl (by decide) ?_
    refine gp_8_13 96 dX8_proof_93 rfl kf_X8_20 (by first | decide | assumption | exact ⟨Nat.le_of_ble_eq_true rfl, rfl⟩) ?_
    refine g_aload_n 97 dX8_proof_96 rfl rfl ?_
    refine g_iconst (0) 98 dX8_proof_97 rfl (by decide) ?_
    refine gp_8_2 101 dX8_proof_98 rfl kf_X8_42 (by first | decide | assumption | exact ⟨Nat.le_of_ble_eq_true rfl, rfl⟩) ?_
    refine g_iconst (0) 102 dX8_proof_101 rfl (by decide) ?_
    refine g_istore_n 103 dX8_proof_102 rfl (by decide) ?_
    refine mp_lp g l F J hi hG8 hx hS hN _ i 0 _ _ _ _ _ (Nat.zero_add i) ?_ rfl
    refine ⟨?_, rfl, rfl, rfl, rfl, rfl, ?_, ?_, ?_, fun b hb => ?_, rfl, fun q q1 q2 q3 q4 => ?_⟩
    · show F1 167 9 = _
      rw [hk 167 (by decide)]; exact hG
    · show F1 167 0 = _
      rw [hk 167 (by decide)]
    · exact AG_169 (hk 169 (by decide)) hA
    · exact hB
    · exact stR_171 (F := F1) rfl (hs b hb)
    · rw [← hk q q4]; simp [up2, mt, q1]
  · exact absurd h63 (by decide)

set_option maxRecDepth 100000 in
set_option maxHeartbeats 4000000 in
theorem pf_ill (g : Gl) (l : Launch) {x : X4} (F : Nat → Nat → Int32) (J : Nat → Int64) {Q : Nat → P5} {G : Nat} {W : Nat → Nat → Int32} {D : Nat → Int32} {P : Nat → Int32} (F1 : Nat → Nat → Int32) (nx tk pl vl : Int32) {j : Nat} (hf : ¬ P j < 0) (hx : x.1 = false ∧ x.2.2.1 = j) (hk : ∀ q, q ≠ 171 → F1 q = F q) (x1 x2 x3 x4 x5 : Option Value) {XX : State → Method → Prop} : Gj g l (rmd 7 0 0) XX (QM g (mpZ x Q F G W D P J) 0 0) RX8 cX8_proof 6 (some .int) 21 [some (.ref 167), x1, x2, x3, x4, x5] [] (St (mt F1 nx tk pl vl (P j)) J) 0 0 := by
  refine g_aload_n 22 dX8_proof_21 rfl rfl ?_
  refine g_v0 8 25 dX8_proof_22 rfl kl_X8_80 mv_X8_isWell rfl ⟨Nat.le_of_ble_eq_true rfl, Nat.le_of_ble_eq_true rfl⟩ (Nat.le_of_ble_eq_true rfl) (by first | decide | assumption | exact ⟨Nat.le_of_ble_eq_true rfl, rfl⟩) (m_ill g l F1 J _ _ _ _ hf) ?_
  rintro _ _ ⟨rfl, rfl⟩
  refine g_if_eq 59 28 dX8_proof_25 rfl (by decide) (fun h25 => ?_) (fun h25 => ?_)
  · refine g_aload_n 60 dX8_proof_59 rfl rfl ?_
    refine g_v0 8 63 dX8_proof_60 rfl kl_X8_80 mv_X8_isWell rfl ⟨Nat.le_of_ble_eq_true rfl, Nat.le_of_ble_eq_true rfl⟩ (Nat.le_of_ble_eq_true rfl) (by first | decide | assumption | exact ⟨Nat.le_of_ble_eq_true rfl, rfl⟩) (m_ill g l F1 J _ _ _ _ hf) ?_
    rintro _ _ ⟨rfl, rfl⟩
    refine g_if_ne 74 66 dX8_proof_63 rfl (by decide) (fun h63 => ?_) (fun h63 => ?_)
    · exact absurd rfl h63
    · refine g_bipush (-10) 68 dX8_proof_66 rfl (by decide) ?_
      refine g_aload_n 69 dX8_proof_68 rfl rfl ?_
      refine gf_8_7 72 dX8_proof_69 rfl kf_X8_77 (by first | decide | assumption | exact ⟨Nat.le_of_ble_eq_true rfl, rfl⟩) ?_
      refine g_isub 73 dX8_proof_72 rfl ?_
      refine g_iret dX8_proof_73 ?_
      refine Or.inr ⟨hx.1, by rw [hx.2]; rfl, _, rfl, fun q h1 _ h3 => ?_, fun b hb => ?_⟩
      · rw [mt_q h1, hk q h3]
      · show (if b = 3 then nx else if b = 4 then tk else if b = 5 then pl else if b = 6 then vl else if b = 7 then P j else F1 167 b) = F 167 b
        rw [if_neg (by omega), if_neg (by omega), if_neg (by omega), if_neg (by omega), if_neg (by omega), hk 167 (by decide)]
  · exact absurd rfl h25

theorem stR_same {F : Nat → Nat → Int32} {i : Nat} {p q : P5} (h : sameQ p q) (hs : stR F i q) : stR F i p := by
  obtain ⟨a, b, c, d, e⟩ := h
  unfold stR at *
  rw [a, b, c, e]
  exact ⟨hs.1, hs.2.1, hs.2.2.1, fun z => ⟨fun j hj => by rw [d j hj]; exact (hs.2.2.2 z).1 j hj, (hs.2.2.2 z).2⟩⟩
theorem wfN_same {p q : P5} (h : sameQ p q) (hs : wfN q) : wfN p := by
  obtain ⟨a, b, c, d, e⟩ := h
  unfold wfN at *
  rw [a, c, e]
  exact ⟨hs.1, hs.2.1, fun z => ⟨fun j hj => by rw [d j hj]; exact (hs.2.2 z).1 j hj, (hs.2.2 z).2⟩⟩
theorem stR_kpT {F1 F2 : Nat → Nat → Int32} {i b : Nat} {q : P5} (h : kpT F1 F2 i) (hb : b < i) (hs : stR F1 b q) : stR F2 b q := by
  have e : ∀ j, j < 10 → F2 171 (10 * b + j) = F1 171 (10 * b + j) := fun j hj => h.2 _ (by omega)
  obtain ⟨s0, s1, s2, s3⟩ := hs
  refine ⟨?_, fun z => ?_, fun z => ?_, fun z => ⟨fun j hj => ?_, ?_⟩⟩
  · rw [e 0 (by decide)]; exact s0
  · rw [e 1 (by decide)]; exact s1 z
  · rw [e 2 (by decide)]; exact s2 z
  · rw [Nat.add_assoc, e (3 + j) (by omega), ← Nat.add_assoc]; exact (s3 z).1 j hj
  · rw [Nat.add_assoc, e (3 + 6) (by decide), ← Nat.add_assoc]; exact (s3 z).2
set_option maxRecDepth 100000 in
set_option maxHeartbeats 4000000 in
theorem pr_lp (g : Gl) (l : Launch) {x : X4} (F : Nat → Nat → Int32) (J : Nat → Int64) {len : Nat} {K V P : Nat → Int32} {c : Nat} {a : Nat → Nat} (hR : RD F len K V P c a) {G : Nat} (hG : F 167 9 = nI G) (hG8 : G ≤ 8) {Q Q0 : Nat → P5} {W : Nat → Nat → Int32} {D : Nat → Int32} (hA : AG F W D G) (hB : BB W D G) (hQ : x.1 = true → ∀ b, b < x.2.1 → sameQ (Q b) (x.2.2.2 b)) (hS : x.1 = true → ∀ b, b < x.2.1 → wfS (G + b) (Q b)) (hN : x.1 = true → ∀ b, b < x.2.1 → wfN (Q b)) {XX : State → Method → Prop} (n : Nat) : ∀ (i s : Nat) (F1 : Nat → Nat → Int32) (Q1 : Nat → P5) (nx tk pl vl ix : Int32) (x2 x3 x4 x5 : Option Value), i + n = 24 → ix = nI i → AT (bm F len) len K V P c a s nx tk pl vl → (∀ q, q ≠ 171 → F1 q = F q) → (∀ b, b < i → stR F1 b (Q1 b)) → x = prR (crF K V) (gn c) (nI G) Q0 n i s Q1 → Gj g l (rmd 7 0 0) XX (QM g (mpZ x Q F G W D P J) 0 0) RX8 cX8_proof 6 (some .int) 21 [some (.ref 167), some (.int ix), x2, x3, x4, x5] [] (St (mt F1 nx tk pl vl (-1)) J) 0 0 := by
  induction n with
  | zero =>
    intro i s F1 Q1 nx tk pl vl ix x2 x3 x4 x5 hi hix hAt hk hs hx
    obtain rfl : i = 24 := by omega
    subst hix
    have hR1 : RD F1 len K V P c a := RD_of (by rw [hk 167 (by decide)]) (hk 168 (by decide)) hR
    have hA1 : AT (bm F1 len) len K V P c a s nx tk pl vl := by rw [AT_k (hk 168 (by decide))]; exact hAt
    have hP := hR.2.2.2.2.2
    have h0 := kR_iff hAt.2.2.1 (t := 0) (k := 0) (Or.inr (Or.inr (Or.inr (Or.inr (Or.inr (Or.inr (Or.inr ⟨rfl, rfl⟩)))))))
    refine g_aload_n 22 dX8_proof_21 rfl rfl ?_
    refine g_v0 8 25 dX8_proof_22 rfl kl_X8_80 mv_X8_isWell rfl ⟨Nat.le_of_ble_eq_true rfl, Nat.le_of_ble_eq_true rfl⟩ (Nat.le_of_ble_eq_true rfl) (by first | decide | assumption | exact ⟨Nat.le_of_ble_eq_true rfl, rfl⟩) (m_well g l F1 J _ _ _ _) ?_
    rintro _ _ ⟨rfl, rfl⟩
    refine g_if_eq 59 28 dX8_proof_25 rfl (by decide) (fun h25 => ?_) (fun h25 => ?_)
    · exact absurd h25 (by decide)
    · refine g_aload_n 29 dX8_proof_28 rfl rfl ?_
      refine gf_8_4 32 dX8_proof_29 rfl kf_X8_67 (by first | decide | assumption | exact ⟨Nat.le_of_ble_eq_true rfl, rfl⟩) ?_
      refine gst_at (x2 := tk) rfl ?_
      refine g_if_eq 59 35 dX8_proof_32 rfl (by decide) (fun h32 => ?_) (fun h32 => ?_)
      · have hz : x = (true, 24, s, Q1) := by
          rw [hx, prR]; exact congrArg (fun z => (z, 24, s, Q1)) (decide_eq_true (h0.mp h32))
        refine pf_ok g l F J F1 nx tk pl vl (by omega) hG8 (show x.1 = true ∧ x.2.1 = 24 by rw [hz]; exact ⟨rfl, rfl⟩) hG hA hB ?_ ?_ hk ?_ _ _ _ _
        · have := hS (by rw [hz]); rw [hz] at this; exact this
        · have := hN (by rw [hz]); rw [hz] at this; exact this
        · have := hQ (by rw [hz]); rw [hz] at this
          exact fun b hb => stR_same (this b hb) (hs b hb)
      · refine g_iload_n 36 dX8_proof_35 rfl rfl ?_
        refine g_bipush (24) 38 dX8_proof_36 rfl (by decide) ?_
        refine g_icmp_ne 48 41 dX8_proof_38 rfl (by decide) (fun h38 => ?_) (fun h38 => ?_)
        · exact absurd h38 (by decide)
        · refine g_aload_n 42 dX8_proof_41 rfl rfl ?_
          refine g_v0 8 45 dX8_proof_42 rfl kl_X8_91 mv_X8_fails rfl ⟨Nat.le_of_ble_eq_true rfl, Nat.le_of_ble_eq_true rfl⟩ (Nat.le_of_ble_eq_true rfl) (by first | decide | assumption | exact ⟨Nat.le_of_ble_eq_true rfl, rfl⟩) (m_fails g l F1 J _ _ _ _) ?_
          rintro _ _ ⟨rfl, rfl⟩
          refine g_goto 21 dX8_proof_45 (by decide) ?_
          have hz : x = (false, 24, s, Q1) := by
            rw [hx, prR]
            exact congrArg (fun z => (z, 24, s, Q1)) (decide_eq_false (fun z => h32 (h0.mpr z)))
          refine gs_at (congrArg (fun y => St (mt F1 nx tk pl vl y) J) hAt.2.1) ?_
          exact pf_ill g l F J F1 nx tk pl vl (hP s hAt.1) (by rw [hz]; exact ⟨rfl, rfl⟩) hk _ _ _ _ _
  | succ n ih =>
    intro i s F1 Q1 nx tk pl vl ix x2 x3 x4 x5 hi hix hAt hk hs hx
    subst hix
    have hR1 : RD F1 len K V P c a := RD_of (by rw [hk 167 (by decide)]) (hk 168 (by decide)) hR
    have hA1 : AT (bm F1 len) len K V P c a s nx tk pl vl := by rw [AT_k (hk 168 (by decide))]; exact hAt
    have hP := hR.2.2.2.2.2
    have h0 := kR_iff hAt.2.2.1 (t := 0) (k := 0) (Or.inr (Or.inr (Or.inr (Or.inr (Or.inr (Or.inr (Or.inr ⟨rfl, rfl⟩)))))))
    refine g_aload_n 22 dX8_proof_21 rfl rfl ?_
    refine g_v0 8 25 dX8_proof_22 rfl kl_X8_80 mv_X8_isWell rfl ⟨Nat.le_of_ble_eq_true rfl, Nat.le_of_ble_eq_true rfl⟩ (Nat.le_of_ble_eq_true rfl) (by first | decide | assumption | exact ⟨Nat.le_of_ble_eq_true rfl, rfl⟩) (m_well g l F1 J _ _ _ _) ?_
    rintro _ _ ⟨rfl, rfl⟩
    refine g_if_eq 59 28 dX8_proof_25 rfl (by decide) (fun h25 => ?_) (fun h25 => ?_)
    · exact absurd h25 (by decide)
    · refine g_aload_n 29 dX8_proof_28 rfl rfl ?_
      refine gf_8_4 32 dX8_proof_29 rfl kf_X8_67 (by first | decide | assumption | exact ⟨Nat.le_of_ble_eq_true rfl, rfl⟩) ?_
      refine gst_at (x2 := tk) rfl ?_
      refine g_if_eq 59 35 dX8_proof_32 rfl (by decide) (fun h32 => ?_) (fun h32 => ?_)
      · have hz : x = (true, i, s, Q1) := by
          rw [hx, prR]; exact if_pos (h0.mp h32)
        refine pf_ok g l F J F1 nx tk pl vl (by omega) hG8 (show x.1 = true ∧ x.2.1 = i by rw [hz]; exact ⟨rfl, rfl⟩) hG hA hB ?_ ?_ hk ?_ _ _ _ _
        · have := hS (by rw [hz]); rw [hz] at this; exact this
        · have := hN (by rw [hz]); rw [hz] at this; exact this
        · have := hQ (by rw [hz]); rw [hz] at this
          exact fun b hb => stR_same (this b hb) (hs b hb)
      · refine g_iload_n 36 dX8_proof_35 rfl rfl ?_
        refine g_bipush (24) 38 dX8_proof_36 rfl (by decide) ?_
        refine g_icmp_ne 48 41 dX8_proof_38 rfl (by decide) (fun h38 => ?_) (fun h38 => ?_)
        · refine g_aload_n 49 dX8_proof_48 rfl rfl ?_
          refine g_iload_n 50 dX8_proof_49 rfl rfl ?_
          refine g_v1 8 53 dX8_proof_50 rfl kl_X8_129 mv_X8_readsStep rfl ⟨Nat.le_of_ble_eq_true rfl, Nat.le_of_ble_eq_true rfl⟩ (Nat.le_of_ble_eq_true rfl) (by first | decide | assumption | exact ⟨Nat.le_of_ble_eq_true rfl, rfl⟩) (m_readsStep g l F1 J hR1 (i := i) (by omega) (show F1 167 9 = nI G by rw [hk 167 (by decide)]; exact hG) hA1 (Q0 i).2.1 (Q0 i).2.2.1 (Q0 i).2.2.2.1 (Q0 i).2.2.2.2) ?_
          have hK0 : ¬ (crF K V s).1 = 0 := fun z => h32 (h0.mpr z)
          rintro r S2 ⟨rfl, ⟨h1, h2, F2, ⟨nx2, tk2, pl2, vl2, rfl, hA2⟩, hk2, hs2⟩ | ⟨h1, h2, F2, ⟨nx2, tk2, pl2, vl2, rfl⟩, hk2⟩ | ⟨h1, F2, ⟨nx2, tk2, pl2, vl2, rfl⟩, hk2⟩⟩
          · refine g_iinc (1) 56 dX8_proof_53 rfl (by decide) (by decide) rfl ?_
            refine g_goto 21 dX8_proof_56 (by decide) ?_
            have hkq : ∀ q, q ≠ 171 → F2 q = F q := fun q hq => by rw [hk2.1 q hq, hk q hq]
            rw [AT_k (hkq 168 (by decide))] at hA2
            refine ih (i + 1) _ F2 (va_up Q1 i (pRc (crF K V) (gn c) (nI G) Q0 i s)) nx2 tk2 pl2 vl2 _ _ _ _ _ (by omega) (nI_1 i) hA2 hkq (fun b hb => ?_) ?_
            · by_cases e : b = i
              · subst e
                have : va_up Q1 b (pRc (crF K V) (gn c) (nI G) Q0 b s) b = pRc (crF K V) (gn c) (nI G) Q0 b s := by simp only [va_up, if_true]
                rw [this]; exact hs2
              · have : va_up Q1 i (pRc (crF K V) (gn c) (nI G) Q0 i s) b = Q1 b := by simp only [va_up, if_neg e]
                rw [this]; exact stR_kpT hk2 (by omega) (hs b (by omega))
            · rw [hx, prR, if_neg hK0, if_pos (show (pSt (crF K V) (gn c) (nI G) Q0 i s).1 = true from h1), if_pos (show (pTok (crF K V) (gn c) 6 (pSt (crF K V) (gn c) (nI G) Q0 i s).2.1).1 = true from h2)]; rfl
          · refine g_iinc (1) 56 dX8_proof_53 rfl (by decide) (by decide) rfl ?_
            refine g_goto 21 dX8_proof_56 (by decide) ?_
            have hkq : ∀ q, q ≠ 171 → F2 q = F q := fun q hq => by rw [hk2.1 q hq, hk q hq]
            have hlt : (pSt (crF K V) (gn c) (nI G) Q0 i s).2.1 < c := pStep_lt _ _ _ _ _ hAt.1
            refine pf_ill g l F J F2 nx2 tk2 pl2 vl2 (hP _ (pTok_lt 6 hlt)) ?_ hkq _ _ _ _ _
            rw [hx, prR, if_neg hK0, if_pos (show (pSt (crF K V) (gn c) (nI G) Q0 i s).1 = true from h1), if_neg (show ¬ (pTok (crF K V) (gn c) 6 (pSt (crF K V) (gn c) (nI G) Q0 i s).2.1).1 = true by rw [show (pTok (crF K V) (gn c) 6 (pSt (crF K V) (gn c) (nI G) Q0 i s).2.1).1 = false from h2]; exact Bool.false_ne_true)]; exact ⟨rfl, rfl⟩
          · refine g_iinc (1) 56 dX8_proof_53 rfl (by decide) (by decide) rfl ?_
            refine g_goto 21 dX8_proof_56 (by decide) ?_
            have hkq : ∀ q, q ≠ 171 → F2 q = F q := fun q hq => by rw [hk2.1 q hq, hk q hq]
            have hlt : (pSt (crF K V) (gn c) (nI G) Q0 i s).2.1 < c := pStep_lt _ _ _ _ _ hAt.1
            refine pf_ill g l F J F2 nx2 tk2 pl2 vl2 (hP _ hlt) ?_ hkq _ _ _ _ _
            rw [hx, prR, if_neg hK0, if_neg (show ¬ (pSt (crF K V) (gn c) (nI G) Q0 i s).1 = true by rw [show (pSt (crF K V) (gn c) (nI G) Q0 i s).1 = false from h1]; exact Bool.false_ne_true)]; exact ⟨rfl, rfl⟩
        · exact absurd h38 (fun z => by have := (nI_eq (a := i) (b := 24) (by omega) (by decide)).mp z; omega)

set_option maxRecDepth 100000 in
set_option maxHeartbeats 4000000 in
theorem m_proof (g : Gl) (l : Launch) (F : Nat → Nat → Int32) (J : Nat → Int64) {len : Nat} {K V P : Nat → Int32} {c : Nat} {a : Nat → Nat} (hR : RD F len K V P c a) (hT : F 167 0 = 0) {G : Nat} (hG : F 167 9 = nI G) (hG8 : G ≤ 8) {Q Q0 : Nat → P5} {W : Nat → Nat → Int32} {D : Nat → Int32} (hA : AG F W D G) (hB : BB W D G) (hQ : (prR (crF K V) (gn c) (nI G) Q0 24 0 0 Q00).1 = true → ∀ b, b < (prR (crF K V) (gn c) (nI G) Q0 24 0 0 Q00).2.1 → sameQ (Q b) ((prR (crF K V) (gn c) (nI G) Q0 24 0 0 Q00).2.2.2 b)) : Ct g l yX8_proof cX8_proof 6 (some .int) 7 0 0 [.ref 167] (St F J) (mpZ (prR (crF K V) (gn c) (nI G) Q0 24 0 0 Q00) Q F G W D P J) := by
  have hR0 := hR
  obtain ⟨hl, hlen, hb, hTS, hV, hP⟩ := hR0
  have hc0 : 0 < c := hTS.2.1
  have hS : (prR (crF K V) (gn c) (nI G) Q0 24 0 0 Q00).1 = true → ∀ b, b < (prR (crF K V) (gn c) (nI G) Q0 24 0 0 Q00).2.1 → wfS (G + b) (Q b) := fun h b hb => by
    have := wf_all hV hG8 Q0 24 0 0 Q00 hc0 (by decide) (fun j hj => absurd hj (Nat.not_lt_zero j)) b hb
    obtain ⟨a1, a2, a3, -, -⟩ := hQ h b hb
    exact wfS_eq a1 a2 a3 this
  have hN : (prR (crF K V) (gn c) (nI G) Q0 24 0 0 Q00).1 = true → ∀ b, b < (prR (crF K V) (gn c) (nI G) Q0 24 0 0 Q00).2.1 → wfN (Q b) := fun h b hb => wfN_same (hQ h b hb) (wfN_all Q0 24 0 0 Q00 (fun j hj => absurd hj (Nat.not_lt_zero j)) b hb)
  refine Ct.of rfl (by decide) rfl (Nat.le_of_ble_eq_true rfl) ?_
  refine g_aload_n 1 dX8_proof_0 rfl rfl ?_
  refine g_iconst (0) 2 dX8_proof_1 rfl (by decide) ?_
  refine gp_8_0 5 dX8_proof_2 rfl kf_X8_35 (by first | decide | assumption | exact ⟨Nat.le_of_ble_eq_true rfl, rfl⟩) ?_
  refine gs_at (congrArg (fun x => St x J) ((thr hT).trans (mt_id F))) ?_
  refine g_aload_n 6 dX8_proof_5 rfl rfl ?_
  refine g_iconst (-1) 7 dX8_proof_6 rfl (by decide) ?_
  refine gp_8_7 10 dX8_proof_7 rfl kf_X8_77 (by first | decide | assumption | exact ⟨Nat.le_of_ble_eq_true rfl, rfl⟩) ?_
  refine gs_at (congrArg (fun x => St x J) mt_7) ?_
  refine g_aload_n 11 dX8_proof_10 rfl rfl ?_
  refine g_iconst (0) 12 dX8_proof_11 rfl (by decide) ?_
  refine gp_8_3 15 dX8_proof_12 rfl kf_X8_57 (by first | decide | assumption | exact ⟨Nat.le_of_ble_eq_true rfl, rfl⟩) ?_
  refine gs_at (congrArg (fun x => St x J) mt_3) ?_
  refine g_iconst (0) 16 dX8_proof_15 rfl (by decide) ?_
  refine g_istore_n 17 dX8_proof_16 rfl (by decide) ?_
  refine g_aload_n 18 dX8_proof_17 rfl rfl ?_
  refine g_v0 8 21 dX8_proof_18 rfl kl_X8_88 mv_X8_advances rfl ⟨Nat.le_of_ble_eq_true rfl, Nat.le_of_ble_eq_true rfl⟩ (Nat.le_of_ble_eq_true rfl) (by first | decide | assumption | exact ⟨Nat.le_of_ble_eq_true rfl, rfl⟩) (m_advances g l F J hl hlen hb (a := 0) (Nat.zero_le _) _ _ _ _) ?_
  rintro _ S2 ⟨rfl, nx, tk, vl, rfl, hp⟩
  have hAt := AT_of hTS (bm_sm F len) (bm_dg F len) (fun q hq => bm_no hq) (j := 0) hTS.2.1 (by rw [hTS.1]; exact hp)
  rw [hTS.1] at hAt
  exact pr_lp g l F J hR hG hG8 hA hB hQ hS hN 24 0 0 F Q00 nx tk _ vl _ _ _ _ _ rfl rfl hAt (fun _ _ => rfl) (fun b hb => absurd hb (Nat.not_lt_zero b)) rfl

