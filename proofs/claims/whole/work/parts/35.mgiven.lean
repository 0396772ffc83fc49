/-! the reference: given -/
def cpF (F : Nat → Nat → Int32) (k : Nat) : Nat → Nat → Int32 := fun q => if q = 169 then (fun j => if j < k then F 170 j else F 169 j) else F q
theorem cpF_0 (F : Nat → Nat → Int32) : cpF F 0 = F := by
  funext q j
  by_cases h : q = 169
  · subst h; simp [cpF]
  · simp [cpF, h]
theorem cpF_s (F : Nat → Nat → Int32) (k : Nat) : up2 (cpF F k) 169 k (F 170 k) = cpF F (k + 1) := by
  funext q j
  by_cases h : q = 169
  · subst h
    simp only [up2, upd, cpF, if_true]
    by_cases e : j = k
    · subst e; simp
    · by_cases e2 : j < k
      · simp [e, e2, Nat.lt_succ_of_lt e2]
      · simp [e, e2, show ¬ j < k + 1 by omega]
  · simp [up2, cpF, h]
/-- only what a reading may touch has changed -/
def kpF (F F2 : Nat → Nat → Int32) : Prop := (∀ q, q ≠ 167 → q ≠ 170 → q ≠ 171 → F2 q = F q) ∧ ∀ j, (j < 3 ∨ 7 < j) → F2 167 j = F 167 j
def lnsM (F : Nat → Nat → Int32) (L : LL) (m : Nat) : Prop := ∀ i, i < m → (∀ j, j < 6 → Wm F i j = (L i).1 j) ∧ Dm F i = (L i).2
def drf (F : Nat → Nat → Int32) (L : LL) (m : Nat) : Prop := ∀ i, i < m → (∀ j, j < 6 → F 170 (7 * i + j) = (L i).1 j) ∧ F 170 (7 * i + 6) = (L i).2
def gM (x : Bool × Nat × Nat × LL) (F : Nat → Nat → Int32) (P : Nat → Int32) (J : Nat → Int64) : Option Value → Sg → Prop := fun r S2 =>
  (x.1 = true ∧ r = some (.int (nI x.2.1)) ∧ ∃ F2, S2 = St F2 J ∧ F2 167 9 = nI x.2.1 ∧ F2 167 10 = 0 ∧ F2 167 11 = 0 ∧ F2 167 12 = -9 ∧ F2 167 13 = -9 ∧ F2 167 2 = 0 ∧ F2 167 0 = F 167 0 ∧ lnsM F2 x.2.2.2 x.2.1 ∧ (∀ q, q < 167 → F2 q = F q) ∧ F2 172 = F 172) ∨ (x.1 = false ∧ r = some (.int (-10 - P x.2.2.1)) ∧ ∃ F2, S2 = St F2 J ∧ kpF F F2)
theorem fin_g (F : Nat → Nat → Int32) (a b c d e x : Int32) : ∀ F2, F2 = up2 (up2 (up2 (up2 (up2 (up2 (mt F a b c d e) 167 9 x) 167 10 0) 167 11 0) 167 12 (-9)) 167 13 (-9)) 167 2 0 → F2 167 9 = x ∧ F2 167 10 = 0 ∧ F2 167 11 = 0 ∧ F2 167 12 = -9 ∧ F2 167 13 = -9 ∧ F2 167 2 = 0 ∧ F2 167 0 = F 167 0 ∧ ∀ q, q ≠ 167 → F2 q = F q := by
  rintro F2 rfl
  refine ⟨rfl, rfl, rfl, rfl, rfl, rfl, rfl, fun q h => ?_⟩
  simp [up2, mt, h]
set_option maxRecDepth 100000 in
set_option maxHeartbeats 4000000 in
theorem gv_copy (g : Gl) (l : Launch) {x : Bool × Nat × Nat × LL} (F : Nat → Nat → Int32) (J : Nat → Int64) {P : Nat → Int32} (F1 : Nat → Nat → Int32) (nx tk pl vl i : Int32) {XX : State → Method → Prop} (n : Nat) : ∀ (k : Nat) (kx : Int32), k + n = 56 → kx = nI k → (∀ x2, Gj g l (rmd 6 0 0) XX (QM g (gM x F P J) 0 0) RX8 cX8_given 3 (some .int) 113 [some (.ref 167), some (.int i), x2] [] (St (mt (cpF F1 56) nx tk pl vl (-1)) J) 0 0) → Gj g l (rmd 6 0 0) XX (QM g (gM x F P J) 0 0) RX8 cX8_given 3 (some .int) 89 [some (.ref 167), some (.int i), some (.int kx)] [] (St (mt (cpF F1 k) nx tk pl vl (-1)) J) 0 0 := by
  induction n with
  | zero =>
    intro k kx hi hx kk
    obtain rfl : k = 56 := by omega
    subst hx
    refine g_iload_n 90 dX8_given_89 rfl rfl ?_
    refine g_bipush (56) 92 dX8_given_90 rfl (by decide) ?_
    refine g_icmp_ge 113 95 dX8_given_92 rfl (by decide) (fun h92 => ?_) (fun h92 => ?_)
    · exact kk _
    · exact absurd (by decide) h92
  | succ n ih =>
    intro k kx hi hx kk
    subst hx
    refine g_iload_n 90 dX8_given_89 rfl rfl ?_
    refine g_bipush (56) 92 dX8_given_90 rfl (by decide) ?_
    refine g_icmp_ge 113 95 dX8_given_92 rfl (by decide) (fun h92 => ?_) (fun h92 => ?_)
    · exact absurd h92 (nI_ge (a := k) (b := 56) (by omega) (by decide))
    · refine g_aload_n 96 dX8_given_95 rfl rfl ?_
      refine gf_8_8 99 dX8_given_96 rfl kf_X8_13 ?_
      refine g_iload_n 100 dX8_given_99 rfl rfl ?_
      refine g_aload_n 101 dX8_given_100 rfl rfl ?_
      refine gf_8_14 104 dX8_given_101 rfl kf_X8_23 ?_
      refine g_iload_n 105 dX8_given_104 rfl rfl ?_
      refine ga_ild (k) 106 dX8_given_105 rfl (by first | decide | assumption | exact ⟨Nat.le_of_ble_eq_true rfl, rfl⟩) rfl (show k < 56 by omega) ?_
      refine gst_at (show mt (cpF F1 k) nx tk pl vl (-1) 170 k = F1 170 k from rfl) ?_
      refine ga_ist (k) 107 dX8_given_106 rfl (by first | decide | assumption | exact ⟨Nat.le_of_ble_eq_true rfl, rfl⟩) rfl (show k < 231 by omega) ?_
      refine gs_at (congrArg (fun x => St x J) (mt_up (by decide))) ?_
      refine gs_at (congrArg (fun x => St (mt x nx tk pl vl (-1)) J) (cpF_s F1 k)) ?_
      refine g_iinc (1) 110 dX8_given_107 rfl (by decide) (by decide) rfl ?_
      refine g_goto 89 dX8_given_110 (by decide) ?_
      exact ih (k + 1) _ (by omega) (nI_succ k).symm kk

set_option maxRecDepth 100000 in
set_option maxHeartbeats 4000000 in
theorem gv_ok (g : Gl) (l : Launch) {x : Bool × Nat × Nat × LL} (F : Nat → Nat → Int32) (J : Nat → Int64) {P : Nat → Int32} (F1 : Nat → Nat → Int32) (nx tk pl vl : Int32) {i : Nat} {L : LL} {s : Nat} (hi : i ≤ 8) (hx : x = (true, i, s, L)) (hk : ∀ q, q ≠ 170 → F1 q = F q) (hd : drf F1 L i) (x2 : Option Value) {XX : State → Method → Prop} : Gj g l (rmd 6 0 0) XX (QM g (gM x F P J) 0 0) RX8 cX8_given 3 (some .int) 72 [some (.ref 167), some (.int (nI i)), x2] [] (St (mt F1 nx tk pl vl (-1)) J) 0 0 := by
  refine g_aload_n 73 dX8_given_72 rfl rfl ?_
  refine g_v0 8 76 dX8_given_73 rfl kl_X8_80 mv_X8_isWell rfl ⟨Nat.le_of_ble_eq_true rfl, Nat.le_of_ble_eq_true rfl⟩ (Nat.le_of_ble_eq_true rfl) (by first | decide | assumption | exact ⟨Nat.le_of_ble_eq_true rfl, rfl⟩) (m_well g l F1 J _ _ _ _) ?_
  rintro _ _ ⟨rfl, rfl⟩
  refine g_if_ne 87 79 dX8_given_76 rfl (by decide) (fun h76 => ?_) (fun h76 => ?_)
  · refine g_iconst (0) 88 dX8_given_87 rfl (by decide) ?_
    refine g_istore_n 89 dX8_given_88 rfl (by decide) ?_
    refine gs_at (congrArg (fun x => St (mt x nx tk pl vl (-1)) J) (cpF_0 F1).symm) ?_
    refine gv_copy g l F J F1 nx tk pl vl (nI i) 56 0 _ rfl rfl (fun x3 => ?_)
    refine g_aload_n 114 dX8_given_113 rfl rfl ?_
    refine g_iload_n 115 dX8_given_114 rfl rfl ?_
    refine gp_8_9 118 dX8_given_115 rfl kf_X8_106 (by first | decide | assumption | exact ⟨Nat.le_of_ble_eq_true rfl, rfl⟩) ?_
    refine g_aload_n 119 dX8_given_118 rfl rfl ?_
    refine g_iconst (0) 120 dX8_given_119 rfl (by decide) ?_
    refine gp_8_10 123 dX8_given_120 rfl kf_X8_109 (by first | decide | assumption | exact ⟨Nat.le_of_ble_eq_true rfl, rfl⟩) ?_
    refine g_aload_n 124 dX8_given_123 rfl rfl ?_
    refine g_iconst (0) 125 dX8_given_124 rfl (by decide) ?_
    refine gp_8_11 128 dX8_given_125 rfl kf_X8_112 (by first | decide | assumption | exact ⟨Nat.le_of_ble_eq_true rfl, rfl⟩) ?_
    refine g_aload_n 129 dX8_given_128 rfl rfl ?_
    refine g_bipush (-9) 131 dX8_given_129 rfl (by decide) ?_
    refine gp_8_12 134 dX8_given_131 rfl kf_X8_16 (by first | decide | assumption | exact ⟨Nat.le_of_ble_eq_true rfl, rfl⟩) ?_
    refine g_aload_n 135 dX8_given_134 rfl rfl ?_
    refine g_bipush (-9) 137 dX8_given_135 rfl (by decide) ?_
    refine gp_8_13 140 dX8_given_137 rfl kf_X8_20 (by first | decide | assumption | exact ⟨Nat.le_of_ble_eq_true rfl, rfl⟩) ?_
    refine g_aload_n 141 dX8_given_140 rfl rfl ?_
    refine g_iconst (0) 142 dX8_given_141 rfl (by decide) ?_
    refine gp_8_2 145 dX8_given_142 rfl kf_X8_42 (by first | decide | assumption | exact ⟨Nat.le_of_ble_eq_true rfl, rfl⟩) ?_
    refine g_aload_n 146 dX8_given_145 rfl rfl ?_
    refine gf_8_9 149 dX8_given_146 rfl kf_X8_106 (by first | decide | assumption | exact ⟨Nat.le_of_ble_eq_true rfl, rfl⟩) ?_
    refine g_iret dX8_given_149 ?_
    obtain ⟨f9, f10, f11, f12, f13, f2, f0, fq⟩ := fin_g (cpF F1 56) nx tk pl vl (-1) (nI i) _ rfl
    refine Or.inl ⟨by rw [hx], by rw [f9, hx], _, rfl, by rw [f9, hx], f10, f11, f12, f13, f2, by rw [f0]; show F1 167 0 = F 167 0; rw [hk 167 (by decide)], ?_, fun q hq => ?_, ?_⟩
    · rw [hx]
      intro b hb
      have hb2 : b < i := hb
      obtain ⟨d1, d2⟩ := hd b hb2
      have e : ∀ j, j < 7 → cpF F1 56 169 (7 * b + j) = F1 170 (7 * b + j) := fun j hj => by
        show (if 7 * b + j < 56 then _ else _) = _
        rw [if_pos (by omega)]
      refine ⟨fun j hj => ?_, ?_⟩
      · rw [Wm, fq 169 (by decide), e j (by omega)]; exact d1 j hj
      · rw [Dm, fq 169 (by decide), e 6 (by decide)]; exact d2
    · rw [fq q (by omega)]
      show (if q = 169 then _ else F1 q) = F q
      rw [if_neg (by omega), hk q (by omega)]
    · rw [fq 172 (by decide)]
      show F1 172 = F 172
      rw [hk 172 (by decide)]
  · exact absurd h76 (by decide)

set_option maxRecDepth 100000 in
set_option maxHeartbeats 4000000 in
theorem gv_ill (g : Gl) (l : Launch) {x : Bool × Nat × Nat × LL} (F : Nat → Nat → Int32) (J : Nat → Int64) {P : Nat → Int32} (F1 : Nat → Nat → Int32) (nx tk pl vl : Int32) {j : Nat} (hf : ¬ P j < 0) (hx : x.1 = false ∧ x.2.2.1 = j) (hk : ∀ q, q ≠ 170 → F1 q = F q) (x1 x2 : Option Value) {XX : State → Method → Prop} : Gj g l (rmd 6 0 0) XX (QM g (gM x F P J) 0 0) RX8 cX8_given 3 (some .int) 21 [some (.ref 167), x1, x2] [] (St (mt F1 nx tk pl vl (P j)) J) 0 0 := by
  refine g_aload_n 22 dX8_given_21 rfl rfl ?_
  refine g_v0 8 25 dX8_given_22 rfl kl_X8_80 mv_X8_isWell rfl ⟨Nat.le_of_ble_eq_true rfl, Nat.le_of_ble_eq_true rfl⟩ (Nat.le_of_ble_eq_true rfl) (by first | decide | assumption | exact ⟨Nat.le_of_ble_eq_true rfl, rfl⟩) (m_ill g l F1 J _ _ _ _ hf) ?_
  rintro _ _ ⟨rfl, rfl⟩
  refine g_if_eq 72 28 dX8_given_25 rfl (by decide) (fun h25 => ?_) (fun h25 => ?_)
  · refine g_aload_n 73 dX8_given_72 rfl rfl ?_
    refine g_v0 8 76 dX8_given_73 rfl kl_X8_80 mv_X8_isWell rfl ⟨Nat.le_of_ble_eq_true rfl, Nat.le_of_ble_eq_true rfl⟩ (Nat.le_of_ble_eq_true rfl) (by first | decide | assumption | exact ⟨Nat.le_of_ble_eq_true rfl, rfl⟩) (m_ill g l F1 J _ _ _ _ hf) ?_
    rintro _ _ ⟨rfl, rfl⟩
    refine g_if_ne 87 79 dX8_given_76 rfl (by decide) (fun h76 => ?_) (fun h76 => ?_)
    · exact absurd rfl h76
    · refine g_bipush (-10) 81 dX8_given_79 rfl (by decide) ?_
      refine g_aload_n 82 dX8_given_81 rfl rfl ?_
      refine gf_8_7 85 dX8_given_82 rfl kf_X8_77 (by first | decide | assumption | exact ⟨Nat.le_of_ble_eq_true rfl, rfl⟩) ?_
      refine g_isub 86 dX8_given_85 rfl ?_
      refine g_iret dX8_given_86 ?_
      refine Or.inr ⟨hx.1, by rw [hx.2]; rfl, _, rfl, fun q h1 h2 _ => ?_, fun b hb => ?_⟩
      · rw [mt_q h1, hk q h2]
      · show (if b = 3 then nx else if b = 4 then tk else if b = 5 then pl else if b = 6 then vl else if b = 7 then P j else F1 167 b) = F 167 b
        rw [if_neg (by omega), if_neg (by omega), if_neg (by omega), if_neg (by omega), if_neg (by omega), hk 167 (by decide)]
  · exact absurd rfl h25

theorem gv_drf {F1 : Nat → Nat → Int32} {L : LL} {i : Nat} {u : Nat → Int32} {w : Nat → Int32} {d : Int32} (hd : drf F1 L i) (hu : ∀ j, j < 6 → u j = w j) (h6 : u 6 = d) : drf (rwF F1 170 (7 * i) u) (va_up L i (w, d)) (i + 1) := by
  intro b hb
  by_cases e : b = i
  · subst e
    have e2 : va_up L b (w, d) b = (w, d) := by simp [va_up]
    rw [e2]
    exact ⟨fun j hj => by rw [rwF_in _ _ _ _ (by omega)]; exact hu j hj, by rw [rwF_in _ _ _ _ (by decide)]; exact h6⟩
  · have e2 : va_up L i (w, d) b = L b := by simp [va_up, e]
    rw [e2]
    obtain ⟨d1, d2⟩ := hd b (by omega)
    exact ⟨fun j hj => by rw [rwF_out _ _ _ _ (by omega)]; exact d1 j hj, by rw [rwF_out _ _ _ _ (by omega)]; exact d2⟩
theorem ix70 (n : Nat) : (7 : Int32) * nI n = nI (7 * n) := by rw [show (7 : Int32) = nI 7 from rfl, nI_mul]
theorem AT_k {F F1 : Nat → Nat → Int32} {len : Nat} {K V P : Nat → Int32} {c : Nat} {a : Nat → Nat} {j : Nat} {nx tk pl vl : Int32} (h : F1 168 = F 168) : AT (bm F1 len) len K V P c a j nx tk pl vl = AT (bm F len) len K V P c a j nx tk pl vl := by rw [bm_of h]
set_option maxRecDepth 100000 in
set_option maxHeartbeats 4000000 in
theorem gv_lp (g : Gl) (l : Launch) {x : Bool × Nat × Nat × LL} (F : Nat → Nat → Int32) (J : Nat → Int64) {len : Nat} {K V P : Nat → Int32} {c : Nat} {a : Nat → Nat} (hR : RD F len K V P c a) {XX : State → Method → Prop} (n : Nat) : ∀ (i s : Nat) (F1 : Nat → Nat → Int32) (L : LL) (nx tk pl vl ix : Int32) (x2 : Option Value), i + n = 8 → ix = nI i → AT (bm F len) len K V P c a s nx tk pl vl → (∀ q, q ≠ 170 → F1 q = F q) → drf F1 L i → x = gvR (crF K V) (gn c) n i s L → Gj g l (rmd 6 0 0) XX (QM g (gM x F P J) 0 0) RX8 cX8_given 3 (some .int) 21 [some (.ref 167), some (.int ix), x2] [] (St (mt F1 nx tk pl vl (-1)) J) 0 0 := by
  induction n with
  | zero =>
    intro i s F1 L nx tk pl vl ix x2 hi hix hA hk hd hx
    obtain rfl : i = 8 := by omega
    subst hix
    have hR1 : RD F1 len K V P c a := RD_of (by rw [hk 167 (by decide)]) (hk 168 (by decide)) hR
    have hA1 : AT (bm F1 len) len K V P c a s nx tk pl vl := by rw [AT_k (hk 168 (by decide))]; exact hA
    have hP := hR.2.2.2.2.2
    have h0 := kR_iff hA.2.2.1 (t := 0) (k := 0) (Or.inr (Or.inr (Or.inr (Or.inr (Or.inr (Or.inr (Or.inr ⟨rfl, rfl⟩)))))))
    refine g_aload_n 22 dX8_given_21 rfl rfl ?_
    refine g_v0 8 25 dX8_given_22 rfl kl_X8_80 mv_X8_isWell rfl ⟨Nat.le_of_ble_eq_true rfl, Nat.le_of_ble_eq_true rfl⟩ (Nat.le_of_ble_eq_true rfl) (by first | decide | assumption | exact ⟨Nat.le_of_ble_eq_true rfl, rfl⟩) (m_well g l F1 J _ _ _ _) ?_
    rintro _ _ ⟨rfl, rfl⟩
    refine g_if_eq 72 28 dX8_given_25 rfl (by decide) (fun h25 => ?_) (fun h25 => ?_)
    · exact absurd h25 (by decide)
    · refine g_aload_n 29 dX8_given_28 rfl rfl ?_
      refine gf_8_4 32 dX8_given_29 rfl kf_X8_67 (by first | decide | assumption | exact ⟨Nat.le_of_ble_eq_true rfl, rfl⟩) ?_
      refine gst_at (x2 := tk) rfl ?_
      refine g_if_eq 72 35 dX8_given_32 rfl (by decide) (fun h32 => ?_) (fun h32 => ?_)
      · refine gv_ok g l F J F1 nx tk pl vl (by decide) (s := s) (L := L) ?_ hk hd _
        rw [hx, gvR]
        exact congrArg (fun z => (z, 8, s, L)) (decide_eq_true (h0.mp h32))
      · refine g_iload_n 36 dX8_given_35 rfl rfl ?_
        refine g_bipush (8) 38 dX8_given_36 rfl (by decide) ?_
        refine g_icmp_ne 48 41 dX8_given_38 rfl (by decide) (fun h38 => ?_) (fun h38 => ?_)
        · exact absurd h38 (by decide)
        · refine g_aload_n 42 dX8_given_41 rfl rfl ?_
          refine g_v0 8 45 dX8_given_42 rfl kl_X8_91 mv_X8_fails rfl ⟨Nat.le_of_ble_eq_true rfl, Nat.le_of_ble_eq_true rfl⟩ (Nat.le_of_ble_eq_true rfl) (by first | decide | assumption | exact ⟨Nat.le_of_ble_eq_true rfl, rfl⟩) (m_fails g l F1 J _ _ _ _) ?_
          rintro _ _ ⟨rfl, rfl⟩
          refine g_goto 21 dX8_given_45 (by decide) ?_
          have hz : x = (false, 8, s, L) := by
            rw [hx, gvR]
            exact congrArg (fun z => (z, 8, s, L)) (decide_eq_false (fun z => h32 (h0.mpr z)))
          refine gs_at (congrArg (fun y => St (mt F1 nx tk pl vl y) J) hA.2.1) ?_
          exact gv_ill g l F J F1 nx tk pl vl (hP s hA.1) (by rw [hz]; exact ⟨rfl, rfl⟩) hk _ _
  | succ n ih =>
    intro i s F1 L nx tk pl vl ix x2 hi hix hA hk hd hx
    subst hix
    have hR1 : RD F1 len K V P c a := RD_of (by rw [hk 167 (by decide)]) (hk 168 (by decide)) hR
    have hA1 : AT (bm F1 len) len K V P c a s nx tk pl vl := by rw [AT_k (hk 168 (by decide))]; exact hA
    have hP := hR.2.2.2.2.2
    have h0 := kR_iff hA.2.2.1 (t := 0) (k := 0) (Or.inr (Or.inr (Or.inr (Or.inr (Or.inr (Or.inr (Or.inr ⟨rfl, rfl⟩)))))))
    refine g_aload_n 22 dX8_given_21 rfl rfl ?_
    refine g_v0 8 25 dX8_given_22 rfl kl_X8_80 mv_X8_isWell rfl ⟨Nat.le_of_ble_eq_true rfl, Nat.le_of_ble_eq_true rfl⟩ (Nat.le_of_ble_eq_true rfl) (by first | decide | assumption | exact ⟨Nat.le_of_ble_eq_true rfl, rfl⟩) (m_well g l F1 J _ _ _ _) ?_
    rintro _ _ ⟨rfl, rfl⟩
    refine g_if_eq 72 28 dX8_given_25 rfl (by decide) (fun h25 => ?_) (fun h25 => ?_)
    · exact absurd h25 (by decide)
    · refine g_aload_n 29 dX8_given_28 rfl rfl ?_
      refine gf_8_4 32 dX8_given_29 rfl kf_X8_67 (by first | decide | assumption | exact ⟨Nat.le_of_ble_eq_true rfl, rfl⟩) ?_
      refine gst_at (x2 := tk) rfl ?_
      refine g_if_eq 72 35 dX8_given_32 rfl (by decide) (fun h32 => ?_) (fun h32 => ?_)
      · refine gv_ok g l F J F1 nx tk pl vl (by omega) (s := s) (L := L) ?_ hk hd _
        rw [hx, gvR]; exact if_pos (h0.mp h32)
      · refine g_iload_n 36 dX8_given_35 rfl rfl ?_
        refine g_bipush (8) 38 dX8_given_36 rfl (by decide) ?_
        refine g_icmp_ne 48 41 dX8_given_38 rfl (by decide) (fun h38 => ?_) (fun h38 => ?_)
        · refine g_aload_n 49 dX8_given_48 rfl rfl ?_
          refine g_aload_n 50 dX8_given_49 rfl rfl ?_
          refine gf_8_14 53 dX8_given_50 rfl kf_X8_23 ?_
          refine g_bipush (7) 55 dX8_given_53 rfl (by decide) ?_
          refine g_iload_n 56 dX8_given_55 rfl rfl ?_
          refine g_imul 57 dX8_given_56 rfl ?_
          refine gst_at (ix70 i) ?_
          refine g_v2 8 60 dX8_given_57 rfl kl_X8_102 mv_X8_readsLine rfl ⟨Nat.le_of_ble_eq_true rfl, Nat.le_of_ble_eq_true rfl⟩ (Nat.le_of_ble_eq_true rfl) (by first | decide | assumption | exact ⟨Nat.le_of_ble_eq_true rfl, rfl⟩) (m_readsLine g l F1 J hR1 (q := 170) (p := 7 * i) (Or.inl rfl) (show 7 * i + 7 ≤ 56 by omega) hA1) ?_
          have hK0 : ¬ (crF K V s).1 = 0 := fun z => h32 (h0.mpr z)
          rintro r S2 ⟨rfl, ⟨h1, u, ⟨nx2, tk2, pl2, vl2, rfl, hA2⟩, hu, hu6⟩ | ⟨h1, u, nx2, tk2, pl2, vl2, rfl⟩⟩
          · have hk2 : ∀ q, q ≠ 170 → rwF F1 170 (7 * i) u q = F q := fun q hq => by rw [rwF_ne _ _ _ _ hq, hk q hq]
            have hR2 : RD (rwF F1 170 (7 * i) u) len K V P c a := RD_of (by rw [hk2 167 (by decide)]) (hk2 168 (by decide)) hR
            refine g_aload_n 61 dX8_given_60 rfl rfl ?_
            refine g_bipush (7) 63 dX8_given_61 rfl (by decide) ?_
            refine g_v1 8 66 dX8_given_63 rfl kl_X8_98 mv_X8_takes rfl ⟨Nat.le_of_ble_eq_true rfl, Nat.le_of_ble_eq_true rfl⟩ (Nat.le_of_ble_eq_true rfl) (by first | decide | assumption | exact ⟨Nat.le_of_ble_eq_true rfl, rfl⟩) (m_takes g l (rwF F1 170 (7 * i) u) J hR2 hA2 (t := 7) (k := 6) (Or.inr (Or.inr (Or.inr (Or.inr (Or.inr (Or.inr (Or.inl ⟨rfl, rfl⟩))))))) (by decide)) ?_
            rintro r S2 (⟨h2, rfl, nx3, tk3, pl3, vl3, rfl, hA3⟩ | ⟨h2, rfl, nx3, tk3, pl3, vl3, rfl⟩)
            · refine g_iinc (1) 69 dX8_given_66 rfl (by decide) (by decide) rfl ?_
              refine g_goto 21 dX8_given_69 (by decide) ?_
              rw [AT_k (hk2 168 (by decide))] at hA3
              refine ih (i + 1) _ (rwF F1 170 (7 * i) u) _ nx3 tk3 pl3 vl3 _ _ (by omega) (nI_1 i) hA3 hk2 (gv_drf hd hu hu6) ?_
              rw [hx, gvR, if_neg hK0, if_pos h1, if_pos h2]
            · refine g_iinc (1) 69 dX8_given_66 rfl (by decide) (by decide) rfl ?_
              refine g_goto 21 dX8_given_69 (by decide) ?_
              refine gv_ill g l F J (rwF F1 170 (7 * i) u) nx3 tk3 pl3 vl3 (hP _ (pTok_lt 6 hA2.1)) ?_ hk2 _ _
              rw [hx, gvR, if_neg hK0, if_pos h1, if_neg (by rw [h2]; exact Bool.false_ne_true)]; exact ⟨rfl, rfl⟩
          · have hlt : (pLine (crF K V) (gn c) s).2.1 < c := pLine_lt hA.1
            have hz : x.1 = false ∧ x.2.2.1 = (pLine (crF K V) (gn c) s).2.1 := by
              rw [hx, gvR, if_neg hK0, if_neg (by rw [h1]; exact Bool.false_ne_true)]; exact ⟨rfl, rfl⟩
            refine g_aload_n 61 dX8_given_60 rfl rfl ?_
            refine g_bipush (7) 63 dX8_given_61 rfl (by decide) ?_
            refine g_v1 8 66 dX8_given_63 rfl kl_X8_98 mv_X8_takes rfl ⟨Nat.le_of_ble_eq_true rfl, Nat.le_of_ble_eq_true rfl⟩ (Nat.le_of_ble_eq_true rfl) (by first | decide | assumption | exact ⟨Nat.le_of_ble_eq_true rfl, rfl⟩) (m_takes2 g l (rwF F1 170 (7 * i) u) J _ _ _ _ (hP _ hlt) _) ?_
            rintro _ _ ⟨rfl, rfl⟩
            refine g_iinc (1) 69 dX8_given_66 rfl (by decide) (by decide) rfl ?_
            refine g_goto 21 dX8_given_69 (by decide) ?_
            exact gv_ill g l F J (rwF F1 170 (7 * i) u) nx2 tk2 pl2 vl2 (hP _ hlt) hz (fun q hq => by rw [rwF_ne _ _ _ _ hq, hk q hq]) _ _
        · exact absurd h38 (fun z => by have := (nI_eq (a := i) (b := 8) (by omega) (by decide)).mp z; omega)

set_option maxRecDepth 100000 in
set_option maxHeartbeats 4000000 in
theorem m_given (g : Gl) (l : Launch) (F : Nat → Nat → Int32) (J : Nat → Int64) {len : Nat} {K V P : Nat → Int32} {c : Nat} {a : Nat → Nat} (hR : RD F len K V P c a) (hT : F 167 0 = 0) : Ct g l yX8_given cX8_given 3 (some .int) 6 0 0 [.ref 167] (St F J) (gM (gvR (crF K V) (gn c) 8 0 0 L0) F P J) := by
  have hR0 := hR
  obtain ⟨hl, hlen, hb, hTS, hV, hP⟩ := hR0
  refine Ct.of rfl (by decide) rfl (Nat.le_of_ble_eq_true rfl) ?_
  refine g_aload_n 1 dX8_given_0 rfl rfl ?_
  refine g_iconst (0) 2 dX8_given_1 rfl (by decide) ?_
  refine gp_8_0 5 dX8_given_2 rfl kf_X8_35 (by first | decide | assumption | exact ⟨Nat.le_of_ble_eq_true rfl, rfl⟩) ?_
  refine gs_at (congrArg (fun x => St x J) ((thr hT).trans (mt_id F))) ?_
  refine g_aload_n 6 dX8_given_5 rfl rfl ?_
  refine g_iconst (-1) 7 dX8_given_6 rfl (by decide) ?_
  refine gp_8_7 10 dX8_given_7 rfl kf_X8_77 (by first | decide | assumption | exact ⟨Nat.le_of_ble_eq_true rfl, rfl⟩) ?_
  refine gs_at (congrArg (fun x => St x J) mt_7) ?_
  refine g_aload_n 11 dX8_given_10 rfl rfl ?_
  refine g_iconst (0) 12 dX8_given_11 rfl (by decide) ?_
  refine gp_8_3 15 dX8_given_12 rfl kf_X8_57 (by first | decide | assumption | exact ⟨Nat.le_of_ble_eq_true rfl, rfl⟩) ?_
  refine gs_at (congrArg (fun x => St x J) mt_3) ?_
  refine g_iconst (0) 16 dX8_given_15 rfl (by decide) ?_
  refine g_istore_n 17 dX8_given_16 rfl (by decide) ?_
  refine g_aload_n 18 dX8_given_17 rfl rfl ?_
  refine g_v0 8 21 dX8_given_18 rfl kl_X8_88 mv_X8_advances rfl ⟨Nat.le_of_ble_eq_true rfl, Nat.le_of_ble_eq_true rfl⟩ (Nat.le_of_ble_eq_true rfl) (by first | decide | assumption | exact ⟨Nat.le_of_ble_eq_true rfl, rfl⟩) (m_advances g l F J hl hlen hb (a := 0) (Nat.zero_le _) _ _ _ _) ?_
  rintro _ S2 ⟨rfl, nx, tk, vl, rfl, hp⟩
  have hA := AT_of hTS (bm_sm F len) (bm_dg F len) (fun q hq => bm_no hq) (j := 0) hTS.2.1 (by rw [hTS.1]; exact hp)
  rw [hTS.1] at hA
  exact gv_lp g l F J hR 8 0 0 F L0 nx tk _ vl _ _ rfl rfl hA (fun _ _ => rfl) (fun i hi => absurd hi (Nat.not_lt_zero i)) rfl

