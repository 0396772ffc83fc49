/-! the reference reads (2) -/
def rdZ (x : Bool × Nat) (v : Option Value) (F : Nat → Nat → Int32) (J : Nat → Int64) (len : Nat) (K V P : Nat → Int32) (c : Nat) (a : Nat → Nat) (v0 : Option Value) : Option Value → Sg → Prop := fun r S2 => (x.1 = true ∧ r = v ∧ MSt F J len K V P c a x.2 S2) ∨ (x.1 = false ∧ r = v0 ∧ MBd F J P x.2 S2)
theorem pTok_p {K V : Nat → Int32} {c j : Nat} {k : Int32} (h : K j = k) : pTok (crF K V) (gn c) k j = (true, gn c j) := by rw [pTok]; exact if_pos h
theorem pTok_n {K V : Nat → Int32} {c j : Nat} {k : Int32} (h : ¬ K j = k) : pTok (crF K V) (gn c) k j = (false, j) := by rw [pTok]; exact if_neg h
theorem pNum_p {K V : Nat → Int32} {c j : Nat} {lo hi : Int32} (h : K j = 2 ∧ ¬ V j < lo ∧ V j ≤ hi) : pNum (crF K V) (gn c) lo hi j = (true, gn c j) := by rw [pNum]; exact if_pos h
theorem pNum_n {K V : Nat → Int32} {c j : Nat} {lo hi : Int32} (h : ¬ (K j = 2 ∧ ¬ V j < lo ∧ V j ≤ hi)) : pNum (crF K V) (gn c) lo hi j = (false, j) := by rw [pNum]; exact if_neg h
set_option maxRecDepth 100000 in
set_option maxHeartbeats 4000000 in
theorem m_takes (g : Gl) (l : Launch) (F : Nat → Nat → Int32) (J : Nat → Int64) {len : Nat} {K V P : Nat → Int32} {c : Nat} {a : Nat → Nat} (hR : RD F len K V P c a) {j : Nat} {nx tk pl vl : Int32} (hA : AT (bm F len) len K V P c a j nx tk pl vl) {t k : Int32} (hp : kP t k) (hk0 : ¬ k = 0) : Ct g l yX8_takes cX8_takes 2 none 4 0 0 [.ref 167, .int t] (St (mt F nx tk pl vl (-1)) J) (rdZ (pTok (crF K V) (gn c) k j) none F J len K V P c a none) := by
  have hi := kR_iff hA.2.2.1 hp
  have h8 := kP_8 hp
  refine Ct.of rfl (by decide) rfl (Nat.le_of_ble_eq_true rfl) ?_
  refine g_aload_n 1 dX8_takes_0 rfl rfl ?_
  refine g_iload_n 2 dX8_takes_1 rfl rfl ?_
  refine g_v1 8 5 dX8_takes_2 rfl kl_X8_84 mv_X8_isToken rfl ⟨Nat.le_of_ble_eq_true rfl, Nat.le_of_ble_eq_true rfl⟩ (Nat.le_of_ble_eq_true rfl) (by first | decide | assumption | exact ⟨Nat.le_of_ble_eq_true rfl, rfl⟩) (m_isTok g l F J _ _ _ _ _) ?_
  rintro _ _ ⟨rfl, rfl⟩
  refine g_if_eq 15 8 dX8_takes_5 rfl (by decide) (fun h5 => ?_) (fun h5 => ?_)
  · refine g_aload_n 16 dX8_takes_15 rfl rfl ?_
    refine g_v0 8 19 dX8_takes_16 rfl kl_X8_91 mv_X8_fails rfl ⟨Nat.le_of_ble_eq_true rfl, Nat.le_of_ble_eq_true rfl⟩ (Nat.le_of_ble_eq_true rfl) (by first | decide | assumption | exact ⟨Nat.le_of_ble_eq_true rfl, rfl⟩) (m_fails g l F J _ _ _ _) ?_
    rintro _ _ ⟨rfl, rfl⟩
    refine g_vret dX8_takes_19 ?_
    rw [pTok_n (fun z => b10.mp h5 (hi.mpr z))]
    exact Or.inr ⟨rfl, rfl, nx, tk, pl, vl, by rw [hA.2.1]⟩
  · refine g_aload_n 9 dX8_takes_8 rfl rfl ?_
    refine g_v0 8 12 dX8_takes_9 rfl kl_X8_88 mv_X8_advances rfl ⟨Nat.le_of_ble_eq_true rfl, Nat.le_of_ble_eq_true rfl⟩ (Nat.le_of_ble_eq_true rfl) (by first | decide | assumption | exact ⟨Nat.le_of_ble_eq_true rfl, rfl⟩) (m_adv g l F J hR hA (by rw [hi.mp (b10n h5)]; exact h8) (by rw [hi.mp (b10n h5)]; exact hk0) 0) ?_
    rintro _ S2 ⟨rfl, hM⟩
    refine g_goto 19 dX8_takes_12 (by decide) ?_
    refine g_vret dX8_takes_19 ?_
    rw [pTok_p (hi.mp (b10n h5))]
    exact Or.inl ⟨rfl, rfl, hM⟩

set_option maxRecDepth 100000 in
set_option maxHeartbeats 4000000 in
theorem m_takes2 (g : Gl) (l : Launch) (F : Nat → Nat → Int32) (J : Nat → Int64) (nx tk pl vl : Int32) {fl : Int32} (hf : ¬ fl < 0) (t : Int32) : Ct g l yX8_takes cX8_takes 2 none 4 0 0 [.ref 167, .int t] (St (mt F nx tk pl vl fl) J) (fun r S2 => r = none ∧ S2 = St (mt F nx tk pl vl fl) J) := by
  refine Ct.of rfl (by decide) rfl (Nat.le_of_ble_eq_true rfl) ?_
  refine g_aload_n 1 dX8_takes_0 rfl rfl ?_
  refine g_iload_n 2 dX8_takes_1 rfl rfl ?_
  refine g_v1 8 5 dX8_takes_2 rfl kl_X8_84 mv_X8_isToken rfl ⟨Nat.le_of_ble_eq_true rfl, Nat.le_of_ble_eq_true rfl⟩ (Nat.le_of_ble_eq_true rfl) (by first | decide | assumption | exact ⟨Nat.le_of_ble_eq_true rfl, rfl⟩) (m_isTok2 g l F J _ _ _ _ hf _) ?_
  rintro _ _ ⟨rfl, rfl⟩
  refine g_if_eq 15 8 dX8_takes_5 rfl (by decide) (fun h5 => ?_) (fun h5 => ?_)
  · refine g_aload_n 16 dX8_takes_15 rfl rfl ?_
    refine g_v0 8 19 dX8_takes_16 rfl kl_X8_91 mv_X8_fails rfl ⟨Nat.le_of_ble_eq_true rfl, Nat.le_of_ble_eq_true rfl⟩ (Nat.le_of_ble_eq_true rfl) (by first | decide | assumption | exact ⟨Nat.le_of_ble_eq_true rfl, rfl⟩) (m_fails2 g l F J _ _ _ _ hf) ?_
    rintro _ _ ⟨rfl, rfl⟩
    refine g_vret dX8_takes_19 ?_
    exact ⟨rfl, rfl⟩
  · exact absurd rfl h5

set_option maxRecDepth 100000 in
set_option maxHeartbeats 4000000 in
theorem m_takesNumber (g : Gl) (l : Launch) (F : Nat → Nat → Int32) (J : Nat → Int64) {len : Nat} {K V P : Nat → Int32} {c : Nat} {a : Nat → Nat} (hR : RD F len K V P c a) {j : Nat} {nx tk pl vl : Int32} (hA : AT (bm F len) len K V P c a j nx tk pl vl) (lo hi : Int32) : Ct g l yX8_takesNumber cX8_takesNumber 4 (some .int) 4 0 0 [.ref 167, .int lo, .int hi] (St (mt F nx tk pl vl (-1)) J) (rdZ (pNum (crF K V) (gn c) lo hi j) (some (.int (V j))) F J len K V P c a (some (.int 0))) := by
  have hi2 := kR_iff hA.2.2.1 (t := 3) (k := 2) (Or.inr (Or.inr (Or.inl ⟨rfl, rfl⟩)))
  refine Ct.of rfl (by decide) rfl (Nat.le_of_ble_eq_true rfl) ?_
  refine g_aload_n 1 dX8_takesNumber_0 rfl rfl ?_
  refine g_iconst (3) 2 dX8_takesNumber_1 rfl (by decide) ?_
  refine g_v1 8 5 dX8_takesNumber_2 rfl kl_X8_84 mv_X8_isToken rfl ⟨Nat.le_of_ble_eq_true rfl, Nat.le_of_ble_eq_true rfl⟩ (Nat.le_of_ble_eq_true rfl) (by first | decide | assumption | exact ⟨Nat.le_of_ble_eq_true rfl, rfl⟩) (m_isTok g l F J _ _ _ _ _) ?_
  rintro _ _ ⟨rfl, rfl⟩
  refine g_if_eq 20 8 dX8_takesNumber_5 rfl (by decide) (fun h5 => ?_) (fun h5 => ?_)
  · refine g_aload_n 21 dX8_takesNumber_20 rfl rfl ?_
    refine g_v0 8 24 dX8_takesNumber_21 rfl kl_X8_91 mv_X8_fails rfl ⟨Nat.le_of_ble_eq_true rfl, Nat.le_of_ble_eq_true rfl⟩ (Nat.le_of_ble_eq_true rfl) (by first | decide | assumption | exact ⟨Nat.le_of_ble_eq_true rfl, rfl⟩) (m_fails g l F J _ _ _ _) ?_
    rintro _ _ ⟨rfl, rfl⟩
    refine g_iconst (0) 25 dX8_takesNumber_24 rfl (by decide) ?_
    refine g_iret dX8_takesNumber_25 ?_
    rw [pNum_n (fun z => b10.mp h5 (hi2.mpr z.1))]
    exact Or.inr ⟨rfl, rfl, _, _, _, _, by rw [hA.2.1]⟩
  · have hK : K j = 2 := hi2.mp (b10n h5)
    have hvl : vl = V j := (kR_m hA.2.2.1).2.2.2.1 hK
    subst hvl
    refine g_aload_n 9 dX8_takesNumber_8 rfl rfl ?_
    refine gf_8_6 12 dX8_takesNumber_9 rfl kf_X8_74 (by first | decide | assumption | exact ⟨Nat.le_of_ble_eq_true rfl, rfl⟩) ?_
    refine gst_at (x2 := V j) rfl ?_
    refine g_iload_n 13 dX8_takesNumber_12 rfl rfl ?_
    refine g_iload_n 14 dX8_takesNumber_13 rfl rfl ?_
    refine g_s3 17 dX8_takesNumber_14 rfl kl_X8_38 ms_X8_in ⟨Nat.le_of_ble_eq_true rfl, Nat.le_of_ble_eq_true rfl⟩ (Nat.le_of_ble_eq_true rfl) (m_in g l _ _ _ _) ?_
    rintro _ _ ⟨rfl, rfl⟩
    refine g_if_ne 26 20 dX8_takesNumber_17 rfl (by decide) (fun h17 => ?_) (fun h17 => ?_)
    · refine g_aload_n 27 dX8_takesNumber_26 rfl rfl ?_
      refine gf_8_6 30 dX8_takesNumber_27 rfl kf_X8_74 (by first | decide | assumption | exact ⟨Nat.le_of_ble_eq_true rfl, rfl⟩) ?_
      refine gst_at (x2 := V j) rfl ?_
      refine g_istore_n 31 dX8_takesNumber_30 rfl (by decide) ?_
      refine g_aload_n 32 dX8_takesNumber_31 rfl rfl ?_
      refine g_v0 8 35 dX8_takesNumber_32 rfl kl_X8_88 mv_X8_advances rfl ⟨Nat.le_of_ble_eq_true rfl, Nat.le_of_ble_eq_true rfl⟩ (Nat.le_of_ble_eq_true rfl) (by first | decide | assumption | exact ⟨Nat.le_of_ble_eq_true rfl, rfl⟩) (m_adv g l F J hR hA (by rw [hK]; decide) (by rw [hK]; decide) 0) ?_
      rintro _ S2 ⟨rfl, hM⟩
      refine g_iload_n 36 dX8_takesNumber_35 rfl rfl ?_
      refine g_iret dX8_takesNumber_36 ?_
      have hq := b10n h17
      rw [pNum_p ⟨hK, hq.1, Int32.not_lt.mp hq.2⟩]
      exact Or.inl ⟨rfl, rfl, hM⟩
    · refine g_aload_n 21 dX8_takesNumber_20 rfl rfl ?_
      refine g_v0 8 24 dX8_takesNumber_21 rfl kl_X8_91 mv_X8_fails rfl ⟨Nat.le_of_ble_eq_true rfl, Nat.le_of_ble_eq_true rfl⟩ (Nat.le_of_ble_eq_true rfl) (by first | decide | assumption | exact ⟨Nat.le_of_ble_eq_true rfl, rfl⟩) (m_fails g l F J _ _ _ _) ?_
      rintro _ _ ⟨rfl, rfl⟩
      refine g_iconst (0) 25 dX8_takesNumber_24 rfl (by decide) ?_
      refine g_iret dX8_takesNumber_25 ?_
      rw [pNum_n (fun z => b10.mp h17 ⟨z.2.1, Int32.not_lt.mpr z.2.2⟩)]
      exact Or.inr ⟨rfl, rfl, _, _, _, _, by rw [hA.2.1]⟩

set_option maxRecDepth 100000 in
set_option maxHeartbeats 4000000 in
theorem m_takesNumber2 (g : Gl) (l : Launch) (F : Nat → Nat → Int32) (J : Nat → Int64) (nx tk pl vl : Int32) {fl : Int32} (hf : ¬ fl < 0) (lo hi : Int32) : Ct g l yX8_takesNumber cX8_takesNumber 4 (some .int) 4 0 0 [.ref 167, .int lo, .int hi] (St (mt F nx tk pl vl fl) J) (fun r S2 => r = some (.int 0) ∧ S2 = St (mt F nx tk pl vl fl) J) := by
  refine Ct.of rfl (by decide) rfl (Nat.le_of_ble_eq_true rfl) ?_
  refine g_aload_n 1 dX8_takesNumber_0 rfl rfl ?_
  refine g_iconst (3) 2 dX8_takesNumber_1 rfl (by decide) ?_
  refine g_v1 8 5 dX8_takesNumber_2 rfl kl_X8_84 mv_X8_isToken rfl ⟨Nat.le_of_ble_eq_true rfl, Nat.le_of_ble_eq_true rfl⟩ (Nat.le_of_ble_eq_true rfl) (by first | decide | assumption | exact ⟨Nat.le_of_ble_eq_true rfl, rfl⟩) (m_isTok2 g l F J _ _ _ _ hf _) ?_
  rintro _ _ ⟨rfl, rfl⟩
  refine g_if_eq 20 8 dX8_takesNumber_5 rfl (by decide) (fun h5 => ?_) (fun h5 => ?_)
  · refine g_aload_n 21 dX8_takesNumber_20 rfl rfl ?_
    refine g_v0 8 24 dX8_takesNumber_21 rfl kl_X8_91 mv_X8_fails rfl ⟨Nat.le_of_ble_eq_true rfl, Nat.le_of_ble_eq_true rfl⟩ (Nat.le_of_ble_eq_true rfl) (by first | decide | assumption | exact ⟨Nat.le_of_ble_eq_true rfl, rfl⟩) (m_fails2 g l F J _ _ _ _ hf) ?_
    rintro _ _ ⟨rfl, rfl⟩
    refine g_iconst (0) 25 dX8_takesNumber_24 rfl (by decide) ?_
    refine g_iret dX8_takesNumber_25 ?_
    exact ⟨rfl, rfl⟩
  · exact absurd rfl h5

set_option maxRecDepth 100000 in
set_option maxHeartbeats 4000000 in
theorem m_takesLetter (g : Gl) (l : Launch) (F : Nat → Nat → Int32) (J : Nat → Int64) {len : Nat} {K V P : Nat → Int32} {c : Nat} {a : Nat → Nat} (hR : RD F len K V P c a) {j : Nat} {nx tk pl vl : Int32} (hA : AT (bm F len) len K V P c a j nx tk pl vl) : Ct g l yX8_takesLetter cX8_takesLetter 2 (some .int) 4 0 0 [.ref 167] (St (mt F nx tk pl vl (-1)) J) (rdZ (pTok (crF K V) (gn c) 1 j) (some (.int (V j))) F J len K V P c a (some (.int 0))) := by
  have hi2 := kR_iff hA.2.2.1 (t := 1) (k := 1) (Or.inl ⟨rfl, rfl⟩)
  refine Ct.of rfl (by decide) rfl (Nat.le_of_ble_eq_true rfl) ?_
  refine g_aload_n 1 dX8_takesLetter_0 rfl rfl ?_
  refine g_iconst (1) 2 dX8_takesLetter_1 rfl (by decide) ?_
  refine g_v1 8 5 dX8_takesLetter_2 rfl kl_X8_84 mv_X8_isToken rfl ⟨Nat.le_of_ble_eq_true rfl, Nat.le_of_ble_eq_true rfl⟩ (Nat.le_of_ble_eq_true rfl) (by first | decide | assumption | exact ⟨Nat.le_of_ble_eq_true rfl, rfl⟩) (m_isTok g l F J _ _ _ _ _) ?_
  rintro _ _ ⟨rfl, rfl⟩
  refine g_if_ne 14 8 dX8_takesLetter_5 rfl (by decide) (fun h5 => ?_) (fun h5 => ?_)
  · have hK : K j = 1 := hi2.mp (b10n h5)
    have hvl : vl = V j := (kR_m hA.2.2.1).2.2.1 hK
    subst hvl
    refine g_aload_n 15 dX8_takesLetter_14 rfl rfl ?_
    refine gf_8_6 18 dX8_takesLetter_15 rfl kf_X8_74 (by first | decide | assumption | exact ⟨Nat.le_of_ble_eq_true rfl, rfl⟩) ?_
    refine gst_at (x2 := V j) rfl ?_
    refine g_istore_n 19 dX8_takesLetter_18 rfl (by decide) ?_
    refine g_aload_n 20 dX8_takesLetter_19 rfl rfl ?_
    refine g_v0 8 23 dX8_takesLetter_20 rfl kl_X8_88 mv_X8_advances rfl ⟨Nat.le_of_ble_eq_true rfl, Nat.le_of_ble_eq_true rfl⟩ (Nat.le_of_ble_eq_true rfl) (by first | decide | assumption | exact ⟨Nat.le_of_ble_eq_true rfl, rfl⟩) (m_adv g l F J hR hA (by rw [hK]; decide) (by rw [hK]; decide) 0) ?_
    rintro _ S2 ⟨rfl, hM⟩
    refine g_iload_n 24 dX8_takesLetter_23 rfl rfl ?_
    refine g_iret dX8_takesLetter_24 ?_
    rw [pTok_p hK]
    exact Or.inl ⟨rfl, rfl, hM⟩
  · refine g_aload_n 9 dX8_takesLetter_8 rfl rfl ?_
    refine g_v0 8 12 dX8_takesLetter_9 rfl kl_X8_91 mv_X8_fails rfl ⟨Nat.le_of_ble_eq_true rfl, Nat.le_of_ble_eq_true rfl⟩ (Nat.le_of_ble_eq_true rfl) (by first | decide | assumption | exact ⟨Nat.le_of_ble_eq_true rfl, rfl⟩) (m_fails g l F J _ _ _ _) ?_
    rintro _ _ ⟨rfl, rfl⟩
    refine g_iconst (0) 13 dX8_takesLetter_12 rfl (by decide) ?_
    refine g_iret dX8_takesLetter_13 ?_
    rw [pTok_n (fun z => b10.mp h5 (hi2.mpr z))]
    exact Or.inr ⟨rfl, rfl, _, _, _, _, by rw [hA.2.1]⟩

set_option maxRecDepth 100000 in
set_option maxHeartbeats 4000000 in
theorem m_takesLetter2 (g : Gl) (l : Launch) (F : Nat → Nat → Int32) (J : Nat → Int64) (nx tk pl vl : Int32) {fl : Int32} (hf : ¬ fl < 0) : Ct g l yX8_takesLetter cX8_takesLetter 2 (some .int) 4 0 0 [.ref 167] (St (mt F nx tk pl vl fl) J) (fun r S2 => r = some (.int 0) ∧ S2 = St (mt F nx tk pl vl fl) J) := by
  refine Ct.of rfl (by decide) rfl (Nat.le_of_ble_eq_true rfl) ?_
  refine g_aload_n 1 dX8_takesLetter_0 rfl rfl ?_
  refine g_iconst (1) 2 dX8_takesLetter_1 rfl (by decide) ?_
  refine g_v1 8 5 dX8_takesLetter_2 rfl kl_X8_84 mv_X8_isToken rfl ⟨Nat.le_of_ble_eq_true rfl, Nat.le_of_ble_eq_true rfl⟩ (Nat.le_of_ble_eq_true rfl) (by first | decide | assumption | exact ⟨Nat.le_of_ble_eq_true rfl, rfl⟩) (m_isTok2 g l F J _ _ _ _ hf _) ?_
  rintro _ _ ⟨rfl, rfl⟩
  refine g_if_ne 14 8 dX8_takesLetter_5 rfl (by decide) (fun h5 => ?_) (fun h5 => ?_)
  · exact absurd rfl h5
  · refine g_aload_n 9 dX8_takesLetter_8 rfl rfl ?_
    refine g_v0 8 12 dX8_takesLetter_9 rfl kl_X8_91 mv_X8_fails rfl ⟨Nat.le_of_ble_eq_true rfl, Nat.le_of_ble_eq_true rfl⟩ (Nat.le_of_ble_eq_true rfl) (by first | decide | assumption | exact ⟨Nat.le_of_ble_eq_true rfl, rfl⟩) (m_fails2 g l F J _ _ _ _ hf) ?_
    rintro _ _ ⟨rfl, rfl⟩
    refine g_iconst (0) 13 dX8_takesLetter_12 rfl (by decide) ?_
    refine g_iret dX8_takesLetter_13 ?_
    exact ⟨rfl, rfl⟩

def rwF (F : Nat → Nat → Int32) (q p : Nat) (u : Nat → Int32) : Nat → Nat → Int32 := fun r => if r = q then (fun j => if p ≤ j ∧ j < p + 7 then u (j - p) else F q j) else F r
theorem rwF_ne (F : Nat → Nat → Int32) (q p : Nat) (u : Nat → Int32) {r : Nat} (h : r ≠ q) : rwF F q p u r = F r := by simp [rwF, h]
theorem rwF_in (F : Nat → Nat → Int32) (q p : Nat) (u : Nat → Int32) {j : Nat} (h : j < 7) : rwF F q p u q (p + j) = u j := by
  simp only [rwF, if_true]
  rw [if_pos ⟨by omega, by omega⟩, show p + j - p = j by omega]
theorem rwF_out (F : Nat → Nat → Int32) (q p : Nat) (u : Nat → Int32) {i : Nat} (h : i < p ∨ p + 7 ≤ i) : rwF F q p u q i = F q i := by
  simp only [rwF, if_true]
  rw [if_neg (by omega)]
theorem rwF_up (F : Nat → Nat → Int32) (q p : Nat) (u : Nat → Int32) {j : Nat} (x : Int32) (h : j < 7) : up2 (rwF F q p u) q (p + j) x = rwF F q p (upd u j x) := by
  funext r i
  by_cases hr : r = q
  · subst hr
    simp only [up2, upd, rwF, if_true]
    by_cases e : i = p + j
    · subst e; rw [if_pos rfl, if_pos ⟨by omega, by omega⟩, if_pos (by omega)]
    · rw [if_neg e]
      by_cases e2 : p ≤ i ∧ i < p + 7
      · rw [if_pos e2, if_pos e2, if_neg (by omega)]
      · rw [if_neg e2, if_neg e2]
  · simp [up2, rwF, hr]
theorem rwF_id (F : Nat → Nat → Int32) (q p : Nat) : F = rwF F q p (fun j => F q (p + j)) := by
  funext r i
  by_cases hr : r = q
  · subst hr
    simp only [rwF, if_true]
    split
    · rw [show p + (i - p) = i by omega]
    · rfl
  · simp [rwF, hr]
theorem rwF_eq {F : Nat → Nat → Int32} {q p : Nat} {u v : Nat → Int32} (h : ∀ j, j < 7 → u j = v j) : rwF F q p u = rwF F q p v := by
  funext r i
  by_cases hr : r = q
  · subst hr
    simp only [rwF, if_true]
    by_cases e2 : p ≤ i ∧ i < p + 7
    · rw [if_pos e2, if_pos e2, h _ (by omega)]
    · rw [if_neg e2, if_neg e2]
  · simp [rwF, hr]
theorem mt_up {F : Nat → Nat → Int32} {a b c d e : Int32} {q i : Nat} {x : Int32} (h : q ≠ 167) : up2 (mt F a b c d e) q i x = mt (up2 F q i x) a b c d e := by
  funext r j
  by_cases z : r = 167
  · subst z; simp [up2, mt, Ne.symm h]
  · by_cases z2 : r = q
    · subst z2; simp [up2, mt, h]
    · simp [up2, mt, z, z2]
theorem bm_of {F G : Nat → Nat → Int32} (h : G 168 = F 168) (len : Nat) : bm G len = bm F len := by funext k; rw [bm, bm, h]
theorem RD_of {F G : Nat → Nat → Int32} {len : Nat} {K V P : Nat → Int32} {c : Nat} {a : Nat → Nat} (h1 : G 167 2 = F 167 2) (h2 : G 168 = F 168) (hR : RD F len K V P c a) : RD G len K V P c a := by
  obtain ⟨r1, r2, r3, r4, r5, r6⟩ := hR
  exact ⟨by rw [h1, r1], r2, by rw [h2]; exact r3, by rw [bm_of h2]; exact r4, r5, r6⟩
theorem pre7_w {F : Nat → Nat → Int32} {q p i : Nat} {v u : Nat → Int32} {x : Int32} (hi : i < 7) (hx : x = v i) : up2 (rwF F q p (pre7 v u i)) q (p + i) x = rwF F q p (pre7 v u (i + 1)) := by
  rw [rwF_up _ _ _ _ _ hi]
  refine rwF_eq fun j hj => ?_
  simp only [upd, pre7]
  by_cases e : j = i
  · subst e; rw [if_pos rfl, if_pos (by omega), hx]
  · rw [if_neg e]
    by_cases e2 : j < i
    · rw [if_pos e2, if_pos (by omega)]
    · rw [if_neg e2, if_neg (by omega)]
def nz (w : Nat → Int32) (i : Nat) : Nat := if w i = 0 then 0 else 1
def nzs (w : Nat → Int32) : Nat := nz w 0 + nz w 1 + nz w 2 + nz w 3 + nz w 4 + nz w 5
theorem nzs_le (w : Nat → Int32) : nzs w ≤ 6 := by
  have c : ∀ i, nz w i ≤ 1 := fun i => by unfold nz; split <;> omega
  have c0 := c 0; have c1 := c 1; have c2 := c 2; have c3 := c 3; have c4 := c 4; have c5 := c 5
  unfold nzs; omega
theorem nzs_up {w : Nat → Int32} {i : Nat} {x : Int32} (hi : i < 6) (h0 : w i = 0) (hx : ¬ x = 0) : nzs (upd w i x) = nzs w + 1 := by
  have e : ∀ j, nz (upd w i x) j = nz w j + (if j = i then 1 else 0) := fun j => by
    unfold nz upd
    by_cases q : j = i
    · subst q; simp [h0, hx]
    · simp [q]
  unfold nzs
  rw [e 0, e 1, e 2, e 3, e 4, e 5]
  have : i = 0 ∨ i = 1 ∨ i = 2 ∨ i = 3 ∨ i = 4 ∨ i = 5 := by omega
  rcases this with h | h | h | h | h | h <;> subst h <;> simp <;> omega
/-- behind a line that was read: the row, the place -/
def lnZ (x : Bool × Nat × (Nat → Int32) × Int32) (F : Nat → Nat → Int32) (q p : Nat) (J : Nat → Int64) (len : Nat) (K V P : Nat → Int32) (c : Nat) (a : Nat → Nat) : Option Value → Sg → Prop := fun r S2 => r = none ∧ ((x.1 = true ∧ ∃ u, MSt (rwF F q p u) J len K V P c a x.2.1 S2 ∧ (∀ i, i < 6 → u i = x.2.2.1 i) ∧ u 6 = x.2.2.2) ∨ (x.1 = false ∧ ∃ u, MBd (rwF F q p u) J P x.2.1 S2))
set_option maxRecDepth 100000 in
set_option maxHeartbeats 4000000 in
theorem lm_zero (g : Gl) (l : Launch) {zc : Option Value → Sg → Prop} (F : Nat → Nat → Int32) (J : Nat → Int64) {q p : Nat} (hq : q = 170 ∨ q = 171) (hp : p + 7 ≤ ln q) (u : Nat → Int32) (nx tk pl vl : Int32) (x4 : Option Value) {XX : State → Method → Prop} (n : Nat) : ∀ (i : Nat) (ix : Int32), i + n = 7 → ix = nI i → (∀ x3, Gj g l (rmd 5 0 0) XX (QM g zc 0 0) RX8 cX8_readsLine 5 none 20 [some (.ref 167), some (.ref q), some (.int (nI p)), x3, x4] [] (St (mt (rwF F q p (fun _ => 0)) nx tk pl vl (-1)) J) 0 0) → Gj g l (rmd 5 0 0) XX (QM g zc 0 0) RX8 cX8_readsLine 5 none 2 [some (.ref 167), some (.ref q), some (.int (nI p)), some (.int ix), x4] [] (St (mt (rwF F q p (pre7 (fun _ => 0) u i)) nx tk pl vl (-1)) J) 0 0 := by
  have hq10 : q < 174 ∧ sh q = 10 := by rcases hq with h | h <;> subst h <;> decide
  have hq7 : q ≠ 167 := by rcases hq with h | h <;> subst h <;> decide
  have hq8 : q ≠ 168 := by rcases hq with h | h <;> subst h <;> decide
  induction n with
  | zero =>
    intro i ix hi hx kk
    obtain rfl : i = 7 := by omega
    subst hx
    refine g_iload_n 3 dX8_readsLine_2 rfl rfl ?_
    refine g_bipush (7) 5 dX8_readsLine_3 rfl (by decide) ?_
    refine g_icmp_ge 20 8 dX8_readsLine_5 rfl (by decide) (fun h5 => ?_) (fun h5 => ?_)
    · have e0 : rwF F q p (pre7 (fun _ => 0) u 7) = rwF F q p (fun _ => 0) := rwF_eq fun j hj => by rw [pre7, if_pos hj]
      refine gs_at (congrArg (fun x => St (mt x nx tk pl vl (-1)) J) e0) ?_
      exact kk _
    · exact absurd (by decide) h5
  | succ n ih =>
    intro i ix hi hx kk
    subst hx
    refine g_iload_n 3 dX8_readsLine_2 rfl rfl ?_
    refine g_bipush (7) 5 dX8_readsLine_3 rfl (by decide) ?_
    refine g_icmp_ge 20 8 dX8_readsLine_5 rfl (by decide) (fun h5 => ?_) (fun h5 => ?_)
    · exact absurd h5 (lt7 (by omega))
    · refine g_aload_n 9 dX8_readsLine_8 rfl rfl ?_
      refine g_iload_n 10 dX8_readsLine_9 rfl rfl ?_
      refine g_iload_n 11 dX8_readsLine_10 rfl rfl ?_
      refine g_iadd 12 dX8_readsLine_11 rfl ?_
      refine g_iconst (0) 13 dX8_readsLine_12 rfl (by decide) ?_
      refine ga_ist (p + i) 14 dX8_readsLine_13 rfl hq10 (nI_add p i) (by omega) ?_
      refine gs_at (congrArg (fun x => St x J) (mt_up hq7)) ?_
      refine gs_at (congrArg (fun x => St (mt x nx tk pl vl (-1)) J) (pre7_w (v := fun _ => 0) (u := u) (by omega) rfl)) ?_
      refine g_iinc (1) 17 dX8_readsLine_14 rfl (by decide) (by decide) rfl ?_
      refine g_goto 2 dX8_readsLine_17 (by decide) ?_
      exact ih (i + 1) _ (by omega) (nI_succ i).symm kk

theorem AT_of2 {F : Nat → Nat → Int32} {q p : Nat} {u : Nat → Int32} {len : Nat} {K V P : Nat → Int32} {c : Nat} {a : Nat → Nat} {j : Nat} {nx tk pl vl : Int32} (h8 : q ≠ 168) : AT (bm (rwF F q p u) len) len K V P c a j nx tk pl vl = AT (bm F len) len K V P c a j nx tk pl vl := by rw [bm_of (rwF_ne F q p u (Ne.symm h8))]
set_option maxRecDepth 100000 in
set_option maxHeartbeats 4000000 in
theorem rl_ill (g : Gl) (l : Launch) {x : Bool × Nat × (Nat → Int32) × Int32} (F : Nat → Nat → Int32) (J : Nat → Int64) {q p : Nat} (hq : q = 170 ∨ q = 171) (hp : p + 7 ≤ ln q) (u : Nat → Int32) (len : Nat) (K V P : Nat → Int32) (c : Nat) (a : Nat → Nat) (nx tk pl vl : Int32) {j : Nat} (hf : ¬ P j < 0) (hx : x.1 = false ∧ x.2.1 = j) (x3 x4 : Option Value) {XX : State → Method → Prop} : Gj g l (rmd 5 0 0) XX (QM g (lnZ x F q p J len K V P c a) 0 0) RX8 cX8_readsLine 5 none 128 [some (.ref 167), some (.ref q), some (.int (nI p)), x3, x4] [] (St (mt (rwF F q p u) nx tk pl vl (P j)) J) 0 0 := by
  have hq10 : q < 174 ∧ sh q = 10 := by rcases hq with h | h <;> subst h <;> decide
  have hq7 : q ≠ 167 := by rcases hq with h | h <;> subst h <;> decide
  have hq8 : q ≠ 168 := by rcases hq with h | h <;> subst h <;> decide
  refine g_aload_n 129 dX8_readsLine_128 rfl rfl ?_
  refine g_iconst (4) 130 dX8_readsLine_129 rfl (by decide) ?_
  refine g_v1 8 133 dX8_readsLine_130 rfl kl_X8_98 mv_X8_takes rfl ⟨Nat.le_of_ble_eq_true rfl, Nat.le_of_ble_eq_true rfl⟩ (Nat.le_of_ble_eq_true rfl) (by first | decide | assumption | exact ⟨Nat.le_of_ble_eq_true rfl, rfl⟩) (m_takes2 g l _ J _ _ _ _ hf _) ?_
  rintro _ _ ⟨rfl, rfl⟩
  refine g_aload_n 134 dX8_readsLine_133 rfl rfl ?_
  refine g_iload_n 135 dX8_readsLine_134 rfl rfl ?_
  refine g_bipush (6) 137 dX8_readsLine_135 rfl (by decide) ?_
  refine g_iadd 138 dX8_readsLine_137 rfl ?_
  refine g_aload_n 139 dX8_readsLine_138 rfl rfl ?_
  refine g_iconst (0) 140 dX8_readsLine_139 rfl (by decide) ?_
  refine g_sipush (999) 143 dX8_readsLine_140 rfl (by decide) ?_
  refine g_v2 8 146 dX8_readsLine_143 rfl kl_X8_94 mv_X8_takesNumber rfl ⟨Nat.le_of_ble_eq_true rfl, Nat.le_of_ble_eq_true rfl⟩ (Nat.le_of_ble_eq_true rfl) (by first | decide | assumption | exact ⟨Nat.le_of_ble_eq_true rfl, rfl⟩) (m_takesNumber2 g l _ J _ _ _ _ hf _ _) ?_
  rintro _ _ ⟨rfl, rfl⟩
  refine ga_ist (p + 6) 147 dX8_readsLine_146 rfl hq10 (nI_add p 6) (by omega) ?_
  refine g_vret dX8_readsLine_147 ?_
  refine ⟨rfl, Or.inr ⟨hx.1, upd u 6 0, nx, tk, pl, vl, ?_⟩⟩
  rw [hx.2, mt_up hq7, rwF_up _ _ _ _ _ (by decide)]

set_option maxRecDepth 100000 in
set_option maxHeartbeats 4000000 in
theorem rl_end (g : Gl) (l : Launch) {x : Bool × Nat × (Nat → Int32) × Int32} (F : Nat → Nat → Int32) (J : Nat → Int64) {len : Nat} {K V P : Nat → Int32} {c : Nat} {a : Nat → Nat} (hR : RD F len K V P c a) {q p : Nat} (hq : q = 170 ∨ q = 171) (hp : p + 7 ≤ ln q) (u w : Nat → Int32) {j : Nat} {nx tk pl vl : Int32} (hA : AT (bm F len) len K V P c a j nx tk pl vl) (hu : ∀ i, i < 6 → u i = w i) (hx : x = pDeg (crF K V) (gn c) w j) (x3 x4 : Option Value) {XX : State → Method → Prop} : Gj g l (rmd 5 0 0) XX (QM g (lnZ x F q p J len K V P c a) 0 0) RX8 cX8_readsLine 5 none 128 [some (.ref 167), some (.ref q), some (.int (nI p)), x3, x4] [] (St (mt (rwF F q p u) nx tk pl vl (-1)) J) 0 0 := by
  have hq10 : q < 174 ∧ sh q = 10 := by rcases hq with h | h <;> subst h <;> decide
  have hq7 : q ≠ 167 := by rcases hq with h | h <;> subst h <;> decide
  have hq8 : q ≠ 168 := by rcases hq with h | h <;> subst h <;> decide
  have hP := hR.2.2.2.2.2
  have hA2 : AT (bm (rwF F q p u) len) len K V P c a j nx tk pl vl := by rw [AT_of2 hq8]; exact hA
  have hR2 := RD_of (F := F) (G := rwF F q p u) (by rw [rwF_ne _ _ _ _ (Ne.symm hq7)]) (rwF_ne _ _ _ _ (Ne.symm hq8)) hR
  refine g_aload_n 129 dX8_readsLine_128 rfl rfl ?_
  refine g_iconst (4) 130 dX8_readsLine_129 rfl (by decide) ?_
  refine g_v1 8 133 dX8_readsLine_130 rfl kl_X8_98 mv_X8_takes rfl ⟨Nat.le_of_ble_eq_true rfl, Nat.le_of_ble_eq_true rfl⟩ (Nat.le_of_ble_eq_true rfl) (by first | decide | assumption | exact ⟨Nat.le_of_ble_eq_true rfl, rfl⟩) (m_takes g l (rwF F q p u) J hR2 hA2 (t := 4) (k := 3) (Or.inr (Or.inr (Or.inr (Or.inl ⟨rfl, rfl⟩)))) (by decide)) ?_
  rintro r S2 (⟨h1, rfl, nx2, tk2, pl2, vl2, rfl, hA3⟩ | ⟨h1, rfl, nx2, tk2, pl2, vl2, rfl⟩)
  · have e1 : x = ((pNum (crF K V) (gn c) 0 999 (pTok (crF K V) (gn c) 3 j).2).1, (pNum (crF K V) (gn c) 0 999 (pTok (crF K V) (gn c) 3 j).2).2, w, (crF K V (pTok (crF K V) (gn c) 3 j).2).2) := by rw [hx, pDeg, if_pos h1]
    refine g_aload_n 134 dX8_readsLine_133 rfl rfl ?_
    refine g_iload_n 135 dX8_readsLine_134 rfl rfl ?_
    refine g_bipush (6) 137 dX8_readsLine_135 rfl (by decide) ?_
    refine g_iadd 138 dX8_readsLine_137 rfl ?_
    refine g_aload_n 139 dX8_readsLine_138 rfl rfl ?_
    refine g_iconst (0) 140 dX8_readsLine_139 rfl (by decide) ?_
    refine g_sipush (999) 143 dX8_readsLine_140 rfl (by decide) ?_
    refine g_v2 8 146 dX8_readsLine_143 rfl kl_X8_94 mv_X8_takesNumber rfl ⟨Nat.le_of_ble_eq_true rfl, Nat.le_of_ble_eq_true rfl⟩ (Nat.le_of_ble_eq_true rfl) (by first | decide | assumption | exact ⟨Nat.le_of_ble_eq_true rfl, rfl⟩) (m_takesNumber g l (rwF F q p u) J hR2 hA3 0 999) ?_
    rintro r S2 (⟨h2, rfl, nx3, tk3, pl3, vl3, rfl, hA4⟩ | ⟨h2, rfl, nx3, tk3, pl3, vl3, rfl⟩)
    · refine ga_ist (p + 6) 147 dX8_readsLine_146 rfl hq10 (nI_add p 6) (by omega) ?_
      refine g_vret dX8_readsLine_147 ?_
      refine ⟨rfl, Or.inl ⟨by rw [e1]; exact h2, upd u 6 (V (pTok (crF K V) (gn c) 3 j).2), ⟨nx3, tk3, pl3, vl3, ?_, ?_⟩, fun i hi => ?_, ?_⟩⟩
      · rw [mt_up hq7, rwF_up _ _ _ _ _ (by decide)]
      · rw [AT_of2 hq8] at hA4 ⊢; rw [e1]; exact hA4
      · rw [e1]; simp only [upd, if_neg (show ¬ i = 6 by omega)]; exact hu i hi
      · rw [e1]; simp only [upd, if_true]; rfl
    · refine ga_ist (p + 6) 147 dX8_readsLine_146 rfl hq10 (nI_add p 6) (by omega) ?_
      refine g_vret dX8_readsLine_147 ?_
      refine ⟨rfl, Or.inr ⟨by rw [e1]; exact h2, upd u 6 0, nx3, tk3, pl3, vl3, ?_⟩⟩
      rw [mt_up hq7, rwF_up _ _ _ _ _ (by decide), e1]
  · have h0 : (pTok (crF K V) (gn c) 3 j).2 = j := by
      by_cases z : K j = 3
      · rw [pTok_p z] at h1; exact Bool.noConfusion h1
      · rw [pTok_n z]
    have e1 : x = (false, (pTok (crF K V) (gn c) 3 j).2, w, 0) := by rw [hx, pDeg, if_neg (by rw [h1]; decide)]
    refine g_aload_n 134 dX8_readsLine_133 rfl rfl ?_
    refine g_iload_n 135 dX8_readsLine_134 rfl rfl ?_
    refine g_bipush (6) 137 dX8_readsLine_135 rfl (by decide) ?_
    refine g_iadd 138 dX8_readsLine_137 rfl ?_
    refine g_aload_n 139 dX8_readsLine_138 rfl rfl ?_
    refine g_iconst (0) 140 dX8_readsLine_139 rfl (by decide) ?_
    refine g_sipush (999) 143 dX8_readsLine_140 rfl (by decide) ?_
    refine g_v2 8 146 dX8_readsLine_143 rfl kl_X8_94 mv_X8_takesNumber rfl ⟨Nat.le_of_ble_eq_true rfl, Nat.le_of_ble_eq_true rfl⟩ (Nat.le_of_ble_eq_true rfl) (by first | decide | assumption | exact ⟨Nat.le_of_ble_eq_true rfl, rfl⟩) (m_takesNumber2 g l _ J _ _ _ _ (hP _ (by rw [h0]; exact hA.1)) _ _) ?_
    rintro _ _ ⟨rfl, rfl⟩
    refine ga_ist (p + 6) 147 dX8_readsLine_146 rfl hq10 (nI_add p 6) (by omega) ?_
    refine g_vret dX8_readsLine_147 ?_
    refine ⟨rfl, Or.inr ⟨by rw [e1], upd u 6 0, nx2, tk2, pl2, vl2, ?_⟩⟩
    rw [mt_up hq7, rwF_up _ _ _ _ _ (by decide), e1]

set_option maxRecDepth 100000 in
set_option maxHeartbeats 4000000 in
theorem rl_ill111 (g : Gl) (l : Launch) {x : Bool × Nat × (Nat → Int32) × Int32} (F : Nat → Nat → Int32) (J : Nat → Int64) {q p : Nat} (hq : q = 170 ∨ q = 171) (hp : p + 7 ≤ ln q) (u : Nat → Int32) (len : Nat) (K V P : Nat → Int32) (c : Nat) (a : Nat → Nat) (nx tk pl vl : Int32) {j : Nat} (hf : ¬ P j < 0) (hx : x.1 = false ∧ x.2.1 = j) (x3 x4 : Option Value) {XX : State → Method → Prop} : Gj g l (rmd 5 0 0) XX (QM g (lnZ x F q p J len K V P c a) 0 0) RX8 cX8_readsLine 5 none 111 [some (.ref 167), some (.ref q), some (.int (nI p)), x3, x4] [] (St (mt (rwF F q p u) nx tk pl vl (P j)) J) 0 0 := by
  refine g_aload_n 112 dX8_readsLine_111 rfl rfl ?_
  refine g_iconst (5) 113 dX8_readsLine_112 rfl (by decide) ?_
  refine g_v1 8 116 dX8_readsLine_113 rfl kl_X8_84 mv_X8_isToken rfl ⟨Nat.le_of_ble_eq_true rfl, Nat.le_of_ble_eq_true rfl⟩ (Nat.le_of_ble_eq_true rfl) (by first | decide | assumption | exact ⟨Nat.le_of_ble_eq_true rfl, rfl⟩) (m_isTok2 g l _ J _ _ _ _ hf _) ?_
  rintro _ _ ⟨rfl, rfl⟩
  refine g_istore_n 117 dX8_readsLine_116 rfl (by decide) ?_
  refine g_iload_n 118 dX8_readsLine_117 rfl rfl ?_
  refine g_if_eq 125 121 dX8_readsLine_118 rfl (by decide) (fun h118 => ?_) (fun h118 => ?_)
  · refine g_goto 22 dX8_readsLine_125 (by decide) ?_
    refine g_iload_n 23 dX8_readsLine_22 rfl rfl ?_
    refine g_if_eq 128 26 dX8_readsLine_23 rfl (by decide) (fun h23 => ?_) (fun h23 => ?_)
    · exact rl_ill g l F J hq hp u len K V P c a nx tk pl vl hf hx _ _
    · exact absurd rfl h23
  · exact absurd rfl h118

set_option maxRecDepth 100000 in
set_option maxHeartbeats 4000000 in
theorem rl_ill53 (g : Gl) (l : Launch) {x : Bool × Nat × (Nat → Int32) × Int32} (F : Nat → Nat → Int32) (J : Nat → Int64) {q p : Nat} (hq : q = 170 ∨ q = 171) (hp : p + 7 ≤ ln q) (u : Nat → Int32) (len : Nat) (K V P : Nat → Int32) (c : Nat) (a : Nat → Nat) (nx tk pl vl : Int32) {j : Nat} (hf : ¬ P j < 0) (hx : x.1 = false ∧ x.2.1 = j) (x3 : Option Value) (wt : Int32) {XX : State → Method → Prop} : Gj g l (rmd 5 0 0) XX (QM g (lnZ x F q p J len K V P c a) 0 0) RX8 cX8_readsLine 5 none 53 [some (.ref 167), some (.ref q), some (.int (nI p)), x3, some (.int wt)] [] (St (mt (rwF F q p u) nx tk pl vl (P j)) J) 0 0 := by
  refine g_aload_n 54 dX8_readsLine_53 rfl rfl ?_
  refine g_bipush (6) 56 dX8_readsLine_54 rfl (by decide) ?_
  refine g_v1 8 59 dX8_readsLine_56 rfl kl_X8_84 mv_X8_isToken rfl ⟨Nat.le_of_ble_eq_true rfl, Nat.le_of_ble_eq_true rfl⟩ (Nat.le_of_ble_eq_true rfl) (by first | decide | assumption | exact ⟨Nat.le_of_ble_eq_true rfl, rfl⟩) (m_isTok2 g l _ J _ _ _ _ hf _) ?_
  rintro _ _ ⟨rfl, rfl⟩
  refine g_if_eq 71 62 dX8_readsLine_59 rfl (by decide) (fun h59 => ?_) (fun h59 => ?_)
  · refine g_aload_n 72 dX8_readsLine_71 rfl rfl ?_
    refine g_iconst (1) 73 dX8_readsLine_72 rfl (by decide) ?_
    refine g_v1 8 76 dX8_readsLine_73 rfl kl_X8_84 mv_X8_isToken rfl ⟨Nat.le_of_ble_eq_true rfl, Nat.le_of_ble_eq_true rfl⟩ (Nat.le_of_ble_eq_true rfl) (by first | decide | assumption | exact ⟨Nat.le_of_ble_eq_true rfl, rfl⟩) (m_isTok2 g l _ J _ _ _ _ hf _) ?_
    rintro _ _ ⟨rfl, rfl⟩
    refine g_if_eq 107 79 dX8_readsLine_76 rfl (by decide) (fun h76 => ?_) (fun h76 => ?_)
    · refine g_aload_n 108 dX8_readsLine_107 rfl rfl ?_
      refine g_v0 8 111 dX8_readsLine_108 rfl kl_X8_91 mv_X8_fails rfl ⟨Nat.le_of_ble_eq_true rfl, Nat.le_of_ble_eq_true rfl⟩ (Nat.le_of_ble_eq_true rfl) (by first | decide | assumption | exact ⟨Nat.le_of_ble_eq_true rfl, rfl⟩) (m_fails2 g l _ J _ _ _ _ hf) ?_
      rintro _ _ ⟨rfl, rfl⟩
      exact rl_ill111 g l F J hq hp u len K V P c a nx tk pl vl hf hx _ _
    · exact absurd rfl h76
  · exact absurd rfl h59

def lnO (K V : Nat → Int32) (c : Nat) (y : Bool × Nat × (Nat → Int32)) : Bool × Nat × (Nat → Int32) × Int32 := if y.1 = true then pDeg (crF K V) (gn c) y.2.2 y.2.1 else (false, y.2.1, y.2.2, 0)
def moT (K V : Nat → Int32) (c n : Nat) (y : Bool × Nat × (Nat → Int32)) : Bool × Nat × (Nat → Int32) := if y.1 = true then (if (pTok (crF K V) (gn c) 4 y.2.1).1 = true then pTerms (crF K V) (gn c) n y.2.2 (pTok (crF K V) (gn c) 4 y.2.1).2 else (true, (pTok (crF K V) (gn c) 4 y.2.1).2, y.2.2)) else (false, y.2.1, y.2.2)
theorem pTerms_s (K V : Nat → Int32) (c n : Nat) (w : Nat → Int32) (j : Nat) : pTerms (crF K V) (gn c) (n + 1) w j = moT K V c n (pTerm (crF K V) (gn c) w j) := by rw [pTerms, moT]
theorem pLine_o (K V : Nat → Int32) (c j : Nat) : pLine (crF K V) (gn c) j = lnO K V c (pTerms (crF K V) (gn c) 7 (fun _ => 0) j) := by rw [pLine, lnO]
theorem gl3_at {g : Gl} {l : Launch} {R : Room} {XX : State → Method → Prop} {QQ : List Frame → Array Value → State → State → Prop} {own : String} {cc : ByteArray} {nL : Nat} {ret : Option FieldType} {pc : Nat} {a b d : Option Value} {L : List (Option Value)} {st : List Value} {S : Sg} {c1 s1 : Nat} {x x2 : Int32} (e : x = x2) (k : Gj g l R XX QQ own cc nL ret pc (a :: b :: d :: some (.int x2) :: L) st S c1 s1) : Gj g l R XX QQ own cc nL ret pc (a :: b :: d :: some (.int x) :: L) st S c1 s1 := e ▸ k
set_option maxRecDepth 100000 in
set_option maxHeartbeats 4000000 in
theorem rl_D (g : Gl) (l : Launch) {x : Bool × Nat × (Nat → Int32) × Int32} (F : Nat → Nat → Int32) (J : Nat → Int64) {len : Nat} {K V P : Nat → Int32} {c : Nat} {a : Nat → Nat} (hR : RD F len K V P c a) {q p : Nat} (hq : q = 170 ∨ q = 171) (hp : p + 7 ≤ ln q) (n : Nat) (u w : Nat → Int32) {j : Nat} {nx tk pl vl : Int32} (hA : AT (bm F len) len K V P c a j nx tk pl vl) {XX : State → Method → Prop} (kk : (∀ (u w : Nat → Int32) (j : Nat) (nx tk pl vl : Int32) (x4 : Option Value), AT (bm F len) len K V P c a j nx tk pl vl → nzs w + n = 7 → (∀ i, i < 6 → u i = w i) → x = lnO K V c (pTerms (crF K V) (gn c) n w j) → Gj g l (rmd 5 0 0) XX (QM g (lnZ x F q p J len K V P c a) 0 0) RX8 cX8_readsLine 5 none 22 [some (.ref 167), some (.ref q), some (.int (nI p)), some (.int 1), x4] [] (St (mt (rwF F q p u) nx tk pl vl (-1)) J) 0 0)) (hn : nzs w + n = 7) (hu : ∀ i, i < 6 → u i = w i) (hx : x = lnO K V c (moT K V c n (true, j, w))) (x3 x4 : Option Value) : Gj g l (rmd 5 0 0) XX (QM g (lnZ x F q p J len K V P c a) 0 0) RX8 cX8_readsLine 5 none 111 [some (.ref 167), some (.ref q), some (.int (nI p)), x3, x4] [] (St (mt (rwF F q p u) nx tk pl vl (-1)) J) 0 0 := by
  have hq10 : q < 174 ∧ sh q = 10 := by rcases hq with h | h <;> subst h <;> decide
  have hq7 : q ≠ 167 := by rcases hq with h | h <;> subst h <;> decide
  have hq8 : q ≠ 168 := by rcases hq with h | h <;> subst h <;> decide
  have hA2 : AT (bm (rwF F q p u) len) len K V P c a j nx tk pl vl := by rw [AT_of2 hq8]; exact hA
  have hR2 := RD_of (F := F) (G := rwF F q p u) (by rw [rwF_ne _ _ _ _ (Ne.symm hq7)]) (rwF_ne _ _ _ _ (Ne.symm hq8)) hR
  have hi := kR_iff hA.2.2.1 (t := 5) (k := 4) (Or.inr (Or.inr (Or.inr (Or.inr (Or.inl ⟨rfl, rfl⟩)))))
  refine g_aload_n 112 dX8_readsLine_111 rfl rfl ?_
  refine g_iconst (5) 113 dX8_readsLine_112 rfl (by decide) ?_
  refine g_v1 8 116 dX8_readsLine_113 rfl kl_X8_84 mv_X8_isToken rfl ⟨Nat.le_of_ble_eq_true rfl, Nat.le_of_ble_eq_true rfl⟩ (Nat.le_of_ble_eq_true rfl) (by first | decide | assumption | exact ⟨Nat.le_of_ble_eq_true rfl, rfl⟩) (m_isTok g l _ J _ _ _ _ _) ?_
  rintro _ _ ⟨rfl, rfl⟩
  refine g_istore_n 117 dX8_readsLine_116 rfl (by decide) ?_
  refine g_iload_n 118 dX8_readsLine_117 rfl rfl ?_
  refine g_if_eq 125 121 dX8_readsLine_118 rfl (by decide) (fun h118 => ?_) (fun h118 => ?_)
  · skip
    refine g_goto 22 dX8_readsLine_125 (by decide) ?_
    have hb0 : (if tk = 5 then (1 : Int32) else 0) = 0 := h118
    refine gl3_at hb0 ?_
    refine g_iload_n 23 dX8_readsLine_22 rfl rfl ?_
    refine g_if_eq 128 26 dX8_readsLine_23 rfl (by decide) (fun h23 => ?_) (fun h23 => ?_)
    · refine rl_end g l F J hR hq hp u w hA hu ?_ _ _
      rw [hx, moT, if_pos rfl, pTok_n (fun z => b10.mp h118 (hi.mpr z)), if_neg (fun z => Bool.noConfusion z), lnO, if_pos rfl]
    · exact absurd h23 (by decide)
  · refine g_aload_n 122 dX8_readsLine_121 rfl rfl ?_
    refine g_v0 8 125 dX8_readsLine_122 rfl kl_X8_88 mv_X8_advances rfl ⟨Nat.le_of_ble_eq_true rfl, Nat.le_of_ble_eq_true rfl⟩ (Nat.le_of_ble_eq_true rfl) (by first | decide | assumption | exact ⟨Nat.le_of_ble_eq_true rfl, rfl⟩) (m_adv g l (rwF F q p u) J hR2 hA2 (by rw [hi.mp (b10n h118)]; decide) (by rw [hi.mp (b10n h118)]; decide) 0) ?_
    rintro _ S2 ⟨rfl, nx2, tk2, pl2, vl2, rfl, hA3⟩
    have hb1 : (if tk = 5 then (1 : Int32) else 0) = 1 := if_pos (by exact hi.mpr (hi.mp (b10n h118)))
    skip
    refine g_goto 22 dX8_readsLine_125 (by decide) ?_
    refine gl3_at hb1 ?_
    rw [AT_of2 hq8] at hA3
    refine kk u w _ _ _ _ _ _ hA3 hn hu ?_
    rw [hx, moT, if_pos rfl, pTok_p (hi.mp (b10n h118)), if_pos rfl]

theorem pTm2_p {K V : Nat → Int32} {c j v : Nat} {w : Nat → Int32} {wt : Int32} (hK : K j = 1) (hV : V j = nI v) (hv : v < 6) (hw : w v = 0) : pTm2 (crF K V) (gn c) w wt j = (true, gn c j, upd w v wt) := by
  have e : (crF K V j).2.toNatClampNeg = v := by show (V j).toNatClampNeg = v; rw [hV]; exact nI_clamp (by omega)
  rw [pTm2, e]
  exact if_pos ⟨hK, by show ¬ V j < 0; rw [hV]; exact nI_pos (by omega), by show ¬ 6 ≤ V j; rw [hV]; exact lt6 hv, hw⟩
theorem pTm2_n {K V : Nat → Int32} {c j : Nat} {w : Nat → Int32} {wt : Int32} (h : ¬ (K j = 1 ∧ w (V j).toNatClampNeg = 0)) : pTm2 (crF K V) (gn c) w wt j = (false, j, w) := by
  rw [pTm2]; exact if_neg (fun z => h ⟨z.1, z.2.2.2⟩)
theorem mt_q {F : Nat → Nat → Int32} {a b c d e : Int32} {q : Nat} (h : q ≠ 167) : mt F a b c d e q = F q := by simp [mt, h]
set_option maxRecDepth 100000 in
set_option maxHeartbeats 4000000 in
theorem rl_C (g : Gl) (l : Launch) {x : Bool × Nat × (Nat → Int32) × Int32} (F : Nat → Nat → Int32) (J : Nat → Int64) {len : Nat} {K V P : Nat → Int32} {c : Nat} {a : Nat → Nat} (hR : RD F len K V P c a) {q p : Nat} (hq : q = 170 ∨ q = 171) (hp : p + 7 ≤ ln q) (n : Nat) (u w : Nat → Int32) {j : Nat} {nx tk pl vl : Int32} (hA : AT (bm F len) len K V P c a j nx tk pl vl) {XX : State → Method → Prop} (kk : (∀ (u w : Nat → Int32) (j : Nat) (nx tk pl vl : Int32) (x4 : Option Value), AT (bm F len) len K V P c a j nx tk pl vl → nzs w + n = 7 → (∀ i, i < 6 → u i = w i) → x = lnO K V c (pTerms (crF K V) (gn c) n w j) → Gj g l (rmd 5 0 0) XX (QM g (lnZ x F q p J len K V P c a) 0 0) RX8 cX8_readsLine 5 none 22 [some (.ref 167), some (.ref q), some (.int (nI p)), some (.int 1), x4] [] (St (mt (rwF F q p u) nx tk pl vl (-1)) J) 0 0)) (hn : nzs w + (n + 1) = 7) (hu : ∀ i, i < 6 → u i = w i) (wt : Int32) (hwt : ¬ wt = 0) (hx : x = lnO K V c (moT K V c n (pTm2 (crF K V) (gn c) w wt j))) (x3 : Option Value) : Gj g l (rmd 5 0 0) XX (QM g (lnZ x F q p J len K V P c a) 0 0) RX8 cX8_readsLine 5 none 71 [some (.ref 167), some (.ref q), some (.int (nI p)), x3, some (.int wt)] [] (St (mt (rwF F q p u) nx tk pl vl (-1)) J) 0 0 := by
  have hq10 : q < 174 ∧ sh q = 10 := by rcases hq with h | h <;> subst h <;> decide
  have hq7 : q ≠ 167 := by rcases hq with h | h <;> subst h <;> decide
  have hq8 : q ≠ 168 := by rcases hq with h | h <;> subst h <;> decide
  have hA2 : AT (bm (rwF F q p u) len) len K V P c a j nx tk pl vl := by rw [AT_of2 hq8]; exact hA
  have hR2 := RD_of (F := F) (G := rwF F q p u) (by rw [rwF_ne _ _ _ _ (Ne.symm hq7)]) (rwF_ne _ _ _ _ (Ne.symm hq8)) hR
  have hi := kR_iff hA.2.2.1 (t := 1) (k := 1) (Or.inl ⟨rfl, rfl⟩)
  refine g_aload_n 72 dX8_readsLine_71 rfl rfl ?_
  refine g_iconst (1) 73 dX8_readsLine_72 rfl (by decide) ?_
  refine g_v1 8 76 dX8_readsLine_73 rfl kl_X8_84 mv_X8_isToken rfl ⟨Nat.le_of_ble_eq_true rfl, Nat.le_of_ble_eq_true rfl⟩ (Nat.le_of_ble_eq_true rfl) (by first | decide | assumption | exact ⟨Nat.le_of_ble_eq_true rfl, rfl⟩) (m_isTok g l _ J _ _ _ _ _) ?_
  rintro _ _ ⟨rfl, rfl⟩
  refine g_if_eq 107 79 dX8_readsLine_76 rfl (by decide) (fun h76 => ?_) (fun h76 => ?_)
  · refine g_aload_n 108 dX8_readsLine_107 rfl rfl ?_
    refine g_v0 8 111 dX8_readsLine_108 rfl kl_X8_91 mv_X8_fails rfl ⟨Nat.le_of_ble_eq_true rfl, Nat.le_of_ble_eq_true rfl⟩ (Nat.le_of_ble_eq_true rfl) (by first | decide | assumption | exact ⟨Nat.le_of_ble_eq_true rfl, rfl⟩) (m_fails g l _ J _ _ _ _) ?_
    rintro _ _ ⟨rfl, rfl⟩
    have hxx : x.1 = false ∧ x.2.1 = j := by rw [hx, pTm2_n (fun z => b10.mp h76 (hi.mpr z.1)), moT, if_neg (fun z => Bool.noConfusion z), lnO, if_neg (fun z => Bool.noConfusion z)]; exact ⟨rfl, rfl⟩
    refine gs_at (congrArg (fun y => St (mt (rwF F q p u) nx tk pl vl y) J) hA.2.1) ?_
    exact rl_ill111 g l F J hq hp u len K V P c a nx tk pl vl (hR.2.2.2.2.2 j hA.1) hxx _ _
  · have hK : K j = 1 := hi.mp (b10n h76)
    have hvl : vl = V j := (kR_m hA.2.2.1).2.2.1 hK
    obtain ⟨v, hv, hV⟩ := (hR.2.2.2.2.1 j hA.1).1 hK
    refine g_aload_n 80 dX8_readsLine_79 rfl rfl ?_
    refine g_iload_n 81 dX8_readsLine_80 rfl rfl ?_
    refine g_aload_n 82 dX8_readsLine_81 rfl rfl ?_
    refine gf_8_6 85 dX8_readsLine_82 rfl kf_X8_74 (by first | decide | assumption | exact ⟨Nat.le_of_ble_eq_true rfl, rfl⟩) ?_
    refine gst_at (x2 := nI v) (show vl = nI v by rw [hvl, hV]) ?_
    refine g_iadd 86 dX8_readsLine_85 rfl ?_
    refine ga_ild (p + v) 87 dX8_readsLine_86 rfl hq10 (nI_add p v) (by omega) ?_
    refine gst_at (show mt (rwF F q p u) nx tk pl vl (-1) q (p + v) = w v by rw [mt_q hq7, rwF_in _ _ _ _ (by omega), hu v hv]) ?_
    refine g_if_ne 107 90 dX8_readsLine_87 rfl (by decide) (fun h87 => ?_) (fun h87 => ?_)
    · refine g_aload_n 108 dX8_readsLine_107 rfl rfl ?_
      refine g_v0 8 111 dX8_readsLine_108 rfl kl_X8_91 mv_X8_fails rfl ⟨Nat.le_of_ble_eq_true rfl, Nat.le_of_ble_eq_true rfl⟩ (Nat.le_of_ble_eq_true rfl) (by first | decide | assumption | exact ⟨Nat.le_of_ble_eq_true rfl, rfl⟩) (m_fails g l _ J _ _ _ _) ?_
      rintro _ _ ⟨rfl, rfl⟩
      have hxx : x.1 = false ∧ x.2.1 = j := by rw [hx, pTm2_n (fun z => h87 (by have := z.2; rw [hV, nI_clamp (by omega)] at this; exact this)), moT, if_neg (fun z => Bool.noConfusion z), lnO, if_neg (fun z => Bool.noConfusion z)]; exact ⟨rfl, rfl⟩
      refine gs_at (congrArg (fun y => St (mt (rwF F q p u) nx tk pl vl y) J) hA.2.1) ?_
      exact rl_ill111 g l F J hq hp u len K V P c a nx tk pl vl (hR.2.2.2.2.2 j hA.1) hxx _ _
    · refine g_aload_n 91 dX8_readsLine_90 rfl rfl ?_
      refine g_iload_n 92 dX8_readsLine_91 rfl rfl ?_
      refine g_aload_n 93 dX8_readsLine_92 rfl rfl ?_
      refine gf_8_6 96 dX8_readsLine_93 rfl kf_X8_74 (by first | decide | assumption | exact ⟨Nat.le_of_ble_eq_true rfl, rfl⟩) ?_
      refine gst_at (x2 := nI v) (show vl = nI v by rw [hvl, hV]) ?_
      refine g_iadd 97 dX8_readsLine_96 rfl ?_
      refine g_iload 99 dX8_readsLine_97 rfl rfl ?_
      refine ga_ist (p + v) 100 dX8_readsLine_99 rfl hq10 (nI_add p v) (by omega) ?_
      refine gs_at (congrArg (fun x => St x J) (mt_up hq7)) ?_
      refine gs_at (congrArg (fun x => St (mt x nx tk pl vl (-1)) J) (rwF_up F q p u wt (by omega))) ?_
      have hA3 : AT (bm (rwF F q p (upd u v wt)) len) len K V P c a j nx tk pl vl := by rw [AT_of2 hq8]; exact hA
      have hR3 := RD_of (F := F) (G := rwF F q p (upd u v wt)) (by rw [rwF_ne _ _ _ _ (Ne.symm hq7)]) (rwF_ne _ _ _ _ (Ne.symm hq8)) hR
      refine g_aload_n 101 dX8_readsLine_100 rfl rfl ?_
      refine g_v0 8 104 dX8_readsLine_101 rfl kl_X8_88 mv_X8_advances rfl ⟨Nat.le_of_ble_eq_true rfl, Nat.le_of_ble_eq_true rfl⟩ (Nat.le_of_ble_eq_true rfl) (by first | decide | assumption | exact ⟨Nat.le_of_ble_eq_true rfl, rfl⟩) (m_adv g l (rwF F q p (upd u v wt)) J hR3 hA3 (by rw [hK]; decide) (by rw [hK]; decide) 0) ?_
      rintro _ S2 ⟨rfl, nx2, tk2, pl2, vl2, rfl, hA4⟩
      refine g_goto 111 dX8_readsLine_104 (by decide) ?_
      rw [AT_of2 hq8] at hA4
      refine rl_D g l F J hR hq hp n (upd u v wt) (upd w v wt) hA4 kk (by rw [nzs_up hv h87 hwt]; omega) (fun i hi => ?_) (by rw [hx, pTm2_p hK hV hv h87]) _ _
      simp only [upd]; split
      · rfl
      · exact hu i hi

set_option maxRecDepth 100000 in
set_option maxHeartbeats 4000000 in
theorem rl_B (g : Gl) (l : Launch) {x : Bool × Nat × (Nat → Int32) × Int32} (F : Nat → Nat → Int32) (J : Nat → Int64) {len : Nat} {K V P : Nat → Int32} {c : Nat} {a : Nat → Nat} (hR : RD F len K V P c a) {q p : Nat} (hq : q = 170 ∨ q = 171) (hp : p + 7 ≤ ln q) (n : Nat) (u w : Nat → Int32) {j : Nat} {nx tk pl vl : Int32} (hA : AT (bm F len) len K V P c a j nx tk pl vl) {XX : State → Method → Prop} (kk : (∀ (u w : Nat → Int32) (j : Nat) (nx tk pl vl : Int32) (x4 : Option Value), AT (bm F len) len K V P c a j nx tk pl vl → nzs w + n = 7 → (∀ i, i < 6 → u i = w i) → x = lnO K V c (pTerms (crF K V) (gn c) n w j) → Gj g l (rmd 5 0 0) XX (QM g (lnZ x F q p J len K V P c a) 0 0) RX8 cX8_readsLine 5 none 22 [some (.ref 167), some (.ref q), some (.int (nI p)), some (.int 1), x4] [] (St (mt (rwF F q p u) nx tk pl vl (-1)) J) 0 0)) (hn : nzs w + (n + 1) = 7) (hu : ∀ i, i < 6 → u i = w i) (wt : Int32) (hwt : ¬ wt = 0) (hx : x = lnO K V c (moT K V c n (pTm2 (crF K V) (gn c) w (if (pTok (crF K V) (gn c) 5 j).1 = true then -wt else wt) (pTok (crF K V) (gn c) 5 j).2))) (x3 : Option Value) : Gj g l (rmd 5 0 0) XX (QM g (lnZ x F q p J len K V P c a) 0 0) RX8 cX8_readsLine 5 none 53 [some (.ref 167), some (.ref q), some (.int (nI p)), x3, some (.int wt)] [] (St (mt (rwF F q p u) nx tk pl vl (-1)) J) 0 0 := by
  have hq10 : q < 174 ∧ sh q = 10 := by rcases hq with h | h <;> subst h <;> decide
  have hq7 : q ≠ 167 := by rcases hq with h | h <;> subst h <;> decide
  have hq8 : q ≠ 168 := by rcases hq with h | h <;> subst h <;> decide
  have hA2 : AT (bm (rwF F q p u) len) len K V P c a j nx tk pl vl := by rw [AT_of2 hq8]; exact hA
  have hR2 := RD_of (F := F) (G := rwF F q p u) (by rw [rwF_ne _ _ _ _ (Ne.symm hq7)]) (rwF_ne _ _ _ _ (Ne.symm hq8)) hR
  have hi := kR_iff hA.2.2.1 (t := 6) (k := 5) (Or.inr (Or.inr (Or.inr (Or.inr (Or.inr (Or.inl ⟨rfl, rfl⟩))))))
  refine g_aload_n 54 dX8_readsLine_53 rfl rfl ?_
  refine g_bipush (6) 56 dX8_readsLine_54 rfl (by decide) ?_
  refine g_v1 8 59 dX8_readsLine_56 rfl kl_X8_84 mv_X8_isToken rfl ⟨Nat.le_of_ble_eq_true rfl, Nat.le_of_ble_eq_true rfl⟩ (Nat.le_of_ble_eq_true rfl) (by first | decide | assumption | exact ⟨Nat.le_of_ble_eq_true rfl, rfl⟩) (m_isTok g l _ J _ _ _ _ _) ?_
  rintro _ _ ⟨rfl, rfl⟩
  refine g_if_eq 71 62 dX8_readsLine_59 rfl (by decide) (fun h59 => ?_) (fun h59 => ?_)
  · refine rl_C g l F J hR hq hp n u w hA kk hn hu wt hwt ?_ _
    rw [hx, pTok_n (fun z => b10.mp h59 (hi.mpr z)), if_neg (fun z => Bool.noConfusion z)]
  · refine g_iload 64 dX8_readsLine_62 rfl rfl ?_
    refine g_ineg 65 dX8_readsLine_64 rfl ?_
    refine g_istore 67 dX8_readsLine_65 rfl (by decide) ?_
    refine g_aload_n 68 dX8_readsLine_67 rfl rfl ?_
    refine g_v0 8 71 dX8_readsLine_68 rfl kl_X8_88 mv_X8_advances rfl ⟨Nat.le_of_ble_eq_true rfl, Nat.le_of_ble_eq_true rfl⟩ (Nat.le_of_ble_eq_true rfl) (by first | decide | assumption | exact ⟨Nat.le_of_ble_eq_true rfl, rfl⟩) (m_adv g l (rwF F q p u) J hR2 hA2 (by rw [hi.mp (b10n h59)]; decide) (by rw [hi.mp (b10n h59)]; decide) 0) ?_
    rintro _ S2 ⟨rfl, nx2, tk2, pl2, vl2, rfl, hA3⟩
    rw [AT_of2 hq8] at hA3
    refine rl_C g l F J hR hq hp n u w hA3 kk hn hu (-wt) (fun z => hwt (by rw [← ngng wt, z]; rfl)) ?_ _
    rw [hx, pTok_p (hi.mp (b10n h59)), if_pos rfl]

set_option maxRecDepth 100000 in
set_option maxHeartbeats 4000000 in
theorem rl_A (g : Gl) (l : Launch) {x : Bool × Nat × (Nat → Int32) × Int32} (F : Nat → Nat → Int32) (J : Nat → Int64) {len : Nat} {K V P : Nat → Int32} {c : Nat} {a : Nat → Nat} (hR : RD F len K V P c a) {q p : Nat} (hq : q = 170 ∨ q = 171) (hp : p + 7 ≤ ln q) (n : Nat) (u w : Nat → Int32) {j : Nat} {nx tk pl vl : Int32} (hA : AT (bm F len) len K V P c a j nx tk pl vl) {XX : State → Method → Prop} (kk : (∀ (u w : Nat → Int32) (j : Nat) (nx tk pl vl : Int32) (x4 : Option Value), AT (bm F len) len K V P c a j nx tk pl vl → nzs w + n = 7 → (∀ i, i < 6 → u i = w i) → x = lnO K V c (pTerms (crF K V) (gn c) n w j) → Gj g l (rmd 5 0 0) XX (QM g (lnZ x F q p J len K V P c a) 0 0) RX8 cX8_readsLine 5 none 22 [some (.ref 167), some (.ref q), some (.int (nI p)), some (.int 1), x4] [] (St (mt (rwF F q p u) nx tk pl vl (-1)) J) 0 0)) (hn : nzs w + (n + 1) = 7) (hu : ∀ i, i < 6 → u i = w i) (hx : x = lnO K V c (moT K V c n (pTerm (crF K V) (gn c) w j))) (x3 x4 : Option Value) : Gj g l (rmd 5 0 0) XX (QM g (lnZ x F q p J len K V P c a) 0 0) RX8 cX8_readsLine 5 none 33 [some (.ref 167), some (.ref q), some (.int (nI p)), x3, x4] [] (St (mt (rwF F q p u) nx tk pl vl (-1)) J) 0 0 := by
  have hq10 : q < 174 ∧ sh q = 10 := by rcases hq with h | h <;> subst h <;> decide
  have hq7 : q ≠ 167 := by rcases hq with h | h <;> subst h <;> decide
  have hq8 : q ≠ 168 := by rcases hq with h | h <;> subst h <;> decide
  have hA2 : AT (bm (rwF F q p u) len) len K V P c a j nx tk pl vl := by rw [AT_of2 hq8]; exact hA
  have hR2 := RD_of (F := F) (G := rwF F q p u) (by rw [rwF_ne _ _ _ _ (Ne.symm hq7)]) (rwF_ne _ _ _ _ (Ne.symm hq8)) hR
  have hi := kR_iff hA.2.2.1 (t := 3) (k := 2) (Or.inr (Or.inr (Or.inl ⟨rfl, rfl⟩)))
  refine g_iconst (1) 34 dX8_readsLine_33 rfl (by decide) ?_
  refine g_istore 36 dX8_readsLine_34 rfl (by decide) ?_
  refine g_aload_n 37 dX8_readsLine_36 rfl rfl ?_
  refine g_iconst (3) 38 dX8_readsLine_37 rfl (by decide) ?_
  refine g_v1 8 41 dX8_readsLine_38 rfl kl_X8_84 mv_X8_isToken rfl ⟨Nat.le_of_ble_eq_true rfl, Nat.le_of_ble_eq_true rfl⟩ (Nat.le_of_ble_eq_true rfl) (by first | decide | assumption | exact ⟨Nat.le_of_ble_eq_true rfl, rfl⟩) (m_isTok g l _ J _ _ _ _ _) ?_
  rintro _ _ ⟨rfl, rfl⟩
  refine g_if_eq 53 44 dX8_readsLine_41 rfl (by decide) (fun h41 => ?_) (fun h41 => ?_)
  · have hK : ¬ K j = 2 := fun z => b10.mp h41 (hi.mpr z)
    have e1 : pTm1 (crF K V) (gn c) j = (true, j) := by rw [pTm1]; exact if_neg hK
    have e2 : pTmW (crF K V) j = 1 := by rw [pTmW]; exact if_neg hK
    refine rl_B g l F J hR hq hp n u w hA kk hn hu 1 (by decide) ?_ _
    rw [hx, pTerm, e1, e2, if_pos rfl]
  · have hK : K j = 2 := hi.mp (b10n h41)
    have e1 : pTm1 (crF K V) (gn c) j = pNum (crF K V) (gn c) 1 99 j := by rw [pTm1]; exact if_pos hK
    have e2 : pTmW (crF K V) j = V j := by rw [pTmW]; exact if_pos hK
    refine g_aload_n 45 dX8_readsLine_44 rfl rfl ?_
    refine g_iconst (1) 46 dX8_readsLine_45 rfl (by decide) ?_
    refine g_bipush (99) 48 dX8_readsLine_46 rfl (by decide) ?_
    refine g_v2 8 51 dX8_readsLine_48 rfl kl_X8_94 mv_X8_takesNumber rfl ⟨Nat.le_of_ble_eq_true rfl, Nat.le_of_ble_eq_true rfl⟩ (Nat.le_of_ble_eq_true rfl) (by first | decide | assumption | exact ⟨Nat.le_of_ble_eq_true rfl, rfl⟩) (m_takesNumber g l (rwF F q p u) J hR2 hA2 1 99) ?_
    rintro r S2 (⟨h1, rfl, nx2, tk2, pl2, vl2, rfl, hA3⟩ | ⟨h1, rfl, nx2, tk2, pl2, vl2, rfl⟩)
    · refine g_istore 53 dX8_readsLine_51 rfl (by decide) ?_
      have hnz := pNum_y h1
      refine rl_B g l F J hR hq hp n u w (by rw [AT_of2 hq8] at hA3; exact hA3) kk hn hu (V j) (fun z => hnz.1 (by rw [z]; decide)) ?_ _
      rw [hx, pTerm, e1, e2, if_pos h1]
    · refine g_istore 53 dX8_readsLine_51 rfl (by decide) ?_
      have hj2 : (pNum (crF K V) (gn c) 1 99 j).2 = j := by
        by_cases z : K j = 2 ∧ ¬ V j < 1 ∧ V j ≤ 99
        · rw [pNum_p z] at h1; exact Bool.noConfusion h1
        · rw [pNum_n z]
      rw [hj2]
      refine rl_ill53 g l F J hq hp u len K V P c a nx2 tk2 pl2 vl2 (hR.2.2.2.2.2 j hA.1) ?_ _ _
      rw [hx, pTerm, e1, if_neg (by rw [h1]; exact Bool.false_ne_true), moT, if_neg (fun z => Bool.noConfusion z), lnO, if_neg (fun z => Bool.noConfusion z)]
      exact ⟨rfl, hj2⟩

set_option maxRecDepth 100000 in
set_option maxHeartbeats 4000000 in
theorem rl_terms (g : Gl) (l : Launch) {x : Bool × Nat × (Nat → Int32) × Int32} (F : Nat → Nat → Int32) (J : Nat → Int64) {len : Nat} {K V P : Nat → Int32} {c : Nat} {a : Nat → Nat} (hR : RD F len K V P c a) {q p : Nat} (hq : q = 170 ∨ q = 171) (hp : p + 7 ≤ ln q) {XX : State → Method → Prop} (n : Nat) : ∀ (u w : Nat → Int32) (j : Nat) (nx tk pl vl : Int32) (x4 : Option Value), AT (bm F len) len K V P c a j nx tk pl vl → nzs w + n = 7 → (∀ i, i < 6 → u i = w i) → x = lnO K V c (pTerms (crF K V) (gn c) n w j) → Gj g l (rmd 5 0 0) XX (QM g (lnZ x F q p J len K V P c a) 0 0) RX8 cX8_readsLine 5 none 22 [some (.ref 167), some (.ref q), some (.int (nI p)), some (.int 1), x4] [] (St (mt (rwF F q p u) nx tk pl vl (-1)) J) 0 0 := by
  induction n with
  | zero =>
    intro u w j nx tk pl vl x4 hA hn hu hx
    have := nzs_le w
    omega
  | succ n ih =>
    intro u w j nx tk pl vl x4 hA hn hu hx
    refine g_iload_n 23 dX8_readsLine_22 rfl rfl ?_
    refine g_if_eq 128 26 dX8_readsLine_23 rfl (by decide) (fun h23 => ?_) (fun h23 => ?_)
    · exact absurd h23 (by decide)
    · refine g_aload_n 27 dX8_readsLine_26 rfl rfl ?_
      refine g_v0 8 30 dX8_readsLine_27 rfl kl_X8_80 mv_X8_isWell rfl ⟨Nat.le_of_ble_eq_true rfl, Nat.le_of_ble_eq_true rfl⟩ (Nat.le_of_ble_eq_true rfl) (by first | decide | assumption | exact ⟨Nat.le_of_ble_eq_true rfl, rfl⟩) (m_well g l _ J _ _ _ _) ?_
      rintro _ _ ⟨rfl, rfl⟩
      refine g_if_eq 128 33 dX8_readsLine_30 rfl (by decide) (fun h30 => ?_) (fun h30 => ?_)
      · exact absurd h30 (by decide)
      · refine rl_A g l F J hR hq hp n u w hA ih hn hu ?_ _ _
        rw [hx, pTerms_s]

set_option maxRecDepth 100000 in
set_option maxHeartbeats 4000000 in
theorem m_readsLine (g : Gl) (l : Launch) (F : Nat → Nat → Int32) (J : Nat → Int64) {len : Nat} {K V P : Nat → Int32} {c : Nat} {a : Nat → Nat} (hR : RD F len K V P c a) {q p : Nat} (hq : q = 170 ∨ q = 171) (hp : p + 7 ≤ ln q) {j : Nat} {nx tk pl vl : Int32} (hA : AT (bm F len) len K V P c a j nx tk pl vl) : Ct g l yX8_readsLine cX8_readsLine 5 none 5 0 0 [.ref 167, .ref q, .int (nI p)] (St (mt F nx tk pl vl (-1)) J) (lnZ (pLine (crF K V) (gn c) j) F q p J len K V P c a) := by
  refine Ct.of rfl (by decide) rfl (Nat.le_of_ble_eq_true rfl) ?_
  refine g_iconst (0) 1 dX8_readsLine_0 rfl (by decide) ?_
  refine g_istore_n 2 dX8_readsLine_1 rfl (by decide) ?_
  have h0 : F = rwF F q p (pre7 (fun _ => 0) (fun j => F q (p + j)) 0) := by rw [pre7_0]; exact rwF_id F q p
  refine gs_at (congrArg (fun x => St (mt x nx tk pl vl (-1)) J) h0) ?_
  refine lm_zero g l F J hq hp (fun j => F q (p + j)) nx tk pl vl _ 7 0 _ rfl rfl (fun x3 => ?_)
  refine g_iconst (1) 21 dX8_readsLine_20 rfl (by decide) ?_
  refine g_istore_n 22 dX8_readsLine_21 rfl (by decide) ?_
  exact rl_terms g l F J hR hq hp 7 (fun _ => 0) (fun _ => 0) j nx tk pl vl _ hA rfl (fun _ _ => rfl) (pLine_o K V c j)

