/-! the reference: a step is read -/
def kpT (F F2 : Nat → Nat → Int32) (i : Nat) : Prop := (∀ q, q ≠ 171 → F2 q = F q) ∧ ∀ b, (b < 10 * i ∨ 10 * i + 10 ≤ b) → F2 171 b = F 171 b
theorem kpT_r (F : Nat → Nat → Int32) (i : Nat) : kpT F F i := ⟨fun _ _ => rfl, fun _ _ => rfl⟩
theorem kpT_up {F F2 : Nat → Nat → Int32} {i : Nat} (h : kpT F F2 i) (b : Nat) (hb : b < 10) (x : Int32) : kpT F (up2 F2 171 (10 * i + b) x) i := by
  refine ⟨fun q hq => by rw [up2_ne _ _ _ hq, h.1 q hq], fun e he => ?_⟩
  simp only [up2, if_true, upd]
  rw [if_neg (by omega)]; exact h.2 e he
theorem kpT_rw {F F2 : Nat → Nat → Int32} {i : Nat} (h : kpT F F2 i) (u : Nat → Int32) : kpT F (rwF F2 171 (10 * i + 3) u) i := by
  refine ⟨fun q hq => by rw [rwF_ne _ _ _ _ hq, h.1 q hq], fun e he => ?_⟩
  rw [rwF_out _ _ _ _ (by omega)]; exact h.2 e he
theorem kpT_RD {F F2 : Nat → Nat → Int32} {i : Nat} (h : kpT F F2 i) {len : Nat} {K V P : Nat → Int32} {c : Nat} {a : Nat → Nat} (hR : RD F len K V P c a) : RD F2 len K V P c a := RD_of (by rw [h.1 167 (by decide)]) (h.1 168 (by decide)) hR
theorem kpT_AT {F F2 : Nat → Nat → Int32} {i : Nat} (h : kpT F F2 i) {len : Nat} {K V P : Nat → Int32} {c : Nat} {a : Nat → Nat} {j : Nat} {nx tk pl vl : Int32} : AT (bm F2 len) len K V P c a j nx tk pl vl = AT (bm F len) len K V P c a j nx tk pl vl := AT_k (h.1 168 (by decide))
/-- the row of a step, in the words of the class -/
def stR (F : Nat → Nat → Int32) (i : Nat) (q : P5) : Prop := F 171 (10 * i + 0) + 1 = q.1 ∧ ((q.1 = 1 ∨ q.1 = 2 ∨ q.1 = 3 ∨ q.1 = 4 ∨ q.1 = 5) → F 171 (10 * i + 1) = q.2.1) ∧ ((q.1 = 1 ∨ q.1 = 2 ∨ q.1 = 3 ∨ q.1 = 5 ∨ q.1 = 6 ∨ q.1 = 7) → F 171 (10 * i + 2) = q.2.2.1) ∧ (q.1 = 8 → (∀ j, j < 6 → F 171 (10 * i + 3 + j) = q.2.2.2.1 j) ∧ F 171 (10 * i + 3 + 6) = q.2.2.2.2)
abbrev Y6 : Type := Bool × Nat × Int32 × Int32 × (Nat → Int32) × Int32
def rsZ' (y : Y6) (kd : Int32) (F : Nat → Nat → Int32) (i : Nat) (J : Nat → Int64) (len : Nat) (K V P : Nat → Int32) (c : Nat) (a : Nat → Nat) : Option Value → Sg → Prop := fun r S2 => r = none ∧
  ((y.1 = true ∧ (pTok (crF K V) (gn c) 6 y.2.1).1 = true ∧ ∃ F2, MSt F2 J len K V P c a (pTok (crF K V) (gn c) 6 y.2.1).2 S2 ∧ kpT F F2 i ∧ stR F2 i (kd, y.2.2.1, y.2.2.2.1, y.2.2.2.2.1, y.2.2.2.2.2)) ∨
   (y.1 = true ∧ (pTok (crF K V) (gn c) 6 y.2.1).1 = false ∧ ∃ F2, MBd F2 J P (pTok (crF K V) (gn c) 6 y.2.1).2 S2 ∧ kpT F F2 i) ∨ (y.1 = false ∧ ∃ F2, MBd F2 J P y.2.1 S2 ∧ kpT F F2 i))
set_option maxRecDepth 100000 in
set_option maxHeartbeats 4000000 in
theorem rs_stop (g : Gl) (l : Launch) {y : Y6} {kd : Int32} {i : Nat} (hi : i < 24) (F : Nat → Nat → Int32) (J : Nat → Int64) {len : Nat} {K V P : Nat → Int32} {c : Nat} {a : Nat → Nat} (hR : RD F len K V P c a) {F1 : Nat → Nat → Int32} (hk : kpT F F1 i) {nx tk pl vl : Int32} (hA : AT (bm F len) len K V P c a y.2.1 nx tk pl vl) (hy : y.1 = true) (hs : stR F1 i (kd, y.2.2.1, y.2.2.2.1, y.2.2.2.2.1, y.2.2.2.2.2)) (x3 : Option Value) {XX : State → Method → Prop} : Gj g l (rmd 6 0 0) XX (QM g (rsZ' y kd F i J len K V P c a) 0 0) RX8 cX8_readsStep 4 none 173 [some (.ref 167), some (.int (nI i)), some (.int (10 * nI i)), x3] [] (St (mt F1 nx tk pl vl (-1)) J) 0 0 := by
  have hR1 := kpT_RD hk hR
  have hA1 : AT (bm F1 len) len K V P c a y.2.1 nx tk pl vl := by rw [kpT_AT hk]; exact hA
  refine g_aload_n 174 dX8_readsStep_173 rfl rfl ?_
  refine g_bipush (7) 176 dX8_readsStep_174 rfl (by decide) ?_
  refine g_v1 8 179 dX8_readsStep_176 rfl kl_X8_98 mv_X8_takes rfl ⟨Nat.le_of_ble_eq_true rfl, Nat.le_of_ble_eq_true rfl⟩ (Nat.le_of_ble_eq_true rfl) (by first | decide | assumption | exact ⟨Nat.le_of_ble_eq_true rfl, rfl⟩) (m_takes g l F1 J hR1 hA1 (t := 7) (k := 6) (Or.inr (Or.inr (Or.inr (Or.inr (Or.inr (Or.inr (Or.inl ⟨rfl, rfl⟩))))))) (by decide)) ?_
  rintro r S2 (⟨h2, rfl, hM⟩ | ⟨h2, rfl, hM⟩)
  · refine g_vret dX8_readsStep_179 ?_
    exact ⟨rfl, Or.inl ⟨hy, h2, F1, hM, hk, hs⟩⟩
  · refine g_vret dX8_readsStep_179 ?_
    exact ⟨rfl, Or.inr (Or.inl ⟨hy, h2, F1, hM, hk⟩)⟩

set_option maxRecDepth 100000 in
set_option maxHeartbeats 4000000 in
theorem rs_ill (g : Gl) (l : Launch) {y : Y6} {kd : Int32} {i : Nat} (hi : i < 24) (F : Nat → Nat → Int32) (J : Nat → Int64) (len : Nat) (K V P : Nat → Int32) (c : Nat) (a : Nat → Nat) {F1 : Nat → Nat → Int32} (hk : kpT F F1 i) (nx tk pl vl : Int32) (hf : ¬ P y.2.1 < 0) (hy : y.1 = false) (x3 : Option Value) {XX : State → Method → Prop} : Gj g l (rmd 6 0 0) XX (QM g (rsZ' y kd F i J len K V P c a) 0 0) RX8 cX8_readsStep 4 none 173 [some (.ref 167), some (.int (nI i)), some (.int (10 * nI i)), x3] [] (St (mt F1 nx tk pl vl (P y.2.1)) J) 0 0 := by
  refine g_aload_n 174 dX8_readsStep_173 rfl rfl ?_
  refine g_bipush (7) 176 dX8_readsStep_174 rfl (by decide) ?_
  refine g_v1 8 179 dX8_readsStep_176 rfl kl_X8_98 mv_X8_takes rfl ⟨Nat.le_of_ble_eq_true rfl, Nat.le_of_ble_eq_true rfl⟩ (Nat.le_of_ble_eq_true rfl) (by first | decide | assumption | exact ⟨Nat.le_of_ble_eq_true rfl, rfl⟩) (m_takes2 g l F1 J _ _ _ _ hf _) ?_
  rintro _ _ ⟨rfl, rfl⟩
  refine g_vret dX8_readsStep_179 ?_
  exact ⟨rfl, Or.inr (Or.inr ⟨hy, F1, ⟨nx, tk, pl, vl, rfl⟩, hk⟩)⟩

theorem pNum_f {K V : Nat → Int32} {c j : Nat} {lo hi : Int32} (h : (pNum (crF K V) (gn c) lo hi j).1 = false) : (pNum (crF K V) (gn c) lo hi j).2 = j := by
  by_cases z : K j = 2 ∧ ¬ V j < lo ∧ V j ≤ hi
  · rw [pNum_p z] at h; exact Bool.noConfusion h
  · rw [pNum_n z]
theorem pTok_f {K V : Nat → Int32} {c j : Nat} {k : Int32} (h : (pTok (crF K V) (gn c) k j).1 = false) : (pTok (crF K V) (gn c) k j).2 = j := by
  by_cases z : K j = k
  · rw [pTok_p z] at h; exact Bool.noConfusion h
  · rw [pTok_n z]
theorem up_at (F : Nat → Nat → Int32) (k b : Nat) (x : Int32) (e : Nat) : up2 F k b x k e = if e = b then x else F k e := by simp [up2, upd]
set_option maxRecDepth 100000 in
set_option maxHeartbeats 4000000 in
theorem rs_k1 (g : Gl) (l : Launch) (F : Nat → Nat → Int32) (J : Nat → Int64) {len : Nat} {K V P : Nat → Int32} {c : Nat} {a : Nat → Nat} (hR : RD F len K V P c a) {G i : Nat} (hi : i < 24) (hG : F 167 9 = nI G) {F1 : Nat → Nat → Int32} (hk : kpT F F1 i) (h0 : F1 171 (10 * i + 0) = 0) {j : Nat} {nx tk pl vl : Int32} (hA : AT (bm F len) len K V P c a j nx tk pl vl) {Q1 Q2 : Int32} {Q3 : Nat → Int32} {Q4 : Int32} {XX : State → Method → Prop} : Gj g l (rmd 6 0 0) XX (QM g (rsZ' (pArg (crF K V) (gn c) 1 (nI G + nI i) j Q1 Q2 Q3 Q4) 1 F i J len K V P c a) 0 0) RX8 cX8_readsStep 4 none 34 [some (.ref 167), some (.int (nI i)), some (.int (10 * nI i)), some (.int 0)] [] (St (mt F1 nx tk pl vl (-1)) J) 0 0 := by
  have hR1 := kpT_RD hk hR
  have hA1 : AT (bm F1 len) len K V P c a j nx tk pl vl := by rw [kpT_AT hk]; exact hA
  have hP := hR.2.2.2.2.2
  refine g_iload_n 35 dX8_readsStep_34 rfl rfl ?_
  refine g_iconst (5) 36 dX8_readsStep_35 rfl (by decide) ?_
  refine g_icmp_ge 60 39 dX8_readsStep_36 rfl (by decide) (fun h36 => ?_) (fun h36 => ?_)
  · exact absurd h36 (by decide)
  · refine g_aload_n 40 dX8_readsStep_39 rfl rfl ?_
    refine gf_8_15 43 dX8_readsStep_40 rfl kf_X8_26 ?_
    refine g_iload_n 44 dX8_readsStep_43 rfl rfl ?_
    refine g_iconst (1) 45 dX8_readsStep_44 rfl (by decide) ?_
    refine g_iadd 46 dX8_readsStep_45 rfl ?_
    refine g_aload_n 47 dX8_readsStep_46 rfl rfl ?_
    refine g_iconst (0) 48 dX8_readsStep_47 rfl (by decide) ?_
    refine g_aload_n 49 dX8_readsStep_48 rfl rfl ?_
    refine gf_8_9 52 dX8_readsStep_49 rfl kf_X8_106 (by first | decide | assumption | exact ⟨Nat.le_of_ble_eq_true rfl, rfl⟩) ?_
    refine g_iload_n 53 dX8_readsStep_52 rfl rfl ?_
    refine g_iadd 54 dX8_readsStep_53 rfl ?_
    refine g_iconst (1) 55 dX8_readsStep_54 rfl (by decide) ?_
    refine g_isub 56 dX8_readsStep_55 rfl ?_
    refine gst_at (show mt F1 _ _ _ _ _ 167 9 + nI i - 1 = nI G + nI i - 1 from congrArg (fun z => z + nI i - 1) ((congrFun (hk.1 167 (by decide)) 9).trans hG)) ?_
    refine g_v2 8 59 dX8_readsStep_56 rfl kl_X8_94 mv_X8_takesNumber rfl ⟨Nat.le_of_ble_eq_true rfl, Nat.le_of_ble_eq_true rfl⟩ (Nat.le_of_ble_eq_true rfl) (by first | decide | assumption | exact ⟨Nat.le_of_ble_eq_true rfl, rfl⟩) (m_takesNumber g l F1 J hR1 hA1 0 (nI G + nI i - 1)) ?_
    rintro r S2 (⟨h1, rfl, nx2, tk2, pl2, vl2, rfl, hA2⟩ | ⟨h1, rfl, nx2, tk2, pl2, vl2, rfl⟩)
    · refine ga_ist (10 * i + 1) 60 dX8_readsStep_59 rfl (by first | decide | assumption | exact ⟨Nat.le_of_ble_eq_true rfl, rfl⟩) (ix10 i 1) (show 10 * i + 1 < 240 by omega) ?_
      refine gs_at (congrArg (fun x => St x J) (mt_up (by decide))) ?_
      have hk2 : kpT F (up2 F1 171 (10 * i + 1) (V j)) i := kpT_up hk 1 (by decide) (V j)
      have hR2 := kpT_RD hk2 hR
      have hA3 : AT (bm (up2 F1 171 (10 * i + 1) (V j)) len) len K V P c a (pNum (crF K V) (gn c) 0 (nI G + nI i - 1) j).2 nx2 tk2 pl2 vl2 := by rw [kpT_AT hk2, ← kpT_AT hk]; exact hA2
      refine g_iload_n 61 dX8_readsStep_60 rfl rfl ?_
      refine g_if_ne 88 64 dX8_readsStep_61 rfl (by decide) (fun h61 => ?_) (fun h61 => ?_)
      · exact absurd h61 (by decide)
      · refine g_aload_n 65 dX8_readsStep_64 rfl rfl ?_
        refine gf_8_15 68 dX8_readsStep_65 rfl kf_X8_26 ?_
        refine g_iload_n 69 dX8_readsStep_68 rfl rfl ?_
        refine g_iconst (2) 70 dX8_readsStep_69 rfl (by decide) ?_
        refine g_iadd 71 dX8_readsStep_70 rfl ?_
        refine g_aload_n 72 dX8_readsStep_71 rfl rfl ?_
        refine g_iconst (0) 73 dX8_readsStep_72 rfl (by decide) ?_
        refine g_aload_n 74 dX8_readsStep_73 rfl rfl ?_
        refine gf_8_9 77 dX8_readsStep_74 rfl kf_X8_106 (by first | decide | assumption | exact ⟨Nat.le_of_ble_eq_true rfl, rfl⟩) ?_
        refine g_iload_n 78 dX8_readsStep_77 rfl rfl ?_
        refine g_iadd 79 dX8_readsStep_78 rfl ?_
        refine g_iconst (1) 80 dX8_readsStep_79 rfl (by decide) ?_
        refine g_isub 81 dX8_readsStep_80 rfl ?_
        refine gst_at (show mt (up2 F1 171 (10 * i + 1) (V j)) _ _ _ _ _ 167 9 + nI i - 1 = nI G + nI i - 1 from congrArg (fun z => z + nI i - 1) ((congrFun (hk2.1 167 (by decide)) 9).trans hG)) ?_
        refine g_v2 8 84 dX8_readsStep_81 rfl kl_X8_94 mv_X8_takesNumber rfl ⟨Nat.le_of_ble_eq_true rfl, Nat.le_of_ble_eq_true rfl⟩ (Nat.le_of_ble_eq_true rfl) (by first | decide | assumption | exact ⟨Nat.le_of_ble_eq_true rfl, rfl⟩) (m_takesNumber g l (up2 F1 171 (10 * i + 1) (V j)) J hR2 hA3 0 (nI G + nI i - 1)) ?_
        rintro r S2 (⟨h3, rfl, nx3, tk3, pl3, vl3, rfl, hA4⟩ | ⟨h3, rfl, nx3, tk3, pl3, vl3, rfl⟩)
        · refine ga_ist (10 * i + 2) 85 dX8_readsStep_84 rfl (by first | decide | assumption | exact ⟨Nat.le_of_ble_eq_true rfl, rfl⟩) (ix10 i 2) (show 10 * i + 2 < 240 by omega) ?_
          refine g_goto 173 dX8_readsStep_85 (by decide) ?_
          refine gs_at (congrArg (fun x => St x J) (mt_up (by decide))) ?_
          have ey : (pArg (crF K V) (gn c) 1 (nI G + nI i) j Q1 Q2 Q3 Q4) = ((pNum (crF K V) (gn c) 0 (nI G + nI i - 1) (pNum (crF K V) (gn c) 0 (nI G + nI i - 1) j).2).1, (pNum (crF K V) (gn c) 0 (nI G + nI i - 1) (pNum (crF K V) (gn c) 0 (nI G + nI i - 1) j).2).2, V j, V (pNum (crF K V) (gn c) 0 (nI G + nI i - 1) j).2, Q3, Q4) := by rw [pArg, if_neg (by decide), if_neg (by decide), if_neg (by decide), if_pos h1]; rfl
          have ej : (pArg (crF K V) (gn c) 1 (nI G + nI i) j Q1 Q2 Q3 Q4).2.1 = (pNum (crF K V) (gn c) 0 (nI G + nI i - 1) (pNum (crF K V) (gn c) 0 (nI G + nI i - 1) j).2).2 := by rw [ey]
          have hk3 : kpT F (up2 (up2 F1 171 (10 * i + 1) (V j)) 171 (10 * i + 2) (V (pNum (crF K V) (gn c) 0 (nI G + nI i - 1) j).2)) i := kpT_up hk2 2 (by decide) _
          refine rs_stop g l hi F J hR hk3 (by rw [ej, ← kpT_AT hk2]; exact hA4) (by rw [ey]; exact h3) ?_ _
          rw [ey]
          refine ⟨?_, fun _ => ?_, fun _ => ?_, fun z => absurd z (show ¬ (1 : Int32) = 8 by decide)⟩
          · rw [up_at, if_neg (by omega), up_at, if_neg (by omega), h0]; rfl
          · rw [up_at, if_neg (by omega), up_at, if_pos rfl]
          · rw [up_at, if_pos rfl]
        · refine ga_ist (10 * i + 2) 85 dX8_readsStep_84 rfl (by first | decide | assumption | exact ⟨Nat.le_of_ble_eq_true rfl, rfl⟩) (ix10 i 2) (show 10 * i + 2 < 240 by omega) ?_
          refine g_goto 173 dX8_readsStep_85 (by decide) ?_
          refine gs_at (congrArg (fun x => St x J) (mt_up (by decide))) ?_
          have ey : (pArg (crF K V) (gn c) 1 (nI G + nI i) j Q1 Q2 Q3 Q4) = ((pNum (crF K V) (gn c) 0 (nI G + nI i - 1) (pNum (crF K V) (gn c) 0 (nI G + nI i - 1) j).2).1, (pNum (crF K V) (gn c) 0 (nI G + nI i - 1) (pNum (crF K V) (gn c) 0 (nI G + nI i - 1) j).2).2, V j, V (pNum (crF K V) (gn c) 0 (nI G + nI i - 1) j).2, Q3, Q4) := by rw [pArg, if_neg (by decide), if_neg (by decide), if_neg (by decide), if_pos h1]; rfl
          have ej : (pArg (crF K V) (gn c) 1 (nI G + nI i) j Q1 Q2 Q3 Q4).2.1 = (pNum (crF K V) (gn c) 0 (nI G + nI i - 1) (pNum (crF K V) (gn c) 0 (nI G + nI i - 1) j).2).2 := by rw [ey]
          have hk3 : kpT F (up2 (up2 F1 171 (10 * i + 1) (V j)) 171 (10 * i + 2) 0) i := kpT_up hk2 2 (by decide) _
          refine gs_at (congrArg (fun x => St (mt (up2 (up2 F1 171 (10 * i + 1) (V j)) 171 (10 * i + 2) 0) nx3 tk3 pl3 vl3 (P x)) J) ej.symm) ?_
          exact rs_ill g l hi F J len K V P c a hk3 _ _ _ _ (by rw [ej]; exact hP _ (pNum_lt _ _ (pNum_lt _ _ hA.1))) (by rw [ey]; exact h3) _
    · refine ga_ist (10 * i + 1) 60 dX8_readsStep_59 rfl (by first | decide | assumption | exact ⟨Nat.le_of_ble_eq_true rfl, rfl⟩) (ix10 i 1) (show 10 * i + 1 < 240 by omega) ?_
      refine gs_at (congrArg (fun x => St x J) (mt_up (by decide))) ?_
      have hk2 : kpT F (up2 F1 171 (10 * i + 1) 0) i := kpT_up hk 1 (by decide) 0
      have hjf := pNum_f h1
      rw [hjf]
      refine g_iload_n 61 dX8_readsStep_60 rfl rfl ?_
      refine g_if_ne 88 64 dX8_readsStep_61 rfl (by decide) (fun h61 => ?_) (fun h61 => ?_)
      · exact absurd h61 (by decide)
      · refine g_aload_n 65 dX8_readsStep_64 rfl rfl ?_
        refine gf_8_15 68 dX8_readsStep_65 rfl kf_X8_26 ?_
        refine g_iload_n 69 dX8_readsStep_68 rfl rfl ?_
        refine g_iconst (2) 70 dX8_readsStep_69 rfl (by decide) ?_
        refine g_iadd 71 dX8_readsStep_70 rfl ?_
        refine g_aload_n 72 dX8_readsStep_71 rfl rfl ?_
        refine g_iconst (0) 73 dX8_readsStep_72 rfl (by decide) ?_
        refine g_aload_n 74 dX8_readsStep_73 rfl rfl ?_
        refine gf_8_9 77 dX8_readsStep_74 rfl kf_X8_106 (by first | decide | assumption | exact ⟨Nat.le_of_ble_eq_true rfl, rfl⟩) ?_
        refine g_iload_n 78 dX8_readsStep_77 rfl rfl ?_
        refine g_iadd 79 dX8_readsStep_78 rfl ?_
        refine g_iconst (1) 80 dX8_readsStep_79 rfl (by decide) ?_
        refine g_isub 81 dX8_readsStep_80 rfl ?_
        refine gst_at (show mt (up2 F1 171 (10 * i + 1) 0) _ _ _ _ _ 167 9 + nI i - 1 = nI G + nI i - 1 from congrArg (fun z => z + nI i - 1) ((congrFun (hk2.1 167 (by decide)) 9).trans hG)) ?_
        refine g_v2 8 84 dX8_readsStep_81 rfl kl_X8_94 mv_X8_takesNumber rfl ⟨Nat.le_of_ble_eq_true rfl, Nat.le_of_ble_eq_true rfl⟩ (Nat.le_of_ble_eq_true rfl) (by first | decide | assumption | exact ⟨Nat.le_of_ble_eq_true rfl, rfl⟩) (m_takesNumber2 g l (up2 F1 171 (10 * i + 1) 0) J _ _ _ _ (hP j hA.1) _ _) ?_
        rintro _ _ ⟨rfl, rfl⟩
        refine ga_ist (10 * i + 2) 85 dX8_readsStep_84 rfl (by first | decide | assumption | exact ⟨Nat.le_of_ble_eq_true rfl, rfl⟩) (ix10 i 2) (show 10 * i + 2 < 240 by omega) ?_
        refine g_goto 173 dX8_readsStep_85 (by decide) ?_
        refine gs_at (congrArg (fun x => St x J) (mt_up (by decide))) ?_
        have ey : (pArg (crF K V) (gn c) 1 (nI G + nI i) j Q1 Q2 Q3 Q4) = (false, (pNum (crF K V) (gn c) 0 (nI G + nI i - 1) j).2, V j, Q2, Q3, Q4) := by rw [pArg, if_neg (by decide), if_neg (by decide), if_neg (by decide), if_neg (by rw [h1]; exact Bool.false_ne_true)]; rfl
        have ej : (pArg (crF K V) (gn c) 1 (nI G + nI i) j Q1 Q2 Q3 Q4).2.1 = j := by rw [ey]; exact hjf
        have hk3 : kpT F (up2 (up2 F1 171 (10 * i + 1) 0) 171 (10 * i + 2) 0) i := kpT_up hk2 2 (by decide) 0
        refine gs_at (congrArg (fun x => St (mt (up2 (up2 F1 171 (10 * i + 1) 0) 171 (10 * i + 2) 0) nx2 tk2 pl2 vl2 (P x)) J) ej.symm) ?_
        exact rs_ill g l hi F J len K V P c a hk3 _ _ _ _ (by rw [ej]; exact hP j hA.1) (by rw [ey]) _

set_option maxRecDepth 100000 in
set_option maxHeartbeats 4000000 in
theorem rs_k2 (g : Gl) (l : Launch) (F : Nat → Nat → Int32) (J : Nat → Int64) {len : Nat} {K V P : Nat → Int32} {c : Nat} {a : Nat → Nat} (hR : RD F len K V P c a) {G i : Nat} (hi : i < 24) (hG : F 167 9 = nI G) {F1 : Nat → Nat → Int32} (hk : kpT F F1 i) (h0 : F1 171 (10 * i + 0) = 1) {j : Nat} {nx tk pl vl : Int32} (hA : AT (bm F len) len K V P c a j nx tk pl vl) {Q1 Q2 : Int32} {Q3 : Nat → Int32} {Q4 : Int32} {XX : State → Method → Prop} : Gj g l (rmd 6 0 0) XX (QM g (rsZ' (pArg (crF K V) (gn c) 2 (nI G + nI i) j Q1 Q2 Q3 Q4) 2 F i J len K V P c a) 0 0) RX8 cX8_readsStep 4 none 34 [some (.ref 167), some (.int (nI i)), some (.int (10 * nI i)), some (.int 1)] [] (St (mt F1 nx tk pl vl (-1)) J) 0 0 := by
  have hR1 := kpT_RD hk hR
  have hA1 : AT (bm F1 len) len K V P c a j nx tk pl vl := by rw [kpT_AT hk]; exact hA
  have hP := hR.2.2.2.2.2
  refine g_iload_n 35 dX8_readsStep_34 rfl rfl ?_
  refine g_iconst (5) 36 dX8_readsStep_35 rfl (by decide) ?_
  refine g_icmp_ge 60 39 dX8_readsStep_36 rfl (by decide) (fun h36 => ?_) (fun h36 => ?_)
  · exact absurd h36 (by decide)
  · refine g_aload_n 40 dX8_readsStep_39 rfl rfl ?_
    refine gf_8_15 43 dX8_readsStep_40 rfl kf_X8_26 ?_
    refine g_iload_n 44 dX8_readsStep_43 rfl rfl ?_
    refine g_iconst (1) 45 dX8_readsStep_44 rfl (by decide) ?_
    refine g_iadd 46 dX8_readsStep_45 rfl ?_
    refine g_aload_n 47 dX8_readsStep_46 rfl rfl ?_
    refine g_iconst (0) 48 dX8_readsStep_47 rfl (by decide) ?_
    refine g_aload_n 49 dX8_readsStep_48 rfl rfl ?_
    refine gf_8_9 52 dX8_readsStep_49 rfl kf_X8_106 (by first | decide | assumption | exact ⟨Nat.le_of_ble_eq_true rfl, rfl⟩) ?_
    refine g_iload_n 53 dX8_readsStep_52 rfl rfl ?_
    refine g_iadd 54 dX8_readsStep_53 rfl ?_
    refine g_iconst (1) 55 dX8_readsStep_54 rfl (by decide) ?_
    refine g_isub 56 dX8_readsStep_55 rfl ?_
    refine gst_at (show mt F1 _ _ _ _ _ 167 9 + nI i - 1 = nI G + nI i - 1 from congrArg (fun z => z + nI i - 1) ((congrFun (hk.1 167 (by decide)) 9).trans hG)) ?_
    refine g_v2 8 59 dX8_readsStep_56 rfl kl_X8_94 mv_X8_takesNumber rfl ⟨Nat.le_of_ble_eq_true rfl, Nat.le_of_ble_eq_true rfl⟩ (Nat.le_of_ble_eq_true rfl) (by first | decide | assumption | exact ⟨Nat.le_of_ble_eq_true rfl, rfl⟩) (m_takesNumber g l F1 J hR1 hA1 0 (nI G + nI i - 1)) ?_
    rintro r S2 (⟨h1, rfl, nx2, tk2, pl2, vl2, rfl, hA2⟩ | ⟨h1, rfl, nx2, tk2, pl2, vl2, rfl⟩)
    · refine ga_ist (10 * i + 1) 60 dX8_readsStep_59 rfl (by first | decide | assumption | exact ⟨Nat.le_of_ble_eq_true rfl, rfl⟩) (ix10 i 1) (show 10 * i + 1 < 240 by omega) ?_
      refine gs_at (congrArg (fun x => St x J) (mt_up (by decide))) ?_
      have hk2 : kpT F (up2 F1 171 (10 * i + 1) (V j)) i := kpT_up hk 1 (by decide) (V j)
      have hR2 := kpT_RD hk2 hR
      have hA3 : AT (bm (up2 F1 171 (10 * i + 1) (V j)) len) len K V P c a (pNum (crF K V) (gn c) 0 (nI G + nI i - 1) j).2 nx2 tk2 pl2 vl2 := by rw [kpT_AT hk2, ← kpT_AT hk]; exact hA2
      refine g_iload_n 61 dX8_readsStep_60 rfl rfl ?_
      refine g_if_ne 88 64 dX8_readsStep_61 rfl (by decide) (fun h61 => ?_) (fun h61 => ?_)
      · refine g_iload_n 89 dX8_readsStep_88 rfl rfl ?_
        refine g_iconst (1) 90 dX8_readsStep_89 rfl (by decide) ?_
        refine g_icmp_eq 98 93 dX8_readsStep_90 rfl (by decide) (fun h90 => ?_) (fun h90 => ?_)
        · refine g_aload_n 99 dX8_readsStep_98 rfl rfl ?_
          refine gf_8_15 102 dX8_readsStep_99 rfl kf_X8_26 ?_
          refine g_iload_n 103 dX8_readsStep_102 rfl rfl ?_
          refine g_iconst (2) 104 dX8_readsStep_103 rfl (by decide) ?_
          refine g_iadd 105 dX8_readsStep_104 rfl ?_
          refine g_aload_n 106 dX8_readsStep_105 rfl rfl ?_
          refine g_iload_n 107 dX8_readsStep_106 rfl rfl ?_
          refine g_iconst (1) 108 dX8_readsStep_107 rfl (by decide) ?_
          refine g_icmp_ne 115 111 dX8_readsStep_108 rfl (by decide) (fun h108 => ?_) (fun h108 => ?_)
          · exact absurd h108 (by decide)
          · refine g_iconst (1) 112 dX8_readsStep_111 rfl (by decide) ?_
            refine g_goto 116 dX8_readsStep_112 (by decide) ?_
            refine g_bipush (99) 118 dX8_readsStep_116 rfl (by decide) ?_
            refine g_v2 8 121 dX8_readsStep_118 rfl kl_X8_94 mv_X8_takesNumber rfl ⟨Nat.le_of_ble_eq_true rfl, Nat.le_of_ble_eq_true rfl⟩ (Nat.le_of_ble_eq_true rfl) (by first | decide | assumption | exact ⟨Nat.le_of_ble_eq_true rfl, rfl⟩) (m_takesNumber g l (up2 F1 171 (10 * i + 1) (V j)) J hR2 hA3 1 99) ?_
            rintro r S2 (⟨h3, rfl, nx3, tk3, pl3, vl3, rfl, hA4⟩ | ⟨h3, rfl, nx3, tk3, pl3, vl3, rfl⟩)
            · refine ga_ist (10 * i + 2) 122 dX8_readsStep_121 rfl (by first | decide | assumption | exact ⟨Nat.le_of_ble_eq_true rfl, rfl⟩) (ix10 i 2) (show 10 * i + 2 < 240 by omega) ?_
              refine g_goto 173 dX8_readsStep_122 (by decide) ?_
              refine gs_at (congrArg (fun x => St x J) (mt_up (by decide))) ?_
              have ey : (pArg (crF K V) (gn c) 2 (nI G + nI i) j Q1 Q2 Q3 Q4) = ((pNum (crF K V) (gn c) 1 99 (pNum (crF K V) (gn c) 0 (nI G + nI i - 1) j).2).1, (pNum (crF K V) (gn c) 1 99 (pNum (crF K V) (gn c) 0 (nI G + nI i - 1) j).2).2, V j, V (pNum (crF K V) (gn c) 0 (nI G + nI i - 1) j).2, Q3, Q4) := by rw [pArg, if_neg (by decide), if_neg (by decide), if_neg (by decide), if_pos h1]; rfl
              have ej : (pArg (crF K V) (gn c) 2 (nI G + nI i) j Q1 Q2 Q3 Q4).2.1 = (pNum (crF K V) (gn c) 1 99 (pNum (crF K V) (gn c) 0 (nI G + nI i - 1) j).2).2 := by rw [ey]
              have hk3 : kpT F (up2 (up2 F1 171 (10 * i + 1) (V j)) 171 (10 * i + 2) (V (pNum (crF K V) (gn c) 0 (nI G + nI i - 1) j).2)) i := kpT_up hk2 2 (by decide) _
              refine rs_stop g l hi F J hR hk3 (by rw [ej, ← kpT_AT hk2]; exact hA4) (by rw [ey]; exact h3) ?_ _
              rw [ey]
              refine ⟨?_, fun _ => ?_, fun _ => ?_, fun z => absurd z (show ¬ (2 : Int32) = 8 by decide)⟩
              · rw [up_at, if_neg (by omega), up_at, if_neg (by omega), h0]; rfl
              · rw [up_at, if_neg (by omega), up_at, if_pos rfl]
              · rw [up_at, if_pos rfl]
            · refine ga_ist (10 * i + 2) 122 dX8_readsStep_121 rfl (by first | decide | assumption | exact ⟨Nat.le_of_ble_eq_true rfl, rfl⟩) (ix10 i 2) (show 10 * i + 2 < 240 by omega) ?_
              refine g_goto 173 dX8_readsStep_122 (by decide) ?_
              refine gs_at (congrArg (fun x => St x J) (mt_up (by decide))) ?_
              have ey : (pArg (crF K V) (gn c) 2 (nI G + nI i) j Q1 Q2 Q3 Q4) = ((pNum (crF K V) (gn c) 1 99 (pNum (crF K V) (gn c) 0 (nI G + nI i - 1) j).2).1, (pNum (crF K V) (gn c) 1 99 (pNum (crF K V) (gn c) 0 (nI G + nI i - 1) j).2).2, V j, V (pNum (crF K V) (gn c) 0 (nI G + nI i - 1) j).2, Q3, Q4) := by rw [pArg, if_neg (by decide), if_neg (by decide), if_neg (by decide), if_pos h1]; rfl
              have ej : (pArg (crF K V) (gn c) 2 (nI G + nI i) j Q1 Q2 Q3 Q4).2.1 = (pNum (crF K V) (gn c) 1 99 (pNum (crF K V) (gn c) 0 (nI G + nI i - 1) j).2).2 := by rw [ey]
              have hk3 : kpT F (up2 (up2 F1 171 (10 * i + 1) (V j)) 171 (10 * i + 2) 0) i := kpT_up hk2 2 (by decide) _
              refine gs_at (congrArg (fun x => St (mt (up2 (up2 F1 171 (10 * i + 1) (V j)) 171 (10 * i + 2) 0) nx3 tk3 pl3 vl3 (P x)) J) ej.symm) ?_
              exact rs_ill g l hi F J len K V P c a hk3 _ _ _ _ (by rw [ej]; exact hP _ (pNum_lt _ _ (pNum_lt _ _ hA.1))) (by rw [ey]; exact h3) _
        · exact absurd h90 (by decide)
      · exact absurd h61 (by decide)
    · refine ga_ist (10 * i + 1) 60 dX8_readsStep_59 rfl (by first | decide | assumption | exact ⟨Nat.le_of_ble_eq_true rfl, rfl⟩) (ix10 i 1) (show 10 * i + 1 < 240 by omega) ?_
      refine gs_at (congrArg (fun x => St x J) (mt_up (by decide))) ?_
      have hk2 : kpT F (up2 F1 171 (10 * i + 1) 0) i := kpT_up hk 1 (by decide) 0
      have hjf := pNum_f h1
      rw [hjf]
      refine g_iload_n 61 dX8_readsStep_60 rfl rfl ?_
      refine g_if_ne 88 64 dX8_readsStep_61 rfl (by decide) (fun h61 => ?_) (fun h61 => ?_)
      · refine g_iload_n 89 dX8_readsStep_88 rfl rfl ?_
        refine g_iconst (1) 90 dX8_readsStep_89 rfl (by decide) ?_
        refine g_icmp_eq 98 93 dX8_readsStep_90 rfl (by decide) (fun h90 => ?_) (fun h90 => ?_)
        · refine g_aload_n 99 dX8_readsStep_98 rfl rfl ?_
          refine gf_8_15 102 dX8_readsStep_99 rfl kf_X8_26 ?_
          refine g_iload_n 103 dX8_readsStep_102 rfl rfl ?_
          refine g_iconst (2) 104 dX8_readsStep_103 rfl (by decide) ?_
          refine g_iadd 105 dX8_readsStep_104 rfl ?_
          refine g_aload_n 106 dX8_readsStep_105 rfl rfl ?_
          refine g_iload_n 107 dX8_readsStep_106 rfl rfl ?_
          refine g_iconst (1) 108 dX8_readsStep_107 rfl (by decide) ?_
          refine g_icmp_ne 115 111 dX8_readsStep_108 rfl (by decide) (fun h108 => ?_) (fun h108 => ?_)
          · exact absurd h108 (by decide)
          · refine g_iconst (1) 112 dX8_readsStep_111 rfl (by decide) ?_
            refine g_goto 116 dX8_readsStep_112 (by decide) ?_
            refine g_bipush (99) 118 dX8_readsStep_116 rfl (by decide) ?_
            refine g_v2 8 121 dX8_readsStep_118 rfl kl_X8_94 mv_X8_takesNumber rfl ⟨Nat.le_of_ble_eq_true rfl, Nat.le_of_ble_eq_true rfl⟩ (Nat.le_of_ble_eq_true rfl) (by first | decide | assumption | exact ⟨Nat.le_of_ble_eq_true rfl, rfl⟩) (m_takesNumber2 g l (up2 F1 171 (10 * i + 1) 0) J _ _ _ _ (hP j hA.1) _ _) ?_
            rintro _ _ ⟨rfl, rfl⟩
            refine ga_ist (10 * i + 2) 122 dX8_readsStep_121 rfl (by first | decide | assumption | exact ⟨Nat.le_of_ble_eq_true rfl, rfl⟩) (ix10 i 2) (show 10 * i + 2 < 240 by omega) ?_
            refine g_goto 173 dX8_readsStep_122 (by decide) ?_
            refine gs_at (congrArg (fun x => St x J) (mt_up (by decide))) ?_
            have ey : (pArg (crF K V) (gn c) 2 (nI G + nI i) j Q1 Q2 Q3 Q4) = (false, (pNum (crF K V) (gn c) 0 (nI G + nI i - 1) j).2, V j, Q2, Q3, Q4) := by rw [pArg, if_neg (by decide), if_neg (by decide), if_neg (by decide), if_neg (by rw [h1]; exact Bool.false_ne_true)]; rfl
            have ej : (pArg (crF K V) (gn c) 2 (nI G + nI i) j Q1 Q2 Q3 Q4).2.1 = j := by rw [ey]; exact hjf
            have hk3 : kpT F (up2 (up2 F1 171 (10 * i + 1) 0) 171 (10 * i + 2) 0) i := kpT_up hk2 2 (by decide) 0
            refine gs_at (congrArg (fun x => St (mt (up2 (up2 F1 171 (10 * i + 1) 0) 171 (10 * i + 2) 0) nx2 tk2 pl2 vl2 (P x)) J) ej.symm) ?_
            exact rs_ill g l hi F J len K V P c a hk3 _ _ _ _ (by rw [ej]; exact hP j hA.1) (by rw [ey]) _
        · exact absurd h90 (by decide)
      · exact absurd h61 (by decide)

set_option maxRecDepth 100000 in
set_option maxHeartbeats 4000000 in
theorem rs_k3 (g : Gl) (l : Launch) (F : Nat → Nat → Int32) (J : Nat → Int64) {len : Nat} {K V P : Nat → Int32} {c : Nat} {a : Nat → Nat} (hR : RD F len K V P c a) {G i : Nat} (hi : i < 24) (hG : F 167 9 = nI G) {F1 : Nat → Nat → Int32} (hk : kpT F F1 i) (h0 : F1 171 (10 * i + 0) = 2) {j : Nat} {nx tk pl vl : Int32} (hA : AT (bm F len) len K V P c a j nx tk pl vl) {Q1 Q2 : Int32} {Q3 : Nat → Int32} {Q4 : Int32} {XX : State → Method → Prop} : Gj g l (rmd 6 0 0) XX (QM g (rsZ' (pArg (crF K V) (gn c) 3 (nI G + nI i) j Q1 Q2 Q3 Q4) 3 F i J len K V P c a) 0 0) RX8 cX8_readsStep 4 none 34 [some (.ref 167), some (.int (nI i)), some (.int (10 * nI i)), some (.int 2)] [] (St (mt F1 nx tk pl vl (-1)) J) 0 0 := by
  have hR1 := kpT_RD hk hR
  have hA1 : AT (bm F1 len) len K V P c a j nx tk pl vl := by rw [kpT_AT hk]; exact hA
  have hP := hR.2.2.2.2.2
  refine g_iload_n 35 dX8_readsStep_34 rfl rfl ?_
  refine g_iconst (5) 36 dX8_readsStep_35 rfl (by decide) ?_
  refine g_icmp_ge 60 39 dX8_readsStep_36 rfl (by decide) (fun h36 => ?_) (fun h36 => ?_)
  · exact absurd h36 (by decide)
  · refine g_aload_n 40 dX8_readsStep_39 rfl rfl ?_
    refine gf_8_15 43 dX8_readsStep_40 rfl kf_X8_26 ?_
    refine g_iload_n 44 dX8_readsStep_43 rfl rfl ?_
    refine g_iconst (1) 45 dX8_readsStep_44 rfl (by decide) ?_
    refine g_iadd 46 dX8_readsStep_45 rfl ?_
    refine g_aload_n 47 dX8_readsStep_46 rfl rfl ?_
    refine g_iconst (0) 48 dX8_readsStep_47 rfl (by decide) ?_
    refine g_aload_n 49 dX8_readsStep_48 rfl rfl ?_
    refine gf_8_9 52 dX8_readsStep_49 rfl kf_X8_106 (by first | decide | assumption | exact ⟨Nat.le_of_ble_eq_true rfl, rfl⟩) ?_
    refine g_iload_n 53 dX8_readsStep_52 rfl rfl ?_
    refine g_iadd 54 dX8_readsStep_53 rfl ?_
    refine g_iconst (1) 55 dX8_readsStep_54 rfl (by decide) ?_
    refine g_isub 56 dX8_readsStep_55 rfl ?_
    refine gst_at (show mt F1 _ _ _ _ _ 167 9 + nI i - 1 = nI G + nI i - 1 from congrArg (fun z => z + nI i - 1) ((congrFun (hk.1 167 (by decide)) 9).trans hG)) ?_
    refine g_v2 8 59 dX8_readsStep_56 rfl kl_X8_94 mv_X8_takesNumber rfl ⟨Nat.le_of_ble_eq_true rfl, Nat.le_of_ble_eq_true rfl⟩ (Nat.le_of_ble_eq_true rfl) (by first | decide | assumption | exact ⟨Nat.le_of_ble_eq_true rfl, rfl⟩) (m_takesNumber g l F1 J hR1 hA1 0 (nI G + nI i - 1)) ?_
    rintro r S2 (⟨h1, rfl, nx2, tk2, pl2, vl2, rfl, hA2⟩ | ⟨h1, rfl, nx2, tk2, pl2, vl2, rfl⟩)
    · refine ga_ist (10 * i + 1) 60 dX8_readsStep_59 rfl (by first | decide | assumption | exact ⟨Nat.le_of_ble_eq_true rfl, rfl⟩) (ix10 i 1) (show 10 * i + 1 < 240 by omega) ?_
      refine gs_at (congrArg (fun x => St x J) (mt_up (by decide))) ?_
      have hk2 : kpT F (up2 F1 171 (10 * i + 1) (V j)) i := kpT_up hk 1 (by decide) (V j)
      have hR2 := kpT_RD hk2 hR
      have hA3 : AT (bm (up2 F1 171 (10 * i + 1) (V j)) len) len K V P c a (pNum (crF K V) (gn c) 0 (nI G + nI i - 1) j).2 nx2 tk2 pl2 vl2 := by rw [kpT_AT hk2, ← kpT_AT hk]; exact hA2
      refine g_iload_n 61 dX8_readsStep_60 rfl rfl ?_
      refine g_if_ne 88 64 dX8_readsStep_61 rfl (by decide) (fun h61 => ?_) (fun h61 => ?_)
      · refine g_iload_n 89 dX8_readsStep_88 rfl rfl ?_
        refine g_iconst (1) 90 dX8_readsStep_89 rfl (by decide) ?_
        refine g_icmp_eq 98 93 dX8_readsStep_90 rfl (by decide) (fun h90 => ?_) (fun h90 => ?_)
        · exact absurd h90 (by decide)
        · refine g_iload_n 94 dX8_readsStep_93 rfl rfl ?_
          refine g_iconst (2) 95 dX8_readsStep_94 rfl (by decide) ?_
          refine g_icmp_ne 125 98 dX8_readsStep_95 rfl (by decide) (fun h95 => ?_) (fun h95 => ?_)
          · exact absurd h95 (by decide)
          · refine g_aload_n 99 dX8_readsStep_98 rfl rfl ?_
            refine gf_8_15 102 dX8_readsStep_99 rfl kf_X8_26 ?_
            refine g_iload_n 103 dX8_readsStep_102 rfl rfl ?_
            refine g_iconst (2) 104 dX8_readsStep_103 rfl (by decide) ?_
            refine g_iadd 105 dX8_readsStep_104 rfl ?_
            refine g_aload_n 106 dX8_readsStep_105 rfl rfl ?_
            refine g_iload_n 107 dX8_readsStep_106 rfl rfl ?_
            refine g_iconst (1) 108 dX8_readsStep_107 rfl (by decide) ?_
            refine g_icmp_ne 115 111 dX8_readsStep_108 rfl (by decide) (fun h108 => ?_) (fun h108 => ?_)
            · refine g_iconst (2) 116 dX8_readsStep_115 rfl (by decide) ?_
              refine g_bipush (99) 118 dX8_readsStep_116 rfl (by decide) ?_
              refine g_v2 8 121 dX8_readsStep_118 rfl kl_X8_94 mv_X8_takesNumber rfl ⟨Nat.le_of_ble_eq_true rfl, Nat.le_of_ble_eq_true rfl⟩ (Nat.le_of_ble_eq_true rfl) (by first | decide | assumption | exact ⟨Nat.le_of_ble_eq_true rfl, rfl⟩) (m_takesNumber g l (up2 F1 171 (10 * i + 1) (V j)) J hR2 hA3 2 99) ?_
              rintro r S2 (⟨h3, rfl, nx3, tk3, pl3, vl3, rfl, hA4⟩ | ⟨h3, rfl, nx3, tk3, pl3, vl3, rfl⟩)
              · refine ga_ist (10 * i + 2) 122 dX8_readsStep_121 rfl (by first | decide | assumption | exact ⟨Nat.le_of_ble_eq_true rfl, rfl⟩) (ix10 i 2) (show 10 * i + 2 < 240 by omega) ?_
                refine g_goto 173 dX8_readsStep_122 (by decide) ?_
                refine gs_at (congrArg (fun x => St x J) (mt_up (by decide))) ?_
                have ey : (pArg (crF K V) (gn c) 3 (nI G + nI i) j Q1 Q2 Q3 Q4) = ((pNum (crF K V) (gn c) 2 99 (pNum (crF K V) (gn c) 0 (nI G + nI i - 1) j).2).1, (pNum (crF K V) (gn c) 2 99 (pNum (crF K V) (gn c) 0 (nI G + nI i - 1) j).2).2, V j, V (pNum (crF K V) (gn c) 0 (nI G + nI i - 1) j).2, Q3, Q4) := by rw [pArg, if_neg (by decide), if_neg (by decide), if_neg (by decide), if_pos h1]; rfl
                have ej : (pArg (crF K V) (gn c) 3 (nI G + nI i) j Q1 Q2 Q3 Q4).2.1 = (pNum (crF K V) (gn c) 2 99 (pNum (crF K V) (gn c) 0 (nI G + nI i - 1) j).2).2 := by rw [ey]
                have hk3 : kpT F (up2 (up2 F1 171 (10 * i + 1) (V j)) 171 (10 * i + 2) (V (pNum (crF K V) (gn c) 0 (nI G + nI i - 1) j).2)) i := kpT_up hk2 2 (by decide) _
                refine rs_stop g l hi F J hR hk3 (by rw [ej, ← kpT_AT hk2]; exact hA4) (by rw [ey]; exact h3) ?_ _
                rw [ey]
                refine ⟨?_, fun _ => ?_, fun _ => ?_, fun z => absurd z (show ¬ (3 : Int32) = 8 by decide)⟩
                · rw [up_at, if_neg (by omega), up_at, if_neg (by omega), h0]; rfl
                · rw [up_at, if_neg (by omega), up_at, if_pos rfl]
                · rw [up_at, if_pos rfl]
              · refine ga_ist (10 * i + 2) 122 dX8_readsStep_121 rfl (by first | decide | assumption | exact ⟨Nat.le_of_ble_eq_true rfl, rfl⟩) (ix10 i 2) (show 10 * i + 2 < 240 by omega) ?_
                refine g_goto 173 dX8_readsStep_122 (by decide) ?_
                refine gs_at (congrArg (fun x => St x J) (mt_up (by decide))) ?_
                have ey : (pArg (crF K V) (gn c) 3 (nI G + nI i) j Q1 Q2 Q3 Q4) = ((pNum (crF K V) (gn c) 2 99 (pNum (crF K V) (gn c) 0 (nI G + nI i - 1) j).2).1, (pNum (crF K V) (gn c) 2 99 (pNum (crF K V) (gn c) 0 (nI G + nI i - 1) j).2).2, V j, V (pNum (crF K V) (gn c) 0 (nI G + nI i - 1) j).2, Q3, Q4) := by rw [pArg, if_neg (by decide), if_neg (by decide), if_neg (by decide), if_pos h1]; rfl
                have ej : (pArg (crF K V) (gn c) 3 (nI G + nI i) j Q1 Q2 Q3 Q4).2.1 = (pNum (crF K V) (gn c) 2 99 (pNum (crF K V) (gn c) 0 (nI G + nI i - 1) j).2).2 := by rw [ey]
                have hk3 : kpT F (up2 (up2 F1 171 (10 * i + 1) (V j)) 171 (10 * i + 2) 0) i := kpT_up hk2 2 (by decide) _
                refine gs_at (congrArg (fun x => St (mt (up2 (up2 F1 171 (10 * i + 1) (V j)) 171 (10 * i + 2) 0) nx3 tk3 pl3 vl3 (P x)) J) ej.symm) ?_
                exact rs_ill g l hi F J len K V P c a hk3 _ _ _ _ (by rw [ej]; exact hP _ (pNum_lt _ _ (pNum_lt _ _ hA.1))) (by rw [ey]; exact h3) _
            · exact absurd h108 (by decide)
      · exact absurd h61 (by decide)
    · refine ga_ist (10 * i + 1) 60 dX8_readsStep_59 rfl (by first | decide | assumption | exact ⟨Nat.le_of_ble_eq_true rfl, rfl⟩) (ix10 i 1) (show 10 * i + 1 < 240 by omega) ?_
      refine gs_at (congrArg (fun x => St x J) (mt_up (by decide))) ?_
      have hk2 : kpT F (up2 F1 171 (10 * i + 1) 0) i := kpT_up hk 1 (by decide) 0
      have hjf := pNum_f h1
      rw [hjf]
      refine g_iload_n 61 dX8_readsStep_60 rfl rfl ?_
      refine g_if_ne 88 64 dX8_readsStep_61 rfl (by decide) (fun h61 => ?_) (fun h61 => ?_)
      · refine g_iload_n 89 dX8_readsStep_88 rfl rfl ?_
        refine g_iconst (1) 90 dX8_readsStep_89 rfl (by decide) ?_
        refine g_icmp_eq 98 93 dX8_readsStep_90 rfl (by decide) (fun h90 => ?_) (fun h90 => ?_)
        · exact absurd h90 (by decide)
        · refine g_iload_n 94 dX8_readsStep_93 rfl rfl ?_
          refine g_iconst (2) 95 dX8_readsStep_94 rfl (by decide) ?_
          refine g_icmp_ne 125 98 dX8_readsStep_95 rfl (by decide) (fun h95 => ?_) (fun h95 => ?_)
          · exact absurd h95 (by decide)
          · refine g_aload_n 99 dX8_readsStep_98 rfl rfl ?_
            refine gf_8_15 102 dX8_readsStep_99 rfl kf_X8_26 ?_
            refine g_iload_n 103 dX8_readsStep_102 rfl rfl ?_
            refine g_iconst (2) 104 dX8_readsStep_103 rfl (by decide) ?_
            refine g_iadd 105 dX8_readsStep_104 rfl ?_
            refine g_aload_n 106 dX8_readsStep_105 rfl rfl ?_
            refine g_iload_n 107 dX8_readsStep_106 rfl rfl ?_
            refine g_iconst (1) 108 dX8_readsStep_107 rfl (by decide) ?_
            refine g_icmp_ne 115 111 dX8_readsStep_108 rfl (by decide) (fun h108 => ?_) (fun h108 => ?_)
            · refine g_iconst (2) 116 dX8_readsStep_115 rfl (by decide) ?_
              refine g_bipush (99) 118 dX8_readsStep_116 rfl (by decide) ?_
              refine g_v2 8 121 dX8_readsStep_118 rfl kl_X8_94 mv_X8_takesNumber rfl ⟨Nat.le_of_ble_eq_true rfl, Nat.le_of_ble_eq_true rfl⟩ (Nat.le_of_ble_eq_true rfl) (by first | decide | assumption | exact ⟨Nat.le_of_ble_eq_true rfl, rfl⟩) (m_takesNumber2 g l (up2 F1 171 (10 * i + 1) 0) J _ _ _ _ (hP j hA.1) _ _) ?_
              rintro _ _ ⟨rfl, rfl⟩
              refine ga_ist (10 * i + 2) 122 dX8_readsStep_121 rfl (by first | decide | assumption | exact ⟨Nat.le_of_ble_eq_true rfl, rfl⟩) (ix10 i 2) (show 10 * i + 2 < 240 by omega) ?_
              refine g_goto 173 dX8_readsStep_122 (by decide) ?_
              refine gs_at (congrArg (fun x => St x J) (mt_up (by decide))) ?_
              have ey : (pArg (crF K V) (gn c) 3 (nI G + nI i) j Q1 Q2 Q3 Q4) = (false, (pNum (crF K V) (gn c) 0 (nI G + nI i - 1) j).2, V j, Q2, Q3, Q4) := by rw [pArg, if_neg (by decide), if_neg (by decide), if_neg (by decide), if_neg (by rw [h1]; exact Bool.false_ne_true)]; rfl
              have ej : (pArg (crF K V) (gn c) 3 (nI G + nI i) j Q1 Q2 Q3 Q4).2.1 = j := by rw [ey]; exact hjf
              have hk3 : kpT F (up2 (up2 F1 171 (10 * i + 1) 0) 171 (10 * i + 2) 0) i := kpT_up hk2 2 (by decide) 0
              refine gs_at (congrArg (fun x => St (mt (up2 (up2 F1 171 (10 * i + 1) 0) 171 (10 * i + 2) 0) nx2 tk2 pl2 vl2 (P x)) J) ej.symm) ?_
              exact rs_ill g l hi F J len K V P c a hk3 _ _ _ _ (by rw [ej]; exact hP j hA.1) (by rw [ey]) _
            · exact absurd h108 (by decide)
      · exact absurd h61 (by decide)

set_option maxRecDepth 100000 in
set_option maxHeartbeats 4000000 in
theorem rs_k4 (g : Gl) (l : Launch) (F : Nat → Nat → Int32) (J : Nat → Int64) {len : Nat} {K V P : Nat → Int32} {c : Nat} {a : Nat → Nat} (hR : RD F len K V P c a) {G i : Nat} (hi : i < 24) (hG : F 167 9 = nI G) {F1 : Nat → Nat → Int32} (hk : kpT F F1 i) (h0 : F1 171 (10 * i + 0) = 3) {j : Nat} {nx tk pl vl : Int32} (hA : AT (bm F len) len K V P c a j nx tk pl vl) {Q1 Q2 : Int32} {Q3 : Nat → Int32} {Q4 : Int32} {XX : State → Method → Prop} : Gj g l (rmd 6 0 0) XX (QM g (rsZ' (pArg (crF K V) (gn c) 4 (nI G + nI i) j Q1 Q2 Q3 Q4) 4 F i J len K V P c a) 0 0) RX8 cX8_readsStep 4 none 34 [some (.ref 167), some (.int (nI i)), some (.int (10 * nI i)), some (.int 3)] [] (St (mt F1 nx tk pl vl (-1)) J) 0 0 := by
  have hR1 := kpT_RD hk hR
  have hA1 : AT (bm F1 len) len K V P c a j nx tk pl vl := by rw [kpT_AT hk]; exact hA
  have hP := hR.2.2.2.2.2
  refine g_iload_n 35 dX8_readsStep_34 rfl rfl ?_
  refine g_iconst (5) 36 dX8_readsStep_35 rfl (by decide) ?_
  refine g_icmp_ge 60 39 dX8_readsStep_36 rfl (by decide) (fun h36 => ?_) (fun h36 => ?_)
  · exact absurd h36 (by decide)
  · refine g_aload_n 40 dX8_readsStep_39 rfl rfl ?_
    refine gf_8_15 43 dX8_readsStep_40 rfl kf_X8_26 ?_
    refine g_iload_n 44 dX8_readsStep_43 rfl rfl ?_
    refine g_iconst (1) 45 dX8_readsStep_44 rfl (by decide) ?_
    refine g_iadd 46 dX8_readsStep_45 rfl ?_
    refine g_aload_n 47 dX8_readsStep_46 rfl rfl ?_
    refine g_iconst (0) 48 dX8_readsStep_47 rfl (by decide) ?_
    refine g_aload_n 49 dX8_readsStep_48 rfl rfl ?_
    refine gf_8_9 52 dX8_readsStep_49 rfl kf_X8_106 (by first | decide | assumption | exact ⟨Nat.le_of_ble_eq_true rfl, rfl⟩) ?_
    refine g_iload_n 53 dX8_readsStep_52 rfl rfl ?_
    refine g_iadd 54 dX8_readsStep_53 rfl ?_
    refine g_iconst (1) 55 dX8_readsStep_54 rfl (by decide) ?_
    refine g_isub 56 dX8_readsStep_55 rfl ?_
    refine gst_at (show mt F1 _ _ _ _ _ 167 9 + nI i - 1 = nI G + nI i - 1 from congrArg (fun z => z + nI i - 1) ((congrFun (hk.1 167 (by decide)) 9).trans hG)) ?_
    refine g_v2 8 59 dX8_readsStep_56 rfl kl_X8_94 mv_X8_takesNumber rfl ⟨Nat.le_of_ble_eq_true rfl, Nat.le_of_ble_eq_true rfl⟩ (Nat.le_of_ble_eq_true rfl) (by first | decide | assumption | exact ⟨Nat.le_of_ble_eq_true rfl, rfl⟩) (m_takesNumber g l F1 J hR1 hA1 0 (nI G + nI i - 1)) ?_
    rintro r S2 (⟨h1, rfl, nx2, tk2, pl2, vl2, rfl, hA2⟩ | ⟨h1, rfl, nx2, tk2, pl2, vl2, rfl⟩)
    · refine ga_ist (10 * i + 1) 60 dX8_readsStep_59 rfl (by first | decide | assumption | exact ⟨Nat.le_of_ble_eq_true rfl, rfl⟩) (ix10 i 1) (show 10 * i + 1 < 240 by omega) ?_
      refine gs_at (congrArg (fun x => St x J) (mt_up (by decide))) ?_
      have hk2 : kpT F (up2 F1 171 (10 * i + 1) (V j)) i := kpT_up hk 1 (by decide) (V j)
      have hR2 := kpT_RD hk2 hR
      have hA3 : AT (bm (up2 F1 171 (10 * i + 1) (V j)) len) len K V P c a (pNum (crF K V) (gn c) 0 (nI G + nI i - 1) j).2 nx2 tk2 pl2 vl2 := by rw [kpT_AT hk2, ← kpT_AT hk]; exact hA2
      refine g_iload_n 61 dX8_readsStep_60 rfl rfl ?_
      refine g_if_ne 88 64 dX8_readsStep_61 rfl (by decide) (fun h61 => ?_) (fun h61 => ?_)
      · refine g_iload_n 89 dX8_readsStep_88 rfl rfl ?_
        refine g_iconst (1) 90 dX8_readsStep_89 rfl (by decide) ?_
        refine g_icmp_eq 98 93 dX8_readsStep_90 rfl (by decide) (fun h90 => ?_) (fun h90 => ?_)
        · exact absurd h90 (by decide)
        · refine g_iload_n 94 dX8_readsStep_93 rfl rfl ?_
          refine g_iconst (2) 95 dX8_readsStep_94 rfl (by decide) ?_
          refine g_icmp_ne 125 98 dX8_readsStep_95 rfl (by decide) (fun h95 => ?_) (fun h95 => ?_)
          · refine g_iload_n 126 dX8_readsStep_125 rfl rfl ?_
            refine g_iconst (4) 127 dX8_readsStep_126 rfl (by decide) ?_
            refine g_icmp_eq 141 130 dX8_readsStep_127 rfl (by decide) (fun h127 => ?_) (fun h127 => ?_)
            · exact absurd h127 (by decide)
            · refine g_iload_n 131 dX8_readsStep_130 rfl rfl ?_
              refine g_iconst (5) 132 dX8_readsStep_131 rfl (by decide) ?_
              refine g_icmp_eq 141 135 dX8_readsStep_132 rfl (by decide) (fun h132 => ?_) (fun h132 => ?_)
              · exact absurd h132 (by decide)
              · refine g_iload_n 136 dX8_readsStep_135 rfl rfl ?_
                refine g_bipush (6) 138 dX8_readsStep_136 rfl (by decide) ?_
                refine g_icmp_ne 156 141 dX8_readsStep_138 rfl (by decide) (fun h138 => ?_) (fun h138 => ?_)
                · refine g_iload_n 157 dX8_readsStep_156 rfl rfl ?_
                  refine g_bipush (7) 159 dX8_readsStep_157 rfl (by decide) ?_
                  refine g_icmp_ne 173 162 dX8_readsStep_159 rfl (by decide) (fun h159 => ?_) (fun h159 => ?_)
                  · have ey : (pArg (crF K V) (gn c) 4 (nI G + nI i) j Q1 Q2 Q3 Q4) = ((pNum (crF K V) (gn c) 0 (nI G + nI i - 1) j).1, (pNum (crF K V) (gn c) 0 (nI G + nI i - 1) j).2, V j, Q2, Q3, Q4) := by rw [pArg, if_neg (by decide), if_neg (by decide), if_pos rfl]; rfl
                    have ej : (pArg (crF K V) (gn c) 4 (nI G + nI i) j Q1 Q2 Q3 Q4).2.1 = (pNum (crF K V) (gn c) 0 (nI G + nI i - 1) j).2 := by rw [ey]
                    refine rs_stop g l hi F J hR hk2 (by rw [ej, ← kpT_AT hk2]; exact hA3) (by rw [ey]; exact h1) ?_ _
                    rw [ey]
                    refine ⟨?_, fun _ => ?_, fun z => absurd z (show ¬ ((4 : Int32) = 1 ∨ (4 : Int32) = 2 ∨ (4 : Int32) = 3 ∨ (4 : Int32) = 5 ∨ (4 : Int32) = 6 ∨ (4 : Int32) = 7) by decide), fun z => absurd z (show ¬ (4 : Int32) = 8 by decide)⟩
                    · rw [up_at, if_neg (by omega), h0]; rfl
                    · rw [up_at, if_pos rfl]
                  · exact absurd h159 (by decide)
                · exact absurd h138 (by decide)
          · exact absurd h95 (by decide)
      · exact absurd h61 (by decide)
    · refine ga_ist (10 * i + 1) 60 dX8_readsStep_59 rfl (by first | decide | assumption | exact ⟨Nat.le_of_ble_eq_true rfl, rfl⟩) (ix10 i 1) (show 10 * i + 1 < 240 by omega) ?_
      refine gs_at (congrArg (fun x => St x J) (mt_up (by decide))) ?_
      have hk2 : kpT F (up2 F1 171 (10 * i + 1) 0) i := kpT_up hk 1 (by decide) 0
      have hjf := pNum_f h1
      rw [hjf]
      refine g_iload_n 61 dX8_readsStep_60 rfl rfl ?_
      refine g_if_ne 88 64 dX8_readsStep_61 rfl (by decide) (fun h61 => ?_) (fun h61 => ?_)
      · refine g_iload_n 89 dX8_readsStep_88 rfl rfl ?_
        refine g_iconst (1) 90 dX8_readsStep_89 rfl (by decide) ?_
        refine g_icmp_eq 98 93 dX8_readsStep_90 rfl (by decide) (fun h90 => ?_) (fun h90 => ?_)
        · exact absurd h90 (by decide)
        · refine g_iload_n 94 dX8_readsStep_93 rfl rfl ?_
          refine g_iconst (2) 95 dX8_readsStep_94 rfl (by decide) ?_
          refine g_icmp_ne 125 98 dX8_readsStep_95 rfl (by decide) (fun h95 => ?_) (fun h95 => ?_)
          · refine g_iload_n 126 dX8_readsStep_125 rfl rfl ?_
            refine g_iconst (4) 127 dX8_readsStep_126 rfl (by decide) ?_
            refine g_icmp_eq 141 130 dX8_readsStep_127 rfl (by decide) (fun h127 => ?_) (fun h127 => ?_)
            · exact absurd h127 (by decide)
            · refine g_iload_n 131 dX8_readsStep_130 rfl rfl ?_
              refine g_iconst (5) 132 dX8_readsStep_131 rfl (by decide) ?_
              refine g_icmp_eq 141 135 dX8_readsStep_132 rfl (by decide) (fun h132 => ?_) (fun h132 => ?_)
              · exact absurd h132 (by decide)
              · refine g_iload_n 136 dX8_readsStep_135 rfl rfl ?_
                refine g_bipush (6) 138 dX8_readsStep_136 rfl (by decide) ?_
                refine g_icmp_ne 156 141 dX8_readsStep_138 rfl (by decide) (fun h138 => ?_) (fun h138 => ?_)
                · refine g_iload_n 157 dX8_readsStep_156 rfl rfl ?_
                  refine g_bipush (7) 159 dX8_readsStep_157 rfl (by decide) ?_
                  refine g_icmp_ne 173 162 dX8_readsStep_159 rfl (by decide) (fun h159 => ?_) (fun h159 => ?_)
                  · have ey : (pArg (crF K V) (gn c) 4 (nI G + nI i) j Q1 Q2 Q3 Q4) = ((pNum (crF K V) (gn c) 0 (nI G + nI i - 1) j).1, (pNum (crF K V) (gn c) 0 (nI G + nI i - 1) j).2, V j, Q2, Q3, Q4) := by rw [pArg, if_neg (by decide), if_neg (by decide), if_pos rfl]; rfl
                    have ej : (pArg (crF K V) (gn c) 4 (nI G + nI i) j Q1 Q2 Q3 Q4).2.1 = j := by rw [ey]; exact hjf
                    refine gs_at (congrArg (fun x => St (mt (up2 F1 171 (10 * i + 1) 0) nx2 tk2 pl2 vl2 (P x)) J) ej.symm) ?_
                    exact rs_ill g l hi F J len K V P c a hk2 _ _ _ _ (by rw [ej]; exact hP j hA.1) (by rw [ey]; exact h1) _
                  · exact absurd h159 (by decide)
                · exact absurd h138 (by decide)
          · exact absurd h95 (by decide)
      · exact absurd h61 (by decide)

set_option maxRecDepth 100000 in
set_option maxHeartbeats 4000000 in
theorem rs_k5 (g : Gl) (l : Launch) (F : Nat → Nat → Int32) (J : Nat → Int64) {len : Nat} {K V P : Nat → Int32} {c : Nat} {a : Nat → Nat} (hR : RD F len K V P c a) {G i : Nat} (hi : i < 24) (hG : F 167 9 = nI G) {F1 : Nat → Nat → Int32} (hk : kpT F F1 i) (h0 : F1 171 (10 * i + 0) = 4) {j : Nat} {nx tk pl vl : Int32} (hA : AT (bm F len) len K V P c a j nx tk pl vl) {Q1 Q2 : Int32} {Q3 : Nat → Int32} {Q4 : Int32} {XX : State → Method → Prop} : Gj g l (rmd 6 0 0) XX (QM g (rsZ' (pArg (crF K V) (gn c) 5 (nI G + nI i) j Q1 Q2 Q3 Q4) 5 F i J len K V P c a) 0 0) RX8 cX8_readsStep 4 none 34 [some (.ref 167), some (.int (nI i)), some (.int (10 * nI i)), some (.int 4)] [] (St (mt F1 nx tk pl vl (-1)) J) 0 0 := by
  have hR1 := kpT_RD hk hR
  have hA1 : AT (bm F1 len) len K V P c a j nx tk pl vl := by rw [kpT_AT hk]; exact hA
  have hP := hR.2.2.2.2.2
  refine g_iload_n 35 dX8_readsStep_34 rfl rfl ?_
  refine g_iconst (5) 36 dX8_readsStep_35 rfl (by decide) ?_
  refine g_icmp_ge 60 39 dX8_readsStep_36 rfl (by decide) (fun h36 => ?_) (fun h36 => ?_)
  · exact absurd h36 (by decide)
  · refine g_aload_n 40 dX8_readsStep_39 rfl rfl ?_
    refine gf_8_15 43 dX8_readsStep_40 rfl kf_X8_26 ?_
    refine g_iload_n 44 dX8_readsStep_43 rfl rfl ?_
    refine g_iconst (1) 45 dX8_readsStep_44 rfl (by decide) ?_
    refine g_iadd 46 dX8_readsStep_45 rfl ?_
    refine g_aload_n 47 dX8_readsStep_46 rfl rfl ?_
    refine g_iconst (0) 48 dX8_readsStep_47 rfl (by decide) ?_
    refine g_aload_n 49 dX8_readsStep_48 rfl rfl ?_
    refine gf_8_9 52 dX8_readsStep_49 rfl kf_X8_106 (by first | decide | assumption | exact ⟨Nat.le_of_ble_eq_true rfl, rfl⟩) ?_
    refine g_iload_n 53 dX8_readsStep_52 rfl rfl ?_
    refine g_iadd 54 dX8_readsStep_53 rfl ?_
    refine g_iconst (1) 55 dX8_readsStep_54 rfl (by decide) ?_
    refine g_isub 56 dX8_readsStep_55 rfl ?_
    refine gst_at (show mt F1 _ _ _ _ _ 167 9 + nI i - 1 = nI G + nI i - 1 from congrArg (fun z => z + nI i - 1) ((congrFun (hk.1 167 (by decide)) 9).trans hG)) ?_
    refine g_v2 8 59 dX8_readsStep_56 rfl kl_X8_94 mv_X8_takesNumber rfl ⟨Nat.le_of_ble_eq_true rfl, Nat.le_of_ble_eq_true rfl⟩ (Nat.le_of_ble_eq_true rfl) (by first | decide | assumption | exact ⟨Nat.le_of_ble_eq_true rfl, rfl⟩) (m_takesNumber g l F1 J hR1 hA1 0 (nI G + nI i - 1)) ?_
    rintro r S2 (⟨h1, rfl, nx2, tk2, pl2, vl2, rfl, hA2⟩ | ⟨h1, rfl, nx2, tk2, pl2, vl2, rfl⟩)
    · refine ga_ist (10 * i + 1) 60 dX8_readsStep_59 rfl (by first | decide | assumption | exact ⟨Nat.le_of_ble_eq_true rfl, rfl⟩) (ix10 i 1) (show 10 * i + 1 < 240 by omega) ?_
      refine gs_at (congrArg (fun x => St x J) (mt_up (by decide))) ?_
      have hk2 : kpT F (up2 F1 171 (10 * i + 1) (V j)) i := kpT_up hk 1 (by decide) (V j)
      have hR2 := kpT_RD hk2 hR
      have hA3 : AT (bm (up2 F1 171 (10 * i + 1) (V j)) len) len K V P c a (pNum (crF K V) (gn c) 0 (nI G + nI i - 1) j).2 nx2 tk2 pl2 vl2 := by rw [kpT_AT hk2, ← kpT_AT hk]; exact hA2
      refine g_iload_n 61 dX8_readsStep_60 rfl rfl ?_
      refine g_if_ne 88 64 dX8_readsStep_61 rfl (by decide) (fun h61 => ?_) (fun h61 => ?_)
      · refine g_iload_n 89 dX8_readsStep_88 rfl rfl ?_
        refine g_iconst (1) 90 dX8_readsStep_89 rfl (by decide) ?_
        refine g_icmp_eq 98 93 dX8_readsStep_90 rfl (by decide) (fun h90 => ?_) (fun h90 => ?_)
        · exact absurd h90 (by decide)
        · refine g_iload_n 94 dX8_readsStep_93 rfl rfl ?_
          refine g_iconst (2) 95 dX8_readsStep_94 rfl (by decide) ?_
          refine g_icmp_ne 125 98 dX8_readsStep_95 rfl (by decide) (fun h95 => ?_) (fun h95 => ?_)
          · refine g_iload_n 126 dX8_readsStep_125 rfl rfl ?_
            refine g_iconst (4) 127 dX8_readsStep_126 rfl (by decide) ?_
            refine g_icmp_eq 141 130 dX8_readsStep_127 rfl (by decide) (fun h127 => ?_) (fun h127 => ?_)
            · refine g_aload_n 142 dX8_readsStep_141 rfl rfl ?_
              refine gf_8_15 145 dX8_readsStep_142 rfl kf_X8_26 ?_
              refine g_iload_n 146 dX8_readsStep_145 rfl rfl ?_
              refine g_iconst (2) 147 dX8_readsStep_146 rfl (by decide) ?_
              refine g_iadd 148 dX8_readsStep_147 rfl ?_
              refine g_aload_n 149 dX8_readsStep_148 rfl rfl ?_
              refine g_v0 8 152 dX8_readsStep_149 rfl kl_X8_115 mv_X8_takesLetter rfl ⟨Nat.le_of_ble_eq_true rfl, Nat.le_of_ble_eq_true rfl⟩ (Nat.le_of_ble_eq_true rfl) (by first | decide | assumption | exact ⟨Nat.le_of_ble_eq_true rfl, rfl⟩) (m_takesLetter g l (up2 F1 171 (10 * i + 1) (V j)) J hR2 hA3) ?_
              rintro r S2 (⟨h3, rfl, nx3, tk3, pl3, vl3, rfl, hA4⟩ | ⟨h3, rfl, nx3, tk3, pl3, vl3, rfl⟩)
              · refine ga_ist (10 * i + 2) 153 dX8_readsStep_152 rfl (by first | decide | assumption | exact ⟨Nat.le_of_ble_eq_true rfl, rfl⟩) (ix10 i 2) (show 10 * i + 2 < 240 by omega) ?_
                refine g_goto 173 dX8_readsStep_153 (by decide) ?_
                refine gs_at (congrArg (fun x => St x J) (mt_up (by decide))) ?_
                have ey : (pArg (crF K V) (gn c) 5 (nI G + nI i) j Q1 Q2 Q3 Q4) = ((pTok (crF K V) (gn c) 1 (pNum (crF K V) (gn c) 0 (nI G + nI i - 1) j).2).1, (pTok (crF K V) (gn c) 1 (pNum (crF K V) (gn c) 0 (nI G + nI i - 1) j).2).2, V j, V (pNum (crF K V) (gn c) 0 (nI G + nI i - 1) j).2, Q3, Q4) := by rw [pArg, if_neg (by decide), if_neg (by decide), if_neg (by decide), if_pos h1]; rfl
                have ej : (pArg (crF K V) (gn c) 5 (nI G + nI i) j Q1 Q2 Q3 Q4).2.1 = (pTok (crF K V) (gn c) 1 (pNum (crF K V) (gn c) 0 (nI G + nI i - 1) j).2).2 := by rw [ey]
                have hk3 : kpT F (up2 (up2 F1 171 (10 * i + 1) (V j)) 171 (10 * i + 2) (V (pNum (crF K V) (gn c) 0 (nI G + nI i - 1) j).2)) i := kpT_up hk2 2 (by decide) _
                refine rs_stop g l hi F J hR hk3 (by rw [ej, ← kpT_AT hk2]; exact hA4) (by rw [ey]; exact h3) ?_ _
                rw [ey]
                refine ⟨?_, fun _ => ?_, fun _ => ?_, fun z => absurd z (show ¬ (5 : Int32) = 8 by decide)⟩
                · rw [up_at, if_neg (by omega), up_at, if_neg (by omega), h0]; rfl
                · rw [up_at, if_neg (by omega), up_at, if_pos rfl]
                · rw [up_at, if_pos rfl]
              · refine ga_ist (10 * i + 2) 153 dX8_readsStep_152 rfl (by first | decide | assumption | exact ⟨Nat.le_of_ble_eq_true rfl, rfl⟩) (ix10 i 2) (show 10 * i + 2 < 240 by omega) ?_
                refine g_goto 173 dX8_readsStep_153 (by decide) ?_
                refine gs_at (congrArg (fun x => St x J) (mt_up (by decide))) ?_
                have ey : (pArg (crF K V) (gn c) 5 (nI G + nI i) j Q1 Q2 Q3 Q4) = ((pTok (crF K V) (gn c) 1 (pNum (crF K V) (gn c) 0 (nI G + nI i - 1) j).2).1, (pTok (crF K V) (gn c) 1 (pNum (crF K V) (gn c) 0 (nI G + nI i - 1) j).2).2, V j, V (pNum (crF K V) (gn c) 0 (nI G + nI i - 1) j).2, Q3, Q4) := by rw [pArg, if_neg (by decide), if_neg (by decide), if_neg (by decide), if_pos h1]; rfl
                have ej : (pArg (crF K V) (gn c) 5 (nI G + nI i) j Q1 Q2 Q3 Q4).2.1 = (pTok (crF K V) (gn c) 1 (pNum (crF K V) (gn c) 0 (nI G + nI i - 1) j).2).2 := by rw [ey]
                have hk3 : kpT F (up2 (up2 F1 171 (10 * i + 1) (V j)) 171 (10 * i + 2) 0) i := kpT_up hk2 2 (by decide) _
                refine gs_at (congrArg (fun x => St (mt (up2 (up2 F1 171 (10 * i + 1) (V j)) 171 (10 * i + 2) 0) nx3 tk3 pl3 vl3 (P x)) J) ej.symm) ?_
                exact rs_ill g l hi F J len K V P c a hk3 _ _ _ _ (by rw [ej]; exact hP _ (pTok_lt 1 (pNum_lt _ _ hA.1))) (by rw [ey]; exact h3) _
            · exact absurd h127 (by decide)
          · exact absurd h95 (by decide)
      · exact absurd h61 (by decide)
    · refine ga_ist (10 * i + 1) 60 dX8_readsStep_59 rfl (by first | decide | assumption | exact ⟨Nat.le_of_ble_eq_true rfl, rfl⟩) (ix10 i 1) (show 10 * i + 1 < 240 by omega) ?_
      refine gs_at (congrArg (fun x => St x J) (mt_up (by decide))) ?_
      have hk2 : kpT F (up2 F1 171 (10 * i + 1) 0) i := kpT_up hk 1 (by decide) 0
      have hjf := pNum_f h1
      rw [hjf]
      refine g_iload_n 61 dX8_readsStep_60 rfl rfl ?_
      refine g_if_ne 88 64 dX8_readsStep_61 rfl (by decide) (fun h61 => ?_) (fun h61 => ?_)
      · refine g_iload_n 89 dX8_readsStep_88 rfl rfl ?_
        refine g_iconst (1) 90 dX8_readsStep_89 rfl (by decide) ?_
        refine g_icmp_eq 98 93 dX8_readsStep_90 rfl (by decide) (fun h90 => ?_) (fun h90 => ?_)
        · exact absurd h90 (by decide)
        · refine g_iload_n 94 dX8_readsStep_93 rfl rfl ?_
          refine g_iconst (2) 95 dX8_readsStep_94 rfl (by decide) ?_
          refine g_icmp_ne 125 98 dX8_readsStep_95 rfl (by decide) (fun h95 => ?_) (fun h95 => ?_)
          · refine g_iload_n 126 dX8_readsStep_125 rfl rfl ?_
            refine g_iconst (4) 127 dX8_readsStep_126 rfl (by decide) ?_
            refine g_icmp_eq 141 130 dX8_readsStep_127 rfl (by decide) (fun h127 => ?_) (fun h127 => ?_)
            · refine g_aload_n 142 dX8_readsStep_141 rfl rfl ?_
              refine gf_8_15 145 dX8_readsStep_142 rfl kf_X8_26 ?_
              refine g_iload_n 146 dX8_readsStep_145 rfl rfl ?_
              refine g_iconst (2) 147 dX8_readsStep_146 rfl (by decide) ?_
              refine g_iadd 148 dX8_readsStep_147 rfl ?_
              refine g_aload_n 149 dX8_readsStep_148 rfl rfl ?_
              refine g_v0 8 152 dX8_readsStep_149 rfl kl_X8_115 mv_X8_takesLetter rfl ⟨Nat.le_of_ble_eq_true rfl, Nat.le_of_ble_eq_true rfl⟩ (Nat.le_of_ble_eq_true rfl) (by first | decide | assumption | exact ⟨Nat.le_of_ble_eq_true rfl, rfl⟩) (m_takesLetter2 g l (up2 F1 171 (10 * i + 1) 0) J _ _ _ _ (hP j hA.1)) ?_
              rintro _ _ ⟨rfl, rfl⟩
              refine ga_ist (10 * i + 2) 153 dX8_readsStep_152 rfl (by first | decide | assumption | exact ⟨Nat.le_of_ble_eq_true rfl, rfl⟩) (ix10 i 2) (show 10 * i + 2 < 240 by omega) ?_
              refine g_goto 173 dX8_readsStep_153 (by decide) ?_
              refine gs_at (congrArg (fun x => St x J) (mt_up (by decide))) ?_
              have ey : (pArg (crF K V) (gn c) 5 (nI G + nI i) j Q1 Q2 Q3 Q4) = (false, (pNum (crF K V) (gn c) 0 (nI G + nI i - 1) j).2, V j, Q2, Q3, Q4) := by rw [pArg, if_neg (by decide), if_neg (by decide), if_neg (by decide), if_neg (by rw [h1]; exact Bool.false_ne_true)]; rfl
              have ej : (pArg (crF K V) (gn c) 5 (nI G + nI i) j Q1 Q2 Q3 Q4).2.1 = j := by rw [ey]; exact hjf
              have hk3 : kpT F (up2 (up2 F1 171 (10 * i + 1) 0) 171 (10 * i + 2) 0) i := kpT_up hk2 2 (by decide) 0
              refine gs_at (congrArg (fun x => St (mt (up2 (up2 F1 171 (10 * i + 1) 0) 171 (10 * i + 2) 0) nx2 tk2 pl2 vl2 (P x)) J) ej.symm) ?_
              exact rs_ill g l hi F J len K V P c a hk3 _ _ _ _ (by rw [ej]; exact hP j hA.1) (by rw [ey]) _
            · exact absurd h127 (by decide)
          · exact absurd h95 (by decide)
      · exact absurd h61 (by decide)

set_option maxRecDepth 100000 in
set_option maxHeartbeats 4000000 in
theorem rs_k6 (g : Gl) (l : Launch) (F : Nat → Nat → Int32) (J : Nat → Int64) {len : Nat} {K V P : Nat → Int32} {c : Nat} {a : Nat → Nat} (hR : RD F len K V P c a) {G i : Nat} (hi : i < 24) (hG : F 167 9 = nI G) {F1 : Nat → Nat → Int32} (hk : kpT F F1 i) (h0 : F1 171 (10 * i + 0) = 5) {j : Nat} {nx tk pl vl : Int32} (hA : AT (bm F len) len K V P c a j nx tk pl vl) {Q1 Q2 : Int32} {Q3 : Nat → Int32} {Q4 : Int32} {XX : State → Method → Prop} : Gj g l (rmd 6 0 0) XX (QM g (rsZ' (pArg (crF K V) (gn c) 6 (nI G + nI i) j Q1 Q2 Q3 Q4) 6 F i J len K V P c a) 0 0) RX8 cX8_readsStep 4 none 34 [some (.ref 167), some (.int (nI i)), some (.int (10 * nI i)), some (.int 5)] [] (St (mt F1 nx tk pl vl (-1)) J) 0 0 := by
  have hR1 := kpT_RD hk hR
  have hA1 : AT (bm F1 len) len K V P c a j nx tk pl vl := by rw [kpT_AT hk]; exact hA
  have hP := hR.2.2.2.2.2
  refine g_iload_n 35 dX8_readsStep_34 rfl rfl ?_
  refine g_iconst (5) 36 dX8_readsStep_35 rfl (by decide) ?_
  refine g_icmp_ge 60 39 dX8_readsStep_36 rfl (by decide) (fun h36 => ?_) (fun h36 => ?_)
  · refine g_iload_n 61 dX8_readsStep_60 rfl rfl ?_
    refine g_if_ne 88 64 dX8_readsStep_61 rfl (by decide) (fun h61 => ?_) (fun h61 => ?_)
    · refine g_iload_n 89 dX8_readsStep_88 rfl rfl ?_
      refine g_iconst (1) 90 dX8_readsStep_89 rfl (by decide) ?_
      refine g_icmp_eq 98 93 dX8_readsStep_90 rfl (by decide) (fun h90 => ?_) (fun h90 => ?_)
      · exact absurd h90 (by decide)
      · refine g_iload_n 94 dX8_readsStep_93 rfl rfl ?_
        refine g_iconst (2) 95 dX8_readsStep_94 rfl (by decide) ?_
        refine g_icmp_ne 125 98 dX8_readsStep_95 rfl (by decide) (fun h95 => ?_) (fun h95 => ?_)
        · refine g_iload_n 126 dX8_readsStep_125 rfl rfl ?_
          refine g_iconst (4) 127 dX8_readsStep_126 rfl (by decide) ?_
          refine g_icmp_eq 141 130 dX8_readsStep_127 rfl (by decide) (fun h127 => ?_) (fun h127 => ?_)
          · exact absurd h127 (by decide)
          · refine g_iload_n 131 dX8_readsStep_130 rfl rfl ?_
            refine g_iconst (5) 132 dX8_readsStep_131 rfl (by decide) ?_
            refine g_icmp_eq 141 135 dX8_readsStep_132 rfl (by decide) (fun h132 => ?_) (fun h132 => ?_)
            · refine g_aload_n 142 dX8_readsStep_141 rfl rfl ?_
              refine gf_8_15 145 dX8_readsStep_142 rfl kf_X8_26 ?_
              refine g_iload_n 146 dX8_readsStep_145 rfl rfl ?_
              refine g_iconst (2) 147 dX8_readsStep_146 rfl (by decide) ?_
              refine g_iadd 148 dX8_readsStep_147 rfl ?_
              refine g_aload_n 149 dX8_readsStep_148 rfl rfl ?_
              refine g_v0 8 152 dX8_readsStep_149 rfl kl_X8_115 mv_X8_takesLetter rfl ⟨Nat.le_of_ble_eq_true rfl, Nat.le_of_ble_eq_true rfl⟩ (Nat.le_of_ble_eq_true rfl) (by first | decide | assumption | exact ⟨Nat.le_of_ble_eq_true rfl, rfl⟩) (m_takesLetter g l F1 J hR1 hA1) ?_
              rintro r S2 (⟨h1, rfl, nx2, tk2, pl2, vl2, rfl, hA2⟩ | ⟨h1, rfl, nx2, tk2, pl2, vl2, rfl⟩)
              · refine ga_ist (10 * i + 2) 153 dX8_readsStep_152 rfl (by first | decide | assumption | exact ⟨Nat.le_of_ble_eq_true rfl, rfl⟩) (ix10 i 2) (show 10 * i + 2 < 240 by omega) ?_
                refine g_goto 173 dX8_readsStep_153 (by decide) ?_
                refine gs_at (congrArg (fun x => St x J) (mt_up (by decide))) ?_
                have ey : (pArg (crF K V) (gn c) 6 (nI G + nI i) j Q1 Q2 Q3 Q4) = ((pTok (crF K V) (gn c) 1 j).1, (pTok (crF K V) (gn c) 1 j).2, Q1, V j, Q3, Q4) := by rw [pArg, if_neg (by decide), if_pos (by decide)]; rfl
                have ej : (pArg (crF K V) (gn c) 6 (nI G + nI i) j Q1 Q2 Q3 Q4).2.1 = (pTok (crF K V) (gn c) 1 j).2 := by rw [ey]
                have hk3 : kpT F (up2 F1 171 (10 * i + 2) (V j)) i := kpT_up hk 2 (by decide) _
                refine rs_stop g l hi F J hR hk3 (by rw [ej, ← kpT_AT hk]; exact hA2) (by rw [ey]; exact h1) ?_ _
                rw [ey]
                refine ⟨?_, fun z => absurd z (show ¬ ((6 : Int32) = 1 ∨ (6 : Int32) = 2 ∨ (6 : Int32) = 3 ∨ (6 : Int32) = 4 ∨ (6 : Int32) = 5) by decide), fun _ => ?_, fun z => absurd z (show ¬ (6 : Int32) = 8 by decide)⟩
                · rw [up_at, if_neg (by omega), h0]; rfl
                · rw [up_at, if_pos rfl]
              · refine ga_ist (10 * i + 2) 153 dX8_readsStep_152 rfl (by first | decide | assumption | exact ⟨Nat.le_of_ble_eq_true rfl, rfl⟩) (ix10 i 2) (show 10 * i + 2 < 240 by omega) ?_
                refine g_goto 173 dX8_readsStep_153 (by decide) ?_
                refine gs_at (congrArg (fun x => St x J) (mt_up (by decide))) ?_
                have ey : (pArg (crF K V) (gn c) 6 (nI G + nI i) j Q1 Q2 Q3 Q4) = ((pTok (crF K V) (gn c) 1 j).1, (pTok (crF K V) (gn c) 1 j).2, Q1, V j, Q3, Q4) := by rw [pArg, if_neg (by decide), if_pos (by decide)]; rfl
                have ej : (pArg (crF K V) (gn c) 6 (nI G + nI i) j Q1 Q2 Q3 Q4).2.1 = (pTok (crF K V) (gn c) 1 j).2 := by rw [ey]
                have hk3 : kpT F (up2 F1 171 (10 * i + 2) 0) i := kpT_up hk 2 (by decide) _
                refine gs_at (congrArg (fun x => St (mt (up2 F1 171 (10 * i + 2) 0) nx2 tk2 pl2 vl2 (P x)) J) ej.symm) ?_
                exact rs_ill g l hi F J len K V P c a hk3 _ _ _ _ (by rw [ej]; exact hP _ (pTok_lt 1 hA.1)) (by rw [ey]; exact h1) _
            · exact absurd h132 (by decide)
        · exact absurd h95 (by decide)
    · exact absurd h61 (by decide)
  · exact absurd h36 (by decide)

set_option maxRecDepth 100000 in
set_option maxHeartbeats 4000000 in
theorem rs_k7 (g : Gl) (l : Launch) (F : Nat → Nat → Int32) (J : Nat → Int64) {len : Nat} {K V P : Nat → Int32} {c : Nat} {a : Nat → Nat} (hR : RD F len K V P c a) {G i : Nat} (hi : i < 24) (hG : F 167 9 = nI G) {F1 : Nat → Nat → Int32} (hk : kpT F F1 i) (h0 : F1 171 (10 * i + 0) = 6) {j : Nat} {nx tk pl vl : Int32} (hA : AT (bm F len) len K V P c a j nx tk pl vl) {Q1 Q2 : Int32} {Q3 : Nat → Int32} {Q4 : Int32} {XX : State → Method → Prop} : Gj g l (rmd 6 0 0) XX (QM g (rsZ' (pArg (crF K V) (gn c) 7 (nI G + nI i) j Q1 Q2 Q3 Q4) 7 F i J len K V P c a) 0 0) RX8 cX8_readsStep 4 none 34 [some (.ref 167), some (.int (nI i)), some (.int (10 * nI i)), some (.int 6)] [] (St (mt F1 nx tk pl vl (-1)) J) 0 0 := by
  have hR1 := kpT_RD hk hR
  have hA1 : AT (bm F1 len) len K V P c a j nx tk pl vl := by rw [kpT_AT hk]; exact hA
  have hP := hR.2.2.2.2.2
  refine g_iload_n 35 dX8_readsStep_34 rfl rfl ?_
  refine g_iconst (5) 36 dX8_readsStep_35 rfl (by decide) ?_
  refine g_icmp_ge 60 39 dX8_readsStep_36 rfl (by decide) (fun h36 => ?_) (fun h36 => ?_)
  · refine g_iload_n 61 dX8_readsStep_60 rfl rfl ?_
    refine g_if_ne 88 64 dX8_readsStep_61 rfl (by decide) (fun h61 => ?_) (fun h61 => ?_)
    · refine g_iload_n 89 dX8_readsStep_88 rfl rfl ?_
      refine g_iconst (1) 90 dX8_readsStep_89 rfl (by decide) ?_
      refine g_icmp_eq 98 93 dX8_readsStep_90 rfl (by decide) (fun h90 => ?_) (fun h90 => ?_)
      · exact absurd h90 (by decide)
      · refine g_iload_n 94 dX8_readsStep_93 rfl rfl ?_
        refine g_iconst (2) 95 dX8_readsStep_94 rfl (by decide) ?_
        refine g_icmp_ne 125 98 dX8_readsStep_95 rfl (by decide) (fun h95 => ?_) (fun h95 => ?_)
        · refine g_iload_n 126 dX8_readsStep_125 rfl rfl ?_
          refine g_iconst (4) 127 dX8_readsStep_126 rfl (by decide) ?_
          refine g_icmp_eq 141 130 dX8_readsStep_127 rfl (by decide) (fun h127 => ?_) (fun h127 => ?_)
          · exact absurd h127 (by decide)
          · refine g_iload_n 131 dX8_readsStep_130 rfl rfl ?_
            refine g_iconst (5) 132 dX8_readsStep_131 rfl (by decide) ?_
            refine g_icmp_eq 141 135 dX8_readsStep_132 rfl (by decide) (fun h132 => ?_) (fun h132 => ?_)
            · exact absurd h132 (by decide)
            · refine g_iload_n 136 dX8_readsStep_135 rfl rfl ?_
              refine g_bipush (6) 138 dX8_readsStep_136 rfl (by decide) ?_
              refine g_icmp_ne 156 141 dX8_readsStep_138 rfl (by decide) (fun h138 => ?_) (fun h138 => ?_)
              · exact absurd h138 (by decide)
              · refine g_aload_n 142 dX8_readsStep_141 rfl rfl ?_
                refine gf_8_15 145 dX8_readsStep_142 rfl kf_X8_26 ?_
                refine g_iload_n 146 dX8_readsStep_145 rfl rfl ?_
                refine g_iconst (2) 147 dX8_readsStep_146 rfl (by decide) ?_
                refine g_iadd 148 dX8_readsStep_147 rfl ?_
                refine g_aload_n 149 dX8_readsStep_148 rfl rfl ?_
                refine g_v0 8 152 dX8_readsStep_149 rfl kl_X8_115 mv_X8_takesLetter rfl ⟨Nat.le_of_ble_eq_true rfl, Nat.le_of_ble_eq_true rfl⟩ (Nat.le_of_ble_eq_true rfl) (by first | decide | assumption | exact ⟨Nat.le_of_ble_eq_true rfl, rfl⟩) (m_takesLetter g l F1 J hR1 hA1) ?_
                rintro r S2 (⟨h1, rfl, nx2, tk2, pl2, vl2, rfl, hA2⟩ | ⟨h1, rfl, nx2, tk2, pl2, vl2, rfl⟩)
                · refine ga_ist (10 * i + 2) 153 dX8_readsStep_152 rfl (by first | decide | assumption | exact ⟨Nat.le_of_ble_eq_true rfl, rfl⟩) (ix10 i 2) (show 10 * i + 2 < 240 by omega) ?_
                  refine g_goto 173 dX8_readsStep_153 (by decide) ?_
                  refine gs_at (congrArg (fun x => St x J) (mt_up (by decide))) ?_
                  have ey : (pArg (crF K V) (gn c) 7 (nI G + nI i) j Q1 Q2 Q3 Q4) = ((pTok (crF K V) (gn c) 1 j).1, (pTok (crF K V) (gn c) 1 j).2, Q1, V j, Q3, Q4) := by rw [pArg, if_neg (by decide), if_pos (by decide)]; rfl
                  have ej : (pArg (crF K V) (gn c) 7 (nI G + nI i) j Q1 Q2 Q3 Q4).2.1 = (pTok (crF K V) (gn c) 1 j).2 := by rw [ey]
                  have hk3 : kpT F (up2 F1 171 (10 * i + 2) (V j)) i := kpT_up hk 2 (by decide) _
                  refine rs_stop g l hi F J hR hk3 (by rw [ej, ← kpT_AT hk]; exact hA2) (by rw [ey]; exact h1) ?_ _
                  rw [ey]
                  refine ⟨?_, fun z => absurd z (show ¬ ((7 : Int32) = 1 ∨ (7 : Int32) = 2 ∨ (7 : Int32) = 3 ∨ (7 : Int32) = 4 ∨ (7 : Int32) = 5) by decide), fun _ => ?_, fun z => absurd z (show ¬ (7 : Int32) = 8 by decide)⟩
                  · rw [up_at, if_neg (by omega), h0]; rfl
                  · rw [up_at, if_pos rfl]
                · refine ga_ist (10 * i + 2) 153 dX8_readsStep_152 rfl (by first | decide | assumption | exact ⟨Nat.le_of_ble_eq_true rfl, rfl⟩) (ix10 i 2) (show 10 * i + 2 < 240 by omega) ?_
                  refine g_goto 173 dX8_readsStep_153 (by decide) ?_
                  refine gs_at (congrArg (fun x => St x J) (mt_up (by decide))) ?_
                  have ey : (pArg (crF K V) (gn c) 7 (nI G + nI i) j Q1 Q2 Q3 Q4) = ((pTok (crF K V) (gn c) 1 j).1, (pTok (crF K V) (gn c) 1 j).2, Q1, V j, Q3, Q4) := by rw [pArg, if_neg (by decide), if_pos (by decide)]; rfl
                  have ej : (pArg (crF K V) (gn c) 7 (nI G + nI i) j Q1 Q2 Q3 Q4).2.1 = (pTok (crF K V) (gn c) 1 j).2 := by rw [ey]
                  have hk3 : kpT F (up2 F1 171 (10 * i + 2) 0) i := kpT_up hk 2 (by decide) _
                  refine gs_at (congrArg (fun x => St (mt (up2 F1 171 (10 * i + 2) 0) nx2 tk2 pl2 vl2 (P x)) J) ej.symm) ?_
                  exact rs_ill g l hi F J len K V P c a hk3 _ _ _ _ (by rw [ej]; exact hP _ (pTok_lt 1 hA.1)) (by rw [ey]; exact h1) _
        · exact absurd h95 (by decide)
    · exact absurd h61 (by decide)
  · exact absurd h36 (by decide)

set_option maxRecDepth 100000 in
set_option maxHeartbeats 4000000 in
theorem rs_k8 (g : Gl) (l : Launch) (F : Nat → Nat → Int32) (J : Nat → Int64) {len : Nat} {K V P : Nat → Int32} {c : Nat} {a : Nat → Nat} (hR : RD F len K V P c a) {G i : Nat} (hi : i < 24) (hG : F 167 9 = nI G) {F1 : Nat → Nat → Int32} (hk : kpT F F1 i) (h0 : F1 171 (10 * i + 0) = 7) {j : Nat} {nx tk pl vl : Int32} (hA : AT (bm F len) len K V P c a j nx tk pl vl) {Q1 Q2 : Int32} {Q3 : Nat → Int32} {Q4 : Int32} {XX : State → Method → Prop} : Gj g l (rmd 6 0 0) XX (QM g (rsZ' (pArg (crF K V) (gn c) 8 (nI G + nI i) j Q1 Q2 Q3 Q4) 8 F i J len K V P c a) 0 0) RX8 cX8_readsStep 4 none 34 [some (.ref 167), some (.int (nI i)), some (.int (10 * nI i)), some (.int 7)] [] (St (mt F1 nx tk pl vl (-1)) J) 0 0 := by
  have hR1 := kpT_RD hk hR
  have hA1 : AT (bm F1 len) len K V P c a j nx tk pl vl := by rw [kpT_AT hk]; exact hA
  have hP := hR.2.2.2.2.2
  refine g_iload_n 35 dX8_readsStep_34 rfl rfl ?_
  refine g_iconst (5) 36 dX8_readsStep_35 rfl (by decide) ?_
  refine g_icmp_ge 60 39 dX8_readsStep_36 rfl (by decide) (fun h36 => ?_) (fun h36 => ?_)
  · refine g_iload_n 61 dX8_readsStep_60 rfl rfl ?_
    refine g_if_ne 88 64 dX8_readsStep_61 rfl (by decide) (fun h61 => ?_) (fun h61 => ?_)
    · refine g_iload_n 89 dX8_readsStep_88 rfl rfl ?_
      refine g_iconst (1) 90 dX8_readsStep_89 rfl (by decide) ?_
      refine g_icmp_eq 98 93 dX8_readsStep_90 rfl (by decide) (fun h90 => ?_) (fun h90 => ?_)
      · exact absurd h90 (by decide)
      · refine g_iload_n 94 dX8_readsStep_93 rfl rfl ?_
        refine g_iconst (2) 95 dX8_readsStep_94 rfl (by decide) ?_
        refine g_icmp_ne 125 98 dX8_readsStep_95 rfl (by decide) (fun h95 => ?_) (fun h95 => ?_)
        · refine g_iload_n 126 dX8_readsStep_125 rfl rfl ?_
          refine g_iconst (4) 127 dX8_readsStep_126 rfl (by decide) ?_
          refine g_icmp_eq 141 130 dX8_readsStep_127 rfl (by decide) (fun h127 => ?_) (fun h127 => ?_)
          · exact absurd h127 (by decide)
          · refine g_iload_n 131 dX8_readsStep_130 rfl rfl ?_
            refine g_iconst (5) 132 dX8_readsStep_131 rfl (by decide) ?_
            refine g_icmp_eq 141 135 dX8_readsStep_132 rfl (by decide) (fun h132 => ?_) (fun h132 => ?_)
            · exact absurd h132 (by decide)
            · refine g_iload_n 136 dX8_readsStep_135 rfl rfl ?_
              refine g_bipush (6) 138 dX8_readsStep_136 rfl (by decide) ?_
              refine g_icmp_ne 156 141 dX8_readsStep_138 rfl (by decide) (fun h138 => ?_) (fun h138 => ?_)
              · refine g_iload_n 157 dX8_readsStep_156 rfl rfl ?_
                refine g_bipush (7) 159 dX8_readsStep_157 rfl (by decide) ?_
                refine g_icmp_ne 173 162 dX8_readsStep_159 rfl (by decide) (fun h159 => ?_) (fun h159 => ?_)
                · exact absurd h159 (by decide)
                · refine g_aload_n 163 dX8_readsStep_162 rfl rfl ?_
                  refine g_aload_n 164 dX8_readsStep_163 rfl rfl ?_
                  refine gf_8_15 167 dX8_readsStep_164 rfl kf_X8_26 ?_
                  refine g_iload_n 168 dX8_readsStep_167 rfl rfl ?_
                  refine g_iconst (3) 169 dX8_readsStep_168 rfl (by decide) ?_
                  refine g_iadd 170 dX8_readsStep_169 rfl ?_
                  refine gst_at (ix10 i 3) ?_
                  refine g_v2 8 173 dX8_readsStep_170 rfl kl_X8_102 mv_X8_readsLine rfl ⟨Nat.le_of_ble_eq_true rfl, Nat.le_of_ble_eq_true rfl⟩ (Nat.le_of_ble_eq_true rfl) (by first | decide | assumption | exact ⟨Nat.le_of_ble_eq_true rfl, rfl⟩) (m_readsLine g l F1 J hR1 (q := 171) (p := 10 * i + 3) (Or.inr rfl) (show 10 * i + 3 + 7 ≤ 240 by omega) hA1) ?_
                  rintro r S2 ⟨rfl, ⟨h1, u, ⟨nx2, tk2, pl2, vl2, rfl, hA2⟩, hu, hu6⟩ | ⟨h1, u, nx2, tk2, pl2, vl2, rfl⟩⟩
                  · have ey : (pArg (crF K V) (gn c) 8 (nI G + nI i) j Q1 Q2 Q3 Q4) = ((pLine (crF K V) (gn c) j).1, (pLine (crF K V) (gn c) j).2.1, Q1, Q2, (pLine (crF K V) (gn c) j).2.2.1, (pLine (crF K V) (gn c) j).2.2.2) := by rw [pArg, if_pos rfl]
                    have ej : (pArg (crF K V) (gn c) 8 (nI G + nI i) j Q1 Q2 Q3 Q4).2.1 = (pLine (crF K V) (gn c) j).2.1 := by rw [ey]
                    have hk3 : kpT F (rwF F1 171 (10 * i + 3) u) i := kpT_rw hk u
                    refine rs_stop g l hi F J hR hk3 (by rw [ej, ← kpT_AT hk3]; exact hA2) (by rw [ey]; exact h1) ?_ _
                    rw [ey]
                    refine ⟨?_, fun z => absurd z (show ¬ ((8 : Int32) = 1 ∨ (8 : Int32) = 2 ∨ (8 : Int32) = 3 ∨ (8 : Int32) = 4 ∨ (8 : Int32) = 5) by decide), fun z => absurd z (show ¬ ((8 : Int32) = 1 ∨ (8 : Int32) = 2 ∨ (8 : Int32) = 3 ∨ (8 : Int32) = 5 ∨ (8 : Int32) = 6 ∨ (8 : Int32) = 7) by decide), fun _ => ⟨fun b hb => ?_, ?_⟩⟩
                    · rw [rwF_out _ _ _ _ (by omega), h0]; rfl
                    · rw [rwF_in _ _ _ _ (by omega)]; exact hu b hb
                    · rw [rwF_in _ _ _ _ (by decide)]; exact hu6
                  · have ey : (pArg (crF K V) (gn c) 8 (nI G + nI i) j Q1 Q2 Q3 Q4) = ((pLine (crF K V) (gn c) j).1, (pLine (crF K V) (gn c) j).2.1, Q1, Q2, (pLine (crF K V) (gn c) j).2.2.1, (pLine (crF K V) (gn c) j).2.2.2) := by rw [pArg, if_pos rfl]
                    have ej : (pArg (crF K V) (gn c) 8 (nI G + nI i) j Q1 Q2 Q3 Q4).2.1 = (pLine (crF K V) (gn c) j).2.1 := by rw [ey]
                    have hk3 : kpT F (rwF F1 171 (10 * i + 3) u) i := kpT_rw hk u
                    refine gs_at (congrArg (fun x => St (mt (rwF F1 171 (10 * i + 3) u) nx2 tk2 pl2 vl2 (P x)) J) ej.symm) ?_
                    exact rs_ill g l hi F J len K V P c a hk3 _ _ _ _ (by rw [ej]; exact hP _ (pLine_lt hA.1)) (by rw [ey]; exact h1) _
              · exact absurd h138 (by decide)
        · exact absurd h95 (by decide)
    · exact absurd h61 (by decide)
  · exact absurd h36 (by decide)

theorem gl_3 {g : Gl} {l : Launch} {R : Room} {XX : State → Method → Prop} {QQ : List Frame → Array Value → State → State → Prop} {own : String} {cc : ByteArray} {nL : Nat} {ret : Option FieldType} {pc : Nat} {a b d : Option Value} {st : List Value} {S : Sg} {c1 s1 : Nat} {x x2 : Int32} (e : x = x2) (k : Gj g l R XX QQ own cc nL ret pc [a, b, d, some (.int x2)] st S c1 s1) : Gj g l R XX QQ own cc nL ret pc [a, b, d, some (.int x)] st S c1 s1 := e ▸ k
set_option maxRecDepth 100000 in
set_option maxHeartbeats 4000000 in
theorem m_readsStep (g : Gl) (l : Launch) (F : Nat → Nat → Int32) (J : Nat → Int64) {len : Nat} {K V P : Nat → Int32} {c : Nat} {a : Nat → Nat} (hR : RD F len K V P c a) {G i : Nat} (hi : i < 24) (hG : F 167 9 = nI G) {j : Nat} {nx tk pl vl : Int32} (hA : AT (bm F len) len K V P c a j nx tk pl vl) (Q1 Q2 : Int32) (Q3 : Nat → Int32) (Q4 : Int32) : Ct g l yX8_readsStep cX8_readsStep 4 none 6 0 0 [.ref 167, .int (nI i)] (St (mt F nx tk pl vl (-1)) J) (rsZ' (pStep (crF K V) (gn c) (nI G + nI i) j Q1 Q2 Q3 Q4) (V j) F i J len K V P c a) := by
  have h7 := kR_iff hA.2.2.1 (t := 2) (k := 7) (Or.inr (Or.inl ⟨rfl, rfl⟩))
  refine Ct.of rfl (by decide) rfl (Nat.le_of_ble_eq_true rfl) ?_
  refine g_bipush (10) 2 dX8_readsStep_0 rfl (by decide) ?_
  refine g_iload_n 3 dX8_readsStep_2 rfl rfl ?_
  refine g_imul 4 dX8_readsStep_3 rfl ?_
  refine g_istore_n 5 dX8_readsStep_4 rfl (by decide) ?_
  refine g_aload_n 6 dX8_readsStep_5 rfl rfl ?_
  refine g_iconst (2) 7 dX8_readsStep_6 rfl (by decide) ?_
  refine g_v1 8 10 dX8_readsStep_7 rfl kl_X8_84 mv_X8_isToken rfl ⟨Nat.le_of_ble_eq_true rfl, Nat.le_of_ble_eq_true rfl⟩ (Nat.le_of_ble_eq_true rfl) (by first | decide | assumption | exact ⟨Nat.le_of_ble_eq_true rfl, rfl⟩) (m_isTok g l F J _ _ _ _ _) ?_
  rintro _ _ ⟨rfl, rfl⟩
  refine g_if_ne 18 13 dX8_readsStep_10 rfl (by decide) (fun h10 => ?_) (fun h10 => ?_)
  · have hK : K j = 7 := h7.mp (b10n h10)
    have hvl : vl + 1 = V j := (kR_m hA.2.2.1).2.2.2.2 hK
    refine g_aload_n 19 dX8_readsStep_18 rfl rfl ?_
    refine gf_8_6 22 dX8_readsStep_19 rfl kf_X8_74 (by first | decide | assumption | exact ⟨Nat.le_of_ble_eq_true rfl, rfl⟩) ?_
    refine gst_at (x2 := vl) rfl ?_
    refine g_istore_n 23 dX8_readsStep_22 rfl (by decide) ?_
    refine g_aload_n 24 dX8_readsStep_23 rfl rfl ?_
    refine gf_8_15 27 dX8_readsStep_24 rfl kf_X8_26 ?_
    refine g_iload_n 28 dX8_readsStep_27 rfl rfl ?_
    refine g_iload_n 29 dX8_readsStep_28 rfl rfl ?_
    refine ga_ist (10 * i + 0) 30 dX8_readsStep_29 rfl (by first | decide | assumption | exact ⟨Nat.le_of_ble_eq_true rfl, rfl⟩) (ix10_0 i) (show 10 * i + 0 < 240 by omega) ?_
    refine gs_at (congrArg (fun x => St x J) (mt_up (by decide))) ?_
    have hk2 : kpT F (up2 F 171 (10 * i + 0) vl) i := kpT_up (kpT_r F i) 0 (by decide) vl
    generalize hF1 : up2 F 171 (10 * i + 0) vl = F1 at hk2 ⊢
    have hR1 := kpT_RD hk2 hR
    have hA1 : AT (bm F1 len) len K V P c a j nx tk pl vl := by rw [kpT_AT hk2]; exact hA
    refine g_aload_n 31 dX8_readsStep_30 rfl rfl ?_
    refine g_v0 8 34 dX8_readsStep_31 rfl kl_X8_88 mv_X8_advances rfl ⟨Nat.le_of_ble_eq_true rfl, Nat.le_of_ble_eq_true rfl⟩ (Nat.le_of_ble_eq_true rfl) (by first | decide | assumption | exact ⟨Nat.le_of_ble_eq_true rfl, rfl⟩) (m_adv g l F1 J hR1 hA1 (by rw [hK]; decide) (by rw [hK]; decide) 0) ?_
    rintro _ S2 ⟨rfl, nx2, tk2, pl2, vl2, rfl, hA3⟩
    rw [kpT_AT hk2] at hA3
    have ey : (pStep (crF K V) (gn c) (nI G + nI i) j Q1 Q2 Q3 Q4) = pArg (crF K V) (gn c) (V j) (nI G + nI i) (gn c j) Q1 Q2 Q3 Q4 := by rw [pStep, pTok_p hK, if_pos rfl]; rfl
    rw [ey]
    obtain ⟨b, hb1, hb8, hVb⟩ := (hR.2.2.2.2.1 j hA.1).2 hK
    have hv : vl = nI (b - 1) := by
      have e : vl = V j - 1 := by rw [← hvl, Int32.add_sub_cancel]
      rw [e, hVb, show b = (b - 1) + 1 by omega, nI_pred]; rfl
    have hb : b = 1 ∨ b = 2 ∨ b = 3 ∨ b = 4 ∨ b = 5 ∨ b = 6 ∨ b = 7 ∨ b = 8 := by omega
    have h0 : F1 171 (10 * i + 0) = nI (b - 1) := by rw [← hF1, up_at, if_pos rfl, hv]
    rw [hVb]
    refine gl_3 hv ?_
    rcases hb with h | h | h | h | h | h | h | h <;> subst h
    · exact rs_k1 g l F J hR hi hG hk2 h0 hA3
    · exact rs_k2 g l F J hR hi hG hk2 h0 hA3
    · exact rs_k3 g l F J hR hi hG hk2 h0 hA3
    · exact rs_k4 g l F J hR hi hG hk2 h0 hA3
    · exact rs_k5 g l F J hR hi hG hk2 h0 hA3
    · exact rs_k6 g l F J hR hi hG hk2 h0 hA3
    · exact rs_k7 g l F J hR hi hG hk2 h0 hA3
    · exact rs_k8 g l F J hR hi hG hk2 h0 hA3
  · refine g_aload_n 14 dX8_readsStep_13 rfl rfl ?_
    refine g_v0 8 17 dX8_readsStep_14 rfl kl_X8_91 mv_X8_fails rfl ⟨Nat.le_of_ble_eq_true rfl, Nat.le_of_ble_eq_true rfl⟩ (Nat.le_of_ble_eq_true rfl) (by first | decide | assumption | exact ⟨Nat.le_of_ble_eq_true rfl, rfl⟩) (m_fails g l F J _ _ _ _) ?_
    rintro _ _ ⟨rfl, rfl⟩
    refine g_vret dX8_readsStep_17 ?_
    have ey : (pStep (crF K V) (gn c) (nI G + nI i) j Q1 Q2 Q3 Q4) = (false, j, Q1, Q2, Q3, Q4) := by rw [pStep, pTok_n (fun z => b10.mp h10 (h7.mpr z)), if_neg (fun z => Bool.noConfusion z)]
    rw [ey]
    exact ⟨rfl, Or.inr (Or.inr ⟨rfl, F, ⟨nx, tk, pl, vl, by rw [hA.2.1]⟩, kpT_r F i⟩)⟩

