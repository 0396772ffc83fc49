/-! the reference: what it is asked (3) -/
theorem nand2 {a b c d : Int32} (h : ¬ (¬ a < b ∧ ¬ c < d)) : a < b ∨ c < d := by
  by_cases x : a < b
  · exact Or.inl x
  · by_cases y : c < d
    · exact Or.inr y
    · exact absurd ⟨x, y⟩ h
theorem co_ok {a v : Int32} : ((¬ a < 0 ∧ ¬ 5 < a) ∧ (¬ v < 0 ∧ ¬ 99 < v)) ↔ (¬ a < 0 ∧ ¬ 6 ≤ a ∧ ¬ v < 0 ∧ v ≤ 99) := by
  rw [Int32.lt_iff_toInt_lt, Int32.lt_iff_toInt_lt, Int32.lt_iff_toInt_lt, Int32.lt_iff_toInt_lt, Int32.le_iff_toInt_le, Int32.le_iff_toInt_le]
  have a0 : (0 : Int32).toInt = 0 := rfl
  have a5 : (5 : Int32).toInt = 5 := rfl
  have a6 : (6 : Int32).toInt = 6 := rfl
  have a9 : (99 : Int32).toInt = 99 := rfl
  rw [a0, a5, a6, a9]; omega
set_option maxRecDepth 100000 in
set_option maxHeartbeats 4000000 in
theorem m_cost (g : Gl) (l : Launch) (a v : Int32) (F : Nat → Nat → Int32) (J : Nat → Int64) (hT : F 167 0 = 0) : Ct g l yX8_cost cX8_cost 4 (some .int) 1 0 0 [.ref 167, .int a, .int v] (St F J) (fun r S2 => r = some (.int (costA (F 172) a v)) ∧ S2 = St (setR F 172 (costC (F 172) a v)) J) := by
  refine Ct.of rfl (by decide) rfl (Nat.le_of_ble_eq_true rfl) ?_
  refine g_aload_n 1 dX8_cost_0 rfl rfl ?_
  refine g_iconst (0) 2 dX8_cost_1 rfl (by decide) ?_
  refine gp_8_0 5 dX8_cost_2 rfl kf_X8_35 (by first | decide | assumption | exact ⟨Nat.le_of_ble_eq_true rfl, rfl⟩) ?_
  refine gs_at (congrArg (fun x => St x J) (thr hT)) ?_
  refine g_iload_n 6 dX8_cost_5 rfl rfl ?_
  refine g_iconst (0) 7 dX8_cost_6 rfl (by decide) ?_
  refine g_iconst (5) 8 dX8_cost_7 rfl (by decide) ?_
  refine g_s3 11 dX8_cost_8 rfl kl_X8_38 ms_X8_in ⟨Nat.le_of_ble_eq_true rfl, Nat.le_of_ble_eq_true rfl⟩ (Nat.le_of_ble_eq_true rfl) (m_in g l _ _ _ _) ?_
  rintro _ _ ⟨rfl, rfl⟩
  refine g_if_eq 24 14 dX8_cost_11 rfl (by decide) (fun h11 => ?_) (fun h11 => ?_)
  · refine g_iconst (-1) 25 dX8_cost_24 rfl (by decide) ?_
    refine g_iret dX8_cost_25 ?_
    have hc : ¬ (¬ a < 0 ∧ ¬ 6 ≤ a ∧ ¬ v < 0 ∧ v ≤ 99) := fun z => b10.mp h11 (co_ok.mpr z).1
    exact ⟨by rw [costA, if_neg hc], by rw [costC, if_neg hc, setR_id]⟩
  · refine g_iload_n 15 dX8_cost_14 rfl rfl ?_
    refine g_iconst (0) 16 dX8_cost_15 rfl (by decide) ?_
    refine g_bipush (99) 18 dX8_cost_16 rfl (by decide) ?_
    refine g_s3 21 dX8_cost_18 rfl kl_X8_38 ms_X8_in ⟨Nat.le_of_ble_eq_true rfl, Nat.le_of_ble_eq_true rfl⟩ (Nat.le_of_ble_eq_true rfl) (m_in g l _ _ _ _) ?_
    rintro _ _ ⟨rfl, rfl⟩
    refine g_if_ne 26 24 dX8_cost_21 rfl (by decide) (fun h21 => ?_) (fun h21 => ?_)
    · have hc := co_ok.mp ⟨b10n h11, b10n h21⟩
      obtain ⟨b, hb, eb, cb⟩ := a_in hc.1 hc.2.1
      subst eb
      refine g_aload_n 27 dX8_cost_26 rfl rfl ?_
      refine gf_8_18 30 dX8_cost_27 rfl kf_X8_29 ?_
      refine g_iload_n 31 dX8_cost_30 rfl rfl ?_
      refine ga_ild (b) 32 dX8_cost_31 rfl (by first | decide | assumption | exact ⟨Nat.le_of_ble_eq_true rfl, rfl⟩) rfl hb ?_
      refine g_istore_n 33 dX8_cost_32 rfl (by decide) ?_
      refine g_aload_n 34 dX8_cost_33 rfl rfl ?_
      refine gf_8_18 37 dX8_cost_34 rfl kf_X8_29 ?_
      refine g_iload_n 38 dX8_cost_37 rfl rfl ?_
      refine g_iload_n 39 dX8_cost_38 rfl rfl ?_
      refine ga_ist (b) 40 dX8_cost_39 rfl (by first | decide | assumption | exact ⟨Nat.le_of_ble_eq_true rfl, rfl⟩) rfl hb ?_
      refine g_iload_n 41 dX8_cost_40 rfl rfl ?_
      refine g_iret dX8_cost_41 ?_
      exact ⟨by rw [costA, if_pos hc, cb], by rw [costC, if_pos hc, cb]; rfl⟩
    · refine g_iconst (-1) 25 dX8_cost_24 rfl (by decide) ?_
      refine g_iret dX8_cost_25 ?_
      have hc : ¬ (¬ a < 0 ∧ ¬ 6 ≤ a ∧ ¬ v < 0 ∧ v ≤ 99) := fun z => b10.mp h21 (co_ok.mpr z).2
      exact ⟨by rw [costA, if_neg hc], by rw [costC, if_neg hc, setR_id]⟩

set_option maxRecDepth 100000 in
set_option maxHeartbeats 4000000 in
theorem lm_least_in (g : Gl) (l : Launch) (what bs fw : Int32) (i : Nat) (F : Nat → Nat → Int32) (J : Nat → Int64) {G P : Nat} (hS : mS F G P) {XX : State → Method → Prop} (n : Nat) : ∀ (j : Nat) (jx x : Int32), j + n = 6 → jx = nI j → x = cos (F 172) (nI i) j → (∀ x8, Gj g l (rmd 6 0 0) XX (QM g (fun r S2 => r = some (.int (leastA G (Wm F) (Dm F) (F 172) what)) ∧ S2 = St F J) 0 0) RX8 cX8_least 9 (some .int) 84 [some (.ref 167), some (.int what), some (.long (tws (Wm F) (Dm F) G)), none, some (.int bs), some (.int fw), some (.int (nI i)), some (.int (cos (F 172) (nI i) 6)), x8] [] (St F J) 0 0) → Gj g l (rmd 6 0 0) XX (QM g (fun r S2 => r = some (.int (leastA G (Wm F) (Dm F) (F 172) what)) ∧ S2 = St F J) 0 0) RX8 cX8_least 9 (some .int) 44 [some (.ref 167), some (.int what), some (.long (tws (Wm F) (Dm F) G)), none, some (.int bs), some (.int fw), some (.int (nI i)), some (.int x), some (.int jx)] [] (St F J) 0 0 := by
  obtain ⟨hG, hP, hT, hG8, hP24⟩ := hS
  induction n with
  | zero =>
    intro j jx x hi hx he kk
    obtain rfl : j = 6 := by omega
    subst hx; subst he
    refine g_iload 46 dX8_least_44 rfl rfl ?_
    refine g_bipush (6) 48 dX8_least_46 rfl (by decide) ?_
    refine g_icmp_ge 84 51 dX8_least_48 rfl (by decide) (fun h48 => ?_) (fun h48 => ?_)
    · exact kk _
    · exact absurd (by decide) h48
  | succ n ih =>
    intro j jx x hi hx he kk
    subst hx
    refine g_iload 46 dX8_least_44 rfl rfl ?_
    refine g_bipush (6) 48 dX8_least_46 rfl (by decide) ?_
    refine g_icmp_ge 84 51 dX8_least_48 rfl (by decide) (fun h48 => ?_) (fun h48 => ?_)
    · exact absurd h48 (lt6 (by omega))
    · refine g_iload 53 dX8_least_51 rfl rfl ?_
      refine g_iload 55 dX8_least_53 rfl rfl ?_
      refine g_iload 57 dX8_least_55 rfl rfl ?_
      refine g_ishr 58 dX8_least_57 rfl ?_
      refine g_iconst (1) 59 dX8_least_58 rfl (by decide) ?_
      refine g_iand 60 dX8_least_59 rfl ?_
      refine g_iconst (1) 61 dX8_least_60 rfl (by decide) ?_
      refine g_icmp_ne 74 64 dX8_least_61 rfl (by decide) (fun h61 => ?_) (fun h61 => ?_)
      · refine g_iconst (0) 75 dX8_least_74 rfl (by decide) ?_
        refine g_iadd 76 dX8_least_75 rfl ?_
        refine g_istore 78 dX8_least_76 rfl (by decide) ?_
        refine g_iinc (1) 81 dX8_least_78 rfl (by decide) (by decide) rfl ?_
        refine g_goto 44 dX8_least_81 (by decide) ?_
        exact ih (j + 1) _ _ (by omega) (nI_succ j).symm (by rw [cos, ← he, if_neg h61, Int32.add_zero]) kk
      · refine g_aload_n 65 dX8_least_64 rfl rfl ?_
        refine gf_8_18 68 dX8_least_65 rfl kf_X8_29 ?_
        refine g_iload 70 dX8_least_68 rfl rfl ?_
        refine ga_ild (j) 71 dX8_least_70 rfl (by first | decide | assumption | exact ⟨Nat.le_of_ble_eq_true rfl, rfl⟩) rfl (show j < 6 by omega) ?_
        refine g_goto 75 dX8_least_71 (by decide) ?_
        refine g_iadd 76 dX8_least_75 rfl ?_
        refine g_istore 78 dX8_least_76 rfl (by decide) ?_
        refine g_iinc (1) 81 dX8_least_78 rfl (by decide) (by decide) rfl ?_
        refine g_goto 44 dX8_least_81 (by decide) ?_
        exact ih (j + 1) _ _ (by omega) (nI_succ j).symm (by rw [cos, ← he, if_pos h61]) kk

theorem chs_in (t : Int64) (C : Nat → Int32) : ∀ s, s ≤ 64 → chs t C s = -9 ∨ ∃ b, b < 64 ∧ chs t C s = nI b
  | 0, _ => Or.inl rfl
  | s + 1, hs => by
    rw [chs]
    split
    · exact Or.inr ⟨s, by omega, rfl⟩
    · exact chs_in t C s (by omega)
set_option maxRecDepth 100000 in
set_option maxHeartbeats 4000000 in
theorem lm_least (g : Gl) (l : Launch) (what : Int32) (hw : ¬ what < 0 ∧ what ≤ 1) (F : Nat → Nat → Int32) (J : Nat → Int64) {G P : Nat} (hS : mS F G P) {XX : State → Method → Prop} (n : Nat) : ∀ (i : Nat) (ix bs fw : Int32) (x7 x8 : Option Value), i + n = 64 → ix = nI i → bs = chs (tws (Wm F) (Dm F) G) (F 172) i → (¬ bs = -9 → fw = cos (F 172) bs 6) → Gj g l (rmd 6 0 0) XX (QM g (fun r S2 => r = some (.int (leastA G (Wm F) (Dm F) (F 172) what)) ∧ S2 = St F J) 0 0) RX8 cX8_least 9 (some .int) 31 [some (.ref 167), some (.int what), some (.long (tws (Wm F) (Dm F) G)), none, some (.int bs), some (.int fw), some (.int ix), x7, x8] [] (St F J) 0 0 := by
  obtain ⟨hG, hP, hT, hG8, hP24⟩ := hS
  induction n with
  | zero =>
    intro i ix bs fw x7 x8 hi hx he hf
    obtain rfl : i = 64 := by omega
    subst hx; subst he
    refine g_iload 33 dX8_least_31 rfl rfl ?_
    refine g_bipush (64) 35 dX8_least_33 rfl (by decide) ?_
    refine g_icmp_ge 123 38 dX8_least_35 rfl (by decide) (fun h35 => ?_) (fun h35 => ?_)
    · refine g_iload 125 dX8_least_123 rfl rfl ?_
      refine g_bipush (-9) 127 dX8_least_125 rfl (by decide) ?_
      refine g_icmp_eq 134 130 dX8_least_127 rfl (by decide) (fun h127 => ?_) (fun h127 => ?_)
      · refine g_iload 136 dX8_least_134 rfl rfl ?_
        refine g_goto 141 dX8_least_136 (by decide) ?_
        refine g_iret dX8_least_141 ?_
        exact ⟨by rw [leastA, if_pos hw, if_pos (Or.inr h127)], rfl⟩
      · refine g_iload_n 131 dX8_least_130 rfl rfl ?_
        refine g_if_ne 139 134 dX8_least_131 rfl (by decide) (fun h131 => ?_) (fun h131 => ?_)
        · refine g_iload 141 dX8_least_139 rfl rfl ?_
          refine g_iret dX8_least_141 ?_
          exact ⟨by rw [leastA, if_pos hw, if_neg (fun z => z.elim h131 h127)]; rw [hf h127], rfl⟩
        · refine g_iload 136 dX8_least_134 rfl rfl ?_
          refine g_goto 141 dX8_least_136 (by decide) ?_
          refine g_iret dX8_least_141 ?_
          exact ⟨by rw [leastA, if_pos hw, if_pos (Or.inl h131)], rfl⟩
    · exact absurd (by decide) h35
  | succ n ih =>
    intro i ix bs fw x7 x8 hi hx he hf
    subst hx
    refine g_iload 33 dX8_least_31 rfl rfl ?_
    refine g_bipush (64) 35 dX8_least_33 rfl (by decide) ?_
    refine g_icmp_ge 123 38 dX8_least_35 rfl (by decide) (fun h35 => ?_) (fun h35 => ?_)
    · exact absurd h35 (lt64 (by omega))
    · refine g_iconst (0) 39 dX8_least_38 rfl (by decide) ?_
      refine g_istore 41 dX8_least_39 rfl (by decide) ?_
      refine g_iconst (0) 42 dX8_least_41 rfl (by decide) ?_
      refine g_istore 44 dX8_least_42 rfl (by decide) ?_
      refine lm_least_in g l what bs fw i F J ⟨hG, hP, hT, hG8, hP24⟩ 6 0 _ _ rfl rfl rfl (fun x8 => ?_)
      refine g_lload_n 85 dX8_least_84 rfl rfl ?_
      refine g_iload 87 dX8_least_85 rfl rfl ?_
      refine g_lshr 88 dX8_least_87 rfl ?_
      refine g_lconst (1) 89 dX8_least_88 rfl (by decide) ?_
      refine g_land 90 dX8_least_89 rfl ?_
      refine g_lconst (1) 91 dX8_least_90 rfl (by decide) ?_
      refine g_lc_ne 117 95 dX8_least_91 dX8_least_92 rfl (by decide) (fun h91 => ?_) (fun h91 => ?_)
      · refine g_iinc (1) 120 dX8_least_117 rfl (by decide) (by decide) rfl ?_
        refine g_goto 31 dX8_least_120 (by decide) ?_
        exact ih (i + 1) _ _ _ _ _ (by omega) (nI_succ i).symm (by rw [chs, ← he, if_neg (fun z => h91 ((has_eq _ (by omega)).mpr z.1))]) hf
      · refine g_iload 97 dX8_least_95 rfl rfl ?_
        refine g_bipush (-9) 99 dX8_least_97 rfl (by decide) ?_
        refine g_icmp_eq 109 102 dX8_least_99 rfl (by decide) (fun h99 => ?_) (fun h99 => ?_)
        · refine g_iload 111 dX8_least_109 rfl rfl ?_
          refine g_istore 113 dX8_least_111 rfl (by decide) ?_
          refine g_iload 115 dX8_least_113 rfl rfl ?_
          refine g_istore 117 dX8_least_115 rfl (by decide) ?_
          refine g_iinc (1) 120 dX8_least_117 rfl (by decide) (by decide) rfl ?_
          refine g_goto 31 dX8_least_120 (by decide) ?_
          exact ih (i + 1) _ _ _ _ _ (by omega) (nI_succ i).symm (by rw [chs, ← he, if_pos ⟨(has_eq _ (by omega)).mp h91, Or.inl h99⟩]) (fun _ => rfl)
        · refine g_iload 104 dX8_least_102 rfl rfl ?_
          refine g_iload 106 dX8_least_104 rfl rfl ?_
          refine g_icmp_ge 117 109 dX8_least_106 rfl (by decide) (fun h106 => ?_) (fun h106 => ?_)
          · refine g_iinc (1) 120 dX8_least_117 rfl (by decide) (by decide) rfl ?_
            refine g_goto 31 dX8_least_120 (by decide) ?_
            exact ih (i + 1) _ _ _ _ _ (by omega) (nI_succ i).symm (by rw [chs, ← he, if_neg (fun z => z.2.elim h99 (fun y => y (by rw [← hf h99]; exact h106)))]) hf
          · refine g_iload 111 dX8_least_109 rfl rfl ?_
            refine g_istore 113 dX8_least_111 rfl (by decide) ?_
            refine g_iload 115 dX8_least_113 rfl rfl ?_
            refine g_istore 117 dX8_least_115 rfl (by decide) ?_
            refine g_iinc (1) 120 dX8_least_117 rfl (by decide) (by decide) rfl ?_
            refine g_goto 31 dX8_least_120 (by decide) ?_
            exact ih (i + 1) _ _ _ _ _ (by omega) (nI_succ i).symm (by rw [chs, ← he, if_pos ⟨(has_eq _ (by omega)).mp h91, Or.inr (by rw [← hf h99]; exact h106)⟩]) (fun _ => rfl)

set_option maxRecDepth 100000 in
set_option maxHeartbeats 4000000 in
theorem m_least (g : Gl) (l : Launch) (what : Int32) (F : Nat → Nat → Int32) (J : Nat → Int64) {G P : Nat} (hS : mS F G P) : Ct g l yX8_least cX8_least 9 (some .int) 6 0 0 [.ref 167, .int what] (St F J) (fun r S2 => r = some (.int (leastA G (Wm F) (Dm F) (F 172) what)) ∧ S2 = St F J) := by
  obtain ⟨hG, hP, hT, hG8, hP24⟩ := hS
  refine Ct.of rfl (by decide) rfl (Nat.le_of_ble_eq_true rfl) ?_
  refine g_aload_n 1 dX8_least_0 rfl rfl ?_
  refine g_iconst (0) 2 dX8_least_1 rfl (by decide) ?_
  refine gp_8_0 5 dX8_least_2 rfl kf_X8_35 (by first | decide | assumption | exact ⟨Nat.le_of_ble_eq_true rfl, rfl⟩) ?_
  refine gs_at (congrArg (fun x => St x J) (thr hT)) ?_
  refine g_iload_n 6 dX8_least_5 rfl rfl ?_
  refine g_iconst (0) 7 dX8_least_6 rfl (by decide) ?_
  refine g_iconst (1) 8 dX8_least_7 rfl (by decide) ?_
  refine g_s3 11 dX8_least_8 rfl kl_X8_38 ms_X8_in ⟨Nat.le_of_ble_eq_true rfl, Nat.le_of_ble_eq_true rfl⟩ (Nat.le_of_ble_eq_true rfl) (m_in g l _ _ _ _) ?_
  rintro _ _ ⟨rfl, rfl⟩
  refine g_if_ne 16 14 dX8_least_11 rfl (by decide) (fun h11 => ?_) (fun h11 => ?_)
  · have hq := b10n h11
    refine g_aload_n 17 dX8_least_16 rfl rfl ?_
    refine g_v0 8 20 dX8_least_17 rfl kl_X8_171 mv_X8_trueWorlds rfl ⟨Nat.le_of_ble_eq_true rfl, Nat.le_of_ble_eq_true rfl⟩ (Nat.le_of_ble_eq_true rfl) (by first | decide | assumption | exact ⟨Nat.le_of_ble_eq_true rfl, rfl⟩) (m_trueWorlds g l F J ⟨hG, hP, hT, hG8, hP24⟩) ?_
    rintro _ _ ⟨rfl, rfl⟩
    refine g_lstore_n 21 dX8_least_20 rfl (by decide) ?_
    refine g_bipush (-9) 23 dX8_least_21 rfl (by decide) ?_
    refine g_istore 25 dX8_least_23 rfl (by decide) ?_
    refine g_iconst (0) 26 dX8_least_25 rfl (by decide) ?_
    refine g_istore 28 dX8_least_26 rfl (by decide) ?_
    refine g_iconst (0) 29 dX8_least_28 rfl (by decide) ?_
    refine g_istore 31 dX8_least_29 rfl (by decide) ?_
    exact lm_least g l what ⟨hq.1, Int32.not_lt.mp hq.2⟩ F J ⟨hG, hP, hT, hG8, hP24⟩ 64 0 _ _ _ _ _ rfl rfl rfl (fun h => absurd rfl h)
  · refine g_iconst (-1) 15 dX8_least_14 rfl (by decide) ?_
    refine g_iret dX8_least_15 ?_
    exact ⟨by rw [leastA, if_neg (fun z => b10.mp h11 ⟨z.1, Int32.not_lt.mpr z.2⟩)], rfl⟩

def ctM (t : Int64) : Nat → Int32
  | 0 => 0
  | i + 1 => ctM t i + (t >>> ((nI i).toInt64 &&& 63) &&& 1).toInt32
def countM (G P T len : Nat) (W : Nat → Nat → Int32) (D : Nat → Int32) (what : Int32) : Int32 := if what = 0 then nI G else if what = 1 then nI P else if what = 2 then nI T else if what = 3 then ctM (tws W D G) 64 else if what = 4 then nI len else -1
set_option maxRecDepth 100000 in
set_option maxHeartbeats 4000000 in
theorem lm_count (g : Gl) (l : Launch) (what : Int32) (F : Nat → Nat → Int32) (J : Nat → Int64) {G P : Nat} (hS : mS F G P) {T len : Nat} (hTT : F 167 11 = nI T) (hl : F 167 2 = nI len) {XX : State → Method → Prop} (n : Nat) : ∀ (i : Nat) (ix x : Int32), i + n = 64 → ix = nI i → x = ctM (tws (Wm F) (Dm F) G) i → Gj g l (rmd 6 0 0) XX (QM g (fun r S2 => r = some (.int (countM G P T len (Wm F) (Dm F) what)) ∧ S2 = St F J) 0 0) RX8 cX8_count 6 (some .int) 16 [some (.ref 167), some (.int what), some (.long (tws (Wm F) (Dm F) G)), none, some (.int x), some (.int ix)] [] (St F J) 0 0 := by
  obtain ⟨hG, hP, hT, hG8, hP24⟩ := hS
  induction n with
  | zero =>
    intro i ix x hi hx he
    obtain rfl : i = 64 := by omega
    subst hx; subst he
    refine g_iload 18 dX8_count_16 rfl rfl ?_
    refine g_bipush (64) 20 dX8_count_18 rfl (by decide) ?_
    refine g_icmp_ge 41 23 dX8_count_20 rfl (by decide) (fun h20 => ?_) (fun h20 => ?_)
    · refine g_iload_n 42 dX8_count_41 rfl rfl ?_
      refine g_if_ne 52 45 dX8_count_42 rfl (by decide) (fun h42 => ?_) (fun h42 => ?_)
      · refine g_iload_n 53 dX8_count_52 rfl rfl ?_
        refine g_iconst (1) 54 dX8_count_53 rfl (by decide) ?_
        refine g_icmp_ne 64 57 dX8_count_54 rfl (by decide) (fun h54 => ?_) (fun h54 => ?_)
        · refine g_iload_n 65 dX8_count_64 rfl rfl ?_
          refine g_iconst (2) 66 dX8_count_65 rfl (by decide) ?_
          refine g_icmp_ne 76 69 dX8_count_66 rfl (by decide) (fun h66 => ?_) (fun h66 => ?_)
          · refine g_iload_n 77 dX8_count_76 rfl rfl ?_
            refine g_iconst (3) 78 dX8_count_77 rfl (by decide) ?_
            refine g_icmp_ne 86 81 dX8_count_78 rfl (by decide) (fun h78 => ?_) (fun h78 => ?_)
            · refine g_iload_n 87 dX8_count_86 rfl rfl ?_
              refine g_iconst (4) 88 dX8_count_87 rfl (by decide) ?_
              refine g_icmp_ne 98 91 dX8_count_88 rfl (by decide) (fun h88 => ?_) (fun h88 => ?_)
              · refine g_iconst (-1) 99 dX8_count_98 rfl (by decide) ?_
                refine g_iret dX8_count_99 ?_
                exact ⟨by rw [countM, if_neg h42, if_neg h54, if_neg h66, if_neg h78, if_neg h88], rfl⟩
              · refine g_aload_n 92 dX8_count_91 rfl rfl ?_
                refine gf_8_2 95 dX8_count_92 rfl kf_X8_42 (by first | decide | assumption | exact ⟨Nat.le_of_ble_eq_true rfl, rfl⟩) ?_
                refine g_goto 99 dX8_count_95 (by decide) ?_
                refine g_iret dX8_count_99 ?_
                exact ⟨by rw [countM, if_neg h42, if_neg h54, if_neg h66, if_neg h78, if_pos h88, hl], rfl⟩
            · refine g_iload 83 dX8_count_81 rfl rfl ?_
              refine g_goto 99 dX8_count_83 (by decide) ?_
              refine g_iret dX8_count_99 ?_
              exact ⟨by rw [countM, if_neg h42, if_neg h54, if_neg h66, if_pos h78], rfl⟩
          · refine g_aload_n 70 dX8_count_69 rfl rfl ?_
            refine gf_8_11 73 dX8_count_70 rfl kf_X8_112 (by first | decide | assumption | exact ⟨Nat.le_of_ble_eq_true rfl, rfl⟩) ?_
            refine g_goto 99 dX8_count_73 (by decide) ?_
            refine g_iret dX8_count_99 ?_
            exact ⟨by rw [countM, if_neg h42, if_neg h54, if_pos h66, hTT], rfl⟩
        · refine g_aload_n 58 dX8_count_57 rfl rfl ?_
          refine gf_8_10 61 dX8_count_58 rfl kf_X8_109 (by first | decide | assumption | exact ⟨Nat.le_of_ble_eq_true rfl, rfl⟩) ?_
          refine g_goto 99 dX8_count_61 (by decide) ?_
          refine g_iret dX8_count_99 ?_
          exact ⟨by rw [countM, if_neg h42, if_pos h54, hP], rfl⟩
      · refine g_aload_n 46 dX8_count_45 rfl rfl ?_
        refine gf_8_9 49 dX8_count_46 rfl kf_X8_106 (by first | decide | assumption | exact ⟨Nat.le_of_ble_eq_true rfl, rfl⟩) ?_
        refine g_goto 99 dX8_count_49 (by decide) ?_
        refine g_iret dX8_count_99 ?_
        exact ⟨by rw [countM, if_pos h42, hG], rfl⟩
    · exact absurd (by decide) h20
  | succ n ih =>
    intro i ix x hi hx he
    subst hx
    refine g_iload 18 dX8_count_16 rfl rfl ?_
    refine g_bipush (64) 20 dX8_count_18 rfl (by decide) ?_
    refine g_icmp_ge 41 23 dX8_count_20 rfl (by decide) (fun h20 => ?_) (fun h20 => ?_)
    · exact absurd h20 (lt64 (by omega))
    · refine g_iload 25 dX8_count_23 rfl rfl ?_
      refine g_lload_n 26 dX8_count_25 rfl rfl ?_
      refine g_iload 28 dX8_count_26 rfl rfl ?_
      refine g_lshr 29 dX8_count_28 rfl ?_
      refine g_lconst (1) 30 dX8_count_29 rfl (by decide) ?_
      refine g_land 31 dX8_count_30 rfl ?_
      refine g_l2i 32 dX8_count_31 rfl ?_
      refine g_iadd 33 dX8_count_32 rfl ?_
      refine g_istore 35 dX8_count_33 rfl (by decide) ?_
      refine g_iinc (1) 38 dX8_count_35 rfl (by decide) (by decide) rfl ?_
      refine g_goto 16 dX8_count_38 (by decide) ?_
      exact ih (i + 1) _ _ (by omega) (nI_succ i).symm (by rw [ctM, ← he])

set_option maxRecDepth 100000 in
set_option maxHeartbeats 4000000 in
theorem m_count (g : Gl) (l : Launch) (what : Int32) (F : Nat → Nat → Int32) (J : Nat → Int64) {G P : Nat} (hS : mS F G P) {T len : Nat} (hTT : F 167 11 = nI T) (hl : F 167 2 = nI len) : Ct g l yX8_count cX8_count 6 (some .int) 6 0 0 [.ref 167, .int what] (St F J) (fun r S2 => r = some (.int (countM G P T len (Wm F) (Dm F) what)) ∧ S2 = St F J) := by
  obtain ⟨hG, hP, hT, hG8, hP24⟩ := hS
  refine Ct.of rfl (by decide) rfl (Nat.le_of_ble_eq_true rfl) ?_
  refine g_aload_n 1 dX8_count_0 rfl rfl ?_
  refine g_iconst (0) 2 dX8_count_1 rfl (by decide) ?_
  refine gp_8_0 5 dX8_count_2 rfl kf_X8_35 (by first | decide | assumption | exact ⟨Nat.le_of_ble_eq_true rfl, rfl⟩) ?_
  refine gs_at (congrArg (fun x => St x J) (thr hT)) ?_
  refine g_aload_n 6 dX8_count_5 rfl rfl ?_
  refine g_v0 8 9 dX8_count_6 rfl kl_X8_171 mv_X8_trueWorlds rfl ⟨Nat.le_of_ble_eq_true rfl, Nat.le_of_ble_eq_true rfl⟩ (Nat.le_of_ble_eq_true rfl) (by first | decide | assumption | exact ⟨Nat.le_of_ble_eq_true rfl, rfl⟩) (m_trueWorlds g l F J ⟨hG, hP, hT, hG8, hP24⟩) ?_
  rintro _ _ ⟨rfl, rfl⟩
  refine g_lstore_n 10 dX8_count_9 rfl (by decide) ?_
  refine g_iconst (0) 11 dX8_count_10 rfl (by decide) ?_
  refine g_istore 13 dX8_count_11 rfl (by decide) ?_
  refine g_iconst (0) 14 dX8_count_13 rfl (by decide) ?_
  refine g_istore 16 dX8_count_14 rfl (by decide) ?_
  exact lm_count g l what F J ⟨hG, hP, hT, hG8, hP24⟩ hTT hl 64 0 _ _ rfl rfl rfl

set_option maxRecDepth 100000 in
set_option maxHeartbeats 4000000 in
theorem m_wrong (g : Gl) (l : Launch) (what : Int32) (F : Nat → Nat → Int32) (J : Nat → Int64) (hT : F 167 0 = 0) : Ct g l yX8_wrong cX8_wrong 2 (some .int) 0 0 0 [.ref 167, .int what] (St F J) (fun r S2 => r = some (.int (wrongA (F 167 12) (F 167 13) what)) ∧ S2 = St F J) := by
  refine Ct.of rfl (by decide) rfl (Nat.le_of_ble_eq_true rfl) ?_
  refine g_aload_n 1 dX8_wrong_0 rfl rfl ?_
  refine g_iconst (0) 2 dX8_wrong_1 rfl (by decide) ?_
  refine gp_8_0 5 dX8_wrong_2 rfl kf_X8_35 (by first | decide | assumption | exact ⟨Nat.le_of_ble_eq_true rfl, rfl⟩) ?_
  refine gs_at (congrArg (fun x => St x J) (thr hT)) ?_
  refine g_iload_n 6 dX8_wrong_5 rfl rfl ?_
  refine g_if_ne 16 9 dX8_wrong_6 rfl (by decide) (fun h6 => ?_) (fun h6 => ?_)
  · refine g_iload_n 17 dX8_wrong_16 rfl rfl ?_
    refine g_iconst (1) 18 dX8_wrong_17 rfl (by decide) ?_
    refine g_icmp_ne 28 21 dX8_wrong_18 rfl (by decide) (fun h18 => ?_) (fun h18 => ?_)
    · refine g_iconst (-1) 29 dX8_wrong_28 rfl (by decide) ?_
      refine g_iret dX8_wrong_29 ?_
      exact ⟨by rw [wrongA, if_neg h6, if_neg h18], rfl⟩
    · refine g_aload_n 22 dX8_wrong_21 rfl rfl ?_
      refine gf_8_13 25 dX8_wrong_22 rfl kf_X8_20 (by first | decide | assumption | exact ⟨Nat.le_of_ble_eq_true rfl, rfl⟩) ?_
      refine g_goto 29 dX8_wrong_25 (by decide) ?_
      refine g_iret dX8_wrong_29 ?_
      exact ⟨by rw [wrongA, if_neg h6, if_pos h18], rfl⟩
  · refine g_aload_n 10 dX8_wrong_9 rfl rfl ?_
    refine gf_8_12 13 dX8_wrong_10 rfl kf_X8_16 (by first | decide | assumption | exact ⟨Nat.le_of_ble_eq_true rfl, rfl⟩) ?_
    refine g_goto 29 dX8_wrong_13 (by decide) ?_
    refine g_iret dX8_wrong_29 ?_
    exact ⟨by rw [wrongA, if_pos h6], rfl⟩

set_option maxRecDepth 100000 in
set_option maxHeartbeats 4000000 in
theorem m_clear (g : Gl) (l : Launch) (F : Nat → Nat → Int32) (J : Nat → Int64) (hT : F 167 0 = 0) : Ct g l yX8_clear cX8_clear 2 (some .int) 0 0 0 [.ref 167] (St F J) (fun r S2 => r = some (.int (F 167 2)) ∧ S2 = St (up2 F 167 2 0) J) := by
  refine Ct.of rfl (by decide) rfl (Nat.le_of_ble_eq_true rfl) ?_
  refine g_aload_n 1 dX8_clear_0 rfl rfl ?_
  refine g_iconst (0) 2 dX8_clear_1 rfl (by decide) ?_
  refine gp_8_0 5 dX8_clear_2 rfl kf_X8_35 (by first | decide | assumption | exact ⟨Nat.le_of_ble_eq_true rfl, rfl⟩) ?_
  refine gs_at (congrArg (fun x => St x J) (thr hT)) ?_
  refine g_aload_n 6 dX8_clear_5 rfl rfl ?_
  refine gf_8_2 9 dX8_clear_6 rfl kf_X8_42 (by first | decide | assumption | exact ⟨Nat.le_of_ble_eq_true rfl, rfl⟩) ?_
  refine g_istore_n 10 dX8_clear_9 rfl (by decide) ?_
  refine g_aload_n 11 dX8_clear_10 rfl rfl ?_
  refine g_iconst (0) 12 dX8_clear_11 rfl (by decide) ?_
  refine gp_8_2 15 dX8_clear_12 rfl kf_X8_42 (by first | decide | assumption | exact ⟨Nat.le_of_ble_eq_true rfl, rfl⟩) ?_
  refine g_iload_n 16 dX8_clear_15 rfl rfl ?_
  refine g_iret dX8_clear_16 ?_
  exact ⟨rfl, rfl⟩

def byM (v : Int64) (i : Nat) : Int32 := (v >>> ((8 * nI i).toInt64 &&& 63) &&& 255).toInt32
def tyM (F : Nat → Nat → Int32) (len : Nat) (v : Int64) (N : Nat) : Nat → Nat → Nat → Int32
  | 0 => F
  | t + 1 => up2 (up2 (tyM F len v N t) 168 (len + t) (byM v (N - 1 - t))) 167 2 (nI (len + t + 1))
theorem tyM_l (F : Nat → Nat → Int32) {len : Nat} (v : Int64) (N : Nat) (h : F 167 2 = nI len) : ∀ t, tyM F len v N t 167 2 = nI (len + t)
  | 0 => h
  | t + 1 => by rw [tyM]; simp [up2, upd]; rfl
def typeM (F : Nat → Nat → Int32) (len : Nat) (v : Int64) (n : Int32) : Nat → Nat → Int32 := if n < 1 ∨ 8 < n then F else if 400 < len + n.toNatClampNeg then F else tyM F len v n.toNatClampNeg n.toNatClampNeg
theorem m1s : (nI 0 - 1 : Int32) < 0 := by decide
theorem nI_m1 (a : Nat) : nI (a + 1) + (-1) = nI a := by rw [← nI_pred a, Int32.sub_eq_add_neg]
set_option maxRecDepth 100000 in
set_option maxHeartbeats 4000000 in
theorem lm_type (g : Gl) (l : Launch) (v : Int64) (F : Nat → Nat → Int32) (J : Nat → Int64) {len N : Nat} (hl : F 167 2 = nI len) (hN : len + N ≤ 400) (n0 : Int32) {XX : State → Method → Prop} (n : Nat) : ∀ (t : Nat) (kx : Int32), t + n = N → kx = nI (N - t) - 1 → Gj g l (rmd 1 0 0) XX (QM g (fun r S2 => r = some (.int (nI (len + N))) ∧ S2 = St (tyM F len v N N) J) 0 0) RX8 cX8_type 5 (some .int) 37 [some (.ref 167), some (.long v), none, some (.int n0), some (.int kx)] [] (St (tyM F len v N t) J) 0 0 := by
  induction n with
  | zero =>
    intro t kx hi hx
    obtain rfl : t = N := by omega
    rw [Nat.sub_self] at hx
    subst hx
    refine g_iload 39 dX8_type_37 rfl rfl ?_
    refine g_if_lt 79 42 dX8_type_39 rfl (by decide) (fun h39 => ?_) (fun h39 => ?_)
    · refine g_aload_n 80 dX8_type_79 rfl rfl ?_
      refine gf_8_2 83 dX8_type_80 rfl kf_X8_42 (by first | decide | assumption | exact ⟨Nat.le_of_ble_eq_true rfl, rfl⟩) ?_
      refine g_iret dX8_type_83 ?_
      exact ⟨by rw [tyM_l F v t hl t], rfl⟩
    · exact absurd (by decide) h39
  | succ n ih =>
    intro t kx hi hx
    have ht : t < N := by omega
    have e : nI (N - t) - 1 = nI (N - 1 - t) := by
      rw [show N - t = (N - 1 - t) + 1 by omega, nI_pred]
    rw [e] at hx
    subst hx
    have el := tyM_l F v N hl t
    refine g_iload 39 dX8_type_37 rfl rfl ?_
    refine g_if_lt 79 42 dX8_type_39 rfl (by decide) (fun h39 => ?_) (fun h39 => ?_)
    · exact absurd h39 (nI_pos (by omega))
    · refine g_aload_n 43 dX8_type_42 rfl rfl ?_
      refine gf_8_1 46 dX8_type_43 rfl kf_X8_7 ?_
      refine g_aload_n 47 dX8_type_46 rfl rfl ?_
      refine gf_8_2 50 dX8_type_47 rfl kf_X8_42 (by first | decide | assumption | exact ⟨Nat.le_of_ble_eq_true rfl, rfl⟩) ?_
      refine g_lload_n 51 dX8_type_50 rfl rfl ?_
      refine g_bipush (8) 53 dX8_type_51 rfl (by decide) ?_
      refine g_iload 55 dX8_type_53 rfl rfl ?_
      refine g_imul 56 dX8_type_55 rfl ?_
      refine g_lshr 57 dX8_type_56 rfl ?_
      refine g_ldc2 60 dX8_type_57 rfl kc_X8_45 ?_
      refine g_land 61 dX8_type_60 rfl ?_
      refine g_l2i 62 dX8_type_61 rfl ?_
      refine ga_ist (len + t) 63 dX8_type_62 rfl (by first | decide | assumption | exact ⟨Nat.le_of_ble_eq_true rfl, rfl⟩) el (show len + t < 400 by omega) ?_
      refine g_aload_n 64 dX8_type_63 rfl rfl ?_
      refine g_dup 65 dX8_type_64 rfl rfl ?_
      refine gf_8_2 68 dX8_type_65 rfl kf_X8_42 (by first | decide | assumption | exact ⟨Nat.le_of_ble_eq_true rfl, rfl⟩) ?_
      refine g_iconst (1) 69 dX8_type_68 rfl (by decide) ?_
      refine g_iadd 70 dX8_type_69 rfl ?_
      refine gst_at (show up2 (tyM F len v N t) 168 (len + t) (byM v (N - 1 - t)) 167 2 + 1 = nI (len + t + 1) by rw [up2_ne _ _ _ (by decide), el, nI_1]) ?_
      refine gp_8_2 73 dX8_type_70 rfl kf_X8_42 (by first | decide | assumption | exact ⟨Nat.le_of_ble_eq_true rfl, rfl⟩) ?_
      refine g_iinc (-1) 76 dX8_type_73 rfl (by decide) (by decide) rfl ?_
      refine g_goto 37 dX8_type_76 (by decide) ?_
      refine ih (t + 1) _ (by omega) ?_
      rw [show N - (t + 1) = N - 1 - t by omega]; exact m1_add _

set_option maxRecDepth 100000 in
set_option maxHeartbeats 4000000 in
theorem m_type (g : Gl) (l : Launch) (v : Int64) (n : Int32) (F : Nat → Nat → Int32) (J : Nat → Int64) (hT : F 167 0 = 0) {len : Nat} (hl : F 167 2 = nI len) (hlen : len ≤ 400) : Ct g l yX8_type cX8_type 5 (some .int) 1 0 0 [.ref 167, .long v, .int n] (St F J) (fun r S2 => r = some (.int (typeA len n)) ∧ S2 = St (typeM F len v n) J) := by
  refine Ct.of rfl (by decide) rfl (Nat.le_of_ble_eq_true rfl) ?_
  refine g_aload_n 1 dX8_type_0 rfl rfl ?_
  refine g_iconst (0) 2 dX8_type_1 rfl (by decide) ?_
  refine gp_8_0 5 dX8_type_2 rfl kf_X8_35 (by first | decide | assumption | exact ⟨Nat.le_of_ble_eq_true rfl, rfl⟩) ?_
  refine gs_at (congrArg (fun x => St x J) (thr hT)) ?_
  refine g_iload_n 6 dX8_type_5 rfl rfl ?_
  refine g_iconst (1) 7 dX8_type_6 rfl (by decide) ?_
  refine g_bipush (8) 9 dX8_type_7 rfl (by decide) ?_
  refine g_s3 12 dX8_type_9 rfl kl_X8_38 ms_X8_in ⟨Nat.le_of_ble_eq_true rfl, Nat.le_of_ble_eq_true rfl⟩ (Nat.le_of_ble_eq_true rfl) (m_in g l _ _ _ _) ?_
  rintro _ _ ⟨rfl, rfl⟩
  refine g_if_ne 17 15 dX8_type_12 rfl (by decide) (fun h12 => ?_) (fun h12 => ?_)
  · have hq := b10n h12
    obtain ⟨N, hN1, hN8, eN, cN⟩ := n18 hq.1 hq.2
    subst eN
    refine g_aload_n 18 dX8_type_17 rfl rfl ?_
    refine gf_8_2 21 dX8_type_18 rfl kf_X8_42 (by first | decide | assumption | exact ⟨Nat.le_of_ble_eq_true rfl, rfl⟩) ?_
    refine g_iload_n 22 dX8_type_21 rfl rfl ?_
    refine g_iadd 23 dX8_type_22 rfl ?_
    refine g_sipush (400) 26 dX8_type_23 rfl (by decide) ?_
    refine gst2_at (show F 167 2 + nI N = nI (len + N) by rw [hl, nI_add]) ?_
    refine g_icmp_le 32 29 dX8_type_26 rfl (by decide) (fun h26 => ?_) (fun h26 => ?_)
    · refine g_iload_n 33 dX8_type_32 rfl rfl ?_
      refine g_iconst (1) 34 dX8_type_33 rfl (by decide) ?_
      refine g_isub 35 dX8_type_34 rfl ?_
      refine g_istore 37 dX8_type_35 rfl (by decide) ?_
      have hf : ¬ 400 < len + N := fun z => nI_ge (a := 400) (b := len + N) z (by omega) h26
      have h := lm_type g l v F J hl (N := N) (by omega) (nI N) N 0 _ (Nat.zero_add _) rfl (XX := fun _ M => M.name = yX8_type.name)
      rw [show typeA len (nI N) = nI (len + N) by rw [typeA, if_neg (fun z => z.elim hq.1 hq.2), cN, if_neg hf], show typeM F len v (nI N) = tyM F len v N N by rw [typeM, if_neg (fun z => z.elim hq.1 hq.2), cN, if_neg hf]]
      exact h
    · refine g_bipush (-3) 31 dX8_type_29 rfl (by decide) ?_
      refine g_iret dX8_type_31 ?_
      have hf : 400 < len + N := Nat.lt_of_not_le (fun z => h26 (nI_le (a := len + N) (b := 400) z (by decide)))
      exact ⟨by rw [typeA, if_neg (fun z => z.elim hq.1 hq.2), cN, if_pos hf], by rw [typeM, if_neg (fun z => z.elim hq.1 hq.2), cN, if_pos hf]⟩
  · refine g_iconst (-1) 16 dX8_type_15 rfl (by decide) ?_
    refine g_iret dX8_type_16 ?_
    exact ⟨by rw [typeA, if_pos (nand2 (b10.mp h12))], by rw [typeM, if_pos (nand2 (b10.mp h12))]⟩

