/-! the reference: forced; what a step does -/
/-- only the two letter sets of the reference may have changed -/
def kpS (F F2 : Nat → Nat → Int32) : Prop := ∃ a b, F2 = fsn F a b
theorem f_in {N : Nat} {n : Int32} : (¬ n < 0 ∧ ¬ nI N < n) → ∃ k, k < 2 ^ 31 ∧ n = nI k ∧ n.toNatClampNeg = k := fun h => by
  obtain ⟨k, hk, e⟩ := nI_of h.1
  exact ⟨k, hk, e, by rw [e]; exact nI_clamp hk⟩
set_option maxRecDepth 100000 in
set_option maxHeartbeats 4000000 in
theorem m_forced (g : Gl) (l : Launch) (n so nt what : Int32) (F : Nat → Nat → Int32) (J : Nat → Int64) {G P : Nat} (hS : mS F G P) (hW : ∀ i, i < G + P → ∀ j, j < 6 → wbd (Wm F i j)) : Ct g l yX8_forced cX8_forced 6 (some .int) 2 0 0 [.ref 167, .int n, .int so, .int nt, .int what] (St F J) (fun r S2 => r = some (.int (forcedA (G + P) (Wm F) (Dm F) n so nt what)) ∧ ∃ F2, S2 = St F2 J ∧ kpS F F2) := by
  obtain ⟨hG, hP, hT, hG8, hP24⟩ := hS
  refine Ct.of rfl (by decide) rfl (Nat.le_of_ble_eq_true rfl) ?_
  refine g_aload_n 1 dX8_forced_0 rfl rfl ?_
  refine g_iconst (0) 2 dX8_forced_1 rfl (by decide) ?_
  refine gp_8_0 5 dX8_forced_2 rfl kf_X8_35 (by first | decide | assumption | exact ⟨Nat.le_of_ble_eq_true rfl, rfl⟩) ?_
  refine gs_at (congrArg (fun x => St x J) (thr hT)) ?_
  refine g_iload_n 6 dX8_forced_5 rfl rfl ?_
  refine g_iconst (0) 7 dX8_forced_6 rfl (by decide) ?_
  refine g_aload_n 8 dX8_forced_7 rfl rfl ?_
  refine gf_8_9 11 dX8_forced_8 rfl kf_X8_106 (by first | decide | assumption | exact ⟨Nat.le_of_ble_eq_true rfl, rfl⟩) ?_
  refine g_aload_n 12 dX8_forced_11 rfl rfl ?_
  refine gf_8_10 15 dX8_forced_12 rfl kf_X8_109 (by first | decide | assumption | exact ⟨Nat.le_of_ble_eq_true rfl, rfl⟩) ?_
  refine g_iadd 16 dX8_forced_15 rfl ?_
  refine gst_at (show F 167 9 + F 167 10 = nI (G + P) by rw [hG, hP, nI_add]) ?_
  refine g_s3 19 dX8_forced_16 rfl kl_X8_38 ms_X8_in ⟨Nat.le_of_ble_eq_true rfl, Nat.le_of_ble_eq_true rfl⟩ (Nat.le_of_ble_eq_true rfl) (m_in g l _ _ _ _) ?_
  rintro _ _ ⟨rfl, rfl⟩
  refine g_if_eq 58 22 dX8_forced_19 rfl (by decide) (fun h19 => ?_) (fun h19 => ?_)
  · refine g_iconst (-1) 59 dX8_forced_58 rfl (by decide) ?_
    refine g_iret dX8_forced_59 ?_
    exact ⟨by rw [forcedA, if_neg (fun z => b10.mp h19 ⟨z.1, z.2.1⟩)], F, rfl, F 167 16, F 167 17, fsn_id F⟩
  · refine g_iload_n 23 dX8_forced_22 rfl rfl ?_
    refine g_iconst (0) 24 dX8_forced_23 rfl (by decide) ?_
    refine g_bipush (63) 26 dX8_forced_24 rfl (by decide) ?_
    refine g_s3 29 dX8_forced_26 rfl kl_X8_38 ms_X8_in ⟨Nat.le_of_ble_eq_true rfl, Nat.le_of_ble_eq_true rfl⟩ (Nat.le_of_ble_eq_true rfl) (m_in g l _ _ _ _) ?_
    rintro _ _ ⟨rfl, rfl⟩
    refine g_if_eq 58 32 dX8_forced_29 rfl (by decide) (fun h29 => ?_) (fun h29 => ?_)
    · refine g_iconst (-1) 59 dX8_forced_58 rfl (by decide) ?_
      refine g_iret dX8_forced_59 ?_
      exact ⟨by rw [forcedA, if_neg (fun z => b10.mp h29 z.2.2.1)], F, rfl, F 167 16, F 167 17, fsn_id F⟩
    · refine g_iload_n 33 dX8_forced_32 rfl rfl ?_
      refine g_iconst (0) 34 dX8_forced_33 rfl (by decide) ?_
      refine g_bipush (63) 36 dX8_forced_34 rfl (by decide) ?_
      refine g_s3 39 dX8_forced_36 rfl kl_X8_38 ms_X8_in ⟨Nat.le_of_ble_eq_true rfl, Nat.le_of_ble_eq_true rfl⟩ (Nat.le_of_ble_eq_true rfl) (m_in g l _ _ _ _) ?_
      rintro _ _ ⟨rfl, rfl⟩
      refine g_if_eq 58 42 dX8_forced_39 rfl (by decide) (fun h39 => ?_) (fun h39 => ?_)
      · refine g_iconst (-1) 59 dX8_forced_58 rfl (by decide) ?_
        refine g_iret dX8_forced_59 ?_
        exact ⟨by rw [forcedA, if_neg (fun z => b10.mp h39 z.2.2.2.1)], F, rfl, F 167 16, F 167 17, fsn_id F⟩
      · refine g_iload_n 43 dX8_forced_42 rfl rfl ?_
        refine g_iload_n 44 dX8_forced_43 rfl rfl ?_
        refine g_iand 45 dX8_forced_44 rfl ?_
        refine g_if_ne 58 48 dX8_forced_45 rfl (by decide) (fun h45 => ?_) (fun h45 => ?_)
        · refine g_iconst (-1) 59 dX8_forced_58 rfl (by decide) ?_
          refine g_iret dX8_forced_59 ?_
          exact ⟨by rw [forcedA, if_neg (fun z => h45 z.2.2.2.2.1)], F, rfl, F 167 16, F 167 17, fsn_id F⟩
        · refine g_iload 50 dX8_forced_48 rfl rfl ?_
          refine g_iconst (0) 51 dX8_forced_50 rfl (by decide) ?_
          refine g_iconst (2) 52 dX8_forced_51 rfl (by decide) ?_
          refine g_s3 55 dX8_forced_52 rfl kl_X8_38 ms_X8_in ⟨Nat.le_of_ble_eq_true rfl, Nat.le_of_ble_eq_true rfl⟩ (Nat.le_of_ble_eq_true rfl) (m_in g l _ _ _ _) ?_
          rintro _ _ ⟨rfl, rfl⟩
          refine g_if_ne 60 58 dX8_forced_55 rfl (by decide) (fun h55 => ?_) (fun h55 => ?_)
          · have hq := b10n h55
            have hn := b10n h19
            have hok : okF (G + P) n so nt what := ⟨hn.1, hn.2, b10n h29, b10n h39, h45, hq.1, Int32.not_lt.mp hq.2⟩
            obtain ⟨k, hk31, ek, ck⟩ := f_in hn
            have hk : k ≤ G + P := by
              rcases Nat.lt_or_ge (G + P) k with z | z
              · exact absurd (by rw [ek]; exact nI_lt z hk31) hn.2
              · exact z
            subst ek
            refine g_aload_n 61 dX8_forced_60 rfl rfl ?_
            refine g_iload_n 62 dX8_forced_61 rfl rfl ?_
            refine g_iload_n 63 dX8_forced_62 rfl rfl ?_
            refine g_iload_n 64 dX8_forced_63 rfl rfl ?_
            refine g_v3 8 67 dX8_forced_64 rfl kl_X8_126 mv_X8_clashes rfl ⟨Nat.le_of_ble_eq_true rfl, Nat.le_of_ble_eq_true rfl⟩ (Nat.le_of_ble_eq_true rfl) (by first | decide | assumption | exact ⟨Nat.le_of_ble_eq_true rfl, rfl⟩) (m_clashes g l so nt (N := k) (by omega) F J (fun i hi => hW i (by omega))) ?_
            rintro _ _ ⟨rfl, rfl⟩
            refine g_istore 69 dX8_forced_67 rfl (by decide) ?_
            refine g_iload 71 dX8_forced_69 rfl rfl ?_
            refine g_if_ne 81 74 dX8_forced_71 rfl (by decide) (fun h71 => ?_) (fun h71 => ?_)
            · refine g_iload 83 dX8_forced_81 rfl rfl ?_
              refine g_iconst (1) 84 dX8_forced_83 rfl (by decide) ?_
              refine g_icmp_ne 94 87 dX8_forced_84 rfl (by decide) (fun h84 => ?_) (fun h84 => ?_)
              · refine g_iload 96 dX8_forced_94 rfl rfl ?_
                refine g_if_eq 103 99 dX8_forced_96 rfl (by decide) (fun h96 => ?_) (fun h96 => ?_)
                · refine g_iconst (0) 104 dX8_forced_103 rfl (by decide) ?_
                  refine g_iret dX8_forced_104 ?_
                  exact ⟨by rw [forcedA, if_pos hok, ck, fcA, if_neg h71, if_neg h84, if_pos (b01.mp h96)], _, rfl, _, _, rfl⟩
                · refine g_iconst (1) 100 dX8_forced_99 rfl (by decide) ?_
                  refine g_goto 104 dX8_forced_100 (by decide) ?_
                  refine g_iret dX8_forced_104 ?_
                  exact ⟨by rw [forcedA, if_pos hok, ck, fcA, if_neg h71, if_neg h84, if_neg (fun z => h96 (b01.mpr z))], _, rfl, _, _, rfl⟩
              · refine g_aload_n 88 dX8_forced_87 rfl rfl ?_
                refine gf_8_17 91 dX8_forced_88 rfl kf_X8_165 (by first | decide | assumption | exact ⟨Nat.le_of_ble_eq_true rfl, rfl⟩) ?_
                refine g_goto 104 dX8_forced_91 (by decide) ?_
                refine g_iret dX8_forced_104 ?_
                exact ⟨by rw [forcedA, if_pos hok, ck, fcA, if_neg h71, if_pos h84]; rfl, _, rfl, _, _, rfl⟩
            · refine g_aload_n 75 dX8_forced_74 rfl rfl ?_
              refine gf_8_16 78 dX8_forced_75 rfl kf_X8_162 (by first | decide | assumption | exact ⟨Nat.le_of_ble_eq_true rfl, rfl⟩) ?_
              refine g_goto 104 dX8_forced_78 (by decide) ?_
              refine g_iret dX8_forced_104 ?_
              exact ⟨by rw [forcedA, if_pos hok, ck, fcA, if_pos h71]; rfl, _, rfl, _, _, rfl⟩
          · refine g_iconst (-1) 59 dX8_forced_58 rfl (by decide) ?_
            refine g_iret dX8_forced_59 ?_
            exact ⟨by rw [forcedA, if_neg (fun z => b10.mp h55 ⟨z.2.2.2.2.2.1, Int32.not_lt.mpr z.2.2.2.2.2.2⟩)], F, rfl, F 167 16, F 167 17, fsn_id F⟩

set_option maxRecDepth 100000 in
set_option maxHeartbeats 4000000 in
theorem lm_isGreat (g : Gl) (l : Launch) (F : Nat → Nat → Int32) (J : Nat → Int64) {n0 : Nat} (hn0 : n0 < 33) {XX : State → Method → Prop} (n : Nat) : ∀ (i : Nat) (ix x : Int32), i + n = 6 → ix = nI i → ((x = 0 ∧ (∀ j, j < i → abs32 (Wm F n0 j) ≤ 9999) ∧ Dm F n0 ≤ 99999) ∨ (x = 1 ∧ ¬ ((∀ j, j < i → abs32 (Wm F n0 j) ≤ 9999) ∧ Dm F n0 ≤ 99999))) → Gj g l (rmd 1 0 0) XX (QM g (fun r S2 => (∃ x : Int32, r = some (.int x) ∧ ((x = 0 ∧ okL (Wm F n0) (Dm F n0)) ∨ (x = 1 ∧ ¬ okL (Wm F n0) (Dm F n0)))) ∧ S2 = St F J) 0 0) RX8 cX8_isGreat 4 (some .boolean) 22 [some (.ref 167), some (.int (7 * nI n0)), some (.int x), some (.int ix)] [] (St F J) 0 0 := by
  induction n with
  | zero =>
    intro i ix x hi hx he
    obtain rfl : i = 6 := by omega
    subst hx
    refine g_iload_n 23 dX8_isGreat_22 rfl rfl ?_
    refine g_bipush (6) 25 dX8_isGreat_23 rfl (by decide) ?_
    refine g_icmp_ge 59 28 dX8_isGreat_25 rfl (by decide) (fun h25 => ?_) (fun h25 => ?_)
    · refine g_iload_n 60 dX8_isGreat_59 rfl rfl ?_
      refine g_zret dX8_isGreat_60 (by rcases he with ⟨rfl, _⟩ | ⟨rfl, _⟩ <;> decide) ?_
      exact ⟨⟨x, rfl, he⟩, rfl⟩
    · exact absurd (by decide) h25
  | succ n ih =>
    intro i ix x hi hx he
    subst hx
    have hs : ∀ c : Prop, ((∀ j, j < i + 1 → abs32 (Wm F n0 j) ≤ 9999) ∧ c) ↔ (((∀ j, j < i → abs32 (Wm F n0 j) ≤ 9999) ∧ c) ∧ abs32 (Wm F n0 i) ≤ 9999) := fun c => ⟨fun h => ⟨⟨fun j hj => h.1 j (by omega), h.2⟩, h.1 i (by omega)⟩, fun h => ⟨fun j hj => by
      rcases Nat.lt_or_ge j i with q | q
      · exact h.1.1 j q
      · obtain rfl : j = i := by omega
        exact h.2, h.1.2⟩⟩
    refine g_iload_n 23 dX8_isGreat_22 rfl rfl ?_
    refine g_bipush (6) 25 dX8_isGreat_23 rfl (by decide) ?_
    refine g_icmp_ge 59 28 dX8_isGreat_25 rfl (by decide) (fun h25 => ?_) (fun h25 => ?_)
    · exact absurd h25 (lt6 (by omega))
    · refine g_iload_n 29 dX8_isGreat_28 rfl rfl ?_
      refine g_aload_n 30 dX8_isGreat_29 rfl rfl ?_
      refine gf_8_8 33 dX8_isGreat_30 rfl kf_X8_13 ?_
      refine g_iload_n 34 dX8_isGreat_33 rfl rfl ?_
      refine g_iload_n 35 dX8_isGreat_34 rfl rfl ?_
      refine g_iadd 36 dX8_isGreat_35 rfl ?_
      refine ga_ild (7 * n0 + i) 37 dX8_isGreat_36 rfl (by first | decide | assumption | exact ⟨Nat.le_of_ble_eq_true rfl, rfl⟩) (ix7 n0 i) (show 7 * n0 + i < 231 by omega) ?_
      refine g_s1 40 dX8_isGreat_37 rfl kl_X8_119 ms_X8_size ⟨Nat.le_of_ble_eq_true rfl, Nat.le_of_ble_eq_true rfl⟩ (Nat.le_of_ble_eq_true rfl) (m_size g l _ _) ?_
      rintro _ _ ⟨rfl, rfl⟩
      refine g_sipush (9999) 43 dX8_isGreat_40 rfl (by decide) ?_
      refine g_icmp_le 50 46 dX8_isGreat_43 rfl (by decide) (fun h43 => ?_) (fun h43 => ?_)
      · refine g_iconst (0) 51 dX8_isGreat_50 rfl (by decide) ?_
        refine g_ior 52 dX8_isGreat_51 rfl ?_
        refine g_istore_n 53 dX8_isGreat_52 rfl (by decide) ?_
        refine g_iinc (1) 56 dX8_isGreat_53 rfl (by decide) (by decide) rfl ?_
        refine g_goto 22 dX8_isGreat_56 (by decide) ?_
        refine ih (i + 1) _ _ (by omega) (nI_succ i).symm ?_
        rw [hs]
        rcases he with ⟨rfl, h⟩ | ⟨rfl, h⟩
        · exact Or.inl ⟨rfl, h, h43⟩
        · exact Or.inr ⟨rfl, fun z => h z.1⟩
      · refine g_iconst (1) 47 dX8_isGreat_46 rfl (by decide) ?_
        refine g_goto 51 dX8_isGreat_47 (by decide) ?_
        refine g_ior 52 dX8_isGreat_51 rfl ?_
        refine g_istore_n 53 dX8_isGreat_52 rfl (by decide) ?_
        refine g_iinc (1) 56 dX8_isGreat_53 rfl (by decide) (by decide) rfl ?_
        refine g_goto 22 dX8_isGreat_56 (by decide) ?_
        refine ih (i + 1) _ _ (by omega) (nI_succ i).symm ?_
        rw [hs]
        rcases he with ⟨rfl, h⟩ | ⟨rfl, h⟩
        · exact Or.inr ⟨rfl, fun z => h43 z.2⟩
        · exact Or.inr ⟨rfl, fun z => h z.1⟩

set_option maxRecDepth 100000 in
set_option maxHeartbeats 4000000 in
theorem m_isGreat (g : Gl) (l : Launch) (F : Nat → Nat → Int32) (J : Nat → Int64) {n0 : Nat} (hn0 : n0 < 33) : Ct g l yX8_isGreat cX8_isGreat 4 (some .boolean) 1 0 0 [.ref 167, .int (7 * nI n0)] (St F J) (fun r S2 => (∃ x : Int32, r = some (.int x) ∧ ((x = 0 ∧ okL (Wm F n0) (Dm F n0)) ∨ (x = 1 ∧ ¬ okL (Wm F n0) (Dm F n0)))) ∧ S2 = St F J) := by
  refine Ct.of rfl (by decide) rfl (Nat.le_of_ble_eq_true rfl) ?_
  refine g_aload_n 1 dX8_isGreat_0 rfl rfl ?_
  refine gf_8_8 4 dX8_isGreat_1 rfl kf_X8_13 ?_
  refine g_iload_n 5 dX8_isGreat_4 rfl rfl ?_
  refine g_bipush (6) 7 dX8_isGreat_5 rfl (by decide) ?_
  refine g_iadd 8 dX8_isGreat_7 rfl ?_
  refine ga_ild (7 * n0 + 6) 9 dX8_isGreat_8 rfl (by first | decide | assumption | exact ⟨Nat.le_of_ble_eq_true rfl, rfl⟩) (ix76 n0) (show 7 * n0 + 6 < 231 by omega) ?_
  refine g_ldc 11 dX8_isGreat_9 rfl kc_X8_122 ?_
  refine g_icmp_le 18 14 dX8_isGreat_11 rfl (by decide) (fun h11 => ?_) (fun h11 => ?_)
  · refine g_iconst (0) 19 dX8_isGreat_18 rfl (by decide) ?_
    refine g_istore_n 20 dX8_isGreat_19 rfl (by decide) ?_
    refine g_iconst (0) 21 dX8_isGreat_20 rfl (by decide) ?_
    refine g_istore_n 22 dX8_isGreat_21 rfl (by decide) ?_
    exact lm_isGreat g l F J hn0 6 0 _ _ rfl rfl (Or.inl ⟨rfl, fun j hj => absurd hj (Nat.not_lt_zero j), h11⟩)
  · refine g_iconst (1) 15 dX8_isGreat_14 rfl (by decide) ?_
    refine g_goto 19 dX8_isGreat_15 (by decide) ?_
    refine g_istore_n 20 dX8_isGreat_19 rfl (by decide) ?_
    refine g_iconst (0) 21 dX8_isGreat_20 rfl (by decide) ?_
    refine g_istore_n 22 dX8_isGreat_21 rfl (by decide) ?_
    exact lm_isGreat g l F J hn0 6 0 _ _ rfl rfl (Or.inr ⟨rfl, fun z => h11 z.2⟩)

def lnF (F : Nat → Nat → Int32) (m : Nat) (u : Nat → Int32) : Nat → Nat → Int32 := fun q => if q = 169 then (fun j => if 7 * m ≤ j ∧ j < 7 * m + 7 then u (j - 7 * m) else F 169 j) else F q
theorem lnF_ne (F : Nat → Nat → Int32) (m : Nat) (u : Nat → Int32) {q : Nat} (h : q ≠ 169) : lnF F m u q = F q := by simp [lnF, h]
theorem lnF_in (F : Nat → Nat → Int32) (m : Nat) (u : Nat → Int32) {j : Nat} (h : j < 7) : lnF F m u 169 (7 * m + j) = u j := by
  simp only [lnF, if_true]
  rw [if_pos ⟨by omega, by omega⟩, show 7 * m + j - 7 * m = j by omega]
theorem lnF_out (F : Nat → Nat → Int32) {m f j : Nat} (u : Nat → Int32) (hf : f < m) (h : j < 7) : lnF F m u 169 (7 * f + j) = F 169 (7 * f + j) := by
  simp only [lnF, if_true]
  rw [if_neg (by omega)]
theorem lnF_up (F : Nat → Nat → Int32) (m : Nat) (u : Nat → Int32) {j : Nat} (x : Int32) (h : j < 7) : up2 (lnF F m u) 169 (7 * m + j) x = lnF F m (upd u j x) := by
  funext q i
  by_cases hq : q = 169
  · subst hq
    simp only [up2, upd, lnF, if_true]
    by_cases e : i = 7 * m + j
    · subst e; rw [if_pos rfl, if_pos ⟨by omega, by omega⟩, if_pos (by omega)]
    · rw [if_neg e]
      by_cases e2 : 7 * m ≤ i ∧ i < 7 * m + 7
      · rw [if_pos e2, if_pos e2, if_neg (by omega)]
      · rw [if_neg e2, if_neg e2]
  · simp [up2, lnF, hq]
theorem lnF_id (F : Nat → Nat → Int32) (m : Nat) : F = lnF F m (fun j => F 169 (7 * m + j)) := by
  funext q i
  by_cases hq : q = 169
  · subst hq
    simp only [lnF, if_true]
    split
    · rw [show 7 * m + (i - 7 * m) = i by omega]
    · rfl
  · simp [lnF, hq]
theorem lnF_eq {F : Nat → Nat → Int32} {m : Nat} {u v : Nat → Int32} (h : ∀ j, j < 7 → u j = v j) : lnF F m u = lnF F m v := by
  funext q i
  by_cases hq : q = 169
  · subst hq
    simp only [lnF, if_true]
    by_cases e2 : 7 * m ≤ i ∧ i < 7 * m + 7
    · rw [if_pos e2, if_pos e2, h _ (by omega)]
    · rw [if_neg e2, if_neg e2]
  · simp [lnF, hq]
theorem lnF_lnF (F : Nat → Nat → Int32) (m : Nat) (u v : Nat → Int32) : lnF (lnF F m u) m v = lnF F m v := by
  funext q i
  by_cases hq : q = 169
  · subst hq
    simp only [lnF, if_true]
    by_cases e2 : 7 * m ≤ i ∧ i < 7 * m + 7
    · rw [if_pos e2, if_pos e2]
    · rw [if_neg e2, if_neg e2, if_neg e2]
  · simp [lnF, hq]
theorem lnF_fsn (F : Nat → Nat → Int32) (m : Nat) (u : Nat → Int32) (a b : Int32) : lnF (fsn F a b) m u = fsn (lnF F m u) a b := by
  funext q i
  by_cases hq : q = 169
  · subst hq; simp [lnF, fsn]
  · by_cases h2 : q = 167
    · subst h2; simp [lnF, fsn]
    · simp [lnF, fsn, hq, h2]
theorem lt7 {i : Nat} (h : i < 7) : ¬ (7 : Int32) ≤ nI i := nI_ge (a := i) (b := 7) h (by decide)
theorem ix10 (s j : Nat) : (10 : Int32) * nI s + nI j = nI (10 * s + j) := by rw [show (10 : Int32) = nI 10 from rfl, nI_mul, nI_add]
theorem ix10_0 (s : Nat) : (10 : Int32) * nI s = nI (10 * s) := by rw [show (10 : Int32) = nI 10 from rfl, nI_mul]
theorem ix103 (s j : Nat) : (10 : Int32) * nI s + 3 + nI j = nI (10 * s + 3 + j) := by rw [show (10 : Int32) = nI 10 from rfl, nI_mul, show (3 : Int32) = nI 3 from rfl, nI_add, nI_add]
def pre7 (v u : Nat → Int32) (i : Nat) : Nat → Int32 := fun j => if j < i then v j else u j
theorem pre7_s {F : Nat → Nat → Int32} {m i : Nat} {v u : Nat → Int32} {x : Int32} (hi : i < 7) (hx : x = v i) : up2 (lnF F m (pre7 v u i)) 169 (7 * m + i) x = lnF F m (pre7 v u (i + 1)) := by
  rw [lnF_up _ _ _ _ hi]
  refine lnF_eq fun j hj => ?_
  simp only [upd, pre7]
  by_cases e : j = i
  · subst e; rw [if_pos rfl, if_pos (by omega), hx]
  · rw [if_neg e]
    by_cases e2 : j < i
    · rw [if_pos e2, if_pos (by omega)]
    · rw [if_neg e2, if_neg (by omega)]
theorem pre7_7 {F : Nat → Nat → Int32} {m : Nat} {v u : Nat → Int32} : lnF F m (pre7 v u 7) = lnF F m v := lnF_eq fun j hj => by rw [pre7, if_pos hj]
theorem pre7_0 (v u : Nat → Int32) : pre7 v u 0 = u := by funext j; rw [pre7, if_neg (Nat.not_lt_zero j)]
set_option maxRecDepth 100000 in
set_option maxHeartbeats 4000000 in
theorem lm_neg1 (g : Gl) (l : Launch) {zc : Option Value → Sg → Prop} (F : Nat → Nat → Int32) (J : Nat → Int64) {m : Nat} (hm : m < 32) (u : Nat → Int32) (d0 was : Int32) {XX : State → Method → Prop} (n : Nat) : ∀ (i : Nat) (ix : Int32) (x : Option Value), i + n = 6 → ix = nI i → (∀ y, Gj g l (rmd 2 0 0) XX (QM g zc 0 0) RX8 cX8_isRight 7 (some .boolean) 87 [some (.ref 167), some (.int (nI m)), some (.int (7 * nI m)), some (.int d0), some (.int was), y, x] [] (St (lnF F m (pre7 (fun j => -(u j)) u 6)) J) 0 0) → Gj g l (rmd 2 0 0) XX (QM g zc 0 0) RX8 cX8_isRight 7 (some .boolean) 55 [some (.ref 167), some (.int (nI m)), some (.int (7 * nI m)), some (.int d0), some (.int was), some (.int ix), x] [] (St (lnF F m (pre7 (fun j => -(u j)) u i)) J) 0 0 := by
  induction n with
  | zero =>
    intro i ix x hi hx kk
    obtain rfl : i = 6 := by omega
    subst hx
    refine g_iload 57 dX8_isRight_55 rfl rfl ?_
    refine g_bipush (6) 59 dX8_isRight_57 rfl (by decide) ?_
    refine g_icmp_ge 87 62 dX8_isRight_59 rfl (by decide) (fun h59 => ?_) (fun h59 => ?_)
    · exact kk _
    · exact absurd (by decide) h59
  | succ n ih =>
    intro i ix x hi hx kk
    subst hx
    refine g_iload 57 dX8_isRight_55 rfl rfl ?_
    refine g_bipush (6) 59 dX8_isRight_57 rfl (by decide) ?_
    refine g_icmp_ge 87 62 dX8_isRight_59 rfl (by decide) (fun h59 => ?_) (fun h59 => ?_)
    · exact absurd h59 (lt6 (by omega))
    · refine g_aload_n 63 dX8_isRight_62 rfl rfl ?_
      refine gf_8_8 66 dX8_isRight_63 rfl kf_X8_13 ?_
      refine g_iload_n 67 dX8_isRight_66 rfl rfl ?_
      refine g_iload 69 dX8_isRight_67 rfl rfl ?_
      refine g_iadd 70 dX8_isRight_69 rfl ?_
      refine g_aload_n 71 dX8_isRight_70 rfl rfl ?_
      refine gf_8_8 74 dX8_isRight_71 rfl kf_X8_13 ?_
      refine g_iload_n 75 dX8_isRight_74 rfl rfl ?_
      refine g_iload 77 dX8_isRight_75 rfl rfl ?_
      refine g_iadd 78 dX8_isRight_77 rfl ?_
      refine ga_ild (7 * m + i) 79 dX8_isRight_78 rfl (by first | decide | assumption | exact ⟨Nat.le_of_ble_eq_true rfl, rfl⟩) (ix7 m i) (show 7 * m + i < 231 by omega) ?_
      refine g_ineg 80 dX8_isRight_79 rfl ?_
      refine ga_ist (7 * m + i) 81 dX8_isRight_80 rfl (by first | decide | assumption | exact ⟨Nat.le_of_ble_eq_true rfl, rfl⟩) (ix7 m i) (show 7 * m + i < 231 by omega) ?_
      refine g_iinc (1) 84 dX8_isRight_81 rfl (by decide) (by decide) rfl ?_
      refine g_goto 55 dX8_isRight_84 (by decide) ?_
      refine gs_at (congrArg (fun x => St x J) (pre7_s (v := (fun j => -(u j))) (u := u) (by omega) (by rw [lnF_in _ _ _ (by omega), pre7, if_neg (Nat.lt_irrefl i)]))) ?_
      exact ih (i + 1) _ _ (by omega) (nI_succ i).symm kk

set_option maxRecDepth 100000 in
set_option maxHeartbeats 4000000 in
theorem lm_neg2 (g : Gl) (l : Launch) {zc : Option Value → Sg → Prop} (F : Nat → Nat → Int32) (J : Nat → Int64) {m : Nat} (hm : m < 32) (u : Nat → Int32) (d0 was : Int32) {XX : State → Method → Prop} (n : Nat) : ∀ (i : Nat) (ix : Int32) (x : Int32), i + n = 6 → ix = nI i → (∀ y, Gj g l (rmd 2 0 0) XX (QM g zc 0 0) RX8 cX8_isRight 7 (some .boolean) 133 [some (.ref 167), some (.int (nI m)), some (.int (7 * nI m)), some (.int d0), some (.int was), some (.int x), y] [] (St (lnF F m (pre7 (fun j => -(u j)) u 6)) J) 0 0) → Gj g l (rmd 2 0 0) XX (QM g zc 0 0) RX8 cX8_isRight 7 (some .boolean) 101 [some (.ref 167), some (.int (nI m)), some (.int (7 * nI m)), some (.int d0), some (.int was), some (.int x), some (.int ix)] [] (St (lnF F m (pre7 (fun j => -(u j)) u i)) J) 0 0 := by
  induction n with
  | zero =>
    intro i ix x hi hx kk
    obtain rfl : i = 6 := by omega
    subst hx
    refine g_iload 103 dX8_isRight_101 rfl rfl ?_
    refine g_bipush (6) 105 dX8_isRight_103 rfl (by decide) ?_
    refine g_icmp_ge 133 108 dX8_isRight_105 rfl (by decide) (fun h105 => ?_) (fun h105 => ?_)
    · exact kk _
    · exact absurd (by decide) h105
  | succ n ih =>
    intro i ix x hi hx kk
    subst hx
    refine g_iload 103 dX8_isRight_101 rfl rfl ?_
    refine g_bipush (6) 105 dX8_isRight_103 rfl (by decide) ?_
    refine g_icmp_ge 133 108 dX8_isRight_105 rfl (by decide) (fun h105 => ?_) (fun h105 => ?_)
    · exact absurd h105 (lt6 (by omega))
    · refine g_aload_n 109 dX8_isRight_108 rfl rfl ?_
      refine gf_8_8 112 dX8_isRight_109 rfl kf_X8_13 ?_
      refine g_iload_n 113 dX8_isRight_112 rfl rfl ?_
      refine g_iload 115 dX8_isRight_113 rfl rfl ?_
      refine g_iadd 116 dX8_isRight_115 rfl ?_
      refine g_aload_n 117 dX8_isRight_116 rfl rfl ?_
      refine gf_8_8 120 dX8_isRight_117 rfl kf_X8_13 ?_
      refine g_iload_n 121 dX8_isRight_120 rfl rfl ?_
      refine g_iload 123 dX8_isRight_121 rfl rfl ?_
      refine g_iadd 124 dX8_isRight_123 rfl ?_
      refine ga_ild (7 * m + i) 125 dX8_isRight_124 rfl (by first | decide | assumption | exact ⟨Nat.le_of_ble_eq_true rfl, rfl⟩) (ix7 m i) (show 7 * m + i < 231 by omega) ?_
      refine g_ineg 126 dX8_isRight_125 rfl ?_
      refine ga_ist (7 * m + i) 127 dX8_isRight_126 rfl (by first | decide | assumption | exact ⟨Nat.le_of_ble_eq_true rfl, rfl⟩) (ix7 m i) (show 7 * m + i < 231 by omega) ?_
      refine g_iinc (1) 130 dX8_isRight_127 rfl (by decide) (by decide) rfl ?_
      refine g_goto 101 dX8_isRight_130 (by decide) ?_
      refine gs_at (congrArg (fun x => St x J) (pre7_s (v := (fun j => -(u j))) (u := u) (by omega) (by rw [lnF_in _ _ _ (by omega), pre7, if_neg (Nat.lt_irrefl i)]))) ?_
      exact ih (i + 1) _ _ (by omega) (nI_succ i).symm kk

def opp (w : Nat → Int32) (d : Int32) : Nat → Int32 := fun j => if j < 6 then -(w j) else if mw w 0 0 6 + 1 - d < 0 then 0 else mw w 0 0 6 + 1 - d
theorem ngng (x : Int32) : -(-x) = x := Int32.neg_neg
set_option maxRecDepth 100000 in
set_option maxHeartbeats 4000000 in
theorem isRight_b (g : Gl) (l : Launch) (F : Nat → Nat → Int32) (J : Nat → Int64) {m : Nat} (hm : m < 32) (hW : ∀ i, i < m + 1 → ∀ j, j < 6 → wbd (Wm (lnF F m (opp (Wm F m) (Dm F m))) i j)) (d0 : Int32) (x5 x6 : Option Value) {XX : State → Method → Prop} : Gj g l (rmd 2 0 0) XX (QM g (fun r S2 => r = some (.int (if (fps (Wm (lnF F m (opp (Wm F m) (Dm F m)))) (Dm (lnF F m (opp (Wm F m) (Dm F m)))) (m + 1) 0 0 7).1.2.2 = 0 then 0 else 1)) ∧ ∃ F2, S2 = St F2 J ∧ kpS F F2) 0 0) RX8 cX8_isRight 7 (some .boolean) 87 [some (.ref 167), some (.int (nI m)), some (.int (7 * nI m)), some (.int d0), some (.int (Dm F m)), x5, x6] [] (St (lnF F m (opp (Wm F m) (Dm F m))) J) 0 0 := by
  refine g_aload_n 88 dX8_isRight_87 rfl rfl ?_
  refine g_iload_n 89 dX8_isRight_88 rfl rfl ?_
  refine g_iconst (1) 90 dX8_isRight_89 rfl (by decide) ?_
  refine g_iadd 91 dX8_isRight_90 rfl ?_
  refine gst_at (show nI m + 1 = nI (m + 1) from nI_1 m) ?_
  refine g_iconst (0) 92 dX8_isRight_91 rfl (by decide) ?_
  refine g_iconst (0) 93 dX8_isRight_92 rfl (by decide) ?_
  refine g_v3 8 96 dX8_isRight_93 rfl kl_X8_126 mv_X8_clashes rfl ⟨Nat.le_of_ble_eq_true rfl, Nat.le_of_ble_eq_true rfl⟩ (Nat.le_of_ble_eq_true rfl) (by first | decide | assumption | exact ⟨Nat.le_of_ble_eq_true rfl, rfl⟩) (m_clashes g l 0 0 (N := m + 1) (by omega) (lnF F m (opp (Wm F m) (Dm F m))) J hW) ?_
  rintro _ _ ⟨rfl, rfl⟩
  refine g_istore 98 dX8_isRight_96 rfl (by decide) ?_
  generalize hq : fps (Wm (lnF F m (opp (Wm F m) (Dm F m)))) (Dm (lnF F m (opp (Wm F m) (Dm F m)))) (m + 1) 0 0 7 = fq
  obtain ⟨⟨s2, t2, c2⟩, n2⟩ := fq
  refine g_iconst (0) 99 dX8_isRight_98 rfl (by decide) ?_
  refine g_istore 101 dX8_isRight_99 rfl (by decide) ?_
  have h0 : fsn (lnF F m (opp (Wm F m) (Dm F m))) s2 t2 = lnF (fsn F s2 t2) m (pre7 (fun j => -(opp (Wm F m) (Dm F m) j)) (opp (Wm F m) (Dm F m)) 0) := by rw [pre7_0, lnF_fsn]
  refine gs_at (congrArg (fun x => St x J) h0) ?_
  refine lm_neg2 g l (fsn F s2 t2) J hm (opp (Wm F m) (Dm F m)) d0 (Dm F m) 6 0 _ _ rfl rfl (fun y => ?_)
  refine g_aload_n 134 dX8_isRight_133 rfl rfl ?_
  refine gf_8_8 137 dX8_isRight_134 rfl kf_X8_13 ?_
  refine g_iload_n 138 dX8_isRight_137 rfl rfl ?_
  refine g_bipush (6) 140 dX8_isRight_138 rfl (by decide) ?_
  refine g_iadd 141 dX8_isRight_140 rfl ?_
  refine g_iload 143 dX8_isRight_141 rfl rfl ?_
  refine ga_ist (7 * m + 6) 144 dX8_isRight_143 rfl (by first | decide | assumption | exact ⟨Nat.le_of_ble_eq_true rfl, rfl⟩) (ix76 m) (show 7 * m + 6 < 231 by omega) ?_
  refine g_iload 146 dX8_isRight_144 rfl rfl ?_
  refine g_zret dX8_isRight_146 (by split <;> decide) ?_
  refine ⟨rfl, _, rfl, s2, t2, ?_⟩
  rw [lnF_up _ _ _ _ (by decide)]
  have : lnF (fsn F s2 t2) m (upd (pre7 (fun j => -(opp (Wm F m) (Dm F m) j)) (opp (Wm F m) (Dm F m)) 6) 6 (Dm F m)) = lnF (fsn F s2 t2) m (fun j => (fsn F s2 t2) 169 (7 * m + j)) := by
    refine lnF_eq fun j hj => ?_
    by_cases e : j < 6
    · simp only [upd, if_neg (show ¬ j = 6 by omega), pre7, if_pos e, opp]
      rw [ngng]; rfl
    · obtain rfl : j = 6 := by omega
      simp only [upd, if_true]; rfl
  rw [this, ← lnF_id]

set_option maxRecDepth 100000 in
set_option maxHeartbeats 4000000 in
theorem m_isRight (g : Gl) (l : Launch) (F : Nat → Nat → Int32) (J : Nat → Int64) {m : Nat} (hm : m < 32) (hW : ∀ i, i < m + 1 → ∀ j, j < 6 → wbd (Wm (lnF F m (opp (Wm F m) (Dm F m))) i j)) : Ct g l yX8_isRight cX8_isRight 7 (some .boolean) 2 0 0 [.ref 167, .int (nI m)] (St F J) (fun r S2 => r = some (.int (if (fps (Wm (lnF F m (opp (Wm F m) (Dm F m)))) (Dm (lnF F m (opp (Wm F m) (Dm F m)))) (m + 1) 0 0 7).1.2.2 = 0 then 0 else 1)) ∧ ∃ F2, S2 = St F2 J ∧ kpS F F2) := by
  refine Ct.of rfl (by decide) rfl (Nat.le_of_ble_eq_true rfl) ?_
  refine g_bipush (7) 2 dX8_isRight_0 rfl (by decide) ?_
  refine g_iload_n 3 dX8_isRight_2 rfl rfl ?_
  refine g_imul 4 dX8_isRight_3 rfl ?_
  refine g_istore_n 5 dX8_isRight_4 rfl (by decide) ?_
  refine g_aload_n 6 dX8_isRight_5 rfl rfl ?_
  refine g_iload_n 7 dX8_isRight_6 rfl rfl ?_
  refine g_v1 8 10 dX8_isRight_7 rfl kl_X8_123 mv_X8_weights rfl ⟨Nat.le_of_ble_eq_true rfl, Nat.le_of_ble_eq_true rfl⟩ (Nat.le_of_ble_eq_true rfl) (by first | decide | assumption | exact ⟨Nat.le_of_ble_eq_true rfl, rfl⟩) (m_weights g l F J (n0 := m) (by omega)) ?_
  rintro _ _ ⟨rfl, rfl⟩
  rw [sm_mw (Wm F m) 6]
  refine g_iconst (1) 11 dX8_isRight_10 rfl (by decide) ?_
  refine g_iadd 12 dX8_isRight_11 rfl ?_
  refine g_aload_n 13 dX8_isRight_12 rfl rfl ?_
  refine gf_8_8 16 dX8_isRight_13 rfl kf_X8_13 ?_
  refine g_iload_n 17 dX8_isRight_16 rfl rfl ?_
  refine g_bipush (6) 19 dX8_isRight_17 rfl (by decide) ?_
  refine g_iadd 20 dX8_isRight_19 rfl ?_
  refine ga_ild (7 * m + 6) 21 dX8_isRight_20 rfl (by first | decide | assumption | exact ⟨Nat.le_of_ble_eq_true rfl, rfl⟩) (ix76 m) (show 7 * m + 6 < 231 by omega) ?_
  refine g_isub 22 dX8_isRight_21 rfl ?_
  refine g_istore_n 23 dX8_isRight_22 rfl (by decide) ?_
  refine g_aload_n 24 dX8_isRight_23 rfl rfl ?_
  refine gf_8_8 27 dX8_isRight_24 rfl kf_X8_13 ?_
  refine g_iload_n 28 dX8_isRight_27 rfl rfl ?_
  refine g_bipush (6) 30 dX8_isRight_28 rfl (by decide) ?_
  refine g_iadd 31 dX8_isRight_30 rfl ?_
  refine ga_ild (7 * m + 6) 32 dX8_isRight_31 rfl (by first | decide | assumption | exact ⟨Nat.le_of_ble_eq_true rfl, rfl⟩) (ix76 m) (show 7 * m + 6 < 231 by omega) ?_
  refine g_istore 34 dX8_isRight_32 rfl (by decide) ?_
  refine g_aload_n 35 dX8_isRight_34 rfl rfl ?_
  refine gf_8_8 38 dX8_isRight_35 rfl kf_X8_13 ?_
  refine g_iload_n 39 dX8_isRight_38 rfl rfl ?_
  refine g_bipush (6) 41 dX8_isRight_39 rfl (by decide) ?_
  refine g_iadd 42 dX8_isRight_41 rfl ?_
  refine g_iload_n 43 dX8_isRight_42 rfl rfl ?_
  refine g_if_ge 50 46 dX8_isRight_43 rfl (by decide) (fun h43 => ?_) (fun h43 => ?_)
  · refine g_iload_n 51 dX8_isRight_50 rfl rfl ?_
    refine ga_ist (7 * m + 6) 52 dX8_isRight_51 rfl (by first | decide | assumption | exact ⟨Nat.le_of_ble_eq_true rfl, rfl⟩) (ix76 m) (show 7 * m + 6 < 231 by omega) ?_
    refine g_iconst (0) 53 dX8_isRight_52 rfl (by decide) ?_
    refine g_istore 55 dX8_isRight_53 rfl (by decide) ?_
    have hopp : up2 F 169 (7 * m + 6) (mw (Wm F m) 0 0 6 + 1 - F 169 (7 * m + 6)) = lnF F m (pre7 (fun j => -(upd (fun j => F 169 (7 * m + j)) 6 (mw (Wm F m) 0 0 6 + 1 - F 169 (7 * m + 6)) j)) (upd (fun j => F 169 (7 * m + j)) 6 (mw (Wm F m) 0 0 6 + 1 - F 169 (7 * m + 6))) 0) := by
      rw [pre7_0, ← lnF_up _ _ _ _ (by decide), ← lnF_id]
    refine gs_at (congrArg (fun x => St x J) hopp) ?_
    have hf : lnF F m (pre7 (fun j => -(upd (fun j => F 169 (7 * m + j)) 6 (mw (Wm F m) 0 0 6 + 1 - F 169 (7 * m + 6)) j)) (upd (fun j => F 169 (7 * m + j)) 6 (mw (Wm F m) 0 0 6 + 1 - F 169 (7 * m + 6))) 6) = (lnF F m (opp (Wm F m) (Dm F m))) := by
      refine lnF_eq fun j hj => ?_
      by_cases e : j < 6
      · rw [pre7, if_pos e, opp, if_pos e]; simp only [upd, if_neg (show ¬ j = 6 by omega)]; rfl
      · obtain rfl : j = 6 := by omega
        rw [pre7, if_neg e, opp, if_neg e, if_neg (show ¬ mw (Wm F m) 0 0 6 + 1 - Dm F m < 0 from fun z => absurd h43 (Int32.not_le.mpr z))]; rfl
    refine lm_neg1 g l F J hm _ _ _ 6 0 _ _ rfl rfl (fun y => ?_)
    refine gs_at (congrArg (fun x => St x J) hf) ?_
    exact isRight_b g l F J hm hW _ _ _
  · refine g_iconst (0) 47 dX8_isRight_46 rfl (by decide) ?_
    refine g_goto 51 dX8_isRight_47 (by decide) ?_
    refine ga_ist (7 * m + 6) 52 dX8_isRight_51 rfl (by first | decide | assumption | exact ⟨Nat.le_of_ble_eq_true rfl, rfl⟩) (ix76 m) (show 7 * m + 6 < 231 by omega) ?_
    refine g_iconst (0) 53 dX8_isRight_52 rfl (by decide) ?_
    refine g_istore 55 dX8_isRight_53 rfl (by decide) ?_
    have hopp : up2 F 169 (7 * m + 6) 0 = lnF F m (pre7 (fun j => -(upd (fun j => F 169 (7 * m + j)) 6 0 j)) (upd (fun j => F 169 (7 * m + j)) 6 0) 0) := by
      rw [pre7_0, ← lnF_up _ _ _ _ (by decide), ← lnF_id]
    refine gs_at (congrArg (fun x => St x J) hopp) ?_
    have hf : lnF F m (pre7 (fun j => -(upd (fun j => F 169 (7 * m + j)) 6 0 j)) (upd (fun j => F 169 (7 * m + j)) 6 0) 6) = (lnF F m (opp (Wm F m) (Dm F m))) := by
      refine lnF_eq fun j hj => ?_
      by_cases e : j < 6
      · rw [pre7, if_pos e, opp, if_pos e]; simp only [upd, if_neg (show ¬ j = 6 by omega)]; rfl
      · obtain rfl : j = 6 := by omega
        rw [pre7, if_neg e, opp, if_neg e, if_pos (show mw (Wm F m) 0 0 6 + 1 - Dm F m < 0 from Int32.not_le.mp h43)]; rfl
    refine lm_neg1 g l F J hm _ _ _ 6 0 _ _ rfl rfl (fun y => ?_)
    refine gs_at (congrArg (fun x => St x J) hf) ?_
    exact isRight_b g l F J hm hW _ _ _

