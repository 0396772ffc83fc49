/-! the law: its loop, its beginning -/
set_option maxRecDepth 100000 in
set_option maxHeartbeats 4000000 in
theorem lw_lp (g : Gl) (l : Launch) {b L : Nat} {xs : Nat → Int32} (hL : L ≤ 2560) (n : Nat) : ∀ (k : Nat) (ix : Int32) (F : Nat → Nat → Int32) (J : Nat → Int64), L ≤ k + n → k ≤ L + 5 → ix = nI k → (∃ G P T len, LR F G P T len) → Gj g l room_1 (XL g b L xs) (QL b) RL cL_law 4 (some .boolean) 18 [some (.ref 1300), some (.ref 0), some (.ref 167), some (.int ix)] [] (St F J) 174 3276 := by
  have le5 : ∀ k, k ≤ L + 5 → nI k ≤ nI L - 5 → k + 5 ≤ L := fun k hk h => by
    have e5 : (5 : Int32).toInt = 5 := rfl
    have eL : (nI L).toInt = L := nI_toInt (by omega)
    have ek : (nI k).toInt = k := nI_toInt (by omega)
    rw [Int32.le_iff_toInt_le, sub_in (by omega) (by omega)] at h
    omega
  induction n with
  | zero =>
    intro k ix F J hn hk hx hR
    subst hx
    refine g_iload_n 19 dL_law_18 rfl rfl ?_
    refine g_aload_n 20 dL_law_19 rfl rfl ?_
    refine g_llen 21 dL_law_20 rfl ?_
    refine g_iconst (5) 22 dL_law_21 rfl (by decide) ?_
    refine g_isub 23 dL_law_22 rfl ?_
    refine g_icmp_gt 686 26 dL_law_23 rfl (by decide) (fun h23 => ?_) (fun h23 => ?_)
    · refine g_iconst (1) 687 dL_law_686 rfl (by decide) ?_
      exact g_lawret dL_law_687 (by decide) (by decide)
    · have := le5 k hk (Int32.not_lt.mp h23)
      omega
  | succ n ih =>
    intro k ix F J hn hk5 hx hR
    subst hx
    obtain ⟨G, P, T, len, h⟩ := hR
    refine g_iload_n 19 dL_law_18 rfl rfl ?_
    refine g_aload_n 20 dL_law_19 rfl rfl ?_
    refine g_llen 21 dL_law_20 rfl ?_
    refine g_iconst (5) 22 dL_law_21 rfl (by decide) ?_
    refine g_isub 23 dL_law_22 rfl ?_
    refine g_icmp_gt 686 26 dL_law_23 rfl (by decide) (fun h23 => ?_) (fun h23 => ?_)
    · refine g_iconst (1) 687 dL_law_686 rfl (by decide) ?_
      exact g_lawret dL_law_687 (by decide) (by decide)
    · have hk := le5 k hk5 (Int32.not_lt.mp h23)
      have kk : ∀ (F2 : Nat → Nat → Int32) (J2 : Nat → Int64), (∃ G P T len, LR F2 G P T len) → Gj g l room_1 (XL g b L xs) (QL b) RL cL_law 4 (some .boolean) 680 [some (.ref 1300), some (.ref 0), some (.ref 167), some (.int (nI k))] [] (St F2 J2) 174 3276 := fun F2 J2 hR => by
        refine g_iinc (5) 683 dL_law_680 rfl (by decide) (by decide) rfl ?_
        refine g_goto 18 dL_law_683 (by decide) ?_
        exact ih (k + 5) _ F2 J2 (by omega) (by omega) (ixk k 5) hR
      refine g_aload_n 27 dL_law_26 rfl rfl ?_
      refine g_iload_n 28 dL_law_27 rfl rfl ?_
      refine g_sld k 29 dL_law_28 rfl rfl (by omega) hL ?_
      refine g_bipush (31) 31 dL_law_29 rfl (by decide) ?_
      refine g_iand 32 dL_law_31 rfl ?_
      obtain ⟨v, hv, ev⟩ := and31 (xs k)
      refine gst_at ev ?_
      rcases (show v = 0 ∨ v = 1 ∨ v = 2 ∨ v = 3 ∨ v = 4 ∨ v = 5 ∨ v = 6 ∨ v = 7 ∨ v = 8 ∨ v = 9 ∨ v = 10 ∨ v = 11 ∨ v = 12 ∨ v = 13 ∨ v = 14 ∨ v = 15 ∨ v = 16 ∨ v = 17 ∨ v = 18 ∨ v = 19 ∨ 20 ≤ v by omega) with rfl | rfl | rfl | rfl | rfl | rfl | rfl | rfl | rfl | rfl | rfl | rfl | rfl | rfl | rfl | rfl | rfl | rfl | rfl | rfl | hv2
      · refine g_tabI 128 dL_law_32 (by decide) (by decide) (off := 96) (by decide) (by decide) ?_
        exact lc_0 g l hk hL F J h kk
      · refine g_tabI 191 dL_law_32 (by decide) (by decide) (off := 159) (by decide) (by decide) ?_
        exact lc_1 g l hk hL F J h kk
      · refine g_tabI 204 dL_law_32 (by decide) (by decide) (off := 172) (by decide) (by decide) ?_
        exact lc_2 g l hk hL F J h kk
      · refine g_tabI 217 dL_law_32 (by decide) (by decide) (off := 185) (by decide) (by decide) ?_
        exact lc_3 g l hk hL F J h kk
      · refine g_tabI 230 dL_law_32 (by decide) (by decide) (off := 198) (by decide) (by decide) ?_
        exact lc_4 g l hk hL F J h kk
      · refine g_tabI 253 dL_law_32 (by decide) (by decide) (off := 221) (by decide) (by decide) ?_
        exact lc_5 g l hk hL F J h kk
      · refine g_tabI 286 dL_law_32 (by decide) (by decide) (off := 254) (by decide) (by decide) ?_
        exact lc_6 g l hk hL F J h kk
      · refine g_tabI 310 dL_law_32 (by decide) (by decide) (off := 278) (by decide) (by decide) ?_
        exact lc_7 g l hk hL F J h kk
      · refine g_tabI 333 dL_law_32 (by decide) (by decide) (off := 301) (by decide) (by decide) ?_
        exact lc_8 g l hk hL F J h kk
      · refine g_tabI 346 dL_law_32 (by decide) (by decide) (off := 314) (by decide) (by decide) ?_
        exact lc_9 g l hk hL F J h kk
      · refine g_tabI 389 dL_law_32 (by decide) (by decide) (off := 357) (by decide) (by decide) ?_
        exact lc_10 g l hk hL F J h kk
      · refine g_tabI 442 dL_law_32 (by decide) (by decide) (off := 410) (by decide) (by decide) ?_
        exact lc_11 g l hk hL F J h kk
      · refine g_tabI 456 dL_law_32 (by decide) (by decide) (off := 424) (by decide) (by decide) ?_
        exact lc_12 g l hk hL F J h kk
      · refine g_tabI 479 dL_law_32 (by decide) (by decide) (off := 447) (by decide) (by decide) ?_
        exact lc_13 g l hk hL F J h kk
      · refine g_tabI 502 dL_law_32 (by decide) (by decide) (off := 470) (by decide) (by decide) ?_
        exact lc_14 g l hk hL F J h kk
      · refine g_tabI 535 dL_law_32 (by decide) (by decide) (off := 503) (by decide) (by decide) ?_
        exact lc_15 g l hk hL F J h kk
      · refine g_tabI 568 dL_law_32 (by decide) (by decide) (off := 536) (by decide) (by decide) ?_
        exact lc_16 g l hk hL F J h kk
      · refine g_tabI 601 dL_law_32 (by decide) (by decide) (off := 569) (by decide) (by decide) ?_
        exact lc_17 g l hk hL F J h kk
      · refine g_tabI 624 dL_law_32 (by decide) (by decide) (off := 592) (by decide) (by decide) ?_
        exact lc_18 g l hk hL F J h kk
      · refine g_tabI 657 dL_law_32 (by decide) (by decide) (off := 625) (by decide) (by decide) ?_
        exact lc_19 g l hk hL F J h kk
      · refine g_tabO 680 dL_law_32 (Or.inr (by rw [nI_toInt (by omega)]; omega)) (by decide) ?_
        exact kk F J ⟨G, P, T, len, h⟩
set_option maxRecDepth 100000 in
set_option maxHeartbeats 4000000 in
theorem lw_main (g : Gl) (l : Launch) {b L : Nat} {xs : Nat → Int32} (hL : L ≤ 2560) : Gj g l room_1 (XL g b L xs) (QL b) RL cL_law 4 (some .boolean) 0 [some (.ref 1300), none, none, none] [] (0, Z0, J0, fun _ _ => none) 0 0 := by
  refine g_newG (n := 0) (ci := 7) (N := 12) (C := RX7) (T := TX7) (fs := [.null, .null, .null, .null, .null, .null, .null, (.int 0 : Value), (.int 0 : Value), (.int 0 : Value), (.int 0 : Value), (.int 0 : Value)]) tyX7 3 dL_law_0 rfl kn_L_7 ks_X7 ki_X7 rfl iw7 tyX7_ok (by decide) (by simp only [wE, show sh 0 = 7 from rfl, wR, wI] <;> rfl) (by decide) ⟨Nat.le_of_ble_eq_true rfl, Nat.le_of_ble_eq_true rfl⟩ ?_
  refine g_dup 4 dL_law_3 rfl rfl ?_
  refine g_iI 7 dL_law_4 rfl kl_L_9 mi_X7 (i_X7 g l (Rf := fun _ _ => none) (fun _ _ => rfl)) (by decide : 0 < 1) ⟨Nat.le_of_ble_eq_true rfl, Nat.le_of_ble_eq_true rfl⟩ ⟨Nat.le_of_ble_eq_true rfl, Nat.le_of_ble_eq_true rfl⟩ (Nat.le_of_ble_eq_true rfl) ?_
  rintro _ _ ⟨rfl, Rg, rfl, ok, kN⟩
  refine g_astore_n 8 dL_law_7 rfl (by decide) ?_
  refine g_newG (n := 167) (ci := 8) (N := 20) (C := RX8) (T := TX8) (fs := [(.int 0 : Value), .null, (.int 0 : Value), (.int 0 : Value), (.int 0 : Value), (.int 0 : Value), (.int 0 : Value), (.int 0 : Value), .null, (.int 0 : Value), (.int 0 : Value), (.int 0 : Value), (.int 0 : Value), (.int 0 : Value), .null, .null, (.int 0 : Value), (.int 0 : Value), .null, .null]) tyX8 11 dL_law_8 rfl kn_L_10 ks_X8 ki_X8 rfl iw8 tyX8_ok (by decide) (by simp only [wE, show sh 167 = 8 from rfl, wR, wI, kN 167 (Nat.le_refl _) 1, kN 167 (Nat.le_refl _) 8, kN 167 (Nat.le_refl _) 14, kN 167 (Nat.le_refl _) 15, kN 167 (Nat.le_refl _) 18, kN 167 (Nat.le_refl _) 19] <;> rfl) (by decide) ⟨Nat.le_of_ble_eq_true rfl, Nat.le_of_ble_eq_true rfl⟩ ?_
  refine g_dup 12 dL_law_11 rfl rfl ?_
  refine g_iI 15 dL_law_12 rfl kl_L_12 mi_X8 (i_X8 g l ok kN) (by decide : 167 < 168) ⟨Nat.le_of_ble_eq_true rfl, Nat.le_of_ble_eq_true rfl⟩ ⟨Nat.le_of_ble_eq_true rfl, Nat.le_of_ble_eq_true rfl⟩ (Nat.le_of_ble_eq_true rfl) ?_
  rintro _ _ ⟨rfl, rfl⟩
  refine g_astore_n 16 dL_law_15 rfl (by decide) ?_
  refine g_iconst (0) 17 dL_law_16 rfl (by decide) ?_
  refine g_istore_n 18 dL_law_17 rfl (by decide) ?_
  exact lw_lp g l hL L 0 _ F8 J0 (by omega) (by omega) rfl ⟨0, 0, 0, 0, LR_0⟩
