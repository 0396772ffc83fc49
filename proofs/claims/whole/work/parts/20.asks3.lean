/-! TruthSums: fit, count, forced, wrong, clear, type -/
def pickQ (q : Q4) (what : Int32) : Int32 := if what = 0 then q.1 else if what = 1 then q.2.1 else if what = 2 then q.2.2.1 else if what = 3 then q.2.2.2 else abs32 q.1 + abs32 q.2.1 + abs32 q.2.2.1
def fitO (x : Option Q4) (what : Int32) : Int32 := match x with
  | none => -1000000
  | some q => pickQ q what
def fitA (t what : Int32) : Int32 := if ¬ t < 0 ∧ ¬ 255 < t ∧ ¬ what < 0 ∧ what ≤ 4 then fitO (fitF t) what else -1000000
/-- all rows but one stay -/
def kpX (k : Nat) (F G : Nat → Nat → Int32) : Prop := ∀ q, q ≠ k → G q = F q
theorem kpX_r (k : Nat) (F : Nat → Nat → Int32) : kpX k F F := fun _ _ => rfl
theorem kpX_ft (F : Nat → Nat → Int32) (q : Q4) : kpX 99 F (ft F q) := fun r h => by simp [ft, h]
theorem kpX_fo (F : Nat → Nat → Int32) (q : Int32 × Int32 × Int32) : kpX 98 F (fo3 F q) := fun r h => fo_ne F _ _ _ h
theorem ts_i {x : Int32} {m : Nat} (h0 : ¬ x < 0) (h : x ≤ nI m) (hm : m < 2 ^ 31) : ∃ n : Nat, n ≤ m ∧ x = nI n := by
  obtain ⟨n, hn, e⟩ := nI_of h0
  refine ⟨n, ?_, e⟩
  rcases Nat.lt_or_ge m n with q | q
  · rw [e] at h; exact absurd h (nI_ge q hn)
  · exact q

set_option maxRecDepth 100000 in
set_option maxHeartbeats 4000000 in
theorem c_fit (g : Gl) (l : Launch) (t what : Int32) (F : Nat → Nat → Int32) (J : Nat → Int64) : Ct g l yX7_fit cX7_fit 3 (some .int) 5 0 0 [.ref 0, .int t, .int what] (St F J) (fun r S2 => r = some (.int (fitA t what)) ∧ ∃ F2, S2 = St F2 J ∧ kpX 99 F F2) := by
  refine Ct.of rfl (by decide) rfl (Nat.le_of_ble_eq_true rfl) ?_
  refine g_iload_n 1 dX7_fit_0 rfl rfl ?_
  refine g_if_lt 20 4 dX7_fit_1 rfl (by decide) (fun h1 => ?_) (fun h1 => ?_)
  · refine g_ldc 22 dX7_fit_20 rfl kc_X7_171 ?_
    refine g_iret dX7_fit_22 ?_
    exact ⟨by rw [fitA, if_neg (fun z => z.1 h1)], _, rfl, kpX_r 99 F⟩
  · refine g_iload_n 5 dX7_fit_4 rfl rfl ?_
    refine g_sipush (255) 8 dX7_fit_5 rfl (by decide) ?_
    refine g_icmp_gt 20 11 dX7_fit_8 rfl (by decide) (fun h8 => ?_) (fun h8 => ?_)
    · refine g_ldc 22 dX7_fit_20 rfl kc_X7_171 ?_
      refine g_iret dX7_fit_22 ?_
      exact ⟨by rw [fitA, if_neg (fun z => z.2.1 h8)], _, rfl, kpX_r 99 F⟩
    · refine g_iload_n 12 dX7_fit_11 rfl rfl ?_
      refine g_if_lt 20 15 dX7_fit_12 rfl (by decide) (fun h12 => ?_) (fun h12 => ?_)
      · refine g_ldc 22 dX7_fit_20 rfl kc_X7_171 ?_
        refine g_iret dX7_fit_22 ?_
        exact ⟨by rw [fitA, if_neg (fun z => z.2.2.1 h12)], _, rfl, kpX_r 99 F⟩
      · refine g_iload_n 16 dX7_fit_15 rfl rfl ?_
        refine g_iconst (4) 17 dX7_fit_16 rfl (by decide) ?_
        refine g_icmp_le 23 20 dX7_fit_17 rfl (by decide) (fun h17 => ?_) (fun h17 => ?_)
        · refine g_aload_n 24 dX7_fit_23 rfl rfl ?_
          refine gf_7_3 27 dX7_fit_24 rfl kf_X7_33 ?_
          refine g_iload_n 28 dX7_fit_27 rfl rfl ?_
          refine g_v1 0 31 dX7_fit_28 rfl kl_X7_232 mv_X0_search rfl ⟨Nat.le_of_ble_eq_true rfl, Nat.le_of_ble_eq_true rfl⟩ (Nat.le_of_ble_eq_true rfl) (by first | decide | assumption | exact ⟨Nat.le_of_ble_eq_true rfl, rfl⟩) (c_search g l _ F J) ?_
          intro r S2 hz
          rcases hz with ⟨hz1, rfl, rfl⟩ | ⟨q, hz1, rfl, rfl⟩
          · refine g_if_ne 37 34 dX7_fit_31 rfl (by decide) (fun h31 => ?_) (fun h31 => ?_)
            · exact absurd h31 (by decide)
            · refine g_ldc 36 dX7_fit_34 rfl kc_X7_171 ?_
              refine g_iret dX7_fit_36 ?_
              exact ⟨by rw [fitA, if_pos ⟨h1, h8, h12, h17⟩, hz1]; rfl, _, rfl, kpX_r 99 F⟩
          · refine g_if_ne 37 34 dX7_fit_31 rfl (by decide) (fun h31 => ?_) (fun h31 => ?_)
            · refine g_iload_n 38 dX7_fit_37 rfl rfl ?_
              obtain ⟨m, hm, rfl⟩ := ts_i (m := 4) h12 h17 (by decide)
              rcases (show m = 0 ∨ m = 1 ∨ m = 2 ∨ m = 3 ∨ m = 4 by omega) with rfl | rfl | rfl | rfl | rfl
              · refine g_tsIn (off := 30) 68 dX7_fit_38 (by decide) (by decide) (by decide) (by decide) ?_
                refine g_aload_n 69 dX7_fit_68 rfl rfl ?_
                refine gf_7_3 72 dX7_fit_69 rfl kf_X7_33 ?_
                refine gf_0_0 75 dX7_fit_72 rfl kf_X7_235 (by first | decide | assumption | exact ⟨Nat.le_of_ble_eq_true rfl, rfl⟩) ?_
                refine g_iret dX7_fit_75 ?_
                exact ⟨by rw [fitA, if_pos ⟨h1, h8, h12, h17⟩, hz1]; rfl, _, rfl, kpX_ft F q⟩
              · refine g_tsIn (off := 38) 76 dX7_fit_38 (by decide) (by decide) (by decide) (by decide) ?_
                refine g_aload_n 77 dX7_fit_76 rfl rfl ?_
                refine gf_7_3 80 dX7_fit_77 rfl kf_X7_33 ?_
                refine gf_0_1 83 dX7_fit_80 rfl kf_X7_238 (by first | decide | assumption | exact ⟨Nat.le_of_ble_eq_true rfl, rfl⟩) ?_
                refine g_iret dX7_fit_83 ?_
                exact ⟨by rw [fitA, if_pos ⟨h1, h8, h12, h17⟩, hz1]; rfl, _, rfl, kpX_ft F q⟩
              · refine g_tsIn (off := 46) 84 dX7_fit_38 (by decide) (by decide) (by decide) (by decide) ?_
                refine g_aload_n 85 dX7_fit_84 rfl rfl ?_
                refine gf_7_3 88 dX7_fit_85 rfl kf_X7_33 ?_
                refine gf_0_2 91 dX7_fit_88 rfl kf_X7_241 (by first | decide | assumption | exact ⟨Nat.le_of_ble_eq_true rfl, rfl⟩) ?_
                refine g_iret dX7_fit_91 ?_
                exact ⟨by rw [fitA, if_pos ⟨h1, h8, h12, h17⟩, hz1]; rfl, _, rfl, kpX_ft F q⟩
              · refine g_tsIn (off := 54) 92 dX7_fit_38 (by decide) (by decide) (by decide) (by decide) ?_
                refine g_aload_n 93 dX7_fit_92 rfl rfl ?_
                refine gf_7_3 96 dX7_fit_93 rfl kf_X7_33 ?_
                refine gf_0_3 99 dX7_fit_96 rfl kf_X7_244 (by first | decide | assumption | exact ⟨Nat.le_of_ble_eq_true rfl, rfl⟩) ?_
                refine g_iret dX7_fit_99 ?_
                exact ⟨by rw [fitA, if_pos ⟨h1, h8, h12, h17⟩, hz1]; rfl, _, rfl, kpX_ft F q⟩
              · refine g_tsOut 100 dX7_fit_38 (by decide) (by decide) ?_
                refine g_aload_n 101 dX7_fit_100 rfl rfl ?_
                refine gf_7_3 104 dX7_fit_101 rfl kf_X7_33 ?_
                refine gf_0_0 107 dX7_fit_104 rfl kf_X7_235 (by first | decide | assumption | exact ⟨Nat.le_of_ble_eq_true rfl, rfl⟩) ?_
                refine g_mabs 110 dX7_fit_107 rfl kl_X7_245 ⟨Nat.le_of_ble_eq_true rfl, Nat.le_of_ble_eq_true rfl, Nat.le_of_ble_eq_true rfl, Nat.le_of_ble_eq_true rfl⟩ (Nat.le_of_ble_eq_true rfl) ?_
                refine g_aload_n 111 dX7_fit_110 rfl rfl ?_
                refine gf_7_3 114 dX7_fit_111 rfl kf_X7_33 ?_
                refine gf_0_1 117 dX7_fit_114 rfl kf_X7_238 (by first | decide | assumption | exact ⟨Nat.le_of_ble_eq_true rfl, rfl⟩) ?_
                refine g_mabs 120 dX7_fit_117 rfl kl_X7_245 ⟨Nat.le_of_ble_eq_true rfl, Nat.le_of_ble_eq_true rfl, Nat.le_of_ble_eq_true rfl, Nat.le_of_ble_eq_true rfl⟩ (Nat.le_of_ble_eq_true rfl) ?_
                refine g_iadd 121 dX7_fit_120 rfl ?_
                refine g_aload_n 122 dX7_fit_121 rfl rfl ?_
                refine gf_7_3 125 dX7_fit_122 rfl kf_X7_33 ?_
                refine gf_0_2 128 dX7_fit_125 rfl kf_X7_241 (by first | decide | assumption | exact ⟨Nat.le_of_ble_eq_true rfl, rfl⟩) ?_
                refine g_mabs 131 dX7_fit_128 rfl kl_X7_245 ⟨Nat.le_of_ble_eq_true rfl, Nat.le_of_ble_eq_true rfl, Nat.le_of_ble_eq_true rfl, Nat.le_of_ble_eq_true rfl⟩ (Nat.le_of_ble_eq_true rfl) ?_
                refine g_iadd 132 dX7_fit_131 rfl ?_
                refine g_iret dX7_fit_132 ?_
                exact ⟨by rw [fitA, if_pos ⟨h1, h8, h12, h17⟩, hz1]; rfl, _, rfl, kpX_ft F q⟩
            · exact absurd h31 (by decide)
        · refine g_ldc 22 dX7_fit_20 rfl kc_X7_171 ?_
          refine g_iret dX7_fit_22 ?_
          exact ⟨by rw [fitA, if_neg (fun z => h17 z.2.2.2)], _, rfl, kpX_r 99 F⟩

def countA (G P T len : Nat) (W : Nat → Nat → Int32) (D : Nat → Int32) (what : Int32) : Int32 := if what = 0 then nI G else if what = 1 then nI P else if what = 2 then nI T else if what = 3 then bc64 (tws W D G) else if what = 4 then nI len else -1
theorem ts_c {x : Int32} (h0 : ¬ x = 0) (h1 : ¬ x = 1) (h2 : ¬ x = 2) (h3 : ¬ x = 3) (h4 : ¬ x = 4) : x.toInt < 0 ∨ 4 < x.toInt := by
  have e : ∀ v : Int32, ¬ x = v → ¬ x.toInt = v.toInt := fun v h z => h (Int32.toInt_inj.mp z)
  have a0 : ¬ x.toInt = 0 := e 0 h0
  have a1 : ¬ x.toInt = 1 := e 1 h1
  have a2 : ¬ x.toInt = 2 := e 2 h2
  have a3 : ¬ x.toInt = 3 := e 3 h3
  have a4 : ¬ x.toInt = 4 := e 4 h4
  omega
set_option maxRecDepth 100000 in
set_option maxHeartbeats 4000000 in
theorem c_count (g : Gl) (l : Launch) (what : Int32) (F : Nat → Nat → Int32) (J : Nat → Int64) {G P : Nat} (hS : cS F G P) {T len : Nat} (hT : F 0 9 = nI T) (hl : F 1 1 = nI len) : Ct g l yX7_count cX7_count 2 (some .int) 5 0 0 [.ref 0, .int what] (St F J) (fun r S2 => r = some (.int (countA G P T len (Wc F) (Dc F) what)) ∧ S2 = St F J) := by
  obtain ⟨hG, hP, hG8, hP24⟩ := hS
  refine Ct.of rfl (by decide) rfl (Nat.le_of_ble_eq_true rfl) ?_
  refine g_iload_n 1 dX7_count_0 rfl rfl ?_
  by_cases h0 : what = 0
  · subst h0
    refine g_tsIn (off := 35) 36 dX7_count_1 (by decide) (by decide) (by decide) (by decide) ?_
    refine g_aload_n 37 dX7_count_36 rfl rfl ?_
    refine gf_7_7 40 dX7_count_37 rfl kf_X7_81 (by first | decide | assumption | exact ⟨Nat.le_of_ble_eq_true rfl, rfl⟩) ?_
    refine g_iret dX7_count_40 ?_
    exact ⟨by rw [countA, if_pos rfl, ← hG], rfl⟩
  by_cases h1 : what = 1
  · subst h1
    refine g_tsIn (off := 40) 41 dX7_count_1 (by decide) (by decide) (by decide) (by decide) ?_
    refine g_aload_n 42 dX7_count_41 rfl rfl ?_
    refine gf_7_8 45 dX7_count_42 rfl kf_X7_97 (by first | decide | assumption | exact ⟨Nat.le_of_ble_eq_true rfl, rfl⟩) ?_
    refine g_iret dX7_count_45 ?_
    exact ⟨by rw [countA, if_neg (by decide), if_pos rfl, ← hP], rfl⟩
  by_cases h2 : what = 2
  · subst h2
    refine g_tsIn (off := 45) 46 dX7_count_1 (by decide) (by decide) (by decide) (by decide) ?_
    refine g_aload_n 47 dX7_count_46 rfl rfl ?_
    refine gf_7_9 50 dX7_count_47 rfl kf_X7_91 (by first | decide | assumption | exact ⟨Nat.le_of_ble_eq_true rfl, rfl⟩) ?_
    refine g_iret dX7_count_50 ?_
    exact ⟨by rw [countA, if_neg (by decide), if_neg (by decide), if_pos rfl, ← hT], rfl⟩
  by_cases h3 : what = 3
  · subst h3
    refine g_tsIn (off := 50) 51 dX7_count_1 (by decide) (by decide) (by decide) (by decide) ?_
    refine g_aload_n 52 dX7_count_51 rfl rfl ?_
    refine g_v0 7 55 dX7_count_52 rfl kl_X7_203 mv_X7_trueWorlds rfl ⟨Nat.le_of_ble_eq_true rfl, Nat.le_of_ble_eq_true rfl⟩ (Nat.le_of_ble_eq_true rfl) (by first | decide | assumption | exact ⟨Nat.le_of_ble_eq_true rfl, rfl⟩) (c_trueWorlds g l F J ⟨hG, hP, hG8, hP24⟩) ?_
    rintro _ _ ⟨rfl, rfl⟩
    refine g_s1 58 dX7_count_55 rfl kl_X7_250 ms_J13_bitCount_95d88 ⟨Nat.le_of_ble_eq_true rfl, Nat.le_of_ble_eq_true rfl⟩ (Nat.le_of_ble_eq_true rfl) (c_bc64 g l _ _) ?_
    rintro _ _ ⟨rfl, rfl⟩
    refine g_iret dX7_count_58 ?_
    exact ⟨rfl, rfl⟩
  by_cases h4 : what = 4
  · subst h4
    refine g_tsIn (off := 58) 59 dX7_count_1 (by decide) (by decide) (by decide) (by decide) ?_
    refine g_aload_n 60 dX7_count_59 rfl rfl ?_
    refine gf_7_0 63 dX7_count_60 rfl kf_X7_10 ?_
    refine gf_5_1 66 dX7_count_63 rfl kf_X7_59 (by first | decide | assumption | exact ⟨Nat.le_of_ble_eq_true rfl, rfl⟩) ?_
    refine g_iret dX7_count_66 ?_
    exact ⟨by rw [countA, if_neg (by decide), if_neg (by decide), if_neg (by decide), if_neg (by decide), if_pos rfl, ← hl], rfl⟩
  refine g_tsOut 67 dX7_count_1 (ts_c h0 h1 h2 h3 h4) (by decide) ?_
  refine g_iconst (-1) 68 dX7_count_67 rfl (by decide) ?_
  refine g_iret dX7_count_68 ?_
  exact ⟨by rw [countA, if_neg h0, if_neg h1, if_neg h2, if_neg h3, if_neg h4], rfl⟩

abbrev okF (N : Nat) (n so nt what : Int32) : Prop := ¬ n < 0 ∧ ¬ nI N < n ∧ (¬ so < 0 ∧ ¬ 63 < so) ∧ (¬ nt < 0 ∧ ¬ 63 < nt) ∧ so &&& nt = 0 ∧ ¬ what < 0 ∧ what ≤ 2
def fcA (q : Int32 × Int32 × Int32) (what : Int32) : Int32 := if what = 0 then q.1 else if what = 1 then q.2.1 else if q.2.2 = 0 then 0 else 1
def forcedA (N : Nat) (W : Nat → Nat → Int32) (D : Nat → Int32) (n so nt what : Int32) : Int32 := if okF N n so nt what then fcA (fps W D n.toNatClampNeg so nt 7).1 what else -1

set_option maxRecDepth 100000 in
set_option maxHeartbeats 4000000 in
theorem c_forced (g : Gl) (l : Launch) (n so nt what : Int32) (F : Nat → Nat → Int32) (J : Nat → Int64) {G P : Nat} (hS : cS F G P) : Ct g l yX7_forced cX7_forced 5 (some .int) 5 0 0 [.ref 0, .int n, .int so, .int nt, .int what] (St F J) (fun r S2 => r = some (.int (forcedA (G + P) (Wc F) (Dc F) n so nt what)) ∧ ∃ F2, S2 = St F2 J ∧ kpX 98 F F2) := by
  obtain ⟨hG, hP, hG8, hP24⟩ := hS
  refine Ct.of rfl (by decide) rfl (Nat.le_of_ble_eq_true rfl) ?_
  refine g_iload_n 1 dX7_forced_0 rfl rfl ?_
  refine g_if_lt 26 4 dX7_forced_1 rfl (by decide) (fun h1 => ?_) (fun h1 => ?_)
  · refine g_iconst (-1) 27 dX7_forced_26 rfl (by decide) ?_
    refine g_iret dX7_forced_27 ?_
    exact ⟨by rw [forcedA, if_neg (fun z => z.1 h1)], _, rfl, kpX_r 98 F⟩
  · refine g_iload_n 5 dX7_forced_4 rfl rfl ?_
    refine g_aload_n 6 dX7_forced_5 rfl rfl ?_
    refine g_v0 7 9 dX7_forced_6 rfl kl_X7_185 mv_X7_lineCount rfl ⟨Nat.le_of_ble_eq_true rfl, Nat.le_of_ble_eq_true rfl⟩ (Nat.le_of_ble_eq_true rfl) (by first | decide | assumption | exact ⟨Nat.le_of_ble_eq_true rfl, rfl⟩) (c_lineCount g l F J ⟨hG, hP, hG8, hP24⟩) ?_
    rintro _ _ ⟨rfl, rfl⟩
    refine g_icmp_gt 26 12 dX7_forced_9 rfl (by decide) (fun h9 => ?_) (fun h9 => ?_)
    · refine g_iconst (-1) 27 dX7_forced_26 rfl (by decide) ?_
      refine g_iret dX7_forced_27 ?_
      exact ⟨by rw [forcedA, if_neg (fun z => z.2.1 h9)], _, rfl, kpX_r 98 F⟩
    · refine g_iload_n 13 dX7_forced_12 rfl rfl ?_
      refine g_s1 16 dX7_forced_13 rfl kl_X7_194 ms_X7_isLetterSet ⟨Nat.le_of_ble_eq_true rfl, Nat.le_of_ble_eq_true rfl⟩ (Nat.le_of_ble_eq_true rfl) (c_isLetterSet g l _ _) ?_
      rintro _ _ ⟨rfl, rfl⟩
      refine g_if_eq 26 19 dX7_forced_16 rfl (by decide) (fun h16 => ?_) (fun h16 => ?_)
      · refine g_iconst (-1) 27 dX7_forced_26 rfl (by decide) ?_
        refine g_iret dX7_forced_27 ?_
        exact ⟨by rw [forcedA, if_neg (fun z => b10.mp h16 z.2.2.1)], _, rfl, kpX_r 98 F⟩
      · refine g_iload_n 20 dX7_forced_19 rfl rfl ?_
        refine g_s1 23 dX7_forced_20 rfl kl_X7_194 ms_X7_isLetterSet ⟨Nat.le_of_ble_eq_true rfl, Nat.le_of_ble_eq_true rfl⟩ (Nat.le_of_ble_eq_true rfl) (c_isLetterSet g l _ _) ?_
        rintro _ _ ⟨rfl, rfl⟩
        refine g_if_ne 28 26 dX7_forced_23 rfl (by decide) (fun h23 => ?_) (fun h23 => ?_)
        · refine g_iload_n 29 dX7_forced_28 rfl rfl ?_
          refine g_iload_n 30 dX7_forced_29 rfl rfl ?_
          refine g_iand 31 dX7_forced_30 rfl ?_
          refine g_if_ne 45 34 dX7_forced_31 rfl (by decide) (fun h31 => ?_) (fun h31 => ?_)
          · refine g_iconst (-1) 46 dX7_forced_45 rfl (by decide) ?_
            refine g_iret dX7_forced_46 ?_
            exact ⟨by rw [forcedA, if_neg (fun z => h31 z.2.2.2.2.1)], _, rfl, kpX_r 98 F⟩
          · refine g_iload 36 dX7_forced_34 rfl rfl ?_
            refine g_if_lt 45 39 dX7_forced_36 rfl (by decide) (fun h36 => ?_) (fun h36 => ?_)
            · refine g_iconst (-1) 46 dX7_forced_45 rfl (by decide) ?_
              refine g_iret dX7_forced_46 ?_
              exact ⟨by rw [forcedA, if_neg (fun z => z.2.2.2.2.2.1 h36)], _, rfl, kpX_r 98 F⟩
            · refine g_iload 41 dX7_forced_39 rfl rfl ?_
              refine g_iconst (2) 42 dX7_forced_41 rfl (by decide) ?_
              refine g_icmp_le 47 45 dX7_forced_42 rfl (by decide) (fun h42 => ?_) (fun h42 => ?_)
              · obtain ⟨m, hm, rfl⟩ := ts_i (m := G + P) h1 (Int32.not_lt.mp h9) (by omega)
                refine g_aload_n 48 dX7_forced_47 rfl rfl ?_
                refine gf_7_2 51 dX7_forced_48 rfl kf_X7_26 ?_
                refine g_aload_n 52 dX7_forced_51 rfl rfl ?_
                refine gf_7_4 55 dX7_forced_52 rfl kf_X7_39 ?_
                refine g_iload_n 56 dX7_forced_55 rfl rfl ?_
                refine g_iload_n 57 dX7_forced_56 rfl rfl ?_
                refine g_iload_n 58 dX7_forced_57 rfl rfl ?_
                refine g_v4 1 61 dX7_forced_58 rfl kl_X7_163 mv_X1_force rfl ⟨Nat.le_of_ble_eq_true rfl, Nat.le_of_ble_eq_true rfl⟩ (Nat.le_of_ble_eq_true rfl) (by first | decide | assumption | exact ⟨Nat.le_of_ble_eq_true rfl, rfl⟩) (c_force g l _ _ (N := m) (by omega) F J) ?_
                rintro _ _ ⟨rfl, rfl⟩
                generalize hq : (fps (fun i => F (101 + 2 * i + 1)) (fun i => F (101 + 2 * i) 1) m so nt 7).1 = q
                refine g_iload 63 dX7_forced_61 rfl rfl ?_
                refine g_if_ne 74 66 dX7_forced_63 rfl (by decide) (fun h63 => ?_) (fun h63 => ?_)
                · refine g_iload 76 dX7_forced_74 rfl rfl ?_
                  refine g_iconst (1) 77 dX7_forced_76 rfl (by decide) ?_
                  refine g_icmp_ne 88 80 dX7_forced_77 rfl (by decide) (fun h77 => ?_) (fun h77 => ?_)
                  · refine g_aload_n 89 dX7_forced_88 rfl rfl ?_
                    refine gf_7_2 92 dX7_forced_89 rfl kf_X7_26 ?_
                    refine gf_1_2 95 dX7_forced_92 rfl kf_X7_167 (by first | decide | assumption | exact ⟨Nat.le_of_ble_eq_true rfl, rfl⟩) ?_
                    refine g_if_eq 102 98 dX7_forced_95 rfl (by decide) (fun h95 => ?_) (fun h95 => ?_)
                    · refine g_iconst (0) 103 dX7_forced_102 rfl (by decide) ?_
                      refine g_iret dX7_forced_103 ?_
                      have hok : okF (G + P) (nI m) so nt what := ⟨h1, h9, b10n h16, b10n h23, h31, h36, h42⟩
                      have hq2 : (fps (Wc F) (Dc F) m so nt 7).1 = q := hq
                      exact ⟨by rw [forcedA, if_pos hok, nI_clamp (by omega), hq2, fcA, if_neg h63, if_neg h77, if_pos (show q.2.2 = 0 from h95)], _, rfl, kpX_fo F _⟩
                    · refine g_iconst (1) 99 dX7_forced_98 rfl (by decide) ?_
                      refine g_goto 103 dX7_forced_99 (by decide) ?_
                      refine g_iret dX7_forced_103 ?_
                      have hok : okF (G + P) (nI m) so nt what := ⟨h1, h9, b10n h16, b10n h23, h31, h36, h42⟩
                      have hq2 : (fps (Wc F) (Dc F) m so nt 7).1 = q := hq
                      exact ⟨by rw [forcedA, if_pos hok, nI_clamp (by omega), hq2, fcA, if_neg h63, if_neg h77, if_neg (show ¬ q.2.2 = 0 from h95)], _, rfl, kpX_fo F _⟩
                  · refine g_aload_n 81 dX7_forced_80 rfl rfl ?_
                    refine gf_7_2 84 dX7_forced_81 rfl kf_X7_26 ?_
                    refine gf_1_1 87 dX7_forced_84 rfl kf_X7_200 (by first | decide | assumption | exact ⟨Nat.le_of_ble_eq_true rfl, rfl⟩) ?_
                    refine g_iret dX7_forced_87 ?_
                    have hok : okF (G + P) (nI m) so nt what := ⟨h1, h9, b10n h16, b10n h23, h31, h36, h42⟩
                    have hq2 : (fps (Wc F) (Dc F) m so nt 7).1 = q := hq
                    exact ⟨by rw [forcedA, if_pos hok, nI_clamp (by omega), hq2, fcA, if_neg h63, if_pos h77]; rfl, _, rfl, kpX_fo F _⟩
                · refine g_aload_n 67 dX7_forced_66 rfl rfl ?_
                  refine gf_7_2 70 dX7_forced_67 rfl kf_X7_26 ?_
                  refine gf_1_0 73 dX7_forced_70 rfl kf_X7_197 (by first | decide | assumption | exact ⟨Nat.le_of_ble_eq_true rfl, rfl⟩) ?_
                  refine g_iret dX7_forced_73 ?_
                  have hok : okF (G + P) (nI m) so nt what := ⟨h1, h9, b10n h16, b10n h23, h31, h36, h42⟩
                  have hq2 : (fps (Wc F) (Dc F) m so nt 7).1 = q := hq
                  exact ⟨by rw [forcedA, if_pos hok, nI_clamp (by omega), hq2, fcA, if_pos h63]; rfl, _, rfl, kpX_fo F _⟩
              · refine g_iconst (-1) 46 dX7_forced_45 rfl (by decide) ?_
                refine g_iret dX7_forced_46 ?_
                exact ⟨by rw [forcedA, if_neg (fun z => h42 z.2.2.2.2.2.2)], _, rfl, kpX_r 98 F⟩
        · refine g_iconst (-1) 27 dX7_forced_26 rfl (by decide) ?_
          refine g_iret dX7_forced_27 ?_
          exact ⟨by rw [forcedA, if_neg (fun z => b10.mp h23 z.2.2.2.1)], _, rfl, kpX_r 98 F⟩

def wrongA (s k what : Int32) : Int32 := if what = 0 then s else if what = 1 then k else -1
set_option maxRecDepth 100000 in
set_option maxHeartbeats 4000000 in
theorem c_wrong (g : Gl) (l : Launch) (what : Int32) (F : Nat → Nat → Int32) (J : Nat → Int64) : Ct g l yX7_wrong cX7_wrong 2 (some .int) 0 0 0 [.ref 0, .int what] (St F J) (fun r S2 => r = some (.int (wrongA (F 0 10) (F 0 11) what)) ∧ S2 = St F J) := by
  refine Ct.of rfl (by decide) rfl (Nat.le_of_ble_eq_true rfl) ?_
  refine g_iload_n 1 dX7_wrong_0 rfl rfl ?_
  refine g_if_ne 9 4 dX7_wrong_1 rfl (by decide) (fun h1 => ?_) (fun h1 => ?_)
  · refine g_iload_n 10 dX7_wrong_9 rfl rfl ?_
    refine g_iconst (1) 11 dX7_wrong_10 rfl (by decide) ?_
    refine g_icmp_ne 21 14 dX7_wrong_11 rfl (by decide) (fun h11 => ?_) (fun h11 => ?_)
    · refine g_iconst (-1) 22 dX7_wrong_21 rfl (by decide) ?_
      refine g_iret dX7_wrong_22 ?_
      exact ⟨by rw [wrongA, if_neg h1, if_neg h11], rfl⟩
    · refine g_aload_n 15 dX7_wrong_14 rfl rfl ?_
      refine gf_7_11 18 dX7_wrong_15 rfl kf_X7_56 (by first | decide | assumption | exact ⟨Nat.le_of_ble_eq_true rfl, rfl⟩) ?_
      refine g_goto 22 dX7_wrong_18 (by decide) ?_
      refine g_iret dX7_wrong_22 ?_
      exact ⟨by rw [wrongA, if_neg h1, if_pos h11], rfl⟩
  · refine g_aload_n 5 dX7_wrong_4 rfl rfl ?_
    refine gf_7_10 8 dX7_wrong_5 rfl kf_X7_52 (by first | decide | assumption | exact ⟨Nat.le_of_ble_eq_true rfl, rfl⟩) ?_
    refine g_iret dX7_wrong_8 ?_
    exact ⟨by rw [wrongA, if_pos h1], rfl⟩

set_option maxRecDepth 100000 in
set_option maxHeartbeats 4000000 in
theorem c_clear (g : Gl) (l : Launch) (F : Nat → Nat → Int32) (J : Nat → Int64) : Ct g l yX7_clear cX7_clear 1 (some .int) 1 0 0 [.ref 0] (St F J) (fun r S2 => r = some (.int (F 1 1)) ∧ S2 = St (up2 F 1 1 0) J) := by
  refine Ct.of rfl (by decide) rfl (Nat.le_of_ble_eq_true rfl) ?_
  refine g_aload_n 1 dX7_clear_0 rfl rfl ?_
  refine gf_7_0 4 dX7_clear_1 rfl kf_X7_10 ?_
  refine g_v0 5 7 dX7_clear_4 rfl kl_X7_66 mv_X5_empty rfl ⟨Nat.le_of_ble_eq_true rfl, Nat.le_of_ble_eq_true rfl⟩ (Nat.le_of_ble_eq_true rfl) (by first | decide | assumption | exact ⟨Nat.le_of_ble_eq_true rfl, rfl⟩) (c_empty g l F J) ?_
  rintro _ _ ⟨rfl, rfl⟩
  refine g_iret dX7_clear_7 ?_
  exact ⟨rfl, rfl⟩

def byC (v : Int64) (i : Nat) : Int32 := ((ushL v (8 * nI i)).toInt32 &&& 255).toInt8.toInt32
def tyF (F : Nat → Nat → Int32) (len : Nat) (v : Int64) (N : Nat) : Nat → Nat → Nat → Int32
  | 0 => F
  | t + 1 => up2 (up2 (tyF F len v N t) 2 (len + t) (byC v (N - 1 - t))) 1 1 (nI (len + t + 1))
theorem tyF_l (F : Nat → Nat → Int32) {len : Nat} (v : Int64) (N : Nat) (h : F 1 1 = nI len) : ∀ t, tyF F len v N t 1 1 = nI (len + t)
  | 0 => h
  | t + 1 => by rw [tyF]; simp [up2, upd]; rfl
theorem m1_add (n : Nat) : nI n + (-1) = nI n - 1 := (Int32.sub_eq_add_neg _ _).symm
theorem m1_lt {n : Nat} : nI (n + 1) - 1 = nI n := nI_pred n
def typeA (len : Nat) (n : Int32) : Int32 := if n < 1 ∨ 8 < n then -1 else if 400 < len + n.toNatClampNeg then -3 else nI (len + n.toNatClampNeg)
def typeF (F : Nat → Nat → Int32) (len : Nat) (v : Int64) (n : Int32) : Nat → Nat → Int32 := if n < 1 ∨ 8 < n then F else if 400 < len + n.toNatClampNeg then F else tyF F len v n.toNatClampNeg n.toNatClampNeg
theorem n18 {n : Int32} (h1 : ¬ n < 1) (h2 : ¬ 8 < n) : ∃ N : Nat, 1 ≤ N ∧ N ≤ 8 ∧ n = nI N ∧ n.toNatClampNeg = N := by
  obtain ⟨N, hN, e⟩ := ts_i (x := n) (m := 8) (fun z => h1 (Int32.lt_trans z (by decide))) (Int32.not_lt.mp h2) (by decide)
  refine ⟨N, ?_, hN, e, by rw [e]; exact nI_clamp (by omega)⟩
  rcases Nat.eq_zero_or_pos N with q | q
  · subst q; rw [e] at h1; exact absurd (by decide) h1
  · exact q

set_option maxRecDepth 100000 in
set_option maxHeartbeats 4000000 in
theorem lp_type (g : Gl) (l : Launch) (v : Int64) (F : Nat → Nat → Int32) (J : Nat → Int64) {len N : Nat} (hl : F 1 1 = nI len) (hN1 : 1 ≤ N) (hN8 : N ≤ 8) (hlen : len + N ≤ 400) {XX : State → Method → Prop} (n : Nat) : ∀ (t : Nat) (kx : Int32), t + n = N → kx = nI n - 1 → Gj g l (rmd 1 0 0) XX (QM g (fun r S2 => r = some (.int (nI (len + N))) ∧ S2 = St (tyF F len v N N) J) 0 0) RX7 cX7_type 5 (some .int) 36 [some (.ref 0), some (.long v), none, some (.int (nI N)), some (.int kx)] [] (St (tyF F len v N t) J) 0 0 := by
  induction n with
  | zero =>
    intro t kx ht hx
    obtain rfl : t = N := by omega
    subst hx
    refine g_iload 38 dX7_type_36 rfl rfl ?_
    refine g_if_lt 66 41 dX7_type_38 rfl (by decide) (fun h38 => ?_) (fun h38 => ?_)
    · refine g_aload_n 67 dX7_type_66 rfl rfl ?_
      refine gf_7_0 70 dX7_type_67 rfl kf_X7_10 ?_
      refine gf_5_1 73 dX7_type_70 rfl kf_X7_59 (by first | decide | assumption | exact ⟨Nat.le_of_ble_eq_true rfl, rfl⟩) ?_
      refine g_iret dX7_type_73 ?_
      exact ⟨by rw [tyF_l F v _ hl], rfl⟩
    · exact absurd (by decide) h38
  | succ n ih =>
    intro t kx ht hx
    rw [m1_lt] at hx
    subst hx
    have e : N - 1 - t = n := by omega
    refine g_iload 38 dX7_type_36 rfl rfl ?_
    refine g_if_lt 66 41 dX7_type_38 rfl (by decide) (fun h38 => ?_) (fun h38 => ?_)
    · exact absurd h38 (nI_pos (by omega))
    · refine g_aload_n 42 dX7_type_41 rfl rfl ?_
      refine gf_7_0 45 dX7_type_42 rfl kf_X7_10 ?_
      refine g_lload_n 46 dX7_type_45 rfl rfl ?_
      refine g_bipush (8) 48 dX7_type_46 rfl (by decide) ?_
      refine g_iload 50 dX7_type_48 rfl rfl ?_
      refine g_imul 51 dX7_type_50 rfl ?_
      refine g_lushr 52 dX7_type_51 rfl ?_
      refine g_l2i 53 dX7_type_52 rfl ?_
      refine g_sipush (255) 56 dX7_type_53 rfl (by decide) ?_
      refine g_iand 57 dX7_type_56 rfl ?_
      refine g_v1 5 60 dX7_type_57 rfl kl_X7_62 mv_X5_put rfl ⟨Nat.le_of_ble_eq_true rfl, Nat.le_of_ble_eq_true rfl⟩ (Nat.le_of_ble_eq_true rfl) (by first | decide | assumption | exact ⟨Nat.le_of_ble_eq_true rfl, rfl⟩) (c_put5 g l _ (tyF F len v N t) J (tyF_l F v N hl t) (by omega)) ?_
      rintro _ _ ⟨rfl, rfl⟩
      refine g_iinc (-1) 63 dX7_type_60 rfl (by decide) (by decide) rfl ?_
      refine g_goto 36 dX7_type_63 (by decide) ?_
      exact gs_at (congrArg (fun X => St X J) (show _ = tyF F len v N (t + 1) by rw [tyF, e]; rfl)) (ih (t + 1) _ (by omega) (m1_add n))

set_option maxRecDepth 100000 in
set_option maxHeartbeats 4000000 in
theorem c_type (g : Gl) (l : Launch) (v : Int64) (n : Int32) (F : Nat → Nat → Int32) (J : Nat → Int64) {len : Nat} (hl : F 1 1 = nI len) (hlen : len ≤ 400) : Ct g l yX7_type cX7_type 5 (some .int) 1 0 0 [.ref 0, .long v, .int n] (St F J) (fun r S2 => r = some (.int (typeA len n)) ∧ S2 = St (typeF F len v n) J) := by
  refine Ct.of rfl (by decide) rfl (Nat.le_of_ble_eq_true rfl) ?_
  refine g_iload_n 1 dX7_type_0 rfl rfl ?_
  refine g_iconst (1) 2 dX7_type_1 rfl (by decide) ?_
  refine g_icmp_lt 11 5 dX7_type_2 rfl (by decide) (fun h2 => ?_) (fun h2 => ?_)
  · refine g_iconst (-1) 12 dX7_type_11 rfl (by decide) ?_
    refine g_iret dX7_type_12 ?_
    have hy : n < 1 ∨ 8 < n := Or.inl h2
    exact ⟨by rw [typeA, if_pos hy], by rw [typeF, if_pos hy]⟩
  · refine g_iload_n 6 dX7_type_5 rfl rfl ?_
    refine g_bipush (8) 8 dX7_type_6 rfl (by decide) ?_
    refine g_icmp_le 13 11 dX7_type_8 rfl (by decide) (fun h8 => ?_) (fun h8 => ?_)
    · obtain ⟨N, hN1, hN8, rfl, hcl⟩ := n18 h2 (Int32.not_lt.mpr h8)
      have hno : ¬ (nI N < 1 ∨ 8 < nI N) := fun z => z.elim h2 (Int32.not_lt.mpr h8)
      refine g_aload_n 14 dX7_type_13 rfl rfl ?_
      refine gf_7_0 17 dX7_type_14 rfl kf_X7_10 ?_
      refine gf_5_1 20 dX7_type_17 rfl kf_X7_59 (by first | decide | assumption | exact ⟨Nat.le_of_ble_eq_true rfl, rfl⟩) ?_
      refine g_iload_n 21 dX7_type_20 rfl rfl ?_
      refine g_iadd 22 dX7_type_21 rfl ?_
      refine g_sipush (400) 25 dX7_type_22 rfl (by decide) ?_
      rw [hl, nI_add]
      refine g_icmp_le 31 28 dX7_type_25 rfl (by decide) (fun h25 => ?_) (fun h25 => ?_)
      · refine g_iload_n 32 dX7_type_31 rfl rfl ?_
        refine g_iconst (1) 33 dX7_type_32 rfl (by decide) ?_
        refine g_isub 34 dX7_type_33 rfl ?_
        refine g_istore 36 dX7_type_34 rfl (by decide) ?_
        have h4 : len + N ≤ 400 := by
          rcases Nat.lt_or_ge 400 (len + N) with z | z
          · exact absurd h25 (nI_ge (a := 400) (b := len + N) z (by omega))
          · exact z
        rw [show typeA len (nI N) = nI (len + N) by rw [typeA, if_neg hno, hcl, if_neg (by omega)], show typeF F len v (nI N) = tyF F len v N N by rw [typeF, if_neg hno, hcl, if_neg (by omega)]]
        exact lp_type g l v F J hl hN1 hN8 h4 N 0 _ (Nat.zero_add _) rfl
      · refine g_bipush (-3) 30 dX7_type_28 rfl (by decide) ?_
        refine g_iret dX7_type_30 ?_
        have h4 : 400 < len + N := by
          rcases Nat.lt_or_ge 400 (len + N) with z | z
          · exact z
          · exact absurd (nI_le (a := len + N) (b := 400) z (by decide)) h25
        exact ⟨by rw [typeA, if_neg hno, hcl, if_pos h4], by rw [typeF, if_neg hno, hcl, if_pos h4]⟩
    · refine g_iconst (-1) 12 dX7_type_11 rfl (by decide) ?_
      refine g_iret dX7_type_12 ?_
      have hy : n < 1 ∨ 8 < n := Or.inr (Int32.not_le.mp h8)
      exact ⟨by rw [typeA, if_pos hy], by rw [typeF, if_pos hy]⟩

