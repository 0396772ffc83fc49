/-! the constructors (2): the reader -/
def I3 (Rf0 Rf : Rt) (i s n : Nat) : Prop := (∀ q, q < 3 → Rf q = Rf0 q) ∧ Rf 3 0 = some 4 ∧ Rf 3 1 = some 5 ∧ Rf 3 2 = some 6 ∧ (∀ j, j < i → Rf 4 j = some (10 + 2 * j)) ∧ (∀ j, j < s → Rf 5 j = some (26 + 3 * j)) ∧ (∀ q, 6 ≤ q → q < n → okR Rf q) ∧ ∀ q, n ≤ q → ∀ j, Rf q j = none
theorem tl1 : ∀ i, i < 8 → sh (10 + 2 * i) = 2 ∧ sh (10 + 2 * i + 1) = 10 ∧ ln (10 + 2 * i + 1) = 6 := by decide +kernel
theorem sl1 : ∀ s, s < 24 → sh (26 + 3 * s) = 4 ∧ sh (26 + 3 * s + 1) = 2 ∧ sh (26 + 3 * s + 1 + 1) = 10 ∧ ln (26 + 3 * s + 1 + 1) = 6 := by decide +kernel
theorem ll1 : ∀ i, i < 32 → sh (101 + 2 * i) = 2 ∧ sh (101 + 2 * i + 1) = 10 ∧ ln (101 + 2 * i + 1) = 6 := by decide +kernel
theorem I3_l1 {Rf0 Rf Rg : Rt} {i n : Nat} (hn : n = 10 + 2 * i) (h : I3 Rf0 Rf i 0 n) (kl : ∀ q, q < n → Rg q = Rf q) (ko : ∀ q, n ≤ q → q < n + 2 → okR Rg q) (kh : ∀ q, n + 2 ≤ q → Rg q = Rf q) : I3 Rf0 (upR Rg 4 i n) (i + 1) 0 (n + 2) := by
  obtain ⟨a, b, c, d, e, f, o, z⟩ := h
  have r3 : upR Rg 4 i n 3 = Rf 3 := (upR_ne _ _ _ (by decide)).trans (kl 3 (by omega))
  refine ⟨fun q hq => ?_, by rw [r3]; exact b, by rw [r3]; exact c, by rw [r3]; exact d, fun j hj => ?_, fun j hj => absurd hj (Nat.not_lt_zero j), fun q h1 h2 => ?_, fun q hq j => ?_⟩
  · rw [upR_ne _ _ _ (by omega), kl q (by omega)]; exact a q hq
  · by_cases q : j = i
    · subst q; rw [upR_at, hn]
    · rw [upR_o _ _ _ q, kl 4 (by omega)]; exact e j (by omega)
  · refine okR_c (upR_ne _ _ _ (by omega)) ?_
    rcases Nat.lt_or_ge q n with r | r
    · exact okR_c (kl q r) (o q h1 r)
    · exact ko q r h2
  · rw [upR_ne _ _ _ (by omega), kh q hq]; exact z q (by omega) j
theorem I3_l2 {Rf0 Rf Rg : Rt} {s n : Nat} (hn : n = 26 + 3 * s) (h : I3 Rf0 Rf 8 s n) (kl : ∀ q, q < n → Rg q = Rf q) (ko : ∀ q, n ≤ q → q < n + 3 → okR Rg q) (kh : ∀ q, n + 3 ≤ q → Rg q = Rf q) : I3 Rf0 (upR Rg 5 s n) 8 (s + 1) (n + 3) := by
  obtain ⟨a, b, c, d, e, f, o, z⟩ := h
  have r3 : upR Rg 5 s n 3 = Rf 3 := (upR_ne _ _ _ (by decide)).trans (kl 3 (by omega))
  refine ⟨fun q hq => ?_, by rw [r3]; exact b, by rw [r3]; exact c, by rw [r3]; exact d, fun j hj => ?_, fun j hj => ?_, fun q h1 h2 => ?_, fun q hq j => ?_⟩
  · rw [upR_ne _ _ _ (by omega), kl q (by omega)]; exact a q hq
  · rw [upR_ne _ _ _ (by decide), kl 4 (by omega)]; exact e j hj
  · by_cases q : j = s
    · subst q; rw [upR_at, hn]
    · rw [upR_o _ _ _ q, kl 5 (by omega)]; exact f j (by omega)
  · refine okR_c (upR_ne _ _ _ (by omega)) ?_
    rcases Nat.lt_or_ge q n with r | r
    · exact okR_c (kl q r) (o q h1 r)
    · exact ko q r h2
  · rw [upR_ne _ _ _ (by omega), kh q hq]; exact z q (by omega) j
theorem I3_end {Rf0 Rf : Rt} (hN : ∀ q, 3 ≤ q → ∀ j, Rf0 q j = none) (h : I3 Rf0 Rf 8 24 98) : niZ 3 98 Rf0 none (98, Z0, J0, Rf) := by
  obtain ⟨a, b, c, d, e, f, o, z⟩ := h
  refine ⟨rfl, Rf, rfl, a, fun q h1 h2 => ?_, fun q hq => ?_⟩
  · rcases (show q = 3 ∨ q = 4 ∨ q = 5 ∨ 6 ≤ q by omega) with r | r | r | r
    · subst r; exact okR_e (fun g N M F J => by simp only [wE, show sh 3 = 3 from rfl, wR, b, c, d] <;> rfl)
    · subst r; exact okR_q (Or.inl rfl) (fun j hj => (e j hj).trans rfl)
    · subst r; exact okR_q (Or.inr rfl) (fun j hj => (f j hj).trans rfl)
    · exact o q r h2
  · funext j; rw [z q hq j, hN q (by omega) j]
set_option maxRecDepth 100000 in
set_option maxHeartbeats 4000000 in
theorem x3_l1 (g : Gl) (l : Launch) {Rf0 : Rt} (kk : (∀ (Rg : Rt) (x : Int32), I3 Rf0 Rg 8 0 26 → Gj g l (rmd 3 94 1592) (fun _ M => M.name = "<init>") (QM g (niZ 3 98 Rf0) 94 1592) RX3 cX3_init 2 none 60 [some (.ref 3), some (.int x)] [] (26, Z0, J0, Rg) (22) (1304))) (n : Nat) : ∀ (i : Nat) (ix : Int32) (Rf : Rt), i + n = 8 → ix = nI i → I3 Rf0 Rf i 0 (10 + 2 * i) → Gj g l (rmd 3 94 1592) (fun _ M => M.name = "<init>") (QM g (niZ 3 98 Rf0) 94 1592) RX3 cX3_init 2 none 35 [some (.ref 3), some (.int ix)] [] (10 + 2 * i, Z0, J0, Rf) (6 + 2 * i) (1240 + 8 * i) := by
  induction n with
  | zero =>
    intro i ix Rf hi hx h
    obtain rfl : i = 8 := by omega
    subst hx
    refine g_iload_n 36 dX3_init_35 rfl rfl ?_
    refine g_bipush (8) 38 dX3_init_36 rfl (by decide) ?_
    refine g_icmp_ge 60 41 dX3_init_38 rfl (by decide) (fun h38 => ?_) (fun h38 => ?_)
    · exact kk Rf _ h
    · exact absurd (by decide) h38
  | succ n ih =>
    intro i ix Rf hi hx h
    subst hx
    obtain ⟨a, b, c, d, e, f, o, z⟩ := id h
    obtain ⟨t1, t2, t3⟩ := tl1 i (by omega)
    refine g_iload_n 36 dX3_init_35 rfl rfl ?_
    refine g_bipush (8) 38 dX3_init_36 rfl (by decide) ?_
    refine g_icmp_ge 60 41 dX3_init_38 rfl (by decide) (fun h38 => ?_) (fun h38 => ?_)
    · exact absurd h38 (nI_ge (a := i) (b := 8) (by omega) (by decide))
    refine g_aload_n 42 dX3_init_41 rfl rfl ?_
    refine g_getG (ci := 3) (j := 0) (C := RX3) (T := TX3) (N := 3) (k := 3) (fs := [rv g (.ref 4), rv g (.ref 5), rv g (.ref 6)]) (v := .ref 4) 45 dX3_init_42 rfl kf_X3_11 rfl (by decide) iw3 (show 3 < _ by omega) (by simp only [wE, show sh 3 = 3 from rfl, wR, b, c, d] <;> rfl) rfl ?_
    refine g_iload_n 46 dX3_init_45 rfl rfl ?_
    refine g_newG (n := 10 + 2 * i) (ci := 2) (N := 2) (C := RX2) (T := TX2) (fs := [.null, (.int 0 : Value)]) tyX2 49 dX3_init_46 rfl kn_X3_9 ks_X2 ki_X2 rfl iw2 tyX2_ok (by omega) (by simp only [wE, t1, wR, wI, z _ (Nat.le_refl _) 0] <;> rfl) (by decide) ⟨show _ ≤ 94 by omega, show _ ≤ 1592 by omega⟩ ?_
    refine g_dup 50 dX3_init_49 rfl rfl ?_
    refine g_iN 53 dX3_init_50 rfl (by decide) mi_X2 (i_X2 g l (k := 10 + 2 * i) (by omega) t1 t2 t3 z) (Nat.lt_succ_self (10 + 2 * i)) ⟨Nat.le_of_ble_eq_true rfl, Nat.le_of_ble_eq_true rfl⟩ ⟨show _ ≤ 94 by omega, show _ ≤ 1592 by omega⟩ (Nat.le_of_ble_eq_true rfl) ?_
    rintro _ _ ⟨rfl, Rg, rfl, kl, ko, kh⟩
    obtain ⟨fs, hEv⟩ := wE_obj (g := g) (S := (10 + 2 * i + 2, Z0, J0, Rg)) t1 (by decide)
    refine g_aastG (k := 4) (v := 10 + 2 * i) (ci := 2) (t0 := 3) (i := i) (N := 8) (C := RX2) (T := TX2) (N2 := 2) 54 dX3_init_53 rfl rfl rfl (by omega) (by omega) (fun _ => rfl) hEv rfl (by omega) (by decide) ?_
    refine g_iinc (1) 57 dX3_init_54 rfl (by decide) (by decide) rfl ?_
    refine g_goto 35 dX3_init_57 (by decide) ?_
    refine g_cs (c2 := 6 + 2 * (i + 1)) (s2 := 1240 + 8 * (i + 1)) (by omega) (by omega) ?_
    exact ih (i + 1) _ _ (by omega) (nI_1 i) (I3_l1 rfl h kl ko kh)
set_option maxRecDepth 100000 in
set_option maxHeartbeats 4000000 in
theorem x3_l2 (g : Gl) (l : Launch) {Rf0 : Rt} (hN0 : ∀ q, 3 ≤ q → ∀ j, Rf0 q j = none) (n : Nat) : ∀ (s : Nat) (ix : Int32) (Rf : Rt), s + n = 24 → ix = nI s → I3 Rf0 Rf 8 s (26 + 3 * s) → Gj g l (rmd 3 94 1592) (fun _ M => M.name = "<init>") (QM g (niZ 3 98 Rf0) 94 1592) RX3 cX3_init 2 none 62 [some (.ref 3), some (.int ix)] [] (26 + 3 * s, Z0, J0, Rf) (22 + 3 * s) (1304 + 12 * s) := by
  induction n with
  | zero =>
    intro s ix Rf hi hx h
    obtain rfl : s = 24 := by omega
    subst hx
    refine g_iload_n 63 dX3_init_62 rfl rfl ?_
    refine g_bipush (24) 65 dX3_init_63 rfl (by decide) ?_
    refine g_icmp_ge 87 68 dX3_init_65 rfl (by decide) (fun h65 => ?_) (fun h65 => ?_)
    · refine g_cs (c2 := 94) (s2 := 1592) rfl rfl ?_
      refine g_vret dX3_init_87 ?_
      exact I3_end hN0 h
    · exact absurd (by decide) h65
  | succ n ih =>
    intro s ix Rf hi hx h
    subst hx
    obtain ⟨a, b, c, d, e, f, o, z⟩ := id h
    obtain ⟨t1, t2, t3, t4⟩ := sl1 s (by omega)
    refine g_iload_n 63 dX3_init_62 rfl rfl ?_
    refine g_bipush (24) 65 dX3_init_63 rfl (by decide) ?_
    refine g_icmp_ge 87 68 dX3_init_65 rfl (by decide) (fun h65 => ?_) (fun h65 => ?_)
    · exact absurd h65 (nI_ge (a := s) (b := 24) (by omega) (by decide))
    refine g_aload_n 69 dX3_init_68 rfl rfl ?_
    refine g_getG (ci := 3) (j := 1) (C := RX3) (T := TX3) (N := 3) (k := 3) (fs := [rv g (.ref 4), rv g (.ref 5), rv g (.ref 6)]) (v := .ref 5) 72 dX3_init_69 rfl kf_X3_19 rfl (by decide) iw3 (show 3 < _ by omega) (by simp only [wE, show sh 3 = 3 from rfl, wR, b, c, d] <;> rfl) rfl ?_
    refine g_iload_n 73 dX3_init_72 rfl rfl ?_
    refine g_newG (n := 26 + 3 * s) (ci := 4) (N := 4) (C := RX4) (T := TX4) (fs := [(.int 0 : Value), (.int 0 : Value), (.int 0 : Value), .null]) tyX4 76 dX3_init_73 rfl kn_X3_17 ks_X4 ki_X4 rfl iw4 tyX4_ok (by omega) (by simp only [wE, t1, wR, wI, z _ (Nat.le_refl _) 3] <;> rfl) (by decide) ⟨show _ ≤ 94 by omega, show _ ≤ 1592 by omega⟩ ?_
    refine g_dup 77 dX3_init_76 rfl rfl ?_
    refine g_iN 80 dX3_init_77 rfl (by decide) mi_X4 (i_X4 g l (k := 26 + 3 * s) (by omega) t1 t2 t3 t4 z) (Nat.lt_succ_self (26 + 3 * s)) ⟨Nat.le_of_ble_eq_true rfl, Nat.le_of_ble_eq_true rfl⟩ ⟨show _ ≤ 94 by omega, show _ ≤ 1592 by omega⟩ (Nat.le_of_ble_eq_true rfl) ?_
    rintro _ _ ⟨rfl, Rg, rfl, kl, ko, kh⟩
    obtain ⟨fs, hEv⟩ := wE_obj (g := g) (S := (26 + 3 * s + 3, Z0, J0, Rg)) t1 (by decide)
    refine g_aastG (k := 5) (v := 26 + 3 * s) (ci := 4) (t0 := 4) (i := s) (N := 24) (C := RX4) (T := TX4) (N2 := 4) 81 dX3_init_80 rfl rfl rfl (by omega) (by omega) (fun _ => rfl) hEv rfl (by omega) (by decide) ?_
    refine g_iinc (1) 84 dX3_init_81 rfl (by decide) (by decide) rfl ?_
    refine g_goto 62 dX3_init_84 (by decide) ?_
    refine g_cs (c2 := 22 + 3 * (s + 1)) (s2 := 1304 + 12 * (s + 1)) (by omega) (by omega) ?_
    exact ih (s + 1) _ _ (by omega) (nI_1 s) (I3_l2 rfl h kl ko kh)
set_option maxRecDepth 100000 in
set_option maxHeartbeats 4000000 in
theorem i_X3 (g : Gl) (l : Launch) {Rf : Rt} (hN : ∀ q, 3 ≤ q → ∀ j, Rf q j = none) : Ct g l yX3_init cX3_init 2 none 3 94 1592 [.ref 3] (4, Z0, J0, Rf) (niZ 3 98 Rf) := by
  refine Ct.of rfl (by decide) rfl (Nat.le_of_ble_eq_true rfl) ?_
  refine g_aload_n 1 dX3_init_0 rfl rfl ?_
  refine g_obj 4 dX3_init_1 rfl ko_X3 ⟨Nat.le_of_ble_eq_true rfl, Nat.le_of_ble_eq_true rfl⟩ (Nat.le_of_ble_eq_true rfl) (by decide : 3 < 4) ?_
  refine g_aload_n 5 dX3_init_4 rfl rfl ?_
  refine g_bipush (8) 7 dX3_init_5 rfl (by decide) ?_
  refine g_newQ (n := 4) (N := 8) (t0 := 3) (C := RX2) 10 dX3_init_7 rfl kn_X3_9 (fun U h => h.2.1.2.1) rfl rfl (by decide) (by decide) rfl (hN 4 (by decide)) ⟨Nat.le_of_ble_eq_true rfl, Nat.le_of_ble_eq_true rfl⟩ ?_
  refine g_putFG (k := 3) (v := 4) (ci := 3) (j := 0) (N := 3) (C := RX3) (T := TX3) (n := 5) (fs := [.null, .null, .null]) (ty := (.array (.object "TruthSums$Line"))) 13 dX3_init_10 rfl kf_X3_11 rfl (by decide) iw3 tyX3 tyX3_ok nmX3 rfl rfl (by decide +kernel) (fun _ => rfl) (fun _ => rfl) (fun _ _ h => h) (by decide) (by decide) (by simp only [wE, show sh 3 = 3 from rfl, wR, wI, hN 3 (Nat.le_refl _) 0, hN 3 (Nat.le_refl _) 1, hN 3 (Nat.le_refl _) 2] <;> rfl) (Nat.le_of_ble_eq_true rfl) (by simp only [wE, show sh 3 = 3 from rfl, wR, wI, upR_at, upR_o Rf 3 (j := 0) (i := 1) 4 (by decide), upR_o Rf 3 (j := 0) (i := 2) 4 (by decide), hN 3 (Nat.le_refl _) 1, hN 3 (Nat.le_refl _) 2] <;> rfl) ?_
  refine g_aload_n 14 dX3_init_13 rfl rfl ?_
  refine g_bipush (24) 16 dX3_init_14 rfl (by decide) ?_
  refine g_newQ (n := 5) (N := 24) (t0 := 4) (C := RX4) 19 dX3_init_16 rfl kn_X3_17 (fun U h => h.2.1.2.2) rfl rfl (by decide) (by decide) rfl (fun j => by rw [upR_ne _ _ _ (by decide)]; exact hN 5 (by decide) j) ⟨Nat.le_of_ble_eq_true rfl, Nat.le_of_ble_eq_true rfl⟩ ?_
  refine g_putFG (k := 3) (v := 5) (ci := 3) (j := 1) (N := 3) (C := RX3) (T := TX3) (n := 6) (fs := [rv g (.ref 4), .null, .null]) (ty := (.array (.object "TruthSums$Step"))) 22 dX3_init_19 rfl kf_X3_19 rfl (by decide) iw3 tyX3 tyX3_ok nmX3 rfl rfl (by decide +kernel) (fun _ => rfl) (fun _ => rfl) (fun _ _ h => h) (by decide) (by decide) (by simp only [wE, show sh 3 = 3 from rfl, wR, wI, upR_at, upR_o Rf 3 (j := 0) (i := 1) 4 (by decide), upR_o Rf 3 (j := 0) (i := 2) 4 (by decide), hN 3 (Nat.le_refl _) 1, hN 3 (Nat.le_refl _) 2] <;> rfl) (Nat.le_of_ble_eq_true rfl) (by simp only [wE, show sh 3 = 3 from rfl, wR, wI, upR_at, upR_o (upR Rf 3 0 4) 3 (j := 1) (i := 0) 5 (by decide), upR_o (upR Rf 3 0 4) 3 (j := 1) (i := 2) 5 (by decide), upR_at, upR_o Rf 3 (j := 0) (i := 2) 4 (by decide), hN 3 (Nat.le_refl _) 2] <;> rfl) ?_
  have hN6 : ∀ q, 6 ≤ q → ∀ j, (upR (upR Rf 3 0 4) 3 1 5) q j = none := fun q hq j => by rw [upR_ne _ _ _ (by omega), upR_ne _ _ _ (by omega)]; exact hN q (by omega) j
  refine g_aload_n 23 dX3_init_22 rfl rfl ?_
  refine g_newG (n := 6) (ci := 6) (N := 5) (C := RX6) (T := TX6) (fs := [.null, .null, .null, (.int 0 : Value), (.int 0 : Value)]) tyX6 26 dX3_init_23 rfl kn_X3_23 ks_X6 ki_X6 rfl iw6 tyX6_ok (by decide) (by simp only [wE, show sh 6 = 6 from rfl, wR, wI, hN6 _ (Nat.le_refl _) 0, hN6 _ (Nat.le_refl _) 1, hN6 _ (Nat.le_refl _) 2] <;> rfl) (by decide) ⟨Nat.le_of_ble_eq_true rfl, Nat.le_of_ble_eq_true rfl⟩ ?_
  refine g_dup 27 dX3_init_26 rfl rfl ?_
  refine g_iN 30 dX3_init_27 rfl (by decide) mi_X6 (i_X6 g l hN6) (by decide : 6 < 7) ⟨Nat.le_of_ble_eq_true rfl, Nat.le_of_ble_eq_true rfl⟩ ⟨Nat.le_of_ble_eq_true rfl, Nat.le_of_ble_eq_true rfl⟩ (Nat.le_of_ble_eq_true rfl) ?_
  rintro _ _ ⟨rfl, Rg, rfl, kl, ko, kh⟩
  have k3 := kl 3 (by decide)
  have f30 : Rg 3 0 = some 4 := by rw [k3, upR_o (upR Rf 3 0 4) 3 (j := 1) (i := 0) 5 (by decide), upR_at]
  have f31 : Rg 3 1 = some 5 := by rw [k3, upR_at]
  have f32 : Rg 3 2 = none := by rw [k3, upR_o (upR Rf 3 0 4) 3 (j := 1) (i := 2) 5 (by decide), upR_o Rf 3 (j := 0) (i := 2) 4 (by decide)]; exact hN 3 (Nat.le_refl _) 2
  refine g_putFG (k := 3) (v := 6) (ci := 3) (j := 2) (N := 3) (C := RX3) (T := TX3) (n := 10) (fs := [rv g (.ref 4), rv g (.ref 5), .null]) (ty := (.object "TruthSums$Tokens")) 33 dX3_init_30 rfl kf_X3_26 rfl (by decide) iw3 tyX3 tyX3_ok nmX3 rfl rfl (by decide +kernel) (fun _ => rfl) (fun _ => rfl) (fun _ _ h => h) (by decide) (by decide) (by simp only [wE, show sh 3 = 3 from rfl, wR, wI, f30, f31, f32] <;> rfl) (Nat.le_of_ble_eq_true rfl) (by simp only [wE, show sh 3 = 3 from rfl, wR, wI, upR_at, upR_o Rg 3 (j := 2) (i := 0) 6 (by decide), upR_o Rg 3 (j := 2) (i := 1) 6 (by decide), f30, f31] <;> rfl) ?_
  refine g_iconst (0) 34 dX3_init_33 rfl (by decide) ?_
  refine g_istore_n 35 dX3_init_34 rfl (by decide) ?_
  refine x3_l1 g l (Rf0 := Rf) (fun Rh x hI => ?_) 8 0 _ _ rfl rfl ?_
  · refine g_iconst (0) 61 dX3_init_60 rfl (by decide) ?_
    refine g_istore_n 62 dX3_init_61 rfl (by decide) ?_
    exact x3_l2 g l hN 24 0 _ _ rfl rfl hI
  · refine ⟨fun q hq => ?_, ?_, ?_, upR_at _ _ _ _, fun j hj => absurd hj (Nat.not_lt_zero j), fun j hj => absurd hj (Nat.not_lt_zero j), fun q h1 h2 => ?_, fun q hq j => ?_⟩
    · rw [upR_ne _ _ _ (by omega), kl q (by omega), upR_ne _ _ _ (by omega), upR_ne _ _ _ (by omega)]
    · rw [upR_o Rg 3 (j := 2) (i := 0) 6 (by decide)]; exact f30
    · rw [upR_o Rg 3 (j := 2) (i := 1) 6 (by decide)]; exact f31
    · exact okR_c (upR_ne _ _ _ (by omega)) (ko q h1 h2)
    · rw [upR_ne _ _ _ (by omega), kh q hq]; exact hN6 q (by omega) j
