/-! the constructors (3): the class, the reference -/
def I7 (Rf : Rt) (m n : Nat) : Prop := (∀ j, j < m → Rf 0 j = R0 0 j) ∧ (∀ j, m ≤ j → Rf 0 j = none) ∧ (∀ q, 1 ≤ q → q < n → okR Rf q) ∧ ∀ q, n ≤ q → ∀ j, Rf q j = none
theorem I7_put {Rf : Rt} {m n v : Nat} (hv : R0 0 m = some v) (hn : 1 ≤ n) (h : I7 Rf m n) : I7 (upR Rf 0 m v) (m + 1) n := by
  obtain ⟨a, b, c, d⟩ := h
  refine ⟨fun j hj => ?_, fun j hj => ?_, fun q h1 h2 => okR_c (upR_ne _ _ _ (by omega)) (c q h1 h2), fun q hq j => by rw [upR_ne _ _ _ (by omega)]; exact d q hq j⟩
  · by_cases e : j = m
    · subst e; rw [upR_at, hv]
    · rw [upR_o _ _ _ e]; exact a j (by omega)
  · rw [upR_o _ _ _ (by omega)]; exact b j (by omega)
theorem I7_new {Rf Rg : Rt} {m n n2 : Nat} (hn : 1 ≤ n) (hn2 : n ≤ n2) (h : I7 Rf m n) (kl : ∀ q, q < n → Rg q = Rf q) (ko : ∀ q, n ≤ q → q < n2 → okR Rg q) (kh : ∀ q, n2 ≤ q → Rg q = Rf q) : I7 Rg m n2 := by
  obtain ⟨a, b, c, d⟩ := h
  have e0 := kl 0 hn
  refine ⟨fun j hj => by rw [e0]; exact a j hj, fun j hj => by rw [e0]; exact b j hj, fun q h1 h2 => ?_, fun q hq j => by rw [kh q hq]; exact d q (by omega) j⟩
  rcases Nat.lt_or_ge q n with r | r
  · exact okR_c (kl q r) (c q h1 r)
  · exact ko q r h2
def IL (Rf : Rt) (i n : Nat) : Prop := (∀ j, j < 5 → Rf 0 j = R0 0 j) ∧ (∀ j, 5 ≤ j → Rf 0 j = none) ∧ (∀ q, 1 ≤ q → q < n → q ≠ 100 → okR Rf q) ∧ (∀ q, n ≤ q → ∀ j, Rf q j = none) ∧ ∀ j, j < i → Rf 100 j = R0 100 j
theorem IL_next {Rf Rg : Rt} {i n : Nat} (hn : n = 101 + 2 * i) (h : IL Rf i n) (kl : ∀ q, q < n → Rg q = Rf q) (ko : ∀ q, n ≤ q → q < n + 2 → okR Rg q) (kh : ∀ q, n + 2 ≤ q → Rg q = Rf q) : IL (upR Rg 100 i n) (i + 1) (n + 2) := by
  obtain ⟨a, b, c, d, e⟩ := h
  have r0 : upR Rg 100 i n 0 = Rf 0 := (upR_ne _ _ _ (by decide)).trans (kl 0 (by omega))
  refine ⟨fun j hj => by rw [r0]; exact a j hj, fun j hj => by rw [r0]; exact b j hj, fun q h1 h2 h3 => ?_, fun q hq j => ?_, fun j hj => ?_⟩
  · refine okR_c (upR_ne _ _ _ h3) ?_
    rcases Nat.lt_or_ge q n with r | r
    · exact okR_c (kl q r) (c q h1 r h3)
    · exact ko q r h2
  · rw [upR_ne _ _ _ (by omega), kh q hq]; exact d q (by omega) j
  · by_cases q : j = i
    · subst q; rw [upR_at, hn]; rfl
    · rw [upR_o _ _ _ q, kl 100 (by omega)]; exact e j (by omega)
theorem IL_7 {Rf : Rt} (h : IL Rf 32 165) : I7 Rf 5 165 := by
  obtain ⟨a, b, c, d, e⟩ := h
  refine ⟨a, b, fun q h1 h2 => ?_, d⟩
  by_cases r : q = 100
  · subst r; exact okR_q (Or.inl rfl) e
  · exact c q h1 h2 r
theorem I7_IL {Rf : Rt} (h : I7 Rf 5 101) : IL Rf 0 101 := ⟨h.1, h.2.1, fun q h1 h2 _ => h.2.2.1 q h1 h2, h.2.2.2, fun j hj => absurd hj (Nat.not_lt_zero j)⟩
/-- a row that was just made -/
theorem I7_row {Rf : Rt} {m n : Nat} (h : I7 Rf m n) (ho : okR Rf n) : I7 Rf m (n + 1) := ⟨h.1, h.2.1, fun q h1 h2 => by
  by_cases e : q = n
  · rw [e]; exact ho
  · exact h.2.2.1 q h1 (by omega), fun q hq j => h.2.2.2 q (by omega) j⟩
def F7 : Nat → Nat → Int32 := up2 (up2 Z0 0 10 (-9)) 0 11 (-9)
def F8 : Nat → Nat → Int32 := up2 (up2 F7 167 12 (-9)) 167 13 (-9)
def z7 : Option Value → Sg → Prop := fun r S2 => r = none ∧ ∃ Rg : Rt, S2 = (167, F7, J0, Rg) ∧ (∀ q, q < 167 → okR Rg q) ∧ ∀ q, 167 ≤ q → ∀ j, Rg q j = none
theorem g_St {g : Gl} {l : Launch} {R : Room} {XX : State → Method → Prop} {QQ : List Frame → Array Value → State → State → Prop} {own : String} {cc : ByteArray} {nL : Nat} {ret : Option FieldType} {pc : Nat} {L : List (Option Value)} {st : List Value} {F : Nat → Nat → Int32} {J : Nat → Int64} {Rf : Rt} {c1 s1 : Nat} (h : ∀ q, q < 174 → okR Rf q) (kk : Gj g l R XX QQ own cc nL ret pc L st (St F J) c1 s1) : Gj g l R XX QQ own cc nL ret pc L st (174, F, J, Rf) c1 s1 := by
  intro p e s m args below meth c H locs ls C0 hX hW hS hl0
  exact kk p e s m args below meth c H locs ls C0 hX ⟨hW.1, hW.2.1, fun k hk => h k hk g _ _ F J H _ (hW.2.2 k hk)⟩ hS hl0
set_option maxRecDepth 100000 in
set_option maxHeartbeats 4000000 in
theorem x7_l (g : Gl) (l : Launch) (kk : (∀ (Rg : Rt) (x : Int32), IL Rg 32 165 → Gj g l (rmd 4 166 2306) (fun _ M => M.name = "<init>") (QM g z7 166 2306) RX7 cX7_init 2 none 87 [some (.ref 0), some (.int x)] [] (165, Z0, J0, Rg) (164) (2292))) (n : Nat) : ∀ (i : Nat) (ix : Int32) (Rf : Rt), i + n = 32 → ix = nI i → IL Rf i (101 + 2 * i) → Gj g l (rmd 4 166 2306) (fun _ M => M.name = "<init>") (QM g z7 166 2306) RX7 cX7_init 2 none 59 [some (.ref 0), some (.int ix)] [] (101 + 2 * i, Z0, J0, Rf) (100 + 2 * i) (2036 + 8 * i) := by
  induction n with
  | zero =>
    intro i ix Rf hi hx h
    obtain rfl : i = 32 := by omega
    subst hx
    obtain ⟨a, bb, c, z, e⟩ := id h
    refine g_iload_n 60 dX7_init_59 rfl rfl ?_
    refine g_aload_n 61 dX7_init_60 rfl rfl ?_
    refine g_getG (ci := 7) (j := 4) (C := RX7) (T := TX7) (N := 12) (k := 0) (fs := [rv g (.ref 1), rv g (.ref 3), rv g (.ref 98), rv g (.ref 99), rv g (.ref 100), .null, .null, (.int 0 : Value), (.int 0 : Value), (.int 0 : Value), (.int 0 : Value), (.int 0 : Value)]) (v := .ref 100) 64 dX7_init_61 rfl kf_X7_39 rfl (by decide) iw7 (show 0 < _ by omega) (by simp only [wE, show sh 0 = 7 from rfl, wR, wI, a 0 (by decide), a 1 (by decide), a 2 (by decide), a 3 (by decide), a 4 (by decide), bb 5 (by decide), bb 6 (by decide)] <;> rfl) rfl ?_
    refine g_alen (k := 100) (t0 := 3) (x := (32, .inr (.inr (.inr (.inr (fun j => (Rf 100 j).map (rel g))))))) (cA := gc g 3) 65 dX7_init_64 rfl (show 100 < _ by omega) rfl rfl ?_
    refine g_icmp_ge 87 68 dX7_init_65 rfl (by decide) (fun h65 => ?_) (fun h65 => ?_)
    · exact kk Rf _ h
    · exact absurd (show nI 32 ≤ nI 32 from Int32.le_refl _) h65
  | succ n ih =>
    intro i ix Rf hi hx h
    subst hx
    obtain ⟨a, bb, c, z, e⟩ := id h
    obtain ⟨t1, t2, t3⟩ := ll1 i (by omega)
    refine g_iload_n 60 dX7_init_59 rfl rfl ?_
    refine g_aload_n 61 dX7_init_60 rfl rfl ?_
    refine g_getG (ci := 7) (j := 4) (C := RX7) (T := TX7) (N := 12) (k := 0) (fs := [rv g (.ref 1), rv g (.ref 3), rv g (.ref 98), rv g (.ref 99), rv g (.ref 100), .null, .null, (.int 0 : Value), (.int 0 : Value), (.int 0 : Value), (.int 0 : Value), (.int 0 : Value)]) (v := .ref 100) 64 dX7_init_61 rfl kf_X7_39 rfl (by decide) iw7 (show 0 < _ by omega) (by simp only [wE, show sh 0 = 7 from rfl, wR, wI, a 0 (by decide), a 1 (by decide), a 2 (by decide), a 3 (by decide), a 4 (by decide), bb 5 (by decide), bb 6 (by decide)] <;> rfl) rfl ?_
    refine g_alen (k := 100) (t0 := 3) (x := (32, .inr (.inr (.inr (.inr (fun j => (Rf 100 j).map (rel g))))))) (cA := gc g 3) 65 dX7_init_64 rfl (show 100 < _ by omega) rfl rfl ?_
    refine g_icmp_ge 87 68 dX7_init_65 rfl (by decide) (fun h65 => ?_) (fun h65 => ?_)
    · exact absurd h65 (nI_ge (a := i) (b := 32) (by omega) (by decide))
    refine g_aload_n 69 dX7_init_68 rfl rfl ?_
    refine g_getG (ci := 7) (j := 4) (C := RX7) (T := TX7) (N := 12) (k := 0) (fs := [rv g (.ref 1), rv g (.ref 3), rv g (.ref 98), rv g (.ref 99), rv g (.ref 100), .null, .null, (.int 0 : Value), (.int 0 : Value), (.int 0 : Value), (.int 0 : Value), (.int 0 : Value)]) (v := .ref 100) 72 dX7_init_69 rfl kf_X7_39 rfl (by decide) iw7 (show 0 < _ by omega) (by simp only [wE, show sh 0 = 7 from rfl, wR, wI, a 0 (by decide), a 1 (by decide), a 2 (by decide), a 3 (by decide), a 4 (by decide), bb 5 (by decide), bb 6 (by decide)] <;> rfl) rfl ?_
    refine g_iload_n 73 dX7_init_72 rfl rfl ?_
    refine g_newG (n := 101 + 2 * i) (ci := 2) (N := 2) (C := RX2) (T := TX2) (fs := [.null, (.int 0 : Value)]) tyX2 76 dX7_init_73 rfl kn_X7_37 ks_X2 ki_X2 rfl iw2 tyX2_ok (by omega) (by simp only [wE, t1, wR, wI, z _ (Nat.le_refl _) 0] <;> rfl) (by decide) ⟨show _ ≤ 166 by omega, show _ ≤ 2306 by omega⟩ ?_
    refine g_dup 77 dX7_init_76 rfl rfl ?_
    refine g_iN 80 dX7_init_77 rfl (by decide) mi_X2 (i_X2 g l (k := 101 + 2 * i) (by omega) t1 t2 t3 z) (Nat.lt_succ_self (101 + 2 * i)) ⟨Nat.le_of_ble_eq_true rfl, Nat.le_of_ble_eq_true rfl⟩ ⟨show _ ≤ 166 by omega, show _ ≤ 2306 by omega⟩ (Nat.le_of_ble_eq_true rfl) ?_
    rintro _ _ ⟨rfl, Rg, rfl, kl, ko, kh⟩
    obtain ⟨fs, hEv⟩ := wE_obj (g := g) (S := (101 + 2 * i + 2, Z0, J0, Rg)) t1 (by decide)
    refine g_aastG (k := 100) (v := 101 + 2 * i) (ci := 2) (t0 := 3) (i := i) (N := 32) (C := RX2) (T := TX2) (N2 := 2) 81 dX7_init_80 rfl rfl rfl (by omega) (by omega) (fun _ => rfl) hEv rfl (by omega) (by decide) ?_
    refine g_iinc (1) 84 dX7_init_81 rfl (by decide) (by decide) rfl ?_
    refine g_goto 59 dX7_init_84 (by decide) ?_
    refine g_cs (c2 := 100 + 2 * (i + 1)) (s2 := 2036 + 8 * (i + 1)) (by omega) (by omega) ?_
    exact ih (i + 1) _ _ (by omega) (nI_1 i) (IL_next rfl h kl ko kh)
set_option maxRecDepth 100000 in
set_option maxHeartbeats 4000000 in
theorem i_X7 (g : Gl) (l : Launch) {Rf : Rt} (hN : ∀ q j, Rf q j = none) : Ct g l yX7_init cX7_init 2 none 4 166 2306 [.ref 0] (1, Z0, J0, Rf) z7 := by
  have h1 : I7 Rf 0 1 := ⟨fun j hj => absurd hj (Nat.not_lt_zero j), fun j _ => hN 0 j, fun q a b => absurd a (by omega), fun q _ j => hN q j⟩
  refine Ct.of rfl (by decide) rfl (Nat.le_of_ble_eq_true rfl) ?_
  refine g_aload_n 1 dX7_init_0 rfl rfl ?_
  refine g_obj 4 dX7_init_1 rfl ko_X7 ⟨Nat.le_of_ble_eq_true rfl, Nat.le_of_ble_eq_true rfl⟩ (Nat.le_of_ble_eq_true rfl) (by decide : 0 < 1) ?_
  refine g_aload_n 5 dX7_init_4 rfl rfl ?_
  refine g_newG (n := 1) (ci := 5) (N := 2) (C := RX5) (T := TX5) (fs := [.null, (.int 0 : Value)]) tyX5 8 dX7_init_5 rfl kn_X7_7 ks_X5 ki_X5 rfl iw5 tyX5_ok (by decide) (by simp only [wE, show sh 1 = 5 from rfl, wR, wI, h1.2.2.2 _ (Nat.le_refl _) 0] <;> rfl) (by decide) ⟨Nat.le_of_ble_eq_true rfl, Nat.le_of_ble_eq_true rfl⟩ ?_
  refine g_dup 9 dX7_init_8 rfl rfl ?_
  refine g_iN 12 dX7_init_9 rfl (by decide) mi_X5 (i_X5 g l h1.2.2.2) (by decide : 1 < 2) ⟨Nat.le_of_ble_eq_true rfl, Nat.le_of_ble_eq_true rfl⟩ ⟨Nat.le_of_ble_eq_true rfl, Nat.le_of_ble_eq_true rfl⟩ (Nat.le_of_ble_eq_true rfl) ?_
  rintro _ _ ⟨rfl, Rg, rfl, kl, ko, kh⟩
  have h2 := I7_new (n2 := 3) (by decide) (by decide) h1 kl ko kh
  clear kl ko kh h1
  have h3 := I7_put (m := 0) (v := 1) rfl (by decide) h2
  refine g_putFG (k := 0) (v := 1) (ci := 7) (j := 0) (N := 12) (C := RX7) (T := TX7) (n := 3) (fs := [.null, .null, .null, .null, .null, .null, .null, (.int 0 : Value), (.int 0 : Value), (.int 0 : Value), (.int 0 : Value), (.int 0 : Value)]) (ty := (.object "TruthSums$Text")) 15 dX7_init_12 rfl kf_X7_10 rfl (by decide) iw7 tyX7 tyX7_ok nmX7 rfl rfl (by decide +kernel) (fun _ => rfl) (fun _ => rfl) (fun _ _ h => h) (by decide) (by decide) (by simp only [wE, show sh 0 = 7 from rfl, wR, wI, h2.2.1 0 (by decide), h2.2.1 1 (by decide), h2.2.1 2 (by decide), h2.2.1 3 (by decide), h2.2.1 4 (by decide), h2.2.1 5 (by decide), h2.2.1 6 (by decide)] <;> rfl) (Nat.le_of_ble_eq_true rfl) (by simp only [wE, show sh 0 = 7 from rfl, wR, wI, h3.1 0 (by decide), h3.2.1 1 (by decide), h3.2.1 2 (by decide), h3.2.1 3 (by decide), h3.2.1 4 (by decide), h3.2.1 5 (by decide), h3.2.1 6 (by decide)] <;> rfl) ?_
  refine g_aload_n 16 dX7_init_15 rfl rfl ?_
  refine g_newG (n := 3) (ci := 3) (N := 3) (C := RX3) (T := TX3) (fs := [.null, .null, .null]) tyX3 19 dX7_init_16 rfl kn_X7_16 ks_X3 ki_X3 rfl iw3 tyX3_ok (by decide) (by simp only [wE, show sh 3 = 3 from rfl, wR, wI, h3.2.2.2 _ (Nat.le_refl _) 0, h3.2.2.2 _ (Nat.le_refl _) 1, h3.2.2.2 _ (Nat.le_refl _) 2] <;> rfl) (by decide) ⟨Nat.le_of_ble_eq_true rfl, Nat.le_of_ble_eq_true rfl⟩ ?_
  refine g_dup 20 dX7_init_19 rfl rfl ?_
  refine g_iI 23 dX7_init_20 rfl kl_X7_18 mi_X3 (i_X3 g l h3.2.2.2) (by decide : 3 < 4) ⟨Nat.le_of_ble_eq_true rfl, Nat.le_of_ble_eq_true rfl⟩ ⟨Nat.le_of_ble_eq_true rfl, Nat.le_of_ble_eq_true rfl⟩ (Nat.le_of_ble_eq_true rfl) ?_
  rintro _ _ ⟨rfl, Rg, rfl, kl, ko, kh⟩
  have h4 := I7_new (n2 := 98) (by decide) (by decide) h3 kl ko kh
  clear kl ko kh h3
  have h5 := I7_put (m := 1) (v := 3) rfl (by decide) h4
  refine g_putFG (k := 0) (v := 3) (ci := 7) (j := 1) (N := 12) (C := RX7) (T := TX7) (n := 98) (fs := [rv g (.ref 1), .null, .null, .null, .null, .null, .null, (.int 0 : Value), (.int 0 : Value), (.int 0 : Value), (.int 0 : Value), (.int 0 : Value)]) (ty := (.object "TruthSums$Reader")) 26 dX7_init_23 rfl kf_X7_19 rfl (by decide) iw7 tyX7 tyX7_ok nmX7 rfl rfl (by decide +kernel) (fun _ => rfl) (fun _ => rfl) (fun _ _ h => h) (by decide) (by decide) (by simp only [wE, show sh 0 = 7 from rfl, wR, wI, h4.1 0 (by decide), h4.2.1 1 (by decide), h4.2.1 2 (by decide), h4.2.1 3 (by decide), h4.2.1 4 (by decide), h4.2.1 5 (by decide), h4.2.1 6 (by decide)] <;> rfl) (Nat.le_of_ble_eq_true rfl) (by simp only [wE, show sh 0 = 7 from rfl, wR, wI, h5.1 0 (by decide), h5.1 1 (by decide), h5.2.1 2 (by decide), h5.2.1 3 (by decide), h5.2.1 4 (by decide), h5.2.1 5 (by decide), h5.2.1 6 (by decide)] <;> rfl) ?_
  refine g_aload_n 27 dX7_init_26 rfl rfl ?_
  refine g_newG (n := 98) (ci := 1) (N := 3) (C := RX1) (T := TX1) (fs := [(.int 0 : Value), (.int 0 : Value), (.int 0 : Value)]) tyX1 30 dX7_init_27 rfl kn_X7_23 ks_X1 ki_X1 rfl iw1 tyX1_ok (by decide) (by simp only [wE, show sh 98 = 1 from rfl, wR, wI] <;> rfl) (by decide) ⟨Nat.le_of_ble_eq_true rfl, Nat.le_of_ble_eq_true rfl⟩ ?_
  refine g_dup 31 dX7_init_30 rfl rfl ?_
  refine g_iN 34 dX7_init_31 rfl (by decide) mi_X1 (i_X1 g l) (by decide : 98 < 99) ⟨Nat.le_of_ble_eq_true rfl, Nat.le_of_ble_eq_true rfl⟩ ⟨Nat.le_of_ble_eq_true rfl, Nat.le_of_ble_eq_true rfl⟩ (Nat.le_of_ble_eq_true rfl) ?_
  rintro _ _ ⟨rfl, Rg, rfl, kl, ko, kh⟩
  have h6 := I7_new (n2 := 99) (by decide) (by decide) h5 kl ko kh
  clear kl ko kh h5
  have h7 := I7_put (m := 2) (v := 98) rfl (by decide) h6
  refine g_putFG (k := 0) (v := 98) (ci := 7) (j := 2) (N := 12) (C := RX7) (T := TX7) (n := 99) (fs := [rv g (.ref 1), rv g (.ref 3), .null, .null, .null, .null, .null, (.int 0 : Value), (.int 0 : Value), (.int 0 : Value), (.int 0 : Value), (.int 0 : Value)]) (ty := (.object "TruthSums$Forcing")) 37 dX7_init_34 rfl kf_X7_26 rfl (by decide) iw7 tyX7 tyX7_ok nmX7 rfl rfl (by decide +kernel) (fun _ => rfl) (fun _ => rfl) (fun _ _ h => h) (by decide) (by decide) (by simp only [wE, show sh 0 = 7 from rfl, wR, wI, h6.1 0 (by decide), h6.1 1 (by decide), h6.2.1 2 (by decide), h6.2.1 3 (by decide), h6.2.1 4 (by decide), h6.2.1 5 (by decide), h6.2.1 6 (by decide)] <;> rfl) (Nat.le_of_ble_eq_true rfl) (by simp only [wE, show sh 0 = 7 from rfl, wR, wI, h7.1 0 (by decide), h7.1 1 (by decide), h7.1 2 (by decide), h7.2.1 3 (by decide), h7.2.1 4 (by decide), h7.2.1 5 (by decide), h7.2.1 6 (by decide)] <;> rfl) ?_
  refine g_aload_n 38 dX7_init_37 rfl rfl ?_
  refine g_newG (n := 99) (ci := 0) (N := 4) (C := RX0) (T := TX0) (fs := [(.int 0 : Value), (.int 0 : Value), (.int 0 : Value), (.int 0 : Value)]) tyX0 41 dX7_init_38 rfl kn_X7_30 ks_X0 ki_X0 rfl iw0 tyX0_ok (by decide) (by simp only [wE, show sh 99 = 0 from rfl, wR, wI] <;> rfl) (by decide) ⟨Nat.le_of_ble_eq_true rfl, Nat.le_of_ble_eq_true rfl⟩ ?_
  refine g_dup 42 dX7_init_41 rfl rfl ?_
  refine g_iN 45 dX7_init_42 rfl (by decide) mi_X0 (i_X0 g l) (by decide : 99 < 100) ⟨Nat.le_of_ble_eq_true rfl, Nat.le_of_ble_eq_true rfl⟩ ⟨Nat.le_of_ble_eq_true rfl, Nat.le_of_ble_eq_true rfl⟩ (Nat.le_of_ble_eq_true rfl) ?_
  rintro _ _ ⟨rfl, Rg, rfl, kl, ko, kh⟩
  have h8 := I7_new (n2 := 100) (by decide) (by decide) h7 kl ko kh
  clear kl ko kh h7
  have h9 := I7_put (m := 3) (v := 99) rfl (by decide) h8
  refine g_putFG (k := 0) (v := 99) (ci := 7) (j := 3) (N := 12) (C := RX7) (T := TX7) (n := 100) (fs := [rv g (.ref 1), rv g (.ref 3), rv g (.ref 98), .null, .null, .null, .null, (.int 0 : Value), (.int 0 : Value), (.int 0 : Value), (.int 0 : Value), (.int 0 : Value)]) (ty := (.object "TruthSums$Fit")) 48 dX7_init_45 rfl kf_X7_33 rfl (by decide) iw7 tyX7 tyX7_ok nmX7 rfl rfl (by decide +kernel) (fun _ => rfl) (fun _ => rfl) (fun _ _ h => h) (by decide) (by decide) (by simp only [wE, show sh 0 = 7 from rfl, wR, wI, h8.1 0 (by decide), h8.1 1 (by decide), h8.1 2 (by decide), h8.2.1 3 (by decide), h8.2.1 4 (by decide), h8.2.1 5 (by decide), h8.2.1 6 (by decide)] <;> rfl) (Nat.le_of_ble_eq_true rfl) (by simp only [wE, show sh 0 = 7 from rfl, wR, wI, h9.1 0 (by decide), h9.1 1 (by decide), h9.1 2 (by decide), h9.1 3 (by decide), h9.2.1 4 (by decide), h9.2.1 5 (by decide), h9.2.1 6 (by decide)] <;> rfl) ?_
  refine g_aload_n 49 dX7_init_48 rfl rfl ?_
  refine g_bipush (32) 51 dX7_init_49 rfl (by decide) ?_
  refine g_newQ (n := 100) (N := 32) (t0 := 3) (C := RX2) 54 dX7_init_51 rfl kn_X7_37 (fun U h => h.2.1.2.1) rfl rfl (by decide) (by decide) rfl (h9.2.2.2 100 (by decide)) ⟨Nat.le_of_ble_eq_true rfl, Nat.le_of_ble_eq_true rfl⟩ ?_
  refine g_putFG (k := 0) (v := 100) (ci := 7) (j := 4) (N := 12) (C := RX7) (T := TX7) (n := 101) (fs := [rv g (.ref 1), rv g (.ref 3), rv g (.ref 98), rv g (.ref 99), .null, .null, .null, (.int 0 : Value), (.int 0 : Value), (.int 0 : Value), (.int 0 : Value), (.int 0 : Value)]) (ty := (.array (.object "TruthSums$Line"))) 57 dX7_init_54 rfl kf_X7_39 rfl (by decide) iw7 tyX7 tyX7_ok nmX7 rfl rfl (by decide +kernel) (fun _ => rfl) (fun _ => rfl) (fun _ _ h => h) (by decide) (by decide) (by simp only [wE, show sh 0 = 7 from rfl, wR, wI, h9.1 0 (by decide), h9.1 1 (by decide), h9.1 2 (by decide), h9.1 3 (by decide), h9.2.1 4 (by decide), h9.2.1 5 (by decide), h9.2.1 6 (by decide)] <;> rfl) (Nat.le_of_ble_eq_true rfl) (by simp only [wE, show sh 0 = 7 from rfl, wR, wI, upR_at, upR_o _ 0 (j := 4) (i := 0) 100 (by decide), upR_o _ 0 (j := 4) (i := 1) 100 (by decide), upR_o _ 0 (j := 4) (i := 2) 100 (by decide), upR_o _ 0 (j := 4) (i := 3) 100 (by decide), upR_o _ 0 (j := 4) (i := 5) 100 (by decide), upR_o _ 0 (j := 4) (i := 6) 100 (by decide), h9.1 0 (by decide), h9.1 1 (by decide), h9.1 2 (by decide), h9.1 3 (by decide), h9.2.1 4 (by decide), h9.2.1 5 (by decide), h9.2.1 6 (by decide)] <;> rfl) ?_
  refine g_iconst (0) 58 dX7_init_57 rfl (by decide) ?_
  refine g_istore_n 59 dX7_init_58 rfl (by decide) ?_
  refine x7_l g l (fun Rh x hL => ?_) 32 0 _ _ rfl rfl ?_
  · have k1 := IL_7 hL
    refine g_aload_n 88 dX7_init_87 rfl rfl ?_
    refine g_bipush (8) 90 dX7_init_88 rfl (by decide) ?_
    refine g_newI (n := 165) (N := 8) (t0 := 2) (a0 := (8, .inr (.inl (fun _ => 0)))) (ty := .long) 92 dX7_init_90 rfl ka_long rfl rfl (fun _ _ h => h) rfl (by decide) (by decide) (by decide) (by simp only [wE, show sh 165 = 11 from rfl, show ln 165 = 8 from rfl] <;> rfl) (fun _ => rfl) ⟨Nat.le_of_ble_eq_true rfl, Nat.le_of_ble_eq_true rfl⟩ ?_
    have k2 := I7_row k1 (okR_i (by decide))
    have k3 := I7_put (m := 5) (v := 165) rfl (by decide) k2
    refine g_putFG (k := 0) (v := 165) (ci := 7) (j := 5) (N := 12) (C := RX7) (T := TX7) (n := 166) (fs := [rv g (.ref 1), rv g (.ref 3), rv g (.ref 98), rv g (.ref 99), rv g (.ref 100), .null, .null, (.int 0 : Value), (.int 0 : Value), (.int 0 : Value), (.int 0 : Value), (.int 0 : Value)]) (ty := (.array .long)) 95 dX7_init_92 rfl kf_X7_44 rfl (by decide) iw7 tyX7 tyX7_ok nmX7 rfl rfl (by decide +kernel) (fun _ => rfl) (fun _ => rfl) (fun _ _ h => h) (by decide) (by decide) (by simp only [wE, show sh 0 = 7 from rfl, wR, wI, k2.1 0 (by decide), k2.1 1 (by decide), k2.1 2 (by decide), k2.1 3 (by decide), k2.1 4 (by decide), k2.2.1 5 (by decide), k2.2.1 6 (by decide)] <;> rfl) (Nat.le_of_ble_eq_true rfl) (by simp only [wE, show sh 0 = 7 from rfl, wR, wI, k3.1 0 (by decide), k3.1 1 (by decide), k3.1 2 (by decide), k3.1 3 (by decide), k3.1 4 (by decide), k3.1 5 (by decide), k3.2.1 6 (by decide)] <;> rfl) ?_
    refine g_aload_n 96 dX7_init_95 rfl rfl ?_
    refine g_bipush (6) 98 dX7_init_96 rfl (by decide) ?_
    refine g_newI (n := 166) (N := 6) (t0 := 1) (a0 := (6, .inl (fun _ => 0))) (ty := .int) 100 dX7_init_98 rfl ka_int rfl rfl (fun _ _ h => h) rfl (by decide) (by decide) (by decide) (by simp only [wE, show sh 166 = 10 from rfl, show ln 166 = 6 from rfl] <;> rfl) (fun _ => rfl) ⟨Nat.le_of_ble_eq_true rfl, Nat.le_of_ble_eq_true rfl⟩ ?_
    have k4 := I7_row k3 (okR_i (by decide))
    have k5 := I7_put (m := 6) (v := 166) rfl (by decide) k4
    refine g_putFG (k := 0) (v := 166) (ci := 7) (j := 6) (N := 12) (C := RX7) (T := TX7) (n := 167) (fs := [rv g (.ref 1), rv g (.ref 3), rv g (.ref 98), rv g (.ref 99), rv g (.ref 100), rv g (.ref 165), .null, (.int 0 : Value), (.int 0 : Value), (.int 0 : Value), (.int 0 : Value), (.int 0 : Value)]) (ty := (.array .int)) 103 dX7_init_100 rfl kf_X7_48 rfl (by decide) iw7 tyX7 tyX7_ok nmX7 rfl rfl (by decide +kernel) (fun _ => rfl) (fun _ => rfl) (fun _ _ h => h) (by decide) (by decide) (by simp only [wE, show sh 0 = 7 from rfl, wR, wI, k4.1 0 (by decide), k4.1 1 (by decide), k4.1 2 (by decide), k4.1 3 (by decide), k4.1 4 (by decide), k4.1 5 (by decide), k4.2.1 6 (by decide)] <;> rfl) (Nat.le_of_ble_eq_true rfl) (by simp only [wE, show sh 0 = 7 from rfl, wR, wI, k5.1 0 (by decide), k5.1 1 (by decide), k5.1 2 (by decide), k5.1 3 (by decide), k5.1 4 (by decide), k5.1 5 (by decide), k5.1 6 (by decide)] <;> rfl) ?_
    refine g_aload_n 104 dX7_init_103 rfl rfl ?_
    refine g_bipush (-9) 106 dX7_init_104 rfl (by decide) ?_
    refine g_putG (S2 := (167, up2 Z0 0 10 (-9), J0, _)) (k := 0) (ci := 7) (j := 10) (C := RX7) (T := TX7) (N := 12) (v := .int (-9)) (ty := .int) (fs := [rv g (.ref 1), rv g (.ref 3), rv g (.ref 98), rv g (.ref 99), rv g (.ref 100), rv g (.ref 165), rv g (.ref 166), (.int 0 : Value), (.int 0 : Value), (.int 0 : Value), (.int 0 : Value), (.int 0 : Value)]) 109 dX7_init_106 rfl kf_X7_52 rfl (by decide) iw7 tyX7 tyX7_ok nmX7 rfl (by decide +kernel) rfl rfl (by decide : 0 < 167) (by simp only [wE, show sh 0 = 7 from rfl, wR, wI, k5.1 0 (by decide), k5.1 1 (by decide), k5.1 2 (by decide), k5.1 3 (by decide), k5.1 4 (by decide), k5.1 5 (by decide), k5.1 6 (by decide)] <;> rfl) (Nat.le_of_ble_eq_true rfl) rfl (by simp only [wE, show sh 0 = 7 from rfl, wR, wI, k5.1 0 (by decide), k5.1 1 (by decide), k5.1 2 (by decide), k5.1 3 (by decide), k5.1 4 (by decide), k5.1 5 (by decide), k5.1 6 (by decide)] <;> rfl) (fun q _ h => sh_upF h) ?_
    refine g_aload_n 110 dX7_init_109 rfl rfl ?_
    refine g_bipush (-9) 112 dX7_init_110 rfl (by decide) ?_
    refine g_putG (S2 := (167, up2 (up2 Z0 0 10 (-9)) 0 11 (-9), J0, _)) (k := 0) (ci := 7) (j := 11) (C := RX7) (T := TX7) (N := 12) (v := .int (-9)) (ty := .int) (fs := [rv g (.ref 1), rv g (.ref 3), rv g (.ref 98), rv g (.ref 99), rv g (.ref 100), rv g (.ref 165), rv g (.ref 166), (.int 0 : Value), (.int 0 : Value), (.int 0 : Value), (.int (-9) : Value), (.int 0 : Value)]) 115 dX7_init_112 rfl kf_X7_56 rfl (by decide) iw7 tyX7 tyX7_ok nmX7 rfl (by decide +kernel) rfl rfl (by decide : 0 < 167) (by simp only [wE, show sh 0 = 7 from rfl, wR, wI, k5.1 0 (by decide), k5.1 1 (by decide), k5.1 2 (by decide), k5.1 3 (by decide), k5.1 4 (by decide), k5.1 5 (by decide), k5.1 6 (by decide)] <;> rfl) (Nat.le_of_ble_eq_true rfl) rfl (by simp only [wE, show sh 0 = 7 from rfl, wR, wI, k5.1 0 (by decide), k5.1 1 (by decide), k5.1 2 (by decide), k5.1 3 (by decide), k5.1 4 (by decide), k5.1 5 (by decide), k5.1 6 (by decide)] <;> rfl) (fun q _ h => sh_upF h) ?_
    refine g_vret dX7_init_115 ?_
    refine ⟨rfl, _, rfl, fun q hq => ?_, k5.2.2.2⟩
    by_cases e : q = 0
    · subst e; exact okR_e (fun g N M F J => by simp only [wE, show sh 0 = 7 from rfl, wR, wI, k5.1 0 (by decide), k5.1 1 (by decide), k5.1 2 (by decide), k5.1 3 (by decide), k5.1 4 (by decide), k5.1 5 (by decide), k5.1 6 (by decide)])
    · exact k5.2.2.1 q (by omega) hq
  · refine ⟨fun j hj => ?_, fun j hj => ?_, fun q a1 a2 a3 => okR_c (upR_ne _ _ _ (by omega)) (h9.2.2.1 q a1 (by omega)), fun q hq j => by rw [upR_ne _ _ _ (by omega)]; exact h9.2.2.2 q (by omega) j, fun j hj => absurd hj (Nat.not_lt_zero j)⟩
    · by_cases e : j = 4
      · subst e; exact upR_at _ _ _ _
      · rw [upR_o _ _ _ e]; exact h9.1 j (by omega)
    · rw [upR_o _ _ _ (by omega)]; exact h9.2.1 j (by omega)
set_option maxRecDepth 100000 in
set_option maxHeartbeats 4000000 in
theorem i_X8 (g : Gl) (l : Launch) {Rf : Rt} (hok : ∀ q, q < 167 → okR Rf q) (hN : ∀ q, 167 ≤ q → ∀ j, Rf q j = none) : Ct g l yX8_init cX8_init 1 none 1 6 938 [.ref 167] (168, F7, J0, Rf) (fun r S2 => r = none ∧ S2 = St F8 J0) := by
  refine Ct.of rfl (by decide) rfl (Nat.le_of_ble_eq_true rfl) ?_
  refine g_aload_n 1 dX8_init_0 rfl rfl ?_
  refine g_obj 4 dX8_init_1 rfl ko_X8 ⟨Nat.le_of_ble_eq_true rfl, Nat.le_of_ble_eq_true rfl⟩ (Nat.le_of_ble_eq_true rfl) (by decide : 167 < 168) ?_
  refine g_aload_n 5 dX8_init_4 rfl rfl ?_
  refine g_sipush (400) 8 dX8_init_5 rfl (by decide) ?_
  refine g_newI (n := 168) (N := 400) (t0 := 1) (a0 := (400, .inl (fun _ => 0))) (ty := .int) 10 dX8_init_8 rfl ka_int rfl rfl (fun _ _ h => h) rfl (by decide) (by decide) (by decide) (by simp only [wE, show sh 168 = 10 from rfl, show ln 168 = 400 from rfl] <;> rfl) (fun _ => rfl) ⟨Nat.le_of_ble_eq_true rfl, Nat.le_of_ble_eq_true rfl⟩ ?_
  refine g_putFG (k := 167) (v := 168) (ci := 8) (j := 1) (N := 20) (C := RX8) (T := TX8) (n := 169) (fs := [(.int 0 : Value), .null, (.int 0 : Value), (.int 0 : Value), (.int 0 : Value), (.int 0 : Value), (.int 0 : Value), (.int 0 : Value), .null, (.int 0 : Value), (.int 0 : Value), (.int 0 : Value), (.int 0 : Value), (.int 0 : Value), .null, .null, (.int 0 : Value), (.int 0 : Value), .null, .null]) (ty := .array .int) 13 dX8_init_10 rfl kf_X8_7 rfl (by decide) iw8 tyX8 tyX8_ok nmX8 rfl rfl (by decide +kernel) (fun _ => rfl) (fun _ => rfl) (fun _ _ h => h) (by decide) (by decide) (by simp [wE, show sh 167 = 8 from rfl, wR, wI, upR, va_up, hN 167 (Nat.le_refl _), va_rf, rv, rel, F7, up2, upd]) (Nat.le_of_ble_eq_true rfl) (by simp [wE, show sh 167 = 8 from rfl, wR, wI, upR, va_up, hN 167 (Nat.le_refl _), va_rf, rv, rel, F7, up2, upd]) ?_
  refine g_aload_n 14 dX8_init_13 rfl rfl ?_
  refine g_sipush (231) 17 dX8_init_14 rfl (by decide) ?_
  refine g_newI (n := 169) (N := 231) (t0 := 1) (a0 := (231, .inl (fun _ => 0))) (ty := .int) 19 dX8_init_17 rfl ka_int rfl rfl (fun _ _ h => h) rfl (by decide) (by decide) (by decide) (by simp only [wE, show sh 169 = 10 from rfl, show ln 169 = 231 from rfl] <;> rfl) (fun _ => rfl) ⟨Nat.le_of_ble_eq_true rfl, Nat.le_of_ble_eq_true rfl⟩ ?_
  refine g_putFG (k := 167) (v := 169) (ci := 8) (j := 8) (N := 20) (C := RX8) (T := TX8) (n := 170) (fs := [(.int 0 : Value), rv g (.ref 168), (.int 0 : Value), (.int 0 : Value), (.int 0 : Value), (.int 0 : Value), (.int 0 : Value), (.int 0 : Value), .null, (.int 0 : Value), (.int 0 : Value), (.int 0 : Value), (.int 0 : Value), (.int 0 : Value), .null, .null, (.int 0 : Value), (.int 0 : Value), .null, .null]) (ty := .array .int) 22 dX8_init_19 rfl kf_X8_13 rfl (by decide) iw8 tyX8 tyX8_ok nmX8 rfl rfl (by decide +kernel) (fun _ => rfl) (fun _ => rfl) (fun _ _ h => h) (by decide) (by decide) (by simp [wE, show sh 167 = 8 from rfl, wR, wI, upR, va_up, hN 167 (Nat.le_refl _), va_rf, rv, rel, F7, up2, upd]) (Nat.le_of_ble_eq_true rfl) (by simp [wE, show sh 167 = 8 from rfl, wR, wI, upR, va_up, hN 167 (Nat.le_refl _), va_rf, rv, rel, F7, up2, upd]) ?_
  refine g_aload_n 23 dX8_init_22 rfl rfl ?_
  refine g_bipush (-9) 25 dX8_init_23 rfl (by decide) ?_
  refine g_putG (S2 := (170, up2 F7 167 12 (-9), J0, (upR (upR Rf 167 1 168) 167 8 169))) (k := 167) (ci := 8) (j := 12) (C := RX8) (T := TX8) (N := 20) (v := .int (-9)) (ty := .int) (fs := [(.int 0 : Value), rv g (.ref 168), (.int 0 : Value), (.int 0 : Value), (.int 0 : Value), (.int 0 : Value), (.int 0 : Value), (.int 0 : Value), rv g (.ref 169), (.int 0 : Value), (.int 0 : Value), (.int 0 : Value), (.int 0 : Value), (.int 0 : Value), .null, .null, (.int 0 : Value), (.int 0 : Value), .null, .null]) 28 dX8_init_25 rfl kf_X8_16 rfl (by decide) iw8 tyX8 tyX8_ok nmX8 rfl (by decide +kernel) rfl rfl (by decide : 167 < 170) (by simp [wE, show sh 167 = 8 from rfl, wR, wI, upR, va_up, hN 167 (Nat.le_refl _), va_rf, rv, rel, F7, up2, upd]) (Nat.le_of_ble_eq_true rfl) rfl (by simp [wE, show sh 167 = 8 from rfl, wR, wI, upR, va_up, hN 167 (Nat.le_refl _), va_rf, rv, rel, F7, up2, upd]) (fun q _ h => sh_upF h) ?_
  refine g_aload_n 29 dX8_init_28 rfl rfl ?_
  refine g_bipush (-9) 31 dX8_init_29 rfl (by decide) ?_
  refine g_putG (S2 := (170, up2 (up2 F7 167 12 (-9)) 167 13 (-9), J0, (upR (upR Rf 167 1 168) 167 8 169))) (k := 167) (ci := 8) (j := 13) (C := RX8) (T := TX8) (N := 20) (v := .int (-9)) (ty := .int) (fs := [(.int 0 : Value), rv g (.ref 168), (.int 0 : Value), (.int 0 : Value), (.int 0 : Value), (.int 0 : Value), (.int 0 : Value), (.int 0 : Value), rv g (.ref 169), (.int 0 : Value), (.int 0 : Value), (.int 0 : Value), (.int (-9) : Value), (.int 0 : Value), .null, .null, (.int 0 : Value), (.int 0 : Value), .null, .null]) 34 dX8_init_31 rfl kf_X8_20 rfl (by decide) iw8 tyX8 tyX8_ok nmX8 rfl (by decide +kernel) rfl rfl (by decide : 167 < 170) (by simp [wE, show sh 167 = 8 from rfl, wR, wI, upR, va_up, hN 167 (Nat.le_refl _), va_rf, rv, rel, F7, up2, upd]) (Nat.le_of_ble_eq_true rfl) rfl (by simp [wE, show sh 167 = 8 from rfl, wR, wI, upR, va_up, hN 167 (Nat.le_refl _), va_rf, rv, rel, F7, up2, upd]) (fun q _ h => sh_upF h) ?_
  refine g_aload_n 35 dX8_init_34 rfl rfl ?_
  refine g_bipush (56) 37 dX8_init_35 rfl (by decide) ?_
  refine g_newI (n := 170) (N := 56) (t0 := 1) (a0 := (56, .inl (fun _ => 0))) (ty := .int) 39 dX8_init_37 rfl ka_int rfl rfl (fun _ _ h => h) rfl (by decide) (by decide) (by decide) (by simp only [wE, show sh 170 = 10 from rfl, show ln 170 = 56 from rfl] <;> rfl) (fun _ => rfl) ⟨Nat.le_of_ble_eq_true rfl, Nat.le_of_ble_eq_true rfl⟩ ?_
  refine g_putFG (k := 167) (v := 170) (ci := 8) (j := 14) (N := 20) (C := RX8) (T := TX8) (n := 171) (fs := [(.int 0 : Value), rv g (.ref 168), (.int 0 : Value), (.int 0 : Value), (.int 0 : Value), (.int 0 : Value), (.int 0 : Value), (.int 0 : Value), rv g (.ref 169), (.int 0 : Value), (.int 0 : Value), (.int 0 : Value), (.int (-9) : Value), (.int (-9) : Value), .null, .null, (.int 0 : Value), (.int 0 : Value), .null, .null]) (ty := .array .int) 42 dX8_init_39 rfl kf_X8_23 rfl (by decide) iw8 tyX8 tyX8_ok nmX8 rfl rfl (by decide +kernel) (fun _ => rfl) (fun _ => rfl) (fun _ _ h => h) (by decide) (by decide) (by simp [wE, show sh 167 = 8 from rfl, wR, wI, upR, va_up, hN 167 (Nat.le_refl _), va_rf, rv, rel, F7, up2, upd]) (Nat.le_of_ble_eq_true rfl) (by simp [wE, show sh 167 = 8 from rfl, wR, wI, upR, va_up, hN 167 (Nat.le_refl _), va_rf, rv, rel, F7, up2, upd]) ?_
  refine g_aload_n 43 dX8_init_42 rfl rfl ?_
  refine g_sipush (240) 46 dX8_init_43 rfl (by decide) ?_
  refine g_newI (n := 171) (N := 240) (t0 := 1) (a0 := (240, .inl (fun _ => 0))) (ty := .int) 48 dX8_init_46 rfl ka_int rfl rfl (fun _ _ h => h) rfl (by decide) (by decide) (by decide) (by simp only [wE, show sh 171 = 10 from rfl, show ln 171 = 240 from rfl] <;> rfl) (fun _ => rfl) ⟨Nat.le_of_ble_eq_true rfl, Nat.le_of_ble_eq_true rfl⟩ ?_
  refine g_putFG (k := 167) (v := 171) (ci := 8) (j := 15) (N := 20) (C := RX8) (T := TX8) (n := 172) (fs := [(.int 0 : Value), rv g (.ref 168), (.int 0 : Value), (.int 0 : Value), (.int 0 : Value), (.int 0 : Value), (.int 0 : Value), (.int 0 : Value), rv g (.ref 169), (.int 0 : Value), (.int 0 : Value), (.int 0 : Value), (.int (-9) : Value), (.int (-9) : Value), rv g (.ref 170), .null, (.int 0 : Value), (.int 0 : Value), .null, .null]) (ty := .array .int) 51 dX8_init_48 rfl kf_X8_26 rfl (by decide) iw8 tyX8 tyX8_ok nmX8 rfl rfl (by decide +kernel) (fun _ => rfl) (fun _ => rfl) (fun _ _ h => h) (by decide) (by decide) (by simp [wE, show sh 167 = 8 from rfl, wR, wI, upR, va_up, hN 167 (Nat.le_refl _), va_rf, rv, rel, F7, up2, upd]) (Nat.le_of_ble_eq_true rfl) (by simp [wE, show sh 167 = 8 from rfl, wR, wI, upR, va_up, hN 167 (Nat.le_refl _), va_rf, rv, rel, F7, up2, upd]) ?_
  refine g_aload_n 52 dX8_init_51 rfl rfl ?_
  refine g_bipush (6) 54 dX8_init_52 rfl (by decide) ?_
  refine g_newI (n := 172) (N := 6) (t0 := 1) (a0 := (6, .inl (fun _ => 0))) (ty := .int) 56 dX8_init_54 rfl ka_int rfl rfl (fun _ _ h => h) rfl (by decide) (by decide) (by decide) (by simp only [wE, show sh 172 = 10 from rfl, show ln 172 = 6 from rfl] <;> rfl) (fun _ => rfl) ⟨Nat.le_of_ble_eq_true rfl, Nat.le_of_ble_eq_true rfl⟩ ?_
  refine g_putFG (k := 167) (v := 172) (ci := 8) (j := 18) (N := 20) (C := RX8) (T := TX8) (n := 173) (fs := [(.int 0 : Value), rv g (.ref 168), (.int 0 : Value), (.int 0 : Value), (.int 0 : Value), (.int 0 : Value), (.int 0 : Value), (.int 0 : Value), rv g (.ref 169), (.int 0 : Value), (.int 0 : Value), (.int 0 : Value), (.int (-9) : Value), (.int (-9) : Value), rv g (.ref 170), rv g (.ref 171), (.int 0 : Value), (.int 0 : Value), .null, .null]) (ty := .array .int) 59 dX8_init_56 rfl kf_X8_29 rfl (by decide) iw8 tyX8 tyX8_ok nmX8 rfl rfl (by decide +kernel) (fun _ => rfl) (fun _ => rfl) (fun _ _ h => h) (by decide) (by decide) (by simp [wE, show sh 167 = 8 from rfl, wR, wI, upR, va_up, hN 167 (Nat.le_refl _), va_rf, rv, rel, F7, up2, upd]) (Nat.le_of_ble_eq_true rfl) (by simp [wE, show sh 167 = 8 from rfl, wR, wI, upR, va_up, hN 167 (Nat.le_refl _), va_rf, rv, rel, F7, up2, upd]) ?_
  refine g_aload_n 60 dX8_init_59 rfl rfl ?_
  refine g_iconst (5) 61 dX8_init_60 rfl (by decide) ?_
  refine g_newI (n := 173) (N := 5) (t0 := 1) (a0 := (5, .inl (fun _ => 0))) (ty := .int) 63 dX8_init_61 rfl ka_int rfl rfl (fun _ _ h => h) rfl (by decide) (by decide) (by decide) (by simp only [wE, show sh 173 = 10 from rfl, show ln 173 = 5 from rfl] <;> rfl) (fun _ => rfl) ⟨Nat.le_of_ble_eq_true rfl, Nat.le_of_ble_eq_true rfl⟩ ?_
  refine g_putFG (k := 167) (v := 173) (ci := 8) (j := 19) (N := 20) (C := RX8) (T := TX8) (n := 174) (fs := [(.int 0 : Value), rv g (.ref 168), (.int 0 : Value), (.int 0 : Value), (.int 0 : Value), (.int 0 : Value), (.int 0 : Value), (.int 0 : Value), rv g (.ref 169), (.int 0 : Value), (.int 0 : Value), (.int 0 : Value), (.int (-9) : Value), (.int (-9) : Value), rv g (.ref 170), rv g (.ref 171), (.int 0 : Value), (.int 0 : Value), rv g (.ref 172), .null]) (ty := .array .int) 66 dX8_init_63 rfl kf_X8_32 rfl (by decide) iw8 tyX8 tyX8_ok nmX8 rfl rfl (by decide +kernel) (fun _ => rfl) (fun _ => rfl) (fun _ _ h => h) (by decide) (by decide) (by simp [wE, show sh 167 = 8 from rfl, wR, wI, upR, va_up, hN 167 (Nat.le_refl _), va_rf, rv, rel, F7, up2, upd]) (Nat.le_of_ble_eq_true rfl) (by simp [wE, show sh 167 = 8 from rfl, wR, wI, upR, va_up, hN 167 (Nat.le_refl _), va_rf, rv, rel, F7, up2, upd]) ?_
  refine g_St (fun q hq => ?_) ?_
  · rcases (show q < 167 ∨ q = 167 ∨ 168 ≤ q by omega) with r | r | r
    · refine okR_c ?_ (hok q r)
      simp only [upR_ne _ _ _ (show q ≠ 167 by omega)]
    · subst r; exact okR_e (fun g N M F J => by simp [wE, show sh 167 = 8 from rfl, wR, wI, upR, va_up, R0, show sh 167 = 8 from rfl])
    · refine okR_i (Or.inl ?_)
      have : ∀ q, q < 174 → 168 ≤ q → sh q = 10 := by decide
      exact this q hq r
  · refine g_vret dX8_init_66 ?_
    exact ⟨rfl, rfl⟩
