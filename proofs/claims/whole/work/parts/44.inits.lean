/-! the constructors -/
abbrev Z0 : Nat → Nat → Int32 := fun _ _ => 0
abbrev J0 : Nat → Int64 := fun _ => 0
def okR (Rf : Rt) (q : Nat) : Prop := ∀ (g : Gl) (N M : Nat) (F : Nat → Nat → Int32) (J : Nat → Int64) (H : Heap) (a : Nat), va_at (gD g) vwCl (a, wE g (N, F, J, Rf) q) H → va_at (gD g) vwCl (a, wE g (M, F, J, R0) q) H
theorem okR_e {Rf : Rt} {q : Nat} (h : ∀ (g : Gl) (N M : Nat) (F : Nat → Nat → Int32) (J : Nat → Int64), wE g (N, F, J, Rf) q = wE g (M, F, J, R0) q) : okR Rf q := fun g N M F J H a x => by rw [← h g N M F J]; exact x
theorem okR_c {Rf Rg : Rt} {q : Nat} (e : Rg q = Rf q) (h : okR Rf q) : okR Rg q := fun g N M F J H a x => by
  refine h g N M F J H a ?_
  have : wE g (N, F, J, Rf) q = wE g (N, F, J, Rg) q := by simp only [wE, wI, wR, e]
  rw [this]; exact x
theorem okR_i {Rf : Rt} {q : Nat} (h : sh q = 10 ∨ sh q = 9 ∨ sh q = 11 ∨ sh q = 0 ∨ sh q = 1) : okR Rf q := okR_e fun g N M F J => by
  rcases h with h | h | h | h | h <;> simp only [wE, h] <;> rfl
theorem okR_2 {Rf : Rt} {q : Nat} (h : sh q = 2) (e : Rf q 0 = some (q + 1)) : okR Rf q := okR_e fun g N M F J => by
  have e2 : R0 q 0 = some (q + 1) := by simp [R0, h]
  simp only [wE, h, wR, e, e2]; rfl
theorem okR_4 {Rf : Rt} {q : Nat} (h : sh q = 4) (e : Rf q 3 = some (q + 1)) : okR Rf q := okR_e fun g N M F J => by
  have e2 : R0 q 3 = some (q + 1) := by simp [R0, h]
  simp only [wE, h, wR, e, e2]; rfl
theorem arrV_c (cA : ClassId) {n : Nat} {f k : Nat → Value} (h : ∀ j, j < n → f j = k j) : arrV cA n f = arrV cA n k := by
  unfold arrV
  congr 1
  apply Array.ext
  · simp
  · intro i h1 h2
    simp only [Array.getElem_ofFn]
    exact h i (by simpa using h1)
theorem okR_q {Rf : Rt} {q : Nat} (h : sh q = 12 ∨ sh q = 13) (e : ∀ j, j < ln q → Rf q j = R0 q j) : okR Rf q := fun g N M F J H a x => by
  have key : ∀ cA, vp_cell cA (ln q, .inr (.inr (.inr (.inr (fun j => (Rf q j).map (rel g)))))) = vp_cell cA (ln q, .inr (.inr (.inr (.inr (fun j => (R0 q j).map (rel g)))))) := fun cA => by
    rw [vp_cell_q, vp_cell_q]; exact arrV_c cA (fun j hj => by show va_rf ((Rf q j).map _) = _; rw [e j hj])
  rcases h with h | h
  · have e1 : ∀ (N : Nat) (Rg : Rt), wE g (N, F, J, Rg) q = .inl (gc g 3, ln q, .inr (.inr (.inr (.inr (fun j => (Rg q j).map (rel g)))))) := fun N Rg => by simp only [wE, h]
    rw [e1] at x ⊢
    show H[a]? = some (vp_cell _ _)
    rw [← key]; exact x
  · have e1 : ∀ (N : Nat) (Rg : Rt), wE g (N, F, J, Rg) q = .inl (gc g 4, ln q, .inr (.inr (.inr (.inr (fun j => (Rg q j).map (rel g)))))) := fun N Rg => by simp only [wE, h]
    rw [e1] at x ⊢
    show H[a]? = some (vp_cell _ _)
    rw [← key]; exact x
/-- what a constructor leaves: its own cells are as they shall be, the others as they were -/
def niZ (k n2 : Nat) (Rf : Rt) : Option Value → Sg → Prop := fun r S2 => r = none ∧ ∃ Rg : Rt, S2 = (n2, Z0, J0, Rg) ∧ (∀ q, q < k → Rg q = Rf q) ∧ (∀ q, k ≤ q → q < n2 → okR Rg q) ∧ ∀ q, n2 ≤ q → Rg q = Rf q
set_option maxRecDepth 100000 in
set_option maxHeartbeats 4000000 in
theorem i_X1 (g : Gl) (l : Launch) {Rf : Rt} : Ct g l yX1_init cX1_init 1 none 1 0 0 [.ref 98] (99, Z0, J0, Rf) (niZ 98 99 Rf) := by
  refine Ct.of rfl (by decide) rfl (Nat.le_of_ble_eq_true rfl) ?_
  refine g_aload_n 1 dX1_init_0 rfl rfl ?_
  refine g_obj 4 dX1_init_1 rfl ko_X1 ⟨Nat.le_of_ble_eq_true rfl, Nat.le_of_ble_eq_true rfl⟩ (Nat.le_of_ble_eq_true rfl) (by decide : 98 < 99) ?_
  refine g_vret dX1_init_4 ?_
  refine ⟨rfl, Rf, rfl, fun _ _ => rfl, fun q h1 h2 => ?_, fun _ _ => rfl⟩
  obtain rfl : q = 98 := by omega
  exact okR_i (by decide)
set_option maxRecDepth 100000 in
set_option maxHeartbeats 4000000 in
theorem i_X0 (g : Gl) (l : Launch) {Rf : Rt} : Ct g l yX0_init cX0_init 1 none 1 0 0 [.ref 99] (100, Z0, J0, Rf) (niZ 99 100 Rf) := by
  refine Ct.of rfl (by decide) rfl (Nat.le_of_ble_eq_true rfl) ?_
  refine g_aload_n 1 dX0_init_0 rfl rfl ?_
  refine g_obj 4 dX0_init_1 rfl ko_X0 ⟨Nat.le_of_ble_eq_true rfl, Nat.le_of_ble_eq_true rfl⟩ (Nat.le_of_ble_eq_true rfl) (by decide : 99 < 100) ?_
  refine g_vret dX0_init_4 ?_
  refine ⟨rfl, Rf, rfl, fun _ _ => rfl, fun q h1 h2 => ?_, fun _ _ => rfl⟩
  obtain rfl : q = 99 := by omega
  exact okR_i (by decide)
set_option maxRecDepth 100000 in
set_option maxHeartbeats 4000000 in
theorem i_X2 (g : Gl) (l : Launch) {k : Nat} (hk : k + 1 < 174) (h2 : sh k = 2) (h10 : sh (k + 1) = 10) (h6 : ln (k + 1) = 6) {Rf : Rt} (hN : ∀ q, k ≤ q → ∀ j, Rf q j = none) : Ct g l yX2_init cX2_init 1 none 1 1 6 [.ref k] (k + 1, Z0, J0, Rf) (niZ k (k + 2) Rf) := by
  refine Ct.of rfl (by decide) rfl (Nat.le_of_ble_eq_true rfl) ?_
  refine g_aload_n 1 dX2_init_0 rfl rfl ?_
  refine g_obj 4 dX2_init_1 rfl ko_X2 ⟨Nat.le_of_ble_eq_true rfl, Nat.le_of_ble_eq_true rfl⟩ (Nat.le_of_ble_eq_true rfl) (Nat.lt_succ_self k) ?_
  refine g_aload_n 5 dX2_init_4 rfl rfl ?_
  refine g_bipush (6) 7 dX2_init_5 rfl (by decide) ?_
  refine g_newI (n := k + 1) (N := 6) (t0 := 1) (a0 := (6, .inl (fun _ => 0))) (ty := .int) 9 dX2_init_7 rfl ka_int rfl rfl (fun _ _ h => h) rfl (by decide) (by decide) hk (by simp only [wE, h10, h6] <;> rfl) (fun _ => rfl) ⟨Nat.le_of_ble_eq_true rfl, Nat.le_of_ble_eq_true rfl⟩ ?_
  refine g_putFG (k := k) (v := k + 1) (ci := 2) (j := 0) (N := 2) (C := RX2) (T := TX2) (n := k + 1 + 1) (fs := [.null, (.int 0 : Value)]) (ty := (.array .int)) 12 dX2_init_9 rfl kf_X2_9 rfl (by decide) iw2 tyX2 tyX2_ok nmX2 rfl rfl (by decide +kernel) (fun _ => rfl) (fun _ => rfl) (fun _ _ h => h) (by omega) (by omega) (by simp only [wE, h2, wR, wI, hN k (Nat.le_refl _) 0] <;> rfl) (Nat.le_of_ble_eq_true rfl) (by simp only [wE, h2, wR, wI, upR_at] <;> rfl) ?_
  refine g_vret dX2_init_12 ?_
  refine ⟨rfl, upR Rf k 0 (k + 1), rfl, fun q hq => upR_ne _ _ _ (by omega), fun q h1 h2' => ?_, fun q hq => upR_ne _ _ _ (by omega)⟩
  by_cases e : q = k
  · subst e; exact okR_2 h2 (upR_at _ _ _ _)
  · obtain rfl : q = k + 1 := by omega
    exact okR_i (Or.inl h10)
set_option maxRecDepth 100000 in
set_option maxHeartbeats 4000000 in
theorem i_X5 (g : Gl) (l : Launch) {Rf : Rt} (hN : ∀ q, 1 ≤ q → ∀ j, Rf q j = none) : Ct g l yX5_init cX5_init 1 none 1 1 400 [.ref 1] (2, Z0, J0, Rf) (niZ 1 3 Rf) := by
  refine Ct.of rfl (by decide) rfl (Nat.le_of_ble_eq_true rfl) ?_
  refine g_aload_n 1 dX5_init_0 rfl rfl ?_
  refine g_obj 4 dX5_init_1 rfl ko_X5 ⟨Nat.le_of_ble_eq_true rfl, Nat.le_of_ble_eq_true rfl⟩ (Nat.le_of_ble_eq_true rfl) (by decide : 1 < 2) ?_
  refine g_aload_n 5 dX5_init_4 rfl rfl ?_
  refine g_sipush (400) 8 dX5_init_5 rfl (by decide) ?_
  refine g_newI (n := 2) (N := 400) (t0 := 0) (a0 := (400, .inl (fun _ => 0))) (ty := .byte) 10 dX5_init_8 rfl ka_byte rfl rfl (fun _ _ h => h) rfl (by decide) (by decide) (by decide) (by simp only [wE, show sh 2 = 9 from rfl, show ln 2 = 400 from rfl] <;> rfl) (fun _ => rfl) ⟨Nat.le_of_ble_eq_true rfl, Nat.le_of_ble_eq_true rfl⟩ ?_
  refine g_putFG (k := 1) (v := 2) (ci := 5) (j := 0) (N := 2) (C := RX5) (T := TX5) (n := 3) (fs := [.null, (.int 0 : Value)]) (ty := (.array .byte)) 13 dX5_init_10 rfl kf_X5_9 rfl (by decide) iw5 tyX5 tyX5_ok nmX5 rfl rfl (by decide +kernel) (fun _ => rfl) (fun _ => rfl) (fun _ _ h => h) (by decide) (by decide) (by simp only [wE, show sh 1 = 5 from rfl, wR, wI, hN 1 (by decide) 0] <;> rfl) (Nat.le_of_ble_eq_true rfl) (by simp only [wE, show sh 1 = 5 from rfl, wR, wI, upR_at] <;> rfl) ?_
  refine g_vret dX5_init_13 ?_
  refine ⟨rfl, upR Rf 1 0 2, rfl, fun q hq => upR_ne _ _ _ (by omega), fun q h1 h2' => ?_, fun q hq => upR_ne _ _ _ (by omega)⟩
  by_cases e : q = 1
  · subst e; exact okR_e (fun g N M F J => by simp only [wE, show sh 1 = 5 from rfl, wR, wI, upR_at] <;> rfl)
  · obtain rfl : q = 2 := by omega
    exact okR_i (by decide)
set_option maxRecDepth 100000 in
set_option maxHeartbeats 4000000 in
theorem i_X6 (g : Gl) (l : Launch) {Rf : Rt} (hN : ∀ q, 6 ≤ q → ∀ j, Rf q j = none) : Ct g l yX6_init cX6_init 1 none 1 3 1203 [.ref 6] (7, Z0, J0, Rf) (niZ 6 10 Rf) := by
  refine Ct.of rfl (by decide) rfl (Nat.le_of_ble_eq_true rfl) ?_
  refine g_aload_n 1 dX6_init_0 rfl rfl ?_
  refine g_obj 4 dX6_init_1 rfl ko_X6 ⟨Nat.le_of_ble_eq_true rfl, Nat.le_of_ble_eq_true rfl⟩ (Nat.le_of_ble_eq_true rfl) (by decide : 6 < 7) ?_
  refine g_aload_n 5 dX6_init_4 rfl rfl ?_
  refine g_sipush (401) 8 dX6_init_5 rfl (by decide) ?_
  refine g_newI (n := 7) (N := 401) (t0 := 1) (a0 := (401, .inl (fun _ => 0))) (ty := .int) 10 dX6_init_8 rfl ka_int rfl rfl (fun _ _ h => h) rfl (by decide) (by decide) (by decide) (by simp only [wE, show sh 7 = 10 from rfl, show ln 7 = 401 from rfl] <;> rfl) (fun _ => rfl) ⟨Nat.le_of_ble_eq_true rfl, Nat.le_of_ble_eq_true rfl⟩ ?_
  refine g_putFG (k := 6) (v := 7) (ci := 6) (j := 0) (N := 5) (C := RX6) (T := TX6) (n := 8) (fs := [.null, .null, .null, (.int 0 : Value), (.int 0 : Value)]) (ty := (.array .int)) 13 dX6_init_10 rfl kf_X6_9 rfl (by decide) iw6 tyX6 tyX6_ok nmX6 rfl rfl (by decide +kernel) (fun _ => rfl) (fun _ => rfl) (fun _ _ h => h) (by decide) (by decide) (by simp only [wE, show sh 6 = 6 from rfl, wR, wI, hN 6 (by decide) 0, hN 6 (by decide) 1, hN 6 (by decide) 2] <;> rfl) (Nat.le_of_ble_eq_true rfl) (by simp only [wE, show sh 6 = 6 from rfl, wR, wI, upR_at, upR_o Rf 6 (j := 0) (i := 1) 7 (by decide), upR_o Rf 6 (j := 0) (i := 2) 7 (by decide), hN 6 (by decide) 1, hN 6 (by decide) 2] <;> rfl) ?_
  refine g_aload_n 14 dX6_init_13 rfl rfl ?_
  refine g_sipush (401) 17 dX6_init_14 rfl (by decide) ?_
  refine g_newI (n := 8) (N := 401) (t0 := 1) (a0 := (401, .inl (fun _ => 0))) (ty := .int) 19 dX6_init_17 rfl ka_int rfl rfl (fun _ _ h => h) rfl (by decide) (by decide) (by decide) (by simp only [wE, show sh 8 = 10 from rfl, show ln 8 = 401 from rfl] <;> rfl) (fun _ => rfl) ⟨Nat.le_of_ble_eq_true rfl, Nat.le_of_ble_eq_true rfl⟩ ?_
  refine g_putFG (k := 6) (v := 8) (ci := 6) (j := 1) (N := 5) (C := RX6) (T := TX6) (n := 9) (fs := [rv g (.ref 7), .null, .null, (.int 0 : Value), (.int 0 : Value)]) (ty := (.array .int)) 22 dX6_init_19 rfl kf_X6_15 rfl (by decide) iw6 tyX6 tyX6_ok nmX6 rfl rfl (by decide +kernel) (fun _ => rfl) (fun _ => rfl) (fun _ _ h => h) (by decide) (by decide) (by simp only [wE, show sh 6 = 6 from rfl, wR, wI, upR_at, upR_o Rf 6 (j := 0) (i := 1) 7 (by decide), upR_o Rf 6 (j := 0) (i := 2) 7 (by decide), hN 6 (by decide) 1, hN 6 (by decide) 2] <;> rfl) (Nat.le_of_ble_eq_true rfl) (by simp only [wE, show sh 6 = 6 from rfl, wR, wI, upR_at, upR_o (upR Rf 6 0 7) 6 (j := 1) (i := 0) 8 (by decide), upR_o (upR Rf 6 0 7) 6 (j := 1) (i := 2) 8 (by decide), upR_at, upR_o Rf 6 (j := 0) (i := 2) 7 (by decide), hN 6 (by decide) 2] <;> rfl) ?_
  refine g_aload_n 23 dX6_init_22 rfl rfl ?_
  refine g_sipush (401) 26 dX6_init_23 rfl (by decide) ?_
  refine g_newI (n := 9) (N := 401) (t0 := 1) (a0 := (401, .inl (fun _ => 0))) (ty := .int) 28 dX6_init_26 rfl ka_int rfl rfl (fun _ _ h => h) rfl (by decide) (by decide) (by decide) (by simp only [wE, show sh 9 = 10 from rfl, show ln 9 = 401 from rfl] <;> rfl) (fun _ => rfl) ⟨Nat.le_of_ble_eq_true rfl, Nat.le_of_ble_eq_true rfl⟩ ?_
  refine g_putFG (k := 6) (v := 9) (ci := 6) (j := 2) (N := 5) (C := RX6) (T := TX6) (n := 10) (fs := [rv g (.ref 7), rv g (.ref 8), .null, (.int 0 : Value), (.int 0 : Value)]) (ty := (.array .int)) 31 dX6_init_28 rfl kf_X6_18 rfl (by decide) iw6 tyX6 tyX6_ok nmX6 rfl rfl (by decide +kernel) (fun _ => rfl) (fun _ => rfl) (fun _ _ h => h) (by decide) (by decide) (by simp only [wE, show sh 6 = 6 from rfl, wR, wI, upR_at, upR_o (upR Rf 6 0 7) 6 (j := 1) (i := 0) 8 (by decide), upR_o (upR Rf 6 0 7) 6 (j := 1) (i := 2) 8 (by decide), upR_at, upR_o Rf 6 (j := 0) (i := 2) 7 (by decide), hN 6 (by decide) 2] <;> rfl) (Nat.le_of_ble_eq_true rfl) (by simp only [wE, show sh 6 = 6 from rfl, wR, wI, upR_at, upR_o (upR (upR Rf 6 0 7) 6 1 8) 6 (j := 2) (i := 0) 9 (by decide), upR_o (upR (upR Rf 6 0 7) 6 1 8) 6 (j := 2) (i := 1) 9 (by decide), upR_at, upR_o (upR Rf 6 0 7) 6 (j := 1) (i := 0) 8 (by decide), upR_at] <;> rfl) ?_
  refine g_vret dX6_init_31 ?_
  refine ⟨rfl, upR (upR (upR Rf 6 0 7) 6 1 8) 6 2 9, rfl, fun q hq => ?_, fun q h1 h2' => ?_, fun q hq => ?_⟩
  · rw [upR_ne _ _ _ (by omega), upR_ne _ _ _ (by omega), upR_ne _ _ _ (by omega)]
  · by_cases e : q = 6
    · subst e; exact okR_e (fun g N M F J => by simp only [wE, show sh 6 = 6 from rfl, wR, wI, upR_at, upR_o (upR (upR Rf 6 0 7) 6 1 8) 6 (j := 2) (i := 0) 9 (by decide), upR_o (upR (upR Rf 6 0 7) 6 1 8) 6 (j := 2) (i := 1) 9 (by decide), upR_o (upR Rf 6 0 7) 6 (j := 1) (i := 0) 8 (by decide)] <;> rfl)
    · exact okR_i (by rcases (show q = 7 ∨ q = 8 ∨ q = 9 by omega) with h | h | h <;> subst h <;> decide)
  · rw [upR_ne _ _ _ (by omega), upR_ne _ _ _ (by omega), upR_ne _ _ _ (by omega)]
set_option maxRecDepth 100000 in
set_option maxHeartbeats 4000000 in
theorem i_X4 (g : Gl) (l : Launch) {k : Nat} (hk : k + 2 < 174) (h4 : sh k = 4) (h2 : sh (k + 1) = 2) (h10 : sh (k + 1 + 1) = 10) (h6 : ln (k + 1 + 1) = 6) {Rf : Rt} (hN : ∀ q, k ≤ q → ∀ j, Rf q j = none) : Ct g l yX4_init cX4_init 1 none 2 2 8 [.ref k] (k + 1, Z0, J0, Rf) (niZ k (k + 3) Rf) := by
  have hN1 : ∀ q, k + 1 ≤ q → ∀ j, Rf q j = none := fun q h => hN q (by omega)
  refine Ct.of rfl (by decide) rfl (Nat.le_of_ble_eq_true rfl) ?_
  refine g_aload_n 1 dX4_init_0 rfl rfl ?_
  refine g_obj 4 dX4_init_1 rfl ko_X4 ⟨Nat.le_of_ble_eq_true rfl, Nat.le_of_ble_eq_true rfl⟩ (Nat.le_of_ble_eq_true rfl) (Nat.lt_succ_self k) ?_
  refine g_aload_n 5 dX4_init_4 rfl rfl ?_
  refine g_newG (n := k + 1) (ci := 2) (N := 2) (C := RX2) (T := TX2) (fs := [.null, (.int 0 : Value)]) tyX2 8 dX4_init_5 rfl kn_X4_7 ks_X2 ki_X2 rfl iw2 tyX2_ok (by omega) (by simp only [wE, h2, wR, wI, hN1 _ (Nat.le_refl _) 0] <;> rfl) (by decide) ⟨Nat.le_of_ble_eq_true rfl, Nat.le_of_ble_eq_true rfl⟩ ?_
  refine g_dup 9 dX4_init_8 rfl rfl ?_
  refine g_iN 12 dX4_init_9 rfl (by decide) mi_X2 (i_X2 g l (k := k + 1) (by omega) h2 h10 h6 hN1) (Nat.lt_succ_self (k + 1)) ⟨Nat.le_of_ble_eq_true rfl, Nat.le_of_ble_eq_true rfl⟩ ⟨Nat.le_of_ble_eq_true rfl, Nat.le_of_ble_eq_true rfl⟩ (Nat.le_of_ble_eq_true rfl) ?_
  rintro _ _ ⟨rfl, Rg, rfl, kl, ko, kh⟩
  refine g_putFG (k := k) (v := k + 1) (ci := 4) (j := 3) (N := 4) (C := RX4) (T := TX4) (n := k + 1 + 2) (fs := [(.int 0 : Value), (.int 0 : Value), (.int 0 : Value), .null]) (ty := (.object "TruthSums$Line")) 15 dX4_init_12 rfl kf_X4_10 rfl (by decide) iw4 tyX4 tyX4_ok nmX4 rfl rfl (by decide +kernel) (fun _ => rfl) (fun _ => rfl) (fun _ _ h => h) (by omega) (by omega) (by simp only [wE, h4, wR, wI, kl k (Nat.lt_succ_self k), hN k (Nat.le_refl _) 3] <;> rfl) (Nat.le_of_ble_eq_true rfl) (by simp only [wE, h4, wR, wI, upR_at] <;> rfl) ?_
  refine g_vret dX4_init_15 ?_
  refine ⟨rfl, upR Rg k 3 (k + 1), rfl, fun q hq => ?_, fun q h1 h2' => ?_, fun q hq => ?_⟩
  · rw [upR_ne _ _ _ (by omega)]; exact kl q (by omega)
  · by_cases e : q = k
    · subst e; exact okR_4 h4 (upR_at _ _ _ _)
    · exact okR_c (upR_ne _ _ _ e) (ko q (by omega) (by omega))
  · rw [upR_ne _ _ _ (by omega)]; exact kh q (by omega)
