/-! Tokens: the cells 6 .. 9 -/
def tk (F : Nat → Nat → Int32) (K V P : Nat → Int32) (c n : Int32) : Nat → Nat → Int32 := fun q => if q = 7 then K else if q = 8 then V else if q = 9 then P else if q = 6 then (fun j => if j = 3 then c else if j = 4 then n else F 6 j) else F q
theorem tk_7 (F : Nat → Nat → Int32) (K V P : Nat → Int32) (c n x : Int32) (i : Nat) : up2 (tk F K V P c n) 7 i x = tk F (upd K i x) V P c n := by
  funext q j
  by_cases h : q = 7
  · subst h; rfl
  · simp only [up2, tk, if_neg h]
theorem tk_8 (F : Nat → Nat → Int32) (K V P : Nat → Int32) (c n x : Int32) (i : Nat) : up2 (tk F K V P c n) 8 i x = tk F K (upd V i x) P c n := by
  funext q j
  by_cases h : q = 8
  · subst h; rfl
  · simp only [up2, tk, if_neg h]
theorem tk_9 (F : Nat → Nat → Int32) (K V P : Nat → Int32) (c n x : Int32) (i : Nat) : up2 (tk F K V P c n) 9 i x = tk F K V (upd P i x) c n := by
  funext q j
  by_cases h : q = 9
  · subst h; rfl
  · simp only [up2, tk, if_neg h]
theorem tk_c (F : Nat → Nat → Int32) (K V P : Nat → Int32) (c n x : Int32) : up2 (tk F K V P c n) 6 3 x = tk F K V P x n := by
  funext q j
  by_cases h : q = 6
  · subst h
    show upd _ 3 x j = _
    by_cases e : j = 3 <;> simp [upd, tk, e]
  · simp only [up2, tk, if_neg h]
theorem tk_n (F : Nat → Nat → Int32) (K V P : Nat → Int32) (c n x : Int32) : up2 (tk F K V P c n) 6 4 x = tk F K V P c x := by
  funext q j
  by_cases h : q = 6
  · subst h
    show upd _ 4 x j = _
    by_cases e : j = 4
    · simp [upd, tk, e]
    · by_cases e3 : j = 3 <;> simp [upd, tk, e, e3]
  · simp only [up2, tk, if_neg h]
theorem tk_self (F : Nat → Nat → Int32) : F = tk F (F 7) (F 8) (F 9) (F 6 3) (F 6 4) := by
  funext q j
  by_cases h7 : q = 7
  · subst h7; rfl
  · by_cases h8 : q = 8
    · subst h8; rfl
    · by_cases h9 : q = 9
      · subst h9; rfl
      · by_cases h6 : q = 6
        · subst h6
          by_cases e : j = 3
          · simp [tk, e]
          · by_cases e4 : j = 4 <;> simp [tk, e, e4]
        · simp [tk, h7, h8, h9, h6]
theorem tk_set (F : Nat → Nat → Int32) (a b : Int32) : up2 (up2 F 6 4 b) 6 3 a = tk F (F 7) (F 8) (F 9) a b := by
  have h : up2 (up2 F 6 4 b) 6 3 a = up2 (up2 (tk F (F 7) (F 8) (F 9) (F 6 3) (F 6 4)) 6 4 b) 6 3 a := congrArg (fun G => up2 (up2 G 6 4 b) 6 3 a) (tk_self F)
  rw [h, tk_n, tk_c]
theorem nI_2 (m : Nat) : nI m + 2 = nI (m + 2) := by
  rw [show m + 2 = (m + 1) + 1 from rfl, nI_succ, nI_succ, Int32.add_assoc]; rfl
abbrev isSm (b : Int32) : Prop := ¬ b < 97 ∧ ¬ 122 < b
abbrev isDg (b : Int32) : Prop := ¬ b < 48 ∧ ¬ 57 < b
def sgk (b : Int32) : Int32 := if b = 33 then 5 else if b = 43 then 4 else if b = 59 then 6 else 8
def wend (tb : Nat → Int32) : Nat → Nat → Nat
  | 0, m => m
  | n + 1, m => if isSm (tb m) then wend tb n (m + 1) else m
def nvl (tb : Nat → Int32) : Nat → Nat → Int32 → Int32 × Nat
  | 0, m, x => (x, m)
  | n + 1, m, x => if isDg (tb m) then nvl tb n (m + 1) (min32 (x * 10 + tb m - 48) 1000) else (x, m)
theorem wend_no {tb : Nat → Int32} {n m : Nat} (h : ¬ isSm (tb m)) : wend tb n m = m := by
  cases n with
  | zero => rfl
  | succ n => rw [wend, if_neg h]
theorem nvl_no {tb : Nat → Int32} {n m : Nat} {x : Int32} (h : ¬ isDg (tb m)) : nvl tb n m x = (x, m) := by
  cases n with
  | zero => rfl
  | succ n => rw [nvl, if_neg h]
theorem wend_le {tb : Nat → Int32} {len : Nat} (h : ∀ m, len ≤ m → ¬ isSm (tb m)) : ∀ {n m : Nat}, m ≤ len → m ≤ wend tb n m ∧ wend tb n m ≤ len := by
  intro n
  induction n with
  | zero => intro m hm; exact ⟨Nat.le_refl _, hm⟩
  | succ n ih =>
    intro m hm
    rw [wend]
    by_cases q : isSm (tb m)
    · rw [if_pos q]
      have : m < len := Nat.lt_of_not_le (fun z => h m z q)
      have := ih (m := m + 1) (by omega)
      omega
    · rw [if_neg q]; exact ⟨Nat.le_refl _, hm⟩
theorem nvl_le {tb : Nat → Int32} {len : Nat} (h : ∀ m, len ≤ m → ¬ isDg (tb m)) : ∀ {n m : Nat} {x : Int32}, m ≤ len → m ≤ (nvl tb n m x).2 ∧ (nvl tb n m x).2 ≤ len := by
  intro n
  induction n with
  | zero => intro m x hm; exact ⟨Nat.le_refl _, hm⟩
  | succ n ih =>
    intro m x hm
    rw [nvl]
    by_cases q : isDg (tb m)
    · rw [if_pos q]
      have : m < len := Nat.lt_of_not_le (fun z => h m z q)
      have := ih (m := m + 1) (x := min32 (x * 10 + tb m - 48) 1000) (by omega)
      omega
    · rw [if_neg q]; exact ⟨Nat.le_refl _, hm⟩
theorem at_no {F : Nat → Nat → Int32} {len m : Nat} (h : len ≤ m) : at_ F len m = -1 := by rw [at_, if_neg (by omega)]
theorem at_sm (F : Nat → Nat → Int32) (len m : Nat) (h : len ≤ m) : ¬ isSm (at_ F len m) := by rw [at_no h]; decide
theorem at_dg (F : Nat → Nat → Int32) (len m : Nat) (h : len ≤ m) : ¬ isDg (at_ F len m) := by rw [at_no h]; decide
/-- which step a word tells; 0: none -/
def stk (tb : Nat → Int32) (a b : Nat) : Int32 := if spl tb a b 0 then 1 else if spl tb a b 1 then 2 else if spl tb a b 2 then 3 else if spl tb a b 3 then 4 else if spl tb a b 4 then 5 else if spl tb a b 5 then 6 else if spl tb a b 6 then 7 else if spl tb a b 7 then 8 else 0

theorem up2_id (F : Nat → Nat → Int32) (k j : Nat) : up2 F k j (F k j) = F := by
  funext q i
  by_cases h : q = k
  · subst h; simp only [up2, if_true, upd]
    by_cases e : i = j <;> simp [e]
  · simp [up2, h]
set_option maxRecDepth 100000 in
set_option maxHeartbeats 4000000 in
theorem c_isSmall (g : Gl) (l : Launch) (x : Int32) (S : Sg) : Ct g l yX6_isSmallLetter cX6_isSmallLetter 1 (some .boolean) 0 0 0 [.int x] S (fun r S2 => r = some (.int (if isSm x then 1 else 0)) ∧ S2 = S) := by
  refine Ct.of rfl (by decide) rfl (Nat.le_of_ble_eq_true rfl) ?_
  refine g_iload_n 1 dX6_isSmallLetter_0 rfl rfl ?_
  refine g_bipush (97) 3 dX6_isSmallLetter_1 rfl (by decide) ?_
  refine g_icmp_lt 16 6 dX6_isSmallLetter_3 rfl (by decide) (fun h3 => ?_) (fun h3 => ?_)
  · refine g_iconst (0) 17 dX6_isSmallLetter_16 rfl (by decide) ?_
    refine g_zret dX6_isSmallLetter_17 (by decide) ?_
    exact ⟨iv_neg (fun z => z.1 h3), rfl⟩
  · refine g_iload_n 7 dX6_isSmallLetter_6 rfl rfl ?_
    refine g_bipush (122) 9 dX6_isSmallLetter_7 rfl (by decide) ?_
    refine g_icmp_gt 16 12 dX6_isSmallLetter_9 rfl (by decide) (fun h9 => ?_) (fun h9 => ?_)
    · refine g_iconst (0) 17 dX6_isSmallLetter_16 rfl (by decide) ?_
      refine g_zret dX6_isSmallLetter_17 (by decide) ?_
      exact ⟨iv_neg (fun z => z.2 h9), rfl⟩
    · refine g_iconst (1) 13 dX6_isSmallLetter_12 rfl (by decide) ?_
      refine g_goto 17 dX6_isSmallLetter_13 (by decide) ?_
      refine g_zret dX6_isSmallLetter_17 (by decide) ?_
      exact ⟨iv_pos ⟨h3, h9⟩, rfl⟩

set_option maxRecDepth 100000 in
set_option maxHeartbeats 4000000 in
theorem c_isDigit (g : Gl) (l : Launch) (x : Int32) (S : Sg) : Ct g l yX6_isDigit cX6_isDigit 1 (some .boolean) 0 0 0 [.int x] S (fun r S2 => r = some (.int (if isDg x then 1 else 0)) ∧ S2 = S) := by
  refine Ct.of rfl (by decide) rfl (Nat.le_of_ble_eq_true rfl) ?_
  refine g_iload_n 1 dX6_isDigit_0 rfl rfl ?_
  refine g_bipush (48) 3 dX6_isDigit_1 rfl (by decide) ?_
  refine g_icmp_lt 16 6 dX6_isDigit_3 rfl (by decide) (fun h3 => ?_) (fun h3 => ?_)
  · refine g_iconst (0) 17 dX6_isDigit_16 rfl (by decide) ?_
    refine g_zret dX6_isDigit_17 (by decide) ?_
    exact ⟨iv_neg (fun z => z.1 h3), rfl⟩
  · refine g_iload_n 7 dX6_isDigit_6 rfl rfl ?_
    refine g_bipush (57) 9 dX6_isDigit_7 rfl (by decide) ?_
    refine g_icmp_gt 16 12 dX6_isDigit_9 rfl (by decide) (fun h9 => ?_) (fun h9 => ?_)
    · refine g_iconst (0) 17 dX6_isDigit_16 rfl (by decide) ?_
      refine g_zret dX6_isDigit_17 (by decide) ?_
      exact ⟨iv_neg (fun z => z.2 h9), rfl⟩
    · refine g_iconst (1) 13 dX6_isDigit_12 rfl (by decide) ?_
      refine g_goto 17 dX6_isDigit_13 (by decide) ?_
      refine g_zret dX6_isDigit_17 (by decide) ?_
      exact ⟨iv_pos ⟨h3, h9⟩, rfl⟩

theorem lk_0 {x : Int32} (h1 : ¬ x = 33) (h2 : ¬ x = 43) (h3 : ¬ x = 59) : Op.lookupswitch.offset [(33, 37), (43, 35), (59, 39)] 42 x.toInt = 42 := by
  have e : ∀ v : Int32, ¬ x = v → ¬ v.toInt = x.toInt := fun v h z => h (Int32.toInt_inj.mp z.symm)
  have a1 : ¬ (33 : Int) = x.toInt := e 33 h1
  have a2 : ¬ (43 : Int) = x.toInt := e 43 h2
  have a3 : ¬ (59 : Int) = x.toInt := e 59 h3
  simp [Op.lookupswitch.offset, a1, a2, a3]
set_option maxRecDepth 100000 in
set_option maxHeartbeats 4000000 in
theorem c_signKind (g : Gl) (l : Launch) (x : Int32) (S : Sg) : Ct g l yX6_signKind cX6_signKind 1 (some .int) 0 0 0 [.int x] S (fun r S2 => r = some (.int (sgk x)) ∧ S2 = S) := by
  refine Ct.of rfl (by decide) rfl (Nat.le_of_ble_eq_true rfl) ?_
  refine g_iload_n 1 dX6_signKind_0 rfl rfl ?_
  by_cases h1 : x = 33
  · subst h1
    refine g_lookup (off := 37) 38 dX6_signKind_1 (by decide) (by decide) (by decide) ?_
    refine g_iconst (5) 39 dX6_signKind_38 rfl (by decide) ?_
    refine g_iret dX6_signKind_39 ?_
    exact ⟨rfl, rfl⟩
  by_cases h2 : x = 43
  · subst h2
    refine g_lookup (off := 35) 36 dX6_signKind_1 (by decide) (by decide) (by decide) ?_
    refine g_iconst (4) 37 dX6_signKind_36 rfl (by decide) ?_
    refine g_iret dX6_signKind_37 ?_
    exact ⟨rfl, rfl⟩
  by_cases h3 : x = 59
  · subst h3
    refine g_lookup (off := 39) 40 dX6_signKind_1 (by decide) (by decide) (by decide) ?_
    refine g_bipush (6) 42 dX6_signKind_40 rfl (by decide) ?_
    refine g_iret dX6_signKind_42 ?_
    exact ⟨rfl, rfl⟩
  · refine g_lookup (off := 42) 43 dX6_signKind_1 (by decide) (lk_0 h1 h2 h3) (by decide) ?_
    refine g_bipush (8) 45 dX6_signKind_43 rfl (by decide) ?_
    refine g_iret dX6_signKind_45 ?_
    exact ⟨by rw [sgk, if_neg h1, if_neg h2, if_neg h3], rfl⟩

set_option maxRecDepth 100000 in
set_option maxHeartbeats 4000000 in
theorem c_put6 (g : Gl) (l : Launch) (kd vl pl nw : Int32) (F : Nat → Nat → Int32) (J : Nat → Int64) (K V P : Nat → Int32) {m : Nat} (hm : m < 401) : Ct g l yX6_put cX6_put 4 none 0 0 0 [.ref 6, .int kd, .int vl, .int pl] (St (tk F K V P (nI m) nw) J) (fun r S2 => r = none ∧ S2 = St (tk F (upd K m kd) (upd V m vl) (upd P m pl) (nI (m + 1)) nw) J) := by
  refine Ct.of rfl (by decide) rfl (Nat.le_of_ble_eq_true rfl) ?_
  refine g_aload_n 1 dX6_put_0 rfl rfl ?_
  refine gf_6_3 4 dX6_put_1 rfl kf_X6_25 (by first | decide | assumption | exact ⟨Nat.le_of_ble_eq_true rfl, rfl⟩) ?_
  refine g_aload_n 5 dX6_put_4 rfl rfl ?_
  refine gf_6_0 8 dX6_put_5 rfl kf_X6_9 ?_
  refine ga_len 9 dX6_put_8 rfl ⟨by decide, Or.inl rfl⟩ ?_
  refine g_icmp_ge 52 12 dX6_put_9 rfl (by decide) (fun h9 => ?_) (fun h9 => ?_)
  · exact absurd h9 (nI_ge (a := m) (b := 401) hm (by decide))
  · refine g_aload_n 13 dX6_put_12 rfl rfl ?_
    refine gf_6_0 16 dX6_put_13 rfl kf_X6_9 ?_
    refine g_aload_n 17 dX6_put_16 rfl rfl ?_
    refine gf_6_3 20 dX6_put_17 rfl kf_X6_25 (by first | decide | assumption | exact ⟨Nat.le_of_ble_eq_true rfl, rfl⟩) ?_
    refine g_iload_n 21 dX6_put_20 rfl rfl ?_
    refine ga_ist (m) 22 dX6_put_21 rfl (by first | decide | assumption | exact ⟨Nat.le_of_ble_eq_true rfl, rfl⟩) rfl hm ?_
    rw [tk_7]
    refine g_aload_n 23 dX6_put_22 rfl rfl ?_
    refine gf_6_1 26 dX6_put_23 rfl kf_X6_15 ?_
    refine g_aload_n 27 dX6_put_26 rfl rfl ?_
    refine gf_6_3 30 dX6_put_27 rfl kf_X6_25 (by first | decide | assumption | exact ⟨Nat.le_of_ble_eq_true rfl, rfl⟩) ?_
    refine g_iload_n 31 dX6_put_30 rfl rfl ?_
    refine ga_ist (m) 32 dX6_put_31 rfl (by first | decide | assumption | exact ⟨Nat.le_of_ble_eq_true rfl, rfl⟩) rfl hm ?_
    rw [tk_8]
    refine g_aload_n 33 dX6_put_32 rfl rfl ?_
    refine gf_6_2 36 dX6_put_33 rfl kf_X6_18 ?_
    refine g_aload_n 37 dX6_put_36 rfl rfl ?_
    refine gf_6_3 40 dX6_put_37 rfl kf_X6_25 (by first | decide | assumption | exact ⟨Nat.le_of_ble_eq_true rfl, rfl⟩) ?_
    refine g_iload_n 41 dX6_put_40 rfl rfl ?_
    refine ga_ist (m) 42 dX6_put_41 rfl (by first | decide | assumption | exact ⟨Nat.le_of_ble_eq_true rfl, rfl⟩) rfl hm ?_
    rw [tk_9]
    refine g_aload_n 43 dX6_put_42 rfl rfl ?_
    refine g_dup 44 dX6_put_43 rfl rfl ?_
    refine gf_6_3 47 dX6_put_44 rfl kf_X6_25 (by first | decide | assumption | exact ⟨Nat.le_of_ble_eq_true rfl, rfl⟩) ?_
    refine g_iconst (1) 48 dX6_put_47 rfl (by decide) ?_
    refine g_iadd 49 dX6_put_48 rfl ?_
    refine gp_6_3 52 dX6_put_49 rfl kf_X6_25 (by first | decide | assumption | exact ⟨Nat.le_of_ble_eq_true rfl, rfl⟩) ?_
    refine g_vret dX6_put_52 ?_
    exact ⟨rfl, by rw [tk_c]; show St (tk F _ _ _ (nI m + 1) _) J = _; rw [nI_succ]⟩

set_option maxRecDepth 100000 in
set_option maxHeartbeats 4000000 in
theorem c_atT (g : Gl) (l : Launch) (F : Nat → Nat → Int32) (J : Nat → Int64) (K V P : Nat → Int32) (c n : Int32) {len : Nat} (hl : F 1 1 = nI len) (hlen : len ≤ 400) (m : Nat) (hm : m < 1000) : Ct g l yX5_at cX5_at 2 (some .int) 0 0 0 [.ref 1, .int (nI m)] (St (tk F K V P c n) J) (fun r S2 => r = some (.int (at_ F len m)) ∧ S2 = St (tk F K V P c n) J) := c_at g l (tk F K V P c n) J hl hlen m hm
set_option maxRecDepth 100000 in
set_option maxHeartbeats 4000000 in
theorem c_stepKind (g : Gl) (l : Launch) (F : Nat → Nat → Int32) (J : Nat → Int64) {len : Nat} (hl : F 1 1 = nI len) (hlen : len ≤ 400) {a b : Nat} (hab : a ≤ b) (hb : b ≤ 500) : Ct g l yX6_stepKind cX6_stepKind 3 (some .int) 5 0 0 [.ref 1, .int (nI a), .int (nI b)] (St F J) (fun r S2 => r = some (.int (stk (at_ F len) a b)) ∧ S2 = St F J) := by
  refine Ct.of rfl (by decide) rfl (Nat.le_of_ble_eq_true rfl) ?_
  refine g_aload_n 1 dX6_stepKind_0 rfl rfl ?_
  refine g_iload_n 2 dX6_stepKind_1 rfl rfl ?_
  refine g_iload_n 3 dX6_stepKind_2 rfl rfl ?_
  refine g_ldcS (i := 0) 5 (by decide) dX6_stepKind_3 rfl rfl rfl ?_
  refine g_v3 5 8 dX6_stepKind_5 rfl kl_X6_64 mv_X5_spells rfl ⟨Nat.le_of_ble_eq_true rfl, Nat.le_of_ble_eq_true rfl⟩ (Nat.le_of_ble_eq_true rfl) (by first | decide | assumption | exact ⟨Nat.le_of_ble_eq_true rfl, rfl⟩) (c_spells g l F J hl hlen (i := 0) hab hb (by decide)) ?_
  rintro r S2 ⟨⟨rfl, q0⟩ | ⟨rfl, q0⟩, rfl⟩
  · refine g_if_eq 13 11 dX6_stepKind_8 rfl (by decide) (fun h8 => ?_) (fun h8 => ?_)
    · exact absurd h8 (by decide)
    · refine g_iconst (1) 12 dX6_stepKind_11 rfl (by decide) ?_
      refine g_iret dX6_stepKind_12 ?_
      exact ⟨by rw [stk, if_pos q0], rfl⟩
  · refine g_if_eq 13 11 dX6_stepKind_8 rfl (by decide) (fun h8 => ?_) (fun h8 => ?_)
    · refine g_aload_n 14 dX6_stepKind_13 rfl rfl ?_
      refine g_iload_n 15 dX6_stepKind_14 rfl rfl ?_
      refine g_iload_n 16 dX6_stepKind_15 rfl rfl ?_
      refine g_ldcS (i := 1) 18 (by decide) dX6_stepKind_16 rfl rfl rfl ?_
      refine g_v3 5 21 dX6_stepKind_18 rfl kl_X6_64 mv_X5_spells rfl ⟨Nat.le_of_ble_eq_true rfl, Nat.le_of_ble_eq_true rfl⟩ (Nat.le_of_ble_eq_true rfl) (by first | decide | assumption | exact ⟨Nat.le_of_ble_eq_true rfl, rfl⟩) (c_spells g l F J hl hlen (i := 1) hab hb (by decide)) ?_
      rintro r S2 ⟨⟨rfl, q1⟩ | ⟨rfl, q1⟩, rfl⟩
      · refine g_if_eq 26 24 dX6_stepKind_21 rfl (by decide) (fun h21 => ?_) (fun h21 => ?_)
        · exact absurd h21 (by decide)
        · refine g_iconst (2) 25 dX6_stepKind_24 rfl (by decide) ?_
          refine g_iret dX6_stepKind_25 ?_
          exact ⟨by rw [stk, if_neg q0, if_pos q1], rfl⟩
      · refine g_if_eq 26 24 dX6_stepKind_21 rfl (by decide) (fun h21 => ?_) (fun h21 => ?_)
        · refine g_aload_n 27 dX6_stepKind_26 rfl rfl ?_
          refine g_iload_n 28 dX6_stepKind_27 rfl rfl ?_
          refine g_iload_n 29 dX6_stepKind_28 rfl rfl ?_
          refine g_ldcS (i := 2) 31 (by decide) dX6_stepKind_29 rfl rfl rfl ?_
          refine g_v3 5 34 dX6_stepKind_31 rfl kl_X6_64 mv_X5_spells rfl ⟨Nat.le_of_ble_eq_true rfl, Nat.le_of_ble_eq_true rfl⟩ (Nat.le_of_ble_eq_true rfl) (by first | decide | assumption | exact ⟨Nat.le_of_ble_eq_true rfl, rfl⟩) (c_spells g l F J hl hlen (i := 2) hab hb (by decide)) ?_
          rintro r S2 ⟨⟨rfl, q2⟩ | ⟨rfl, q2⟩, rfl⟩
          · refine g_if_eq 39 37 dX6_stepKind_34 rfl (by decide) (fun h34 => ?_) (fun h34 => ?_)
            · exact absurd h34 (by decide)
            · refine g_iconst (3) 38 dX6_stepKind_37 rfl (by decide) ?_
              refine g_iret dX6_stepKind_38 ?_
              exact ⟨by rw [stk, if_neg q0, if_neg q1, if_pos q2], rfl⟩
          · refine g_if_eq 39 37 dX6_stepKind_34 rfl (by decide) (fun h34 => ?_) (fun h34 => ?_)
            · refine g_aload_n 40 dX6_stepKind_39 rfl rfl ?_
              refine g_iload_n 41 dX6_stepKind_40 rfl rfl ?_
              refine g_iload_n 42 dX6_stepKind_41 rfl rfl ?_
              refine g_ldcS (i := 3) 44 (by decide) dX6_stepKind_42 rfl rfl rfl ?_
              refine g_v3 5 47 dX6_stepKind_44 rfl kl_X6_64 mv_X5_spells rfl ⟨Nat.le_of_ble_eq_true rfl, Nat.le_of_ble_eq_true rfl⟩ (Nat.le_of_ble_eq_true rfl) (by first | decide | assumption | exact ⟨Nat.le_of_ble_eq_true rfl, rfl⟩) (c_spells g l F J hl hlen (i := 3) hab hb (by decide)) ?_
              rintro r S2 ⟨⟨rfl, q3⟩ | ⟨rfl, q3⟩, rfl⟩
              · refine g_if_eq 52 50 dX6_stepKind_47 rfl (by decide) (fun h47 => ?_) (fun h47 => ?_)
                · exact absurd h47 (by decide)
                · refine g_iconst (4) 51 dX6_stepKind_50 rfl (by decide) ?_
                  refine g_iret dX6_stepKind_51 ?_
                  exact ⟨by rw [stk, if_neg q0, if_neg q1, if_neg q2, if_pos q3], rfl⟩
              · refine g_if_eq 52 50 dX6_stepKind_47 rfl (by decide) (fun h47 => ?_) (fun h47 => ?_)
                · refine g_aload_n 53 dX6_stepKind_52 rfl rfl ?_
                  refine g_iload_n 54 dX6_stepKind_53 rfl rfl ?_
                  refine g_iload_n 55 dX6_stepKind_54 rfl rfl ?_
                  refine g_ldcS (i := 4) 57 (by decide) dX6_stepKind_55 rfl rfl rfl ?_
                  refine g_v3 5 60 dX6_stepKind_57 rfl kl_X6_64 mv_X5_spells rfl ⟨Nat.le_of_ble_eq_true rfl, Nat.le_of_ble_eq_true rfl⟩ (Nat.le_of_ble_eq_true rfl) (by first | decide | assumption | exact ⟨Nat.le_of_ble_eq_true rfl, rfl⟩) (c_spells g l F J hl hlen (i := 4) hab hb (by decide)) ?_
                  rintro r S2 ⟨⟨rfl, q4⟩ | ⟨rfl, q4⟩, rfl⟩
                  · refine g_if_eq 65 63 dX6_stepKind_60 rfl (by decide) (fun h60 => ?_) (fun h60 => ?_)
                    · exact absurd h60 (by decide)
                    · refine g_iconst (5) 64 dX6_stepKind_63 rfl (by decide) ?_
                      refine g_iret dX6_stepKind_64 ?_
                      exact ⟨by rw [stk, if_neg q0, if_neg q1, if_neg q2, if_neg q3, if_pos q4], rfl⟩
                  · refine g_if_eq 65 63 dX6_stepKind_60 rfl (by decide) (fun h60 => ?_) (fun h60 => ?_)
                    · refine g_aload_n 66 dX6_stepKind_65 rfl rfl ?_
                      refine g_iload_n 67 dX6_stepKind_66 rfl rfl ?_
                      refine g_iload_n 68 dX6_stepKind_67 rfl rfl ?_
                      refine g_ldcS (i := 5) 70 (by decide) dX6_stepKind_68 rfl rfl rfl ?_
                      refine g_v3 5 73 dX6_stepKind_70 rfl kl_X6_64 mv_X5_spells rfl ⟨Nat.le_of_ble_eq_true rfl, Nat.le_of_ble_eq_true rfl⟩ (Nat.le_of_ble_eq_true rfl) (by first | decide | assumption | exact ⟨Nat.le_of_ble_eq_true rfl, rfl⟩) (c_spells g l F J hl hlen (i := 5) hab hb (by decide)) ?_
                      rintro r S2 ⟨⟨rfl, q5⟩ | ⟨rfl, q5⟩, rfl⟩
                      · refine g_if_eq 79 76 dX6_stepKind_73 rfl (by decide) (fun h73 => ?_) (fun h73 => ?_)
                        · exact absurd h73 (by decide)
                        · refine g_bipush (6) 78 dX6_stepKind_76 rfl (by decide) ?_
                          refine g_iret dX6_stepKind_78 ?_
                          exact ⟨by rw [stk, if_neg q0, if_neg q1, if_neg q2, if_neg q3, if_neg q4, if_pos q5], rfl⟩
                      · refine g_if_eq 79 76 dX6_stepKind_73 rfl (by decide) (fun h73 => ?_) (fun h73 => ?_)
                        · refine g_aload_n 80 dX6_stepKind_79 rfl rfl ?_
                          refine g_iload_n 81 dX6_stepKind_80 rfl rfl ?_
                          refine g_iload_n 82 dX6_stepKind_81 rfl rfl ?_
                          refine g_ldcS (i := 6) 84 (by decide) dX6_stepKind_82 rfl rfl rfl ?_
                          refine g_v3 5 87 dX6_stepKind_84 rfl kl_X6_64 mv_X5_spells rfl ⟨Nat.le_of_ble_eq_true rfl, Nat.le_of_ble_eq_true rfl⟩ (Nat.le_of_ble_eq_true rfl) (by first | decide | assumption | exact ⟨Nat.le_of_ble_eq_true rfl, rfl⟩) (c_spells g l F J hl hlen (i := 6) hab hb (by decide)) ?_
                          rintro r S2 ⟨⟨rfl, q6⟩ | ⟨rfl, q6⟩, rfl⟩
                          · refine g_if_eq 93 90 dX6_stepKind_87 rfl (by decide) (fun h87 => ?_) (fun h87 => ?_)
                            · exact absurd h87 (by decide)
                            · refine g_bipush (7) 92 dX6_stepKind_90 rfl (by decide) ?_
                              refine g_iret dX6_stepKind_92 ?_
                              exact ⟨by rw [stk, if_neg q0, if_neg q1, if_neg q2, if_neg q3, if_neg q4, if_neg q5, if_pos q6], rfl⟩
                          · refine g_if_eq 93 90 dX6_stepKind_87 rfl (by decide) (fun h87 => ?_) (fun h87 => ?_)
                            · refine g_aload_n 94 dX6_stepKind_93 rfl rfl ?_
                              refine g_iload_n 95 dX6_stepKind_94 rfl rfl ?_
                              refine g_iload_n 96 dX6_stepKind_95 rfl rfl ?_
                              refine g_ldcS (i := 7) 98 (by decide) dX6_stepKind_96 rfl rfl rfl ?_
                              refine g_v3 5 101 dX6_stepKind_98 rfl kl_X6_64 mv_X5_spells rfl ⟨Nat.le_of_ble_eq_true rfl, Nat.le_of_ble_eq_true rfl⟩ (Nat.le_of_ble_eq_true rfl) (by first | decide | assumption | exact ⟨Nat.le_of_ble_eq_true rfl, rfl⟩) (c_spells g l F J hl hlen (i := 7) hab hb (by decide)) ?_
                              rintro r S2 ⟨⟨rfl, q7⟩ | ⟨rfl, q7⟩, rfl⟩
                              · refine g_if_eq 109 104 dX6_stepKind_101 rfl (by decide) (fun h101 => ?_) (fun h101 => ?_)
                                · exact absurd h101 (by decide)
                                · refine g_bipush (8) 106 dX6_stepKind_104 rfl (by decide) ?_
                                  refine g_goto 110 dX6_stepKind_106 (by decide) ?_
                                  refine g_iret dX6_stepKind_110 ?_
                                  exact ⟨by rw [stk, if_neg q0, if_neg q1, if_neg q2, if_neg q3, if_neg q4, if_neg q5, if_neg q6, if_pos q7], rfl⟩
                              · refine g_if_eq 109 104 dX6_stepKind_101 rfl (by decide) (fun h101 => ?_) (fun h101 => ?_)
                                · refine g_iconst (0) 110 dX6_stepKind_109 rfl (by decide) ?_
                                  refine g_iret dX6_stepKind_110 ?_
                                  exact ⟨by rw [stk, if_neg q0, if_neg q1, if_neg q2, if_neg q3, if_neg q4, if_neg q5, if_neg q6, if_neg q7], rfl⟩
                                · exact absurd h101 (by decide)
                            · exact absurd h87 (by decide)
                        · exact absurd h73 (by decide)
                    · exact absurd h60 (by decide)
                · exact absurd h47 (by decide)
            · exact absurd h34 (by decide)
        · exact absurd h21 (by decide)
    · exact absurd h8 (by decide)

/-- the token of a word, of a number, of a sign: its kind, its value, the place behind it -/
def tkW (tb : Nat → Int32) (len m : Nat) : Int32 × Int32 × Nat :=
  if wend tb len (m + 1) = m + 1 then ((if 6 ≤ tb m - 97 then 8 else 1), tb m - 97, m + 1) else ((if stk tb m (wend tb len (m + 1)) = 0 then 8 else 7), stk tb m (wend tb len (m + 1)), wend tb len (m + 1))
def tkN (tb : Nat → Int32) (len m : Nat) : Int32 × Int32 × Nat :=
  ((if (tb m = 48 ∧ m + 1 < (nvl tb len m 0).2) ∨ 999 < (nvl tb len m 0).1 then 8 else 2), (nvl tb len m 0).1, (nvl tb len m 0).2)
def tkS (tb : Nat → Int32) (m : Nat) : Int32 × Int32 × Nat := if tb m = 62 ∧ tb (m + 1) = 61 then (3, 0, m + 2) else (sgk (tb m), 0, m + 1)

set_option maxRecDepth 100000 in
set_option maxHeartbeats 4000000 in
theorem ex_putWord (g : Gl) (l : Launch) (nw : Int32) (F : Nat → Nat → Int32) (J : Nat → Int64) (K V P : Nat → Int32) {len : Nat} (hl : F 1 1 = nI len) (hlen : len ≤ 400) {c m : Nat} (hc : c < 401) (hm : m < len) {XX : State → Method → Prop} (bx : Int32) (x4 : Option Value) (hx : bx = nI (wend (at_ F len) len (m + 1))) : Gj g l (rmd 6 0 0) XX (QM g (fun r S2 => r = some (.int (nI (tkW (at_ F len) len m).2.2)) ∧ S2 = St (tk F (upd K c (tkW (at_ F len) len m).1) (upd V c (tkW (at_ F len) len m).2.1) (upd P c (nI m)) (nI (c + 1)) nw) J) 0 0) RX6 cX6_putWord 5 (some .int) 29 [some (.ref 6), some (.ref 1), some (.int (nI m)), some (.int bx), x4] [] (St (tk F K V P (nI c) nw) J) 0 0 := by
  obtain ⟨w1, w2⟩ := wend_le (tb := at_ F len) (len := len) (at_sm F len) (n := len) (m := m + 1) (by omega)
  subst hx
  refine g_iload_n 30 dX6_putWord_29 rfl rfl ?_
  refine g_iload_n 31 dX6_putWord_30 rfl rfl ?_
  refine g_iconst (1) 32 dX6_putWord_31 rfl (by decide) ?_
  refine g_iadd 33 dX6_putWord_32 rfl ?_
  rw [← nI_succ]
  refine g_icmp_ne 69 36 dX6_putWord_33 rfl (by decide) (fun h33 => ?_) (fun h33 => ?_)
  · refine g_aload_n 70 dX6_putWord_69 rfl rfl ?_
    refine g_iload_n 71 dX6_putWord_70 rfl rfl ?_
    refine g_iload_n 72 dX6_putWord_71 rfl rfl ?_
    refine g_s3 75 dX6_putWord_72 rfl kl_X6_58 ms_X6_stepKind ⟨Nat.le_of_ble_eq_true rfl, Nat.le_of_ble_eq_true rfl⟩ (Nat.le_of_ble_eq_true rfl) (c_stepKind g l (tk F K V P (nI c) nw) J hl hlen (a := m) (b := wend (at_ F len) len (m + 1)) (by omega) (by omega)) ?_
    rintro _ _ ⟨rfl, rfl⟩
    refine g_istore 77 dX6_putWord_75 rfl (by decide) ?_
    refine g_aload_n 78 dX6_putWord_77 rfl rfl ?_
    refine g_iload 80 dX6_putWord_78 rfl rfl ?_
    refine g_if_ne 88 83 dX6_putWord_80 rfl (by decide) (fun h80 => ?_) (fun h80 => ?_)
    · refine g_bipush (7) 90 dX6_putWord_88 rfl (by decide) ?_
      refine g_iload 92 dX6_putWord_90 rfl rfl ?_
      refine g_iload_n 93 dX6_putWord_92 rfl rfl ?_
      refine g_v3 6 96 dX6_putWord_93 rfl kl_X6_54 mv_X6_put rfl ⟨Nat.le_of_ble_eq_true rfl, Nat.le_of_ble_eq_true rfl⟩ (Nat.le_of_ble_eq_true rfl) (by first | decide | assumption | exact ⟨Nat.le_of_ble_eq_true rfl, rfl⟩) (c_put6 g l _ _ _ nw F J K V P hc) ?_
      rintro _ _ ⟨rfl, rfl⟩
      refine g_iload_n 97 dX6_putWord_96 rfl rfl ?_
      refine g_iret dX6_putWord_97 ?_
      have e : ¬ wend (at_ F len) len (m + 1) = m + 1 := fun q => h33 (by rw [q])
      exact ⟨by rw [tkW, if_neg e], by rw [tkW, if_neg e]; exact congrArg (fun t => St (tk F (upd K c t) _ _ _ _) J) (if_neg h80).symm⟩
    · refine g_bipush (8) 85 dX6_putWord_83 rfl (by decide) ?_
      refine g_goto 90 dX6_putWord_85 (by decide) ?_
      refine g_iload 92 dX6_putWord_90 rfl rfl ?_
      refine g_iload_n 93 dX6_putWord_92 rfl rfl ?_
      refine g_v3 6 96 dX6_putWord_93 rfl kl_X6_54 mv_X6_put rfl ⟨Nat.le_of_ble_eq_true rfl, Nat.le_of_ble_eq_true rfl⟩ (Nat.le_of_ble_eq_true rfl) (by first | decide | assumption | exact ⟨Nat.le_of_ble_eq_true rfl, rfl⟩) (c_put6 g l _ _ _ nw F J K V P hc) ?_
      rintro _ _ ⟨rfl, rfl⟩
      refine g_iload_n 97 dX6_putWord_96 rfl rfl ?_
      refine g_iret dX6_putWord_97 ?_
      have e : ¬ wend (at_ F len) len (m + 1) = m + 1 := fun q => h33 (by rw [q])
      exact ⟨by rw [tkW, if_neg e], by rw [tkW, if_neg e]; exact congrArg (fun t => St (tk F (upd K c t) _ _ _ _) J) (if_pos h80).symm⟩
  · refine g_aload_n 37 dX6_putWord_36 rfl rfl ?_
    refine g_iload_n 38 dX6_putWord_37 rfl rfl ?_
    refine g_v1 5 41 dX6_putWord_38 rfl kl_X6_33 mv_X5_at rfl ⟨Nat.le_of_ble_eq_true rfl, Nat.le_of_ble_eq_true rfl⟩ (Nat.le_of_ble_eq_true rfl) (by first | decide | assumption | exact ⟨Nat.le_of_ble_eq_true rfl, rfl⟩) (c_atT g l F J K V P _ _ hl hlen m (by omega)) ?_
    rintro _ _ ⟨rfl, rfl⟩
    refine g_bipush (97) 43 dX6_putWord_41 rfl (by decide) ?_
    refine g_isub 44 dX6_putWord_43 rfl ?_
    refine g_istore 46 dX6_putWord_44 rfl (by decide) ?_
    refine g_aload_n 47 dX6_putWord_46 rfl rfl ?_
    refine g_iload 49 dX6_putWord_47 rfl rfl ?_
    refine g_bipush (6) 51 dX6_putWord_49 rfl (by decide) ?_
    refine g_icmp_ge 58 54 dX6_putWord_51 rfl (by decide) (fun h51 => ?_) (fun h51 => ?_)
    · refine g_bipush (8) 60 dX6_putWord_58 rfl (by decide) ?_
      refine g_iload 62 dX6_putWord_60 rfl rfl ?_
      refine g_iload_n 63 dX6_putWord_62 rfl rfl ?_
      refine g_v3 6 66 dX6_putWord_63 rfl kl_X6_54 mv_X6_put rfl ⟨Nat.le_of_ble_eq_true rfl, Nat.le_of_ble_eq_true rfl⟩ (Nat.le_of_ble_eq_true rfl) (by first | decide | assumption | exact ⟨Nat.le_of_ble_eq_true rfl, rfl⟩) (c_put6 g l _ _ _ nw F J K V P hc) ?_
      rintro _ _ ⟨rfl, rfl⟩
      refine g_goto 96 dX6_putWord_66 (by decide) ?_
      refine g_iload_n 97 dX6_putWord_96 rfl rfl ?_
      refine g_iret dX6_putWord_97 ?_
      have e : wend (at_ F len) len (m + 1) = m + 1 := by
        have := (nI_eq (a := wend (at_ F len) len (m + 1)) (b := m + 1) (by omega) (by omega)).mp h33
        exact this
      exact ⟨by rw [tkW, if_pos e, e], by rw [tkW, if_pos e]; simp only [if_pos h51]⟩
    · refine g_iconst (1) 55 dX6_putWord_54 rfl (by decide) ?_
      refine g_goto 60 dX6_putWord_55 (by decide) ?_
      refine g_iload 62 dX6_putWord_60 rfl rfl ?_
      refine g_iload_n 63 dX6_putWord_62 rfl rfl ?_
      refine g_v3 6 66 dX6_putWord_63 rfl kl_X6_54 mv_X6_put rfl ⟨Nat.le_of_ble_eq_true rfl, Nat.le_of_ble_eq_true rfl⟩ (Nat.le_of_ble_eq_true rfl) (by first | decide | assumption | exact ⟨Nat.le_of_ble_eq_true rfl, rfl⟩) (c_put6 g l _ _ _ nw F J K V P hc) ?_
      rintro _ _ ⟨rfl, rfl⟩
      refine g_goto 96 dX6_putWord_66 (by decide) ?_
      refine g_iload_n 97 dX6_putWord_96 rfl rfl ?_
      refine g_iret dX6_putWord_97 ?_
      have e : wend (at_ F len) len (m + 1) = m + 1 := by
        have := (nI_eq (a := wend (at_ F len) len (m + 1)) (b := m + 1) (by omega) (by omega)).mp h33
        exact this
      exact ⟨by rw [tkW, if_pos e, e], by rw [tkW, if_pos e]; simp only [if_neg h51]⟩

set_option maxRecDepth 100000 in
set_option maxHeartbeats 4000000 in
theorem lp_putWord (g : Gl) (l : Launch) (nw : Int32) (F : Nat → Nat → Int32) (J : Nat → Int64) (K V P : Nat → Int32) {len : Nat} (hl : F 1 1 = nI len) (hlen : len ≤ 400) {c m : Nat} (hc : c < 401) (hm : m < len) {XX : State → Method → Prop} (n : Nat) : ∀ (b : Nat) (bx : Int32) (x4 : Option Value), len ≤ b + n → m + 1 ≤ b → b ≤ len → bx = nI b → wend (at_ F len) len (m + 1) = wend (at_ F len) n b → Gj g l (rmd 6 0 0) XX (QM g (fun r S2 => r = some (.int (nI (tkW (at_ F len) len m).2.2)) ∧ S2 = St (tk F (upd K c (tkW (at_ F len) len m).1) (upd V c (tkW (at_ F len) len m).2.1) (upd P c (nI m)) (nI (c + 1)) nw) J) 0 0) RX6 cX6_putWord 5 (some .int) 4 [some (.ref 6), some (.ref 1), some (.int (nI m)), some (.int bx), x4] [] (St (tk F K V P (nI c) nw) J) 0 0 := by
  induction n with
  | zero =>
    intro b bx x4 hn hb hbl hx hw
    obtain rfl : b = len := by omega
    subst hx
    refine g_iload_n 5 dX6_putWord_4 rfl rfl ?_
    refine g_aload_n 6 dX6_putWord_5 rfl rfl ?_
    refine gf_5_1 9 dX6_putWord_6 rfl kf_X6_28 (by first | decide | assumption | exact ⟨Nat.le_of_ble_eq_true rfl, rfl⟩) ?_
    refine g_icmp_ge 29 12 dX6_putWord_9 rfl (by decide) (fun h9 => ?_) (fun h9 => ?_)
    · exact ex_putWord g l nw F J K V P hl hlen hc hm _ _ (by rw [hw]; rfl)
    · exact absurd (show F 1 1 ≤ nI b by rw [hl]; exact nI_le (Nat.le_refl _) (by omega)) h9
  | succ n ih =>
    intro b bx x4 hn hb hbl hx hw
    subst hx
    refine g_iload_n 5 dX6_putWord_4 rfl rfl ?_
    refine g_aload_n 6 dX6_putWord_5 rfl rfl ?_
    refine gf_5_1 9 dX6_putWord_6 rfl kf_X6_28 (by first | decide | assumption | exact ⟨Nat.le_of_ble_eq_true rfl, rfl⟩) ?_
    refine g_icmp_ge 29 12 dX6_putWord_9 rfl (by decide) (fun h9 => ?_) (fun h9 => ?_)
    · exact ex_putWord g l nw F J K V P hl hlen hc hm _ _ (by rw [hw, wend_no (at_sm F len b (by
        have h9 : F 1 1 ≤ nI b := h9
        rcases Nat.lt_or_ge b len with q | q
        · rw [hl] at h9; exact absurd h9 (nI_ge q (by omega))
        · exact q))])
    · have hbl2 : b < len := by
        rcases Nat.lt_or_ge b len with q | q
        · exact q
        · exact absurd (show F 1 1 ≤ nI b by rw [hl]; exact nI_le q (by omega)) h9
      refine g_aload_n 13 dX6_putWord_12 rfl rfl ?_
      refine g_iload_n 14 dX6_putWord_13 rfl rfl ?_
      refine g_v1 5 17 dX6_putWord_14 rfl kl_X6_33 mv_X5_at rfl ⟨Nat.le_of_ble_eq_true rfl, Nat.le_of_ble_eq_true rfl⟩ (Nat.le_of_ble_eq_true rfl) (by first | decide | assumption | exact ⟨Nat.le_of_ble_eq_true rfl, rfl⟩) (c_atT g l F J K V P _ _ hl hlen b (by omega)) ?_
      rintro _ _ ⟨rfl, rfl⟩
      refine g_s1 20 dX6_putWord_17 rfl kl_X6_37 ms_X6_isSmallLetter ⟨Nat.le_of_ble_eq_true rfl, Nat.le_of_ble_eq_true rfl⟩ (Nat.le_of_ble_eq_true rfl) (c_isSmall g l _ _) ?_
      rintro _ _ ⟨rfl, rfl⟩
      refine g_if_eq 29 23 dX6_putWord_20 rfl (by decide) (fun h20 => ?_) (fun h20 => ?_)
      · exact ex_putWord g l nw F J K V P hl hlen hc hm _ _ (by rw [hw, wend_no (b10.mp h20)])
      · refine g_iinc (1) 26 dX6_putWord_23 rfl (by decide) (by decide) rfl ?_
        refine g_goto 4 dX6_putWord_26 (by decide) ?_
        exact ih (b + 1) _ _ (by omega) (by omega) (by omega) (nI_succ b).symm (by
          rw [hw, wend, if_pos (by
            rcases Classical.em (isSm (at_ F len b)) with q | q
            · exact q
            · exact absurd (b10.mpr q) h20)])

set_option maxRecDepth 100000 in
set_option maxHeartbeats 4000000 in
theorem c_putWord (g : Gl) (l : Launch) (nw : Int32) (F : Nat → Nat → Int32) (J : Nat → Int64) (K V P : Nat → Int32) {len : Nat} (hl : F 1 1 = nI len) (hlen : len ≤ 400) {c m : Nat} (hc : c < 401) (hm : m < len) : Ct g l yX6_putWord cX6_putWord 5 (some .int) 6 0 0 [.ref 6, .ref 1, .int (nI m)] (St (tk F K V P (nI c) nw) J) (fun r S2 => r = some (.int (nI (tkW (at_ F len) len m).2.2)) ∧ S2 = St (tk F (upd K c (tkW (at_ F len) len m).1) (upd V c (tkW (at_ F len) len m).2.1) (upd P c (nI m)) (nI (c + 1)) nw) J) := by
  refine Ct.of rfl (by decide) rfl (Nat.le_of_ble_eq_true rfl) ?_
  refine g_iload_n 1 dX6_putWord_0 rfl rfl ?_
  refine g_iconst (1) 2 dX6_putWord_1 rfl (by decide) ?_
  refine g_iadd 3 dX6_putWord_2 rfl ?_
  refine g_istore_n 4 dX6_putWord_3 rfl (by decide) ?_
  exact lp_putWord g l nw F J K V P hl hlen hc hm len (m + 1) _ _ (by omega) (by omega) (by omega) (nI_succ m).symm rfl

set_option maxRecDepth 100000 in
set_option maxHeartbeats 4000000 in
theorem ex_putNumber (g : Gl) (l : Launch) (nw : Int32) (F : Nat → Nat → Int32) (J : Nat → Int64) (K V P : Nat → Int32) {len : Nat} (hl : F 1 1 = nI len) (hlen : len ≤ 400) {c m : Nat} (hc : c < 401) (hm : m < len) {XX : State → Method → Prop} (nx bx : Int32) (x5 : Option Value) (hx : bx = nI (nvl (at_ F len) len m 0).2) (hn : nx = (nvl (at_ F len) len m 0).1) : Gj g l (rmd 1 0 0) XX (QM g (fun r S2 => r = some (.int (nI (tkN (at_ F len) len m).2.2)) ∧ S2 = St (tk F (upd K c (tkN (at_ F len) len m).1) (upd V c (tkN (at_ F len) len m).2.1) (upd P c (nI m)) (nI (c + 1)) nw) J) 0 0) RX6 cX6_putNumber 6 (some .int) 53 [some (.ref 6), some (.ref 1), some (.int (nI m)), some (.int nx), some (.int bx), x5] [] (St (tk F K V P (nI c) nw) J) 0 0 := by
  obtain ⟨w1, w2⟩ := nvl_le (tb := at_ F len) (len := len) (at_dg F len) (n := len) (m := m) (x := 0) (by omega)
  subst hx; subst hn
  refine g_aload_n 54 dX6_putNumber_53 rfl rfl ?_
  refine g_iload_n 55 dX6_putNumber_54 rfl rfl ?_
  refine g_v1 5 58 dX6_putNumber_55 rfl kl_X6_33 mv_X5_at rfl ⟨Nat.le_of_ble_eq_true rfl, Nat.le_of_ble_eq_true rfl⟩ (Nat.le_of_ble_eq_true rfl) (by first | decide | assumption | exact ⟨Nat.le_of_ble_eq_true rfl, rfl⟩) (c_atT g l F J K V P _ _ hl hlen m (by omega)) ?_
  rintro _ _ ⟨rfl, rfl⟩
  refine g_bipush (48) 60 dX6_putNumber_58 rfl (by decide) ?_
  refine g_icmp_ne 75 63 dX6_putNumber_60 rfl (by decide) (fun h60 => ?_) (fun h60 => ?_)
  · refine g_iconst (0) 76 dX6_putNumber_75 rfl (by decide) ?_
    refine g_istore 78 dX6_putNumber_76 rfl (by decide) ?_
    refine g_aload_n 79 dX6_putNumber_78 rfl rfl ?_
    refine g_iload 81 dX6_putNumber_79 rfl rfl ?_
    refine g_if_ne 91 84 dX6_putNumber_81 rfl (by decide) (fun h81 => ?_) (fun h81 => ?_)
    · exact absurd h81 (by decide)
    · refine g_iload_n 85 dX6_putNumber_84 rfl rfl ?_
      refine g_sipush (999) 88 dX6_putNumber_85 rfl (by decide) ?_
      refine g_icmp_le 96 91 dX6_putNumber_88 rfl (by decide) (fun h88 => ?_) (fun h88 => ?_)
      · refine g_iconst (2) 97 dX6_putNumber_96 rfl (by decide) ?_
        refine g_iload_n 98 dX6_putNumber_97 rfl rfl ?_
        refine g_iload_n 99 dX6_putNumber_98 rfl rfl ?_
        refine g_v3 6 102 dX6_putNumber_99 rfl kl_X6_54 mv_X6_put rfl ⟨Nat.le_of_ble_eq_true rfl, Nat.le_of_ble_eq_true rfl⟩ (Nat.le_of_ble_eq_true rfl) (by first | decide | assumption | exact ⟨Nat.le_of_ble_eq_true rfl, rfl⟩) (c_put6 g l _ _ _ nw F J K V P hc) ?_
        rintro _ _ ⟨rfl, rfl⟩
        refine g_iload 104 dX6_putNumber_102 rfl rfl ?_
        refine g_iret dX6_putNumber_104 ?_
        have h88b : ¬ 999 < (nvl (at_ F len) len m 0).1 := Int32.not_lt.mpr h88
        exact ⟨rfl, by rw [tkN, if_neg (fun z => z.elim (fun z => h60 z.1) h88b)]⟩
      · refine g_bipush (8) 93 dX6_putNumber_91 rfl (by decide) ?_
        refine g_goto 97 dX6_putNumber_93 (by decide) ?_
        refine g_iload_n 98 dX6_putNumber_97 rfl rfl ?_
        refine g_iload_n 99 dX6_putNumber_98 rfl rfl ?_
        refine g_v3 6 102 dX6_putNumber_99 rfl kl_X6_54 mv_X6_put rfl ⟨Nat.le_of_ble_eq_true rfl, Nat.le_of_ble_eq_true rfl⟩ (Nat.le_of_ble_eq_true rfl) (by first | decide | assumption | exact ⟨Nat.le_of_ble_eq_true rfl, rfl⟩) (c_put6 g l _ _ _ nw F J K V P hc) ?_
        rintro _ _ ⟨rfl, rfl⟩
        refine g_iload 104 dX6_putNumber_102 rfl rfl ?_
        refine g_iret dX6_putNumber_104 ?_
        have h88b : 999 < (nvl (at_ F len) len m 0).1 := Int32.not_le.mp h88
        exact ⟨rfl, by rw [tkN, if_pos (Or.inr h88b)]⟩
  · refine g_iload 65 dX6_putNumber_63 rfl rfl ?_
    refine g_iload_n 66 dX6_putNumber_65 rfl rfl ?_
    refine g_iconst (1) 67 dX6_putNumber_66 rfl (by decide) ?_
    refine g_iadd 68 dX6_putNumber_67 rfl ?_
    rw [← nI_succ]
    refine g_icmp_le 75 71 dX6_putNumber_68 rfl (by decide) (fun h68 => ?_) (fun h68 => ?_)
    · refine g_iconst (0) 76 dX6_putNumber_75 rfl (by decide) ?_
      refine g_istore 78 dX6_putNumber_76 rfl (by decide) ?_
      refine g_aload_n 79 dX6_putNumber_78 rfl rfl ?_
      refine g_iload 81 dX6_putNumber_79 rfl rfl ?_
      refine g_if_ne 91 84 dX6_putNumber_81 rfl (by decide) (fun h81 => ?_) (fun h81 => ?_)
      · exact absurd h81 (by decide)
      · refine g_iload_n 85 dX6_putNumber_84 rfl rfl ?_
        refine g_sipush (999) 88 dX6_putNumber_85 rfl (by decide) ?_
        refine g_icmp_le 96 91 dX6_putNumber_88 rfl (by decide) (fun h88 => ?_) (fun h88 => ?_)
        · refine g_iconst (2) 97 dX6_putNumber_96 rfl (by decide) ?_
          refine g_iload_n 98 dX6_putNumber_97 rfl rfl ?_
          refine g_iload_n 99 dX6_putNumber_98 rfl rfl ?_
          refine g_v3 6 102 dX6_putNumber_99 rfl kl_X6_54 mv_X6_put rfl ⟨Nat.le_of_ble_eq_true rfl, Nat.le_of_ble_eq_true rfl⟩ (Nat.le_of_ble_eq_true rfl) (by first | decide | assumption | exact ⟨Nat.le_of_ble_eq_true rfl, rfl⟩) (c_put6 g l _ _ _ nw F J K V P hc) ?_
          rintro _ _ ⟨rfl, rfl⟩
          refine g_iload 104 dX6_putNumber_102 rfl rfl ?_
          refine g_iret dX6_putNumber_104 ?_
          have hz : ¬ m + 1 < (nvl (at_ F len) len m 0).2 := fun q => nI_ge q (by omega) h68
          have h88b : ¬ 999 < (nvl (at_ F len) len m 0).1 := Int32.not_lt.mpr h88
          exact ⟨rfl, by rw [tkN, if_neg (fun z => z.elim (fun z => hz z.2) h88b)]⟩
        · refine g_bipush (8) 93 dX6_putNumber_91 rfl (by decide) ?_
          refine g_goto 97 dX6_putNumber_93 (by decide) ?_
          refine g_iload_n 98 dX6_putNumber_97 rfl rfl ?_
          refine g_iload_n 99 dX6_putNumber_98 rfl rfl ?_
          refine g_v3 6 102 dX6_putNumber_99 rfl kl_X6_54 mv_X6_put rfl ⟨Nat.le_of_ble_eq_true rfl, Nat.le_of_ble_eq_true rfl⟩ (Nat.le_of_ble_eq_true rfl) (by first | decide | assumption | exact ⟨Nat.le_of_ble_eq_true rfl, rfl⟩) (c_put6 g l _ _ _ nw F J K V P hc) ?_
          rintro _ _ ⟨rfl, rfl⟩
          refine g_iload 104 dX6_putNumber_102 rfl rfl ?_
          refine g_iret dX6_putNumber_104 ?_
          have hz : ¬ m + 1 < (nvl (at_ F len) len m 0).2 := fun q => nI_ge q (by omega) h68
          have h88b : 999 < (nvl (at_ F len) len m 0).1 := Int32.not_le.mp h88
          exact ⟨rfl, by rw [tkN, if_pos (Or.inr h88b)]⟩
    · refine g_iconst (1) 72 dX6_putNumber_71 rfl (by decide) ?_
      refine g_goto 76 dX6_putNumber_72 (by decide) ?_
      refine g_istore 78 dX6_putNumber_76 rfl (by decide) ?_
      refine g_aload_n 79 dX6_putNumber_78 rfl rfl ?_
      refine g_iload 81 dX6_putNumber_79 rfl rfl ?_
      refine g_if_ne 91 84 dX6_putNumber_81 rfl (by decide) (fun h81 => ?_) (fun h81 => ?_)
      · refine g_bipush (8) 93 dX6_putNumber_91 rfl (by decide) ?_
        refine g_goto 97 dX6_putNumber_93 (by decide) ?_
        refine g_iload_n 98 dX6_putNumber_97 rfl rfl ?_
        refine g_iload_n 99 dX6_putNumber_98 rfl rfl ?_
        refine g_v3 6 102 dX6_putNumber_99 rfl kl_X6_54 mv_X6_put rfl ⟨Nat.le_of_ble_eq_true rfl, Nat.le_of_ble_eq_true rfl⟩ (Nat.le_of_ble_eq_true rfl) (by first | decide | assumption | exact ⟨Nat.le_of_ble_eq_true rfl, rfl⟩) (c_put6 g l _ _ _ nw F J K V P hc) ?_
        rintro _ _ ⟨rfl, rfl⟩
        refine g_iload 104 dX6_putNumber_102 rfl rfl ?_
        refine g_iret dX6_putNumber_104 ?_
        have hz : m + 1 < (nvl (at_ F len) len m 0).2 := by
          rcases Nat.lt_or_ge (m + 1) (nvl (at_ F len) len m 0).2 with q | q
          · exact q
          · exact absurd (nI_le q (by omega)) h68
        exact ⟨rfl, by rw [tkN, if_pos (Or.inl ⟨h60, hz⟩)]⟩
      · exact absurd h81 (by decide)

set_option maxRecDepth 100000 in
set_option maxHeartbeats 4000000 in
theorem lp_putNumber (g : Gl) (l : Launch) (nw : Int32) (F : Nat → Nat → Int32) (J : Nat → Int64) (K V P : Nat → Int32) {len : Nat} (hl : F 1 1 = nI len) (hlen : len ≤ 400) {c m : Nat} (hc : c < 401) (hm : m < len) {XX : State → Method → Prop} (n : Nat) : ∀ (b : Nat) (nx bx : Int32) (x5 : Option Value), len ≤ b + n → m ≤ b → b ≤ len → bx = nI b → nvl (at_ F len) len m 0 = nvl (at_ F len) n b nx → Gj g l (rmd 1 0 0) XX (QM g (fun r S2 => r = some (.int (nI (tkN (at_ F len) len m).2.2)) ∧ S2 = St (tk F (upd K c (tkN (at_ F len) len m).1) (upd V c (tkN (at_ F len) len m).2.1) (upd P c (nI m)) (nI (c + 1)) nw) J) 0 0) RX6 cX6_putNumber 6 (some .int) 5 [some (.ref 6), some (.ref 1), some (.int (nI m)), some (.int nx), some (.int bx), x5] [] (St (tk F K V P (nI c) nw) J) 0 0 := by
  induction n with
  | zero =>
    intro b nx bx x5 hn hb hbl hx hw
    obtain rfl : b = len := by omega
    subst hx
    refine g_iload 7 dX6_putNumber_5 rfl rfl ?_
    refine g_aload_n 8 dX6_putNumber_7 rfl rfl ?_
    refine gf_5_1 11 dX6_putNumber_8 rfl kf_X6_28 (by first | decide | assumption | exact ⟨Nat.le_of_ble_eq_true rfl, rfl⟩) ?_
    refine g_icmp_ge 53 14 dX6_putNumber_11 rfl (by decide) (fun h11 => ?_) (fun h11 => ?_)
    · exact ex_putNumber g l nw F J K V P hl hlen hc hm _ _ _ (by rw [hw]; rfl) (by rw [hw]; rfl)
    · exact absurd (show F 1 1 ≤ nI b by rw [hl]; exact nI_le (Nat.le_refl _) (by omega)) h11
  | succ n ih =>
    intro b nx bx x5 hn hb hbl hx hw
    subst hx
    refine g_iload 7 dX6_putNumber_5 rfl rfl ?_
    refine g_aload_n 8 dX6_putNumber_7 rfl rfl ?_
    refine gf_5_1 11 dX6_putNumber_8 rfl kf_X6_28 (by first | decide | assumption | exact ⟨Nat.le_of_ble_eq_true rfl, rfl⟩) ?_
    refine g_icmp_ge 53 14 dX6_putNumber_11 rfl (by decide) (fun h11 => ?_) (fun h11 => ?_)
    · have hnd : ¬ isDg (at_ F len b) := at_dg F len b (by
        have h11 : F 1 1 ≤ nI b := h11
        rcases Nat.lt_or_ge b len with q | q
        · rw [hl] at h11; exact absurd h11 (nI_ge q (by omega))
        · exact q)
      exact ex_putNumber g l nw F J K V P hl hlen hc hm _ _ _ (by rw [hw, nvl_no hnd]) (by rw [hw, nvl_no hnd])
    · have hbl2 : b < len := by
        rcases Nat.lt_or_ge b len with q | q
        · exact q
        · exact absurd (show F 1 1 ≤ nI b by rw [hl]; exact nI_le q (by omega)) h11
      refine g_aload_n 15 dX6_putNumber_14 rfl rfl ?_
      refine g_iload 17 dX6_putNumber_15 rfl rfl ?_
      refine g_v1 5 20 dX6_putNumber_17 rfl kl_X6_33 mv_X5_at rfl ⟨Nat.le_of_ble_eq_true rfl, Nat.le_of_ble_eq_true rfl⟩ (Nat.le_of_ble_eq_true rfl) (by first | decide | assumption | exact ⟨Nat.le_of_ble_eq_true rfl, rfl⟩) (c_atT g l F J K V P _ _ hl hlen b (by omega)) ?_
      rintro _ _ ⟨rfl, rfl⟩
      refine g_s1 23 dX6_putNumber_20 rfl kl_X6_45 ms_X6_isDigit ⟨Nat.le_of_ble_eq_true rfl, Nat.le_of_ble_eq_true rfl⟩ (Nat.le_of_ble_eq_true rfl) (c_isDigit g l _ _) ?_
      rintro _ _ ⟨rfl, rfl⟩
      refine g_if_eq 53 26 dX6_putNumber_23 rfl (by decide) (fun h23 => ?_) (fun h23 => ?_)
      · have hnd : ¬ isDg (at_ F len b) := b10.mp h23
        exact ex_putNumber g l nw F J K V P hl hlen hc hm _ _ _ (by rw [hw, nvl_no hnd]) (by rw [hw, nvl_no hnd])
      · refine g_iload_n 27 dX6_putNumber_26 rfl rfl ?_
        refine g_bipush (10) 29 dX6_putNumber_27 rfl (by decide) ?_
        refine g_imul 30 dX6_putNumber_29 rfl ?_
        refine g_aload_n 31 dX6_putNumber_30 rfl rfl ?_
        refine g_iload 33 dX6_putNumber_31 rfl rfl ?_
        refine g_v1 5 36 dX6_putNumber_33 rfl kl_X6_33 mv_X5_at rfl ⟨Nat.le_of_ble_eq_true rfl, Nat.le_of_ble_eq_true rfl⟩ (Nat.le_of_ble_eq_true rfl) (by first | decide | assumption | exact ⟨Nat.le_of_ble_eq_true rfl, rfl⟩) (c_atT g l F J K V P _ _ hl hlen b (by omega)) ?_
        rintro _ _ ⟨rfl, rfl⟩
        refine g_iadd 37 dX6_putNumber_36 rfl ?_
        refine g_bipush (48) 39 dX6_putNumber_37 rfl (by decide) ?_
        refine g_isub 40 dX6_putNumber_39 rfl ?_
        refine g_sipush (1000) 43 dX6_putNumber_40 rfl (by decide) ?_
        refine g_mmin 46 dX6_putNumber_43 rfl kl_X6_84 ⟨Nat.le_of_ble_eq_true rfl, Nat.le_of_ble_eq_true rfl, Nat.le_of_ble_eq_true rfl, Nat.le_of_ble_eq_true rfl⟩ (Nat.le_of_ble_eq_true rfl) ?_
        refine g_istore_n 47 dX6_putNumber_46 rfl (by decide) ?_
        refine g_iinc (1) 50 dX6_putNumber_47 rfl (by decide) (by decide) rfl ?_
        refine g_goto 5 dX6_putNumber_50 (by decide) ?_
        exact ih (b + 1) _ _ _ (by omega) (by omega) (by omega) (nI_succ b).symm (by
          rw [hw, nvl, if_pos (by
            rcases Classical.em (isDg (at_ F len b)) with q | q
            · exact q
            · exact absurd (b10.mpr q) h23)])

set_option maxRecDepth 100000 in
set_option maxHeartbeats 4000000 in
theorem c_putNumber (g : Gl) (l : Launch) (nw : Int32) (F : Nat → Nat → Int32) (J : Nat → Int64) (K V P : Nat → Int32) {len : Nat} (hl : F 1 1 = nI len) (hlen : len ≤ 400) {c m : Nat} (hc : c < 401) (hm : m < len) : Ct g l yX6_putNumber cX6_putNumber 6 (some .int) 1 0 0 [.ref 6, .ref 1, .int (nI m)] (St (tk F K V P (nI c) nw) J) (fun r S2 => r = some (.int (nI (tkN (at_ F len) len m).2.2)) ∧ S2 = St (tk F (upd K c (tkN (at_ F len) len m).1) (upd V c (tkN (at_ F len) len m).2.1) (upd P c (nI m)) (nI (c + 1)) nw) J) := by
  refine Ct.of rfl (by decide) rfl (Nat.le_of_ble_eq_true rfl) ?_
  refine g_iconst (0) 1 dX6_putNumber_0 rfl (by decide) ?_
  refine g_istore_n 2 dX6_putNumber_1 rfl (by decide) ?_
  refine g_iload_n 3 dX6_putNumber_2 rfl rfl ?_
  refine g_istore 5 dX6_putNumber_3 rfl (by decide) ?_
  exact lp_putNumber g l nw F J K V P hl hlen hc hm len m _ _ _ (by omega) (by omega) (by omega) rfl rfl

set_option maxRecDepth 100000 in
set_option maxHeartbeats 4000000 in
theorem c_putSign (g : Gl) (l : Launch) (nw : Int32) (F : Nat → Nat → Int32) (J : Nat → Int64) (K V P : Nat → Int32) {len : Nat} (hl : F 1 1 = nI len) (hlen : len ≤ 400) {c m : Nat} (hc : c < 401) (hm : m < len) : Ct g l yX6_putSign cX6_putSign 5 (some .int) 1 0 0 [.ref 6, .ref 1, .int (nI m)] (St (tk F K V P (nI c) nw) J) (fun r S2 => r = some (.int (nI (tkS (at_ F len) m).2.2)) ∧ S2 = St (tk F (upd K c (tkS (at_ F len) m).1) (upd V c (tkS (at_ F len) m).2.1) (upd P c (nI m)) (nI (c + 1)) nw) J) := by
  refine Ct.of rfl (by decide) rfl (Nat.le_of_ble_eq_true rfl) ?_
  refine g_aload_n 1 dX6_putSign_0 rfl rfl ?_
  refine g_iload_n 2 dX6_putSign_1 rfl rfl ?_
  refine g_v1 5 5 dX6_putSign_2 rfl kl_X6_33 mv_X5_at rfl ⟨Nat.le_of_ble_eq_true rfl, Nat.le_of_ble_eq_true rfl⟩ (Nat.le_of_ble_eq_true rfl) (by first | decide | assumption | exact ⟨Nat.le_of_ble_eq_true rfl, rfl⟩) (c_atT g l F J K V P _ _ hl hlen m (by omega)) ?_
  rintro _ _ ⟨rfl, rfl⟩
  refine g_istore_n 6 dX6_putSign_5 rfl (by decide) ?_
  refine g_iload_n 7 dX6_putSign_6 rfl rfl ?_
  refine g_bipush (62) 9 dX6_putSign_7 rfl (by decide) ?_
  refine g_icmp_ne 28 12 dX6_putSign_9 rfl (by decide) (fun h9 => ?_) (fun h9 => ?_)
  · refine g_iconst (0) 29 dX6_putSign_28 rfl (by decide) ?_
    refine g_istore 31 dX6_putSign_29 rfl (by decide) ?_
    refine g_aload_n 32 dX6_putSign_31 rfl rfl ?_
    refine g_iload 34 dX6_putSign_32 rfl rfl ?_
    refine g_if_eq 41 37 dX6_putSign_34 rfl (by decide) (fun h34 => ?_) (fun h34 => ?_)
    · refine g_iload_n 42 dX6_putSign_41 rfl rfl ?_
      refine g_s1 45 dX6_putSign_42 rfl kl_X6_90 ms_X6_signKind ⟨Nat.le_of_ble_eq_true rfl, Nat.le_of_ble_eq_true rfl⟩ (Nat.le_of_ble_eq_true rfl) (c_signKind g l _ _) ?_
      rintro _ _ ⟨rfl, rfl⟩
      refine g_iconst (0) 46 dX6_putSign_45 rfl (by decide) ?_
      refine g_iload_n 47 dX6_putSign_46 rfl rfl ?_
      refine g_v3 6 50 dX6_putSign_47 rfl kl_X6_54 mv_X6_put rfl ⟨Nat.le_of_ble_eq_true rfl, Nat.le_of_ble_eq_true rfl⟩ (Nat.le_of_ble_eq_true rfl) (by first | decide | assumption | exact ⟨Nat.le_of_ble_eq_true rfl, rfl⟩) (c_put6 g l _ _ _ nw F J K V P hc) ?_
      rintro _ _ ⟨rfl, rfl⟩
      refine g_iload 52 dX6_putSign_50 rfl rfl ?_
      refine g_if_eq 61 55 dX6_putSign_52 rfl (by decide) (fun h52 => ?_) (fun h52 => ?_)
      · refine g_iload_n 62 dX6_putSign_61 rfl rfl ?_
        refine g_iconst (1) 63 dX6_putSign_62 rfl (by decide) ?_
        refine g_iadd 64 dX6_putSign_63 rfl ?_
        refine g_iret dX6_putSign_64 ?_
        exact ⟨by rw [tkS, if_neg (fun z => h9 z.1)]; first | exact congrArg (fun t => some (Value.int t)) (nI_2 m) | exact congrArg (fun t => some (Value.int t)) (nI_succ m).symm, by rw [tkS, if_neg (fun z => h9 z.1)]⟩
      · exact absurd h52 (by decide)
    · exact absurd h34 (by decide)
  · refine g_aload_n 13 dX6_putSign_12 rfl rfl ?_
    refine g_iload_n 14 dX6_putSign_13 rfl rfl ?_
    refine g_iconst (1) 15 dX6_putSign_14 rfl (by decide) ?_
    refine g_iadd 16 dX6_putSign_15 rfl ?_
    rw [← nI_succ]
    refine g_v1 5 19 dX6_putSign_16 rfl kl_X6_33 mv_X5_at rfl ⟨Nat.le_of_ble_eq_true rfl, Nat.le_of_ble_eq_true rfl⟩ (Nat.le_of_ble_eq_true rfl) (by first | decide | assumption | exact ⟨Nat.le_of_ble_eq_true rfl, rfl⟩) (c_atT g l F J K V P _ _ hl hlen (m + 1) (by omega)) ?_
    rintro _ _ ⟨rfl, rfl⟩
    refine g_bipush (61) 21 dX6_putSign_19 rfl (by decide) ?_
    refine g_icmp_ne 28 24 dX6_putSign_21 rfl (by decide) (fun h21 => ?_) (fun h21 => ?_)
    · refine g_iconst (0) 29 dX6_putSign_28 rfl (by decide) ?_
      refine g_istore 31 dX6_putSign_29 rfl (by decide) ?_
      refine g_aload_n 32 dX6_putSign_31 rfl rfl ?_
      refine g_iload 34 dX6_putSign_32 rfl rfl ?_
      refine g_if_eq 41 37 dX6_putSign_34 rfl (by decide) (fun h34 => ?_) (fun h34 => ?_)
      · refine g_iload_n 42 dX6_putSign_41 rfl rfl ?_
        refine g_s1 45 dX6_putSign_42 rfl kl_X6_90 ms_X6_signKind ⟨Nat.le_of_ble_eq_true rfl, Nat.le_of_ble_eq_true rfl⟩ (Nat.le_of_ble_eq_true rfl) (c_signKind g l _ _) ?_
        rintro _ _ ⟨rfl, rfl⟩
        refine g_iconst (0) 46 dX6_putSign_45 rfl (by decide) ?_
        refine g_iload_n 47 dX6_putSign_46 rfl rfl ?_
        refine g_v3 6 50 dX6_putSign_47 rfl kl_X6_54 mv_X6_put rfl ⟨Nat.le_of_ble_eq_true rfl, Nat.le_of_ble_eq_true rfl⟩ (Nat.le_of_ble_eq_true rfl) (by first | decide | assumption | exact ⟨Nat.le_of_ble_eq_true rfl, rfl⟩) (c_put6 g l _ _ _ nw F J K V P hc) ?_
        rintro _ _ ⟨rfl, rfl⟩
        refine g_iload 52 dX6_putSign_50 rfl rfl ?_
        refine g_if_eq 61 55 dX6_putSign_52 rfl (by decide) (fun h52 => ?_) (fun h52 => ?_)
        · refine g_iload_n 62 dX6_putSign_61 rfl rfl ?_
          refine g_iconst (1) 63 dX6_putSign_62 rfl (by decide) ?_
          refine g_iadd 64 dX6_putSign_63 rfl ?_
          refine g_iret dX6_putSign_64 ?_
          exact ⟨by rw [tkS, if_neg (fun z => h21 z.2)]; first | exact congrArg (fun t => some (Value.int t)) (nI_2 m) | exact congrArg (fun t => some (Value.int t)) (nI_succ m).symm, by rw [tkS, if_neg (fun z => h21 z.2)]⟩
        · exact absurd h52 (by decide)
      · exact absurd h34 (by decide)
    · refine g_iconst (1) 25 dX6_putSign_24 rfl (by decide) ?_
      refine g_goto 29 dX6_putSign_25 (by decide) ?_
      refine g_istore 31 dX6_putSign_29 rfl (by decide) ?_
      refine g_aload_n 32 dX6_putSign_31 rfl rfl ?_
      refine g_iload 34 dX6_putSign_32 rfl rfl ?_
      refine g_if_eq 41 37 dX6_putSign_34 rfl (by decide) (fun h34 => ?_) (fun h34 => ?_)
      · exact absurd h34 (by decide)
      · refine g_iconst (3) 38 dX6_putSign_37 rfl (by decide) ?_
        refine g_goto 45 dX6_putSign_38 (by decide) ?_
        refine g_iconst (0) 46 dX6_putSign_45 rfl (by decide) ?_
        refine g_iload_n 47 dX6_putSign_46 rfl rfl ?_
        refine g_v3 6 50 dX6_putSign_47 rfl kl_X6_54 mv_X6_put rfl ⟨Nat.le_of_ble_eq_true rfl, Nat.le_of_ble_eq_true rfl⟩ (Nat.le_of_ble_eq_true rfl) (by first | decide | assumption | exact ⟨Nat.le_of_ble_eq_true rfl, rfl⟩) (c_put6 g l _ _ _ nw F J K V P hc) ?_
        rintro _ _ ⟨rfl, rfl⟩
        refine g_iload 52 dX6_putSign_50 rfl rfl ?_
        refine g_if_eq 61 55 dX6_putSign_52 rfl (by decide) (fun h52 => ?_) (fun h52 => ?_)
        · exact absurd h52 (by decide)
        · refine g_iload_n 56 dX6_putSign_55 rfl rfl ?_
          refine g_iconst (2) 57 dX6_putSign_56 rfl (by decide) ?_
          refine g_iadd 58 dX6_putSign_57 rfl ?_
          refine g_goto 64 dX6_putSign_58 (by decide) ?_
          refine g_iret dX6_putSign_64 ?_
          exact ⟨by rw [tkS, if_pos ⟨h9, h21⟩]; first | exact congrArg (fun t => some (Value.int t)) (nI_2 m) | exact congrArg (fun t => some (Value.int t)) (nI_succ m).symm, by rw [tkS, if_pos ⟨h9, h21⟩]⟩

set_option maxRecDepth 100000 in
set_option maxHeartbeats 4000000 in
theorem c_kind (g : Gl) (l : Launch) (F : Nat → Nat → Int32) (J : Nat → Int64) {j : Nat} (hj : F 6 4 = nI j) (hj4 : j < 401) : Ct g l yX6_kind cX6_kind 1 (some .int) 0 0 0 [.ref 6] (St F J) (fun r S2 => r = some (.int (F 7 j)) ∧ S2 = St F J) := by
  refine Ct.of rfl (by decide) rfl (Nat.le_of_ble_eq_true rfl) ?_
  refine g_aload_n 1 dX6_kind_0 rfl rfl ?_
  refine gf_6_0 4 dX6_kind_1 rfl kf_X6_9 ?_
  refine g_aload_n 5 dX6_kind_4 rfl rfl ?_
  refine gf_6_4 8 dX6_kind_5 rfl kf_X6_21 (by first | decide | assumption | exact ⟨Nat.le_of_ble_eq_true rfl, rfl⟩) ?_
  refine ga_ild (j) 9 dX6_kind_8 rfl (by first | decide | assumption | exact ⟨Nat.le_of_ble_eq_true rfl, rfl⟩) hj hj4 ?_
  refine g_iret dX6_kind_9 ?_
  exact ⟨rfl, rfl⟩

set_option maxRecDepth 100000 in
set_option maxHeartbeats 4000000 in
theorem c_value (g : Gl) (l : Launch) (F : Nat → Nat → Int32) (J : Nat → Int64) {j : Nat} (hj : F 6 4 = nI j) (hj4 : j < 401) : Ct g l yX6_value cX6_value 1 (some .int) 0 0 0 [.ref 6] (St F J) (fun r S2 => r = some (.int (F 8 j)) ∧ S2 = St F J) := by
  refine Ct.of rfl (by decide) rfl (Nat.le_of_ble_eq_true rfl) ?_
  refine g_aload_n 1 dX6_value_0 rfl rfl ?_
  refine gf_6_1 4 dX6_value_1 rfl kf_X6_15 ?_
  refine g_aload_n 5 dX6_value_4 rfl rfl ?_
  refine gf_6_4 8 dX6_value_5 rfl kf_X6_21 (by first | decide | assumption | exact ⟨Nat.le_of_ble_eq_true rfl, rfl⟩) ?_
  refine ga_ild (j) 9 dX6_value_8 rfl (by first | decide | assumption | exact ⟨Nat.le_of_ble_eq_true rfl, rfl⟩) hj hj4 ?_
  refine g_iret dX6_value_9 ?_
  exact ⟨rfl, rfl⟩

set_option maxRecDepth 100000 in
set_option maxHeartbeats 4000000 in
theorem c_place (g : Gl) (l : Launch) (F : Nat → Nat → Int32) (J : Nat → Int64) {j : Nat} (hj : F 6 4 = nI j) (hj4 : j < 401) : Ct g l yX6_place cX6_place 1 (some .int) 0 0 0 [.ref 6] (St F J) (fun r S2 => r = some (.int (F 9 j)) ∧ S2 = St F J) := by
  refine Ct.of rfl (by decide) rfl (Nat.le_of_ble_eq_true rfl) ?_
  refine g_aload_n 1 dX6_place_0 rfl rfl ?_
  refine gf_6_2 4 dX6_place_1 rfl kf_X6_18 ?_
  refine g_aload_n 5 dX6_place_4 rfl rfl ?_
  refine gf_6_4 8 dX6_place_5 rfl kf_X6_21 (by first | decide | assumption | exact ⟨Nat.le_of_ble_eq_true rfl, rfl⟩) ?_
  refine ga_ild (j) 9 dX6_place_8 rfl (by first | decide | assumption | exact ⟨Nat.le_of_ble_eq_true rfl, rfl⟩) hj hj4 ?_
  refine g_iret dX6_place_9 ?_
  exact ⟨rfl, rfl⟩

set_option maxRecDepth 100000 in
set_option maxHeartbeats 4000000 in
theorem c_goOn (g : Gl) (l : Launch) (F : Nat → Nat → Int32) (J : Nat → Int64) {j c : Nat} (hj : F 6 4 = nI j) (hc : F 6 3 = nI c) (hj4 : j < 401) (hc1 : 1 ≤ c) (hc4 : c ≤ 401) : Ct g l yX6_goOn cX6_goOn 1 none 0 0 0 [.ref 6] (St F J) (fun r S2 => r = none ∧ S2 = St (up2 F 6 4 (nI (if j + 1 < c then j + 1 else j))) J) := by
  have e1 : nI c - 1 = nI (c - 1) := by
    obtain ⟨d, rfl⟩ : ∃ d, c = d + 1 := ⟨c - 1, by omega⟩
    exact nI_pred d
  refine Ct.of rfl (by decide) rfl (Nat.le_of_ble_eq_true rfl) ?_
  refine g_aload_n 1 dX6_goOn_0 rfl rfl ?_
  refine gf_6_4 4 dX6_goOn_1 rfl kf_X6_21 (by first | decide | assumption | exact ⟨Nat.le_of_ble_eq_true rfl, rfl⟩) ?_
  refine g_aload_n 5 dX6_goOn_4 rfl rfl ?_
  refine gf_6_3 8 dX6_goOn_5 rfl kf_X6_25 (by first | decide | assumption | exact ⟨Nat.le_of_ble_eq_true rfl, rfl⟩) ?_
  refine g_iconst (1) 9 dX6_goOn_8 rfl (by decide) ?_
  refine g_isub 10 dX6_goOn_9 rfl ?_
  rw [hj, hc, e1]
  refine g_icmp_ge 23 13 dX6_goOn_10 rfl (by decide) (fun h10 => ?_) (fun h10 => ?_)
  · refine g_vret dX6_goOn_23 ?_
    have q : ¬ j + 1 < c := by
      intro z
      exact nI_ge (a := j) (b := c - 1) (by omega) (by omega) h10
    exact ⟨rfl, by rw [if_neg q, ← hj]; exact congrArg (fun t => St t J) (up2_id F 6 4).symm⟩
  · refine g_aload_n 14 dX6_goOn_13 rfl rfl ?_
    refine g_dup 15 dX6_goOn_14 rfl rfl ?_
    refine gf_6_4 18 dX6_goOn_15 rfl kf_X6_21 (by first | decide | assumption | exact ⟨Nat.le_of_ble_eq_true rfl, rfl⟩) ?_
    refine g_iconst (1) 19 dX6_goOn_18 rfl (by decide) ?_
    refine g_iadd 20 dX6_goOn_19 rfl ?_
    refine gp_6_4 23 dX6_goOn_20 rfl kf_X6_21 (by first | decide | assumption | exact ⟨Nat.le_of_ble_eq_true rfl, rfl⟩) ?_
    refine g_vret dX6_goOn_23 ?_
    have q : j + 1 < c := by
      rcases Nat.lt_or_ge (j + 1) c with z | z
      · exact z
      · exact absurd (nI_le (a := c - 1) (b := j) (by omega) (by omega)) h10
    exact ⟨rfl, by rw [if_pos q, nI_succ, ← hj]⟩

/-- the token at a place that is no blank -/
def tok1 (tb : Nat → Int32) (len m : Nat) : Int32 × Int32 × Nat := if isSm (tb m) then tkW tb len m else if isDg (tb m) then tkN tb len m else tkS tb m
abbrev TR : Type := (Nat → Int32) × (Nat → Int32) × (Nat → Int32) × Nat
def pshT (q : TR) (kd vl pl : Int32) : TR := (upd q.1 q.2.2.2 kd, upd q.2.1 q.2.2.2 vl, upd q.2.2.1 q.2.2.2 pl, q.2.2.2 + 1)
/-- the rows of tokens, turn by turn: the place, the rows so far -/
def spT (tb : Nat → Int32) (len : Nat) (q0 : TR) : Nat → Nat × TR
  | 0 => (0, q0)
  | i + 1 => if len ≤ (spT tb len q0 i).1 then spT tb len q0 i else if tb (spT tb len q0 i).1 = 32 then ((spT tb len q0 i).1 + 1, (spT tb len q0 i).2) else ((tok1 tb len (spT tb len q0 i).1).2.2, pshT (spT tb len q0 i).2 (tok1 tb len (spT tb len q0 i).1).1 (tok1 tb len (spT tb len q0 i).1).2.1 (nI (spT tb len q0 i).1))
theorem tok1_le {tb : Nat → Int32} {len m : Nat} (hs : ∀ q, len ≤ q → ¬ isSm (tb q)) (hd : ∀ q, len ≤ q → ¬ isDg (tb q)) (he : ∀ q, len ≤ q → tb q = -1) (hm : m < len) : m + 1 ≤ (tok1 tb len m).2.2 ∧ (tok1 tb len m).2.2 ≤ len := by
  unfold tok1
  by_cases h1 : isSm (tb m)
  · rw [if_pos h1]
    have := wend_le hs (n := len) (m := m + 1) (by omega)
    unfold tkW
    by_cases q : wend tb len (m + 1) = m + 1
    · rw [if_pos q]; exact ⟨Nat.le_refl _, hm⟩
    · rw [if_neg q]; exact this
  · rw [if_neg h1]
    by_cases h2 : isDg (tb m)
    · rw [if_pos h2]
      unfold tkN
      have hl : 1 ≤ len := by omega
      obtain ⟨n, rfl⟩ : ∃ n, len = n + 1 := ⟨len - 1, by omega⟩
      have e : nvl tb (n + 1) m 0 = nvl tb n (m + 1) (min32 (0 * 10 + tb m - 48) 1000) := by rw [nvl, if_pos h2]
      show m + 1 ≤ (nvl tb (n + 1) m 0).2 ∧ _
      rw [e]
      exact nvl_le hd (by omega)
    · rw [if_neg h2]
      unfold tkS
      by_cases q : tb m = 62 ∧ tb (m + 1) = 61
      · rw [if_pos q]
        have : ¬ len ≤ m + 1 := fun z => by rw [he _ z] at q; exact absurd q.2 (by decide)
        show m + 1 ≤ m + 2 ∧ m + 2 ≤ len
        omega
      · rw [if_neg q]; exact ⟨Nat.le_refl _, hm⟩
def stT (F : Nat → Nat → Int32) (q : TR) : Nat → Nat → Int32 := tk F q.1 q.2.1 q.2.2.1 (nI q.2.2.2) 0
theorem spT_m {tb : Nat → Int32} {len : Nat} {q0 : TR} (h0 : q0.2.2.2 = 0) : ∀ i, (spT tb len q0 i).2.2.2.2 ≤ i
  | 0 => by rw [spT, h0]; exact Nat.le_refl _
  | i + 1 => by
    have ih := spT_m (tb := tb) (len := len) h0 i
    rw [spT]
    by_cases h1 : len ≤ (spT tb len q0 i).1
    · rw [if_pos h1]; omega
    · rw [if_neg h1]
      by_cases h2 : tb (spT tb len q0 i).1 = 32
      · rw [if_pos h2]; show (spT tb len q0 i).2.2.2.2 ≤ i + 1; omega
      · rw [if_neg h2]; show (spT tb len q0 i).2.2.2.2 + 1 ≤ i + 1; omega
theorem spT_stay {tb : Nat → Int32} {len : Nat} {q0 : TR} {i : Nat} (h : len ≤ (spT tb len q0 i).1) : ∀ {j : Nat}, i ≤ j → spT tb len q0 j = spT tb len q0 i := by
  intro j hj
  induction j with
  | zero => obtain rfl : i = 0 := by omega
            rfl
  | succ j ih =>
    rcases Nat.lt_or_ge j i with q | q
    · obtain rfl : i = j + 1 := by omega
      rfl
    · rw [spT, ih q, if_pos h]
/-- all tokens, and the end's behind them -/
def allT (tb : Nat → Int32) (len : Nat) (q0 : TR) : TR := pshT (spT tb len q0 400).2 0 0 (nI len)
def q0F (F : Nat → Nat → Int32) : TR := (F 7, F 8, F 9, 0)

set_option maxRecDepth 100000 in
set_option maxHeartbeats 4000000 in
theorem ex_split (g : Gl) (l : Launch) (F : Nat → Nat → Int32) (J : Nat → Int64) {len : Nat} (hl : F 1 1 = nI len) (hlen : len ≤ 400) {XX : State → Method → Prop} (ax : Int32) (x3 x4 : Option Value) (q : TR) (hq : q = (spT (at_ F len) len (q0F F) 400).2) : Gj g l (rmd 7 0 0) XX (QM g (fun r S2 => r = none ∧ S2 = St (stT F (allT (at_ F len) len (q0F F))) J) 0 0) RX6 cX6_split 5 none 98 [some (.ref 6), some (.ref 1), some (.int ax), x3, x4] [] (St (stT F q) J) 0 0 := by
  have hq4 : q.2.2.2 ≤ 400 := by rw [hq]; exact spT_m rfl 400
  refine g_aload_n 99 dX6_split_98 rfl rfl ?_
  refine g_iconst (0) 100 dX6_split_99 rfl (by decide) ?_
  refine g_iconst (0) 101 dX6_split_100 rfl (by decide) ?_
  refine g_aload_n 102 dX6_split_101 rfl rfl ?_
  refine gf_5_1 105 dX6_split_102 rfl kf_X6_28 (by first | decide | assumption | exact ⟨Nat.le_of_ble_eq_true rfl, rfl⟩) ?_
  refine g_v3 6 108 dX6_split_105 rfl kl_X6_54 mv_X6_put rfl ⟨Nat.le_of_ble_eq_true rfl, Nat.le_of_ble_eq_true rfl⟩ (Nat.le_of_ble_eq_true rfl) (by first | decide | assumption | exact ⟨Nat.le_of_ble_eq_true rfl, rfl⟩) (c_put6 g l _ _ _ 0 F J q.1 q.2.1 q.2.2.1 (m := q.2.2.2) (by omega)) ?_
  rintro _ _ ⟨rfl, rfl⟩
  refine g_vret dX6_split_108 ?_
  exact ⟨rfl, by rw [allT, ← hq, ← hl]; rfl⟩

set_option maxRecDepth 100000 in
set_option maxHeartbeats 4000000 in
theorem lp_split (g : Gl) (l : Launch) (F : Nat → Nat → Int32) (J : Nat → Int64) {len : Nat} (hl : F 1 1 = nI len) (hlen : len ≤ 400) {XX : State → Method → Prop} (n : Nat) : ∀ (i : Nat) (ix ax : Int32) (a : Nat) (q : TR) (x4 : Option Value), i + n = 400 → ix = nI i → ax = nI a → a ≤ len → (a, q) = spT (at_ F len) len (q0F F) i → Gj g l (rmd 7 0 0) XX (QM g (fun r S2 => r = none ∧ S2 = St (stT F (allT (at_ F len) len (q0F F))) J) 0 0) RX6 cX6_split 5 none 14 [some (.ref 6), some (.ref 1), some (.int ax), some (.int ix), x4] [] (St (stT F q) J) 0 0 := by
  induction n with
  | zero =>
    intro i ix ax a q x4 hi hx hax hal hq
    obtain rfl : i = 400 := by omega
    subst hx
    refine g_iload_n 15 dX6_split_14 rfl rfl ?_
    refine g_sipush (400) 18 dX6_split_15 rfl (by decide) ?_
    refine g_icmp_ge 98 21 dX6_split_18 rfl (by decide) (fun h18 => ?_) (fun h18 => ?_)
    · exact ex_split g l F J hl hlen _ _ _ q (by rw [← hq])
    · exact absurd (by decide) h18
  | succ n ih =>
    intro i ix ax a q x4 hi hx hax hal hq
    subst hx; subst hax
    have hq4 : q.2.2.2 ≤ i := by
      have := spT_m (tb := at_ F len) (len := len) (q0 := q0F F) rfl i
      rw [← hq] at this; exact this
    have ea : (spT (at_ F len) len (q0F F) i).1 = a := by rw [← hq]
    have eq2 : (spT (at_ F len) len (q0F F) i).2 = q := by rw [← hq]
    refine g_iload_n 15 dX6_split_14 rfl rfl ?_
    refine g_sipush (400) 18 dX6_split_15 rfl (by decide) ?_
    refine g_icmp_ge 98 21 dX6_split_18 rfl (by decide) (fun h18 => ?_) (fun h18 => ?_)
    · exact absurd h18 (nI_ge (a := i) (b := 400) (by omega) (by decide))
    · refine g_iload_n 22 dX6_split_21 rfl rfl ?_
      refine g_aload_n 23 dX6_split_22 rfl rfl ?_
      refine gf_5_1 26 dX6_split_23 rfl kf_X6_28 (by first | decide | assumption | exact ⟨Nat.le_of_ble_eq_true rfl, rfl⟩) ?_
      refine g_icmp_ge 98 29 dX6_split_26 rfl (by decide) (fun h26 => ?_) (fun h26 => ?_)
      · exact ex_split g l F J hl hlen _ _ _ q (by rw [spT_stay (i := i) (j := 400) (by rw [ea]; have h26 : F 1 1 ≤ nI a := h26; rw [hl] at h26; exact Nat.le_of_not_lt (fun z => nI_ge z (by omega) h26)) (by omega), eq2])
      · have ha : a < len := by
          rcases Nat.lt_or_ge a len with z | z
          · exact z
          · exact absurd (show F 1 1 ≤ nI a by rw [hl]; exact nI_le z (by omega)) h26
        have htl := tok1_le (at_sm F len) (at_dg F len) (fun q => at_no) ha
        refine g_aload_n 30 dX6_split_29 rfl rfl ?_
        refine g_iload_n 31 dX6_split_30 rfl rfl ?_
        refine g_v1 5 34 dX6_split_31 rfl kl_X6_33 mv_X5_at rfl ⟨Nat.le_of_ble_eq_true rfl, Nat.le_of_ble_eq_true rfl⟩ (Nat.le_of_ble_eq_true rfl) (by first | decide | assumption | exact ⟨Nat.le_of_ble_eq_true rfl, rfl⟩) (c_atT g l F J q.1 q.2.1 q.2.2.1 _ _ hl hlen a (by omega)) ?_
        rintro _ _ ⟨rfl, rfl⟩
        refine g_istore 36 dX6_split_34 rfl (by decide) ?_
        refine g_iload 38 dX6_split_36 rfl rfl ?_
        refine g_s1 41 dX6_split_38 rfl kl_X6_37 ms_X6_isSmallLetter ⟨Nat.le_of_ble_eq_true rfl, Nat.le_of_ble_eq_true rfl⟩ (Nat.le_of_ble_eq_true rfl) (c_isSmall g l _ _) ?_
        rintro _ _ ⟨rfl, rfl⟩
        refine g_if_eq 54 44 dX6_split_41 rfl (by decide) (fun h41 => ?_) (fun h41 => ?_)
        · refine g_iload 56 dX6_split_54 rfl rfl ?_
          refine g_s1 59 dX6_split_56 rfl kl_X6_45 ms_X6_isDigit ⟨Nat.le_of_ble_eq_true rfl, Nat.le_of_ble_eq_true rfl⟩ (Nat.le_of_ble_eq_true rfl) (c_isDigit g l _ _) ?_
          rintro _ _ ⟨rfl, rfl⟩
          refine g_if_eq 72 62 dX6_split_59 rfl (by decide) (fun h59 => ?_) (fun h59 => ?_)
          · refine g_iload 74 dX6_split_72 rfl rfl ?_
            refine g_bipush (32) 76 dX6_split_74 rfl (by decide) ?_
            refine g_icmp_ne 85 79 dX6_split_76 rfl (by decide) (fun h76 => ?_) (fun h76 => ?_)
            · refine g_aload_n 86 dX6_split_85 rfl rfl ?_
              refine g_aload_n 87 dX6_split_86 rfl rfl ?_
              refine g_iload_n 88 dX6_split_87 rfl rfl ?_
              refine g_v2 6 91 dX6_split_88 rfl kl_X6_51 mv_X6_putSign rfl ⟨Nat.le_of_ble_eq_true rfl, Nat.le_of_ble_eq_true rfl⟩ (Nat.le_of_ble_eq_true rfl) (by first | decide | assumption | exact ⟨Nat.le_of_ble_eq_true rfl, rfl⟩) (c_putSign g l 0 F J q.1 q.2.1 q.2.2.1 hl hlen (c := q.2.2.2) (by omega) ha) ?_
              rintro _ _ ⟨rfl, rfl⟩
              refine g_istore_n 92 dX6_split_91 rfl (by decide) ?_
              refine g_iinc (1) 95 dX6_split_92 rfl (by decide) (by decide) rfl ?_
              refine g_goto 14 dX6_split_95 (by decide) ?_
              have et : tok1 (at_ F len) len a = tkS (at_ F len) a := by rw [tok1, if_neg (b10.mp h41), if_neg (b10.mp h59)]
              have hnb : ¬ at_ F len a = 32 := h76
              rw [← et]
              exact ih (i + 1) _ _ _ (pshT q _ _ _) _ (by omega) (nI_succ i).symm rfl (by omega) (by rw [spT, ea, eq2, if_neg (by omega), if_neg hnb])
            · refine g_iinc (1) 82 dX6_split_79 rfl (by decide) (by decide) rfl ?_
              refine g_goto 92 dX6_split_82 (by decide) ?_
              refine g_iinc (1) 95 dX6_split_92 rfl (by decide) (by decide) rfl ?_
              refine g_goto 14 dX6_split_95 (by decide) ?_
              exact ih (i + 1) _ _ (a + 1) q _ (by omega) (nI_succ i).symm (nI_succ a).symm (by omega) (by rw [spT, ea, eq2, if_neg (by omega), if_pos h76])
          · refine g_aload_n 63 dX6_split_62 rfl rfl ?_
            refine g_aload_n 64 dX6_split_63 rfl rfl ?_
            refine g_iload_n 65 dX6_split_64 rfl rfl ?_
            refine g_v2 6 68 dX6_split_65 rfl kl_X6_48 mv_X6_putNumber rfl ⟨Nat.le_of_ble_eq_true rfl, Nat.le_of_ble_eq_true rfl⟩ (Nat.le_of_ble_eq_true rfl) (by first | decide | assumption | exact ⟨Nat.le_of_ble_eq_true rfl, rfl⟩) (c_putNumber g l 0 F J q.1 q.2.1 q.2.2.1 hl hlen (c := q.2.2.2) (by omega) ha) ?_
            rintro _ _ ⟨rfl, rfl⟩
            refine g_istore_n 69 dX6_split_68 rfl (by decide) ?_
            refine g_goto 92 dX6_split_69 (by decide) ?_
            refine g_iinc (1) 95 dX6_split_92 rfl (by decide) (by decide) rfl ?_
            refine g_goto 14 dX6_split_95 (by decide) ?_
            have et : tok1 (at_ F len) len a = tkN (at_ F len) len a := by rw [tok1, if_neg (b10.mp h41), if_pos (by
                rcases Classical.em (isDg (at_ F len a)) with z | z
                · exact z
                · exact absurd (b10.mpr z) h59)]
            have hnb : ¬ at_ F len a = 32 := fun z => by
              have y : isDg (at_ F len a) := by
                rcases Classical.em (isDg (at_ F len a)) with w | w
                · exact w
                · exact absurd (b10.mpr w) h59
              rw [z] at y; exact absurd y.1 (by decide)
            rw [← et]
            exact ih (i + 1) _ _ _ (pshT q _ _ _) _ (by omega) (nI_succ i).symm rfl (by omega) (by rw [spT, ea, eq2, if_neg (by omega), if_neg hnb])
        · refine g_aload_n 45 dX6_split_44 rfl rfl ?_
          refine g_aload_n 46 dX6_split_45 rfl rfl ?_
          refine g_iload_n 47 dX6_split_46 rfl rfl ?_
          refine g_v2 6 50 dX6_split_47 rfl kl_X6_41 mv_X6_putWord rfl ⟨Nat.le_of_ble_eq_true rfl, Nat.le_of_ble_eq_true rfl⟩ (Nat.le_of_ble_eq_true rfl) (by first | decide | assumption | exact ⟨Nat.le_of_ble_eq_true rfl, rfl⟩) (c_putWord g l 0 F J q.1 q.2.1 q.2.2.1 hl hlen (c := q.2.2.2) (by omega) ha) ?_
          rintro _ _ ⟨rfl, rfl⟩
          refine g_istore_n 51 dX6_split_50 rfl (by decide) ?_
          refine g_goto 92 dX6_split_51 (by decide) ?_
          refine g_iinc (1) 95 dX6_split_92 rfl (by decide) (by decide) rfl ?_
          refine g_goto 14 dX6_split_95 (by decide) ?_
          have et : tok1 (at_ F len) len a = tkW (at_ F len) len a := by rw [tok1, if_pos (by
              rcases Classical.em (isSm (at_ F len a)) with z | z
              · exact z
              · exact absurd (b10.mpr z) h41)]
          have hnb : ¬ at_ F len a = 32 := fun z => by
            have y : isSm (at_ F len a) := by
              rcases Classical.em (isSm (at_ F len a)) with w | w
              · exact w
              · exact absurd (b10.mpr w) h41
            rw [z] at y; exact absurd y.1 (by decide)
          rw [← et]
          exact ih (i + 1) _ _ _ (pshT q _ _ _) _ (by omega) (nI_succ i).symm rfl (by omega) (by rw [spT, ea, eq2, if_neg (by omega), if_neg hnb])

set_option maxRecDepth 100000 in
set_option maxHeartbeats 4000000 in
theorem c_split (g : Gl) (l : Launch) (F : Nat → Nat → Int32) (J : Nat → Int64) {len : Nat} (hl : F 1 1 = nI len) (hlen : len ≤ 400) : Ct g l yX6_split cX6_split 5 none 7 0 0 [.ref 6, .ref 1] (St F J) (fun r S2 => r = none ∧ S2 = St (stT F (allT (at_ F len) len (q0F F))) J) := by
  refine Ct.of rfl (by decide) rfl (Nat.le_of_ble_eq_true rfl) ?_
  refine g_aload_n 1 dX6_split_0 rfl rfl ?_
  refine g_iconst (0) 2 dX6_split_1 rfl (by decide) ?_
  refine gp_6_4 5 dX6_split_2 rfl kf_X6_21 (by first | decide | assumption | exact ⟨Nat.le_of_ble_eq_true rfl, rfl⟩) ?_
  refine g_aload_n 6 dX6_split_5 rfl rfl ?_
  refine g_iconst (0) 7 dX6_split_6 rfl (by decide) ?_
  refine gp_6_3 10 dX6_split_7 rfl kf_X6_25 (by first | decide | assumption | exact ⟨Nat.le_of_ble_eq_true rfl, rfl⟩) ?_
  rw [show up2 (up2 F 6 4 0) 6 3 0 = stT F (q0F F) from tk_set F 0 0]
  refine g_iconst (0) 11 dX6_split_10 rfl (by decide) ?_
  refine g_istore_n 12 dX6_split_11 rfl (by decide) ?_
  refine g_iconst (0) 13 dX6_split_12 rfl (by decide) ?_
  refine g_istore_n 14 dX6_split_13 rfl (by decide) ?_
  exact lp_split g l F J hl hlen 400 0 _ _ 0 _ _ rfl rfl rfl (Nat.zero_le _) rfl

