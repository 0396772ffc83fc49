/-! the class Fit: the cell 99 -/
abbrev Q4 : Type := Int32 × Int32 × Int32 × Int32
def ft (F : Nat → Nat → Int32) (q : Q4) : Nat → Nat → Int32 := fun r => if r = 99 then (fun j => if j = 0 then q.1 else if j = 1 then q.2.1 else if j = 2 then q.2.2.1 else if j = 3 then q.2.2.2 else F 99 j) else F r
theorem ft_set (F : Nat → Nat → Int32) (a b c d : Int32) : up2 (up2 (up2 (up2 F 99 0 a) 99 1 b) 99 2 c) 99 3 d = ft F (a, b, c, d) := by
  funext q j
  by_cases h : q = 99
  · subst h
    simp only [ft, up2, upd, if_true]
    by_cases e0 : j = 0
    · simp [e0]
    · by_cases e1 : j = 1
      · simp [e1]
      · by_cases e2 : j = 2
        · simp [e2]
        · by_cases e3 : j = 3 <;> simp [e0, e1, e2, e3]
  · simp [ft, up2, h]
def part (w s : Int32) : Int32 := if s = 1 then max32 w 0 else max32 (-w) 0
def wg3 (a b c : Int32) (i : Nat) : Int32 := part a (nI i &&& 1) + part b (nI i >>> ((1 : Int32) &&& 31) &&& 1) + part c (nI i >>> ((2 : Int32) &&& 31))
def flo (t a b c : Int32) : Nat → Int32 × Int32
  | 0 => (13, -1)
  | i + 1 => if (flo t a b c i).1 ≤ (flo t a b c i).2 then flo t a b c i else if t >>> (nI i &&& 31) &&& 1 = 1 then (min32 (flo t a b c i).1 (wg3 a b c i), (flo t a b c i).2) else ((flo t a b c i).1, max32 (flo t a b c i).2 (wg3 a b c i))
theorem flo_stay {t a b c : Int32} {i : Nat} (h : (flo t a b c i).1 ≤ (flo t a b c i).2) : ∀ {j : Nat}, i ≤ j → flo t a b c j = flo t a b c i := by
  intro j hj
  induction j with
  | zero => obtain rfl : i = 0 := by omega
            rfl
  | succ j ih =>
    rcases Nat.lt_or_ge j i with q | q
    · obtain rfl : i = j + 1 := by omega
      rfl
    · rw [flo, ih q, if_pos h]
def tryF (t a b c : Int32) : Option Q4 := if (flo t a b c 8).1 ≤ (flo t a b c 8).2 then none else some (a, b, c, (flo t a b c 8).1)
def fI (i : Nat) : Int32 := nI i - 4
def thd (tog : Int32) (i j : Nat) : Int32 := tog - abs32 (fI i) - abs32 (fI j)
def trz (t tog : Int32) (i j : Nat) : Option Q4 := if thd tog i j < 0 ∨ 4 < thd tog i j then none else (tryF t (fI i) (fI j) (-(thd tog i j))).or (tryF t (fI i) (fI j) (thd tog i j))
def inn (t tog : Int32) (i : Nat) : Nat → Option Q4
  | 0 => none
  | n + 1 => (trz t tog i (8 - n)).or (inn t tog i n)
def outr (t tog : Int32) : Nat → Option Q4
  | 0 => none
  | n + 1 => (inn t tog (8 - n) 9).or (outr t tog n)
def srch (t : Int32) : Nat → Option Q4
  | 0 => none
  | n + 1 => (outr t (nI (12 - n)) 9).or (srch t n)
/-- what a search says: none, and nothing changed; or the one that was found -/
def rsZ (x : Option Q4) (F : Nat → Nat → Int32) (J : Nat → Int64) : Option Value → Sg → Prop := fun r S2 => (x = none ∧ r = some (.int 0) ∧ S2 = St F J) ∨ (∃ q, x = some q ∧ r = some (.int 1) ∧ S2 = St (ft F q) J)
theorem rs_no {x : Option Q4} {F : Nat → Nat → Int32} {J : Nat → Int64} (h : x = none) : rsZ x F J (some (.int 0)) (St F J) := Or.inl ⟨h, rfl, rfl⟩
theorem rs_yes {x : Option Q4} {F : Nat → Nat → Int32} {J : Nat → Int64} {q : Q4} (h : x = some q) : rsZ x F J (some (.int 1)) (St (ft F q) J) := Or.inr ⟨q, h, rfl, rfl⟩
theorem fI_s (i : Nat) : fI i + 1 = fI (i + 1) := by
  simp only [fI, nI_succ]
  rw [Int32.sub_eq_add_neg, Int32.sub_eq_add_neg, Int32.add_assoc, Int32.add_assoc, Int32.add_comm (-4) 1]
theorem fI_in : ∀ i, i < 9 → ¬ 4 < fI i := by decide +kernel
theorem fI_out : 4 < fI 9 := by decide +kernel

set_option maxRecDepth 100000 in
set_option maxHeartbeats 4000000 in
theorem c_part (g : Gl) (l : Launch) (x y : Int32) (S : Sg) : Ct g l yX0_part cX0_part 2 (some .int) 1 0 0 [.int x, .int y] S (fun r S2 => r = some (.int (part x y)) ∧ S2 = S) := by
  refine Ct.of rfl (by decide) rfl (Nat.le_of_ble_eq_true rfl) ?_
  refine g_iload_n 1 dX0_part_0 rfl rfl ?_
  refine g_iconst (1) 2 dX0_part_1 rfl (by decide) ?_
  refine g_icmp_ne 13 5 dX0_part_2 rfl (by decide) (fun h2 => ?_) (fun h2 => ?_)
  · refine g_iload_n 14 dX0_part_13 rfl rfl ?_
    refine g_ineg 15 dX0_part_14 rfl ?_
    refine g_iconst (0) 16 dX0_part_15 rfl (by decide) ?_
    refine g_mmax 19 dX0_part_16 rfl kl_X0_43 ⟨Nat.le_of_ble_eq_true rfl, Nat.le_of_ble_eq_true rfl, Nat.le_of_ble_eq_true rfl, Nat.le_of_ble_eq_true rfl⟩ (Nat.le_of_ble_eq_true rfl) ?_
    refine g_iret dX0_part_19 ?_
    exact ⟨by rw [part, if_neg h2], rfl⟩
  · refine g_iload_n 6 dX0_part_5 rfl rfl ?_
    refine g_iconst (0) 7 dX0_part_6 rfl (by decide) ?_
    refine g_mmax 10 dX0_part_7 rfl kl_X0_43 ⟨Nat.le_of_ble_eq_true rfl, Nat.le_of_ble_eq_true rfl, Nat.le_of_ble_eq_true rfl, Nat.le_of_ble_eq_true rfl⟩ (Nat.le_of_ble_eq_true rfl) ?_
    refine g_goto 19 dX0_part_10 (by decide) ?_
    refine g_iret dX0_part_19 ?_
    exact ⟨by rw [part, if_pos h2], rfl⟩

set_option maxRecDepth 100000 in
set_option maxHeartbeats 4000000 in
theorem ex_fits (g : Gl) (l : Launch) (t a b c : Int32) (F : Nat → Nat → Int32) (J : Nat → Int64) {XX : State → Method → Prop} (lo hi : Int32) (x7 x8 : Option Value) (hq : (lo, hi) = flo t a b c 8) : Gj g l (rmd 2 0 0) XX (QM g (rsZ (tryF t a b c) F J) 0 0) RX0 cX0_fits 9 (some .boolean) 92 [some (.ref 99), some (.int t), some (.int a), some (.int b), some (.int c), some (.int lo), some (.int hi), x7, x8] [] (St F J) 0 0 := by
  have e1 : lo = (flo t a b c 8).1 := by rw [← hq]
  have e2 : hi = (flo t a b c 8).2 := by rw [← hq]
  refine g_iload 94 dX0_fits_92 rfl rfl ?_
  refine g_iload 96 dX0_fits_94 rfl rfl ?_
  refine g_icmp_lt 101 99 dX0_fits_96 rfl (by decide) (fun h96 => ?_) (fun h96 => ?_)
  · refine g_aload_n 102 dX0_fits_101 rfl rfl ?_
    refine g_iload_n 103 dX0_fits_102 rfl rfl ?_
    refine gp_0_0 106 dX0_fits_103 rfl kf_X0_9 (by first | decide | assumption | exact ⟨Nat.le_of_ble_eq_true rfl, rfl⟩) ?_
    refine g_aload_n 107 dX0_fits_106 rfl rfl ?_
    refine g_iload_n 108 dX0_fits_107 rfl rfl ?_
    refine gp_0_1 111 dX0_fits_108 rfl kf_X0_13 (by first | decide | assumption | exact ⟨Nat.le_of_ble_eq_true rfl, rfl⟩) ?_
    refine g_aload_n 112 dX0_fits_111 rfl rfl ?_
    refine g_iload 114 dX0_fits_112 rfl rfl ?_
    refine gp_0_2 117 dX0_fits_114 rfl kf_X0_16 (by first | decide | assumption | exact ⟨Nat.le_of_ble_eq_true rfl, rfl⟩) ?_
    refine g_aload_n 118 dX0_fits_117 rfl rfl ?_
    refine g_iload 120 dX0_fits_118 rfl rfl ?_
    refine gp_0_3 123 dX0_fits_120 rfl kf_X0_19 (by first | decide | assumption | exact ⟨Nat.le_of_ble_eq_true rfl, rfl⟩) ?_
    refine g_iconst (1) 124 dX0_fits_123 rfl (by decide) ?_
    refine g_zret dX0_fits_124 (by decide) ?_
    rw [ft_set]
    exact rs_yes (by rw [tryF, ← e1, ← e2, if_neg (by simpa using h96)])
  · refine g_iconst (0) 100 dX0_fits_99 rfl (by decide) ?_
    refine g_zret dX0_fits_100 (by decide) ?_
    exact rs_no (by rw [tryF, ← e1, ← e2, if_pos (by simpa using h96)])

set_option maxRecDepth 100000 in
set_option maxHeartbeats 4000000 in
theorem lp_fits (g : Gl) (l : Launch) (t a b c : Int32) (F : Nat → Nat → Int32) (J : Nat → Int64) {XX : State → Method → Prop} (n : Nat) : ∀ (i : Nat) (lo hi ix : Int32) (x8 : Option Value), i + n = 8 → ix = nI i → (lo, hi) = flo t a b c i → Gj g l (rmd 2 0 0) XX (QM g (rsZ (tryF t a b c) F J) 0 0) RX0 cX0_fits 9 (some .boolean) 10 [some (.ref 99), some (.int t), some (.int a), some (.int b), some (.int c), some (.int lo), some (.int hi), some (.int ix), x8] [] (St F J) 0 0 := by
  induction n with
  | zero =>
    intro i lo hi ix x8 hi8 hx hq
    obtain rfl : i = 8 := by omega
    subst hx
    refine g_iload 12 dX0_fits_10 rfl rfl ?_
    refine g_bipush (8) 14 dX0_fits_12 rfl (by decide) ?_
    refine g_icmp_ge 92 17 dX0_fits_14 rfl (by decide) (fun h14 => ?_) (fun h14 => ?_)
    · exact ex_fits g l t a b c F J lo hi _ _ hq
    · exact absurd (by decide) h14
  | succ n ih =>
    intro i lo hi ix x8 hi8 hx hq
    subst hx
    have e1 : lo = (flo t a b c i).1 := by rw [← hq]
    have e2 : hi = (flo t a b c i).2 := by rw [← hq]
    refine g_iload 12 dX0_fits_10 rfl rfl ?_
    refine g_bipush (8) 14 dX0_fits_12 rfl (by decide) ?_
    refine g_icmp_ge 92 17 dX0_fits_14 rfl (by decide) (fun h14 => ?_) (fun h14 => ?_)
    · exact absurd h14 (nI_ge (a := i) (b := 8) (by omega) (by decide))
    · refine g_iload 19 dX0_fits_17 rfl rfl ?_
      refine g_iload 21 dX0_fits_19 rfl rfl ?_
      refine g_icmp_ge 92 24 dX0_fits_21 rfl (by decide) (fun h21 => ?_) (fun h21 => ?_)
      · exact ex_fits g l t a b c F J lo hi _ _ (by rw [hq]; exact (flo_stay (by rw [← e1, ← e2]; exact h21) (by omega)).symm)
      · refine g_iload_n 25 dX0_fits_24 rfl rfl ?_
        refine g_iload 27 dX0_fits_25 rfl rfl ?_
        refine g_iconst (1) 28 dX0_fits_27 rfl (by decide) ?_
        refine g_iand 29 dX0_fits_28 rfl ?_
        refine g_s2 32 dX0_fits_29 rfl kl_X0_36 ms_X0_part ⟨Nat.le_of_ble_eq_true rfl, Nat.le_of_ble_eq_true rfl⟩ (Nat.le_of_ble_eq_true rfl) (c_part g l _ _ _) ?_
        rintro _ _ ⟨rfl, rfl⟩
        refine g_iload_n 33 dX0_fits_32 rfl rfl ?_
        refine g_iload 35 dX0_fits_33 rfl rfl ?_
        refine g_iconst (1) 36 dX0_fits_35 rfl (by decide) ?_
        refine g_ishr 37 dX0_fits_36 rfl ?_
        refine g_iconst (1) 38 dX0_fits_37 rfl (by decide) ?_
        refine g_iand 39 dX0_fits_38 rfl ?_
        refine g_s2 42 dX0_fits_39 rfl kl_X0_36 ms_X0_part ⟨Nat.le_of_ble_eq_true rfl, Nat.le_of_ble_eq_true rfl⟩ (Nat.le_of_ble_eq_true rfl) (c_part g l _ _ _) ?_
        rintro _ _ ⟨rfl, rfl⟩
        refine g_iadd 43 dX0_fits_42 rfl ?_
        refine g_iload 45 dX0_fits_43 rfl rfl ?_
        refine g_iload 47 dX0_fits_45 rfl rfl ?_
        refine g_iconst (2) 48 dX0_fits_47 rfl (by decide) ?_
        refine g_ishr 49 dX0_fits_48 rfl ?_
        refine g_s2 52 dX0_fits_49 rfl kl_X0_36 ms_X0_part ⟨Nat.le_of_ble_eq_true rfl, Nat.le_of_ble_eq_true rfl⟩ (Nat.le_of_ble_eq_true rfl) (c_part g l _ _ _) ?_
        rintro _ _ ⟨rfl, rfl⟩
        refine g_iadd 53 dX0_fits_52 rfl ?_
        refine g_istore 55 dX0_fits_53 rfl (by decide) ?_
        refine g_iload_n 56 dX0_fits_55 rfl rfl ?_
        refine g_iload 58 dX0_fits_56 rfl rfl ?_
        refine g_ishr 59 dX0_fits_58 rfl ?_
        refine g_iconst (1) 60 dX0_fits_59 rfl (by decide) ?_
        refine g_iand 61 dX0_fits_60 rfl ?_
        refine g_iconst (1) 62 dX0_fits_61 rfl (by decide) ?_
        refine g_icmp_ne 77 65 dX0_fits_62 rfl (by decide) (fun h62 => ?_) (fun h62 => ?_)
        · refine g_iload 79 dX0_fits_77 rfl rfl ?_
          refine g_iload 81 dX0_fits_79 rfl rfl ?_
          refine g_mmax 84 dX0_fits_81 rfl kl_X0_43 ⟨Nat.le_of_ble_eq_true rfl, Nat.le_of_ble_eq_true rfl, Nat.le_of_ble_eq_true rfl, Nat.le_of_ble_eq_true rfl⟩ (Nat.le_of_ble_eq_true rfl) ?_
          refine g_istore 86 dX0_fits_84 rfl (by decide) ?_
          refine g_iinc (1) 89 dX0_fits_86 rfl (by decide) (by decide) rfl ?_
          refine g_goto 10 dX0_fits_89 (by decide) ?_
          exact ih (i + 1) _ _ _ _ (by omega) (nI_succ i).symm (by rw [flo, if_neg (by rw [← e1, ← e2]; exact h21), if_neg h62, ← e1, ← e2]; rfl)
        · refine g_iload 67 dX0_fits_65 rfl rfl ?_
          refine g_iload 69 dX0_fits_67 rfl rfl ?_
          refine g_mmin 72 dX0_fits_69 rfl kl_X0_40 ⟨Nat.le_of_ble_eq_true rfl, Nat.le_of_ble_eq_true rfl, Nat.le_of_ble_eq_true rfl, Nat.le_of_ble_eq_true rfl⟩ (Nat.le_of_ble_eq_true rfl) ?_
          refine g_istore 74 dX0_fits_72 rfl (by decide) ?_
          refine g_goto 86 dX0_fits_74 (by decide) ?_
          refine g_iinc (1) 89 dX0_fits_86 rfl (by decide) (by decide) rfl ?_
          refine g_goto 10 dX0_fits_89 (by decide) ?_
          exact ih (i + 1) _ _ _ _ (by omega) (nI_succ i).symm (by rw [flo, if_neg (by rw [← e1, ← e2]; exact h21), if_pos h62, ← e1, ← e2]; rfl)

set_option maxRecDepth 100000 in
set_option maxHeartbeats 4000000 in
theorem c_fitsC (g : Gl) (l : Launch) (t a b c : Int32) (F : Nat → Nat → Int32) (J : Nat → Int64) : Ct g l yX0_fits cX0_fits 9 (some .boolean) 2 0 0 [.ref 99, .int t, .int a, .int b, .int c] (St F J) (rsZ (tryF t a b c) F J) := by
  refine Ct.of rfl (by decide) rfl (Nat.le_of_ble_eq_true rfl) ?_
  refine g_bipush (13) 2 dX0_fits_0 rfl (by decide) ?_
  refine g_istore 4 dX0_fits_2 rfl (by decide) ?_
  refine g_iconst (-1) 5 dX0_fits_4 rfl (by decide) ?_
  refine g_istore 7 dX0_fits_5 rfl (by decide) ?_
  refine g_iconst (0) 8 dX0_fits_7 rfl (by decide) ?_
  refine g_istore 10 dX0_fits_8 rfl (by decide) ?_
  exact lp_fits g l t a b c F J 8 0 _ _ _ _ rfl rfl rfl

set_option maxRecDepth 100000 in
set_option maxHeartbeats 4000000 in
theorem lp_inn (g : Gl) (l : Launch) (t tog : Int32) (F : Nat → Nat → Int32) (J : Nat → Int64) (i : Nat) (hi : i < 9) (hfound : ∀ q, inn t tog i 9 = some q → outr t tog 9 = some q)  {XX : State → Method → Prop} (n : Nat) : ∀ (j : Nat) (jx : Int32) (x5 : Option Value), j + n = 9 → jx = fI j → inn t tog i 9 = inn t tog i n → (inn t tog i 9 = none → ∀ x4 x5 : Option Value, Gj g l (rmd 3 0 0) XX (QM g (rsZ (outr t tog 9) F J) 0 0) RX0 cX0_searchTogether 6 (some .boolean) 78 [some (.ref 99), some (.int t), some (.int tog), some (.int (fI i)), x4, x5] [] (St F J) 0 0) → Gj g l (rmd 3 0 0) XX (QM g (rsZ (outr t tog 9) F J) 0 0) RX0 cX0_searchTogether 6 (some .boolean) 12 [some (.ref 99), some (.int t), some (.int tog), some (.int (fI i)), some (.int jx), x5] [] (St F J) 0 0 := by
  induction n with
  | zero =>
    intro j jx x5 hj hx hin hex
    obtain rfl : j = 9 := by omega
    subst hx
    refine g_iload 14 dX0_searchTogether_12 rfl rfl ?_
    refine g_iconst (4) 15 dX0_searchTogether_14 rfl (by decide) ?_
    refine g_icmp_gt 78 18 dX0_searchTogether_15 rfl (by decide) (fun h15 => ?_) (fun h15 => ?_)
    · exact hex (by rw [hin]; rfl) _ _
    · exact absurd fI_out h15
  | succ n ih =>
    intro j jx x5 hj hx hin hex
    subst hx
    have hj8 : 8 - n = j := by omega
    have hin2 : inn t tog i 9 = (trz t tog i j).or (inn t tog i n) := by rw [hin, inn, hj8]
    refine g_iload 14 dX0_searchTogether_12 rfl rfl ?_
    refine g_iconst (4) 15 dX0_searchTogether_14 rfl (by decide) ?_
    refine g_icmp_gt 78 18 dX0_searchTogether_15 rfl (by decide) (fun h15 => ?_) (fun h15 => ?_)
    · exact absurd h15 (fI_in j (by omega))
    · refine g_iload_n 19 dX0_searchTogether_18 rfl rfl ?_
      refine g_iload_n 20 dX0_searchTogether_19 rfl rfl ?_
      refine g_mabs 23 dX0_searchTogether_20 rfl kl_X0_26 ⟨Nat.le_of_ble_eq_true rfl, Nat.le_of_ble_eq_true rfl, Nat.le_of_ble_eq_true rfl, Nat.le_of_ble_eq_true rfl⟩ (Nat.le_of_ble_eq_true rfl) ?_
      refine g_isub 24 dX0_searchTogether_23 rfl ?_
      refine g_iload 26 dX0_searchTogether_24 rfl rfl ?_
      refine g_mabs 29 dX0_searchTogether_26 rfl kl_X0_26 ⟨Nat.le_of_ble_eq_true rfl, Nat.le_of_ble_eq_true rfl, Nat.le_of_ble_eq_true rfl, Nat.le_of_ble_eq_true rfl⟩ (Nat.le_of_ble_eq_true rfl) ?_
      refine g_isub 30 dX0_searchTogether_29 rfl ?_
      refine g_istore 32 dX0_searchTogether_30 rfl (by decide) ?_
      refine g_iload 34 dX0_searchTogether_32 rfl rfl ?_
      refine g_if_lt 72 37 dX0_searchTogether_34 rfl (by decide) (fun h34 => ?_) (fun h34 => ?_)
      · refine g_iinc (1) 75 dX0_searchTogether_72 rfl (by decide) (by decide) rfl ?_
        refine g_goto 12 dX0_searchTogether_75 (by decide) ?_
        exact ih (j + 1) _ _ (by omega) (fI_s j) (by rw [hin2, trz, if_pos (Or.inl (show thd tog i j < 0 from h34))]; rfl) hex
      · refine g_iload 39 dX0_searchTogether_37 rfl rfl ?_
        refine g_iconst (4) 40 dX0_searchTogether_39 rfl (by decide) ?_
        refine g_icmp_gt 72 43 dX0_searchTogether_40 rfl (by decide) (fun h40 => ?_) (fun h40 => ?_)
        · refine g_iinc (1) 75 dX0_searchTogether_72 rfl (by decide) (by decide) rfl ?_
          refine g_goto 12 dX0_searchTogether_75 (by decide) ?_
          exact ih (j + 1) _ _ (by omega) (fI_s j) (by rw [hin2, trz, if_pos (Or.inr (show 4 < thd tog i j from h40))]; rfl) hex
        · refine g_aload_n 44 dX0_searchTogether_43 rfl rfl ?_
          refine g_iload_n 45 dX0_searchTogether_44 rfl rfl ?_
          refine g_iload_n 46 dX0_searchTogether_45 rfl rfl ?_
          refine g_iload 48 dX0_searchTogether_46 rfl rfl ?_
          refine g_iload 50 dX0_searchTogether_48 rfl rfl ?_
          refine g_ineg 51 dX0_searchTogether_50 rfl ?_
          refine g_v4 0 54 dX0_searchTogether_51 rfl kl_X0_32 mv_X0_fits rfl ⟨Nat.le_of_ble_eq_true rfl, Nat.le_of_ble_eq_true rfl⟩ (Nat.le_of_ble_eq_true rfl) (by first | decide | assumption | exact ⟨Nat.le_of_ble_eq_true rfl, rfl⟩) (c_fitsC g l _ _ _ _ F J) ?_
          intro r S2 hz
          rcases hz with ⟨hz1, rfl, rfl⟩ | ⟨q, hz1, rfl, rfl⟩
          · refine g_if_ne 70 57 dX0_searchTogether_54 rfl (by decide) (fun h54 => ?_) (fun h54 => ?_)
            · exact absurd h54 (by decide)
            · refine g_aload_n 58 dX0_searchTogether_57 rfl rfl ?_
              refine g_iload_n 59 dX0_searchTogether_58 rfl rfl ?_
              refine g_iload_n 60 dX0_searchTogether_59 rfl rfl ?_
              refine g_iload 62 dX0_searchTogether_60 rfl rfl ?_
              refine g_iload 64 dX0_searchTogether_62 rfl rfl ?_
              refine g_v4 0 67 dX0_searchTogether_64 rfl kl_X0_32 mv_X0_fits rfl ⟨Nat.le_of_ble_eq_true rfl, Nat.le_of_ble_eq_true rfl⟩ (Nat.le_of_ble_eq_true rfl) (by first | decide | assumption | exact ⟨Nat.le_of_ble_eq_true rfl, rfl⟩) (c_fitsC g l _ _ _ _ F J) ?_
              intro r S2 hz
              rcases hz with ⟨hz2, rfl, rfl⟩ | ⟨q, hz2, rfl, rfl⟩
              · refine g_if_eq 72 70 dX0_searchTogether_67 rfl (by decide) (fun h67 => ?_) (fun h67 => ?_)
                · refine g_iinc (1) 75 dX0_searchTogether_72 rfl (by decide) (by decide) rfl ?_
                  refine g_goto 12 dX0_searchTogether_75 (by decide) ?_
                  exact ih (j + 1) _ _ (by omega) (fI_s j) (by rw [hin2, trz, if_neg (fun z => z.elim h34 h40), show tryF t (fI i) (fI j) (-(thd tog i j)) = none from hz1, show tryF t (fI i) (fI j) (thd tog i j) = none from hz2]; rfl) hex
                · exact absurd h67 (by decide)
              · refine g_if_eq 72 70 dX0_searchTogether_67 rfl (by decide) (fun h67 => ?_) (fun h67 => ?_)
                · exact absurd h67 (by decide)
                · refine g_iconst (1) 71 dX0_searchTogether_70 rfl (by decide) ?_
                  refine g_zret dX0_searchTogether_71 (by decide) ?_
                  exact rs_yes (hfound q (by rw [hin2, trz, if_neg (fun z => z.elim h34 h40)]; rw [show tryF t (fI i) (fI j) (-(thd tog i j)) = none from hz1, show tryF t (fI i) (fI j) (thd tog i j) = some q from hz2]; rfl))
          · refine g_if_ne 70 57 dX0_searchTogether_54 rfl (by decide) (fun h54 => ?_) (fun h54 => ?_)
            · refine g_iconst (1) 71 dX0_searchTogether_70 rfl (by decide) ?_
              refine g_zret dX0_searchTogether_71 (by decide) ?_
              exact rs_yes (hfound q (by rw [hin2, trz, if_neg (fun z => z.elim h34 h40)]; rw [show tryF t (fI i) (fI j) (-(thd tog i j)) = some q from hz1]; rfl))
            · exact absurd h54 (by decide)

set_option maxRecDepth 100000 in
set_option maxHeartbeats 4000000 in
theorem lp_outr (g : Gl) (l : Launch) (t tog : Int32) (F : Nat → Nat → Int32) (J : Nat → Int64) {XX : State → Method → Prop} (n : Nat) : ∀ (i : Nat) (ix : Int32) (x4 x5 : Option Value), i + n = 9 → ix = fI i → outr t tog 9 = outr t tog n → Gj g l (rmd 3 0 0) XX (QM g (rsZ (outr t tog 9) F J) 0 0) RX0 cX0_searchTogether 6 (some .boolean) 3 [some (.ref 99), some (.int t), some (.int tog), some (.int ix), x4, x5] [] (St F J) 0 0 := by
  induction n with
  | zero =>
    intro i ix x4 x5 hi hx ho
    obtain rfl : i = 9 := by omega
    subst hx
    refine g_iload_n 4 dX0_searchTogether_3 rfl rfl ?_
    refine g_iconst (4) 5 dX0_searchTogether_4 rfl (by decide) ?_
    refine g_icmp_gt 84 8 dX0_searchTogether_5 rfl (by decide) (fun h5 => ?_) (fun h5 => ?_)
    · refine g_iconst (0) 85 dX0_searchTogether_84 rfl (by decide) ?_
      refine g_zret dX0_searchTogether_85 (by decide) ?_
      exact rs_no (by rw [ho]; rfl)
    · exact absurd fI_out h5
  | succ n ih =>
    intro i ix x4 x5 hi hx ho
    subst hx
    have hi8 : 8 - n = i := by omega
    have ho2 : outr t tog 9 = (inn t tog i 9).or (outr t tog n) := by rw [ho, outr, hi8]
    refine g_iload_n 4 dX0_searchTogether_3 rfl rfl ?_
    refine g_iconst (4) 5 dX0_searchTogether_4 rfl (by decide) ?_
    refine g_icmp_gt 84 8 dX0_searchTogether_5 rfl (by decide) (fun h5 => ?_) (fun h5 => ?_)
    · exact absurd h5 (fI_in i (by omega))
    · refine g_bipush (-4) 10 dX0_searchTogether_8 rfl (by decide) ?_
      refine g_istore 12 dX0_searchTogether_10 rfl (by decide) ?_
      refine lp_inn g l t tog F J i (by omega) (fun q hq => by rw [ho2, hq]; rfl) 9 0 _ _ rfl rfl rfl (fun hno x4 x5 => ?_)
      refine g_iinc (1) 81 dX0_searchTogether_78 rfl (by decide) (by decide) rfl ?_
      refine g_goto 3 dX0_searchTogether_81 (by decide) ?_
      exact ih (i + 1) _ _ _ (by omega) (fI_s i) (by rw [ho2, hno]; rfl)

set_option maxRecDepth 100000 in
set_option maxHeartbeats 4000000 in
theorem c_searchTogether (g : Gl) (l : Launch) (t tog : Int32) (F : Nat → Nat → Int32) (J : Nat → Int64) : Ct g l yX0_searchTogether cX0_searchTogether 6 (some .boolean) 3 0 0 [.ref 99, .int t, .int tog] (St F J) (rsZ (outr t tog 9) F J) := by
  refine Ct.of rfl (by decide) rfl (Nat.le_of_ble_eq_true rfl) ?_
  refine g_bipush (-4) 2 dX0_searchTogether_0 rfl (by decide) ?_
  refine g_istore_n 3 dX0_searchTogether_2 rfl (by decide) ?_
  exact lp_outr g l t tog F J 9 0 _ _ _ rfl rfl rfl

def fitF (t : Int32) : Option Q4 := if t = 0 then some (0, 0, 0, 1) else srch t 13

set_option maxRecDepth 100000 in
set_option maxHeartbeats 4000000 in
theorem lp_search (g : Gl) (l : Launch) (t : Int32) (h0 : ¬ t = 0) (F : Nat → Nat → Int32) (J : Nat → Int64) {XX : State → Method → Prop} (n : Nat) : ∀ (i : Nat) (ix : Int32), i + n = 13 → ix = nI i → srch t 13 = srch t n → Gj g l (rmd 4 0 0) XX (QM g (rsZ (fitF t) F J) 0 0) RX0 cX0_search 3 (some .boolean) 28 [some (.ref 99), some (.int t), some (.int ix)] [] (St F J) 0 0 := by
  induction n with
  | zero =>
    intro i ix hi hx hs
    obtain rfl : i = 13 := by omega
    subst hx
    refine g_iload_n 29 dX0_search_28 rfl rfl ?_
    refine g_bipush (12) 31 dX0_search_29 rfl (by decide) ?_
    refine g_icmp_gt 51 34 dX0_search_31 rfl (by decide) (fun h31 => ?_) (fun h31 => ?_)
    · refine g_iconst (0) 52 dX0_search_51 rfl (by decide) ?_
      refine g_zret dX0_search_52 (by decide) ?_
      exact rs_no (by rw [fitF, if_neg h0, hs]; rfl)
    · exact absurd (by decide) h31
  | succ n ih =>
    intro i ix hi hx hs
    subst hx
    have hs2 : srch t 13 = (outr t (nI i) 9).or (srch t n) := by rw [hs, srch, show 12 - n = i by omega]
    refine g_iload_n 29 dX0_search_28 rfl rfl ?_
    refine g_bipush (12) 31 dX0_search_29 rfl (by decide) ?_
    refine g_icmp_gt 51 34 dX0_search_31 rfl (by decide) (fun h31 => ?_) (fun h31 => ?_)
    · exact absurd h31 (nI_nlt (a := 12) (b := i) (by omega) (by decide))
    · refine g_aload_n 35 dX0_search_34 rfl rfl ?_
      refine g_iload_n 36 dX0_search_35 rfl rfl ?_
      refine g_iload_n 37 dX0_search_36 rfl rfl ?_
      refine g_v2 0 40 dX0_search_37 rfl kl_X0_22 mv_X0_searchTogether rfl ⟨Nat.le_of_ble_eq_true rfl, Nat.le_of_ble_eq_true rfl⟩ (Nat.le_of_ble_eq_true rfl) (by first | decide | assumption | exact ⟨Nat.le_of_ble_eq_true rfl, rfl⟩) (c_searchTogether g l _ _ F J) ?_
      intro r S2 hz
      rcases hz with ⟨hz1, rfl, rfl⟩ | ⟨q, hz1, rfl, rfl⟩
      · refine g_if_eq 45 43 dX0_search_40 rfl (by decide) (fun h40 => ?_) (fun h40 => ?_)
        · refine g_iinc (1) 48 dX0_search_45 rfl (by decide) (by decide) rfl ?_
          refine g_goto 28 dX0_search_48 (by decide) ?_
          exact ih (i + 1) _ (by omega) (nI_succ i).symm (by rw [hs2, hz1]; rfl)
        · exact absurd h40 (by decide)
      · refine g_if_eq 45 43 dX0_search_40 rfl (by decide) (fun h40 => ?_) (fun h40 => ?_)
        · exact absurd h40 (by decide)
        · refine g_iconst (1) 44 dX0_search_43 rfl (by decide) ?_
          refine g_zret dX0_search_44 (by decide) ?_
          exact rs_yes (by rw [fitF, if_neg h0, hs2, hz1]; rfl)

set_option maxRecDepth 100000 in
set_option maxHeartbeats 4000000 in
theorem c_search (g : Gl) (l : Launch) (t : Int32) (F : Nat → Nat → Int32) (J : Nat → Int64) : Ct g l yX0_search cX0_search 3 (some .boolean) 4 0 0 [.ref 99, .int t] (St F J) (rsZ (fitF t) F J) := by
  refine Ct.of rfl (by decide) rfl (Nat.le_of_ble_eq_true rfl) ?_
  refine g_iload_n 1 dX0_search_0 rfl rfl ?_
  refine g_if_ne 26 4 dX0_search_1 rfl (by decide) (fun h1 => ?_) (fun h1 => ?_)
  · refine g_iconst (0) 27 dX0_search_26 rfl (by decide) ?_
    refine g_istore_n 28 dX0_search_27 rfl (by decide) ?_
    exact lp_search g l t h1 F J 13 0 _ rfl rfl rfl
  · refine g_aload_n 5 dX0_search_4 rfl rfl ?_
    refine g_iconst (0) 6 dX0_search_5 rfl (by decide) ?_
    refine gp_0_0 9 dX0_search_6 rfl kf_X0_9 (by first | decide | assumption | exact ⟨Nat.le_of_ble_eq_true rfl, rfl⟩) ?_
    refine g_aload_n 10 dX0_search_9 rfl rfl ?_
    refine g_iconst (0) 11 dX0_search_10 rfl (by decide) ?_
    refine gp_0_1 14 dX0_search_11 rfl kf_X0_13 (by first | decide | assumption | exact ⟨Nat.le_of_ble_eq_true rfl, rfl⟩) ?_
    refine g_aload_n 15 dX0_search_14 rfl rfl ?_
    refine g_iconst (0) 16 dX0_search_15 rfl (by decide) ?_
    refine gp_0_2 19 dX0_search_16 rfl kf_X0_16 (by first | decide | assumption | exact ⟨Nat.le_of_ble_eq_true rfl, rfl⟩) ?_
    refine g_aload_n 20 dX0_search_19 rfl rfl ?_
    refine g_iconst (1) 21 dX0_search_20 rfl (by decide) ?_
    refine gp_0_3 24 dX0_search_21 rfl kf_X0_19 (by first | decide | assumption | exact ⟨Nat.le_of_ble_eq_true rfl, rfl⟩) ?_
    refine g_iconst (1) 25 dX0_search_24 rfl (by decide) ?_
    refine g_zret dX0_search_25 (by decide) ?_
    rw [ft_set]
    exact rs_yes (by rw [fitF, if_pos h1])

