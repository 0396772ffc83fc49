/-! the reference: tokens (2) -/
theorem wend_sm {tb : Nat → Int32} : ∀ {n m j : Nat}, m ≤ j → j < wend tb n m → isSm (tb j)
  | 0, m, j, h1, h2 => by rw [wend] at h2; omega
  | n + 1, m, j, h1, h2 => by
    rw [wend] at h2
    by_cases q : isSm (tb m)
    · rw [if_pos q] at h2
      by_cases e : j = m
      · rw [e]; exact q
      · exact wend_sm (by omega) h2
    · rw [if_neg q] at h2; omega
theorem lN_e2 {a b : Nat} (ha : a < 2 ^ 62) (hb : b < 2 ^ 62) : lN a = lN b ↔ a = b := by
  constructor
  · intro h
    have := congrArg Int64.toInt h
    rw [show lN a = Int64.ofNat a from rfl, show lN b = Int64.ofNat b from rfl, Int64.toInt_ofNat_of_lt (by omega), Int64.toInt_ofNat_of_lt (by omega)] at this
    omega
  · intro h; rw [h]
theorem addM_n (v : Nat) {b : Nat} (h1 : 97 ≤ b) (h2 : b ≤ 122) : addM (lN v) (nI b) = lN (256 * v + b) := by
  rw [addM, if_neg (nI_ne0 (by omega) (by omega)), nI_l (by omega)]
  show (256 : Int64) * Int64.ofNat v + Int64.ofNat b = Int64.ofNat (256 * v + b)
  rw [Int64.ofNat_add, Int64.ofNat_mul]; rfl
theorem spl_0 (tb : Nat → Int32) (a b : Nat) : spl tb a b 0 ↔ b = a + 3 ∧ tb (a + 0) = 97 ∧ tb (a + 1) = 100 ∧ tb (a + 2) = 100 := by
  constructor
  · rintro ⟨h1, h2⟩
    exact ⟨h1, h2 0 (by decide), h2 1 (by decide), h2 2 (by decide)⟩
  · rintro ⟨h1, c0, c1, c2⟩
    refine ⟨h1, fun j hj => ?_⟩
    match j, hj with
    | 0, _ => exact c0
    | 1, _ => exact c1
    | 2, _ => exact c2
theorem spl_1 (tb : Nat → Int32) (a b : Nat) : spl tb a b 1 ↔ b = a + 5 ∧ tb (a + 0) = 116 ∧ tb (a + 1) = 105 ∧ tb (a + 2) = 109 ∧ tb (a + 3) = 101 ∧ tb (a + 4) = 115 := by
  constructor
  · rintro ⟨h1, h2⟩
    exact ⟨h1, h2 0 (by decide), h2 1 (by decide), h2 2 (by decide), h2 3 (by decide), h2 4 (by decide)⟩
  · rintro ⟨h1, c0, c1, c2, c3, c4⟩
    refine ⟨h1, fun j hj => ?_⟩
    match j, hj with
    | 0, _ => exact c0
    | 1, _ => exact c1
    | 2, _ => exact c2
    | 3, _ => exact c3
    | 4, _ => exact c4
theorem spl_2 (tb : Nat → Int32) (a b : Nat) : spl tb a b 2 ↔ b = a + 3 ∧ tb (a + 0) = 99 ∧ tb (a + 1) = 117 ∧ tb (a + 2) = 116 := by
  constructor
  · rintro ⟨h1, h2⟩
    exact ⟨h1, h2 0 (by decide), h2 1 (by decide), h2 2 (by decide)⟩
  · rintro ⟨h1, c0, c1, c2⟩
    refine ⟨h1, fun j hj => ?_⟩
    match j, hj with
    | 0, _ => exact c0
    | 1, _ => exact c1
    | 2, _ => exact c2
theorem spl_3 (tb : Nat → Int32) (a b : Nat) : spl tb a b 3 ↔ b = a + 4 ∧ tb (a + 0) = 116 ∧ tb (a + 1) = 114 ∧ tb (a + 2) = 105 ∧ tb (a + 3) = 109 := by
  constructor
  · rintro ⟨h1, h2⟩
    exact ⟨h1, h2 0 (by decide), h2 1 (by decide), h2 2 (by decide), h2 3 (by decide)⟩
  · rintro ⟨h1, c0, c1, c2, c3⟩
    refine ⟨h1, fun j hj => ?_⟩
    match j, hj with
    | 0, _ => exact c0
    | 1, _ => exact c1
    | 2, _ => exact c2
    | 3, _ => exact c3
theorem spl_4 (tb : Nat → Int32) (a b : Nat) : spl tb a b 4 ↔ b = a + 4 ∧ tb (a + 0) = 100 ∧ tb (a + 1) = 114 ∧ tb (a + 2) = 111 ∧ tb (a + 3) = 112 := by
  constructor
  · rintro ⟨h1, h2⟩
    exact ⟨h1, h2 0 (by decide), h2 1 (by decide), h2 2 (by decide), h2 3 (by decide)⟩
  · rintro ⟨h1, c0, c1, c2, c3⟩
    refine ⟨h1, fun j hj => ?_⟩
    match j, hj with
    | 0, _ => exact c0
    | 1, _ => exact c1
    | 2, _ => exact c2
    | 3, _ => exact c3
theorem spl_5 (tb : Nat → Int32) (a b : Nat) : spl tb a b 5 ↔ b = a + 2 ∧ tb (a + 0) = 115 ∧ tb (a + 1) = 111 := by
  constructor
  · rintro ⟨h1, h2⟩
    exact ⟨h1, h2 0 (by decide), h2 1 (by decide)⟩
  · rintro ⟨h1, c0, c1⟩
    refine ⟨h1, fun j hj => ?_⟩
    match j, hj with
    | 0, _ => exact c0
    | 1, _ => exact c1
theorem spl_6 (tb : Nat → Int32) (a b : Nat) : spl tb a b 6 ↔ b = a + 3 ∧ tb (a + 0) = 110 ∧ tb (a + 1) = 111 ∧ tb (a + 2) = 116 := by
  constructor
  · rintro ⟨h1, h2⟩
    exact ⟨h1, h2 0 (by decide), h2 1 (by decide), h2 2 (by decide)⟩
  · rintro ⟨h1, c0, c1, c2⟩
    refine ⟨h1, fun j hj => ?_⟩
    match j, hj with
    | 0, _ => exact c0
    | 1, _ => exact c1
    | 2, _ => exact c2
theorem spl_7 (tb : Nat → Int32) (a b : Nat) : spl tb a b 7 ↔ b = a + 5 ∧ tb (a + 0) = 99 ∧ tb (a + 1) = 108 ∧ tb (a + 2) = 97 ∧ tb (a + 3) = 105 ∧ tb (a + 4) = 109 := by
  constructor
  · rintro ⟨h1, h2⟩
    exact ⟨h1, h2 0 (by decide), h2 1 (by decide), h2 2 (by decide), h2 3 (by decide), h2 4 (by decide)⟩
  · rintro ⟨h1, c0, c1, c2, c3, c4⟩
    refine ⟨h1, fun j hj => ?_⟩
    match j, hj with
    | 0, _ => exact c0
    | 1, _ => exact c1
    | 2, _ => exact c2
    | 3, _ => exact c3
    | 4, _ => exact c4
theorem wk_chain {v : Int64} {tb : Nat → Int32} {a b : Nat} (h0 : v = 6382692 ↔ spl tb a b 0) (h1 : v = 499984983411 ↔ spl tb a b 1) (h2 : v = 6518132 ↔ spl tb a b 2) (h3 : v = 1953655149 ↔ spl tb a b 3) (h4 : v = 1685221232 ↔ spl tb a b 4) (h5 : v = 29551 ↔ spl tb a b 5) (h6 : v = 7237492 ↔ spl tb a b 6) (h7 : v = 427020085613 ↔ spl tb a b 7) : (stk tb a b = 0 ∧ wrd v = -9) ∨ (¬ stk tb a b = 0 ∧ ¬ wrd v = -9 ∧ wrd v + 1 = stk tb a b) := by
  by_cases q0 : v = 6382692
  · have e1 : wrd v = 0 := by rw [wrd, if_pos q0]
    have e2 : stk tb a b = 1 := by rw [stk, if_pos (h0.mp q0)]
    rw [e1, e2]; exact Or.inr ⟨by decide, by decide, by decide⟩
  by_cases q1 : v = 499984983411
  · have e1 : wrd v = 1 := by rw [wrd, if_neg q0, if_pos q1]
    have e2 : stk tb a b = 2 := by rw [stk, if_neg (fun z => q0 (h0.mpr z)), if_pos (h1.mp q1)]
    rw [e1, e2]; exact Or.inr ⟨by decide, by decide, by decide⟩
  by_cases q2 : v = 6518132
  · have e1 : wrd v = 2 := by rw [wrd, if_neg q0, if_neg q1, if_pos q2]
    have e2 : stk tb a b = 3 := by rw [stk, if_neg (fun z => q0 (h0.mpr z)), if_neg (fun z => q1 (h1.mpr z)), if_pos (h2.mp q2)]
    rw [e1, e2]; exact Or.inr ⟨by decide, by decide, by decide⟩
  by_cases q3 : v = 1953655149
  · have e1 : wrd v = 3 := by rw [wrd, if_neg q0, if_neg q1, if_neg q2, if_pos q3]
    have e2 : stk tb a b = 4 := by rw [stk, if_neg (fun z => q0 (h0.mpr z)), if_neg (fun z => q1 (h1.mpr z)), if_neg (fun z => q2 (h2.mpr z)), if_pos (h3.mp q3)]
    rw [e1, e2]; exact Or.inr ⟨by decide, by decide, by decide⟩
  by_cases q4 : v = 1685221232
  · have e1 : wrd v = 4 := by rw [wrd, if_neg q0, if_neg q1, if_neg q2, if_neg q3, if_pos q4]
    have e2 : stk tb a b = 5 := by rw [stk, if_neg (fun z => q0 (h0.mpr z)), if_neg (fun z => q1 (h1.mpr z)), if_neg (fun z => q2 (h2.mpr z)), if_neg (fun z => q3 (h3.mpr z)), if_pos (h4.mp q4)]
    rw [e1, e2]; exact Or.inr ⟨by decide, by decide, by decide⟩
  by_cases q5 : v = 29551
  · have e1 : wrd v = 5 := by rw [wrd, if_neg q0, if_neg q1, if_neg q2, if_neg q3, if_neg q4, if_pos q5]
    have e2 : stk tb a b = 6 := by rw [stk, if_neg (fun z => q0 (h0.mpr z)), if_neg (fun z => q1 (h1.mpr z)), if_neg (fun z => q2 (h2.mpr z)), if_neg (fun z => q3 (h3.mpr z)), if_neg (fun z => q4 (h4.mpr z)), if_pos (h5.mp q5)]
    rw [e1, e2]; exact Or.inr ⟨by decide, by decide, by decide⟩
  by_cases q6 : v = 7237492
  · have e1 : wrd v = 6 := by rw [wrd, if_neg q0, if_neg q1, if_neg q2, if_neg q3, if_neg q4, if_neg q5, if_pos q6]
    have e2 : stk tb a b = 7 := by rw [stk, if_neg (fun z => q0 (h0.mpr z)), if_neg (fun z => q1 (h1.mpr z)), if_neg (fun z => q2 (h2.mpr z)), if_neg (fun z => q3 (h3.mpr z)), if_neg (fun z => q4 (h4.mpr z)), if_neg (fun z => q5 (h5.mpr z)), if_pos (h6.mp q6)]
    rw [e1, e2]; exact Or.inr ⟨by decide, by decide, by decide⟩
  by_cases q7 : v = 427020085613
  · have e1 : wrd v = 7 := by rw [wrd, if_neg q0, if_neg q1, if_neg q2, if_neg q3, if_neg q4, if_neg q5, if_neg q6, if_pos q7]
    have e2 : stk tb a b = 8 := by rw [stk, if_neg (fun z => q0 (h0.mpr z)), if_neg (fun z => q1 (h1.mpr z)), if_neg (fun z => q2 (h2.mpr z)), if_neg (fun z => q3 (h3.mpr z)), if_neg (fun z => q4 (h4.mpr z)), if_neg (fun z => q5 (h5.mpr z)), if_neg (fun z => q6 (h6.mpr z)), if_pos (h7.mp q7)]
    rw [e1, e2]; exact Or.inr ⟨by decide, by decide, by decide⟩
  exact Or.inl ⟨by rw [stk, if_neg (fun z => q0 (h0.mpr z)), if_neg (fun z => q1 (h1.mpr z)), if_neg (fun z => q2 (h2.mpr z)), if_neg (fun z => q3 (h3.mpr z)), if_neg (fun z => q4 (h4.mpr z)), if_neg (fun z => q5 (h5.mpr z)), if_neg (fun z => q6 (h6.mpr z)), if_neg (fun z => q7 (h7.mpr z))], by rw [wrd, if_neg q0, if_neg q1, if_neg q2, if_neg q3, if_neg q4, if_neg q5, if_neg q6, if_neg q7]⟩
theorem wrd_2 {tb : Nat → Int32} {m b0 b1 : Nat} (l0 : 97 ≤ b0) (u0 : b0 ≤ 122) (e0 : tb (m + 0) = nI b0) (l1 : 97 ≤ b1) (u1 : b1 ≤ 122) (e1 : tb (m + 1) = nI b1) : (stk tb m (m + 2) = 0 ∧ wrd (we5 tb m 2) = -9) ∨ (¬ stk tb m (m + 2) = 0 ∧ ¬ wrd (we5 tb m 2) = -9 ∧ wrd (we5 tb m 2) + 1 = stk tb m (m + 2)) := by
  have hv : we5 tb m 2 = lN (256 * (256 * 0 + b0) + b1) := by
    show addM (addM ((0 : Int64)) (tb (m + 0))) (tb (m + 1)) = _
    rw [show (0 : Int64) = lN 0 from rfl, e0, addM_n _ l0 u0, e1, addM_n _ l1 u1]
  refine wk_chain ?_ ?_ ?_ ?_ ?_ ?_ ?_ ?_
  · rw [hv, spl_0, show (6382692 : Int64) = lN 6382692 from rfl, lN_e2 (by omega) (by omega)]
    constructor
    · intro z; omega
    · intro z; have := z.1; omega
  · rw [hv, spl_1, show (499984983411 : Int64) = lN 499984983411 from rfl, lN_e2 (by omega) (by omega)]
    constructor
    · intro z; omega
    · intro z; have := z.1; omega
  · rw [hv, spl_2, show (6518132 : Int64) = lN 6518132 from rfl, lN_e2 (by omega) (by omega)]
    constructor
    · intro z; omega
    · intro z; have := z.1; omega
  · rw [hv, spl_3, show (1953655149 : Int64) = lN 1953655149 from rfl, lN_e2 (by omega) (by omega)]
    constructor
    · intro z; omega
    · intro z; have := z.1; omega
  · rw [hv, spl_4, show (1685221232 : Int64) = lN 1685221232 from rfl, lN_e2 (by omega) (by omega)]
    constructor
    · intro z; omega
    · intro z; have := z.1; omega
  · rw [hv, spl_5, show (29551 : Int64) = lN 29551 from rfl, lN_e2 (by omega) (by omega)]
    have z0 : tb (m + 0) = 115 ↔ b0 = 115 := by rw [e0]; exact nI_eq (b := 115) (by omega) (by omega)
    have z1 : tb (m + 1) = 111 ↔ b1 = 111 := by rw [e1]; exact nI_eq (b := 111) (by omega) (by omega)
    rw [z0, z1]
    omega
  · rw [hv, spl_6, show (7237492 : Int64) = lN 7237492 from rfl, lN_e2 (by omega) (by omega)]
    constructor
    · intro z; omega
    · intro z; have := z.1; omega
  · rw [hv, spl_7, show (427020085613 : Int64) = lN 427020085613 from rfl, lN_e2 (by omega) (by omega)]
    constructor
    · intro z; omega
    · intro z; have := z.1; omega
theorem wrd_3 {tb : Nat → Int32} {m b0 b1 b2 : Nat} (l0 : 97 ≤ b0) (u0 : b0 ≤ 122) (e0 : tb (m + 0) = nI b0) (l1 : 97 ≤ b1) (u1 : b1 ≤ 122) (e1 : tb (m + 1) = nI b1) (l2 : 97 ≤ b2) (u2 : b2 ≤ 122) (e2 : tb (m + 2) = nI b2) : (stk tb m (m + 3) = 0 ∧ wrd (we5 tb m 3) = -9) ∨ (¬ stk tb m (m + 3) = 0 ∧ ¬ wrd (we5 tb m 3) = -9 ∧ wrd (we5 tb m 3) + 1 = stk tb m (m + 3)) := by
  have hv : we5 tb m 3 = lN (256 * (256 * (256 * 0 + b0) + b1) + b2) := by
    show addM (addM (addM ((0 : Int64)) (tb (m + 0))) (tb (m + 1))) (tb (m + 2)) = _
    rw [show (0 : Int64) = lN 0 from rfl, e0, addM_n _ l0 u0, e1, addM_n _ l1 u1, e2, addM_n _ l2 u2]
  refine wk_chain ?_ ?_ ?_ ?_ ?_ ?_ ?_ ?_
  · rw [hv, spl_0, show (6382692 : Int64) = lN 6382692 from rfl, lN_e2 (by omega) (by omega)]
    have z0 : tb (m + 0) = 97 ↔ b0 = 97 := by rw [e0]; exact nI_eq (b := 97) (by omega) (by omega)
    have z1 : tb (m + 1) = 100 ↔ b1 = 100 := by rw [e1]; exact nI_eq (b := 100) (by omega) (by omega)
    have z2 : tb (m + 2) = 100 ↔ b2 = 100 := by rw [e2]; exact nI_eq (b := 100) (by omega) (by omega)
    rw [z0, z1, z2]
    omega
  · rw [hv, spl_1, show (499984983411 : Int64) = lN 499984983411 from rfl, lN_e2 (by omega) (by omega)]
    constructor
    · intro z; omega
    · intro z; have := z.1; omega
  · rw [hv, spl_2, show (6518132 : Int64) = lN 6518132 from rfl, lN_e2 (by omega) (by omega)]
    have z0 : tb (m + 0) = 99 ↔ b0 = 99 := by rw [e0]; exact nI_eq (b := 99) (by omega) (by omega)
    have z1 : tb (m + 1) = 117 ↔ b1 = 117 := by rw [e1]; exact nI_eq (b := 117) (by omega) (by omega)
    have z2 : tb (m + 2) = 116 ↔ b2 = 116 := by rw [e2]; exact nI_eq (b := 116) (by omega) (by omega)
    rw [z0, z1, z2]
    omega
  · rw [hv, spl_3, show (1953655149 : Int64) = lN 1953655149 from rfl, lN_e2 (by omega) (by omega)]
    constructor
    · intro z; omega
    · intro z; have := z.1; omega
  · rw [hv, spl_4, show (1685221232 : Int64) = lN 1685221232 from rfl, lN_e2 (by omega) (by omega)]
    constructor
    · intro z; omega
    · intro z; have := z.1; omega
  · rw [hv, spl_5, show (29551 : Int64) = lN 29551 from rfl, lN_e2 (by omega) (by omega)]
    constructor
    · intro z; omega
    · intro z; have := z.1; omega
  · rw [hv, spl_6, show (7237492 : Int64) = lN 7237492 from rfl, lN_e2 (by omega) (by omega)]
    have z0 : tb (m + 0) = 110 ↔ b0 = 110 := by rw [e0]; exact nI_eq (b := 110) (by omega) (by omega)
    have z1 : tb (m + 1) = 111 ↔ b1 = 111 := by rw [e1]; exact nI_eq (b := 111) (by omega) (by omega)
    have z2 : tb (m + 2) = 116 ↔ b2 = 116 := by rw [e2]; exact nI_eq (b := 116) (by omega) (by omega)
    rw [z0, z1, z2]
    omega
  · rw [hv, spl_7, show (427020085613 : Int64) = lN 427020085613 from rfl, lN_e2 (by omega) (by omega)]
    constructor
    · intro z; omega
    · intro z; have := z.1; omega
theorem wrd_4 {tb : Nat → Int32} {m b0 b1 b2 b3 : Nat} (l0 : 97 ≤ b0) (u0 : b0 ≤ 122) (e0 : tb (m + 0) = nI b0) (l1 : 97 ≤ b1) (u1 : b1 ≤ 122) (e1 : tb (m + 1) = nI b1) (l2 : 97 ≤ b2) (u2 : b2 ≤ 122) (e2 : tb (m + 2) = nI b2) (l3 : 97 ≤ b3) (u3 : b3 ≤ 122) (e3 : tb (m + 3) = nI b3) : (stk tb m (m + 4) = 0 ∧ wrd (we5 tb m 4) = -9) ∨ (¬ stk tb m (m + 4) = 0 ∧ ¬ wrd (we5 tb m 4) = -9 ∧ wrd (we5 tb m 4) + 1 = stk tb m (m + 4)) := by
  have hv : we5 tb m 4 = lN (256 * (256 * (256 * (256 * 0 + b0) + b1) + b2) + b3) := by
    show addM (addM (addM (addM ((0 : Int64)) (tb (m + 0))) (tb (m + 1))) (tb (m + 2))) (tb (m + 3)) = _
    rw [show (0 : Int64) = lN 0 from rfl, e0, addM_n _ l0 u0, e1, addM_n _ l1 u1, e2, addM_n _ l2 u2, e3, addM_n _ l3 u3]
  refine wk_chain ?_ ?_ ?_ ?_ ?_ ?_ ?_ ?_
  · rw [hv, spl_0, show (6382692 : Int64) = lN 6382692 from rfl, lN_e2 (by omega) (by omega)]
    constructor
    · intro z; omega
    · intro z; have := z.1; omega
  · rw [hv, spl_1, show (499984983411 : Int64) = lN 499984983411 from rfl, lN_e2 (by omega) (by omega)]
    constructor
    · intro z; omega
    · intro z; have := z.1; omega
  · rw [hv, spl_2, show (6518132 : Int64) = lN 6518132 from rfl, lN_e2 (by omega) (by omega)]
    constructor
    · intro z; omega
    · intro z; have := z.1; omega
  · rw [hv, spl_3, show (1953655149 : Int64) = lN 1953655149 from rfl, lN_e2 (by omega) (by omega)]
    have z0 : tb (m + 0) = 116 ↔ b0 = 116 := by rw [e0]; exact nI_eq (b := 116) (by omega) (by omega)
    have z1 : tb (m + 1) = 114 ↔ b1 = 114 := by rw [e1]; exact nI_eq (b := 114) (by omega) (by omega)
    have z2 : tb (m + 2) = 105 ↔ b2 = 105 := by rw [e2]; exact nI_eq (b := 105) (by omega) (by omega)
    have z3 : tb (m + 3) = 109 ↔ b3 = 109 := by rw [e3]; exact nI_eq (b := 109) (by omega) (by omega)
    rw [z0, z1, z2, z3]
    omega
  · rw [hv, spl_4, show (1685221232 : Int64) = lN 1685221232 from rfl, lN_e2 (by omega) (by omega)]
    have z0 : tb (m + 0) = 100 ↔ b0 = 100 := by rw [e0]; exact nI_eq (b := 100) (by omega) (by omega)
    have z1 : tb (m + 1) = 114 ↔ b1 = 114 := by rw [e1]; exact nI_eq (b := 114) (by omega) (by omega)
    have z2 : tb (m + 2) = 111 ↔ b2 = 111 := by rw [e2]; exact nI_eq (b := 111) (by omega) (by omega)
    have z3 : tb (m + 3) = 112 ↔ b3 = 112 := by rw [e3]; exact nI_eq (b := 112) (by omega) (by omega)
    rw [z0, z1, z2, z3]
    omega
  · rw [hv, spl_5, show (29551 : Int64) = lN 29551 from rfl, lN_e2 (by omega) (by omega)]
    constructor
    · intro z; omega
    · intro z; have := z.1; omega
  · rw [hv, spl_6, show (7237492 : Int64) = lN 7237492 from rfl, lN_e2 (by omega) (by omega)]
    constructor
    · intro z; omega
    · intro z; have := z.1; omega
  · rw [hv, spl_7, show (427020085613 : Int64) = lN 427020085613 from rfl, lN_e2 (by omega) (by omega)]
    constructor
    · intro z; omega
    · intro z; have := z.1; omega
theorem wrd_5 {tb : Nat → Int32} {m b0 b1 b2 b3 b4 : Nat} (l0 : 97 ≤ b0) (u0 : b0 ≤ 122) (e0 : tb (m + 0) = nI b0) (l1 : 97 ≤ b1) (u1 : b1 ≤ 122) (e1 : tb (m + 1) = nI b1) (l2 : 97 ≤ b2) (u2 : b2 ≤ 122) (e2 : tb (m + 2) = nI b2) (l3 : 97 ≤ b3) (u3 : b3 ≤ 122) (e3 : tb (m + 3) = nI b3) (l4 : 97 ≤ b4) (u4 : b4 ≤ 122) (e4 : tb (m + 4) = nI b4) : (stk tb m (m + 5) = 0 ∧ wrd (we5 tb m 5) = -9) ∨ (¬ stk tb m (m + 5) = 0 ∧ ¬ wrd (we5 tb m 5) = -9 ∧ wrd (we5 tb m 5) + 1 = stk tb m (m + 5)) := by
  have hv : we5 tb m 5 = lN (256 * (256 * (256 * (256 * (256 * 0 + b0) + b1) + b2) + b3) + b4) := by
    show addM (addM (addM (addM (addM ((0 : Int64)) (tb (m + 0))) (tb (m + 1))) (tb (m + 2))) (tb (m + 3))) (tb (m + 4)) = _
    rw [show (0 : Int64) = lN 0 from rfl, e0, addM_n _ l0 u0, e1, addM_n _ l1 u1, e2, addM_n _ l2 u2, e3, addM_n _ l3 u3, e4, addM_n _ l4 u4]
  refine wk_chain ?_ ?_ ?_ ?_ ?_ ?_ ?_ ?_
  · rw [hv, spl_0, show (6382692 : Int64) = lN 6382692 from rfl, lN_e2 (by omega) (by omega)]
    constructor
    · intro z; omega
    · intro z; have := z.1; omega
  · rw [hv, spl_1, show (499984983411 : Int64) = lN 499984983411 from rfl, lN_e2 (by omega) (by omega)]
    have z0 : tb (m + 0) = 116 ↔ b0 = 116 := by rw [e0]; exact nI_eq (b := 116) (by omega) (by omega)
    have z1 : tb (m + 1) = 105 ↔ b1 = 105 := by rw [e1]; exact nI_eq (b := 105) (by omega) (by omega)
    have z2 : tb (m + 2) = 109 ↔ b2 = 109 := by rw [e2]; exact nI_eq (b := 109) (by omega) (by omega)
    have z3 : tb (m + 3) = 101 ↔ b3 = 101 := by rw [e3]; exact nI_eq (b := 101) (by omega) (by omega)
    have z4 : tb (m + 4) = 115 ↔ b4 = 115 := by rw [e4]; exact nI_eq (b := 115) (by omega) (by omega)
    rw [z0, z1, z2, z3, z4]
    omega
  · rw [hv, spl_2, show (6518132 : Int64) = lN 6518132 from rfl, lN_e2 (by omega) (by omega)]
    constructor
    · intro z; omega
    · intro z; have := z.1; omega
  · rw [hv, spl_3, show (1953655149 : Int64) = lN 1953655149 from rfl, lN_e2 (by omega) (by omega)]
    constructor
    · intro z; omega
    · intro z; have := z.1; omega
  · rw [hv, spl_4, show (1685221232 : Int64) = lN 1685221232 from rfl, lN_e2 (by omega) (by omega)]
    constructor
    · intro z; omega
    · intro z; have := z.1; omega
  · rw [hv, spl_5, show (29551 : Int64) = lN 29551 from rfl, lN_e2 (by omega) (by omega)]
    constructor
    · intro z; omega
    · intro z; have := z.1; omega
  · rw [hv, spl_6, show (7237492 : Int64) = lN 7237492 from rfl, lN_e2 (by omega) (by omega)]
    constructor
    · intro z; omega
    · intro z; have := z.1; omega
  · rw [hv, spl_7, show (427020085613 : Int64) = lN 427020085613 from rfl, lN_e2 (by omega) (by omega)]
    have z0 : tb (m + 0) = 99 ↔ b0 = 99 := by rw [e0]; exact nI_eq (b := 99) (by omega) (by omega)
    have z1 : tb (m + 1) = 108 ↔ b1 = 108 := by rw [e1]; exact nI_eq (b := 108) (by omega) (by omega)
    have z2 : tb (m + 2) = 97 ↔ b2 = 97 := by rw [e2]; exact nI_eq (b := 97) (by omega) (by omega)
    have z3 : tb (m + 3) = 105 ↔ b3 = 105 := by rw [e3]; exact nI_eq (b := 105) (by omega) (by omega)
    have z4 : tb (m + 4) = 109 ↔ b4 = 109 := by rw [e4]; exact nI_eq (b := 109) (by omega) (by omega)
    rw [z0, z1, z2, z3, z4]
    omega
theorem stk_len {tb : Nat → Int32} {m k : Nat} (hk : 5 < k) : stk tb m (m + k) = 0 := by
  unfold stk
  rw [if_neg (fun z => by have := ((spl_0 tb m (m + k)).mp z).1; omega), if_neg (fun z => by have := ((spl_1 tb m (m + k)).mp z).1; omega), if_neg (fun z => by have := ((spl_2 tb m (m + k)).mp z).1; omega), if_neg (fun z => by have := ((spl_3 tb m (m + k)).mp z).1; omega), if_neg (fun z => by have := ((spl_4 tb m (m + k)).mp z).1; omega), if_neg (fun z => by have := ((spl_5 tb m (m + k)).mp z).1; omega), if_neg (fun z => by have := ((spl_6 tb m (m + k)).mp z).1; omega), if_neg (fun z => by have := ((spl_7 tb m (m + k)).mp z).1; omega)]
theorem wordK {tb : Nat → Int32} {m k : Nat} (h1 : 1 ≤ k) (hs : ∀ j, j < k → isSm (tb (m + j))) : kR (tkWm tb m k).1 (tkWm tb m k).2 (if k = 1 then (if 6 ≤ tb m - 97 then 8 else 1) else (if stk tb m (m + k) = 0 then 8 else 7)) (if k = 1 then tb m - 97 else stk tb m (m + k)) := by
  by_cases hk : k = 1
  · subst hk
    rw [if_pos rfl, if_pos rfl, tkWm, if_pos rfl]
    obtain ⟨b, b1, b2, e⟩ := sm_n (hs 0 (by decide))
    rw [Nat.add_zero] at e
    have e97 : tb m - 97 = nI (b - 97) := by rw [e]; exact pk_sub (a := b) (b := 97) b1
    by_cases q : 103 ≤ b
    · have a1 : 103 ≤ tb m := by rw [e]; exact nI_le (a := 103) q (by omega)
      have a2 : 6 ≤ tb m - 97 := by rw [e97]; exact nI_le (a := 6) (by omega) (by omega)
      rw [if_pos a1, if_pos a2]; exact Or.inl ⟨rfl, rfl⟩
    · have a1 : ¬ 103 ≤ tb m := by rw [e]; exact nI_ge (b := 103) (by omega) (by omega)
      have a2 : ¬ 6 ≤ tb m - 97 := by rw [e97]; exact nI_ge (b := 6) (by omega) (by omega)
      rw [if_neg a1, if_neg a2]; exact Or.inr (Or.inl ⟨rfl, rfl, rfl⟩)
  · rw [if_neg hk, if_neg hk, tkWm, if_neg hk]
    by_cases h5 : 5 < k
    · rw [if_pos h5, stk_len h5, if_pos rfl]; exact Or.inl ⟨rfl, rfl⟩
    · rw [if_neg h5]
      have key : (stk tb m (m + k) = 0 ∧ wrd (we5 tb m k) = -9) ∨ (¬ stk tb m (m + k) = 0 ∧ ¬ wrd (we5 tb m k) = -9 ∧ wrd (we5 tb m k) + 1 = stk tb m (m + k)) := by
        have : k = 2 ∨ k = 3 ∨ k = 4 ∨ k = 5 := by omega
        rcases this with h | h | h | h <;> subst h
        · obtain ⟨b0, l0, u0, e0⟩ := sm_n (hs 0 (by decide))
          obtain ⟨b1, l1, u1, e1⟩ := sm_n (hs 1 (by decide))
          exact wrd_2 l0 u0 e0 l1 u1 e1
        · obtain ⟨b0, l0, u0, e0⟩ := sm_n (hs 0 (by decide))
          obtain ⟨b1, l1, u1, e1⟩ := sm_n (hs 1 (by decide))
          obtain ⟨b2, l2, u2, e2⟩ := sm_n (hs 2 (by decide))
          exact wrd_3 l0 u0 e0 l1 u1 e1 l2 u2 e2
        · obtain ⟨b0, l0, u0, e0⟩ := sm_n (hs 0 (by decide))
          obtain ⟨b1, l1, u1, e1⟩ := sm_n (hs 1 (by decide))
          obtain ⟨b2, l2, u2, e2⟩ := sm_n (hs 2 (by decide))
          obtain ⟨b3, l3, u3, e3⟩ := sm_n (hs 3 (by decide))
          exact wrd_4 l0 u0 e0 l1 u1 e1 l2 u2 e2 l3 u3 e3
        · obtain ⟨b0, l0, u0, e0⟩ := sm_n (hs 0 (by decide))
          obtain ⟨b1, l1, u1, e1⟩ := sm_n (hs 1 (by decide))
          obtain ⟨b2, l2, u2, e2⟩ := sm_n (hs 2 (by decide))
          obtain ⟨b3, l3, u3, e3⟩ := sm_n (hs 3 (by decide))
          obtain ⟨b4, l4, u4, e4⟩ := sm_n (hs 4 (by decide))
          exact wrd_5 l0 u0 e0 l1 u1 e1 l2 u2 e2 l3 u3 e3 l4 u4 e4
      rcases key with ⟨k1, k2⟩ | ⟨k1, k2, k3⟩
      · rw [if_pos k1, if_pos k2]; exact Or.inl ⟨rfl, rfl⟩
      · rw [if_neg k1, if_neg k2]; exact Or.inr (Or.inr (Or.inl ⟨rfl, rfl, k3⟩))
/-- a number, as the class and as the reference count it -/
def nR (xc xm : Int32) : Prop := ∃ n : Nat, n ≤ 9999 ∧ xm = nI n ∧ xc = nI (if n ≤ 999 then n else 1000)
theorem dg_n {x : Int32} (h : isDg x) : ∃ b, 48 ≤ b ∧ b ≤ 57 ∧ x = nI b := by
  obtain ⟨b, hb, e⟩ := nI_of (x := x) (fun z => h.1 (Int32.lt_trans z (by decide)))
  subst e
  refine ⟨b, ?_, ?_, rfl⟩
  · rcases Nat.lt_or_ge b 48 with q | q
    · exact absurd (nI_lt (b := 48) q (by decide)) h.1
    · exact q
  · rcases Nat.lt_or_ge 57 b with q | q
    · exact absurd (nI_lt (a := 57) q hb) h.2
    · exact q
theorem nR_st {xc xm d : Int32} (h : nR xc xm) (hd : isDg d) : nR (min32 (xc * 10 + d - 48) 1000) (if 999 < xm then xm else 10 * xm + d - 48) := by
  obtain ⟨n, hn, rfl, rfl⟩ := h
  obtain ⟨b, b1, b2, rfl⟩ := dg_n hd
  have e : ∀ q : Nat, nI q * 10 + nI b - 48 = nI (q * 10 + (b - 48)) := fun q => by
    rw [show (10 : Int32) = nI 10 from rfl, nI_mul, nI_add, show (48 : Int32) = nI 48 from rfl, sub_n (by omega), show q * 10 + b - 48 = q * 10 + (b - 48) by omega]
  have mn : ∀ q : Nat, q < 2 ^ 31 → min32 (nI q) 1000 = nI (if q ≤ 1000 then q else 1000) := fun q hq => by
    unfold min32
    by_cases z : q ≤ 1000
    · rw [if_neg (show ¬ (1000 : Int32) < nI q from nI_nlt (a := 1000) z (by decide)), if_pos z]
    · rw [if_pos (show (1000 : Int32) < nI q from nI_lt (a := 1000) (by omega) hq), if_neg z]; rfl
  by_cases q : n ≤ 999
  · rw [if_pos q, if_neg (show ¬ (999 : Int32) < nI n from nI_nlt (a := 999) q (by decide)), e n, mn _ (by omega)]
    refine ⟨n * 10 + (b - 48), by omega, ?_, ?_⟩
    · rw [show (10 : Int32) * nI n = nI n * 10 from Int32.mul_comm _ _, e n]
    · congr 1; split <;> split <;> omega
  · rw [if_neg q, if_pos (show (999 : Int32) < nI n from nI_lt (a := 999) (by omega) (by omega)), e 1000, mn _ (by omega)]
    refine ⟨n, hn, rfl, ?_⟩
    rw [if_neg q]
    congr 1; split <;> omega
theorem nR_all {tb : Nat → Int32} : ∀ {n m : Nat} {xc xm : Int32}, nR xc xm → (nvl tb n m xc).2 = (nvM tb n m xm).2 ∧ nR (nvl tb n m xc).1 (nvM tb n m xm).1
  | 0, m, xc, xm, h => ⟨rfl, h⟩
  | n + 1, m, xc, xm, h => by
    rw [nvl, nvM]
    by_cases q : isDg (tb m)
    · rw [if_pos q, if_pos q]; exact nR_all (nR_st h q)
    · rw [if_neg q, if_neg q]; exact ⟨rfl, h⟩
theorem numK {tb : Nat → Int32} {len m : Nat} : kR (tkNm tb len m) (nvM tb len m 0).1 (tkN tb len m).1 (tkN tb len m).2.1 ∧ (tkN tb len m).2.2 = (nvM tb len m 0).2 := by
  obtain ⟨h1, n, hn, e1, e2⟩ := nR_all (tb := tb) (n := len) (m := m) (xc := 0) (xm := 0) ⟨0, by omega, rfl, rfl⟩
  refine ⟨?_, h1⟩
  unfold tkN tkNm
  dsimp only
  rw [h1, e1, e2]
  by_cases q : n ≤ 999
  · rw [if_pos q]
    have n1 : ¬ (999 : Int32) < nI n := nI_nlt (a := 999) q (by decide)
    by_cases z : tb m = 48 ∧ m + 1 < (nvM tb len m 0).2
    · rw [if_pos (show 999 < nI n ∨ (tb m = 48 ∧ m + 1 < (nvM tb len m 0).2) from Or.inr z), if_pos (Or.inl z)]; exact Or.inl ⟨rfl, rfl⟩
    · rw [if_neg (show ¬ (999 < nI n ∨ (tb m = 48 ∧ m + 1 < (nvM tb len m 0).2)) from fun y => y.elim n1 z), if_neg (fun y => y.elim z n1)]; exact Or.inr (Or.inr (Or.inr (Or.inl ⟨rfl, rfl, rfl⟩)))
  · rw [if_neg q, if_pos (show 999 < nI n ∨ (tb m = 48 ∧ m + 1 < (nvM tb len m 0).2) from Or.inl (nI_lt (a := 999) (b := n) (by omega) (by omega))), if_pos (Or.inr (by decide))]; exact Or.inl ⟨rfl, rfl⟩
set_option maxRecDepth 100000 in
set_option maxHeartbeats 4000000 in
theorem adv_b (g : Gl) (l : Launch) (F : Nat → Nat → Int32) (J : Nat → Int64) {len : Nat} (hl : F 167 2 = nI len) (hlen : len ≤ 400) (hb : ∀ k, k < len → ¬ F 168 k < 0) {m : Nat} (hm : m ≤ len) (tk pl vl fl : Int32) (x1 x2 x3 x4 : Option Value) {XX : State → Method → Prop} : Gj g l (rmd 3 0 0) XX (QM g (advZ F J len m fl) 0 0) RX8 cX8_advances 5 none 26 [some (.ref 167), x1, x2, x3, x4] [] (St (mt F (nI m) tk pl vl fl) J) 0 0 := by
  by_cases hml : len ≤ m
  · obtain rfl : m = len := by omega
    have ec : bm F m m = -1 := bm_no (Nat.le_refl _)
    refine g_aload_n 27 dX8_advances_26 rfl rfl ?_
    refine g_aload_n 28 dX8_advances_27 rfl rfl ?_
    refine gf_8_3 31 dX8_advances_28 rfl kf_X8_57 (by first | decide | assumption | exact ⟨Nat.le_of_ble_eq_true rfl, rfl⟩) ?_
    refine gst_at (x2 := nI m) rfl ?_
    refine gp_8_5 34 dX8_advances_31 rfl kf_X8_64 (by first | decide | assumption | exact ⟨Nat.le_of_ble_eq_true rfl, rfl⟩) ?_
    refine gs_at (congrArg (fun x => St x J) mt_5) ?_
    refine g_aload_n 35 dX8_advances_34 rfl rfl ?_
    refine g_aload_n 36 dX8_advances_35 rfl rfl ?_
    refine gf_8_3 39 dX8_advances_36 rfl kf_X8_57 (by first | decide | assumption | exact ⟨Nat.le_of_ble_eq_true rfl, rfl⟩) ?_
    refine gst_at (x2 := nI m) rfl ?_
    refine g_v1 8 42 dX8_advances_39 rfl kl_X8_60 mv_X8_byteAt rfl ⟨Nat.le_of_ble_eq_true rfl, Nat.le_of_ble_eq_true rfl⟩ (Nat.le_of_ble_eq_true rfl) (by first | decide | assumption | exact ⟨Nat.le_of_ble_eq_true rfl, rfl⟩) (m_byteT g l F J _ _ _ _ _ hl hlen (m) (by omega)) ?_
    rintro _ _ ⟨rfl, rfl⟩
    refine g_istore_n 43 dX8_advances_42 rfl (by decide) ?_
    refine g_iload_n 44 dX8_advances_43 rfl rfl ?_
    refine gst_at ec ?_
    refine g_if_ge 55 47 dX8_advances_44 rfl (by decide) (fun h44 => ?_) (fun h44 => ?_)
    · exact absurd h44 (by decide)
    · refine g_aload_n 48 dX8_advances_47 rfl rfl ?_
      refine g_iconst (0) 49 dX8_advances_48 rfl (by decide) ?_
      refine gp_8_4 52 dX8_advances_49 rfl kf_X8_67 (by first | decide | assumption | exact ⟨Nat.le_of_ble_eq_true rfl, rfl⟩) ?_
      refine gs_at (congrArg (fun x => St x J) mt_4) ?_
      refine g_goto 432 dX8_advances_52 (by decide) ?_
      refine g_vret dX8_advances_432 ?_
      exact ⟨rfl, _, _, _, rfl, fun _ => rfl, fun z => absurd z (by omega)⟩
  · have hml2 : m < len := by omega
    have ec : bm F len m = F 168 m := by rw [bm, if_pos hml2]
    have hc0 : ¬ bm F len m < 0 := by rw [ec]; exact hb m hml2
    have hN : ∀ nx tk2 vl2, (kR tk2 vl2 (tok1 (bm F len) len m).1 (tok1 (bm F len) len m).2.1 ∧ (¬ (tok1 (bm F len) len m).1 = 8 → nx = nI (tok1 (bm F len) len m).2.2)) → advZ F J len m fl none (St (mt F nx tk2 (nI m) vl2 fl) J) := fun nx tk2 vl2 h => ⟨rfl, nx, tk2, vl2, rfl, fun z => absurd z hml, fun _ => h⟩
    refine g_aload_n 27 dX8_advances_26 rfl rfl ?_
    refine g_aload_n 28 dX8_advances_27 rfl rfl ?_
    refine gf_8_3 31 dX8_advances_28 rfl kf_X8_57 (by first | decide | assumption | exact ⟨Nat.le_of_ble_eq_true rfl, rfl⟩) ?_
    refine gst_at (x2 := nI m) rfl ?_
    refine gp_8_5 34 dX8_advances_31 rfl kf_X8_64 (by first | decide | assumption | exact ⟨Nat.le_of_ble_eq_true rfl, rfl⟩) ?_
    refine gs_at (congrArg (fun x => St x J) mt_5) ?_
    refine g_aload_n 35 dX8_advances_34 rfl rfl ?_
    refine g_aload_n 36 dX8_advances_35 rfl rfl ?_
    refine gf_8_3 39 dX8_advances_36 rfl kf_X8_57 (by first | decide | assumption | exact ⟨Nat.le_of_ble_eq_true rfl, rfl⟩) ?_
    refine gst_at (x2 := nI m) rfl ?_
    refine g_v1 8 42 dX8_advances_39 rfl kl_X8_60 mv_X8_byteAt rfl ⟨Nat.le_of_ble_eq_true rfl, Nat.le_of_ble_eq_true rfl⟩ (Nat.le_of_ble_eq_true rfl) (by first | decide | assumption | exact ⟨Nat.le_of_ble_eq_true rfl, rfl⟩) (m_byteT g l F J _ _ _ _ _ hl hlen (m) (by omega)) ?_
    rintro _ _ ⟨rfl, rfl⟩
    refine g_istore_n 43 dX8_advances_42 rfl (by decide) ?_
    refine g_iload_n 44 dX8_advances_43 rfl rfl ?_
    refine g_if_ge 55 47 dX8_advances_44 rfl (by decide) (fun h44 => ?_) (fun h44 => ?_)
    · refine g_iload_n 56 dX8_advances_55 rfl rfl ?_
      refine g_bipush (97) 58 dX8_advances_56 rfl (by decide) ?_
      refine g_bipush (122) 60 dX8_advances_58 rfl (by decide) ?_
      refine g_s3 63 dX8_advances_60 rfl kl_X8_38 ms_X8_in ⟨Nat.le_of_ble_eq_true rfl, Nat.le_of_ble_eq_true rfl⟩ (Nat.le_of_ble_eq_true rfl) (m_in g l _ _ _ _) ?_
      rintro _ _ ⟨rfl, rfl⟩
      refine g_if_eq 203 66 dX8_advances_63 rfl (by decide) (fun h63 => ?_) (fun h63 => ?_)
      · refine g_iload_n 204 dX8_advances_203 rfl rfl ?_
        refine g_bipush (48) 206 dX8_advances_204 rfl (by decide) ?_
        refine g_bipush (57) 208 dX8_advances_206 rfl (by decide) ?_
        refine g_s3 211 dX8_advances_208 rfl kl_X8_38 ms_X8_in ⟨Nat.le_of_ble_eq_true rfl, Nat.le_of_ble_eq_true rfl⟩ (Nat.le_of_ble_eq_true rfl) (m_in g l _ _ _ _) ?_
        rintro _ _ ⟨rfl, rfl⟩
        refine g_if_eq 332 214 dX8_advances_211 rfl (by decide) (fun h211 => ?_) (fun h211 => ?_)
        · have hsm : ¬ isSm (bm F len m) := b10.mp h63
          have hdg : ¬ isDg (bm F len m) := b10.mp h211
          have et : tok1 (bm F len) len m = tkS (bm F len) m := by rw [tok1, if_neg hsm, if_neg hdg]
          refine g_iload_n 333 dX8_advances_332 rfl rfl ?_
          refine g_bipush (62) 335 dX8_advances_333 rfl (by decide) ?_
          refine g_icmp_ne 384 338 dX8_advances_335 rfl (by decide) (fun h335 => ?_) (fun h335 => ?_)
          · refine g_aload_n 385 dX8_advances_384 rfl rfl ?_
            refine g_dup 386 dX8_advances_385 rfl rfl ?_
            refine gf_8_3 389 dX8_advances_386 rfl kf_X8_57 (by first | decide | assumption | exact ⟨Nat.le_of_ble_eq_true rfl, rfl⟩) ?_
            refine g_iconst (1) 390 dX8_advances_389 rfl (by decide) ?_
            refine g_iadd 391 dX8_advances_390 rfl ?_
            refine gp_8_3 394 dX8_advances_391 rfl kf_X8_57 (by first | decide | assumption | exact ⟨Nat.le_of_ble_eq_true rfl, rfl⟩) ?_
            refine gs_at (congrArg (fun x => St x J) mt_3) ?_
            refine g_aload_n 395 dX8_advances_394 rfl rfl ?_
            refine g_iload_n 396 dX8_advances_395 rfl rfl ?_
            refine g_bipush (43) 398 dX8_advances_396 rfl (by decide) ?_
            refine g_icmp_ne 405 401 dX8_advances_398 rfl (by decide) (fun h398 => ?_) (fun h398 => ?_)
            · refine g_iload_n 406 dX8_advances_405 rfl rfl ?_
              refine g_bipush (33) 408 dX8_advances_406 rfl (by decide) ?_
              refine g_icmp_ne 416 411 dX8_advances_408 rfl (by decide) (fun h408 => ?_) (fun h408 => ?_)
              · refine g_iload_n 417 dX8_advances_416 rfl rfl ?_
                refine g_bipush (59) 419 dX8_advances_417 rfl (by decide) ?_
                refine g_icmp_ne 427 422 dX8_advances_419 rfl (by decide) (fun h419 => ?_) (fun h419 => ?_)
                · refine g_bipush (8) 429 dX8_advances_427 rfl (by decide) ?_
                  refine gp_8_4 432 dX8_advances_429 rfl kf_X8_67 (by first | decide | assumption | exact ⟨Nat.le_of_ble_eq_true rfl, rfl⟩) ?_
                  refine gs_at (congrArg (fun x => St x J) mt_4) ?_
                  refine g_vret dX8_advances_432 ?_
                  refine hN _ _ _ ?_
                  have e2 : tkS (bm F len) m = (sgk (bm F len m), 0, m + 1) := by rw [tkS, if_neg (fun z => h335 z.1)]
                  have e3 : sgk (bm F len m) = 8 := by rw [sgk, if_neg h408, if_neg h398, if_neg h419]
                  rw [et, e2, e3]
                  exact ⟨Or.inl ⟨rfl, rfl⟩, fun z => absurd rfl z⟩
                · refine g_bipush (7) 424 dX8_advances_422 rfl (by decide) ?_
                  refine g_goto 429 dX8_advances_424 (by decide) ?_
                  refine gp_8_4 432 dX8_advances_429 rfl kf_X8_67 (by first | decide | assumption | exact ⟨Nat.le_of_ble_eq_true rfl, rfl⟩) ?_
                  refine gs_at (congrArg (fun x => St x J) mt_4) ?_
                  refine g_vret dX8_advances_432 ?_
                  refine hN _ _ _ ?_
                  have e2 : tkS (bm F len) m = (sgk (bm F len m), 0, m + 1) := by rw [tkS, if_neg (fun z => h335 z.1)]
                  have e3 : sgk (bm F len m) = 6 := by rw [h419]; rfl
                  rw [et, e2, e3]
                  exact ⟨Or.inr (Or.inr (Or.inr (Or.inr (Or.inr (Or.inr (Or.inr (Or.inl ⟨rfl, rfl⟩))))))), fun _ => nI_1 m⟩
              · refine g_bipush (6) 413 dX8_advances_411 rfl (by decide) ?_
                refine g_goto 429 dX8_advances_413 (by decide) ?_
                refine gp_8_4 432 dX8_advances_429 rfl kf_X8_67 (by first | decide | assumption | exact ⟨Nat.le_of_ble_eq_true rfl, rfl⟩) ?_
                refine gs_at (congrArg (fun x => St x J) mt_4) ?_
                refine g_vret dX8_advances_432 ?_
                refine hN _ _ _ ?_
                have e2 : tkS (bm F len) m = (sgk (bm F len m), 0, m + 1) := by rw [tkS, if_neg (fun z => h335 z.1)]
                have e3 : sgk (bm F len m) = 5 := by rw [h408]; rfl
                rw [et, e2, e3]
                exact ⟨Or.inr (Or.inr (Or.inr (Or.inr (Or.inr (Or.inr (Or.inl ⟨rfl, rfl⟩)))))), fun _ => nI_1 m⟩
            · refine g_iconst (5) 402 dX8_advances_401 rfl (by decide) ?_
              refine g_goto 429 dX8_advances_402 (by decide) ?_
              refine gp_8_4 432 dX8_advances_429 rfl kf_X8_67 (by first | decide | assumption | exact ⟨Nat.le_of_ble_eq_true rfl, rfl⟩) ?_
              refine gs_at (congrArg (fun x => St x J) mt_4) ?_
              refine g_vret dX8_advances_432 ?_
              refine hN _ _ _ ?_
              have e2 : tkS (bm F len) m = (sgk (bm F len m), 0, m + 1) := by rw [tkS, if_neg (fun z => h335 z.1)]
              have e3 : sgk (bm F len m) = 4 := by rw [h398]; rfl
              rw [et, e2, e3]
              exact ⟨Or.inr (Or.inr (Or.inr (Or.inr (Or.inr (Or.inl ⟨rfl, rfl⟩))))), fun _ => nI_1 m⟩
          · refine g_aload_n 339 dX8_advances_338 rfl rfl ?_
            refine g_dup 340 dX8_advances_339 rfl rfl ?_
            refine gf_8_3 343 dX8_advances_340 rfl kf_X8_57 (by first | decide | assumption | exact ⟨Nat.le_of_ble_eq_true rfl, rfl⟩) ?_
            refine gst_at (x2 := nI m) rfl ?_
            refine g_iconst (1) 344 dX8_advances_343 rfl (by decide) ?_
            refine g_iadd 345 dX8_advances_344 rfl ?_
            refine gp_8_3 348 dX8_advances_345 rfl kf_X8_57 (by first | decide | assumption | exact ⟨Nat.le_of_ble_eq_true rfl, rfl⟩) ?_
            refine gs_at (congrArg (fun x => St x J) mt_3) ?_
            refine g_aload_n 349 dX8_advances_348 rfl rfl ?_
            refine g_aload_n 350 dX8_advances_349 rfl rfl ?_
            refine g_aload_n 351 dX8_advances_350 rfl rfl ?_
            refine gf_8_3 354 dX8_advances_351 rfl kf_X8_57 (by first | decide | assumption | exact ⟨Nat.le_of_ble_eq_true rfl, rfl⟩) ?_
            refine gst_at (show mt F (nI m + 1) tk (nI m) vl fl 167 3 = nI (m + 1) from nI_1 m) ?_
            refine g_v1 8 357 dX8_advances_354 rfl kl_X8_60 mv_X8_byteAt rfl ⟨Nat.le_of_ble_eq_true rfl, Nat.le_of_ble_eq_true rfl⟩ (Nat.le_of_ble_eq_true rfl) (by first | decide | assumption | exact ⟨Nat.le_of_ble_eq_true rfl, rfl⟩) (m_byteT g l F J _ _ _ _ _ hl hlen (m + 1) (by omega)) ?_
            rintro _ _ ⟨rfl, rfl⟩
            refine g_bipush (61) 359 dX8_advances_357 rfl (by decide) ?_
            refine g_icmp_ne 366 362 dX8_advances_359 rfl (by decide) (fun h359 => ?_) (fun h359 => ?_)
            · refine g_bipush (8) 368 dX8_advances_366 rfl (by decide) ?_
              refine gp_8_4 371 dX8_advances_368 rfl kf_X8_67 (by first | decide | assumption | exact ⟨Nat.le_of_ble_eq_true rfl, rfl⟩) ?_
              refine gs_at (congrArg (fun x => St x J) mt_4) ?_
              refine g_aload_n 372 dX8_advances_371 rfl rfl ?_
              refine g_dup 373 dX8_advances_372 rfl rfl ?_
              refine gf_8_3 376 dX8_advances_373 rfl kf_X8_57 (by first | decide | assumption | exact ⟨Nat.le_of_ble_eq_true rfl, rfl⟩) ?_
              refine g_iconst (1) 377 dX8_advances_376 rfl (by decide) ?_
              refine g_iadd 378 dX8_advances_377 rfl ?_
              refine gp_8_3 381 dX8_advances_378 rfl kf_X8_57 (by first | decide | assumption | exact ⟨Nat.le_of_ble_eq_true rfl, rfl⟩) ?_
              refine gs_at (congrArg (fun x => St x J) mt_3) ?_
              refine g_goto 432 dX8_advances_381 (by decide) ?_
              skip
              refine g_vret dX8_advances_432 ?_
              refine hN _ _ _ ?_
              have e2 : tkS (bm F len) m = (sgk (bm F len m), 0, m + 1) := by rw [tkS, if_neg (fun z => h359 z.2)]
              have e3 : sgk (bm F len m) = 8 := by rw [h335]; rfl
              rw [et, e2, e3]
              exact ⟨Or.inl ⟨rfl, rfl⟩, fun z => absurd rfl z⟩
            · refine g_iconst (4) 363 dX8_advances_362 rfl (by decide) ?_
              refine g_goto 368 dX8_advances_363 (by decide) ?_
              refine gp_8_4 371 dX8_advances_368 rfl kf_X8_67 (by first | decide | assumption | exact ⟨Nat.le_of_ble_eq_true rfl, rfl⟩) ?_
              refine gs_at (congrArg (fun x => St x J) mt_4) ?_
              refine g_aload_n 372 dX8_advances_371 rfl rfl ?_
              refine g_dup 373 dX8_advances_372 rfl rfl ?_
              refine gf_8_3 376 dX8_advances_373 rfl kf_X8_57 (by first | decide | assumption | exact ⟨Nat.le_of_ble_eq_true rfl, rfl⟩) ?_
              refine g_iconst (1) 377 dX8_advances_376 rfl (by decide) ?_
              refine g_iadd 378 dX8_advances_377 rfl ?_
              refine gp_8_3 381 dX8_advances_378 rfl kf_X8_57 (by first | decide | assumption | exact ⟨Nat.le_of_ble_eq_true rfl, rfl⟩) ?_
              refine gs_at (congrArg (fun x => St x J) mt_3) ?_
              refine g_goto 432 dX8_advances_381 (by decide) ?_
              skip
              refine g_vret dX8_advances_432 ?_
              refine hN _ _ _ ?_
              have e2 : tkS (bm F len) m = (3, 0, m + 2) := by rw [tkS, if_pos ⟨h335, h359⟩]
              rw [et, e2]
              exact ⟨Or.inr (Or.inr (Or.inr (Or.inr (Or.inl ⟨rfl, rfl⟩)))), fun _ => by show nI m + 1 + 1 = nI (m + 2); rw [nI_1, nI_1]⟩
        · have hsm : ¬ isSm (bm F len m) := b10.mp h63
          have hdg : isDg (bm F len m) := b10n h211
          have et : tok1 (bm F len) len m = tkN (bm F len) len m := by rw [tok1, if_neg hsm, if_pos hdg]
          refine g_aload_n 215 dX8_advances_214 rfl rfl ?_
          refine g_iconst (0) 216 dX8_advances_215 rfl (by decide) ?_
          refine gp_8_6 219 dX8_advances_216 rfl kf_X8_74 (by first | decide | assumption | exact ⟨Nat.le_of_ble_eq_true rfl, rfl⟩) ?_
          refine gs_at (congrArg (fun x => St x J) mt_6) ?_
          refine lm_num g l F J hl hlen hml2 _ _ _ _ _ _ (nvM (bm F len) len m 0) len m _ _ (by omega) (Nat.le_refl _) hm rfl rfl ?_
          refine ex_num g l F J hl hlen hml2 _ _ _ _ _ (fun t ht => hN _ _ _ ?_)
          have hk := numK (tb := bm F len) (len := len) (m := m)
          rw [et, ← ht]
          exact ⟨hk.1, fun _ => by rw [hk.2]⟩
      · have hsm : isSm (bm F len m) := b10n h63
        have et : tok1 (bm F len) len m = tkW (bm F len) len m := by rw [tok1, if_pos hsm]
        refine g_lconst (0) 67 dX8_advances_66 rfl (by decide) ?_
        refine g_lstore_n 68 dX8_advances_67 rfl (by decide) ?_
        refine g_iconst (0) 69 dX8_advances_68 rfl (by decide) ?_
        refine g_istore 71 dX8_advances_69 rfl (by decide) ?_
        have hE : wend (bm F len) (len + 1) m = wend (bm F len) len (m + 1) := by rw [wend, if_pos hsm]
        have hwl := wend_le (bm_sm F len) (n := len) (m := m + 1) (by omega)
        refine lm_word g l F J hl hlen hml2 _ _ _ _ (wend (bm F len) (len + 1) m) (len + 1) 0 _ _ _ (by omega) (by omega) rfl rfl rfl rfl (fun k hk => ?_)
        have hk1 : 1 ≤ k := by omega
        rw [hk]
        refine ex_word g l F J hl hlen hml2 (by omega) _ _ _ (fun t v htv => hN _ _ _ ?_)
        have hw := wordK (tb := bm F len) (m := m) (k := k) hk1 (fun j hj => wend_sm (n := len + 1) (m := m) (by omega) (by omega))
        rw [htv] at hw
        rw [et, tkW, ← hE, hk]
        by_cases q : k = 1
        · subst q
          rw [if_pos rfl] at hw ⊢
          rw [if_pos rfl] at hw
          exact ⟨hw, fun _ => rfl⟩
        · rw [if_neg (show ¬ m + k = m + 1 by omega)]
          rw [if_neg q, if_neg q] at hw
          exact ⟨hw, fun _ => rfl⟩
    · exact absurd (Int32.not_lt.mp hc0) h44

set_option maxRecDepth 100000 in
set_option maxHeartbeats 4000000 in
theorem m_advances (g : Gl) (l : Launch) (F : Nat → Nat → Int32) (J : Nat → Int64) {len : Nat} (hl : F 167 2 = nI len) (hlen : len ≤ 400) (hb : ∀ k, k < len → ¬ F 168 k < 0) {a : Nat} (ha : a ≤ len) (tk pl vl fl : Int32) : Ct g l yX8_advances cX8_advances 5 none 3 0 0 [.ref 167] (St (mt F (nI a) tk pl vl fl) J) (advZ F J len (skp (bm F len) len a) fl) := by
  refine Ct.of rfl (by decide) rfl (Nat.le_of_ble_eq_true rfl) ?_
  refine lm_skip g l F J hl hlen _ _ _ _ _ _ _ _ (skp (bm F len) len a) len a _ (by omega) ha rfl rfl ?_
  exact adv_b g l F J hl hlen hb (skp_le (bm_sp F len) ha).2 _ _ _ _ _ _ _ _

