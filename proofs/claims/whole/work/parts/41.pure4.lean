/-! what class and reference compute is the same (4): counting worlds -/
def cb (n : Nat) : Nat → Nat
  | 0 => 0
  | i + 1 => cb n i + n / 2 ^ i % 2
theorem btL (t : Int64) {i : Nat} (hi : i < 64) : (t >>> ((nI i).toInt64 &&& 63) &&& 1).toInt32 = nI (t.toBitVec.toNat / 2 ^ i % 2) := by
  rw [sh_eq t hi]
  have e : (ushL t (nI i) &&& 1).toBitVec.toNat = t.toBitVec.toNat / 2 ^ i % 2 := by
    rw [Int64.toBitVec_and, BitVec.toNat_and, ushL_bv t hi, BitVec.toNat_ushiftRight, Nat.shiftRight_eq_div_pow]
    exact Nat.and_one_is_mod _
  rcases Nat.mod_two_eq_zero_or_one (t.toBitVec.toNat / 2 ^ i) with z | z
  · rw [z] at e ⊢
    have : ushL t (nI i) &&& 1 = 0 := Int64.toBitVec.inj (BitVec.eq_of_toNat_eq e)
    rw [this]; rfl
  · rw [z] at e ⊢
    have : ushL t (nI i) &&& 1 = 1 := Int64.toBitVec.inj (BitVec.eq_of_toNat_eq e)
    rw [this]; rfl
theorem ctM_e (t : Int64) : ∀ {i : Nat}, i ≤ 64 → ctM t i = nI (cb t.toBitVec.toNat i)
  | 0, _ => rfl
  | i + 1, h => by rw [ctM, ctM_e t (by omega), btL t (by omega), nI_add]; rfl
def VL : List Nat → Nat
  | [] => 0
  | b :: r => b + 256 * VL r
def SL : List Nat → Nat
  | [] => 0
  | b :: r => b + SL r
theorem cb_8 {b q : Nat} (hb : b < 256) : ∀ i, cb (b + 256 * q) (8 + i) = cb b 8 + cb q i
  | 0 => by
    show cb (b + 256 * q) 8 = cb b 8 + 0
    simp only [cb]
    omega
  | i + 1 => by
    show cb (b + 256 * q) (8 + i) + (b + 256 * q) / 2 ^ (8 + i) % 2 = cb b 8 + (cb q i + q / 2 ^ i % 2)
    rw [cb_8 hb i, Nat.pow_add, ← Nat.div_div_eq_div_mul, show (b + 256 * q) / 2 ^ 8 = q by omega, Nat.add_assoc]
theorem cb_L : ∀ {l : List Nat}, (∀ b, b ∈ l → b < 256) → cb (VL l) (8 * l.length) = SL (l.map (fun b => cb b 8))
  | [], _ => rfl
  | b :: r, h => by
    have e : 8 * (b :: r).length = 8 + 8 * r.length := by simp [List.length_cons]; omega
    rw [e]
    show cb (b + 256 * VL r) _ = _
    rw [cb_8 (h b (by simp)), cb_L (fun c hc => h c (by simp [hc]))]; rfl
theorem and256 {x m : Nat} (y M : Nat) (hx : x < 256) (hm : m < 256) : (x + 256 * y) &&& (m + 256 * M) = (x &&& m) + 256 * (y &&& M) := by
  have hxm : x &&& m < 2 ^ 8 := Nat.lt_of_le_of_lt Nat.and_le_left hx
  have e : ∀ a b : Nat, a + 256 * b = 2 ^ 8 * b + a := fun a b => by omega
  rw [e, e, e]
  apply Nat.eq_of_testBit_eq
  intro i
  rw [Nat.testBit_and, Nat.testBit_two_pow_mul_add _ hx, Nat.testBit_two_pow_mul_add _ hm, Nat.testBit_two_pow_mul_add _ hxm]
  split
  · rw [Nat.testBit_and]
  · rw [Nat.testBit_and]
/-- each byte for itself -/
theorem sh_L {s m : Nat} (hs : s ≤ 8) (hm : m < 256) (hk : ∀ b, b < 256 → ∀ r, r < 2 ^ s → (b / 2 ^ s + r * 2 ^ (8 - s)) &&& m = b / 2 ^ s &&& m) : ∀ {l : List Nat}, (∀ b, b ∈ l → b < 256) → (VL l / 2 ^ s) &&& VL (l.map (fun _ => m)) = VL (l.map (fun b => b / 2 ^ s &&& m))
  | [], _ => by simp [VL]
  | b :: r, h => by
    have ih := sh_L hs hm hk (l := r) (fun c hc => h c (by simp [hc]))
    have hb := h b (by simp)
    show ((b + 256 * VL r) / 2 ^ s) &&& (m + 256 * VL (r.map (fun _ => m))) = (b / 2 ^ s &&& m) + 256 * VL (r.map (fun b => b / 2 ^ s &&& m))
    have p0 : 0 < 2 ^ s := Nat.pow_pos (by decide)
    have e1 : 256 = 2 ^ s * 2 ^ (8 - s) := by rw [← Nat.pow_add, show s + (8 - s) = 8 by omega]
    have e2 : (b + 256 * VL r) / 2 ^ s = (b / 2 ^ s + VL r % 2 ^ s * 2 ^ (8 - s)) + 256 * (VL r / 2 ^ s) := by
      have d := Nat.div_add_mod (VL r) (2 ^ s)
      have : b + 256 * VL r = b + 2 ^ s * (2 ^ (8 - s) * VL r) := by rw [← Nat.mul_assoc, ← e1]
      rw [this, Nat.add_mul_div_left _ _ p0]
      have : 2 ^ (8 - s) * VL r = VL r % 2 ^ s * 2 ^ (8 - s) + 256 * (VL r / 2 ^ s) := by
        have q : 256 * (VL r / 2 ^ s) = 2 ^ (8 - s) * (2 ^ s * (VL r / 2 ^ s)) := by rw [← Nat.mul_assoc, Nat.mul_comm (2 ^ (8 - s)) (2 ^ s), ← e1]
        rw [q, Nat.mul_comm (VL r % 2 ^ s), ← Nat.mul_add, Nat.add_comm (VL r % 2 ^ s), d]
      omega
    have hlt : b / 2 ^ s + VL r % 2 ^ s * 2 ^ (8 - s) < 256 := by
      have h1 : b / 2 ^ s < 2 ^ (8 - s) := by
        rw [Nat.div_lt_iff_lt_mul p0, Nat.mul_comm, ← e1]; exact hb
      have h2 : VL r % 2 ^ s + 1 ≤ 2 ^ s := Nat.mod_lt _ p0
      have h3 : (VL r % 2 ^ s + 1) * 2 ^ (8 - s) ≤ 2 ^ s * 2 ^ (8 - s) := Nat.mul_le_mul_right _ h2
      rw [← e1, Nat.add_mul, Nat.one_mul] at h3
      omega
    rw [e2, and256 _ _ hlt hm, hk b hb _ (Nat.mod_lt _ p0), ih]
theorem VL_lt : ∀ {l : List Nat}, (∀ b, b ∈ l → b < 256) → VL l < 256 ^ l.length
  | [], _ => by simp [VL]
  | b :: r, h => by
    have ih := VL_lt (l := r) (fun c hc => h c (by simp [hc]))
    have hb := h b (by simp)
    show b + 256 * VL r < 256 ^ (r.length + 1)
    rw [Nat.pow_succ]; omega
theorem VL_sub {f : Nat → Nat} : ∀ {l : List Nat}, (∀ b, b ∈ l → f b ≤ b) → VL (l.map f) ≤ VL l ∧ VL l - VL (l.map f) = VL (l.map (fun b => b - f b))
  | [], _ => by simp [VL]
  | b :: r, h => by
    obtain ⟨h1, h2⟩ := VL_sub (l := r) (fun c hc => h c (by simp [hc]))
    have hb := h b (by simp)
    show f b + 256 * VL (r.map f) ≤ b + 256 * VL r ∧ b + 256 * VL r - (f b + 256 * VL (r.map f)) = b - f b + 256 * VL (r.map (fun b => b - f b))
    omega
theorem VL_add (f k : Nat → Nat) : ∀ l : List Nat, VL (l.map f) + VL (l.map k) = VL (l.map (fun b => f b + k b))
  | [] => rfl
  | b :: r => by
    have ih := VL_add f k r
    show f b + 256 * VL (r.map f) + (k b + 256 * VL (r.map k)) = f b + k b + 256 * VL (r.map (fun b => f b + k b))
    omega
theorem VL_m16 : ∀ {l : List Nat}, (∀ b, b ∈ l → b % 16 ≤ 4) → VL l % 16 ≤ 4
  | [], _ => by simp [VL]
  | b :: r, h => by
    have hb := h b (by simp)
    show (b + 256 * VL r) % 16 ≤ 4
    omega
theorem n3_L : ∀ {l : List Nat}, (∀ b, b ∈ l → b % 16 ≤ 4 ∧ b ≤ 68) → (VL l + VL l / 16) &&& VL (l.map (fun _ => 15)) = VL (l.map (fun b => (b + b / 16) % 16))
  | [], _ => by simp [VL]
  | b :: r, h => by
    have ih := n3_L (l := r) (fun c hc => h c (by simp [hc]))
    have hb := h b (by simp)
    have hr := VL_m16 (l := r) (fun c hc => (h c (by simp [hc])).1)
    show (b + 256 * VL r + (b + 256 * VL r) / 16) &&& (15 + 256 * VL (r.map (fun _ => 15))) = (b + b / 16) % 16 + 256 * VL (r.map (fun b => (b + b / 16) % 16))
    have e : b + 256 * VL r + (b + 256 * VL r) / 16 = (b + b / 16 + VL r % 16 * 16) + 256 * (VL r + VL r / 16) := by omega
    rw [e, and256 _ _ (by omega) (by decide), ih]
    have e2 : ∀ x, x &&& 15 = x % 16 := fun x => Nat.and_two_pow_sub_one_eq_mod x 4
    rw [e2]
    omega
def p1 (b : Nat) : Nat := b - (b / 2 &&& 85)
def p2 (b : Nat) : Nat := (b / 1 &&& 51) + (b / 4 &&& 51)
def p3 (b : Nat) : Nat := (b + b / 16) % 16
theorem pb : ∀ b, b < 256 → (b / 2 &&& 85) ≤ b ∧ p1 b < 256 ∧ p2 (p1 b) % 16 ≤ 4 ∧ p2 (p1 b) ≤ 68 ∧ p3 (p2 (p1 b)) = cb b 8 ∧ cb b 8 ≤ 8 := by decide +kernel
theorem k1 : ∀ b, b < 256 → ∀ r, r < 2 ^ 1 → (b / 2 ^ 1 + r * 2 ^ (8 - 1)) &&& 85 = b / 2 ^ 1 &&& 85 := by decide +kernel
theorem k2 : ∀ b, b < 256 → ∀ r, r < 2 ^ 2 → (b / 2 ^ 2 + r * 2 ^ (8 - 2)) &&& 51 = b / 2 ^ 2 &&& 51 := by decide +kernel
theorem k0 : ∀ b, b < 256 → ∀ r, r < 2 ^ 0 → (b / 2 ^ 0 + r * 2 ^ (8 - 0)) &&& 51 = b / 2 ^ 0 &&& 51 := by
  intro b _ r hr
  obtain rfl : r = 0 := by simp at hr; omega
  simp
theorem by8 {n : Nat} (h : n < 2 ^ 64) : ∃ l : List Nat, l.length = 8 ∧ (∀ b, b ∈ l → b < 256) ∧ VL l = n := by
  refine ⟨[n % 256, n / 256 % 256, n / 256 / 256 % 256, n / 256 / 256 / 256 % 256, n / 256 / 256 / 256 / 256 % 256, n / 256 / 256 / 256 / 256 / 256 % 256, n / 256 / 256 / 256 / 256 / 256 / 256 % 256, n / 256 / 256 / 256 / 256 / 256 / 256 / 256], rfl, ?_, ?_⟩
  · intro b hb
    simp only [List.mem_cons, List.not_mem_nil, or_false] at hb
    omega
  · simp only [VL]
    omega
theorem bl_add (x y : Int64) (h : x.toBitVec.toNat + y.toBitVec.toNat < 2 ^ 64) : (x + y).toBitVec.toNat = x.toBitVec.toNat + y.toBitVec.toNat := by
  rw [Int64.toBitVec_add, BitVec.toNat_add]; exact Nat.mod_eq_of_lt h
theorem bl_sh (x : Int64) (w : Nat) (hw : w < 64) : (ushL x (nI w)).toBitVec.toNat = x.toBitVec.toNat / 2 ^ w := by
  rw [ushL_bv x hw, BitVec.toNat_ushiftRight, Nat.shiftRight_eq_div_pow]
theorem V8 {l : List Nat} (h : l.length = 8) (m : Nat) : VL (l.map (fun _ => m)) = m * 72340172838076673 := by
  match l, h with
  | [a, b, c, d, e, f, g, k], _ => simp only [List.map, VL]; omega
theorem mem_map' {f : Nat → Nat} {P : Nat → Prop} {l : List Nat} (h : ∀ b, b ∈ l → P (f b)) : ∀ b, b ∈ l.map f → P b := by
  intro b hb
  obtain ⟨a, ha, rfl⟩ := List.mem_map.mp hb
  exact h a ha
theorem q1 (a b c d e f g k : Nat) : a + 256 * (b + 256 * (c + 256 * (d + 256 * (e + 256 * (f + 256 * (g + 256 * (k + 256 * 0))))))) + (b + 256 * (c + 256 * (d + 256 * (e + 256 * (f + 256 * (g + 256 * (k + 256 * 0))))))) = ((a + b) + 256 * (b + c)) + 65536 * ((c + d) + 256 * ((d + e) + 256 * ((e + f) + 256 * ((f + g) + 256 * ((g + k) + 256 * k))))) := by omega
theorem q2 (a b c d e f g k : Nat) : ((a + b) + 256 * (b + c)) + 65536 * ((c + d) + 256 * ((d + e) + 256 * ((e + f) + 256 * ((f + g) + 256 * ((g + k) + 256 * k))))) + ((c + d) + 256 * ((d + e) + 256 * ((e + f) + 256 * ((f + g) + 256 * ((g + k) + 256 * k))))) = ((a + b + c + d) + 256 * ((b + c + d + e) + 256 * ((c + d + e + f) + 256 * (d + e + f + g)))) + 4294967296 * ((e + f + g + k) + 256 * ((f + g + k) + 256 * ((g + k) + 256 * k))) := by omega
theorem q3 (a b c d e f g k : Nat) : ((a + b + c + d) + 256 * ((b + c + d + e) + 256 * ((c + d + e + f) + 256 * (d + e + f + g)))) + 4294967296 * ((e + f + g + k) + 256 * ((f + g + k) + 256 * ((g + k) + 256 * k))) + ((e + f + g + k) + 256 * ((f + g + k) + 256 * ((g + k) + 256 * k))) = (a + (b + (c + (d + (e + (f + (g + (k + 0)))))))) + 128 * (2 * ((b + c + d + e) + (f + g + k) + 256 * ((c + d + e + f) + (g + k) + 256 * ((d + e + f + g) + k + 256 * ((e + f + g + k) + 256 * ((f + g + k) + 256 * ((g + k) + 256 * k))))))) := by omega
theorem r1 {a b c : Nat} (h0 : a ≤ 8) (h1 : b ≤ 8) (h2 : c ≤ 8) : (a + b) + 256 * (b + c) < 65536 := by omega
theorem r2 {a b c d e f g : Nat} (h0 : a ≤ 8) (h1 : b ≤ 8) (h2 : c ≤ 8) (h3 : d ≤ 8) (h4 : e ≤ 8) (h5 : f ≤ 8) (h6 : g ≤ 8) : (a + b + c + d) + 256 * ((b + c + d + e) + 256 * ((c + d + e + f) + 256 * (d + e + f + g))) < 4294967296 := by omega
theorem r3 {a b c d e f g k : Nat} (h0 : a ≤ 8) (h1 : b ≤ 8) (h2 : c ≤ 8) (h3 : d ≤ 8) (h4 : e ≤ 8) (h5 : f ≤ 8) (h6 : g ≤ 8) (h7 : k ≤ 8) : a + (b + (c + (d + (e + (f + (g + (k + 0))))))) < 128 := by omega
theorem fold8 {a b c d e f g k y y4 y5 y6 : Nat} (h0 : a ≤ 8) (h1 : b ≤ 8) (h2 : c ≤ 8) (h3 : d ≤ 8) (h4 : e ≤ 8) (h5 : f ≤ 8) (h6 : g ≤ 8) (h7 : k ≤ 8) (hy : y = a + 256 * (b + 256 * (c + 256 * (d + 256 * (e + 256 * (f + 256 * (g + 256 * (k + 256 * 0)))))))) (e4 : y4 = y + y / 256) (e5 : y5 = y4 + y4 / 65536) (e6 : y6 = y5 + y5 / 4294967296) : y6 % 128 = a + (b + (c + (d + (e + (f + (g + (k + 0))))))) := by
  have d1 : y / 256 = b + 256 * (c + 256 * (d + 256 * (e + 256 * (f + 256 * (g + 256 * (k + 256 * 0)))))) := by
    rw [hy, Nat.add_mul_div_left _ _ (by decide), Nat.div_eq_of_lt (Nat.lt_of_le_of_lt h0 (by decide)), Nat.zero_add]
  have f4 : y4 = _ := e4.trans ((congrArg (y + ·) d1).trans ((congrArg (· + _) hy).trans (q1 a b c d e f g k)))
  have d4 : y4 / 65536 = (c + d) + 256 * ((d + e) + 256 * ((e + f) + 256 * ((f + g) + 256 * ((g + k) + 256 * k)))) := by
    rw [f4, Nat.add_mul_div_left _ _ (by decide), Nat.div_eq_of_lt (r1 h0 h1 h2), Nat.zero_add]
  have f5 : y5 = _ := e5.trans ((congrArg (y4 + ·) d4).trans ((congrArg (· + _) f4).trans (q2 a b c d e f g k)))
  have d5 : y5 / 4294967296 = (e + f + g + k) + 256 * ((f + g + k) + 256 * ((g + k) + 256 * k)) := by
    rw [f5, Nat.add_mul_div_left _ _ (by decide), Nat.div_eq_of_lt (r2 h0 h1 h2 h3 h4 h5 h6), Nat.zero_add]
  have f6 : y6 = _ := e6.trans ((congrArg (y5 + ·) d5).trans ((congrArg (· + _) f5).trans (q3 a b c d e f g k)))
  rw [f6, Nat.add_mul_mod_self_left, Nat.mod_eq_of_lt (r3 h0 h1 h2 h3 h4 h5 h6 h7)]
theorem m32_128 (y : Nat) : y % 2 ^ 32 % 2 ^ 7 = y % 128 := by omega
theorem v68 {y : Nat} (h : y ≤ 68 * 72340172838076673) : y + y / 16 < 2 ^ 64 := by omega
theorem v8 {a b c d e f g k : Nat} (h0 : a ≤ 8) (h1 : b ≤ 8) (h2 : c ≤ 8) (h3 : d ≤ 8) (h4 : e ≤ 8) (h5 : f ≤ 8) (h6 : g ≤ 8) (h7 : k ≤ 8) : a + 256 * (b + 256 * (c + 256 * (d + 256 * (e + 256 * (f + 256 * (g + 256 * (k + 256 * 0))))))) ≤ 8 * 72340172838076673 := by omega
theorem v68l {a b c d e f g k : Nat} (h0 : a ≤ 68) (h1 : b ≤ 68) (h2 : c ≤ 68) (h3 : d ≤ 68) (h4 : e ≤ 68) (h5 : f ≤ 68) (h6 : g ≤ 68) (h7 : k ≤ 68) : a + 256 * (b + 256 * (c + 256 * (d + 256 * (e + 256 * (f + 256 * (g + 256 * (k + 256 * 0))))))) ≤ 68 * 72340172838076673 := by omega
theorem v8a {y : Nat} (h : y ≤ 8 * 72340172838076673) : y + y / 256 < 2 ^ 64 ∧ y + y / 256 ≤ 16 * 72340172838076673 := by omega
theorem v8b {y : Nat} (h : y ≤ 16 * 72340172838076673) : y + y / 65536 < 2 ^ 64 ∧ y + y / 65536 ≤ 32 * 72340172838076673 := by omega
theorem v8c {y : Nat} (h : y ≤ 32 * 72340172838076673) : y + y / 4294967296 < 2 ^ 64 := by omega
theorem bc64_e (x : Int64) : bc64 x = nI (cb x.toBitVec.toNat 64) := by
  obtain ⟨l, hl, hb, hv⟩ := by8 x.toBitVec.isLt
  have P := fun b hb' => pb b (hb b hb')
  have e1 : (bl1 x).toBitVec.toNat = VL (l.map p1) := by
    unfold bl1
    have hs : (ushL x 1 &&& 6148914691236517205).toBitVec.toNat = VL (l.map (fun b => b / 2 &&& 85)) := by
      rw [Int64.toBitVec_and, BitVec.toNat_and, show ushL x 1 = ushL x (nI 1) from rfl, bl_sh x 1 (by decide), ← hv]
      have := sh_L (s := 1) (m := 85) (by decide) (by decide) k1 hb
      rw [V8 hl] at this
      exact this
    obtain ⟨s1, s2⟩ := VL_sub (f := fun b => b / 2 &&& 85) (l := l) (fun b h => (P b h).1)
    rw [Int64.toBitVec_sub, BitVec.toNat_sub_of_le (by rw [BitVec.le_def, hs, ← hv]; exact s1), hs, ← hv]
    exact s2
  have b1 : ∀ b, b ∈ l.map p1 → b < 256 := mem_map' (fun b h => (P b h).2.1)
  have l1 : (l.map p1).length = 8 := by rw [List.length_map]; exact hl
  have e2 : (bl2 (bl1 x)).toBitVec.toNat = VL ((l.map p1).map p2) := by
    unfold bl2
    generalize hy : bl1 x = y at *
    have h0 : (y &&& 3689348814741910323).toBitVec.toNat = VL ((l.map p1).map (fun b => b / 1 &&& 51)) := by
      rw [Int64.toBitVec_and, BitVec.toNat_and, e1]
      have := sh_L (s := 0) (m := 51) (by decide) (by decide) k0 b1
      rw [V8 l1, Nat.pow_zero, Nat.div_one] at this
      exact this
    have h2 : (ushL y 2 &&& 3689348814741910323).toBitVec.toNat = VL ((l.map p1).map (fun b => b / 4 &&& 51)) := by
      rw [Int64.toBitVec_and, BitVec.toNat_and, show ushL y 2 = ushL y (nI 2) from rfl, bl_sh y 2 (by decide), e1]
      have := sh_L (s := 2) (m := 51) (by decide) (by decide) k2 b1
      rw [V8 l1] at this
      exact this
    have hs := VL_add (fun b => b / 1 &&& 51) (fun b => b / 4 &&& 51) (l.map p1)
    have hlt : VL ((l.map p1).map p2) < 256 ^ 8 := by
      have := VL_lt (l := (l.map p1).map p2) (by
        rw [List.map_map]
        exact mem_map' (fun b h => by have := (P b h).2.2.2.1; show p2 (p1 b) < 256; omega))
      rw [List.length_map, l1] at this; exact this
    have hs' : VL ((l.map p1).map (fun b => b / 1 &&& 51)) + VL ((l.map p1).map (fun b => b / 4 &&& 51)) = VL ((l.map p1).map p2) := hs
    rw [bl_add _ _ (by rw [h0, h2, hs']; exact hlt), h0, h2, hs']
  have e3 : (bl3 (bl2 (bl1 x))).toBitVec.toNat = VL (l.map (fun b => cb b 8)) := by
    unfold bl3
    generalize hy : bl2 (bl1 x) = y at *
    have b2 : ∀ b, b ∈ (l.map p1).map p2 → b % 16 ≤ 4 ∧ b ≤ 68 := by
      rw [List.map_map]
      exact mem_map' (P := fun b => b % 16 ≤ 4 ∧ b ≤ 68) (fun b h => ⟨(P b h).2.2.1, (P b h).2.2.2.1⟩)
    have l2 : ((l.map p1).map p2).length = 8 := by rw [List.length_map]; exact l1
    have h4 : (ushL y 4).toBitVec.toNat = VL ((l.map p1).map p2) / 16 := by
      rw [show ushL y 4 = ushL y (nI 4) from rfl, bl_sh y 4 (by decide), e2]
    have hlt : VL ((l.map p1).map p2) ≤ 68 * 72340172838076673 := by
      match (l.map p1).map p2, l2, b2 with
      | [a, b, c, d, e, f, g, k], _, h =>
        have h0 := (h a (by simp)).2
        have h1 := (h b (by simp)).2
        have h2 := (h c (by simp)).2
        have h3 := (h d (by simp)).2
        have h4 := (h e (by simp)).2
        have h5 := (h f (by simp)).2
        have h6 := (h g (by simp)).2
        have h7 := (h k (by simp)).2
        simp only [VL]; exact v68l h0 h1 h2 h3 h4 h5 h6 h7
    rw [Int64.toBitVec_and, BitVec.toNat_and, bl_add _ _ (by rw [h4, e2]; exact v68 hlt), h4, e2]
    have n3 := n3_L b2
    rw [V8 l2] at n3
    refine Eq.trans n3 ?_
    rw [List.map_map, List.map_map]
    refine congrArg VL (List.map_congr_left (fun b h => ?_))
    exact (P b h).2.2.2.2.1
  have hS : SL (l.map (fun b => cb b 8)) = cb x.toBitVec.toNat 64 := by
    rw [← cb_L hb, hl, hv]
  unfold bc64
  generalize bl3 (bl2 (bl1 x)) = y at *
  have bS : ∀ b, b ∈ l.map (fun b => cb b 8) → b ≤ 8 := mem_map' (P := fun b => b ≤ 8) (fun b h => (P b h).2.2.2.2.2)
  have lS : (l.map (fun b => cb b 8)).length = 8 := by rw [List.length_map]; exact hl
  generalize l.map (fun b => cb b 8) = m at *
  match m, lS, bS, hS, e3 with
  | [a, b, c, d, e, f, g, k], _, h, hS, e3 =>
    have h0 := h a (by simp)
    have h1 := h b (by simp)
    have h2 := h c (by simp)
    have h3 := h d (by simp)
    have h4 := h e (by simp)
    have h5 := h f (by simp)
    have h6 := h g (by simp)
    have h7 := h k (by simp)
    simp only [VL] at e3
    simp only [SL] at hS
    have w3 := v8 h0 h1 h2 h3 h4 h5 h6 h7
    rw [← e3] at w3
    have a4 : (bl4 y).toBitVec.toNat = y.toBitVec.toNat + y.toBitVec.toNat / 256 := by
      unfold bl4
      have q : (ushL y 8).toBitVec.toNat = y.toBitVec.toNat / 256 := bl_sh y 8 (by decide)
      rw [bl_add _ _ (by rw [q]; exact (v8a w3).1), q]
    have w4 := (v8a w3).2
    rw [← a4] at w4
    generalize bl4 y = y4 at *
    have a5 : (bl5 y4).toBitVec.toNat = y4.toBitVec.toNat + y4.toBitVec.toNat / 65536 := by
      unfold bl5
      have q : (ushL y4 16).toBitVec.toNat = y4.toBitVec.toNat / 65536 := bl_sh y4 16 (by decide)
      rw [bl_add _ _ (by rw [q]; exact (v8b w4).1), q]
    have w5 := (v8b w4).2
    rw [← a5] at w5
    generalize bl5 y4 = y5 at *
    have a6 : (bl6 y5).toBitVec.toNat = y5.toBitVec.toNat + y5.toBitVec.toNat / 4294967296 := by
      unfold bl6
      have q : (ushL y5 32).toBitVec.toNat = y5.toBitVec.toNat / 4294967296 := bl_sh y5 32 (by decide)
      rw [bl_add _ _ (by rw [q]; exact v8c w5), q]
    generalize bl6 y5 = y6 at *
    have r : y6.toBitVec.toNat % 128 = a + (b + (c + (d + (e + (f + (g + (k + 0))))))) := fold8 h0 h1 h2 h3 h4 h5 h6 h7 e3 a4 a5 a6
    rw [← hS, ← r]
    apply Int32.toBitVec.inj
    apply BitVec.eq_of_toNat_eq
    have u : (y6.toInt32 &&& 127).toBitVec.toNat = y6.toBitVec.toNat % 128 := by
      rw [Int32.toBitVec_and, BitVec.toNat_and, show (127 : Int32).toBitVec.toNat = 2 ^ 7 - 1 from rfl, Nat.and_two_pow_sub_one_eq_mod]
      have : y6.toInt32.toBitVec.toNat = y6.toBitVec.toNat % 2 ^ 32 := by
        show (y6.toBitVec.signExtend 32).toNat = _
        rw [BitVec.signExtend_eq_setWidth_of_le _ (by decide), BitVec.toNat_setWidth]
      rw [this]; exact m32_128 _
    rw [u]
    have w : y6.toBitVec.toNat % 128 < 2 ^ 31 := Nat.lt_trans (Nat.mod_lt _ (by decide)) (by decide)
    generalize y6.toBitVec.toNat % 128 = z at w ⊢
    show z = (BitVec.ofNat 32 z).toNat
    rw [BitVec.toNat_ofNat]; exact (Nat.mod_eq_of_lt (Nat.lt_trans w (by decide))).symm
theorem count_c {V W : Nat → Nat → Int32} {E D : Nat → Int32} {N G : Nat} (hG : G ≤ N) (h : EQ V E W D N) (P T len : Nat) (what : Int32) : countM G P T len V E what = countA G P T len W D what := by
  unfold countM countA
  rw [tws_c h hG, ctM_e _ (Nat.le_refl 64), bc64_e]

