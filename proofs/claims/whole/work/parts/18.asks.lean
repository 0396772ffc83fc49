/-! TruthSums: the cell 0; what it is asked -/
def cS (F : Nat → Nat → Int32) (G P : Nat) : Prop := F 0 7 = nI G ∧ F 0 8 = nI P ∧ G ≤ 8 ∧ P ≤ 24
abbrev isLn (N : Nat) (i : Int32) : Prop := ¬ i < 0 ∧ ¬ nI N ≤ i
theorem isLn_n {N : Nat} {i : Int32} (h : isLn N i) (hN : N ≤ 32) : ∃ n, n < N ∧ i = nI n ∧ i.toNatClampNeg = n := by
  obtain ⟨n, hn, e⟩ := nI_of h.1
  refine ⟨n, ?_, e, by rw [e]; exact nI_clamp hn⟩
  rcases Nat.lt_or_ge n N with q | q
  · exact q
  · exact absurd (by rw [e]; exact nI_le q hn) h.2
def Wc (F : Nat → Nat → Int32) : Nat → Nat → Int32 := fun i => F (101 + 2 * i + 1)
def Dc (F : Nat → Nat → Int32) : Nat → Int32 := fun i => F (101 + 2 * i) 1
def ush (x y : Int32) : Int32 := (x.toUInt32 >>> (y.toUInt32 &&& Int32.toUInt32 31)).toInt32
def ushL (x : Int64) (y : Int32) : Int64 := (x.toUInt64 >>> (y.toInt64.toUInt64 &&& Int64.toUInt64 63)).toInt64
def bc1 (x : Int32) : Int32 := x - (ush x 1 &&& 1431655765)
def bc2 (x : Int32) : Int32 := (x &&& 858993459) + (ush x 2 &&& 858993459)
def bc3 (x : Int32) : Int32 := (x + ush x 4) &&& 252645135
def bc32 (x : Int32) : Int32 := (bc3 (bc2 (bc1 x)) + ush (bc3 (bc2 (bc1 x))) 8 + ush (bc3 (bc2 (bc1 x)) + ush (bc3 (bc2 (bc1 x))) 8) 16) &&& 63
def bl1 (x : Int64) : Int64 := x - (ushL x 1 &&& 6148914691236517205)
def bl2 (x : Int64) : Int64 := (x &&& 3689348814741910323) + (ushL x 2 &&& 3689348814741910323)
def bl3 (x : Int64) : Int64 := (x + ushL x 4) &&& 1085102592571150095
def bl4 (x : Int64) : Int64 := x + ushL x 8
def bl5 (x : Int64) : Int64 := x + ushL x 16
def bl6 (x : Int64) : Int64 := x + ushL x 32
def bc64 (x : Int64) : Int32 := (bl6 (bl5 (bl4 (bl3 (bl2 (bl1 x)))))).toInt32 &&& 127
abbrev wit (a b : Int64) : Prop := a &&& (b ^^^ -1) = 0
abbrev hasW (x : Int64) (w : Nat) : Prop := ushL x (nI w) &&& 1 = 1
def tws (W : Nat → Nat → Int32) (D : Nat → Int32) : Nat → Int64
  | 0 => -1
  | i + 1 => tws W D i &&& wh (W i) (D i) 64
def lineA (N : Nat) (W : Nat → Nat → Int32) (D : Nat → Int32) (i a : Int32) : Int32 := if isLn N i ∧ ¬ a < 0 ∧ a ≤ 6 then (if a = 6 then D i.toNatClampNeg else W i.toNatClampNeg a.toNatClampNeg) else -1000000
def holdsA (N : Nat) (W : Nat → Nat → Int32) (D : Nat → Int32) (i : Int32) : Int64 := if isLn N i then wh (W i.toNatClampNeg) (D i.toNatClampNeg) 64 else 0
abbrev okB (W : Nat → Nat → Int32) (D : Nat → Int32) (n : Nat) : Prop := D n ≤ mw (W n) 0 0 6
def brokenA (N : Nat) (W : Nat → Nat → Int32) (D : Nat → Int32) (i : Int32) : Int32 := if isLn N i then (if okB W D i.toNatClampNeg then 0 else 1) else -1
def endR (W : Nat → Nat → Int32) (D : Nat → Int32) : Nat → Nat → Int32
  | 0, _ => -9
  | n + 1, i => if okB W D i then endR W D n (i + 1) else nI i
def bothA (N : Nat) (W : Nat → Nat → Int32) (D : Nat → Int32) (i j what : Int32) : Int32 := if isLn N i ∧ isLn N j ∧ ¬ what < 0 ∧ what ≤ 1 then (if what = 0 then (if holdsA N W D i = holdsA N W D j then 1 else 0) else (if wit (holdsA N W D i) (holdsA N W D j) then 1 else 0)) else -1
def toldA (N G : Nat) (W : Nat → Nat → Int32) (D : Nat → Int32) (i : Int32) : Int32 := if isLn N i then (if wit (tws W D G) (holdsA N W D i) then 1 else 0) else -1
def tgt (t : Int64) (w : Nat → Int32) : Nat → Int32
  | 0 => -9
  | i + 1 => if hasW t i ∧ (tgt t w i = -9 ∨ ¬ tgt t w i ≤ mw w (nI i) (nI i ^^^ -1) 6) then mw w (nI i) (nI i ^^^ -1) 6 else tgt t w i
def tightA (N G : Nat) (W : Nat → Nat → Int32) (D : Nat → Int32) (i : Int32) : Int32 := if isLn N i then tgt (tws W D G) (W i.toNatClampNeg) 64 else -1
def wog (X : Nat → Int64) (set : Int32) : Nat → Int64
  | 0 => -1
  | i + 1 => if set >>> (nI i &&& 31) &&& 1 = 1 then wog X set i &&& X i else wog X set i
def lts (X : Nat → Int64) (held : Int64) : Nat → Int32 × Int32
  | 0 => (-9, 9)
  | s + 1 => if (lts X held s).2 ≤ bc32 (nI s) then lts X held s else if wit (wog X (nI s) 8) held then (nI s, bc32 (nI s)) else lts X held s
def covR (w : Nat → Int32) (d k : Int32) : Nat → Nat → Int32 → Int32
  | 0, _, f => if k = -1 then f else -1
  | n + 1, s, f => if lcov w d (nI s) then (if f = k then nI s else covR w d k n (s + 1) (f + 1)) else covR w d k n (s + 1) f
def coversA (N : Nat) (W : Nat → Nat → Int32) (D : Nat → Int32) (i k : Int32) : Int32 := if isLn N i ∧ -1 ≤ k then covR (W i.toNatClampNeg) (D i.toNatClampNeg) k 64 0 0 else -1
def cos (C : Nat → Int32) (w : Int32) : Nat → Int32
  | 0 => 0
  | i + 1 => if w >>> (nI i &&& 31) &&& 1 = 1 then cos C w i + C i else cos C w i
def chs (t : Int64) (C : Nat → Int32) : Nat → Int32
  | 0 => -9
  | i + 1 => if hasW t i ∧ (chs t C i = -9 ∨ ¬ cos C (chs t C i) 6 ≤ cos C (nI i) 6) then nI i else chs t C i
def leastA (G : Nat) (W : Nat → Nat → Int32) (D : Nat → Int32) (C : Nat → Int32) (what : Int32) : Int32 := if ¬ what < 0 ∧ what ≤ 1 then (if what = 0 ∨ chs (tws W D G) C 64 = -9 then chs (tws W D G) C 64 else cos C (chs (tws W D G) C 64) 6) else -1

set_option maxRecDepth 100000 in
set_option maxHeartbeats 4000000 in
theorem c_bc32 (g : Gl) (l : Launch) (x : Int32) (S : Sg) : Ct g l yJ6_bitCount_0f7a4 cJ6_bitCount_0f7a4 1 (some .int) 0 0 0 [.int x] S (fun r S2 => r = some (.int (bc32 x)) ∧ S2 = S) := by
  refine Ct.of rfl (by decide) rfl (Nat.le_of_ble_eq_true rfl) ?_
  refine g_iload_n 1 dJ6_bitCount_0f7a4_0 rfl rfl ?_
  refine g_iload_n 2 dJ6_bitCount_0f7a4_1 rfl rfl ?_
  refine g_iconst (1) 3 dJ6_bitCount_0f7a4_2 rfl (by decide) ?_
  refine g_iushr 4 dJ6_bitCount_0f7a4_3 rfl ?_
  refine g_ldcw 7 dJ6_bitCount_0f7a4_4 rfl kc_J6_265 ?_
  refine g_iand 8 dJ6_bitCount_0f7a4_7 rfl ?_
  refine g_isub 9 dJ6_bitCount_0f7a4_8 rfl ?_
  refine g_istore_n 10 dJ6_bitCount_0f7a4_9 rfl (by decide) ?_
  refine g_iload_n 11 dJ6_bitCount_0f7a4_10 rfl rfl ?_
  refine g_ldcw 14 dJ6_bitCount_0f7a4_11 rfl kc_J6_266 ?_
  refine g_iand 15 dJ6_bitCount_0f7a4_14 rfl ?_
  refine g_iload_n 16 dJ6_bitCount_0f7a4_15 rfl rfl ?_
  refine g_iconst (2) 17 dJ6_bitCount_0f7a4_16 rfl (by decide) ?_
  refine g_iushr 18 dJ6_bitCount_0f7a4_17 rfl ?_
  refine g_ldcw 21 dJ6_bitCount_0f7a4_18 rfl kc_J6_266 ?_
  refine g_iand 22 dJ6_bitCount_0f7a4_21 rfl ?_
  refine g_iadd 23 dJ6_bitCount_0f7a4_22 rfl ?_
  refine g_istore_n 24 dJ6_bitCount_0f7a4_23 rfl (by decide) ?_
  refine g_iload_n 25 dJ6_bitCount_0f7a4_24 rfl rfl ?_
  refine g_iload_n 26 dJ6_bitCount_0f7a4_25 rfl rfl ?_
  refine g_iconst (4) 27 dJ6_bitCount_0f7a4_26 rfl (by decide) ?_
  refine g_iushr 28 dJ6_bitCount_0f7a4_27 rfl ?_
  refine g_iadd 29 dJ6_bitCount_0f7a4_28 rfl ?_
  refine g_ldcw 32 dJ6_bitCount_0f7a4_29 rfl kc_J6_267 ?_
  refine g_iand 33 dJ6_bitCount_0f7a4_32 rfl ?_
  refine g_istore_n 34 dJ6_bitCount_0f7a4_33 rfl (by decide) ?_
  refine g_iload_n 35 dJ6_bitCount_0f7a4_34 rfl rfl ?_
  refine g_iload_n 36 dJ6_bitCount_0f7a4_35 rfl rfl ?_
  refine g_bipush (8) 38 dJ6_bitCount_0f7a4_36 rfl (by decide) ?_
  refine g_iushr 39 dJ6_bitCount_0f7a4_38 rfl ?_
  refine g_iadd 40 dJ6_bitCount_0f7a4_39 rfl ?_
  refine g_istore_n 41 dJ6_bitCount_0f7a4_40 rfl (by decide) ?_
  refine g_iload_n 42 dJ6_bitCount_0f7a4_41 rfl rfl ?_
  refine g_iload_n 43 dJ6_bitCount_0f7a4_42 rfl rfl ?_
  refine g_bipush (16) 45 dJ6_bitCount_0f7a4_43 rfl (by decide) ?_
  refine g_iushr 46 dJ6_bitCount_0f7a4_45 rfl ?_
  refine g_iadd 47 dJ6_bitCount_0f7a4_46 rfl ?_
  refine g_istore_n 48 dJ6_bitCount_0f7a4_47 rfl (by decide) ?_
  refine g_iload_n 49 dJ6_bitCount_0f7a4_48 rfl rfl ?_
  refine g_bipush (63) 51 dJ6_bitCount_0f7a4_49 rfl (by decide) ?_
  refine g_iand 52 dJ6_bitCount_0f7a4_51 rfl ?_
  refine g_iret dJ6_bitCount_0f7a4_52 ?_
  exact ⟨rfl, rfl⟩

set_option maxRecDepth 100000 in
set_option maxHeartbeats 4000000 in
theorem c_bc64 (g : Gl) (l : Launch) (x : Int64) (S : Sg) : Ct g l yJ13_bitCount_95d88 cJ13_bitCount_95d88 2 (some .int) 0 0 0 [.long x] S (fun r S2 => r = some (.int (bc64 x)) ∧ S2 = S) := by
  refine Ct.of rfl (by decide) rfl (Nat.le_of_ble_eq_true rfl) ?_
  refine g_lload_n 1 dJ13_bitCount_95d88_0 rfl rfl ?_
  refine g_lload_n 2 dJ13_bitCount_95d88_1 rfl rfl ?_
  refine g_iconst (1) 3 dJ13_bitCount_95d88_2 rfl (by decide) ?_
  refine g_lushr 4 dJ13_bitCount_95d88_3 rfl ?_
  refine g_ldc2 7 dJ13_bitCount_95d88_4 rfl kc_J13_314 ?_
  refine g_land 8 dJ13_bitCount_95d88_7 rfl ?_
  refine g_lsub 9 dJ13_bitCount_95d88_8 rfl ?_
  refine g_lstore_n 10 dJ13_bitCount_95d88_9 rfl (by decide) ?_
  refine g_lload_n 11 dJ13_bitCount_95d88_10 rfl rfl ?_
  refine g_ldc2 14 dJ13_bitCount_95d88_11 rfl kc_J13_316 ?_
  refine g_land 15 dJ13_bitCount_95d88_14 rfl ?_
  refine g_lload_n 16 dJ13_bitCount_95d88_15 rfl rfl ?_
  refine g_iconst (2) 17 dJ13_bitCount_95d88_16 rfl (by decide) ?_
  refine g_lushr 18 dJ13_bitCount_95d88_17 rfl ?_
  refine g_ldc2 21 dJ13_bitCount_95d88_18 rfl kc_J13_316 ?_
  refine g_land 22 dJ13_bitCount_95d88_21 rfl ?_
  refine g_ladd 23 dJ13_bitCount_95d88_22 rfl ?_
  refine g_lstore_n 24 dJ13_bitCount_95d88_23 rfl (by decide) ?_
  refine g_lload_n 25 dJ13_bitCount_95d88_24 rfl rfl ?_
  refine g_lload_n 26 dJ13_bitCount_95d88_25 rfl rfl ?_
  refine g_iconst (4) 27 dJ13_bitCount_95d88_26 rfl (by decide) ?_
  refine g_lushr 28 dJ13_bitCount_95d88_27 rfl ?_
  refine g_ladd 29 dJ13_bitCount_95d88_28 rfl ?_
  refine g_ldc2 32 dJ13_bitCount_95d88_29 rfl kc_J13_318 ?_
  refine g_land 33 dJ13_bitCount_95d88_32 rfl ?_
  refine g_lstore_n 34 dJ13_bitCount_95d88_33 rfl (by decide) ?_
  refine g_lload_n 35 dJ13_bitCount_95d88_34 rfl rfl ?_
  refine g_lload_n 36 dJ13_bitCount_95d88_35 rfl rfl ?_
  refine g_bipush (8) 38 dJ13_bitCount_95d88_36 rfl (by decide) ?_
  refine g_lushr 39 dJ13_bitCount_95d88_38 rfl ?_
  refine g_ladd 40 dJ13_bitCount_95d88_39 rfl ?_
  refine g_lstore_n 41 dJ13_bitCount_95d88_40 rfl (by decide) ?_
  refine g_lload_n 42 dJ13_bitCount_95d88_41 rfl rfl ?_
  refine g_lload_n 43 dJ13_bitCount_95d88_42 rfl rfl ?_
  refine g_bipush (16) 45 dJ13_bitCount_95d88_43 rfl (by decide) ?_
  refine g_lushr 46 dJ13_bitCount_95d88_45 rfl ?_
  refine g_ladd 47 dJ13_bitCount_95d88_46 rfl ?_
  refine g_lstore_n 48 dJ13_bitCount_95d88_47 rfl (by decide) ?_
  refine g_lload_n 49 dJ13_bitCount_95d88_48 rfl rfl ?_
  refine g_lload_n 50 dJ13_bitCount_95d88_49 rfl rfl ?_
  refine g_bipush (32) 52 dJ13_bitCount_95d88_50 rfl (by decide) ?_
  refine g_lushr 53 dJ13_bitCount_95d88_52 rfl ?_
  refine g_ladd 54 dJ13_bitCount_95d88_53 rfl ?_
  refine g_lstore_n 55 dJ13_bitCount_95d88_54 rfl (by decide) ?_
  refine g_lload_n 56 dJ13_bitCount_95d88_55 rfl rfl ?_
  refine g_l2i 57 dJ13_bitCount_95d88_56 rfl ?_
  refine g_bipush (127) 59 dJ13_bitCount_95d88_57 rfl (by decide) ?_
  refine g_iand 60 dJ13_bitCount_95d88_59 rfl ?_
  refine g_iret dJ13_bitCount_95d88_60 ?_
  exact ⟨rfl, rfl⟩

set_option maxRecDepth 100000 in
set_option maxHeartbeats 4000000 in
theorem c_lineCount (g : Gl) (l : Launch) (F : Nat → Nat → Int32) (J : Nat → Int64) {G P : Nat} (hS : cS F G P) : Ct g l yX7_lineCount cX7_lineCount 1 (some .int) 0 0 0 [.ref 0] (St F J) (fun r S2 => r = some (.int (nI (G + P))) ∧ S2 = St F J) := by
  obtain ⟨hG, hP, hG8, hP24⟩ := hS
  refine Ct.of rfl (by decide) rfl (Nat.le_of_ble_eq_true rfl) ?_
  refine g_aload_n 1 dX7_lineCount_0 rfl rfl ?_
  refine gf_7_7 4 dX7_lineCount_1 rfl kf_X7_81 (by first | decide | assumption | exact ⟨Nat.le_of_ble_eq_true rfl, rfl⟩) ?_
  refine g_aload_n 5 dX7_lineCount_4 rfl rfl ?_
  refine gf_7_8 8 dX7_lineCount_5 rfl kf_X7_97 (by first | decide | assumption | exact ⟨Nat.le_of_ble_eq_true rfl, rfl⟩) ?_
  refine g_iadd 9 dX7_lineCount_8 rfl ?_
  refine g_iret dX7_lineCount_9 ?_
  exact ⟨by rw [hG, hP, nI_add], rfl⟩

set_option maxRecDepth 100000 in
set_option maxHeartbeats 4000000 in
theorem c_isLine (g : Gl) (l : Launch) (i : Int32) (F : Nat → Nat → Int32) (J : Nat → Int64) {G P : Nat} (hS : cS F G P) : Ct g l yX7_isLine cX7_isLine 2 (some .boolean) 1 0 0 [.ref 0, .int i] (St F J) (fun r S2 => r = some (.int (if isLn (G + P) i then 1 else 0)) ∧ S2 = St F J) := by
  obtain ⟨hG, hP, hG8, hP24⟩ := hS
  refine Ct.of rfl (by decide) rfl (Nat.le_of_ble_eq_true rfl) ?_
  refine g_iload_n 1 dX7_isLine_0 rfl rfl ?_
  refine g_if_lt 25 4 dX7_isLine_1 rfl (by decide) (fun h1 => ?_) (fun h1 => ?_)
  · refine g_iconst (0) 26 dX7_isLine_25 rfl (by decide) ?_
    refine g_zret dX7_isLine_26 (by decide) ?_
    exact ⟨iv_neg (fun z => z.1 h1), rfl⟩
  · refine g_iload_n 5 dX7_isLine_4 rfl rfl ?_
    refine g_aload_n 6 dX7_isLine_5 rfl rfl ?_
    refine g_v0 7 9 dX7_isLine_6 rfl kl_X7_185 mv_X7_lineCount rfl ⟨Nat.le_of_ble_eq_true rfl, Nat.le_of_ble_eq_true rfl⟩ (Nat.le_of_ble_eq_true rfl) (by first | decide | assumption | exact ⟨Nat.le_of_ble_eq_true rfl, rfl⟩) (c_lineCount g l F J ⟨hG, hP, hG8, hP24⟩) ?_
    rintro _ _ ⟨rfl, rfl⟩
    refine g_icmp_ge 25 12 dX7_isLine_9 rfl (by decide) (fun h9 => ?_) (fun h9 => ?_)
    · refine g_iconst (0) 26 dX7_isLine_25 rfl (by decide) ?_
      refine g_zret dX7_isLine_26 (by decide) ?_
      exact ⟨iv_neg (fun z => z.2 h9), rfl⟩
    · refine g_iload_n 13 dX7_isLine_12 rfl rfl ?_
      refine g_aload_n 14 dX7_isLine_13 rfl rfl ?_
      refine gf_7_4 17 dX7_isLine_14 rfl kf_X7_39 ?_
      refine ga_len 18 dX7_isLine_17 rfl ⟨by decide, Or.inr rfl⟩ ?_
      refine g_icmp_ge 25 21 dX7_isLine_18 rfl (by decide) (fun h18 => ?_) (fun h18 => ?_)
      · obtain ⟨n, hn, e, -⟩ := isLn_n ⟨h1, h9⟩ (by omega)
        exact absurd h18 (by rw [e]; exact nI_ge (a := n) (b := 32) (by omega) (by decide))
      · refine g_iconst (1) 22 dX7_isLine_21 rfl (by decide) ?_
        refine g_goto 26 dX7_isLine_22 (by decide) ?_
        refine g_zret dX7_isLine_26 (by decide) ?_
        exact ⟨iv_pos ⟨h1, h9⟩, rfl⟩

set_option maxRecDepth 100000 in
set_option maxHeartbeats 4000000 in
theorem c_isWithin (g : Gl) (l : Launch) (x y : Int64) (S : Sg) : Ct g l yX7_isWithin cX7_isWithin 4 (some .boolean) 0 0 0 [.long x, .long y] S (fun r S2 => r = some (.int (if wit x y then 1 else 0)) ∧ S2 = S) := by
  refine Ct.of rfl (by decide) rfl (Nat.le_of_ble_eq_true rfl) ?_
  refine g_lload_n 1 dX7_isWithin_0 rfl rfl ?_
  refine g_lload_n 2 dX7_isWithin_1 rfl rfl ?_
  refine g_ldc2 5 dX7_isWithin_2 rfl kc_X7_192 ?_
  refine g_lxor 6 dX7_isWithin_5 rfl ?_
  refine g_land 7 dX7_isWithin_6 rfl ?_
  refine g_lconst (0) 8 dX7_isWithin_7 rfl (by decide) ?_
  refine g_lc_ne 16 12 dX7_isWithin_8 dX7_isWithin_9 rfl (by decide) (fun h8 => ?_) (fun h8 => ?_)
  · refine g_iconst (0) 17 dX7_isWithin_16 rfl (by decide) ?_
    refine g_zret dX7_isWithin_17 (by decide) ?_
    exact ⟨iv_neg h8, rfl⟩
  · refine g_iconst (1) 13 dX7_isWithin_12 rfl (by decide) ?_
    refine g_goto 17 dX7_isWithin_13 (by decide) ?_
    refine g_zret dX7_isWithin_17 (by decide) ?_
    exact ⟨iv_pos h8, rfl⟩

set_option maxRecDepth 100000 in
set_option maxHeartbeats 4000000 in
theorem c_has (g : Gl) (l : Launch) (x : Int64) (w : Nat) (S : Sg) : Ct g l yX7_has cX7_has 3 (some .boolean) 0 0 0 [.long x, .int (nI w)] S (fun r S2 => r = some (.int (if hasW x w then 1 else 0)) ∧ S2 = S) := by
  refine Ct.of rfl (by decide) rfl (Nat.le_of_ble_eq_true rfl) ?_
  refine g_lload_n 1 dX7_has_0 rfl rfl ?_
  refine g_iload_n 2 dX7_has_1 rfl rfl ?_
  refine g_lushr 3 dX7_has_2 rfl ?_
  refine g_lconst (1) 4 dX7_has_3 rfl (by decide) ?_
  refine g_land 5 dX7_has_4 rfl ?_
  refine g_lconst (1) 6 dX7_has_5 rfl (by decide) ?_
  refine g_lc_ne 14 10 dX7_has_6 dX7_has_7 rfl (by decide) (fun h6 => ?_) (fun h6 => ?_)
  · refine g_iconst (0) 15 dX7_has_14 rfl (by decide) ?_
    refine g_zret dX7_has_15 (by decide) ?_
    exact ⟨iv_neg h6, rfl⟩
  · refine g_iconst (1) 11 dX7_has_10 rfl (by decide) ?_
    refine g_goto 15 dX7_has_11 (by decide) ?_
    refine g_zret dX7_has_15 (by decide) ?_
    exact ⟨iv_pos h6, rfl⟩

set_option maxRecDepth 100000 in
set_option maxHeartbeats 4000000 in
theorem c_isLetterSet (g : Gl) (l : Launch) (x : Int32) (S : Sg) : Ct g l yX7_isLetterSet cX7_isLetterSet 1 (some .boolean) 0 0 0 [.int x] S (fun r S2 => r = some (.int (if ¬ x < 0 ∧ ¬ 63 < x then 1 else 0)) ∧ S2 = S) := by
  refine Ct.of rfl (by decide) rfl (Nat.le_of_ble_eq_true rfl) ?_
  refine g_iload_n 1 dX7_isLetterSet_0 rfl rfl ?_
  refine g_if_lt 14 4 dX7_isLetterSet_1 rfl (by decide) (fun h1 => ?_) (fun h1 => ?_)
  · refine g_iconst (0) 15 dX7_isLetterSet_14 rfl (by decide) ?_
    refine g_zret dX7_isLetterSet_15 (by decide) ?_
    exact ⟨iv_neg (fun z => z.1 h1), rfl⟩
  · refine g_iload_n 5 dX7_isLetterSet_4 rfl rfl ?_
    refine g_bipush (63) 7 dX7_isLetterSet_5 rfl (by decide) ?_
    refine g_icmp_gt 14 10 dX7_isLetterSet_7 rfl (by decide) (fun h7 => ?_) (fun h7 => ?_)
    · refine g_iconst (0) 15 dX7_isLetterSet_14 rfl (by decide) ?_
      refine g_zret dX7_isLetterSet_15 (by decide) ?_
      exact ⟨iv_neg (fun z => z.2 h7), rfl⟩
    · refine g_iconst (1) 11 dX7_isLetterSet_10 rfl (by decide) ?_
      refine g_goto 15 dX7_isLetterSet_11 (by decide) ?_
      refine g_zret dX7_isLetterSet_15 (by decide) ?_
      exact ⟨iv_pos ⟨h1, h7⟩, rfl⟩

theorem b10n {c : Prop} [Decidable c] (h : ¬ (if c then (1 : Int32) else 0) = 0) : c := by
  by_cases z : c
  · exact z
  · exact absurd (b10.mpr z) h
theorem lv_pos {c : Prop} [Decidable c] {a b : Int64} (h : c) : some (Value.long a) = some (Value.long (if c then a else b)) := by rw [if_pos h]
theorem lv_neg {c : Prop} [Decidable c] {a b : Int64} (h : ¬ c) : some (Value.long b) = some (Value.long (if c then a else b)) := by rw [if_neg h]
set_option maxRecDepth 100000 in
set_option maxHeartbeats 4000000 in
theorem c_line (g : Gl) (l : Launch) (i a : Int32) (F : Nat → Nat → Int32) (J : Nat → Int64) {G P : Nat} (hS : cS F G P) : Ct g l yX7_line cX7_line 3 (some .int) 2 0 0 [.ref 0, .int i, .int a] (St F J) (fun r S2 => r = some (.int (lineA (G + P) (Wc F) (Dc F) i a)) ∧ S2 = St F J) := by
  obtain ⟨hG, hP, hG8, hP24⟩ := hS
  refine Ct.of rfl (by decide) rfl (Nat.le_of_ble_eq_true rfl) ?_
  refine g_aload_n 1 dX7_line_0 rfl rfl ?_
  refine g_iload_n 2 dX7_line_1 rfl rfl ?_
  refine g_v1 7 5 dX7_line_2 rfl kl_X7_152 mv_X7_isLine rfl ⟨Nat.le_of_ble_eq_true rfl, Nat.le_of_ble_eq_true rfl⟩ (Nat.le_of_ble_eq_true rfl) (by first | decide | assumption | exact ⟨Nat.le_of_ble_eq_true rfl, rfl⟩) (c_isLine g l _ F J ⟨hG, hP, hG8, hP24⟩) ?_
  rintro _ _ ⟨rfl, rfl⟩
  refine g_if_eq 18 8 dX7_line_5 rfl (by decide) (fun h5 => ?_) (fun h5 => ?_)
  · refine g_ldc 20 dX7_line_18 rfl kc_X7_171 ?_
    refine g_iret dX7_line_20 ?_
    exact ⟨by rw [lineA, if_neg (fun z => b10.mp h5 z.1)], rfl⟩
  · obtain ⟨n, hn, en, cn⟩ := isLn_n (b10n h5) (by omega)
    refine g_iload_n 9 dX7_line_8 rfl rfl ?_
    refine g_if_lt 18 12 dX7_line_9 rfl (by decide) (fun h9 => ?_) (fun h9 => ?_)
    · refine g_ldc 20 dX7_line_18 rfl kc_X7_171 ?_
      refine g_iret dX7_line_20 ?_
      exact ⟨by rw [lineA, if_neg (fun z => z.2.1 h9)], rfl⟩
    · refine g_iload_n 13 dX7_line_12 rfl rfl ?_
      refine g_bipush (6) 15 dX7_line_13 rfl (by decide) ?_
      refine g_icmp_le 21 18 dX7_line_15 rfl (by decide) (fun h15 => ?_) (fun h15 => ?_)
      · refine g_iload_n 22 dX7_line_21 rfl rfl ?_
        refine g_bipush (6) 24 dX7_line_22 rfl (by decide) ?_
        refine g_icmp_ne 39 27 dX7_line_24 rfl (by decide) (fun h24 => ?_) (fun h24 => ?_)
        · refine g_aload_n 40 dX7_line_39 rfl rfl ?_
          refine gf_7_4 43 dX7_line_40 rfl kf_X7_39 ?_
          refine g_iload_n 44 dX7_line_43 rfl rfl ?_
          refine ga_lines n 45 dX7_line_44 rfl en (by omega) ?_
          refine gf_2_0 48 dX7_line_45 rfl kf_X7_175 (ln_is n (by omega)) ?_
          obtain ⟨b, hb, eb⟩ : ∃ b : Nat, b < 6 ∧ a = nI b := by
            obtain ⟨b, hb, e⟩ := nI_of2 (M := 6) (n := 6) rfl h9 h15
            refine ⟨b, ?_, e⟩
            rcases Nat.lt_or_ge b 6 with z | z
            · exact z
            · exact absurd (by rw [e, show b = 6 by omega]; rfl) h24
          obtain ⟨hw, hln⟩ := isl_w _ (ln_is n (by omega)).1 (ln_is n (by omega)).2
          refine g_iload_n 49 dX7_line_48 rfl rfl ?_
          refine ga_ild (b) 50 dX7_line_49 rfl (by first | decide | assumption | exact ⟨Nat.le_of_ble_eq_true rfl, rfl⟩) eb (by rw [hln]; exact hb) ?_
          refine g_iret dX7_line_50 ?_
          exact ⟨by rw [lineA, if_pos ⟨b10n h5, h9, h15⟩, if_neg h24, cn, eb, nI_clamp (by omega)]; rfl, rfl⟩
        · refine g_aload_n 28 dX7_line_27 rfl rfl ?_
          refine gf_7_4 31 dX7_line_28 rfl kf_X7_39 ?_
          refine g_iload_n 32 dX7_line_31 rfl rfl ?_
          refine ga_lines n 33 dX7_line_32 rfl en (by omega) ?_
          refine gf_2_1 36 dX7_line_33 rfl kf_X7_172 (ln_is n (by omega)) ?_
          refine g_goto 50 dX7_line_36 (by decide) ?_
          refine g_iret dX7_line_50 ?_
          exact ⟨by rw [lineA, if_pos ⟨b10n h5, h9, h15⟩, if_pos h24, cn]; rfl, rfl⟩
      · refine g_ldc 20 dX7_line_18 rfl kc_X7_171 ?_
        refine g_iret dX7_line_20 ?_
        exact ⟨by rw [lineA, if_neg (fun z => h15 z.2.2)], rfl⟩

set_option maxRecDepth 100000 in
set_option maxHeartbeats 4000000 in
theorem c_holds (g : Gl) (l : Launch) (i : Int32) (F : Nat → Nat → Int32) (J : Nat → Int64) {G P : Nat} (hS : cS F G P) : Ct g l yX7_holds cX7_holds 2 (some .long) 4 0 0 [.ref 0, .int i] (St F J) (fun r S2 => r = some (.long (holdsA (G + P) (Wc F) (Dc F) i)) ∧ S2 = St F J) := by
  obtain ⟨hG, hP, hG8, hP24⟩ := hS
  refine Ct.of rfl (by decide) rfl (Nat.le_of_ble_eq_true rfl) ?_
  refine g_aload_n 1 dX7_holds_0 rfl rfl ?_
  refine g_iload_n 2 dX7_holds_1 rfl rfl ?_
  refine g_v1 7 5 dX7_holds_2 rfl kl_X7_152 mv_X7_isLine rfl ⟨Nat.le_of_ble_eq_true rfl, Nat.le_of_ble_eq_true rfl⟩ (Nat.le_of_ble_eq_true rfl) (by first | decide | assumption | exact ⟨Nat.le_of_ble_eq_true rfl, rfl⟩) (c_isLine g l _ F J ⟨hG, hP, hG8, hP24⟩) ?_
  rintro _ _ ⟨rfl, rfl⟩
  refine g_if_eq 20 8 dX7_holds_5 rfl (by decide) (fun h5 => ?_) (fun h5 => ?_)
  · refine g_lconst (0) 21 dX7_holds_20 rfl (by decide) ?_
    refine g_lret dX7_holds_21 ?_
    exact ⟨by rw [holdsA, if_neg (b10.mp h5)], rfl⟩
  · obtain ⟨n, hn, en, cn⟩ := isLn_n (b10n h5) (by omega)
    refine g_aload_n 9 dX7_holds_8 rfl rfl ?_
    refine gf_7_4 12 dX7_holds_9 rfl kf_X7_39 ?_
    refine g_iload_n 13 dX7_holds_12 rfl rfl ?_
    refine ga_lines n 14 dX7_holds_13 rfl en (by omega) ?_
    refine g_v0 2 17 dX7_holds_14 rfl kl_X7_178 mv_X2_worldsHeld rfl ⟨Nat.le_of_ble_eq_true rfl, Nat.le_of_ble_eq_true rfl⟩ (Nat.le_of_ble_eq_true rfl) (ln_is n (by omega)) (c_worldsHeld g l (ln_is n (by omega)) F J) ?_
    rintro _ _ ⟨rfl, rfl⟩
    refine g_goto 21 dX7_holds_17 (by decide) ?_
    refine g_lret dX7_holds_21 ?_
    exact ⟨by rw [holdsA, if_pos (b10n h5), cn]; rfl, rfl⟩

set_option maxRecDepth 100000 in
set_option maxHeartbeats 4000000 in
theorem c_broken (g : Gl) (l : Launch) (i : Int32) (F : Nat → Nat → Int32) (J : Nat → Int64) {G P : Nat} (hS : cS F G P) : Ct g l yX7_broken cX7_broken 2 (some .int) 3 0 0 [.ref 0, .int i] (St F J) (fun r S2 => r = some (.int (brokenA (G + P) (Wc F) (Dc F) i)) ∧ S2 = St F J) := by
  obtain ⟨hG, hP, hG8, hP24⟩ := hS
  refine Ct.of rfl (by decide) rfl (Nat.le_of_ble_eq_true rfl) ?_
  refine g_aload_n 1 dX7_broken_0 rfl rfl ?_
  refine g_iload_n 2 dX7_broken_1 rfl rfl ?_
  refine g_v1 7 5 dX7_broken_2 rfl kl_X7_152 mv_X7_isLine rfl ⟨Nat.le_of_ble_eq_true rfl, Nat.le_of_ble_eq_true rfl⟩ (Nat.le_of_ble_eq_true rfl) (by first | decide | assumption | exact ⟨Nat.le_of_ble_eq_true rfl, rfl⟩) (c_isLine g l _ F J ⟨hG, hP, hG8, hP24⟩) ?_
  rintro _ _ ⟨rfl, rfl⟩
  refine g_if_ne 10 8 dX7_broken_5 rfl (by decide) (fun h5 => ?_) (fun h5 => ?_)
  · obtain ⟨n, hn, en, cn⟩ := isLn_n (b10n h5) (by omega)
    refine g_aload_n 11 dX7_broken_10 rfl rfl ?_
    refine gf_7_4 14 dX7_broken_11 rfl kf_X7_39 ?_
    refine g_iload_n 15 dX7_broken_14 rfl rfl ?_
    refine ga_lines n 16 dX7_broken_15 rfl en (by omega) ?_
    refine g_v0 2 19 dX7_broken_16 rfl kl_X7_182 mv_X2_isBroken rfl ⟨Nat.le_of_ble_eq_true rfl, Nat.le_of_ble_eq_true rfl⟩ (Nat.le_of_ble_eq_true rfl) (ln_is n (by omega)) (c_isBrokenL g l (ln_is n (by omega)) F J) ?_
    rintro _ _ ⟨rfl, rfl⟩
    refine g_if_eq 26 22 dX7_broken_19 rfl (by decide) (fun h19 => ?_) (fun h19 => ?_)
    · refine g_iconst (0) 27 dX7_broken_26 rfl (by decide) ?_
      refine g_iret dX7_broken_27 ?_
      exact ⟨by rw [brokenA, if_pos (b10n h5), cn, if_pos (show okB (Wc F) (Dc F) n from b01.mp h19)], rfl⟩
    · refine g_iconst (1) 23 dX7_broken_22 rfl (by decide) ?_
      refine g_goto 27 dX7_broken_23 (by decide) ?_
      refine g_iret dX7_broken_27 ?_
      exact ⟨by rw [brokenA, if_pos (b10n h5), cn, if_neg (show ¬ okB (Wc F) (Dc F) n from fun z => h19 (b01.mpr z))], rfl⟩
  · refine g_iconst (-1) 9 dX7_broken_8 rfl (by decide) ?_
    refine g_iret dX7_broken_9 ?_
    exact ⟨by rw [brokenA, if_neg (b10.mp h5)], rfl⟩

set_option maxRecDepth 100000 in
set_option maxHeartbeats 4000000 in
theorem lp_end (g : Gl) (l : Launch) (F : Nat → Nat → Int32) (J : Nat → Int64) {G P : Nat} (hS : cS F G P) {XX : State → Method → Prop} (n : Nat) : ∀ (i : Nat) (ix : Int32), i + n = G + P → ix = nI i → endR (Wc F) (Dc F) (G + P) 0 = endR (Wc F) (Dc F) n i → Gj g l (rmd 3 0 0) XX (QM g (fun r S2 => r = some (.int (endR (Wc F) (Dc F) (G + P) 0)) ∧ S2 = St F J) 0 0) RX7 cX7_end 2 (some .int) 2 [some (.ref 0), some (.int ix)] [] (St F J) 0 0 := by
  obtain ⟨hG, hP, hG8, hP24⟩ := hS
  induction n with
  | zero =>
    intro i ix hi hx he
    obtain rfl : i = G + P := by omega
    subst hx
    refine g_iload_n 3 dX7_end_2 rfl rfl ?_
    refine g_aload_n 4 dX7_end_3 rfl rfl ?_
    refine g_v0 7 7 dX7_end_4 rfl kl_X7_185 mv_X7_lineCount rfl ⟨Nat.le_of_ble_eq_true rfl, Nat.le_of_ble_eq_true rfl⟩ (Nat.le_of_ble_eq_true rfl) (by first | decide | assumption | exact ⟨Nat.le_of_ble_eq_true rfl, rfl⟩) (c_lineCount g l F J ⟨hG, hP, hG8, hP24⟩) ?_
    rintro _ _ ⟨rfl, rfl⟩
    refine g_icmp_ge 39 10 dX7_end_7 rfl (by decide) (fun h7 => ?_) (fun h7 => ?_)
    · refine g_bipush (-9) 41 dX7_end_39 rfl (by decide) ?_
      refine g_iret dX7_end_41 ?_
      exact ⟨by rw [he]; rfl, rfl⟩
    · exact absurd (nI_le (Nat.le_refl _) (by omega)) h7
  | succ n ih =>
    intro i ix hi hx he
    subst hx
    refine g_iload_n 3 dX7_end_2 rfl rfl ?_
    refine g_aload_n 4 dX7_end_3 rfl rfl ?_
    refine g_v0 7 7 dX7_end_4 rfl kl_X7_185 mv_X7_lineCount rfl ⟨Nat.le_of_ble_eq_true rfl, Nat.le_of_ble_eq_true rfl⟩ (Nat.le_of_ble_eq_true rfl) (by first | decide | assumption | exact ⟨Nat.le_of_ble_eq_true rfl, rfl⟩) (c_lineCount g l F J ⟨hG, hP, hG8, hP24⟩) ?_
    rintro _ _ ⟨rfl, rfl⟩
    refine g_icmp_ge 39 10 dX7_end_7 rfl (by decide) (fun h7 => ?_) (fun h7 => ?_)
    · exact absurd h7 (nI_ge (by omega) (by omega))
    · refine g_iload_n 11 dX7_end_10 rfl rfl ?_
      refine g_aload_n 12 dX7_end_11 rfl rfl ?_
      refine gf_7_4 15 dX7_end_12 rfl kf_X7_39 ?_
      refine ga_len 16 dX7_end_15 rfl ⟨by decide, Or.inr rfl⟩ ?_
      refine g_icmp_ge 39 19 dX7_end_16 rfl (by decide) (fun h16 => ?_) (fun h16 => ?_)
      · exact absurd h16 (nI_ge (a := i) (b := 32) (by omega) (by decide))
      · refine g_aload_n 20 dX7_end_19 rfl rfl ?_
        refine gf_7_4 23 dX7_end_20 rfl kf_X7_39 ?_
        refine g_iload_n 24 dX7_end_23 rfl rfl ?_
        refine ga_lines i 25 dX7_end_24 rfl rfl (by omega) ?_
        refine g_v0 2 28 dX7_end_25 rfl kl_X7_182 mv_X2_isBroken rfl ⟨Nat.le_of_ble_eq_true rfl, Nat.le_of_ble_eq_true rfl⟩ (Nat.le_of_ble_eq_true rfl) (ln_is i (by omega)) (c_isBrokenL g l (ln_is i (by omega)) F J) ?_
        rintro _ _ ⟨rfl, rfl⟩
        refine g_if_eq 33 31 dX7_end_28 rfl (by decide) (fun h28 => ?_) (fun h28 => ?_)
        · refine g_iinc (1) 36 dX7_end_33 rfl (by decide) (by decide) rfl ?_
          refine g_goto 2 dX7_end_36 (by decide) ?_
          exact ih (i + 1) _ (by omega) (nI_succ i).symm (by rw [he, endR, if_pos (show okB (Wc F) (Dc F) i from b01.mp h28)])
        · refine g_iload_n 32 dX7_end_31 rfl rfl ?_
          refine g_iret dX7_end_32 ?_
          exact ⟨by rw [he, endR, if_neg (show ¬ okB (Wc F) (Dc F) i from fun z => h28 (b01.mpr z))], rfl⟩

set_option maxRecDepth 100000 in
set_option maxHeartbeats 4000000 in
theorem c_end (g : Gl) (l : Launch) (F : Nat → Nat → Int32) (J : Nat → Int64) {G P : Nat} (hS : cS F G P) : Ct g l yX7_end cX7_end 2 (some .int) 3 0 0 [.ref 0] (St F J) (fun r S2 => r = some (.int (endR (Wc F) (Dc F) (G + P) 0)) ∧ S2 = St F J) := by
  obtain ⟨hG, hP, hG8, hP24⟩ := hS
  refine Ct.of rfl (by decide) rfl (Nat.le_of_ble_eq_true rfl) ?_
  refine g_iconst (0) 1 dX7_end_0 rfl (by decide) ?_
  refine g_istore_n 2 dX7_end_1 rfl (by decide) ?_
  exact lp_end g l F J ⟨hG, hP, hG8, hP24⟩ (G + P) 0 _ (Nat.zero_add _) rfl rfl

set_option maxRecDepth 100000 in
set_option maxHeartbeats 4000000 in
theorem c_both (g : Gl) (l : Launch) (i j what : Int32) (F : Nat → Nat → Int32) (J : Nat → Int64) {G P : Nat} (hS : cS F G P) : Ct g l yX7_both cX7_both 9 (some .int) 4 0 0 [.ref 0, .int i, .int j, .int what] (St F J) (fun r S2 => r = some (.int (bothA (G + P) (Wc F) (Dc F) i j what)) ∧ S2 = St F J) := by
  obtain ⟨hG, hP, hG8, hP24⟩ := hS
  refine Ct.of rfl (by decide) rfl (Nat.le_of_ble_eq_true rfl) ?_
  refine g_aload_n 1 dX7_both_0 rfl rfl ?_
  refine g_iload_n 2 dX7_both_1 rfl rfl ?_
  refine g_v1 7 5 dX7_both_2 rfl kl_X7_152 mv_X7_isLine rfl ⟨Nat.le_of_ble_eq_true rfl, Nat.le_of_ble_eq_true rfl⟩ (Nat.le_of_ble_eq_true rfl) (by first | decide | assumption | exact ⟨Nat.le_of_ble_eq_true rfl, rfl⟩) (c_isLine g l _ F J ⟨hG, hP, hG8, hP24⟩) ?_
  rintro _ _ ⟨rfl, rfl⟩
  refine g_if_eq 25 8 dX7_both_5 rfl (by decide) (fun h5 => ?_) (fun h5 => ?_)
  · refine g_iconst (-1) 26 dX7_both_25 rfl (by decide) ?_
    refine g_iret dX7_both_26 ?_
    exact ⟨by rw [bothA, if_neg (fun z => b10.mp h5 z.1)], rfl⟩
  · obtain ⟨n, hn, en, cn⟩ := isLn_n (b10n h5) (by omega)
    refine g_aload_n 9 dX7_both_8 rfl rfl ?_
    refine g_iload_n 10 dX7_both_9 rfl rfl ?_
    refine g_v1 7 13 dX7_both_10 rfl kl_X7_152 mv_X7_isLine rfl ⟨Nat.le_of_ble_eq_true rfl, Nat.le_of_ble_eq_true rfl⟩ (Nat.le_of_ble_eq_true rfl) (by first | decide | assumption | exact ⟨Nat.le_of_ble_eq_true rfl, rfl⟩) (c_isLine g l _ F J ⟨hG, hP, hG8, hP24⟩) ?_
    rintro _ _ ⟨rfl, rfl⟩
    refine g_if_eq 25 16 dX7_both_13 rfl (by decide) (fun h13 => ?_) (fun h13 => ?_)
    · refine g_iconst (-1) 26 dX7_both_25 rfl (by decide) ?_
      refine g_iret dX7_both_26 ?_
      exact ⟨by rw [bothA, if_neg (fun z => b10.mp h13 z.2.1)], rfl⟩
    · obtain ⟨m, hm, em, cm⟩ := isLn_n (b10n h13) (by omega)
      refine g_iload_n 17 dX7_both_16 rfl rfl ?_
      refine g_if_lt 25 20 dX7_both_17 rfl (by decide) (fun h17 => ?_) (fun h17 => ?_)
      · refine g_iconst (-1) 26 dX7_both_25 rfl (by decide) ?_
        refine g_iret dX7_both_26 ?_
        exact ⟨by rw [bothA, if_neg (fun z => z.2.2.1 h17)], rfl⟩
      · refine g_iload_n 21 dX7_both_20 rfl rfl ?_
        refine g_iconst (1) 22 dX7_both_21 rfl (by decide) ?_
        refine g_icmp_le 27 25 dX7_both_22 rfl (by decide) (fun h22 => ?_) (fun h22 => ?_)
        · refine g_aload_n 28 dX7_both_27 rfl rfl ?_
          refine gf_7_4 31 dX7_both_28 rfl kf_X7_39 ?_
          refine g_iload_n 32 dX7_both_31 rfl rfl ?_
          refine ga_lines n 33 dX7_both_32 rfl en (by omega) ?_
          refine g_v0 2 36 dX7_both_33 rfl kl_X7_178 mv_X2_worldsHeld rfl ⟨Nat.le_of_ble_eq_true rfl, Nat.le_of_ble_eq_true rfl⟩ (Nat.le_of_ble_eq_true rfl) (ln_is n (by omega)) (c_worldsHeld g l (ln_is n (by omega)) F J) ?_
          rintro _ _ ⟨rfl, rfl⟩
          refine g_lstore 38 dX7_both_36 rfl (by decide) ?_
          refine g_aload_n 39 dX7_both_38 rfl rfl ?_
          refine gf_7_4 42 dX7_both_39 rfl kf_X7_39 ?_
          refine g_iload_n 43 dX7_both_42 rfl rfl ?_
          refine ga_lines m 44 dX7_both_43 rfl em (by omega) ?_
          refine g_v0 2 47 dX7_both_44 rfl kl_X7_178 mv_X2_worldsHeld rfl ⟨Nat.le_of_ble_eq_true rfl, Nat.le_of_ble_eq_true rfl⟩ (Nat.le_of_ble_eq_true rfl) (ln_is m (by omega)) (c_worldsHeld g l (ln_is m (by omega)) F J) ?_
          rintro _ _ ⟨rfl, rfl⟩
          refine g_lstore 49 dX7_both_47 rfl (by decide) ?_
          refine g_iload_n 50 dX7_both_49 rfl rfl ?_
          refine g_if_ne 69 53 dX7_both_50 rfl (by decide) (fun h50 => ?_) (fun h50 => ?_)
          · refine g_lload 71 dX7_both_69 rfl rfl ?_
            refine g_lload 73 dX7_both_71 rfl rfl ?_
            refine g_s2 76 dX7_both_73 rfl kl_X7_188 ms_X7_isWithin ⟨Nat.le_of_ble_eq_true rfl, Nat.le_of_ble_eq_true rfl⟩ (Nat.le_of_ble_eq_true rfl) (c_isWithin g l _ _ _) ?_
            rintro _ _ ⟨rfl, rfl⟩
            refine g_istore 78 dX7_both_76 rfl (by decide) ?_
            refine g_iload 80 dX7_both_78 rfl rfl ?_
            refine g_if_eq 87 83 dX7_both_80 rfl (by decide) (fun h80 => ?_) (fun h80 => ?_)
            · refine g_iconst (0) 88 dX7_both_87 rfl (by decide) ?_
              refine g_iret dX7_both_88 ?_
              have e1 : holdsA (G + P) (Wc F) (Dc F) i = wh (Wc F n) (Dc F n) 64 := by rw [holdsA, if_pos (b10n h5), cn]
              have e2 : holdsA (G + P) (Wc F) (Dc F) j = wh (Wc F m) (Dc F m) 64 := by rw [holdsA, if_pos (b10n h13), cm]
              exact ⟨by rw [bothA, if_pos ⟨b10n h5, b10n h13, h17, h22⟩, e1, e2, if_neg h50, if_neg (show ¬ wit (wh (Wc F n) (Dc F n) 64) (wh (Wc F m) (Dc F m) 64) from b10.mp h80)], rfl⟩
            · refine g_iconst (1) 84 dX7_both_83 rfl (by decide) ?_
              refine g_goto 88 dX7_both_84 (by decide) ?_
              refine g_iret dX7_both_88 ?_
              have e1 : holdsA (G + P) (Wc F) (Dc F) i = wh (Wc F n) (Dc F n) 64 := by rw [holdsA, if_pos (b10n h5), cn]
              have e2 : holdsA (G + P) (Wc F) (Dc F) j = wh (Wc F m) (Dc F m) 64 := by rw [holdsA, if_pos (b10n h13), cm]
              exact ⟨by rw [bothA, if_pos ⟨b10n h5, b10n h13, h17, h22⟩, e1, e2, if_neg h50, if_pos (show wit (wh (Wc F n) (Dc F n) 64) (wh (Wc F m) (Dc F m) 64) from b10n h80)], rfl⟩
          · refine g_lload 55 dX7_both_53 rfl rfl ?_
            refine g_lload 57 dX7_both_55 rfl rfl ?_
            refine g_lc_ne 65 61 dX7_both_57 dX7_both_58 rfl (by decide) (fun h57 => ?_) (fun h57 => ?_)
            · refine g_iconst (0) 66 dX7_both_65 rfl (by decide) ?_
              refine g_goto 76 dX7_both_66 (by decide) ?_
              refine g_istore 78 dX7_both_76 rfl (by decide) ?_
              refine g_iload 80 dX7_both_78 rfl rfl ?_
              refine g_if_eq 87 83 dX7_both_80 rfl (by decide) (fun h80 => ?_) (fun h80 => ?_)
              · refine g_iconst (0) 88 dX7_both_87 rfl (by decide) ?_
                refine g_iret dX7_both_88 ?_
                have e1 : holdsA (G + P) (Wc F) (Dc F) i = wh (Wc F n) (Dc F n) 64 := by rw [holdsA, if_pos (b10n h5), cn]
                have e2 : holdsA (G + P) (Wc F) (Dc F) j = wh (Wc F m) (Dc F m) 64 := by rw [holdsA, if_pos (b10n h13), cm]
                exact ⟨by rw [bothA, if_pos ⟨b10n h5, b10n h13, h17, h22⟩, e1, e2, if_pos h50, if_neg (show ¬ wh (Wc F n) (Dc F n) 64 = wh (Wc F m) (Dc F m) 64 from h57)], rfl⟩
              · exact absurd h80 (by decide)
            · refine g_iconst (1) 62 dX7_both_61 rfl (by decide) ?_
              refine g_goto 76 dX7_both_62 (by decide) ?_
              refine g_istore 78 dX7_both_76 rfl (by decide) ?_
              refine g_iload 80 dX7_both_78 rfl rfl ?_
              refine g_if_eq 87 83 dX7_both_80 rfl (by decide) (fun h80 => ?_) (fun h80 => ?_)
              · exact absurd h80 (by decide)
              · refine g_iconst (1) 84 dX7_both_83 rfl (by decide) ?_
                refine g_goto 88 dX7_both_84 (by decide) ?_
                refine g_iret dX7_both_88 ?_
                have e1 : holdsA (G + P) (Wc F) (Dc F) i = wh (Wc F n) (Dc F n) 64 := by rw [holdsA, if_pos (b10n h5), cn]
                have e2 : holdsA (G + P) (Wc F) (Dc F) j = wh (Wc F m) (Dc F m) 64 := by rw [holdsA, if_pos (b10n h13), cm]
                exact ⟨by rw [bothA, if_pos ⟨b10n h5, b10n h13, h17, h22⟩, e1, e2, if_pos h50, if_pos (show wh (Wc F n) (Dc F n) 64 = wh (Wc F m) (Dc F m) 64 from h57)], rfl⟩
        · refine g_iconst (-1) 26 dX7_both_25 rfl (by decide) ?_
          refine g_iret dX7_both_26 ?_
          exact ⟨by rw [bothA, if_neg (fun z => h22 z.2.2.2)], rfl⟩

set_option maxRecDepth 100000 in
set_option maxHeartbeats 4000000 in
theorem lp_trueWorlds (g : Gl) (l : Launch) (F : Nat → Nat → Int32) (J : Nat → Int64) {G P : Nat} (hS : cS F G P) {XX : State → Method → Prop} (n : Nat) : ∀ (i : Nat) (ix : Int32) (x : Int64), i + n = G → ix = nI i → x = tws (Wc F) (Dc F) i → Gj g l (rmd 4 0 0) XX (QM g (fun r S2 => r = some (.long (tws (Wc F) (Dc F) G)) ∧ S2 = St F J) 0 0) RX7 cX7_trueWorlds 4 (some .long) 6 [some (.ref 0), some (.long x), none, some (.int ix)] [] (St F J) 0 0 := by
  obtain ⟨hG, hP, hG8, hP24⟩ := hS
  induction n with
  | zero =>
    intro i ix x hi hx he
    obtain rfl : i = G := by omega
    subst hx; subst he
    refine g_iload_n 7 dX7_trueWorlds_6 rfl rfl ?_
    refine g_aload_n 8 dX7_trueWorlds_7 rfl rfl ?_
    refine gf_7_7 11 dX7_trueWorlds_8 rfl kf_X7_81 (by first | decide | assumption | exact ⟨Nat.le_of_ble_eq_true rfl, rfl⟩) ?_
    refine g_icmp_ge 38 14 dX7_trueWorlds_11 rfl (by decide) (fun h11 => ?_) (fun h11 => ?_)
    · refine g_lload_n 39 dX7_trueWorlds_38 rfl rfl ?_
      refine g_lret dX7_trueWorlds_39 ?_
      exact ⟨rfl, rfl⟩
    · exact absurd (by rw [hG]; exact nI_le (Nat.le_refl _) (by omega)) h11
  | succ n ih =>
    intro i ix x hi hx he
    subst hx
    refine g_iload_n 7 dX7_trueWorlds_6 rfl rfl ?_
    refine g_aload_n 8 dX7_trueWorlds_7 rfl rfl ?_
    refine gf_7_7 11 dX7_trueWorlds_8 rfl kf_X7_81 (by first | decide | assumption | exact ⟨Nat.le_of_ble_eq_true rfl, rfl⟩) ?_
    refine g_icmp_ge 38 14 dX7_trueWorlds_11 rfl (by decide) (fun h11 => ?_) (fun h11 => ?_)
    · exact absurd h11 (by rw [hG]; exact nI_ge (by omega) (by omega))
    · refine g_iload_n 15 dX7_trueWorlds_14 rfl rfl ?_
      refine g_bipush (8) 17 dX7_trueWorlds_15 rfl (by decide) ?_
      refine g_icmp_ge 38 20 dX7_trueWorlds_17 rfl (by decide) (fun h17 => ?_) (fun h17 => ?_)
      · exact absurd h17 (nI_ge (a := i) (b := 8) (by omega) (by decide))
      · refine g_lload_n 21 dX7_trueWorlds_20 rfl rfl ?_
        refine g_aload_n 22 dX7_trueWorlds_21 rfl rfl ?_
        refine gf_7_4 25 dX7_trueWorlds_22 rfl kf_X7_39 ?_
        refine g_iload_n 26 dX7_trueWorlds_25 rfl rfl ?_
        refine ga_lines i 27 dX7_trueWorlds_26 rfl rfl (by omega) ?_
        refine g_v0 2 30 dX7_trueWorlds_27 rfl kl_X7_178 mv_X2_worldsHeld rfl ⟨Nat.le_of_ble_eq_true rfl, Nat.le_of_ble_eq_true rfl⟩ (Nat.le_of_ble_eq_true rfl) (ln_is i (by omega)) (c_worldsHeld g l (ln_is i (by omega)) F J) ?_
        rintro _ _ ⟨rfl, rfl⟩
        refine g_land 31 dX7_trueWorlds_30 rfl ?_
        refine g_lstore_n 32 dX7_trueWorlds_31 rfl (by decide) ?_
        refine g_iinc (1) 35 dX7_trueWorlds_32 rfl (by decide) (by decide) rfl ?_
        refine g_goto 6 dX7_trueWorlds_35 (by decide) ?_
        exact ih (i + 1) _ _ (by omega) (nI_succ i).symm (by rw [tws, he]; rfl)

set_option maxRecDepth 100000 in
set_option maxHeartbeats 4000000 in
theorem c_trueWorlds (g : Gl) (l : Launch) (F : Nat → Nat → Int32) (J : Nat → Int64) {G P : Nat} (hS : cS F G P) : Ct g l yX7_trueWorlds cX7_trueWorlds 4 (some .long) 4 0 0 [.ref 0] (St F J) (fun r S2 => r = some (.long (tws (Wc F) (Dc F) G)) ∧ S2 = St F J) := by
  obtain ⟨hG, hP, hG8, hP24⟩ := hS
  refine Ct.of rfl (by decide) rfl (Nat.le_of_ble_eq_true rfl) ?_
  refine g_ldc2 3 dX7_trueWorlds_0 rfl kc_X7_192 ?_
  refine g_lstore_n 4 dX7_trueWorlds_3 rfl (by decide) ?_
  refine g_iconst (0) 5 dX7_trueWorlds_4 rfl (by decide) ?_
  refine g_istore_n 6 dX7_trueWorlds_5 rfl (by decide) ?_
  exact lp_trueWorlds g l F J ⟨hG, hP, hG8, hP24⟩ G 0 _ _ (Nat.zero_add _) rfl rfl

set_option maxRecDepth 100000 in
set_option maxHeartbeats 4000000 in
theorem c_trues (g : Gl) (l : Launch) (F : Nat → Nat → Int32) (J : Nat → Int64) {G P : Nat} (hS : cS F G P) : Ct g l yX7_trues cX7_trues 1 (some .long) 5 0 0 [.ref 0] (St F J) (fun r S2 => r = some (.long (tws (Wc F) (Dc F) G)) ∧ S2 = St F J) := by
  obtain ⟨hG, hP, hG8, hP24⟩ := hS
  refine Ct.of rfl (by decide) rfl (Nat.le_of_ble_eq_true rfl) ?_
  refine g_aload_n 1 dX7_trues_0 rfl rfl ?_
  refine g_v0 7 4 dX7_trues_1 rfl kl_X7_203 mv_X7_trueWorlds rfl ⟨Nat.le_of_ble_eq_true rfl, Nat.le_of_ble_eq_true rfl⟩ (Nat.le_of_ble_eq_true rfl) (by first | decide | assumption | exact ⟨Nat.le_of_ble_eq_true rfl, rfl⟩) (c_trueWorlds g l F J ⟨hG, hP, hG8, hP24⟩) ?_
  rintro _ _ ⟨rfl, rfl⟩
  refine g_lret dX7_trues_4 ?_
  exact ⟨rfl, rfl⟩

set_option maxRecDepth 100000 in
set_option maxHeartbeats 4000000 in
theorem c_told (g : Gl) (l : Launch) (i : Int32) (F : Nat → Nat → Int32) (J : Nat → Int64) {G P : Nat} (hS : cS F G P) : Ct g l yX7_told cX7_told 2 (some .int) 5 0 0 [.ref 0, .int i] (St F J) (fun r S2 => r = some (.int (toldA (G + P) G (Wc F) (Dc F) i)) ∧ S2 = St F J) := by
  obtain ⟨hG, hP, hG8, hP24⟩ := hS
  refine Ct.of rfl (by decide) rfl (Nat.le_of_ble_eq_true rfl) ?_
  refine g_aload_n 1 dX7_told_0 rfl rfl ?_
  refine g_iload_n 2 dX7_told_1 rfl rfl ?_
  refine g_v1 7 5 dX7_told_2 rfl kl_X7_152 mv_X7_isLine rfl ⟨Nat.le_of_ble_eq_true rfl, Nat.le_of_ble_eq_true rfl⟩ (Nat.le_of_ble_eq_true rfl) (by first | decide | assumption | exact ⟨Nat.le_of_ble_eq_true rfl, rfl⟩) (c_isLine g l _ F J ⟨hG, hP, hG8, hP24⟩) ?_
  rintro _ _ ⟨rfl, rfl⟩
  refine g_if_ne 10 8 dX7_told_5 rfl (by decide) (fun h5 => ?_) (fun h5 => ?_)
  · obtain ⟨n, hn, en, cn⟩ := isLn_n (b10n h5) (by omega)
    refine g_aload_n 11 dX7_told_10 rfl rfl ?_
    refine g_v0 7 14 dX7_told_11 rfl kl_X7_203 mv_X7_trueWorlds rfl ⟨Nat.le_of_ble_eq_true rfl, Nat.le_of_ble_eq_true rfl⟩ (Nat.le_of_ble_eq_true rfl) (by first | decide | assumption | exact ⟨Nat.le_of_ble_eq_true rfl, rfl⟩) (c_trueWorlds g l F J ⟨hG, hP, hG8, hP24⟩) ?_
    rintro _ _ ⟨rfl, rfl⟩
    refine g_aload_n 15 dX7_told_14 rfl rfl ?_
    refine gf_7_4 18 dX7_told_15 rfl kf_X7_39 ?_
    refine g_iload_n 19 dX7_told_18 rfl rfl ?_
    refine ga_lines n 20 dX7_told_19 rfl en (by omega) ?_
    refine g_v0 2 23 dX7_told_20 rfl kl_X7_178 mv_X2_worldsHeld rfl ⟨Nat.le_of_ble_eq_true rfl, Nat.le_of_ble_eq_true rfl⟩ (Nat.le_of_ble_eq_true rfl) (ln_is n (by omega)) (c_worldsHeld g l (ln_is n (by omega)) F J) ?_
    rintro _ _ ⟨rfl, rfl⟩
    refine g_s2 26 dX7_told_23 rfl kl_X7_188 ms_X7_isWithin ⟨Nat.le_of_ble_eq_true rfl, Nat.le_of_ble_eq_true rfl⟩ (Nat.le_of_ble_eq_true rfl) (c_isWithin g l _ _ _) ?_
    rintro _ _ ⟨rfl, rfl⟩
    refine g_if_eq 33 29 dX7_told_26 rfl (by decide) (fun h26 => ?_) (fun h26 => ?_)
    · refine g_iconst (0) 34 dX7_told_33 rfl (by decide) ?_
      refine g_iret dX7_told_34 ?_
      have e1 : holdsA (G + P) (Wc F) (Dc F) i = wh (Wc F n) (Dc F n) 64 := by rw [holdsA, if_pos (b10n h5), cn]
      exact ⟨by rw [toldA, if_pos (b10n h5), e1, if_neg (show ¬ wit _ (wh (Wc F n) (Dc F n) 64) from b10.mp h26)], rfl⟩
    · refine g_iconst (1) 30 dX7_told_29 rfl (by decide) ?_
      refine g_goto 34 dX7_told_30 (by decide) ?_
      refine g_iret dX7_told_34 ?_
      have e1 : holdsA (G + P) (Wc F) (Dc F) i = wh (Wc F n) (Dc F n) 64 := by rw [holdsA, if_pos (b10n h5), cn]
      exact ⟨by rw [toldA, if_pos (b10n h5), e1, if_pos (show wit _ (wh (Wc F n) (Dc F n) 64) from b10n h26)], rfl⟩
  · refine g_iconst (-1) 9 dX7_told_8 rfl (by decide) ?_
    refine g_iret dX7_told_9 ?_
    exact ⟨by rw [toldA, if_neg (b10.mp h5)], rfl⟩

