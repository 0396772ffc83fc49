/-! the texts that were there before (String), and Text: the cells 1, 2 -/
section STRG
variable {g : Gl} {l : Launch} {R : Room} {XX : State → Method → Prop} {QQ : List Frame → Array Value → State → State → Prop} {own : String} {cc : ByteArray} {nL : Nat} {ret : Option FieldType} {pc : Nat} {L : List (Option Value)} {st rest : List Value} {S : Sg} {c1 s1 idx : Nat}
theorem rv_far {g : Gl} {k : Nat} (h : 1000 ≤ k) : rv g (.ref k) = .ref (ga g k) := by simp [rv, rel, show ¬ k < 1000 by omega]
theorem g_gets (n : Nat) (hd : decode cc pc = .ok (.getstatic idx, 3)) (hn : pc + 3 = n) (hl : Cond.fieldLink own idx "java/lang/String" "COMPACT_STRINGS" "Z" ∈ lw_tbl) (kk : Gj g l R XX QQ own cc nL ret n L (.int 1 :: st) S c1 s1) : Gj g l R XX QQ own cc nL ret pc L st S c1 s1 := by
  subst hn
  intro p e s m args below meth c H locs ls C hX hW hS hl0
  exact va_gets C.1 C.2.1 C.2.2.2.2.2.2.2.1.2.2.2.2.1 hS C.2.2.2.2.1 (C.2.2.2.2.2.2.1 _ (mem_g hl rfl)) (fun _ h => h) hd (kk p e s m args below meth c H locs ls C hX hW hS hl0)
theorem g_getsF (n : Nat) (hd : decode cc pc = .ok (.getstatic idx, 3)) (hn : pc + 3 = n) (hl : Cond.fieldLink own idx "jdk/internal/util/Preconditions" "SIOOBE_FORMATTER" "Ljava/util/function/BiFunction;" ∈ lw_tbl) (kk : ∀ v : Value, v = .null ∨ v = .ref 1200 → Gj g l R XX QQ own cc nL ret n L (v :: st) S c1 s1) : Gj g l R XX QQ own cc nL ret pc L st S c1 s1 := by
  subst hn
  intro p e s m args below meth c H locs ls C hX hW hS hl0
  rcases C.2.2.2.2.2.2.2.1.2.2.2.2.2 with q | q
  · exact va_gets C.1 C.2.1 q hS C.2.2.2.2.1 (C.2.2.2.2.2.2.1 _ (mem_g hl rfl)) (fun _ h => h) hd (kk .null (Or.inl rfl) p e s m args below meth c H locs ls C hX hW hS hl0)
  · exact va_gets C.1 C.2.1 q hS C.2.2.2.2.1 (C.2.2.2.2.2.2.1 _ (mem_g hl rfl)) (fun _ h => h) hd (kk (.ref 1200) (Or.inr rfl) p e s m args below meth c H locs ls C hX hW hS hl0)
theorem g_sval {i : Nat} (n : Nat) (hi : i < 8) (hd : decode cc pc = .ok (.getfield idx, 3)) (hn : pc + 3 = n) (hl : Cond.fieldLink own idx "java/lang/String" "value" "[B" ∈ lw_tbl) (kk : Gj g l R XX QQ own cc nL ret n L (.ref (1100 + i) :: st) S c1 s1) : Gj g l R XX QQ own cc nL ret pc L (.ref (1000 + i) :: st) S c1 s1 := by
  subst hn
  intro p e s m args below meth c H locs ls C hX hW hS hl0
  have kk2 := kk p e s m args below meth c H locs ls C hX hW hS hl0
  rw [List.map_cons, rv_far (by omega)] at kk2 ⊢
  exact vk_getf C.1 C.2.1 (C.2.2.2.2.2.2.2.1.2.2.1.1 i hi).2.2.1 hS C.2.2.2.2.1 (C.2.2.2.2.2.2.1 _ (mem_g hl rfl)) (fun _ h => h) hd kk2
theorem g_scod {i : Nat} (n : Nat) (hi : i < 8) (hd : decode cc pc = .ok (.getfield idx, 3)) (hn : pc + 3 = n) (hl : Cond.fieldLink own idx "java/lang/String" "coder" "B" ∈ lw_tbl) (kk : Gj g l R XX QQ own cc nL ret n L (.int 0 :: st) S c1 s1) : Gj g l R XX QQ own cc nL ret pc L (.ref (1000 + i) :: st) S c1 s1 := by
  subst hn
  intro p e s m args below meth c H locs ls C hX hW hS hl0
  have kk2 := kk p e s m args below meth c H locs ls C hX hW hS hl0
  rw [List.map_cons, rv_far (by omega)]
  exact vk_getf C.1 C.2.1 (C.2.2.2.2.2.2.2.1.2.2.1.1 i hi).2.1 hS C.2.2.2.2.1 (C.2.2.2.2.2.2.1 _ (mem_g hl rfl)) (fun _ h => h) hd kk2
theorem sx_all : ∀ i, i < 8 → sx_ln.getD i 0 < 8 := by decide +kernel
theorem g_slen {i : Nat} (n : Nat) (hi : i < 8) (hd : decode cc pc = .ok (.arraylength, 1)) (hn : pc + 1 = n) (kk : Gj g l R XX QQ own cc nL ret n L (.int (nI (sx_ln.getD i 0)) :: st) S c1 s1) : Gj g l R XX QQ own cc nL ret pc L (.ref (1100 + i) :: st) S c1 s1 := by
  subst hn
  intro p e s m args below meth c H locs ls C hX hW hS hl0
  have kk2 := kk p e s m args below meth c H locs ls C hX hW hS hl0
  rw [List.map_cons, rv_far (by omega)]
  obtain ⟨cell, h1, h2, h3, h4, h5, h6, h7⟩ := va_T.kept (C.2.2.2.2.2.2.2.1.2.2.1.1 i hi).2.2.2 hS.2.1
  exact W.alen C.1 C.2.1 h1 h2 h5 rfl rfl hd kk2
theorem g_sbld {i : Nat} {x : Int32} (j n : Nat) (hi : i < 8) (hd : decode cc pc = .ok (.baload, 1)) (hn : pc + 1 = n) (hx : x = nI j) (hj : j < sx_ln.getD i 0) (kk : Gj g l R XX QQ own cc nL ret n L (.int ((sx_by.getD i []).getD j 0) :: st) S c1 s1) : Gj g l R XX QQ own cc nL ret pc L (.int x :: .ref (1100 + i) :: st) S c1 s1 := by
  subst hn
  intro p e s m args below meth c H locs ls C hX hW hS hl0
  have kk2 := kk p e s m args below meth c H locs ls C hX hW hS hl0
  rw [List.map_cons, List.map_cons, rv_far (by omega)]
  obtain ⟨cell, h1, h2, h3, h4, h5, h6, h7⟩ := va_T.kept (C.2.2.2.2.2.2.2.1.2.2.1.1 i hi).2.2.2 hS.2.1
  have hb := sx_all i hi
  have hcl : x.toNatClampNeg = j := by rw [hx]; exact nI_clamp (by omega)
  exact W.bald C.1 C.2.1 h1 h2 h3 (by rw [hcl]; exact fun z => z.elim (fun q => by rw [hx] at q; exact nI_pos (by omega) q) (fun q => by omega)) (by rw [hcl]; exact h6 j hj) rfl rfl hd kk2
variable {y : MethodName} {cc2 : ByteArray} {nL2 : Nat} {ret2 : Option FieldType} {d2 : Nat} {Z : Option Value → Sg → Prop}
theorem g_callVS {As : List Value} {i : Nat} (n : Nat) (hi : i < 8) (hd : decode cc pc = .ok (.invokevirtual idx, 3)) (hn : pc + 3 = n) (hl : Cond.methodLink own idx y ∈ lw_tbl) (hy : y.cls = "java/lang/String") (hm : MV y cc2 nL2 ret2 As.length) (hM : Ct g l y cc2 nL2 ret2 d2 0 0 (.ref (1000 + i) :: As) S Z) (hR : d2 + 1 ≤ R.frames ∧ 8 + (nL2 + 11) + 37 * d2 ≤ R.locals) (hr : (rest.map fun v => v.category).sum ≤ 8)
    (kk : ∀ (r : Option Value) (S2 : Sg), Z r S2 → Gj g l R XX QQ own cc nL ret n L (r.toList ++ rest) S2 0 0) : Gj g l R XX QQ own cc nL ret pc L (As.reverse ++ .ref (1000 + i) :: rest) S 0 0 := by
  subst hn
  intro p e s m args below meth c H locs ls C0 hX hW hS hl0
  obtain ⟨m1, m2, m3, m4, m5, m6⟩ := hm
  have hts := C0.2.2.2.2.2.2.1
  have hK := C0.2.2.2.2.2.2.2.1
  have hcb : CallB R s args own idx y cc2 nL2 ret2 (Cond.code y cc2 nL2 ret2 :: lw_g) (rmd d2 0 0) 0 0 As.length := callB_of As.length hts (gd_in m4 rfl) rfl rfl rfl (hts _ (mem_g m3 rfl)) (hts _ (mem_g hl rfl)) ⟨m5.1, m5.2, m6⟩ hR
  intro T hT X
  obtain ⟨v, st₀, t, T2, Lc, h0, X2, hL, e1, e2, ⟨⟨r, S2, hv, hz, hW2⟩, hz1, hk1⟩, stp⟩ := va_runV (As := As.map (rv g)) (rest := rest.map (rv g)) (b := ga g (1000 + i)) (C := y.cls) (g := F0 m pc ls ((As.reverse ++ .ref (1000 + i) :: rest).map (rv g))) ⟨C0.1, C0.2.1, C0.2.2.1, C0.2.2.2.2.1, hts⟩ hM ⟨hcb, hts _ (mem_g m1 rfl), hts _ (mem_g m2 rfl)⟩ ⟨ct_blind, by rw [hy]; exact vk_recv (adK := fun i => ga g (1000 + i)) hK.2.2.1 hi hS, fun U hU hWm => ⟨by rw [← rv_far (g := g) (k := 1000 + i) (by omega)]; rfl, by rw [hU]; exact hW, hK.next hWm hU hS⟩⟩ rfl (by rw [List.length_map]) hl0.1 (by show List.map _ _ = _; rw [List.map_append, List.map_cons, List.map_reverse, rv_far (by omega)]) (lv_room (by rw [cat_map]; exact hr)) hd ⟨Nat.zero_le _, Nat.zero_le _⟩ T hT X
  cases hv
  rw [h0] at hz1 hk1
  have K := kk r S2 hz p e s m args below meth c T2.heap (locs ++ Lc) ls C0 hX (by rw [e1]; exact hW2) (sF_next hS (by rw [e1]; exact hz1) (fun q a b => by rw [e1]; exact hk1 q a b) hL) hl0 T2 rfl X2
  rw [← st_back] at K
  obtain ⟨t2, a1, b1⟩ := K
  exact ⟨t2, stp t2 a1, b1⟩
theorem g_ldcS {i : Nat} (n : Nat) (hi : i < 8) (hd : decode cc pc = .ok (.ldc idx, 2)) (hx : idx = sx_at i) (ho : own = RX6) (hn : pc + 2 = n) (kk : Gj g l R XX QQ own cc nL ret n L (.ref (1000 + i) :: st) S c1 s1) : Gj g l R XX QQ own cc nL ret pc L st S c1 s1 := by
  subst hn; subst hx; subst ho
  intro p e s m args below meth c H locs ls C hX hW hS hl0
  have kk2 := kk p e s m args below meth c H locs ls C hX hW hS hl0
  rw [List.map_cons, rv_far (by omega)] at kk2
  exact va_ldcS C.1 C.2.1 C.2.2.2.2.1 (C.2.2.2.2.2.2.2.1.2.2.2.1 i hi) hd kk2
end STRG

theorem fb_bt (x : Int32) : x.toInt8.toInt32.toInt8.toInt32 = x.toInt8.toInt32 := by simp
set_option maxRecDepth 100000 in
set_option maxHeartbeats 4000000 in
theorem c_coder (g : Gl) (l : Launch) {i : Nat} (hi : i < 8) (S : Sg) : Ct g l yJ0_coder_7d493 cJ0_coder_7d493 1 (some .byte) 0 0 0 [.ref (1000 + i)] S (fun r S2 => r = some (.int 0) ∧ S2 = S) := by
  refine Ct.of rfl (by decide) rfl (Nat.le_of_ble_eq_true rfl) ?_
  refine g_gets 3 dJ0_coder_7d493_0 rfl kf_J0_38 ?_
  refine g_if_eq 13 6 dJ0_coder_7d493_3 rfl (by decide) (fun h3 => ?_) (fun h3 => ?_)
  · exact absurd h3 (by decide)
  · refine g_aload_n 7 dJ0_coder_7d493_6 rfl rfl ?_
    refine g_scod 10 hi dJ0_coder_7d493_7 rfl kf_J0_15 ?_
    refine g_goto 14 dJ0_coder_7d493_10 (by decide) ?_
    refine g_zret dJ0_coder_7d493_14 (by decide) ?_
    exact ⟨rfl, rfl⟩

set_option maxRecDepth 100000 in
set_option maxHeartbeats 4000000 in
theorem c_isLatin1 (g : Gl) (l : Launch) {i : Nat} (hi : i < 8) (S : Sg) : Ct g l yJ0_isLatin1_aae02 cJ0_isLatin1_aae02 1 (some .boolean) 0 0 0 [.ref (1000 + i)] S (fun r S2 => r = some (.int 1) ∧ S2 = S) := by
  refine Ct.of rfl (by decide) rfl (Nat.le_of_ble_eq_true rfl) ?_
  refine g_gets 3 dJ0_isLatin1_aae02_0 rfl kf_J0_38 ?_
  refine g_if_eq 17 6 dJ0_isLatin1_aae02_3 rfl (by decide) (fun h3 => ?_) (fun h3 => ?_)
  · exact absurd h3 (by decide)
  · refine g_aload_n 7 dJ0_isLatin1_aae02_6 rfl rfl ?_
    refine g_scod 10 hi dJ0_isLatin1_aae02_7 rfl kf_J0_15 ?_
    refine g_if_ne 17 13 dJ0_isLatin1_aae02_10 rfl (by decide) (fun h10 => ?_) (fun h10 => ?_)
    · exact absurd rfl h10
    · refine g_iconst (1) 14 dJ0_isLatin1_aae02_13 rfl (by decide) ?_
      refine g_goto 18 dJ0_isLatin1_aae02_14 (by decide) ?_
      refine g_zret dJ0_isLatin1_aae02_18 (by decide) ?_
      exact ⟨rfl, rfl⟩

set_option maxRecDepth 100000 in
set_option maxHeartbeats 4000000 in
theorem c_slength (g : Gl) (l : Launch) {i : Nat} (hi : i < 8) (S : Sg) : Ct g l yJ0_length_8abf5 cJ0_length_8abf5 1 (some .int) 1 0 0 [.ref (1000 + i)] S (fun r S2 => r = some (.int (nI (sx_ln.getD i 0))) ∧ S2 = S) := by
  refine Ct.of rfl (by decide) rfl (Nat.le_of_ble_eq_true rfl) ?_
  refine g_aload_n 1 dJ0_length_8abf5_0 rfl rfl ?_
  refine g_sval 4 hi dJ0_length_8abf5_1 rfl kf_J0_9 ?_
  refine g_slen 5 hi dJ0_length_8abf5_4 rfl ?_
  refine g_aload_n 6 dJ0_length_8abf5_5 rfl rfl ?_
  refine g_callVS (As := []) 9 hi dJ0_length_8abf5_6 rfl kl_J0_335 rfl mv_J0_coder_7d493 (c_coder g l hi _) ⟨Nat.le_of_ble_eq_true rfl, Nat.le_of_ble_eq_true rfl⟩ (Nat.le_of_ble_eq_true rfl) ?_
  rintro _ _ ⟨rfl, rfl⟩
  refine g_ishr 10 dJ0_length_8abf5_9 rfl ?_
  refine g_iret dJ0_length_8abf5_10 ?_
  exact ⟨by rw [sb_shr0], rfl⟩

theorem sx_ch : ∀ i, i < 8 → ∀ j, j < sx_ln.getD i 0 → (((sx_by.getD i []).getD j 0 &&& 255).toUInt32 % 65536).toInt32 = (sx_by.getD i []).getD j 0 ∧ narrow .char (.int ((sx_by.getD i []).getD j 0)) = .int ((sx_by.getD i []).getD j 0) := by decide +kernel
set_option maxRecDepth 100000 in
set_option maxHeartbeats 4000000 in
theorem c_pchk (g : Gl) (l : Launch) {j n : Nat} (hj : j < n) (hn : n < 1000) {v : Value} (hv : v = .null ∨ v = .ref 1200) (S : Sg) : Ct g l yJ3_checkIndex_8e157 cJ3_checkIndex_8e157 3 (some .int) 0 0 0 [.int (nI j), .int (nI n), v] S (fun r S2 => r = some (.int (nI j)) ∧ S2 = S) := by
  have hL : enp [.int (nI j), .int (nI n), v] 3 = [some (.int (nI j)), some (.int (nI n)), some v] := by rcases hv with rfl | rfl <;> rfl
  refine Ct.of rfl (by decide) hL (by rcases hv with rfl | rfl <;> exact Nat.le_of_ble_eq_true rfl) ?_
  refine g_iload_n 1 dJ3_checkIndex_8e157_0 rfl rfl ?_
  refine g_if_lt 9 4 dJ3_checkIndex_8e157_1 rfl (by decide) (fun h1 => ?_) (fun h1 => ?_)
  · exact absurd h1 (nI_pos (by omega))
  · refine g_iload_n 5 dJ3_checkIndex_8e157_4 rfl rfl ?_
    refine g_iload_n 6 dJ3_checkIndex_8e157_5 rfl rfl ?_
    refine g_icmp_lt 16 9 dJ3_checkIndex_8e157_6 rfl (by decide) (fun h6 => ?_) (fun h6 => ?_)
    · refine g_iload_n 17 dJ3_checkIndex_8e157_16 rfl rfl ?_
      refine g_iret dJ3_checkIndex_8e157_17 ?_
      exact ⟨rfl, rfl⟩
    · exact absurd (nI_lt hj (by omega)) h6

set_option maxRecDepth 100000 in
set_option maxHeartbeats 4000000 in
theorem c_schk (g : Gl) (l : Launch) {j n : Nat} (hj : j < n) (hn : n < 1000) (S : Sg) : Ct g l yJ0_checkIndex_df160 cJ0_checkIndex_df160 2 none 1 0 0 [.int (nI j), .int (nI n)] S (fun r S2 => r = none ∧ S2 = S) := by
  refine Ct.of rfl (by decide) rfl (Nat.le_of_ble_eq_true rfl) ?_
  refine g_iload_n 1 dJ0_checkIndex_df160_0 rfl rfl ?_
  refine g_iload_n 2 dJ0_checkIndex_df160_1 rfl rfl ?_
  refine g_getsF 5 dJ0_checkIndex_df160_2 rfl kf_J0_1053 (fun v hv => ?_)
  refine g_s3 8 dJ0_checkIndex_df160_5 rfl kl_J0_1059 ms_J3_checkIndex_8e157 ⟨Nat.le_of_ble_eq_true rfl, Nat.le_of_ble_eq_true rfl⟩ (Nat.le_of_ble_eq_true rfl) (c_pchk g l hj hn hv S) ?_
  rintro _ _ ⟨rfl, rfl⟩
  refine g_pop 9 dJ0_checkIndex_df160_8 rfl rfl ?_
  refine g_vret dJ0_checkIndex_df160_9 ?_
  exact ⟨rfl, rfl⟩

set_option maxRecDepth 100000 in
set_option maxHeartbeats 4000000 in
theorem c_l1charAt (g : Gl) (l : Launch) {i j : Nat} (hi : i < 8) (hj : j < sx_ln.getD i 0) (S : Sg) : Ct g l yJ1_charAt_3b067 cJ1_charAt_3b067 2 (some .char) 2 0 0 [.ref (1100 + i), .int (nI j)] S (fun r S2 => r = some (.int ((sx_by.getD i []).getD j 0)) ∧ S2 = S) := by
  have hb := sx_all i hi
  obtain ⟨hc1, hc2⟩ := sx_ch i hi j hj
  refine Ct.of rfl (by decide) rfl (Nat.le_of_ble_eq_true rfl) ?_
  refine g_iload_n 1 dJ1_charAt_3b067_0 rfl rfl ?_
  refine g_aload_n 2 dJ1_charAt_3b067_1 rfl rfl ?_
  refine g_slen 3 hi dJ1_charAt_3b067_2 rfl ?_
  refine g_s2 6 dJ1_charAt_3b067_3 rfl kl_J1_9 ms_J0_checkIndex_df160 ⟨Nat.le_of_ble_eq_true rfl, Nat.le_of_ble_eq_true rfl⟩ (Nat.le_of_ble_eq_true rfl) (c_schk g l hj (by omega) S) ?_
  rintro _ _ ⟨rfl, rfl⟩
  refine g_aload_n 7 dJ1_charAt_3b067_6 rfl rfl ?_
  refine g_iload_n 8 dJ1_charAt_3b067_7 rfl rfl ?_
  refine g_sbld j 9 hi dJ1_charAt_3b067_8 rfl rfl hj ?_
  refine g_sipush (255) 12 dJ1_charAt_3b067_9 rfl (by decide) ?_
  refine g_iand 13 dJ1_charAt_3b067_12 rfl ?_
  refine g_i2c 14 dJ1_charAt_3b067_13 rfl ?_
  rw [hc1]
  refine g_zret dJ1_charAt_3b067_14 hc2 ?_
  exact ⟨rfl, rfl⟩

set_option maxRecDepth 100000 in
set_option maxHeartbeats 4000000 in
theorem c_charAt (g : Gl) (l : Launch) {i j : Nat} (hi : i < 8) (hj : j < sx_ln.getD i 0) (S : Sg) : Ct g l yJ0_charAt_5068e cJ0_charAt_5068e 2 (some .char) 3 0 0 [.ref (1000 + i), .int (nI j)] S (fun r S2 => r = some (.int ((sx_by.getD i []).getD j 0)) ∧ S2 = S) := by
  obtain ⟨hc1, hc2⟩ := sx_ch i hi j hj
  refine Ct.of rfl (by decide) rfl (Nat.le_of_ble_eq_true rfl) ?_
  refine g_aload_n 1 dJ0_charAt_5068e_0 rfl rfl ?_
  refine g_callVS (As := []) 4 hi dJ0_charAt_5068e_1 rfl kl_J0_492 rfl mv_J0_isLatin1_aae02 (c_isLatin1 g l hi _) ⟨Nat.le_of_ble_eq_true rfl, Nat.le_of_ble_eq_true rfl⟩ (Nat.le_of_ble_eq_true rfl) ?_
  rintro _ _ ⟨rfl, rfl⟩
  refine g_if_eq 16 7 dJ0_charAt_5068e_4 rfl (by decide) (fun h4 => ?_) (fun h4 => ?_)
  · exact absurd h4 (by decide)
  · refine g_aload_n 8 dJ0_charAt_5068e_7 rfl rfl ?_
    refine g_sval 11 hi dJ0_charAt_5068e_8 rfl kf_J0_9 ?_
    refine g_iload_n 12 dJ0_charAt_5068e_11 rfl rfl ?_
    refine g_s2 15 dJ0_charAt_5068e_12 rfl kl_J0_495 ms_J1_charAt_3b067 ⟨Nat.le_of_ble_eq_true rfl, Nat.le_of_ble_eq_true rfl⟩ (Nat.le_of_ble_eq_true rfl) (c_l1charAt g l hi hj _) ?_
    rintro _ _ ⟨rfl, rfl⟩
    refine g_zret dJ0_charAt_5068e_15 hc2 ?_
    exact ⟨rfl, rfl⟩

/-! Text -/
def at_ (F : Nat → Nat → Int32) (len m : Nat) : Int32 := if m < len then F 2 m &&& 255 else -1

set_option maxRecDepth 100000 in
set_option maxHeartbeats 4000000 in
theorem c_at (g : Gl) (l : Launch) (F : Nat → Nat → Int32) (J : Nat → Int64) {len : Nat} (hl : F 1 1 = nI len) (hlen : len ≤ 400) (m : Nat) (hm : m < 1000) : Ct g l yX5_at cX5_at 2 (some .int) 0 0 0 [.ref 1, .int (nI m)] (St F J) (fun r S2 => r = some (.int (at_ F len m)) ∧ S2 = St F J) := by
  refine Ct.of rfl (by decide) rfl (Nat.le_of_ble_eq_true rfl) ?_
  refine g_iload_n 1 dX5_at_0 rfl rfl ?_
  refine g_if_lt 32 4 dX5_at_1 rfl (by decide) (fun h1 => ?_) (fun h1 => ?_)
  · exact absurd h1 (nI_pos (by omega))
  · refine g_iload_n 5 dX5_at_4 rfl rfl ?_
    refine g_aload_n 6 dX5_at_5 rfl rfl ?_
    refine gf_5_1 9 dX5_at_6 rfl kf_X5_15 (by first | decide | assumption | exact ⟨Nat.le_of_ble_eq_true rfl, rfl⟩) ?_
    refine g_icmp_ge 32 12 dX5_at_9 rfl (by decide) (fun h9 => ?_) (fun h9 => ?_)
    · refine g_iconst (-1) 33 dX5_at_32 rfl (by decide) ?_
      refine g_iret dX5_at_33 ?_
      exact ⟨by rw [at_, if_neg (by rw [hl] at h9; intro q; exact nI_ge q (by omega) h9)], rfl⟩
    · have hml : m < len := by
        rcases Nat.lt_or_ge m len with q | q
        · exact q
        · exact absurd (by rw [hl]; exact nI_le q (by omega)) h9
      refine g_iload_n 13 dX5_at_12 rfl rfl ?_
      refine g_sipush (400) 16 dX5_at_13 rfl (by decide) ?_
      refine g_icmp_ge 32 19 dX5_at_16 rfl (by decide) (fun h16 => ?_) (fun h16 => ?_)
      · exact absurd h16 (nI_ge (a := m) (b := 400) (by omega) (by decide))
      · refine g_aload_n 20 dX5_at_19 rfl rfl ?_
        refine gf_5_0 23 dX5_at_20 rfl kf_X5_9 ?_
        refine g_iload_n 24 dX5_at_23 rfl rfl ?_
        refine ga_bld (m) 25 dX5_at_24 rfl (by first | decide | assumption | exact ⟨Nat.le_of_ble_eq_true rfl, rfl⟩) rfl (show m < 400 by omega) ?_
        refine g_sipush (255) 28 dX5_at_25 rfl (by decide) ?_
        refine g_iand 29 dX5_at_28 rfl ?_
        refine g_goto 33 dX5_at_29 (by decide) ?_
        refine g_iret dX5_at_33 ?_
        exact ⟨by rw [at_, if_pos hml], rfl⟩

set_option maxRecDepth 100000 in
set_option maxHeartbeats 4000000 in
theorem c_put5 (g : Gl) (l : Launch) (x : Int32) (F : Nat → Nat → Int32) (J : Nat → Int64) {len : Nat} (hl : F 1 1 = nI len) (hlen : len < 400) : Ct g l yX5_put cX5_put 2 none 0 0 0 [.ref 1, .int x] (St F J) (fun r S2 => r = none ∧ S2 = St (up2 (up2 F 2 len x.toInt8.toInt32) 1 1 (nI (len + 1))) J) := by
  refine Ct.of rfl (by decide) rfl (Nat.le_of_ble_eq_true rfl) ?_
  refine g_aload_n 1 dX5_put_0 rfl rfl ?_
  refine gf_5_1 4 dX5_put_1 rfl kf_X5_15 (by first | decide | assumption | exact ⟨Nat.le_of_ble_eq_true rfl, rfl⟩) ?_
  refine g_sipush (400) 7 dX5_put_4 rfl (by decide) ?_
  refine g_icmp_ge 31 10 dX5_put_7 rfl (by decide) (fun h7 => ?_) (fun h7 => ?_)
  · exact absurd h7 (by rw [hl]; exact nI_ge (a := len) (b := 400) hlen (by decide))
  · refine g_aload_n 11 dX5_put_10 rfl rfl ?_
    refine gf_5_0 14 dX5_put_11 rfl kf_X5_9 ?_
    refine g_aload_n 15 dX5_put_14 rfl rfl ?_
    refine gf_5_1 18 dX5_put_15 rfl kf_X5_15 (by first | decide | assumption | exact ⟨Nat.le_of_ble_eq_true rfl, rfl⟩) ?_
    refine g_iload_n 19 dX5_put_18 rfl rfl ?_
    refine g_i2b 20 dX5_put_19 rfl ?_
    refine ga_bst (len) 21 dX5_put_20 rfl (by first | decide | assumption | exact ⟨Nat.le_of_ble_eq_true rfl, rfl⟩) hl hlen ?_
    refine g_aload_n 22 dX5_put_21 rfl rfl ?_
    refine g_dup 23 dX5_put_22 rfl rfl ?_
    refine gf_5_1 26 dX5_put_23 rfl kf_X5_15 (by first | decide | assumption | exact ⟨Nat.le_of_ble_eq_true rfl, rfl⟩) ?_
    refine g_iconst (1) 27 dX5_put_26 rfl (by decide) ?_
    refine g_iadd 28 dX5_put_27 rfl ?_
    refine gp_5_1 31 dX5_put_28 rfl kf_X5_15 (by first | decide | assumption | exact ⟨Nat.le_of_ble_eq_true rfl, rfl⟩) ?_
    refine g_vret dX5_put_31 ?_
    exact ⟨rfl, by rw [nI_succ, ← hl]; simp only [up2, upd, if_neg (show ¬ (1 : Nat) = 2 by decide), fb_bt]⟩

set_option maxRecDepth 100000 in
set_option maxHeartbeats 4000000 in
theorem c_empty (g : Gl) (l : Launch) (F : Nat → Nat → Int32) (J : Nat → Int64) : Ct g l yX5_empty cX5_empty 2 (some .int) 0 0 0 [.ref 1] (St F J) (fun r S2 => r = some (.int (F 1 1)) ∧ S2 = St (up2 F 1 1 0) J) := by
  refine Ct.of rfl (by decide) rfl (Nat.le_of_ble_eq_true rfl) ?_
  refine g_aload_n 1 dX5_empty_0 rfl rfl ?_
  refine gf_5_1 4 dX5_empty_1 rfl kf_X5_15 (by first | decide | assumption | exact ⟨Nat.le_of_ble_eq_true rfl, rfl⟩) ?_
  refine g_istore_n 5 dX5_empty_4 rfl (by decide) ?_
  refine g_aload_n 6 dX5_empty_5 rfl rfl ?_
  refine g_iconst (0) 7 dX5_empty_6 rfl (by decide) ?_
  refine gp_5_1 10 dX5_empty_7 rfl kf_X5_15 (by first | decide | assumption | exact ⟨Nat.le_of_ble_eq_true rfl, rfl⟩) ?_
  refine g_iload_n 11 dX5_empty_10 rfl rfl ?_
  refine g_iret dX5_empty_11 ?_
  exact ⟨rfl, rfl⟩

abbrev spl (tb : Nat → Int32) (a b i : Nat) : Prop := b = a + sx_ln.getD i 0 ∧ ∀ j, j < sx_ln.getD i 0 → tb (a + j) = (sx_by.getD i []).getD j 0

set_option maxRecDepth 100000 in
set_option maxHeartbeats 4000000 in
theorem lp_spells (g : Gl) (l : Launch) (F : Nat → Nat → Int32) (J : Nat → Int64) {len : Nat} (hl : F 1 1 = nI len) (hlen : len ≤ 400) {a b i : Nat} (hab : a ≤ b) (hb : b ≤ 500) (hi : i < 8) (he : b = a + sx_ln.getD i 0) {XX : State → Method → Prop} (n : Nat) : ∀ (j : Nat) (jx : Int32), j + n = sx_ln.getD i 0 → jx = nI j → (∀ q, q < j → at_ F len (a + q) = (sx_by.getD i []).getD q 0) → Gj g l (rmd 4 0 0) XX (QM g (fun r S2 => ((r = some (.int 1) ∧ spl (at_ F len) a b i) ∨ (r = some (.int 0) ∧ ¬ spl (at_ F len) a b i)) ∧ S2 = St F J) 0 0) RX5 cX5_spells 5 (some .boolean) 15 [some (.ref 1), some (.int (nI a)), some (.int (nI b)), some (.ref (1000 + i)), some (.int jx)] [] (St F J) 0 0 := by
  have hb8 := sx_all i hi
  induction n with
  | zero =>
    intro j jx hj hx hs
    subst hx
    refine g_iload 17 dX5_spells_15 rfl rfl ?_
    refine g_aload_n 18 dX5_spells_17 rfl rfl ?_
    refine g_callVS (As := []) 21 hi dX5_spells_18 rfl kl_X5_19 rfl mv_J0_length_8abf5 (c_slength g l hi _) ⟨Nat.le_of_ble_eq_true rfl, Nat.le_of_ble_eq_true rfl⟩ (Nat.le_of_ble_eq_true rfl) ?_
    rintro _ _ ⟨rfl, rfl⟩
    refine g_icmp_ge 49 24 dX5_spells_21 rfl (by decide) (fun h21 => ?_) (fun h21 => ?_)
    · refine g_iconst (1) 50 dX5_spells_49 rfl (by decide) ?_
      refine g_zret dX5_spells_50 (by decide) ?_
      exact ⟨Or.inl ⟨rfl, he, fun q hq => hs q (by omega)⟩, rfl⟩
    · exact absurd (nI_le (by omega) (by omega)) h21
  | succ n ih =>
    intro j jx hj hx hs
    subst hx
    refine g_iload 17 dX5_spells_15 rfl rfl ?_
    refine g_aload_n 18 dX5_spells_17 rfl rfl ?_
    refine g_callVS (As := []) 21 hi dX5_spells_18 rfl kl_X5_19 rfl mv_J0_length_8abf5 (c_slength g l hi _) ⟨Nat.le_of_ble_eq_true rfl, Nat.le_of_ble_eq_true rfl⟩ (Nat.le_of_ble_eq_true rfl) ?_
    rintro _ _ ⟨rfl, rfl⟩
    refine g_icmp_ge 49 24 dX5_spells_21 rfl (by decide) (fun h21 => ?_) (fun h21 => ?_)
    · exact absurd h21 (nI_ge (by omega) (by omega))
    · refine g_aload_n 25 dX5_spells_24 rfl rfl ?_
      refine g_iload_n 26 dX5_spells_25 rfl rfl ?_
      refine g_iload 28 dX5_spells_26 rfl rfl ?_
      refine g_iadd 29 dX5_spells_28 rfl ?_
      rw [nI_add]
      refine g_v1 5 32 dX5_spells_29 rfl kl_X5_24 mv_X5_at rfl ⟨Nat.le_of_ble_eq_true rfl, Nat.le_of_ble_eq_true rfl⟩ (Nat.le_of_ble_eq_true rfl) (by first | decide | assumption | exact ⟨Nat.le_of_ble_eq_true rfl, rfl⟩) (c_at g l F J hl hlen (a + j) (by omega)) ?_
      rintro _ _ ⟨rfl, rfl⟩
      refine g_aload_n 33 dX5_spells_32 rfl rfl ?_
      refine g_iload 35 dX5_spells_33 rfl rfl ?_
      refine g_callVS (As := [.int (nI j)]) 38 hi dX5_spells_35 rfl kl_X5_28 rfl mv_J0_charAt_5068e (c_charAt g l hi (by omega) _) ⟨Nat.le_of_ble_eq_true rfl, Nat.le_of_ble_eq_true rfl⟩ (Nat.le_of_ble_eq_true rfl) ?_
      rintro _ _ ⟨rfl, rfl⟩
      refine g_icmp_eq 43 41 dX5_spells_38 rfl (by decide) (fun h38 => ?_) (fun h38 => ?_)
      · refine g_iinc (1) 46 dX5_spells_43 rfl (by decide) (by decide) rfl ?_
        refine g_goto 15 dX5_spells_46 (by decide) ?_
        refine ih (j + 1) _ (by omega) (nI_succ j).symm (fun q hq => ?_)
        rcases Nat.lt_or_ge q j with z | z
        · exact hs q z
        · obtain rfl : q = j := by omega
          exact h38
      · refine g_iconst (0) 42 dX5_spells_41 rfl (by decide) ?_
        refine g_zret dX5_spells_42 (by decide) ?_
        exact ⟨Or.inr ⟨rfl, fun q => h38 (q.2 j (by omega))⟩, rfl⟩

set_option maxRecDepth 100000 in
set_option maxHeartbeats 4000000 in
theorem c_spells (g : Gl) (l : Launch) (F : Nat → Nat → Int32) (J : Nat → Int64) {len : Nat} (hl : F 1 1 = nI len) (hlen : len ≤ 400) {a b i : Nat} (hab : a ≤ b) (hb : b ≤ 500) (hi : i < 8) : Ct g l yX5_spells cX5_spells 5 (some .boolean) 4 0 0 [.ref 1, .int (nI a), .int (nI b), .ref (1000 + i)] (St F J) (fun r S2 => ((r = some (.int 1) ∧ spl (at_ F len) a b i) ∨ (r = some (.int 0) ∧ ¬ spl (at_ F len) a b i)) ∧ S2 = St F J) := by
  have hb8 := sx_all i hi
  refine Ct.of rfl (by decide) rfl (Nat.le_of_ble_eq_true rfl) ?_
  refine g_iload_n 1 dX5_spells_0 rfl rfl ?_
  refine g_iload_n 2 dX5_spells_1 rfl rfl ?_
  refine g_isub 3 dX5_spells_2 rfl ?_
  refine g_aload_n 4 dX5_spells_3 rfl rfl ?_
  refine g_callVS (As := []) 7 hi dX5_spells_4 rfl kl_X5_19 rfl mv_J0_length_8abf5 (c_slength g l hi _) ⟨Nat.le_of_ble_eq_true rfl, Nat.le_of_ble_eq_true rfl⟩ (Nat.le_of_ble_eq_true rfl) ?_
  rintro _ _ ⟨rfl, rfl⟩
  rw [pk_sub hab]
  refine g_icmp_eq 12 10 dX5_spells_7 rfl (by decide) (fun h7 => ?_) (fun h7 => ?_)
  · refine g_iconst (0) 13 dX5_spells_12 rfl (by decide) ?_
    refine g_istore 15 dX5_spells_13 rfl (by decide) ?_
    exact lp_spells g l F J hl hlen hab hb hi (by have := (nI_eq (a := b - a) (b := sx_ln.getD i 0) (by omega) (by omega)).mp h7; omega) _ 0 _ (Nat.zero_add _) rfl (fun q hq => absurd hq (Nat.not_lt_zero q))
  · refine g_iconst (0) 11 dX5_spells_10 rfl (by decide) ?_
    refine g_zret dX5_spells_11 (by decide) ?_
    exact ⟨Or.inr ⟨rfl, fun q => h7 (by rw [q.1, Nat.add_sub_cancel_left])⟩, rfl⟩

