/-! cells are made -/
theorem kn_X7_7 : Cond.classLink RX7 7 RX5 ∈ lw_tbl := List.mem_of_getElem? (i := 78) (by decide +kernel)
theorem kn_X7_16 : Cond.classLink RX7 16 RX3 ∈ lw_tbl := List.mem_of_getElem? (i := 94) (by decide +kernel)
theorem kn_X7_23 : Cond.classLink RX7 23 RX1 ∈ lw_tbl := List.mem_of_getElem? (i := 182) (by decide +kernel)
theorem kn_X7_30 : Cond.classLink RX7 30 RX0 ∈ lw_tbl := List.mem_of_getElem? (i := 201) (by decide +kernel)
theorem kn_X7_37 : Cond.classLink RX7 37 RX2 ∈ lw_tbl := List.mem_of_getElem? (i := 224) (by decide +kernel)
theorem kn_X3_9 : Cond.classLink RX3 9 RX2 ∈ lw_tbl := List.mem_of_getElem? (i := 100) (by decide +kernel)
theorem kn_X3_17 : Cond.classLink RX3 17 RX4 ∈ lw_tbl := List.mem_of_getElem? (i := 102) (by decide +kernel)
theorem kn_X3_23 : Cond.classLink RX3 23 RX6 ∈ lw_tbl := List.mem_of_getElem? (i := 104) (by decide +kernel)
theorem kn_X4_7 : Cond.classLink RX4 7 RX2 ∈ lw_tbl := List.mem_of_getElem? (i := 150) (by decide +kernel)
theorem kn_L_7 : Cond.classLink RL 7 RX7 ∈ lw_tbl := List.mem_of_getElem? (i := 70) (by decide +kernel)
theorem kn_L_10 : Cond.classLink RL 10 RX8 ∈ lw_tbl := List.mem_of_getElem? (i := 689) (by decide +kernel)
theorem ks_X0 : Cond.instantiable RX0 4 ∈ lw_tbl := List.mem_of_getElem? (i := 202) (by decide +kernel)
theorem ks_X1 : Cond.instantiable RX1 3 ∈ lw_tbl := List.mem_of_getElem? (i := 183) (by decide +kernel)
theorem ks_X2 : Cond.instantiable RX2 2 ∈ lw_tbl := List.mem_of_getElem? (i := 127) (by decide +kernel)
theorem ks_X3 : Cond.instantiable RX3 3 ∈ lw_tbl := List.mem_of_getElem? (i := 95) (by decide +kernel)
theorem ks_X4 : Cond.instantiable RX4 4 ∈ lw_tbl := List.mem_of_getElem? (i := 145) (by decide +kernel)
theorem ks_X5 : Cond.instantiable RX5 2 ∈ lw_tbl := List.mem_of_getElem? (i := 79) (by decide +kernel)
theorem ks_X6 : Cond.instantiable RX6 5 ∈ lw_tbl := List.mem_of_getElem? (i := 105) (by decide +kernel)
theorem ks_X7 : Cond.instantiable RX7 12 ∈ lw_tbl := List.mem_of_getElem? (i := 71) (by decide +kernel)
theorem ks_X8 : Cond.instantiable RX8 20 ∈ lw_tbl := List.mem_of_getElem? (i := 690) (by decide +kernel)
theorem ka_byte : Cond.arrayClass .byte ∈ lw_tbl := List.mem_of_getElem? (i := 93) (by decide +kernel)
theorem ka_int : Cond.arrayClass .int ∈ lw_tbl := List.mem_of_getElem? (i := 126) (by decide +kernel)
theorem ka_long : Cond.arrayClass .long ∈ lw_tbl := List.mem_of_getElem? (i := 263) (by decide +kernel)
theorem ko_i : Cond.instanceMethod Lib.objectInit ∈ lw_tbl := List.mem_of_getElem? (i := 76) (by decide +kernel)
theorem ko_c : Cond.code Lib.objectInit { data := #[177] } 1 none ∈ lw_tbl := List.mem_of_getElem? (i := 77) (by decide +kernel)
theorem ko_X7 : Cond.methodLink RX7 1 Lib.objectInit ∈ lw_tbl := List.mem_of_getElem? (i := 75) (by decide +kernel)
theorem ko_X0 : Cond.methodLink RX0 3 Lib.objectInit ∈ lw_tbl := List.mem_of_getElem? (i := 206) (by decide +kernel)
theorem ko_X1 : Cond.methodLink RX1 3 Lib.objectInit ∈ lw_tbl := List.mem_of_getElem? (i := 187) (by decide +kernel)
theorem ko_X2 : Cond.methodLink RX2 3 Lib.objectInit ∈ lw_tbl := List.mem_of_getElem? (i := 131) (by decide +kernel)
theorem ko_X3 : Cond.methodLink RX3 3 Lib.objectInit ∈ lw_tbl := List.mem_of_getElem? (i := 99) (by decide +kernel)
theorem ko_X4 : Cond.methodLink RX4 1 Lib.objectInit ∈ lw_tbl := List.mem_of_getElem? (i := 149) (by decide +kernel)
theorem ko_X5 : Cond.methodLink RX5 3 Lib.objectInit ∈ lw_tbl := List.mem_of_getElem? (i := 83) (by decide +kernel)
theorem ko_X6 : Cond.methodLink RX6 3 Lib.objectInit ∈ lw_tbl := List.mem_of_getElem? (i := 109) (by decide +kernel)
theorem ko_X8 : Cond.methodLink RX8 1 Lib.objectInit ∈ lw_tbl := List.mem_of_getElem? (i := 694) (by decide +kernel)
def MI (y : MethodName) (cc : ByteArray) (nL : Nat) : Prop := Cond.instanceMethod y ∈ lw_tbl ∧ Cond.initialized y.cls ∈ lw_tbl ∧ Cond.code y cc nL none ∈ lw_tbl ∧ (y.cls ≠ "java/lang/invoke/MethodHandle" ∧ y.cls ≠ "java/lang/invoke/VarHandle") ∧ (parseMethodDescriptor y.desc).map (fun d => d.parameters.length) = some 0 ∧ y.name = "<init>"
theorem mi_X0 : MI yX0_init cX0_init 1 := ⟨List.mem_of_getElem? (i := 204) (by decide +kernel), ki_X0, List.mem_of_getElem? (i := 205) (by decide +kernel), ⟨by decide +kernel, by decide +kernel⟩, by decide +kernel, rfl⟩
theorem mi_X1 : MI yX1_init cX1_init 1 := ⟨List.mem_of_getElem? (i := 185) (by decide +kernel), ki_X1, List.mem_of_getElem? (i := 186) (by decide +kernel), ⟨by decide +kernel, by decide +kernel⟩, by decide +kernel, rfl⟩
theorem mi_X2 : MI yX2_init cX2_init 1 := ⟨List.mem_of_getElem? (i := 129) (by decide +kernel), ki_X2, List.mem_of_getElem? (i := 130) (by decide +kernel), ⟨by decide +kernel, by decide +kernel⟩, by decide +kernel, rfl⟩
theorem mi_X3 : MI yX3_init cX3_init 2 := ⟨List.mem_of_getElem? (i := 97) (by decide +kernel), ki_X3, List.mem_of_getElem? (i := 98) (by decide +kernel), ⟨by decide +kernel, by decide +kernel⟩, by decide +kernel, rfl⟩
theorem mi_X4 : MI yX4_init cX4_init 1 := ⟨List.mem_of_getElem? (i := 147) (by decide +kernel), ki_X4, List.mem_of_getElem? (i := 148) (by decide +kernel), ⟨by decide +kernel, by decide +kernel⟩, by decide +kernel, rfl⟩
theorem mi_X5 : MI yX5_init cX5_init 1 := ⟨List.mem_of_getElem? (i := 81) (by decide +kernel), ki_X5, List.mem_of_getElem? (i := 82) (by decide +kernel), ⟨by decide +kernel, by decide +kernel⟩, by decide +kernel, rfl⟩
theorem mi_X6 : MI yX6_init cX6_init 1 := ⟨List.mem_of_getElem? (i := 107) (by decide +kernel), ki_X6, List.mem_of_getElem? (i := 108) (by decide +kernel), ⟨by decide +kernel, by decide +kernel⟩, by decide +kernel, rfl⟩
theorem mi_X7 : MI yX7_init cX7_init 2 := ⟨List.mem_of_getElem? (i := 73) (by decide +kernel), ki_X7, List.mem_of_getElem? (i := 74) (by decide +kernel), ⟨by decide +kernel, by decide +kernel⟩, by decide +kernel, rfl⟩
theorem mi_X8 : MI yX8_init cX8_init 1 := ⟨List.mem_of_getElem? (i := 692) (by decide +kernel), ki_X8, List.mem_of_getElem? (i := 693) (by decide +kernel), ⟨by decide +kernel, by decide +kernel⟩, by decide +kernel, rfl⟩
abbrev Rt : Type := Nat → Nat → Option Nat
def upR (Rf : Rt) (k j v : Nat) : Rt := fun q => if q = k then va_up (Rf k) j (some v) else Rf q
theorem upR_ne (Rf : Rt) {k q : Nat} (j v : Nat) (h : q ≠ k) : upR Rf k j v q = Rf q := by simp [upR, h]
theorem upR_at (Rf : Rt) (k j v : Nat) : upR Rf k j v k j = some v := by simp [upR, va_up]
theorem upR_o (Rf : Rt) (k : Nat) {j i : Nat} (v : Nat) (h : i ≠ j) : upR Rf k j v k i = Rf k i := by simp [upR, va_up, h]
theorem sh_upR {g : Gl} {k j v q : Nat} {F : Nat → Nat → Int32} {J : Nat → Int64} {Rf : Rt} {N : Nat} (h : q ≠ k) : wE g (N, F, J, upR Rf k j v) q = wE g (N, F, J, Rf) q := by
  simp only [wE, wI, wR, upR_ne Rf j v h]
section MAKE
variable {g : Gl} {l : Launch} {R : Room} {XX : State → Method → Prop} {QQ : List Frame → Array Value → State → State → Prop} {own : String} {cc : ByteArray} {nL : Nat} {ret : Option FieldType} {pc idx : Nat} {L : List (Option Value)} {st rest : List Value} {S : Sg} {c1 s1 : Nat} {F : Nat → Nat → Int32} {J : Nat → Int64} {Rf : Rt}
theorem g_cs {c2 s2 : Nat} (e1 : c1 = c2) (e2 : s1 = s2) (kk : Gj g l R XX QQ own cc nL ret pc L st S c2 s2) : Gj g l R XX QQ own cc nL ret pc L st S c1 s1 := by subst e1; subst e2; exact kk
theorem wd_new {H H1 : Heap} {n : Nat} (hW : Wd g (n, F, J, Rf) H) (hn : n < 174) (hz : H1.size = H.size + 1) (ho : ∀ q : Nat, q < H.size → H1[q]? = H[q]?) (hc : va_at (gD g) vwCl (gb g + n, wE g (n + 1, F, J, Rf) n) H1) : Wd g (n + 1, F, J, Rf) H1 := by
  have hs : H.size = gb g + n := hW.1
  refine ⟨by rw [hz, hs]; rfl, hn, fun k hk => ?_⟩
  have hk' : k < n + 1 := hk
  by_cases e : k = n
  · rw [e]; exact hc
  · exact (hW.2.2 k (show k < n by omega)).kept (ho _ (show gb g + k < H.size by rw [hs]; omega))
theorem va_S_new {A : Nat → Prop} {H0 H H1 : Heap} {locs : List Loc} (hS : va_S A H0 H locs) (hz : H1.size = H.size + 1) (ho : ∀ q : Nat, q < H.size → H1[q]? = H[q]?) : va_S A H0 H1 locs :=
  ⟨Nat.le_trans hS.1 (by rw [hz]; exact Nat.le_succ _), fun x h1 h2 => (ho x (Nat.lt_of_lt_of_le h1 hS.1)).trans (hS.2.1 x h1 h2), hS.2.2⟩
theorem g_newG {n ci N : Nat} {C : String} {T : u_T} {fs : List Value} (ty : Nat → FieldType) (nx : Nat) (hd : decode cc pc = .ok (.new idx, 3)) (hn : pc + 3 = nx) (hcl : Cond.classLink own idx C ∈ lw_tbl) (hinst : Cond.instantiable C N ∈ lw_tbl) (hini : Cond.initialized C ∈ lw_tbl) (hc : vwCl[ci]? = some (C, T, N)) (hin : ∀ w ∈ u_ws C T N, w ∈ lw_g) (hty : ∀ k, k < N → parseFieldDescriptor (T k).2.2.1 = some (ty k)) (h174 : n < 174) (hE : wE g (n + 1, F, J, Rf) n = .inr (ci, fs)) (hfs : ∀ j, j < N → defaultValue (ty j) = vp_V fs j) (hcs : c1 + 1 ≤ R.cells ∧ s1 + N ≤ R.slots) (kk : Gj g l R XX QQ own cc nL ret nx L (.ref n :: st) (n + 1, F, J, Rf) (c1 + 1) (s1 + N)) : Gj g l R XX QQ own cc nL ret pc L st (n, F, J, Rf) c1 s1 := by
  subst hn
  intro p e s m args below meth c H locs ls C0 hX hW hS hl0
  have hts := C0.2.2.2.2.2.2.1
  have hKn := C0.2.2.2.2.2.2.2.1.1.1 ci _ hc
  refine W.newcK C0.1 C0.2.1 C0.2.2.2.2.1 (hts _ (mem_g hcl rfl)) (hts _ (mem_g hinst rfl)) (hts _ (mem_g hini rfl)) rfl hd hcs.1 hcs.2 hKn.2.1 hW.1 fun H1 kC hkC e1 z1 o1 => ?_
  have hs : H.size = gb g + n := hW.1
  have z2 : H1.size = H.size + 1 := by rw [z1, hs]
  have o2 : ∀ q : Nat, q < H.size → H1[q]? = H[q]? := fun q hq => o1 q (by rw [← hs]; exact hq)
  have K := kk p e s m args below meth c H1 locs ls C0 hX (wd_new hW h174 z2 o2 (by rw [hE]; exact ⟨_, hc, (u_born ty hts hin hKn hkC e1 hty).to hfs⟩)) (va_S_new hS z2 o2) hl0
  rw [List.map_cons, rv_own (by omega)] at K
  exact K
theorem g_newI {n N t0 : Nat} {a0 : vp_A} {ty : FieldType} {at0 : ArrayType} {x : Int32} (nx : Nat) (hd : decode cc pc = .ok (.newarray at0, 2)) (hn : pc + 2 = nx) (hw : Cond.arrayClass ty ∈ lw_tbl) (ht : newarray.typeOf at0 = ty) (hT : (tysG g)[t0]? = some (gc g t0, ty)) (hra : ∀ (U : State) (cA : ClassId), va_RA U cA ty → U.vm.findClass ("[" ++ ty.toString) = some cA) (hx : x = nI N) (hN : N < 1000) (hb8 : componentBytes ty ≤ 8) (h174 : n < 174) (hE : wE g (n + 1, F, J, Rf) n = .inl (gc g t0, a0)) (ha : ∀ cA : ClassId, vp_cell cA a0 = arrV cA N (fun _ => defaultValue ty)) (hcs : c1 + 1 ≤ R.cells ∧ s1 + N ≤ R.slots) (kk : Gj g l R XX QQ own cc nL ret nx L (.ref n :: st) (n + 1, F, J, Rf) (c1 + 1) (s1 + N)) : Gj g l R XX QQ own cc nL ret pc L (.int x :: st) (n, F, J, Rf) c1 s1 := by
  subst hn
  subst ht
  intro p e s m args below meth c H locs ls C0 hX hW hS hl0
  have hts := C0.2.2.2.2.2.2.1
  have hK := C0.2.2.2.2.2.2.2.1.1
  have hby : N * componentBytes (newarray.typeOf at0) ≤ 536870912 := by
    have := Nat.mul_le_mul (Nat.le_of_lt hN) hb8
    omega
  refine va_newaK C0.1 C0.2.1 (hts _ (mem_g hw rfl)) rfl hd rfl (by rw [hx]; exact nI_pos (by omega)) (by rw [hx]; exact nI_clamp (by omega)) hby hcs.1 hcs.2 hW.1 fun H1 cA e1 z1 o1 hAr hNm => ?_
  have hs : H.size = gb g + n := hW.1
  have z2 : H1.size = H.size + 1 := by rw [z1, hs]
  have o2 : ∀ q : Nat, q < H.size → H1[q]? = H[q]? := fun q hq => o1 q (by rw [← hs]; exact hq)
  have hc : cA = gc g t0 := Option.some.inj (hNm.symm.trans (hra s _ (hK.2 t0 _ hT).2))
  have K := kk p e s m args below meth c H1 locs ls C0 hX (wd_new hW h174 z2 o2 (by rw [hE]; show H1[gb g + n]? = some (vp_cell _ _); rw [ha, ← hc]; exact e1)) (va_S_new hS z2 o2) hl0
  rw [List.map_cons, rv_own (by omega)] at K
  exact K
theorem g_newQ {n N t0 : Nat} {C : String} {x : Int32} (nx : Nat) (hd : decode cc pc = .ok (.anewarray idx, 3)) (hn : pc + 3 = nx) (hcl : Cond.classLink own idx C ∈ lw_tbl) (hAO : ∀ U, Kg g U → va_AO C U) (hT : (tysG g)[t0]? = some (gc g t0, .object C)) (hx : x = nI N) (hN : N < 1000) (h174 : n < 174) (hE : wE g (n + 1, F, J, Rf) n = .inl (gc g t0, N, .inr (.inr (.inr (.inr (fun j => (Rf n j).map (rel g))))))) (hf : ∀ j, Rf n j = none) (hcs : c1 + 1 ≤ R.cells ∧ s1 + N ≤ R.slots) (kk : Gj g l R XX QQ own cc nL ret nx L (.ref n :: st) (n + 1, F, J, Rf) (c1 + 1) (s1 + N)) : Gj g l R XX QQ own cc nL ret pc L (.int x :: st) (n, F, J, Rf) c1 s1 := by
  subst hn
  intro p e s m args below meth c H locs ls C0 hX hW hS hl0
  have hts := C0.2.2.2.2.2.2.1
  have hKg := C0.2.2.2.2.2.2.2.1
  have hK := hKg.1
  have hcl2 : x.toNatClampNeg = N := by rw [hx]; exact nI_clamp (by omega)
  refine W.anew C0.1 C0.2.1 C0.2.2.2.2.1 (hts _ (mem_g hcl rfl)) (va_AO.use (hAO s hKg)) rfl hd rfl (by rw [hx]; exact nI_pos (by omega)) (by rw [hcl2]; omega) hcs.1 (by rw [hcl2]; exact hcs.2) fun cA kA comp f1 f2 f3 f4 => ?_
  rw [hcl2]
  generalize hH1 : H.push ({ cls := cA, slots := Array.replicate N .null, vm := .none } : Cell) = H1
  have z2 : H1.size = H.size + 1 := by rw [← hH1, Array.size_push]
  have e1 : H1[H.size]? = some (arrV cA N (fun _ => .null)) := by rw [← hH1, Array.getElem?_push_size, ← arrV_new]
  have o2 : ∀ q : Nat, q < H.size → H1[q]? = H[q]? := fun q hq => by rw [← hH1, Array.getElem?_push, if_neg (Nat.ne_of_lt hq)]
  have hs : H.size = gb g + n := hW.1
  obtain ⟨kA2, comp2, -, -, -, r4⟩ := (hK.2 t0 _ hT).2
  have hc : cA = gc g t0 := Option.some.inj (f1.symm.trans r4)
  have K := kk p e s m args below meth c H1 locs ls C0 hX (wd_new hW h174 z2 o2 (by
    rw [hE]; show H1[gb g + n]? = some (vp_cell _ _)
    rw [vp_cell_q, ← hs, e1, hc]
    have : (fun j => va_rf ((fun j => (Rf n j).map (rel g)) j)) = (fun _ => Value.null) := by funext j; show va_rf ((Rf n j).map _) = _; rw [hf j]; rfl
    rw [this])) (va_S_new hS z2 o2) hl0
  rw [List.map_cons, rv_own (by omega), ← hs] at K
  exact K
theorem g_putFG {k v ci j N n : Nat} {C : String} {T : u_T} {fs : List Value} {ty : FieldType} (nx : Nat) (hd : decode cc pc = .ok (.putfield idx, 3)) (hn : pc + 3 = nx) (hl : Cond.fieldLink own idx (T j).1 (T j).2.1 (T j).2.2.1 ∈ lw_tbl) (hc : vwCl[ci]? = some (C, T, N)) (hj : j < N) (hin : ∀ w ∈ u_ws C T N, w ∈ lw_g) (ty0 : Nat → FieldType) (hty : ∀ k, k < N → parseFieldDescriptor (T k).2.2.1 = some (ty0 k)) (hnm : ∀ a, a < N → ∀ b, b < N → a ≠ b → (T a).2.1 ≠ (T b).2.1) (hfin : (T j).2.2.2 = true) (hdecl : (T j).1 = own) (hdsc : parseFieldDescriptor (T j).2.2.1 = some ty) (hna : ∀ a, narrow ty (.ref a) = .ref a) (hfit : ∀ a, fits ty (.ref a) = true) (hXX : ∀ s m, XX s m → m.name = "<init>")
    (hk : k < n) (hv : v < n) (hE : wE g (n, F, J, Rf) k = .inr (ci, fs)) (hlen : j < fs.length) (hE2 : wE g (n, F, J, upR Rf k j v) k = .inr (ci, fs.set j (rv g (.ref v)))) (kk : Gj g l R XX QQ own cc nL ret nx L st (n, F, J, upR Rf k j v) c1 s1) : Gj g l R XX QQ own cc nL ret pc L (.ref v :: .ref k :: st) (n, F, J, Rf) c1 s1 := by
  subst hn
  intro p e s m args below meth c H locs ls C0 hX hW hS hl0
  have hk9 := wd_k hW hk
  have hv9 := wd_k hW hv
  have hts := C0.2.2.2.2.2.2.1
  have hK := C0.2.2.2.2.2.2.2.1.1
  have hap := va_apart (own := own) hts hin ty0 hty hnm hK hc
  have hat := hW.2.2 k hk
  rw [hE] at hat
  obtain ⟨r, h1, cell, q1, q2, q3, q4⟩ := hat
  have hr : r = (C, T, N) := Option.some.inj (h1.symm.trans hc)
  subst hr
  obtain ⟨hSl, hfc, kC, hkC, hkind⟩ := hK.1 ci _ hc
  obtain ⟨cf, kf, fi, f, hi, hsl⟩ := hSl j hj
  have hlay := hts _ (hin _ (u_in_lay hj))
  unfold u_lay at hlay
  rw [if_pos hfin] at hlay
  have hst := (u_facts hfc hkC (u_lays hts hin hj) hi).1
  have hcf : m.cls = cf := by
    obtain ⟨_, _, c', _, _, _, -, -, hf', -, -, -, hown2, -⟩ := Cond.laysFinal_spec hlay
    have e1 : c' = cf := by have := hi.symm.trans hf'; simp at this; exact this.1.symm
    rw [hdecl] at hown2
    rw [← e1]; exact Option.some.inj (C0.2.2.2.2.1.symm.trans hown2)
  have h6 := u_fits (v := .ref (gb g + v)) hfc hkC hkind (Or.inr hlay) hi hdsc (hna _) (hfit _)
  rw [List.map_cons, List.map_cons, rv_own hk9, rv_own hv9]
  refine W.putFinK C0.1 C0.2.1 C0.2.2.2.2.1 (hts _ (mem_g hl rfl)) hi hst hcf (hXX _ _ hX) (by rw [q2]; exact h6) q1 q3 (by rw [hsl]; exact k2_hasslot (q4 j hj)) rfl rfl hd fun H1 e1 e2 e3 => ?_
  rw [hsl] at e1 ⊢
  refine kk p e s m args below meth c H1 _ ls C0 hX (wd_set hW e2 rfl (fun q _ h => sh_upR h) e3 ?_) (hS.put e2 e3 (Nat.le_add_right _ _)) hl0
  rw [hE2, rv_own hv9]
  exact ⟨_, hc, t_OB.to (V := updV (vp_V fs) j (.ref (gb g + v))) ⟨_, e1, q2, q3, t_set q4 hap hj (.ref (gb g + v))⟩ (fun q _ => vp_updV_set hlen _ q)⟩
theorem g_aastG {k v ci t0 n i N : Nat} {C : String} {T : u_T} {N2 : Nat} {fs : List Value} {x : Int32} (nx : Nat) (hd : decode cc pc = .ok (.aastore, 1)) (hn : pc + 1 = nx) (hT : (tysG g)[t0]? = some (gc g t0, .object C)) (hc : vwCl[ci]? = some (C, T, N2)) (hk : k < n) (hv : v < n) (hE : ∀ Rg : Rt, wE g (n, F, J, Rg) k = .inl (gc g t0, N, .inr (.inr (.inr (.inr (fun j => (Rg k j).map (rel g))))))) (hEv : wE g (n, F, J, Rf) v = .inr (ci, fs)) (hx : x = nI i) (hi : i < N) (hN : N < 1000) (kk : Gj g l R XX QQ own cc nL ret nx L st (n, F, J, upR Rf k i v) c1 s1) : Gj g l R XX QQ own cc nL ret pc L (.ref v :: .int x :: .ref k :: st) (n, F, J, Rf) c1 s1 := by
  subst hn
  intro p e s m args below meth c H locs ls C0 hX hW hS hl0
  have hk9 := wd_k hW hk
  have hv9 := wd_k hW hv
  have hK := C0.2.2.2.2.2.2.2.1.1
  have hcl : x.toNatClampNeg = i := by rw [hx]; exact nI_clamp (by omega)
  have hAt := hW.2.2 k hk
  rw [hE] at hAt
  have hAt2 : H[gb g + k]? = some (vp_cell (gc g t0) (N, .inr (.inr (.inr (.inr (fun j => (Rf k j).map (rel g))))))) := hAt
  have hVt := hW.2.2 v hv
  rw [hEv] at hVt
  obtain ⟨r', hr', cellV, g1, g2, g3, -⟩ := hVt
  have hcls := (hK.1 ci _ hc).2
  obtain ⟨kA, comp, k1, k2, k3, -⟩ := (hK.2 t0 _ hT).2
  have hcomp : comp = (gD g).1 ci := Option.some.inj (k3.symm.trans hcls.1)
  subst hcomp
  obtain ⟨kC, hkC, -⟩ := hcls.2
  rw [List.map_cons, List.map_cons, List.map_cons, rv_own hk9, rv_own hv9]
  refine W.aast C0.1 C0.2.1 hAt2 (fun q h => by cases h) (fun h => by cases h) k1 k2 rfl hkC ⟨by rw [hx]; exact nI_pos (by omega), by show _ < (arrV _ _ _).slots.size; rw [arrV_size, hcl]; exact hi⟩ g1 (fun q h => by rw [g3] at h; cases h) (by rw [g2]; exact hkC) (by rw [g2]; exact va_assign hcls) rfl rfl hd fun H1 e1 z oq => ?_
  refine kk p e s m args below meth c H1 _ ls C0 hX (wd_set hW z rfl (fun q _ h => sh_upR h) oq ?_) (hS.put z oq (Nat.le_add_right _ _)) hl0
  rw [hE]
  show H1[gb g + k]? = some (vp_cell _ _)
  rw [e1, vp_cell_q, vp_cell_q, arrV_store, hcl]
  congr 2
  funext q
  by_cases hq : q = i
  · subst hq
    simp [updV, upR, va_up, va_rf, rel, hv9]
  · simp [updV, upR, va_up, hq]
theorem g_obj {k : Nat} (nx : Nat) (hd : decode cc pc = .ok (.invokespecial idx, 3)) (hn : pc + 3 = nx) (hl : Cond.methodLink own idx Lib.objectInit ∈ lw_tbl) (hR : 1 ≤ R.frames ∧ 20 ≤ R.locals) (hr : (rest.map fun v => v.category).sum ≤ 8) (hk : k < S.1) (kk : Gj g l R XX QQ own cc nL ret nx L rest S c1 s1) : Gj g l R XX QQ own cc nL ret pc L (.ref k :: rest) S c1 s1 := by
  subst hn
  intro p e s m args below meth c H locs ls C0 hX hW hS hl0
  have hts := C0.2.2.2.2.2.2.1
  have hr2 : ((rest.map (rv g)).map fun v => v.category).sum ≤ 8 := by rw [cat_map]; exact hr
  rw [List.map_cons, rv_own (wd_k hW hk)]
  have h8 := lv_room (m := m) (pc := pc) (ls := ls) (rest := .ref (gb g + k) :: rest.map (rv g)) hr2
  exact W.objInit C0.1 C0.2.1 C0.2.2.2.2.1 (hts _ (mem_g hl rfl)) (hts _ (mem_g ko_i rfl)) (hts _ (mem_g ko_c rfl)) rfl (hl0.1.trans C0.2.2.1.symm) rfl hd hR.1 (by omega) (kk p e s m args below meth c H locs ls C0 hX hW hS hl0)
variable {y : MethodName} {cc2 : ByteArray} {nL2 d2 mc ms : Nat} {Z : Option Value → Sg → Prop}
theorem g_iI {k : Nat} (nx : Nat) (hd : decode cc pc = .ok (.invokespecial idx, 3)) (hn : pc + 3 = nx) (hl : Cond.methodLink own idx y ∈ lw_tbl) (hm : MI y cc2 nL2) (hM : Ct g l y cc2 nL2 none d2 mc ms [.ref k] S Z) (hk : k < S.1) (hR : d2 + 1 ≤ R.frames ∧ 8 + (nL2 + 11) + 37 * d2 ≤ R.locals) (hcs : c1 + mc ≤ R.cells ∧ s1 + ms ≤ R.slots) (hr : (rest.map fun v => v.category).sum ≤ 8)
    (kk : ∀ (r : Option Value) (S2 : Sg), Z r S2 → Gj g l R XX QQ own cc nL ret nx L (r.toList ++ rest) S2 (c1 + mc) (s1 + ms)) : Gj g l R XX QQ own cc nL ret pc L (.ref k :: rest) S c1 s1 := by
  subst hn
  intro p e s m args below meth c H locs ls C0 hX hW hS hl0
  obtain ⟨m1, m3, m4, m5, m6, m7⟩ := hm
  have hts := C0.2.2.2.2.2.2.1
  have hK := C0.2.2.2.2.2.2.2.1
  have hcb : CallB R s args own idx y cc2 nL2 none (Cond.code y cc2 nL2 none :: lw_g) (rmd d2 mc ms) mc ms 0 := callB_of 0 hts (gd_in m4 rfl) rfl rfl rfl (hts _ (mem_g m3 rfl)) (hts _ (mem_g hl rfl)) ⟨m5.1, m5.2, m6⟩ hR
  intro T hT X
  obtain ⟨v, st₀, t, T2, Lc, h0, X2, hL, e1, e2, ⟨⟨r, S2, hv, hz, hW2⟩, hz1, hk1⟩, stp⟩ := va_runI (As := []) (rest := rest.map (rv g)) (b := gb g + k) (g := F0 m pc ls ((.ref k :: rest).map (rv g))) ⟨C0.1, C0.2.1, C0.2.2.1, C0.2.2.2.2.1, hts⟩ hM ⟨hcb, m7, hts _ (mem_g m1 rfl)⟩ ⟨ct_blind, fun U hU hWm => ⟨by rw [← rv_own (wd_k hW hk)]; rfl, by rw [hU]; exact hW, hK.next hWm hU hS⟩⟩ rfl rfl hl0.1 (by show List.map _ _ = _; rw [List.map_cons, rv_own (wd_k hW hk)]; rfl) (lv_room (by rw [cat_map]; exact hr)) hd hcs T hT X
  cases hv
  rw [h0] at hz1 hk1
  have K := kk r S2 hz p e s m args below meth c T2.heap (locs ++ Lc) ls C0 hX (by rw [e1]; exact hW2) (sF_next hS (by rw [e1]; exact hz1) (fun q a b => by rw [e1]; exact hk1 q a b) hL) hl0 T2 rfl X2
  rw [← st_back] at K
  obtain ⟨t2, a1, b1⟩ := K
  exact ⟨t2, stp t2 a1, b1⟩
theorem g_iN {k : Nat} (nx : Nat) (hd : decode cc pc = .ok (.invokespecial idx, 3)) (hn : pc + 3 = nx) (hl : (own, idx, y) ∈ nests) (hm : MI y cc2 nL2) (hM : Ct g l y cc2 nL2 none d2 mc ms [.ref k] S Z) (hk : k < S.1) (hR : d2 + 1 ≤ R.frames ∧ 8 + (nL2 + 11) + 37 * d2 ≤ R.locals) (hcs : c1 + mc ≤ R.cells ∧ s1 + ms ≤ R.slots) (hr : (rest.map fun v => v.category).sum ≤ 8)
    (kk : ∀ (r : Option Value) (S2 : Sg), Z r S2 → Gj g l R XX QQ own cc nL ret nx L (r.toList ++ rest) S2 (c1 + mc) (s1 + ms)) : Gj g l R XX QQ own cc nL ret pc L (.ref k :: rest) S c1 s1 := by
  subst hn
  intro p e s m args below meth c H locs ls C0 hX hW hS hl0
  obtain ⟨m1, m3, m4, m5, m6, m7⟩ := hm
  have hts := C0.2.2.2.2.2.2.1
  have hK := C0.2.2.2.2.2.2.2.1
  have hcb : va_CN R s args own idx y "TruthSums" cc2 nL2 none (Cond.code y cc2 nL2 none :: lw_g) (rmd d2 mc ms) mc ms 0 := va_cnB 0 hts (gd_in m4 rfl) rfl rfl rfl (hK.2.1.1 _ hl) (hts _ (mem_g m3 rfl)) ⟨m5.1, m5.2, m6⟩ hR
  intro T hT X
  obtain ⟨v, st₀, t, T2, Lc, h0, X2, hL, e1, e2, ⟨⟨r, S2, hv, hz, hW2⟩, hz1, hk1⟩, stp⟩ := va_runIN (As := []) (rest := rest.map (rv g)) (b := gb g + k) (g := F0 m pc ls ((.ref k :: rest).map (rv g))) ⟨C0.1, C0.2.1, C0.2.2.1, C0.2.2.2.2.1, hts⟩ hM ⟨hcb, m7, hts _ (mem_g m1 rfl)⟩ ⟨ct_blind, fun U hU hWm => ⟨by rw [← rv_own (wd_k hW hk)]; rfl, by rw [hU]; exact hW, hK.next hWm hU hS⟩⟩ rfl rfl hl0.1 (by show List.map _ _ = _; rw [List.map_cons, rv_own (wd_k hW hk)]; rfl) (lv_room (by rw [cat_map]; exact hr)) hd hcs T hT X
  cases hv
  rw [h0] at hz1 hk1
  have K := kk r S2 hz p e s m args below meth c T2.heap (locs ++ Lc) ls C0 hX (by rw [e1]; exact hW2) (sF_next hS (by rw [e1]; exact hz1) (fun q a b => by rw [e1]; exact hk1 q a b) hL) hl0 T2 rfl X2
  rw [← st_back] at K
  obtain ⟨t2, a1, b1⟩ := K
  exact ⟨t2, stp t2 a1, b1⟩
end MAKE
