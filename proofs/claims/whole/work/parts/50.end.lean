/-! whole_start: what was there before -/
theorem zc_l : Cond.laysStatic "java/lang/String" "COMPACT_STRINGS" "Z" ∈ lw_tbl := List.mem_of_getElem? (i := 324) (by decide +kernel)
theorem zp_l : Cond.laysStatic "jdk/internal/util/Preconditions" "SIOOBE_FORMATTER" "Ljava/util/function/BiFunction;" ∈ lw_tbl := List.mem_of_getElem? (i := 341) (by decide +kernel)
theorem zc_i : Cond.initialized "java/lang/String" ∈ lw_tbl := List.mem_of_getElem? (i := 63) (by decide +kernel)
theorem zp_i : Cond.initialized "jdk/internal/util/Preconditions" ∈ lw_tbl := List.mem_of_getElem? (i := 65) (by decide +kernel)
theorem zs_0 : Cond.stringRef RX6 62 "add" ∈ lw_tbl := List.mem_of_getElem? (i := 310) (by decide +kernel)
theorem zs_1 : Cond.stringRef RX6 70 "times" ∈ lw_tbl := List.mem_of_getElem? (i := 364) (by decide +kernel)
theorem zs_2 : Cond.stringRef RX6 72 "cut" ∈ lw_tbl := List.mem_of_getElem? (i := 365) (by decide +kernel)
theorem zs_3 : Cond.stringRef RX6 74 "trim" ∈ lw_tbl := List.mem_of_getElem? (i := 366) (by decide +kernel)
theorem zs_4 : Cond.stringRef RX6 76 "drop" ∈ lw_tbl := List.mem_of_getElem? (i := 367) (by decide +kernel)
theorem zs_5 : Cond.stringRef RX6 78 "so" ∈ lw_tbl := List.mem_of_getElem? (i := 368) (by decide +kernel)
theorem zs_6 : Cond.stringRef RX6 80 "not" ∈ lw_tbl := List.mem_of_getElem? (i := 369) (by decide +kernel)
theorem zs_7 : Cond.stringRef RX6 82 "claim" ∈ lw_tbl := List.mem_of_getElem? (i := 370) (by decide +kernel)
theorem zn_X7_9 : Cond.methodLinkNest RX7 9 yX5_init "TruthSums" ∈ lw_tbl := List.mem_of_getElem? (i := 80) (by decide +kernel)
theorem zn_X3_25 : Cond.methodLinkNest RX3 25 yX6_init "TruthSums" ∈ lw_tbl := List.mem_of_getElem? (i := 106) (by decide +kernel)
theorem zn_X3_30 : Cond.methodLinkNest RX3 30 yX2_init "TruthSums" ∈ lw_tbl := List.mem_of_getElem? (i := 128) (by decide +kernel)
theorem zn_X3_31 : Cond.methodLinkNest RX3 31 yX4_init "TruthSums" ∈ lw_tbl := List.mem_of_getElem? (i := 146) (by decide +kernel)
theorem zn_X4_9 : Cond.methodLinkNest RX4 9 yX2_init "TruthSums" ∈ lw_tbl := List.mem_of_getElem? (i := 151) (by decide +kernel)
theorem zn_X7_25 : Cond.methodLinkNest RX7 25 yX1_init "TruthSums" ∈ lw_tbl := List.mem_of_getElem? (i := 184) (by decide +kernel)
theorem zn_X7_32 : Cond.methodLinkNest RX7 32 yX0_init "TruthSums" ∈ lw_tbl := List.mem_of_getElem? (i := 203) (by decide +kernel)
theorem zn_X7_43 : Cond.methodLinkNest RX7 43 yX2_init "TruthSums" ∈ lw_tbl := List.mem_of_getElem? (i := 225) (by decide +kernel)
theorem zo_X2 : Cond.arrayOver (.object RX2) ∈ lw_tbl := List.mem_of_getElem? (i := 101) (by decide +kernel)
theorem zo_X4 : Cond.arrayOver (.object RX4) ∈ lw_tbl := List.mem_of_getElem? (i := 103) (by decide +kernel)
abbrev FL : List Cond := flatC (Jvm.Cond.and given_1 narrow_1)
abbrev tmS (i : Nat) : Term := Term.string RX6 (sx_at i)
theorem fx_1 : ∀ i, i < 8 → Cond.exactly (tmS i) "java/lang/String" ∈ FL := by decide +kernel
theorem fx_2 : ∀ i, i < 8 → Cond.eq ((tmS i).field "java/lang/String" "coder" "B") (.int 0) ∈ FL := by decide +kernel
theorem fx_3 : ∀ i, i < 8 → Cond.arrayOf ((tmS i).field "java/lang/String" "value" "[B") .byte ∈ FL := by decide +kernel
theorem fx_4 : ∀ i, i < 8 → Cond.eq (Term.length ((tmS i).field "java/lang/String" "value" "[B")) (.int (Int32.ofNat (sx_ln.getD i 0))) ∈ FL := by decide +kernel
theorem fx_5 : ∀ i, i < 8 → ∀ j, j < sx_ln.getD i 0 → Cond.eq (Term.elem ((tmS i).field "java/lang/String" "value" "[B") (.int (Int32.ofNat j))) (.int ((sx_by.getD i []).getD j 0)) ∈ FL := by decide +kernel
theorem fx_6 : ∀ j, j < 8 → ∀ i, i < j → Cond.not (Cond.eq (tmS i) (tmS j)) ∈ FL := by decide +kernel
theorem fx_7 : Cond.eq (Term.static "java/lang/String" "COMPACT_STRINGS" "Z") (.int 1) ∈ FL := by decide +kernel
theorem fx_8 : Cond.isRef (Term.static "jdk/internal/util/Preconditions" "SIOOBE_FORMATTER" "Ljava/util/function/BiFunction;") ∈ FL := by decide +kernel
theorem lw_world {s : State} {b : Nat} (hts : ∀ w ∈ lw_tbl, w.before #[Value.ref b] s = true) (hgv : (Jvm.Cond.and given_1 narrow_1).before #[Value.ref b] s = true) : ∃ g : Gl, gb g = s.heap.size ∧ ga g 1300 = b ∧ Kg g s := by
  have hg : ∀ w ∈ lw_g, w.before #[Value.ref b] s = true := fun w hw => hts w (List.mem_filter.mp hw).1
  have hs := flat_of_before _ hgv
  obtain ⟨c0, j0, k0⟩ := u_known (C := RX0) (T := TX0) (N := 4) (n := 4) hg iw0 (hts _ ks_X0)
  obtain ⟨c1, j1, k1⟩ := u_known (C := RX1) (T := TX1) (N := 3) (n := 3) hg iw1 (hts _ ks_X1)
  obtain ⟨c2, j2, k2⟩ := u_known (C := RX2) (T := TX2) (N := 2) (n := 2) hg iw2 (hts _ ks_X2)
  obtain ⟨c3, j3, k3⟩ := u_known (C := RX3) (T := TX3) (N := 3) (n := 3) hg iw3 (hts _ ks_X3)
  obtain ⟨c4, j4, k4⟩ := u_known (C := RX4) (T := TX4) (N := 4) (n := 4) hg iw4 (hts _ ks_X4)
  obtain ⟨c5, j5, k5⟩ := u_known (C := RX5) (T := TX5) (N := 2) (n := 2) hg iw5 (hts _ ks_X5)
  obtain ⟨c6, j6, k6⟩ := u_known (C := RX6) (T := TX6) (N := 5) (n := 5) hg iw6 (hts _ ks_X6)
  obtain ⟨c7, j7, k7⟩ := u_known (C := RX7) (T := TX7) (N := 12) (n := 12) hg iw7 (hts _ ks_X7)
  obtain ⟨c8, j8, k8⟩ := u_known (C := RX8) (T := TX8) (N := 20) (n := 20) hg iw8 (hts _ ks_X8)
  obtain ⟨ab, kb, pb, f1, f2, f3⟩ := Cond.arrayClass_spec (hts _ ka_byte)
  obtain ⟨ai, ki, pi, g1, g2, g3⟩ := Cond.arrayClass_spec (hts _ ka_int)
  obtain ⟨al, kl, pl, h1, h2, h3⟩ := Cond.arrayClass_spec (hts _ ka_long)
  obtain ⟨q2, a2, r2, m1, -, m3, m4, m5⟩ := Cond.arrayOver_spec (hts _ zo_X2)
  obtain ⟨q4, a4, r4, n1, -, n3, n4, n5⟩ := Cond.arrayOver_spec (hts _ zo_X4)
  have hA : ∀ a : Nat, a < s.heap.size → ¬ (fun q => s.heap.size ≤ q) a := fun a h z => by
    have : s.heap.size ≤ a := z
    omega
  obtain ⟨adK, adV, hS, hev⟩ := vk_Sof (N := 8) (tm := tmS) (len := sx_ln) (byt := sx_by) (A := fun q => s.heap.size ≤ q) (by decide) (fun i hi => hs _ (fx_1 i hi)) (fun i hi => hs _ (fx_2 i hi)) (fun i hi => hs _ (fx_3 i hi)) (fun i hi => hs _ (fx_4 i hi)) (fun i hi j hj => hs _ (fx_5 i hi j hj)) (fun i j hi hj hij => by
    rcases Nat.lt_or_ge i j with q | q
    · exact Or.inl (hs _ (fx_6 j hj i q))
    · exact Or.inr (hs _ (fx_6 i hi j (by omega)))) hA
  have hz := va_Zof (A := fun q => s.heap.size ≤ q) (hts _ zc_l) (hts _ zc_i) (va_eqv (v := .int 1) (hs _ fx_7) rfl) hA
  obtain ⟨tF, hF⟩ : ∃ t : Nat, va_Z "jdk/internal/util/Preconditions" "SIOOBE_FORMATTER" "Ljava/util/function/BiFunction;" .null (fun q => s.heap.size ≤ q) s s.heap ∨ va_Z "jdk/internal/util/Preconditions" "SIOOBE_FORMATTER" "Ljava/util/function/BiFunction;" (.ref t) (fun q => s.heap.size ≤ q) s s.heap := by
    rcases va_Zqof (A := fun q => s.heap.size ≤ q) (hts _ zp_l) (hts _ zp_i) (hs _ fx_8) hA with h | ⟨t, h⟩
    · exact ⟨0, Or.inl h⟩
    · exact ⟨t, Or.inr h⟩
  refine ⟨(s.heap.size, (fun c => match c with | 0 => c0 | 1 => c1 | 2 => c2 | 3 => c3 | 4 => c4 | 5 => c5 | 6 => c6 | 7 => c7 | _ => c8), (fun c => match c with | 0 => j0 | 1 => j1 | 2 => j2 | 3 => j3 | 4 => j4 | 5 => j5 | 6 => j6 | 7 => j7 | _ => j8), (fun t => match t with | 0 => ab | 1 => ai | 2 => al | 3 => a2 | _ => a4), (fun k => if k = 1300 then b else if k = 1200 then tF else if k < 1100 then adK (k - 1000) else adV (k - 1100))), rfl, rfl, ⟨fun c q hq => ?_, fun k q hq => ?_⟩, ⟨fun q hq => ?_, ?_, ?_⟩, ?_, fun i hi => ?_, hz, ?_⟩
  · have hc : c < 9 := (List.getElem?_eq_some_iff.mp hq).1
    rcases (show c = 0 ∨ c = 1 ∨ c = 2 ∨ c = 3 ∨ c = 4 ∨ c = 5 ∨ c = 6 ∨ c = 7 ∨ c = 8 by omega) with rfl | rfl | rfl | rfl | rfl | rfl | rfl | rfl | rfl
    · cases hq; exact k0
    · cases hq; exact k1
    · cases hq; exact k2
    · cases hq; exact k3
    · cases hq; exact k4
    · cases hq; exact k5
    · cases hq; exact k6
    · cases hq; exact k7
    · cases hq; exact k8
  · have hc : k < 5 := (List.getElem?_eq_some_iff.mp hq).1
    rcases (show k = 0 ∨ k = 1 ∨ k = 2 ∨ k = 3 ∨ k = 4 by omega) with rfl | rfl | rfl | rfl | rfl
    · cases hq; exact ⟨fun n z => ⟨(fun k h => by cases h), kb, f2, pb, f3⟩, f1⟩
    · cases hq; exact ⟨fun n z => ⟨(fun k h => by cases h), ki, g2, pi, g3⟩, g1⟩
    · cases hq; exact ⟨fun n z => ⟨(fun k h => by cases h), kl, h2, pl, h3⟩, h1⟩
    · cases hq; exact ⟨fun n z => ⟨(fun k h => by cases h), r2, m3, q2, m4⟩, r2, q2, m3, m4, m1, m5⟩
    · cases hq; exact ⟨fun n z => ⟨(fun k h => by cases h), r4, n3, q4, n4⟩, r4, q4, n3, n4, n1, n5⟩
  · simp only [nests, List.mem_cons, List.not_mem_nil, or_false] at hq
    rcases hq with rfl | rfl | rfl | rfl | rfl | rfl | rfl | rfl
    · exact va_Nw.of rfl (hts _ zn_X7_9)
    · exact va_Nw.of rfl (hts _ zn_X3_25)
    · exact va_Nw.of rfl (hts _ zn_X3_30)
    · exact va_Nw.of rfl (hts _ zn_X3_31)
    · exact va_Nw.of rfl (hts _ zn_X4_9)
    · exact va_Nw.of rfl (hts _ zn_X7_25)
    · exact va_Nw.of rfl (hts _ zn_X7_32)
    · exact va_Nw.of rfl (hts _ zn_X7_43)
  · exact va_AO.of (hts _ zo_X2)
  · exact va_AO.of (hts _ zo_X4)
  · have e1 : ∀ i, i < 8 → (if 1000 + i = 1300 then b else if 1000 + i = 1200 then tF else if 1000 + i < 1100 then adK (1000 + i - 1000) else adV (1000 + i - 1100)) = adK i := fun i hi => by
      rw [if_neg (by omega), if_neg (by omega), if_pos (by omega), Nat.add_sub_cancel_left]
    have e2 : ∀ i, i < 8 → (if 1100 + i = 1300 then b else if 1100 + i = 1200 then tF else if 1100 + i < 1100 then adK (1100 + i - 1000) else adV (1100 + i - 1100)) = adV i := fun i hi => by
      rw [if_neg (by omega), if_neg (by omega), if_neg (by omega), Nat.add_sub_cancel_left]
    refine ⟨fun i hi => ?_, fun i j hi hj hij => ?_⟩
    · have := hS.1 i hi
      rw [← e1 i hi, ← e2 i hi] at this
      exact this
    · refine hS.2 i j hi hj ?_
      rw [← e1 i hi, ← e1 j hj]; exact hij
  · have e1 : ∀ i, i < 8 → (if 1000 + i = 1300 then b else if 1000 + i = 1200 then tF else if 1000 + i < 1100 then adK (1000 + i - 1000) else adV (1000 + i - 1100)) = adK i := fun i hi => by
      rw [if_neg (by omega), if_neg (by omega), if_pos (by omega), Nat.add_sub_cancel_left]
    have hw : (Cond.stringRef RX6 (sx_at i) (sx_tx i)).before #[Value.ref b] s = true := by
      rcases (show i = 0 ∨ i = 1 ∨ i = 2 ∨ i = 3 ∨ i = 4 ∨ i = 5 ∨ i = 6 ∨ i = 7 by omega) with rfl | rfl | rfl | rfl | rfl | rfl | rfl | rfl
      · exact hts _ zs_0
      · exact hts _ zs_1
      · exact hts _ zs_2
      · exact hts _ zs_3
      · exact hts _ zs_4
      · exact hts _ zs_5
      · exact hts _ zs_6
      · exact hts _ zs_7
    have hv := hev i hi
    rw [← e1 i hi] at hv
    exact vk_R.of hw (by exact hv)
  · exact hF
/-- YOUR PART: from the entry, for every script of at most 2560 ints, the law comes to its end with true -/
theorem whole_start {p : Program} {e : Env} {s : State} {m : MethodId} {below : List Frame} {meth : Method} {c : Code} (l : Launch) {b L : Nat} {xs : Nat → Int32} (hL : L ≤ 2560) (C0 : lw_At p s m meth c b L xs) : W p l e room_1 s m #[Value.ref b] below meth c s.heap [] 0 0 (lw_Z below #[Value.ref b] s) (entryFrame m ([Value.ref b] : List Value).toArray 4) := by
  obtain ⟨hx, hb, hr, hml, hown, hts, hX, hbl, hlk, hgv⟩ := C0
  obtain ⟨g, g1, g2, hK⟩ := lw_world hts hgv
  have hg : ∀ w ∈ lw_g, w.before #[Value.ref b] s = true := fun w hw => hts w (List.mem_filter.mp hw).1
  rw [lg_entry_eq]
  have hl := lv_entry [Value.ref b] (n := 4) (Nat.le_of_ble_eq_true rfl)
  have K := lw_main g l (b := b) (L := L) (xs := xs) hL p e s m #[Value.ref b] below meth c s.heap [] _ ⟨hx, hb, hml, hr, hown, hlk, hg, hK, by rw [g1]; exact Nat.le_refl _⟩ ⟨hX, hbl, g1, g2⟩ ⟨by rw [g1]; rfl, by decide, fun k hk => absurd hk (Nat.not_lt_zero k)⟩ va_S.rf ⟨hl.1, hl.2.1, fun j w hj => ?_⟩
  · intro T hT X
    obtain ⟨t, a1, b1⟩ := K T hT X
    exact ⟨t, a1, b1 rfl⟩
  · match j, hj with
    | 0, hj =>
      have e : w = .ref 1300 := (Option.some.inj hj).symm
      rw [e, rv_b g2]; exact hl.2.2 (0, .ref b) (by simp [lv_args])
    | 1, hj => cases hj
    | 2, hj => cases hj
    | 3, hj => cases hj
set_option maxHeartbeats 4000000 in
theorem lw_walk (l : Launch) (b : Addr) (xs : List Int32) : MetFree l x (headSpec (Jvm.Cond.code x code maxLocals ret :: tables_1) room_1) (lw_P b xs) (fun _ _ _ _ _ => True) lw_Q := by
  refine MetFree.of_bodyS (code := code) (maxLocals := maxLocals) (ret := ret) (by decide) ?_ ?_
  · intro args s m h hn
    obtain ⟨meth, c, h1, h2, h3, h4, h5, h6, -, -⟩ := Cond.code_spec hn (atoms_spec (ws := Jvm.Cond.code x code maxLocals ret :: tables_1) h _ List.mem_cons_self)
    exact ⟨meth, c, h1, h2, h3, h4, h5, h6⟩
  · intro p e s m args below meth c s₁ B hml0 hP _
    obtain ⟨rfl, hx, hbd, hgv⟩ := hP
    obtain ⟨scr, harrAt, hlist, hof, hsmall⟩ := hx
    obtain ⟨hcb, hkn, -, -⟩ := State.arrayAt?_spec harrAt
    have hown : s.vm.findClass R_law = some m.cls := findClass_of_methodNamed B.named
    have hts0 : ∀ c ∈ (Jvm.Cond.code x code maxLocals ret :: tables_1), c.before #[Value.ref b] s = true := atoms_spec (ws := Jvm.Cond.code x code maxLocals ret :: tables_1) B.pre
    have hts : ∀ w ∈ lw_tbl, w.before #[Value.ref b] s = true := k2_hts_sels lw_privs (fun w hw => hts0 w (List.mem_cons_of_mem _ hw)) lw_privs_ok
    have hml : c.maxLocals = 4 := B.maxLocals_eq (hts0 _ List.mem_cons_self)
    have X₀ : Stand p l e room_1 s m #[Value.ref b] below meth c s₁ [] 0 0 := Stand.of_body B
    have hh0 : s₁.heap = s.heap := by rw [B.state]; rfl
    have hsz : scr.slots.size = xs.length := by rw [← Array.length_toList, hlist, List.length_map]
    have hval : ∀ j : Nat, j < xs.length → scr.slots[j]? = some (.int (xs.getD j 0)) := fun j hj => by
      rw [← Array.getElem?_toList, hlist]
      simp [hj]
    have hbl : b < s.heap.size := (Array.getElem?_eq_some_iff.mp hcb).1
    have hX : va_X b xs.length (fun j => xs.getD j 0) s s.heap := ⟨scr, hcb, hof, hkn, hsz, hval⟩
    have K : W p l e room_1 s m #[Value.ref b] below meth c s₁.heap [] 0 0 (lw_Z below #[Value.ref b] s) (entryFrame m ([Value.ref b] : List Value).toArray 4) := by
      rw [hh0]
      exact whole_start l hbd ⟨B.exec, B.bytes, B.returns, hml, hown, hts, hX, hbl, B.notSynchronized, hgv⟩
    obtain ⟨t, a1, o, b1, b2, b3⟩ := K s₁ rfl X₀
    exact ⟨t, o, a1, b1, b2, b3⟩
theorem lw_pre_spec {args : Array Value} {s : State} (h : (Jvm.Cond.and given_1 narrow_1).before args s = true) (hr : rest_1_c.before args s = true) : ∃ (b : Addr) (xs : List Int32), lw_P b xs args s := by
  have hs := flat_of_before _ h
  have hq := flat_of_before _ hr
  have hc : (Cond.count 1).before args s = true := hs _ (by decide +kernel)
  have harr : (Cond.arrayOf (.arg 0) .int).before args s = true := hs _ (by decide +kernel)
  have hle : (Cond.le (.length (.arg 0)) (.int 2560)).before args s = true := hs _ (by decide +kernel)
  have hlen : (Cond.isInt (.length (.arg 0))).before args s = true := hq _ (by decide +kernel)
  have hall : (Cond.all (.arg 0) (.isInt (.elem (.arg 0) (.index 0)))).before args s = true := hq _ (by decide +kernel)
  obtain ⟨b, xs, hb, hx⟩ := State.ints_of_pre rfl harr hlen hall
  have hsm : xs.length < 2 ^ 31 := hx.choose_spec.2.2.2
  have hev : (Term.length (.arg 0)).eval args s none [] s = some (.int xs.length.toInt32) := hx.length_eval hb
  have hv := Cond.le_ints hev (show (Term.int 2560).eval args s none [] s = some (.int 2560) from rfl)
  have hd : xs.length.toInt32 ≤ 2560 := by
    simpa [Cond.before, Cond.holds, hv] using hle
  have hN : xs.length ≤ 2560 := (Int32.ofNat_le_ofNat hsm (by decide)).mp (show Int32.ofNat xs.length ≤ Int32.ofNat 2560 from hd)
  exact ⟨b, xs, Cond.one_arg hc (show args[0]? = some (.ref b) from hb), hx, hN, h⟩
theorem lw_comes (l : Launch) : Comes l x (Jvm.Cond.code x code maxLocals ret :: tables_1) room_1 (fun tb e args s => Calls_1 tb e args s ∧ rest_1 tb e args s ∧ Pre_1 tb e args s)
    (fun _ _ args s o t => lw_Q args s o t) := by
  intro p e ha hc hk s m args below hf hfit hheap happ hpre
  obtain ⟨b, xs, hP⟩ := lw_pre_spec hpre.2.2 hpre.2.1
  obtain ⟨k, o, h1, h2, h3, hQ⟩ := lw_walk l b xs p e ha hc hk s m args below hf ((Spec.applies_iff_loose hf).mp happ).1 hP trivial
  exact ⟨k, o, h1, h2, h3, hQ⟩
theorem lw_frame {s t : State} {o : Outcome} {args : Array Value} (h : Framed s o t [] 600000 7302250) :
    Framed s o t (fieldLocs frame_1_writes args s ++ arrayLocs frame_1_arrays args s ++ staticLocs frame_1_statics s) 600000 7302250 := h
theorem lw_limb (L : Cond) (hL : ∀ (args : Array Value) (s t : State), L.after args s (.returned (some (.int 1))) t = true) :
    ArmFor flags0 classFile x code maxLocals ret World_1 tables_1 room_1 Calls_1 rest_1 Pre_1
      (fun tb e a s o t => postC L tb e a s o t ∧ Framed s o t (fieldLocs frame_1_writes a s ++ arrayLocs frame_1_arrays a s ++ staticLocs frame_1_statics s) 600000 7302250) := by
  intro l _ _ _ p e ha hc hk s m args below hf hfit hheap happ hpre
  obtain ⟨k, o, h1, h2, h3, rfl, hF⟩ := lw_comes l p e ha hc hk s m args below hf hfit hheap happ hpre
  exact ⟨k, _, h1, h2, h3, hL args s _, lw_frame hF⟩
theorem i_vc : Claimed_1_1 ∧ Claimed_1_2 := ⟨lw_limb limb_1_1 (fun args s t => by simp [limb_1_1, Cond.after, Cond.holds, Cond.value]), lw_limb limb_1_2 (fun args s t => Cond.after_iff.mpr (by
  first | (rw [show limb_1_2 = Cond.eq .result (.int 1) from rfl, Cond.eq_ints (x := 1) (y := 1) rfl rfl]; simp; done) | (simp [limb_1_2, Cond.value, Term.eval]; done)))⟩
