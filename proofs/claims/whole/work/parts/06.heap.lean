def R0 (k j : Nat) : Option Nat :=
  if sh k = 2 then some (k + 1) else if sh k = 4 then some (k + 1)
  else if k = 0 then (if j = 0 then some 1 else if j = 1 then some 3 else if j = 2 then some 98 else if j = 3 then some 99 else if j = 4 then some 100 else if j = 5 then some 165 else some 166)
  else if k = 1 then some 2 else if k = 3 then some (4 + j) else if k = 4 then some (10 + 2 * j) else if k = 5 then some (26 + 3 * j) else if k = 6 then some (7 + j) else if k = 100 then some (101 + 2 * j)
  else (if j = 1 then some 168 else if j = 8 then some 169 else if j = 14 then some 170 else if j = 15 then some 171 else if j = 18 then some 172 else some 173)
def up2 (F : Nat → Nat → Int32) (k j : Nat) (x : Int32) : Nat → Nat → Int32 := fun q => if q = k then upd (F k) j x else F q
theorem up2_same (F : Nat → Nat → Int32) (k j : Nat) (x : Int32) : up2 F k j x k = upd (F k) j x := by simp [up2]
theorem up2_ne (F : Nat → Nat → Int32) {k q : Nat} (j : Nat) (x : Int32) (h : q ≠ k) : up2 F k j x q = F q := by simp [up2, h]
/-- the states between the constructors and the end -/
abbrev St (F : Nat → Nat → Int32) (J : Nat → Int64) : Sg := (174, F, J, R0)
set_option maxRecDepth 20000 in
theorem iw0 : ∀ w ∈ u_ws RX0 TX0 4, w ∈ lw_g := by decide +kernel
set_option maxRecDepth 20000 in
theorem iw1 : ∀ w ∈ u_ws RX1 TX1 3, w ∈ lw_g := by decide +kernel
set_option maxRecDepth 20000 in
theorem iw2 : ∀ w ∈ u_ws RX2 TX2 2, w ∈ lw_g := by decide +kernel
set_option maxRecDepth 20000 in
theorem iw3 : ∀ w ∈ u_ws RX3 TX3 3, w ∈ lw_g := by decide +kernel
set_option maxRecDepth 20000 in
theorem iw4 : ∀ w ∈ u_ws RX4 TX4 4, w ∈ lw_g := by decide +kernel
set_option maxRecDepth 20000 in
theorem iw5 : ∀ w ∈ u_ws RX5 TX5 2, w ∈ lw_g := by decide +kernel
set_option maxRecDepth 20000 in
theorem iw6 : ∀ w ∈ u_ws RX6 TX6 5, w ∈ lw_g := by decide +kernel
set_option maxRecDepth 20000 in
theorem iw7 : ∀ w ∈ u_ws RX7 TX7 12, w ∈ lw_g := by decide +kernel
set_option maxRecDepth 20000 in
theorem iw8 : ∀ w ∈ u_ws RX8 TX8 20, w ∈ lw_g := by decide +kernel
theorem sh_11 : ∀ q, q < 174 → sh q = 11 → q = 165 := by decide +kernel
section HEAP
variable {g : Gl} {l : Launch} {R : Room} {XX : State → Method → Prop} {QQ : List Frame → Array Value → State → State → Prop} {own : String} {cc : ByteArray} {nL : Nat} {ret : Option FieldType} {pc : Nat} {L : List (Option Value)} {st : List Value} {S S2 : Sg} {c1 s1 : Nat}
theorem rv_own {g : Gl} {k : Nat} (h : k < 1000) : rv g (.ref k) = .ref (gb g + k) := by simp [rv, rel, h]
theorem wd_one {H : Heap} {k : Nat} {e : va_E} (hW : Wd g S H) (hk : k < S.1) (hE : wE g S k = e) : va_P (gD g) vwCl [(gb g + k, e)] H := by
  intro q x hx
  match q, hx with
  | 0, hx => cases hx; rw [← hE]; exact hW.2.2 k hk
/-- one cell changes -/
theorem wd_set {H H1 : Heap} {k : Nat} (hW : Wd g S H) (hz : H1.size = H.size) (hs : S2.1 = S.1) (ho : ∀ q, q < S.1 → q ≠ k → wE g S2 q = wE g S q) (oq : ∀ q : Nat, q ≠ gb g + k → H1[q]? = H[q]?) (hc : va_at (gD g) vwCl (gb g + k, wE g S2 k) H1) : Wd g S2 H1 := by
  refine ⟨by rw [hz, hs]; exact hW.1, by rw [hs]; exact hW.2.1, fun q hq => ?_⟩
  by_cases e : q = k
  · rw [e]; exact hc
  · rw [ho q (by omega) e]
    exact (hW.2.2 q (by omega)).kept (oq _ (by omega))
theorem wd_k {H : Heap} {k : Nat} (hW : Wd g S H) (hk : k < S.1) : k < 1000 := by have := hW.2.1; omega
theorem g_getG {idx k ci j N : Nat} {C : String} {T : u_T} {fs : List Value} {v : Value} (n : Nat) (hd : decode cc pc = .ok (.getfield idx, 3)) (hn : pc + 3 = n) (hl : Cond.fieldLink own idx (T j).1 (T j).2.1 (T j).2.2.1 ∈ lw_tbl) (hc : vwCl[ci]? = some (C, T, N)) (hj : j < N) (hin : ∀ w ∈ u_ws C T N, w ∈ lw_g) (hk : k < S.1) (hE : wE g S k = .inr (ci, fs)) (hv : fs[j]? = some (rv g v)) (kk : Gj g l R XX QQ own cc nL ret n L (v :: st) S c1 s1) : Gj g l R XX QQ own cc nL ret pc L (.ref k :: st) S c1 s1 := by
  subst hn
  intro p e s m args below meth c H locs ls C0 hX hW hS hl0
  have hP := wd_one hW hk hE
  rw [List.map_cons, rv_own (wd_k hW hk)]
  exact va_get (ref := (T j).1) C0.1 C0.2.1 C0.2.2.2.2.2.2.1 hin C0.2.2.2.2.1 C0.2.2.2.2.2.2.2.1.1 hP 0 rfl hc j hj (C0.2.2.2.2.2.2.1 _ (mem_g hl rfl)) (fun _ h => h) hv hd (kk p e s m args below meth c H locs ls C0 hX hW hS hl0)
theorem g_putG {idx k ci j N : Nat} {C : String} {T : u_T} {fs : List Value} {v : Value} {ty : FieldType} (n : Nat) (hd : decode cc pc = .ok (.putfield idx, 3)) (hn : pc + 3 = n) (hl : Cond.fieldLink own idx (T j).1 (T j).2.1 (T j).2.2.1 ∈ lw_tbl) (hc : vwCl[ci]? = some (C, T, N)) (hj : j < N) (hin : ∀ w ∈ u_ws C T N, w ∈ lw_g) (ty0 : Nat → FieldType) (hty : ∀ k, k < N → parseFieldDescriptor (T k).2.2.1 = some (ty0 k)) (hnm : ∀ a, a < N → ∀ b, b < N → a ≠ b → (T a).2.1 ≠ (T b).2.1) (hfin : (T j).2.2.2 = false) (hdsc : parseFieldDescriptor (T j).2.2.1 = some ty) (hna : narrow ty (rv g v) = rv g v) (hfit : fits ty (rv g v) = true)
    (hk : k < S.1) (hE : wE g S k = .inr (ci, fs)) (hlen : j < fs.length) (hs : S2.1 = S.1) (hE2 : wE g S2 k = .inr (ci, fs.set j (rv g v))) (ho : ∀ q, q < S.1 → q ≠ k → wE g S2 q = wE g S q) (kk : Gj g l R XX QQ own cc nL ret n L st S2 c1 s1) : Gj g l R XX QQ own cc nL ret pc L (v :: .ref k :: st) S c1 s1 := by
  subst hn
  intro p e s m args below meth c H locs ls C0 hX hW hS hl0
  have hk9 := wd_k hW hk
  have hts := C0.2.2.2.2.2.2.1
  have hK := C0.2.2.2.2.2.2.2.1.1
  have hap := va_apart (own := own) hts hin ty0 hty hnm hK hc
  have hat := hW.2.2 k hk
  rw [hE] at hat
  obtain ⟨r, h1, cell, q1, q2, q3, q4⟩ := hat
  have hr : r = (C, T, N) := Option.some.inj (h1.symm.trans hc)
  subst hr
  obtain ⟨hSl, hfc, kC, hkC, hkind⟩ := hK.1 ci _ hc
  obtain ⟨cf, kf, fi, f, hi, hsl⟩ := hSl j hj
  have hlay := hts _ (hin _ (u_in_lay hj))
  unfold u_lay at hlay
  rw [if_neg (by rw [hfin]; decide)] at hlay
  have hst := (u_facts hfc hkC (u_lays hts hin hj) hi).1
  have h6 := u_store hfc hkC hkind hlay hi hdsc hna hfit
  rw [List.map_cons, List.map_cons, rv_own hk9]
  refine W.putK C0.1 C0.2.1 (f := f) ⟨C0.2.2.2.2.1, hts _ (mem_g hl rfl), ⟨_, _, _, hi⟩, hst⟩ (by rw [q2]; exact h6) q1 q3 (by rw [hsl]; exact k2_hasslot (q4 j hj)) rfl rfl hd fun H1 e1 e2 e3 => ?_
  rw [hsl] at e1 ⊢
  refine kk p e s m args below meth c H1 _ ls C0 hX (wd_set hW e2 hs ho e3 ?_) (hS.put e2 e3 (Nat.le_add_right _ _)) hl0
  rw [hE2]
  exact ⟨_, hc, t_OB.to (V := updV (vp_V fs) j (rv g v)) ⟨_, e1, q2, q3, t_set q4 hap hj (rv g v)⟩ (fun q _ => vp_updV_set hlen (rv g v) q)⟩
/-! rows -/
theorem g_iald {k : Nat} {i : Int32} (n : Nat) (hd : decode cc pc = .ok (.iaload, 1)) (hn : pc + 1 = n) (hk : k < S.1 ∧ sh k = 10) (hin : vp_in i (ln k)) (kk : Gj g l R XX QQ own cc nL ret n L (.int (S.2.1 k i.toNatClampNeg) :: st) S c1 s1) : Gj g l R XX QQ own cc nL ret pc L (.int i :: .ref k :: st) S c1 s1 := by
  subst hn
  intro p e s m args below meth c H locs ls C0 hX hW hS hl0
  have hE : wE g S k = .inl (gc g 1, ln k, .inl (S.2.1 k)) := by simp only [wE, hk.2]
  have hP := wd_one hW hk.1 hE
  rw [List.map_cons, List.map_cons, rv_own (wd_k hW hk.1)]
  exact va_iald C0.1 C0.2.1 C0.2.2.2.2.2.2.2.1.1 hP 0 1 rfl rfl hin hd (kk p e s m args below meth c H locs ls C0 hX hW hS hl0)
theorem g_bald {k : Nat} {i : Int32} (n : Nat) (hd : decode cc pc = .ok (.baload, 1)) (hn : pc + 1 = n) (hk : k < S.1 ∧ sh k = 9) (hin : vp_in i (ln k)) (kk : Gj g l R XX QQ own cc nL ret n L (.int (S.2.1 k i.toNatClampNeg) :: st) S c1 s1) : Gj g l R XX QQ own cc nL ret pc L (.int i :: .ref k :: st) S c1 s1 := by
  subst hn
  intro p e s m args below meth c H locs ls C0 hX hW hS hl0
  have hE : wE g S k = .inl (gc g 0, ln k, .inl (S.2.1 k)) := by simp only [wE, hk.2]
  have hP := wd_one hW hk.1 hE
  rw [List.map_cons, List.map_cons, rv_own (wd_k hW hk.1)]
  exact va_bald C0.1 C0.2.1 C0.2.2.2.2.2.2.2.1.1 hP 0 0 rfl rfl hin hd (kk p e s m args below meth c H locs ls C0 hX hW hS hl0)
theorem g_lald {k : Nat} {i : Int32} (n : Nat) (hd : decode cc pc = .ok (.laload, 1)) (hn : pc + 1 = n) (hk : k < S.1 ∧ sh k = 11) (hin : vp_in i (ln k)) (kk : Gj g l R XX QQ own cc nL ret n L (.long (S.2.2.1 i.toNatClampNeg) :: st) S c1 s1) : Gj g l R XX QQ own cc nL ret pc L (.int i :: .ref k :: st) S c1 s1 := by
  subst hn
  intro p e s m args below meth c H locs ls C0 hX hW hS hl0
  have hE : wE g S k = .inl (gc g 2, ln k, .inr (.inl S.2.2.1)) := by simp only [wE, hk.2]
  have hP := wd_one hW hk.1 hE
  rw [List.map_cons, List.map_cons, rv_own (wd_k hW hk.1)]
  exact va_lald C0.1 C0.2.1 C0.2.2.2.2.2.2.2.1.1 hP 0 2 rfl rfl hin hd (kk p e s m args below meth c H locs ls C0 hX hW hS hl0)
theorem g_aald {k v : Nat} {i : Int32} (n : Nat) (hd : decode cc pc = .ok (.aaload, 1)) (hn : pc + 1 = n) (hk : k < S.1 ∧ (sh k = 12 ∨ sh k = 13)) (hin : vp_in i (ln k)) (hv : S.2.2.2 k i.toNatClampNeg = some v) (kk : Gj g l R XX QQ own cc nL ret n L (.ref v :: st) S c1 s1) : Gj g l R XX QQ own cc nL ret pc L (.int i :: .ref k :: st) S c1 s1 := by
  subst hn
  intro p e s m args below meth c H locs ls C0 hX hW hS hl0
  rw [List.map_cons, List.map_cons, rv_own (wd_k hW hk.1)]
  have kk2 := kk p e s m args below meth c H locs ls C0 hX hW hS hl0
  have hr : va_rf ((S.2.2.2 k i.toNatClampNeg).map (rel g)) = rv g (.ref v) := by rw [hv]; rfl
  rcases hk.2 with h | h
  · have hE : wE g S k = .inl (gc g 3, ln k, .inr (.inr (.inr (.inr (fun j => (S.2.2.2 k j).map (rel g)))))) := by simp only [wE, h]
    have hP := wd_one hW hk.1 hE
    refine va_aldq C0.1 C0.2.1 C0.2.2.2.2.2.2.2.1.1 hP 0 3 rfl rfl hin hd ?_
    rw [hr]; exact kk2
  · have hE : wE g S k = .inl (gc g 4, ln k, .inr (.inr (.inr (.inr (fun j => (S.2.2.2 k j).map (rel g)))))) := by simp only [wE, h]
    have hP := wd_one hW hk.1 hE
    refine va_aldq C0.1 C0.2.1 C0.2.2.2.2.2.2.2.1.1 hP 0 4 rfl rfl hin hd ?_
    rw [hr]; exact kk2
theorem sh_upF {k j q : Nat} {F : Nat → Nat → Int32} {J : Nat → Int64} {Rf : Nat → Nat → Option Nat} {N : Nat} {x : Int32} (h : q ≠ k) : wE g (N, up2 F k j x, J, Rf) q = wE g (N, F, J, Rf) q := by
  simp only [wE, wI, wR, up2_ne F j x h]
theorem g_iast {k N : Nat} {i x : Int32} {F : Nat → Nat → Int32} {J : Nat → Int64} {Rf : Nat → Nat → Option Nat} (n : Nat) (hd : decode cc pc = .ok (.iastore, 1)) (hn : pc + 1 = n) (hk : k < N ∧ sh k = 10) (hin : vp_in i (ln k)) (kk : Gj g l R XX QQ own cc nL ret n L st (N, up2 F k i.toNatClampNeg x, J, Rf) c1 s1) : Gj g l R XX QQ own cc nL ret pc L (.int x :: .int i :: .ref k :: st) (N, F, J, Rf) c1 s1 := by
  subst hn
  intro p e s m args below meth c H locs ls C0 hX hW hS hl0
  have hE : ∀ G : Nat → Nat → Int32, wE g (N, G, J, Rf) k = .inl (gc g 1, ln k, .inl (G k)) := fun G => by simp only [wE, hk.2]
  have hP := wd_one hW hk.1 (hE F)
  have hK := C0.2.2.2.2.2.2.2.1.1
  rw [List.map_cons, List.map_cons, List.map_cons, rv_own (wd_k hW hk.1)]
  refine W.iast C0.1 C0.2.1 (hP 0 _ rfl) ((hK.2 1 _ rfl).1 (ln k) (fun j => .int (F k j))) (fun q => by cases q) (by show ¬ (i < 0 ∨ (arrV _ _ _).slots.size ≤ _); rw [arrV_size]; exact hin) rfl rfl hd fun H1 e1 z oq => ?_
  refine kk p e s m args below meth c H1 _ ls C0 hX (wd_set hW z rfl (fun q _ h => sh_upF h) oq ?_) (hS.put z oq (Nat.le_add_right _ _)) hl0
  rw [hE, up2_same]
  show H1[gb g + k]? = some (vp_cell _ _)
  rw [e1, vp_cell_i, vp_cell_i, arrV_store]
  congr 2
  funext q
  by_cases hq : q = i.toNatClampNeg
  · subst hq; simp [updV, upd]
  · simp [updV, upd, hq]
theorem g_bast {k N : Nat} {i x : Int32} {F : Nat → Nat → Int32} {J : Nat → Int64} {Rf : Nat → Nat → Option Nat} (n : Nat) (hd : decode cc pc = .ok (.bastore, 1)) (hn : pc + 1 = n) (hk : k < N ∧ sh k = 9) (hin : vp_in i (ln k)) (kk : Gj g l R XX QQ own cc nL ret n L st (N, up2 F k i.toNatClampNeg x.toInt8.toInt32, J, Rf) c1 s1) : Gj g l R XX QQ own cc nL ret pc L (.int x :: .int i :: .ref k :: st) (N, F, J, Rf) c1 s1 := by
  subst hn
  intro p e s m args below meth c H locs ls C0 hX hW hS hl0
  have hE : ∀ G : Nat → Nat → Int32, wE g (N, G, J, Rf) k = .inl (gc g 0, ln k, .inl (G k)) := fun G => by simp only [wE, hk.2]
  have hP := wd_one hW hk.1 (hE F)
  have hK := C0.2.2.2.2.2.2.2.1.1
  rw [List.map_cons, List.map_cons, List.map_cons, rv_own (wd_k hW hk.1)]
  refine W.bast C0.1 C0.2.1 (hP 0 _ rfl) ((hK.2 0 _ rfl).1 (ln k) (fun j => .int (F k j))) (fun q => by cases q) (by show ¬ (i < 0 ∨ (arrV _ _ _).slots.size ≤ _); rw [arrV_size]; exact hin) rfl rfl hd fun H1 e1 z oq => ?_
  refine kk p e s m args below meth c H1 _ ls C0 hX (wd_set hW z rfl (fun q _ h => sh_upF h) oq ?_) (hS.put z oq (Nat.le_add_right _ _)) hl0
  rw [hE, up2_same]
  show H1[gb g + k]? = some (vp_cell _ _)
  rw [e1, vp_cell_i, vp_cell_i, arrV_store]
  congr 2
  funext q
  by_cases hq : q = i.toNatClampNeg
  · subst hq; simp [updV, upd, narrow]
  · simp [updV, upd, hq]
theorem g_last {k N : Nat} {i : Int32} {x : Int64} {F : Nat → Nat → Int32} {J : Nat → Int64} {Rf : Nat → Nat → Option Nat} (n : Nat) (hd : decode cc pc = .ok (.lastore, 1)) (hn : pc + 1 = n) (hk : k < N ∧ k = 165) (hin : vp_in i 8) (kk : Gj g l R XX QQ own cc nL ret n L st (N, F, vp_updL J i.toNatClampNeg x, Rf) c1 s1) : Gj g l R XX QQ own cc nL ret pc L (.long x :: .int i :: .ref k :: st) (N, F, J, Rf) c1 s1 := by
  subst hn
  obtain ⟨hk1, rfl⟩ := hk
  intro p e s m args below meth c H locs ls C0 hX hW hS hl0
  have hE : ∀ G : Nat → Int64, wE g (N, F, G, Rf) 165 = .inl (gc g 2, 8, .inr (.inl G)) := fun G => rfl
  have hP := wd_one hW hk1 (hE J)
  have hK := C0.2.2.2.2.2.2.2.1.1
  rw [List.map_cons, List.map_cons, List.map_cons, rv_own (by omega)]
  refine W.last C0.1 C0.2.1 (hP 0 _ rfl) ((hK.2 2 _ rfl).1 8 (fun j => .long (J j))) (fun q => by cases q) (by show ¬ (i < 0 ∨ (arrV _ _ _).slots.size ≤ _); rw [arrV_size]; exact hin) rfl rfl hd fun H1 e1 z oq => ?_
  refine kk p e s m args below meth c H1 _ ls C0 hX (wd_set hW z rfl (fun q hq0 h => ?_) oq ?_) (hS.put z oq (Nat.le_add_right _ _)) hl0
  · have h11 : sh q ≠ 11 := fun z => h (sh_11 q (Nat.lt_of_lt_of_le hq0 hW.2.1) z)
    simp only [wE, wI, wR]
    split <;> first | rfl | exact absurd (by assumption) h11
  · rw [hE]
    show H1[gb g + 165]? = some (vp_cell _ _)
    rw [e1, vp_cell_l, vp_cell_l, arrV_store]
    congr 2
    funext q
    by_cases hq : q = i.toNatClampNeg
    · subst hq; simp [updV, vp_updL]
    · simp [updV, vp_updL, hq]
theorem g_alen {k t0 : Nat} {x : vp_A} {cA : ClassId} {ty : FieldType} (n : Nat) (hd : decode cc pc = .ok (.arraylength, 1)) (hn : pc + 1 = n) (hk : k < S.1) (hE : wE g S k = .inl (cA, x)) (ht : (tysG g)[t0]? = some (cA, ty)) (kk : Gj g l R XX QQ own cc nL ret n L (.int (nI x.1) :: st) S c1 s1) : Gj g l R XX QQ own cc nL ret pc L (.ref k :: st) S c1 s1 := by
  subst hn
  intro p e s m args below meth c H locs ls C0 hX hW hS hl0
  have hP := wd_one hW hk hE
  rw [List.map_cons, rv_own (wd_k hW hk)]
  exact va_alen C0.1 C0.2.1 C0.2.2.2.2.2.2.2.1.1 hP 0 t0 rfl ht rfl hd (kk p e s m args below meth c H locs ls C0 hX hW hS hl0)
end HEAP
