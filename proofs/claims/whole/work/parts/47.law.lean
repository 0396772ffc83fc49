/-! THE CLAIM OUT OF ONE WALK OF THE LAW'S BODY. Your part is whole_start (and what it stands on); all else here is the same for every law, but numbers. -/
def R_law : String := "TruthSumsLaw"
def lw_P (b : Addr) (xs : List Int32) (args : Array Value) (s : State) : Prop := args = #[.ref b] ∧ s.IntsAt b xs ∧ xs.length ≤ 2560 ∧ (Jvm.Cond.and given_1 narrow_1).before args s = true
def lw_Q (_ : Array Value) (s : State) (o : Outcome) (t : State) : Prop := o = .returned (some (.int 1)) ∧ Framed s o t [] 600000 7302250
def lw_Z (below : List Frame) (a : Array Value) (s : State) : State → Prop := fun t => ∃ o, t.status = .running ∧ Ended t below o ∧ lw_Q a s o t
/-- the law's own end, with 1 on the stack, nothing written that was there before, its room as the claim has it -/
theorem lw_ret {p : Program} {l : Launch} {e : Env} {s : State} {m : MethodId} {below : List Frame} {meth : Method} {c : Code} {b : Nat} (hx : p.tables.exec = Jvm.exec) (hb : c.code = code) (hr : meth.sig.returnType = ret) (hlocks : meth.locks = false) {pc : Nat} {H : Heap} {ls : Array Slot} (hdg : decode code pc = .ok (.ireturn, 1)) : W p l e room_1 s m #[Value.ref b] below meth c H [] 600000 7302250 (lw_Z below #[Value.ref b] s) (F0 m pc ls [.int 1]) := by
  intro T hT X
  obtain ⟨fs, hret, hrun, hended, hW, hframe⟩ := X.leave (v := some (.int 1)) (hlocks := hlocks) (fun h => by rw [hr] at h; cases h)
  have hmeth' : T.vm.method? m = some meth := X.method'
  refine ⟨T.setFrames fs, ?_, .returned (some (.int 1)), hrun, hended, rfl, ⟨_, rfl⟩, hW, hframe⟩
  jvm_step X.here [X.here.top, hx, hb, hdg, hmeth', hr, ret, narrow_b1]
  (try refine ⟨rfl, ?_⟩); (try refine ⟨rfl, ?_⟩)
  first | (intro acts; rw [hret _ acts rfl rfl rfl]) | rw [hret _ _ rfl rfl rfl]
  exact Steps.refl _
/-- what holds at the law's entry: the machine, the code, the tables' words (any of lw_tbl by 'hts w (by decide +kernel)'), the script of L ints xs at the cell b, what the Statement gives of the start (any of its parts by flat_of_before) -/
def lw_At (p : Program) (s : State) (m : MethodId) (meth : Method) (c : Code) (b L : Nat) (xs : Nat → Int32) : Prop :=
  p.tables.exec = Jvm.exec ∧ c.code = code ∧ meth.sig.returnType = ret ∧ c.maxLocals = 4 ∧ s.vm.findClass R_law = some m.cls ∧ (∀ w ∈ lw_tbl, w.before #[Value.ref b] s = true) ∧ va_X b L xs s s.heap ∧ b < s.heap.size ∧ meth.locks = false ∧ (Jvm.Cond.and given_1 narrow_1).before #[Value.ref b] s = true
/-! the law: its script, its end; what binds the class and the reference -/
def XL (g : Gl) (b L : Nat) (xs : Nat → Int32) : State → Method → Prop := fun s _ => va_X b L xs s s.heap ∧ b < s.heap.size ∧ gb g = s.heap.size ∧ ga g 1300 = b
abbrev QL (b : Nat) : List Frame → Array Value → State → State → Prop := fun below args s t => args = #[Value.ref b] → lw_Z below args s t
section LAWR
variable {g : Gl} {l : Launch} {R : Room} {XX : State → Method → Prop} {QQ : List Frame → Array Value → State → State → Prop} {own : String} {cc : ByteArray} {nL : Nat} {ret : Option FieldType} {pc idx : Nat} {Lo : List (Option Value)} {st rest : List Value} {S : Sg} {c1 s1 b L : Nat} {xs : Nat → Int32}
theorem rv_b (h : ga g 1300 = b) : rv g (.ref 1300) = .ref b := by simp [rv, rel, h]
theorem g_sld {i : Int32} (j n : Nat) (hd : decode cc pc = .ok (.iaload, 1)) (hn : pc + 1 = n) (hi : i = nI j) (hj : j < L) (hL : L ≤ 2560) (kk : Gj g l R (XL g b L xs) QQ own cc nL ret n Lo (.int (xs j) :: st) S c1 s1) : Gj g l R (XL g b L xs) QQ own cc nL ret pc Lo (.int i :: .ref 1300 :: st) S c1 s1 := by
  subst hn
  intro p e s m args below meth c H locs ls C0 hX hW hS hl0
  obtain ⟨x1, x2, x3, x4⟩ := id hX
  rw [List.map_cons, List.map_cons, rv_b x4]
  have hc : i.toNatClampNeg = j := by rw [hi]; exact nI_clamp (by omega)
  have K := kk p e s m args below meth c H locs ls C0 hX hW hS hl0
  rw [List.map_cons] at K
  refine va_sld C0.1 C0.2.1 x1 x2 (A := ourA g) (fun h => by have : gb g ≤ b := h; omega) hS (i := i) (by rw [hi]; exact vp_in_nI hj (by omega)) hd ?_
  rw [hc]; exact K
theorem g_llen (n : Nat) (hd : decode cc pc = .ok (.arraylength, 1)) (hn : pc + 1 = n) (kk : Gj g l R (XL g b L xs) QQ own cc nL ret n Lo (.int (nI L) :: st) S c1 s1) : Gj g l R (XL g b L xs) QQ own cc nL ret pc Lo (.ref 1300 :: st) S c1 s1 := by
  subst hn
  intro p e s m args below meth c H locs ls C0 hX hW hS hl0
  obtain ⟨x1, x2, x3, x4⟩ := id hX
  rw [List.map_cons, rv_b x4]
  have K := kk p e s m args below meth c H locs ls C0 hX hW hS hl0
  rw [List.map_cons] at K
  exact va_slen C0.1 C0.2.1 x1 x2 (A := ourA g) (fun h => by have : gb g ≤ b := h; omega) hS hd K
theorem g_lawret (hd : decode cL_law pc = .ok (.ireturn, 1)) (hc : c1 ≤ 600000) (hs : s1 ≤ 7302250) : Gj g l room_1 (XL g b L xs) (QL b) RL cL_law 4 (some .boolean) pc Lo [.int 1] S c1 s1 := by
  intro p e s m args below meth c H locs ls C0 hX hW hS hl0
  obtain ⟨x1, x2, x3, x4⟩ := id hX
  by_cases ha : args = #[Value.ref b]
  · subst ha
    have K : W p l e room_1 s m #[Value.ref b] below meth c H locs c1 s1 (lw_Z below #[Value.ref b] s) (F0 m pc ls [.int 1]) :=
      va_forget (fun q hq => by have : gb g ≤ q.base := hS.2.2 q hq; omega) (W.widen hc hs (lw_ret C0.1 C0.2.1 C0.2.2.2.1 C0.2.2.2.2.2.1 hd))
    intro T hT X
    obtain ⟨t, a1, b1⟩ := K T hT X
    exact ⟨t, a1, fun _ => b1⟩
  · intro T hT X
    exact ⟨_, Steps.refl _, fun h => absurd h ha⟩
theorem g_tabO {dflt lo hi : Int} {offs : Array Int} {len : Nat} {x : Int32} (tgt : Nat) (hd : decode cc pc = .ok (.tableswitch dflt lo hi offs, len)) (h : x.toInt < lo ∨ hi < x.toInt) (ht : (pc : Int) + dflt = (tgt : Int)) (kk : Gj g l R XX QQ own cc nL ret tgt Lo st S c1 s1) : Gj g l R XX QQ own cc nL ret pc Lo (.int x :: st) S c1 s1 := by
  intro p e s m args below meth c H locs ls C0 hX hW hS hl0
  exact lv_tableOut C0.1 C0.2.1 hd h ht (kk p e s m args below meth c H locs ls C0 hX hW hS hl0)
theorem g_tabI {dflt lo hi off : Int} {offs : Array Int} {len : Nat} {x : Int32} (tgt : Nat) (hd : decode cc pc = .ok (.tableswitch dflt lo hi offs, len)) (h1 : ¬ x.toInt < lo) (h2 : ¬ hi < x.toInt) (ho : offs[(x.toInt - lo).toNat]? = some off) (ht : (pc : Int) + off = (tgt : Int)) (kk : Gj g l R XX QQ own cc nL ret tgt Lo st S c1 s1) : Gj g l R XX QQ own cc nL ret pc Lo (.int x :: st) S c1 s1 := by
  intro p e s m args below meth c H locs ls C0 hX hW hS hl0
  exact lv_tableIn C0.1 C0.2.1 hd h1 h2 ho ht (kk p e s m args below meth c H locs ls C0 hX hW hS hl0)
variable {y : MethodName} {cc2 : ByteArray} {nL2 : Nat} {ret2 : Option FieldType} {d2 : Nat} {Z : Option Value → Sg → Prop}
theorem g_w0  {k N2 : Nat} {T2 : u_T} (ci n : Nat) (hd : decode cc pc = .ok (.invokevirtual idx, 3)) (hn : pc + 3 = n) (hl : Cond.methodLink own idx y ∈ lw_tbl) (hm : MV y cc2 nL2 ret2 0) (hc : vwCl[ci]? = some (y.cls, T2, N2)) (hR : d2 + 1 ≤ R.frames ∧ 8 + (nL2 + 11) + 37 * d2 ≤ R.locals) (hcs : c1 ≤ R.cells ∧ s1 ≤ R.slots) (hr : (rest.map fun v => v.category).sum ≤ 8) (hk : k < S.1 ∧ sh k = ci) (hM : Ct g l y cc2 nL2 ret2 d2 0 0 [.ref k] S Z) (kk : ∀ (r : Option Value) (S2 : Sg), Z r S2 → Gj g l R XX QQ own cc nL ret n Lo (r.toList ++ rest) S2 c1 s1) : Gj g l R XX QQ own cc nL ret pc Lo (.ref k :: rest) S c1 s1 :=
  g_callV (As := []) n hd hn hl hm hM hc hk hR hcs hr kk
theorem g_w1 {a1 : Value} {k N2 : Nat} {T2 : u_T} (ci n : Nat) (hd : decode cc pc = .ok (.invokevirtual idx, 3)) (hn : pc + 3 = n) (hl : Cond.methodLink own idx y ∈ lw_tbl) (hm : MV y cc2 nL2 ret2 1) (hc : vwCl[ci]? = some (y.cls, T2, N2)) (hR : d2 + 1 ≤ R.frames ∧ 8 + (nL2 + 11) + 37 * d2 ≤ R.locals) (hcs : c1 ≤ R.cells ∧ s1 ≤ R.slots) (hr : (rest.map fun v => v.category).sum ≤ 8) (hk : k < S.1 ∧ sh k = ci) (hM : Ct g l y cc2 nL2 ret2 d2 0 0 [.ref k, a1] S Z) (kk : ∀ (r : Option Value) (S2 : Sg), Z r S2 → Gj g l R XX QQ own cc nL ret n Lo (r.toList ++ rest) S2 c1 s1) : Gj g l R XX QQ own cc nL ret pc Lo (a1 :: .ref k :: rest) S c1 s1 :=
  g_callV (As := [a1]) n hd hn hl hm hM hc hk hR hcs hr kk
theorem g_w2 {a1 a2 : Value} {k N2 : Nat} {T2 : u_T} (ci n : Nat) (hd : decode cc pc = .ok (.invokevirtual idx, 3)) (hn : pc + 3 = n) (hl : Cond.methodLink own idx y ∈ lw_tbl) (hm : MV y cc2 nL2 ret2 2) (hc : vwCl[ci]? = some (y.cls, T2, N2)) (hR : d2 + 1 ≤ R.frames ∧ 8 + (nL2 + 11) + 37 * d2 ≤ R.locals) (hcs : c1 ≤ R.cells ∧ s1 ≤ R.slots) (hr : (rest.map fun v => v.category).sum ≤ 8) (hk : k < S.1 ∧ sh k = ci) (hM : Ct g l y cc2 nL2 ret2 d2 0 0 [.ref k, a1, a2] S Z) (kk : ∀ (r : Option Value) (S2 : Sg), Z r S2 → Gj g l R XX QQ own cc nL ret n Lo (r.toList ++ rest) S2 c1 s1) : Gj g l R XX QQ own cc nL ret pc Lo (a2 :: a1 :: .ref k :: rest) S c1 s1 :=
  g_callV (As := [a1, a2]) n hd hn hl hm hM hc hk hR hcs hr kk
theorem g_w3 {a1 a2 a3 : Value} {k N2 : Nat} {T2 : u_T} (ci n : Nat) (hd : decode cc pc = .ok (.invokevirtual idx, 3)) (hn : pc + 3 = n) (hl : Cond.methodLink own idx y ∈ lw_tbl) (hm : MV y cc2 nL2 ret2 3) (hc : vwCl[ci]? = some (y.cls, T2, N2)) (hR : d2 + 1 ≤ R.frames ∧ 8 + (nL2 + 11) + 37 * d2 ≤ R.locals) (hcs : c1 ≤ R.cells ∧ s1 ≤ R.slots) (hr : (rest.map fun v => v.category).sum ≤ 8) (hk : k < S.1 ∧ sh k = ci) (hM : Ct g l y cc2 nL2 ret2 d2 0 0 [.ref k, a1, a2, a3] S Z) (kk : ∀ (r : Option Value) (S2 : Sg), Z r S2 → Gj g l R XX QQ own cc nL ret n Lo (r.toList ++ rest) S2 c1 s1) : Gj g l R XX QQ own cc nL ret pc Lo (a3 :: a2 :: a1 :: .ref k :: rest) S c1 s1 :=
  g_callV (As := [a1, a2, a3]) n hd hn hl hm hM hc hk hR hcs hr kk
theorem g_w4 {a1 a2 a3 a4 : Value} {k N2 : Nat} {T2 : u_T} (ci n : Nat) (hd : decode cc pc = .ok (.invokevirtual idx, 3)) (hn : pc + 3 = n) (hl : Cond.methodLink own idx y ∈ lw_tbl) (hm : MV y cc2 nL2 ret2 4) (hc : vwCl[ci]? = some (y.cls, T2, N2)) (hR : d2 + 1 ≤ R.frames ∧ 8 + (nL2 + 11) + 37 * d2 ≤ R.locals) (hcs : c1 ≤ R.cells ∧ s1 ≤ R.slots) (hr : (rest.map fun v => v.category).sum ≤ 8) (hk : k < S.1 ∧ sh k = ci) (hM : Ct g l y cc2 nL2 ret2 d2 0 0 [.ref k, a1, a2, a3, a4] S Z) (kk : ∀ (r : Option Value) (S2 : Sg), Z r S2 → Gj g l R XX QQ own cc nL ret n Lo (r.toList ++ rest) S2 c1 s1) : Gj g l R XX QQ own cc nL ret pc Lo (a4 :: a3 :: a2 :: a1 :: .ref k :: rest) S c1 s1 :=
  g_callV (As := [a1, a2, a3, a4]) n hd hn hl hm hM hc hk hR hcs hr kk
end LAWR
/-- class and reference hold the same -/
def LR (F : Nat → Nat → Int32) (G P T len : Nat) : Prop := cS F G P ∧ mS F G P ∧ F 0 9 = nI T ∧ F 167 11 = nI T ∧ F 167 12 = F 0 10 ∧ F 167 13 = F 0 11 ∧ F 1 1 = nI len ∧ F 167 2 = nI len ∧ len ≤ 400 ∧ (∀ k, k < len → F 168 k = F 2 k &&& 255) ∧ AG F (Wc F) (Dc F) (G + P) ∧ BB (Wc F) (Dc F) (G + P) ∧ ∀ j, j < 6 → F 172 j = F 166 j
theorem AG_k {F F2 : Nat → Nat → Int32} {m : Nat} (hm : m ≤ 32) (h9 : F2 169 = F 169) (h : ∀ q, 101 ≤ q → q < 165 → F2 q = F q) (hA : AG F (Wc F) (Dc F) m) : AG F2 (Wc F2) (Dc F2) m := fun i hi => by
  obtain ⟨a, b⟩ := hA i hi
  refine ⟨fun j hj => ?_, ?_⟩
  · show F2 169 _ = F2 (101 + 2 * i + 1) j
    rw [h9, h _ (by omega) (by omega)]; exact a j hj
  · show F2 169 _ = F2 (101 + 2 * i) 1
    rw [h9, h _ (by omega) (by omega)]; exact b
theorem BB_F {F F2 : Nat → Nat → Int32} {m : Nat} (hm : m ≤ 32) (h : ∀ q, 101 ≤ q → q < 165 → F2 q = F q) (hB : BB (Wc F) (Dc F) m) : BB (Wc F2) (Dc F2) m := fun i hi => by
  have e1 : Wc F2 i = Wc F i := h _ (by omega) (by omega)
  have e2 : Dc F2 i = Dc F i := congrFun (h (101 + 2 * i) (by omega) (by omega)) 1
  rw [e1, e2]; exact hB i hi
/-- scratch may change -/
theorem LR_k {F F2 : Nat → Nat → Int32} {G P T len : Nat} (h : ∀ q, (q < 6 ∨ 100 < q) → q ≠ 167 → q ≠ 170 → q ≠ 171 → q ≠ 173 → F2 q = F q) (h7 : ∀ j, (j < 3 ∨ 7 < j) → j < 16 → F2 167 j = F 167 j) (hL : LR F G P T len) : LR F2 G P T len := by
  obtain ⟨⟨c1, c2, c3, c4⟩, ⟨m1, m2, m3, m4, m5⟩, t1, t2, w1, w2, l1, l2, l3, tx, ag, bb, cs⟩ := hL
  have e0 := h 0 (by decide) (by decide) (by decide) (by decide) (by decide)
  have e1 := h 1 (by decide) (by decide) (by decide) (by decide) (by decide)
  have e2 := h 2 (by decide) (by decide) (by decide) (by decide) (by decide)
  have hq : ∀ q, 101 ≤ q → q < 165 → F2 q = F q := fun q a b => h q (by omega) (by omega) (by omega) (by omega) (by omega)
  refine ⟨⟨by rw [e0]; exact c1, by rw [e0]; exact c2, c3, c4⟩, ⟨by rw [h7 9 (by decide) (by decide)]; exact m1, by rw [h7 10 (by decide) (by decide)]; exact m2, by rw [h7 0 (by decide) (by decide)]; exact m3, m4, m5⟩, by rw [e0]; exact t1, by rw [h7 11 (by decide) (by decide)]; exact t2, by rw [h7 12 (by decide) (by decide), e0]; exact w1, by rw [h7 13 (by decide) (by decide), e0]; exact w2, by rw [e1]; exact l1, by rw [h7 2 (by decide) (by decide)]; exact l2, l3, fun k hk => ?_, AG_k (by omega) (h 169 (by decide) (by decide) (by decide) (by decide) (by decide)) hq ag, BB_F (by omega) hq bb, fun j hj => ?_⟩
  · rw [h 168 (by decide) (by decide) (by decide) (by decide) (by decide), e2]; exact tx k hk
  · rw [h 172 (by decide) (by decide) (by decide) (by decide) (by decide), h 166 (by decide) (by decide) (by decide) (by decide) (by decide)]; exact cs j hj
theorem LR_X {F F2 : Nat → Nat → Int32} {G P T len k : Nat} (hk : k = 98 ∨ k = 99 ∨ k = 173) (h : kpX k F F2) (hL : LR F G P T len) : LR F2 G P T len := LR_k (fun q a b c d e => h q (by omega)) (fun j _ _ => by rw [h 167 (by omega)]) hL
theorem LR_S {F F2 : Nat → Nat → Int32} {G P T len : Nat} (h : kpS F F2) (hL : LR F G P T len) : LR F2 G P T len := by
  obtain ⟨a, b, rfl⟩ := h
  refine LR_k (fun q _ z _ _ _ => by simp [fsn, z]) (fun j _ hj => ?_) hL
  show (if j = 16 then a else if j = 17 then b else F 167 j) = _
  rw [if_neg (by omega), if_neg (by omega)]
theorem LR_R {F F2 : Nat → Nat → Int32} {G P T len : Nat} (h : kpR F F2) (hL : LR F G P T len) : LR F2 G P T len := LR_k (fun q a _ _ _ _ => h q (by omega)) (fun j _ _ => by rw [h 167 (by omega)]) hL
theorem LR_F {F F2 : Nat → Nat → Int32} {G P T len : Nat} (h : kpF F F2) (hL : LR F G P T len) : LR F2 G P T len := LR_k (fun q _ b c d e => h.1 q b c d) (fun j a _ => h.2 j a) hL
/-! typing -/
theorem tyF_p (F : Nat → Nat → Int32) {len : Nat} (hl : F 1 1 = nI len) (v : Int64) (N : Nat) : ∀ t, (∀ q, q ≠ 1 → q ≠ 2 → tyF F len v N t q = F q) ∧ tyF F len v N t 1 1 = nI (len + t) ∧ ∀ k, tyF F len v N t 2 k = if len ≤ k ∧ k < len + t then byC v (N - 1 - (k - len)) else F 2 k
  | 0 => ⟨fun _ _ _ => rfl, hl, fun k => by rw [if_neg (by omega)]; rfl⟩
  | t + 1 => by
    obtain ⟨a, b, c⟩ := tyF_p F hl v N t
    refine ⟨fun q h1 h2 => ?_, ?_, fun k => ?_⟩
    · rw [tyF, up2_ne _ _ _ h1, up2_ne _ _ _ h2]; exact a q h1 h2
    · rw [tyF, up2_same]; simp only [upd, if_true]; rfl
    · rw [tyF, up2_ne _ _ _ (by decide), up2_same]
      simp only [upd]
      by_cases e : k = len + t
      · rw [if_pos e, if_pos (by omega), e, Nat.add_sub_cancel_left]
      · rw [if_neg e, c k]
        by_cases z : len ≤ k ∧ k < len + t
        · rw [if_pos z, if_pos (by omega)]
        · rw [if_neg z, if_neg (by omega)]
theorem tyM_p (F : Nat → Nat → Int32) {len : Nat} (hl : F 167 2 = nI len) (v : Int64) (N : Nat) : ∀ t, (∀ q, q ≠ 167 → q ≠ 168 → tyM F len v N t q = F q) ∧ tyM F len v N t 167 2 = nI (len + t) ∧ (∀ j, j ≠ 2 → tyM F len v N t 167 j = F 167 j) ∧ ∀ k, tyM F len v N t 168 k = if len ≤ k ∧ k < len + t then byM v (N - 1 - (k - len)) else F 168 k
  | 0 => ⟨fun _ _ _ => rfl, hl, fun _ _ => rfl, fun k => by rw [if_neg (by omega)]; rfl⟩
  | t + 1 => by
    obtain ⟨a, b, d, c⟩ := tyM_p F hl v N t
    refine ⟨fun q h1 h2 => ?_, ?_, fun j hj => ?_, fun k => ?_⟩
    · rw [tyM, up2_ne _ _ _ h1, up2_ne _ _ _ h2]; exact a q h1 h2
    · rw [tyM, up2_same]; simp only [upd, if_true]; rfl
    · rw [tyM, up2_same]; simp only [upd, if_neg hj]; rw [up2_ne _ _ _ (by decide)]; exact d j hj
    · rw [tyM, up2_ne _ _ _ (by decide), up2_same]
      simp only [upd]
      by_cases e : k = len + t
      · rw [if_pos e, if_pos (by omega), e, Nat.add_sub_cancel_left]
      · rw [if_neg e, c k]
        by_cases z : len ≤ k ∧ k < len + t
        · rw [if_pos z, if_pos (by omega)]
        · rw [if_neg z, if_neg (by omega)]
theorem typeF_167 (F : Nat → Nat → Int32) {len : Nat} (hl : F 1 1 = nI len) (v : Int64) (n : Int32) : typeF F len v n 167 = F 167 := by
  unfold typeF
  split
  · rfl
  · split
    · rfl
    · exact (tyF_p F hl v _ _).1 167 (by decide) (by decide)
theorem LR_type {F : Nat → Nat → Int32} {G P T len : Nat} (hL : LR F G P T len) (v : Int64) (n : Int32) : ∃ len2, LR (typeM (typeF F len v n) len v n) G P T len2 := by
  obtain ⟨⟨c1, c2, c3, c4⟩, ⟨m1, m2, m3, m4, m5⟩, t1, t2, w1, w2, l1, l2, l3, tx, ag, bb, cs⟩ := id hL
  unfold typeM typeF
  by_cases h1 : n < 1 ∨ 8 < n
  · rw [if_pos h1, if_pos h1]; exact ⟨len, hL⟩
  · rw [if_neg h1, if_neg h1]
    by_cases h2 : 400 < len + n.toNatClampNeg
    · rw [if_pos h2, if_pos h2]; exact ⟨len, hL⟩
    · rw [if_neg h2, if_neg h2]
      obtain ⟨N, n1, n8, en, eN⟩ := n18 (fun z => h1 (Or.inl z)) (fun z => h1 (Or.inr z))
      rw [eN] at h2 ⊢
      obtain ⟨a, b, c⟩ := tyF_p F l1 v N N
      generalize tyF F len v N N = F1 at a b c
      have e7 : F1 167 = F 167 := a 167 (by decide) (by decide)
      obtain ⟨d, e, f, k⟩ := tyM_p F1 (by rw [e7]; exact l2) v N N
      generalize tyM F1 len v N N = F2 at d e f k
      have hq : ∀ q, q ≠ 1 → q ≠ 2 → q ≠ 167 → q ≠ 168 → F2 q = F q := fun q h1 h2 h3 h4 => by rw [d q h3 h4, a q h1 h2]
      have e0 := hq 0 (by decide) (by decide) (by decide) (by decide)
      have f7 : ∀ j, j ≠ 2 → F2 167 j = F 167 j := fun j hj => by rw [f j hj, e7]
      refine ⟨len + N, ⟨by rw [e0]; exact c1, by rw [e0]; exact c2, c3, c4⟩, ⟨by rw [f7 9 (by decide)]; exact m1, by rw [f7 10 (by decide)]; exact m2, by rw [f7 0 (by decide)]; exact m3, m4, m5⟩, by rw [e0]; exact t1, by rw [f7 11 (by decide)]; exact t2, by rw [f7 12 (by decide), e0]; exact w1, by rw [f7 13 (by decide), e0]; exact w2, ?_, e, by omega, fun x hx => ?_, AG_k (by omega) (hq 169 (by decide) (by decide) (by decide) (by decide)) (fun q x y => hq q (by omega) (by omega) (by omega) (by omega)) ag, BB_F (by omega) (fun q x y => hq q (by omega) (by omega) (by omega) (by omega)) bb, fun j hj => ?_⟩
      · rw [d 1 (by decide) (by decide)]; exact b
      · rw [k x, d 2 (by decide) (by decide), c x]
        by_cases z : len ≤ x ∧ x < len + N
        · rw [if_pos z, if_pos z]; exact by_e v (by omega)
        · rw [if_neg z, if_neg z, a 168 (by decide) (by decide)]; exact tx x (by omega)
      · rw [hq 172 (by decide) (by decide) (by decide) (by decide), hq 166 (by decide) (by decide) (by decide) (by decide)]; exact cs j hj
theorem LR_clear {F : Nat → Nat → Int32} {G P T len : Nat} (hL : LR F G P T len) : LR (up2 (up2 F 1 1 0) 167 2 0) G P T 0 := by
  obtain ⟨⟨c1, c2, c3, c4⟩, ⟨m1, m2, m3, m4, m5⟩, t1, t2, w1, w2, l1, l2, l3, tx, ag, bb, cs⟩ := hL
  have hq : ∀ q, 101 ≤ q → q < 165 → up2 (up2 F 1 1 0) 167 2 0 q = F q := fun q a b => by rw [up2_ne _ _ _ (by omega), up2_ne _ _ _ (by omega)]
  refine ⟨⟨c1, c2, c3, c4⟩, ⟨m1, m2, m3, m4, m5⟩, t1, t2, w1, w2, rfl, rfl, by decide, fun k hk => absurd hk (Nat.not_lt_zero k), AG_k (F := F) (by omega) rfl hq ag, BB_F (by omega) hq bb, cs⟩
theorem LR_cost {F : Nat → Nat → Int32} {G P T len : Nat} (hL : LR F G P T len) (a v : Int32) : costA (F 166) a v = costA (setR F 166 (costC (F 166) a v) 172) a v ∧ LR (setR (setR F 166 (costC (F 166) a v)) 172 (costC (setR F 166 (costC (F 166) a v) 172) a v)) G P T len := by
  obtain ⟨⟨c1, c2, c3, c4⟩, ⟨m1, m2, m3, m4, m5⟩, t1, t2, w1, w2, l1, l2, l3, tx, ag, bb, cs⟩ := hL
  have e172 : setR F 166 (costC (F 166) a v) 172 = F 172 := rfl
  rw [e172]
  obtain ⟨k1, k2⟩ := cost_c cs a v
  have hq : ∀ q, 101 ≤ q → q < 165 → setR (setR F 166 (costC (F 166) a v)) 172 (costC (F 172) a v) q = F q := fun q x y => by simp [setR, show ¬ q = 172 by omega, show ¬ q = 166 by omega]
  exact ⟨k1.symm, ⟨c1, c2, c3, c4⟩, ⟨m1, m2, m3, m4, m5⟩, t1, t2, w1, w2, l1, l2, l3, tx, AG_k (F := F) (by omega) rfl hq ag, BB_F (by omega) hq bb, fun j hj => k2 j hj⟩
theorem and255 (x : Int32) : ∃ n, n < 256 ∧ x &&& 255 = nI n := ⟨(x.toBitVec &&& 255#32).toNat, by rw [BitVec.toNat_and]; exact Nat.lt_of_le_of_lt Nat.and_le_right (by decide), Int32.toBitVec.inj (by rw [Int32.toBitVec_and]; show _ = BitVec.ofNat 32 _; rw [BitVec.ofNat_toNat]; simp)⟩
theorem and31 (x : Int32) : ∃ n, n < 32 ∧ x &&& 31 = nI n := ⟨(x.toBitVec &&& 31#32).toNat, by rw [BitVec.toNat_and]; exact Nat.lt_of_le_of_lt Nat.and_le_right (by decide), Int32.toBitVec.inj (by rw [Int32.toBitVec_and]; show _ = BitVec.ofNat 32 _; rw [BitVec.ofNat_toNat]; simp)⟩
/-! reading: the tokens of both are the same -/
theorem LR_RD {F F1 : Nat → Nat → Int32} {G P T len : Nat} (hL : LR F G P T len) (h7 : F1 167 2 = F 167 2) (h8 : F1 168 = F 168) : ∃ a, RD F1 len (allT (at_ F len) len (q0F F)).1 (allT (at_ F len) len (q0F F)).2.1 (allT (at_ F len) len (q0F F)).2.2.1 (allT (at_ F len) len (q0F F)).2.2.2 a := by
  obtain ⟨-, -, -, -, -, -, l1, l2, l3, tx, -⟩ := hL
  have eb : bm F1 len = at_ F len := by
    funext k
    unfold bm at_
    rw [h8]
    by_cases z : k < len
    · rw [if_pos z, if_pos z]; exact tx k z
    · rw [if_neg z, if_neg z]
  have he : ∀ q, len ≤ q → at_ F len q = -1 := fun q hq => by unfold at_; rw [if_neg (by omega)]
  obtain ⟨a, ha⟩ := allT_TS (tb := at_ F len) l3 (fun q hq => by rw [he q hq]; decide) (fun q hq => by rw [he q hq]; decide) (fun q hq => by rw [he q hq]; decide) he (q0F F) rfl
  refine ⟨a, by rw [h7]; exact l2, l3, fun k hk => ?_, by rw [eb]; exact ha, allT_tv _ _ _, fun j hj => ?_⟩
  · rw [h8, tx k hk]
    have : ∀ x : Int32, ¬ x &&& 255 < 0 := fun x => by
      obtain ⟨n, hn, e⟩ := and255 x
      rw [e]; exact nI_pos (by omega)
    exact this _
  · obtain ⟨p, hp, e⟩ := allT_pl (at_ F len) len F j hj
    rw [e]; exact nI_pos (by omega)
theorem wkS_le {Q : Nat → P5} {G : Nat} {W : Nat → Nat → Int32} {D : Nat → Int32} : ∀ s, (wkS Q G W D s).2.2.2 ≤ s
  | 0 => Nat.le_refl 0
  | s + 1 => by
    have ih := wkS_le (Q := Q) (G := G) (W := W) (D := D) s
    rw [wkS]
    split
    · show (if _ then s + 1 else s) ≤ s + 1
      split
      · exact Nat.le_refl _
      · exact Nat.le_succ _
    · exact Nat.le_succ_of_le ih
theorem LR_given {F F2 F3 : Nat → Nat → Int32} {G P T len : Nat} {x : Bool × Nat × Nat × LL} (hL : LR F G P T len) (hx8 : x.2.1 ≤ 8) (hb : ∀ j, j < x.2.1 → bL (x.2.2.2 j).1 (x.2.2.2 j).2) (a : F2 0 7 = nI x.2.1 ∧ F2 0 8 = 0 ∧ F2 0 9 = 0 ∧ F2 0 10 = -9 ∧ F2 0 11 = -9 ∧ F2 1 1 = 0 ∧ (∀ i, i < x.2.1 → (∀ j, j < 6 → Wc F2 i j = (x.2.2.2 i).1 j) ∧ Dc F2 i = (x.2.2.2 i).2) ∧ ∀ q, 165 ≤ q → F2 q = F q) (b : F3 167 9 = nI x.2.1 ∧ F3 167 10 = 0 ∧ F3 167 11 = 0 ∧ F3 167 12 = -9 ∧ F3 167 13 = -9 ∧ F3 167 2 = 0 ∧ F3 167 0 = F2 167 0 ∧ lnsM F3 x.2.2.2 x.2.1 ∧ (∀ q, q < 167 → F3 q = F2 q) ∧ F3 172 = F2 172) : LR F3 x.2.1 0 0 0 := by
  obtain ⟨-, ⟨-, -, m3, -, -⟩, -, -, -, -, -, -, -, -, -, -, cs⟩ := hL
  obtain ⟨a1, a2, a3, a4, a5, a6, a7, a8⟩ := a
  obtain ⟨b1, b2, b3, b4, b5, b6, b7, b8, b9, b10⟩ := b
  have e0 := b9 0 (by decide)
  have cl : ∀ i, i < x.2.1 → (∀ j, j < 6 → Wc F3 i j = (x.2.2.2 i).1 j) ∧ Dc F3 i = (x.2.2.2 i).2 := fun i hi => by
    have e1 : Wc F3 i = Wc F2 i := b9 _ (by omega)
    have e2 : Dc F3 i = Dc F2 i := congrFun (b9 (101 + 2 * i) (by omega)) 1
    rw [e1, e2]; exact a7 i hi
  refine ⟨⟨by rw [e0]; exact a1, by rw [e0]; exact a2, hx8, by decide⟩, ⟨b1, b2, by rw [b7, a8 167 (by decide)]; exact m3, hx8, by decide⟩, by rw [e0]; exact a3, b3, by rw [b4, e0, a4], by rw [b5, e0, a5], by rw [b9 1 (by decide)]; exact a6, b6, by decide, fun k hk => absurd hk (Nat.not_lt_zero k), fun i hi => ?_, fun i hi => ?_, fun j hj => ?_⟩
  · obtain ⟨p1, p2⟩ := b8 i hi
    obtain ⟨q1, q2⟩ := cl i hi
    exact ⟨fun j hj => by rw [p1 j hj, q1 j hj], by rw [p2, q2]⟩
  · obtain ⟨q1, q2⟩ := cl i hi
    rw [q2]; exact bL_c (fun j hj => (q1 j hj).symm) (hb i hi)
  · rw [b10, b9 166 (by decide), a8 172 (by decide), a8 166 (by decide)]; exact cs j hj
theorem LR_proof {F F2 F3 : Nat → Nat → Int32} {G P T len n : Nat} {Q : Nat → P5} (hL : LR F G P T len) (hn : n ≤ 24) (a : F2 0 7 = nI G ∧ F2 0 8 = nI (wkS Q G (Wc F) (Dc F) n).2.2.2 ∧ F2 0 9 = nI n ∧ F2 0 10 = (if (wkS Q G (Wc F) (Dc F) n).2.2.1 = 0 then -9 else nI (wkS Q G (Wc F) (Dc F) n).2.2.2) ∧ F2 0 11 = (if (wkS Q G (Wc F) (Dc F) n).2.2.1 = 0 then -9 else (wkS Q G (Wc F) (Dc F) n).2.2.1) ∧ F2 1 1 = 0 ∧ Wc F2 = (wkS Q G (Wc F) (Dc F) n).1 ∧ Dc F2 = (wkS Q G (Wc F) (Dc F) n).2.1 ∧ ∀ q, 165 ≤ q → F2 q = F q) (b : F3 167 9 = nI G ∧ F3 167 10 = nI (wkS Q G (Wc F) (Dc F) n).2.2.2 ∧ F3 167 11 = nI n ∧ F3 167 12 = (if (wkS Q G (Wc F) (Dc F) n).2.2.1 = 0 then -9 else nI (wkS Q G (Wc F) (Dc F) n).2.2.2) ∧ F3 167 13 = (if (wkS Q G (Wc F) (Dc F) n).2.2.1 = 0 then -9 else (wkS Q G (Wc F) (Dc F) n).2.2.1) ∧ F3 167 2 = 0 ∧ F3 167 0 = F2 167 0 ∧ AG F3 (wkS Q G (Wc F) (Dc F) n).1 (wkS Q G (Wc F) (Dc F) n).2.1 (G + (wkS Q G (Wc F) (Dc F) n).2.2.2) ∧ BB (wkS Q G (Wc F) (Dc F) n).1 (wkS Q G (Wc F) (Dc F) n).2.1 (G + (wkS Q G (Wc F) (Dc F) n).2.2.2) ∧ ∀ q, q ≠ 167 → q ≠ 169 → q ≠ 170 → q ≠ 171 → F3 q = F2 q) : LR F3 G (wkS Q G (Wc F) (Dc F) n).2.2.2 n 0 := by
  obtain ⟨⟨-, -, g8, -⟩, ⟨-, -, m3, -, -⟩, -, -, -, -, -, -, -, -, -, -, cs⟩ := hL
  obtain ⟨a1, a2, a3, a4, a5, a6, a7, a8, a9⟩ := a
  obtain ⟨b1, b2, b3, b4, b5, b6, b7, b8, b9, b10⟩ := b
  have hle := wkS_le (Q := Q) (G := G) (W := Wc F) (D := Dc F) n
  have e0 := b10 0 (by decide) (by decide) (by decide) (by decide)
  have eW : ∀ i, i < 32 → Wc F3 i = (wkS Q G (Wc F) (Dc F) n).1 i := fun i hi => by
    rw [← a7]; exact b10 _ (by omega) (by omega) (by omega) (by omega)
  have eD : ∀ i, i < 32 → Dc F3 i = (wkS Q G (Wc F) (Dc F) n).2.1 i := fun i hi => by
    rw [← a8]; exact congrFun (b10 (101 + 2 * i) (by omega) (by omega) (by omega) (by omega)) 1
  refine ⟨⟨by rw [e0]; exact a1, by rw [e0]; exact a2, g8, by omega⟩, ⟨b1, b2, by rw [b7, a9 167 (by decide)]; exact m3, g8, by omega⟩, by rw [e0]; exact a3, b3, by rw [b4, e0, a4], by rw [b5, e0, a5], by rw [b10 1 (by decide) (by decide) (by decide) (by decide)]; exact a6, b6, by decide, fun k hk => absurd hk (Nat.not_lt_zero k), fun i hi => ?_, fun i hi => ?_, fun j hj => ?_⟩
  · rw [eW i (by omega), eD i (by omega)]; exact b8 i hi
  · rw [eW i (by omega), eD i (by omega)]; exact b9 i hi
  · rw [b10 172 (by decide) (by decide) (by decide) (by decide), b10 166 (by decide) (by decide) (by decide) (by decide), a9 172 (by decide), a9 166 (by decide)]; exact cs j hj
theorem LR_0 : LR F8 0 0 0 0 := ⟨⟨rfl, rfl, by decide, by decide⟩, ⟨rfl, rfl, rfl, by decide, by decide⟩, rfl, rfl, rfl, rfl, rfl, rfl, by decide, fun k hk => absurd hk (Nat.not_lt_zero k), fun i hi => absurd hi (Nat.not_lt_zero i), fun i hi => absurd hi (Nat.not_lt_zero i), fun _ _ => rfl⟩
