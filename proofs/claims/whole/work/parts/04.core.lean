/-! THE STATE OF THE SYSTEM. Every cell that the run makes has a number (0 .. 173, in the order in which the constructors make them) and lies at base + number; a state is: how many cells there are, what int places hold, what the long row holds, which cell a reference names. -/
abbrev Sg : Type := Nat × (Nat → Nat → Int32) × (Nat → Int64) × (Nat → Nat → Option Nat)
abbrev Gl : Type := Nat × (Nat → ClassId) × (Nat → Nat → Nat) × (Nat → ClassId) × (Nat → Nat)
def gb (g : Gl) : Nat := g.1
def gD (g : Gl) : va_G := (g.2.1, g.2.2.1)
def gc (g : Gl) : Nat → ClassId := g.2.2.2.1
def ga (g : Gl) : Nat → Nat := g.2.2.2.2
/-- where the cell of that number lies; numbers from 1000 on: cells that were there before (texts, the script) -/
def rel (g : Gl) (k : Nat) : Nat := if k < 1000 then gb g + k else ga g k
def rv (g : Gl) (v : Value) : Value := match v with
  | .ref k => .ref (rel g k)
  | w => w
theorem rv_cat (g : Gl) (v : Value) : (rv g v).category = v.category := by cases v <;> rfl
/-- of what kind a cell is: 0 .. 8 an object of that class, 9 bytes, 10 ints, 11 longs, 12 lines, 13 steps -/
def sh (k : Nat) : Nat :=
  if k = 0 then 7 else if k = 1 then 5 else if k = 2 then 9 else if k = 3 then 3 else if k = 4 then 12 else if k = 5 then 13 else if k = 6 then 6 else if k < 10 then 10
  else if k < 26 then (if k % 2 = 0 then 2 else 10) else if k < 98 then (if k % 3 = 2 then 4 else if k % 3 = 0 then 2 else 10)
  else if k = 98 then 1 else if k = 99 then 0 else if k = 100 then 12 else if k < 165 then (if k % 2 = 1 then 2 else 10) else if k = 165 then 11 else if k = 166 then 10 else if k = 167 then 8 else 10
/-- how many places a row has -/
def ln (k : Nat) : Nat :=
  if k = 2 then 400 else if k = 4 then 8 else if k = 5 then 24 else if k < 10 then 401 else if k = 100 then 32 else if k < 165 then 6 else if k = 165 then 8 else if k = 166 then 6
  else if k = 168 then 400 else if k = 169 then 231 else if k = 170 then 56 else if k = 171 then 240 else if k = 172 then 6 else 5
def wR (g : Gl) (S : Sg) (k j : Nat) : Value := va_rf ((S.2.2.2 k j).map (rel g))
def wI (S : Sg) (k j : Nat) : Value := .int (S.2.1 k j)
/-- what lies in the cell of that number -/
def wE (g : Gl) (S : Sg) (k : Nat) : va_E := match sh k with
  | 0 => .inr (0, [wI S k 0, wI S k 1, wI S k 2, wI S k 3])
  | 1 => .inr (1, [wI S k 0, wI S k 1, wI S k 2])
  | 2 => .inr (2, [wR g S k 0, wI S k 1])
  | 3 => .inr (3, [wR g S k 0, wR g S k 1, wR g S k 2])
  | 4 => .inr (4, [wI S k 0, wI S k 1, wI S k 2, wR g S k 3])
  | 5 => .inr (5, [wR g S k 0, wI S k 1])
  | 6 => .inr (6, [wR g S k 0, wR g S k 1, wR g S k 2, wI S k 3, wI S k 4])
  | 7 => .inr (7, [wR g S k 0, wR g S k 1, wR g S k 2, wR g S k 3, wR g S k 4, wR g S k 5, wR g S k 6, wI S k 7, wI S k 8, wI S k 9, wI S k 10, wI S k 11])
  | 8 => .inr (8, [wI S k 0, wR g S k 1, wI S k 2, wI S k 3, wI S k 4, wI S k 5, wI S k 6, wI S k 7, wR g S k 8, wI S k 9, wI S k 10, wI S k 11, wI S k 12, wI S k 13, wR g S k 14, wR g S k 15, wI S k 16, wI S k 17, wR g S k 18, wR g S k 19])
  | 9 => .inl (gc g 0, ln k, .inl (S.2.1 k))
  | 10 => .inl (gc g 1, ln k, .inl (S.2.1 k))
  | 11 => .inl (gc g 2, ln k, .inr (.inl S.2.2.1))
  | 12 => .inl (gc g 3, ln k, .inr (.inr (.inr (.inr (fun j => (S.2.2.2 k j).map (rel g))))))
  | _ => .inl (gc g 4, ln k, .inr (.inr (.inr (.inr (fun j => (S.2.2.2 k j).map (rel g))))))
/-- the heap holds the state -/
def Wd (g : Gl) (S : Sg) (H : Heap) : Prop := H.size = gb g + S.1 ∧ S.1 ≤ 174 ∧ ∀ k, k < S.1 → va_at (gD g) vwCl (gb g + k, wE g S k) H
def tysG (g : Gl) : List (ClassId × FieldType) := [(gc g 0, .byte), (gc g 1, .int), (gc g 2, .long), (gc g 3, .object RX2), (gc g 4, .object RX4)]
def ourA (g : Gl) : Nat → Prop := fun q => gb g ≤ q
/-- the eight texts: where each stands in the pool of Tokens, what it is -/
def sx_at (i : Nat) : Nat := [62, 70, 72, 74, 76, 78, 80, 82].getD i 0
def sx_tx (i : Nat) : String := ["add", "times", "cut", "trim", "drop", "so", "not", "claim"].getD i ""
def sx_by : List (List Int32) := [[97, 100, 100], [116, 105, 109, 101, 115], [99, 117, 116], [116, 114, 105, 109], [100, 114, 111, 112], [115, 111], [110, 111, 116], [99, 108, 97, 105, 109]]
def sx_ln : List Nat := [3, 5, 3, 4, 4, 2, 3, 5]
/-- calls of a nest mate's constructor, by name: they are no words that a list carries -/
def nests : List (String × Nat × MethodName) := [(RX7, 9, yX5_init), (RX3, 25, yX6_init), (RX3, 30, yX2_init), (RX3, 31, yX4_init), (RX4, 9, yX2_init), (RX7, 25, yX1_init), (RX7, 32, yX0_init), (RX7, 43, yX2_init)]
def Kn (U : State) : Prop := (∀ q ∈ nests, va_Nw (.methodLinkNest q.1 q.2.1 q.2.2 "TruthSums") U) ∧ va_AO RX2 U ∧ va_AO RX4 U
/-- a static that holds nothing or some object: it is handed on, never looked at -/
def Fm (g : Gl) (U : State) : Prop := va_Z "jdk/internal/util/Preconditions" "SIOOBE_FORMATTER" "Ljava/util/function/BiFunction;" .null (ourA g) U U.heap ∨ va_Z "jdk/internal/util/Preconditions" "SIOOBE_FORMATTER" "Ljava/util/function/BiFunction;" (.ref (ga g 1200)) (ourA g) U U.heap
/-- what was there before and stays: classes, texts, statics -/
def Ks (g : Gl) (U : State) : Prop := Kn U ∧ vk_S 8 sx_ln sx_by (fun i => ga g (1000 + i)) (fun i => ga g (1100 + i)) (ourA g) U U.heap ∧ (∀ i, i < 8 → vk_R RX6 (sx_at i) (sx_tx i) (ga g (1000 + i)) U) ∧ va_Z "java/lang/String" "COMPACT_STRINGS" "Z" (.int 1) (ourA g) U U.heap ∧ Fm g U
def Kg (g : Gl) (U : State) : Prop := va_K (gD g) vwCl (tysG g) U ∧ Ks g U
theorem Kg.same {g : Gl} {u U : State} (h : Kg g u) (hv : U.vm = u.vm) (hh : U.heap = u.heap) : Kg g U := by
  have ha : u.vm.Alike U.vm := by rw [hv]; exact Vm.Alike.refl _
  refine ⟨va_K.moved ha h.1, ⟨fun q hq => va_Nw.same rfl hv.symm (h.2.1.1 q hq), va_AO.moved ha h.2.1.2.1, va_AO.moved ha h.2.1.2.2⟩, ?_, fun i hi => vk_R.same hv (h.2.2.2.1 i hi), ?_, ?_⟩
  · rw [hh]; exact vk_S.moved ha h.2.2.1
  · rw [hh]; exact va_Z.moved ha h.2.2.2.2.1
  · unfold Fm; rw [hh]; exact h.2.2.2.2.2.elim (fun q => Or.inl (va_Z.moved ha q)) (fun q => Or.inr (va_Z.moved ha q))
theorem Kg.next {g : Gl} {s U : State} {H : Heap} {locs : List Loc} (h : Kg g s) (hW : s.WarmedH U.vm) (hU : U.heap = H) (hS : va_S (ourA g) s.heap H locs) : Kg g U := by
  refine ⟨va_K.moved hW.alike h.1, ⟨fun q hq => va_Nw.warmM hW (h.2.1.1 q hq), va_AO.moved hW.alike h.2.1.2.1, va_AO.moved hW.alike h.2.1.2.2⟩, ?_, fun i hi => vk_R.warm hW (h.2.2.2.1 i hi), ?_, ?_⟩
  · rw [hU]; exact vk_S.kept (vk_S.moved hW.alike h.2.2.1) hS.2.1
  · rw [hU]; exact va_Z.kept (va_Z.moved hW.alike h.2.2.2.2.1) hS.2.1
  · unfold Fm; rw [hU]; exact h.2.2.2.2.2.elim (fun q => Or.inl (va_Z.kept (va_Z.moved hW.alike q) hS.2.1)) (fun q => Or.inr (va_Z.kept (va_Z.moved hW.alike q) hS.2.1))
/-! THE LOCALS, by their places -/
def lg : List (Option Value) → Nat → Option Value
  | [], _ => none
  | x :: _, 0 => x
  | _ :: t, i + 1 => lg t i
def lk (x : Option Value) : Option Value := match x with
  | some (.long _) => none
  | some (.double _) => none
  | y => y
def ls1 : List (Option Value) → Nat → Value → List (Option Value)
  | [], _, _ => []
  | _ :: t, 0, v => some v :: t
  | x :: t, 1, v => lk x :: ls1 t 0 v
  | x :: t, i + 2, v => x :: ls1 t (i + 1) v
def ls2 : List (Option Value) → Nat → Value → List (Option Value)
  | [], _, _ => []
  | [_], 0, v => [some v]
  | _ :: _ :: t, 0, v => some v :: none :: t
  | x :: t, 1, v => lk x :: ls2 t 0 v
  | x :: t, i + 2, v => x :: ls2 t (i + 1) v
theorem lk_some {x : Option Value} {w : Value} (h : lk x = some w) : x = some w ∧ ¬ w.category = 2 := by
  cases x with
  | none => simp [lk] at h
  | some v => cases v <;> simp [lk] at h <;> subst h <;> simp [Value.category]
theorem ls1_get : ∀ (L : List (Option Value)) (i : Nat) (v : Value) (j : Nat) (w : Value), lg (ls1 L i v) j = some w → (j = i ∧ w = v) ∨ (lg L j = some w ∧ j ≠ i ∧ ¬ (j + 1 = i ∧ w.category = 2))
  | [], i, v, j, w, h => by simp [ls1, lg] at h
  | x :: t, 0, v, 0, w, h => by simp [ls1, lg] at h; exact Or.inl ⟨rfl, h.symm⟩
  | x :: t, 0, v, j + 1, w, h => by simp [ls1, lg] at h; exact Or.inr ⟨by simpa [lg] using h, by omega, by omega⟩
  | x :: t, 1, v, 0, w, h => by
    simp [ls1, lg] at h
    have := lk_some h
    exact Or.inr ⟨by simpa [lg] using this.1, by omega, fun q => this.2 q.2⟩
  | x :: t, 1, v, j + 1, w, h => by
    simp [ls1, lg] at h
    rcases ls1_get t 0 v j w h with ⟨a, b⟩ | ⟨a, b, c⟩
    · exact Or.inl ⟨by omega, b⟩
    · exact Or.inr ⟨by simpa [lg] using a, by omega, by omega⟩
  | x :: t, i + 2, v, 0, w, h => by
    simp [ls1, lg] at h
    exact Or.inr ⟨by simpa [lg] using h, by omega, by omega⟩
  | x :: t, i + 2, v, j + 1, w, h => by
    simp [ls1, lg] at h
    rcases ls1_get t (i + 1) v j w h with ⟨a, b⟩ | ⟨a, b, c⟩
    · exact Or.inl ⟨by omega, b⟩
    · exact Or.inr ⟨by simpa [lg] using a, by omega, fun q => c ⟨by omega, q.2⟩⟩
theorem ls2_get : ∀ (L : List (Option Value)) (i : Nat) (v : Value) (j : Nat) (w : Value), lg (ls2 L i v) j = some w → (j = i ∧ w = v) ∨ (lg L j = some w ∧ j ≠ i ∧ j ≠ i + 1 ∧ ¬ (j + 1 = i ∧ w.category = 2))
  | [], i, v, j, w, h => by simp [ls2, lg] at h
  | [x], 0, v, 0, w, h => by simp [ls2, lg] at h; exact Or.inl ⟨rfl, h.symm⟩
  | [x], 0, v, j + 1, w, h => by simp [ls2, lg] at h
  | x :: y :: t, 0, v, 0, w, h => by simp [ls2, lg] at h; exact Or.inl ⟨rfl, h.symm⟩
  | x :: y :: t, 0, v, 1, w, h => by simp [ls2, lg] at h
  | x :: y :: t, 0, v, j + 2, w, h => by simp [ls2, lg] at h; exact Or.inr ⟨by simpa [lg] using h, by omega, by omega, by omega⟩
  | x :: t, 1, v, 0, w, h => by
    simp [ls2, lg] at h
    have := lk_some h
    exact Or.inr ⟨by simpa [lg] using this.1, by omega, by omega, fun q => this.2 q.2⟩
  | x :: t, 1, v, j + 1, w, h => by
    simp [ls2, lg] at h
    rcases ls2_get t 0 v j w h with ⟨a, b⟩ | ⟨a, b, c, d⟩
    · exact Or.inl ⟨by omega, b⟩
    · exact Or.inr ⟨by simpa [lg] using a, by omega, by omega, by omega⟩
  | x :: t, i + 2, v, 0, w, h => by
    simp [ls2, lg] at h
    exact Or.inr ⟨by simpa [lg] using h, by omega, by omega, by omega⟩
  | x :: t, i + 2, v, j + 1, w, h => by
    simp [ls2, lg] at h
    rcases ls2_get t (i + 1) v j w h with ⟨a, b⟩ | ⟨a, b, c, d⟩
    · exact Or.inl ⟨by omega, b⟩
    · exact Or.inr ⟨by simpa [lg] using a, by omega, by omega, fun q => d ⟨by omega, q.2⟩⟩
def lvh (g : Gl) (ls : Array Slot) (nL : Nat) (L : List (Option Value)) : Prop := ls.size = nL ∧ lv_wf ls ∧ ∀ (j : Nat) (w : Value), lg L j = some w → ls[j]? = some (.val (rv g w))
def prs (g : Gl) (L : List (Option Value)) : List (Nat × Value) := (List.range L.length).filterMap (fun j => (lg L j).map (fun w => (j, rv g w)))
theorem lg_lt : ∀ (L : List (Option Value)) (j : Nat) (w : Value), lg L j = some w → j < L.length
  | [], j, w, h => by simp [lg] at h
  | x :: t, 0, w, h => by simp
  | x :: t, j + 1, w, h => by
    have := lg_lt t j w (by simpa [lg] using h)
    simp only [List.length_cons]; omega
theorem prs_in {g : Gl} {L : List (Option Value)} {j : Nat} {w : Value} (h : lg L j = some w) : (j, rv g w) ∈ prs g L :=
  List.mem_filterMap.mpr ⟨j, List.mem_range.mpr (lg_lt L j w h), by rw [h]; rfl⟩
theorem lvh.has {g : Gl} {ls : Array Slot} {nL : Nat} {L : List (Option Value)} (h : lvh g ls nL L) : lv_has ls nL (prs g L) := by
  refine ⟨h.1, h.2.1, fun q hq => ?_⟩
  obtain ⟨j, -, hj⟩ := List.mem_filterMap.mp hq
  cases hw : lg L j with
  | none => rw [hw] at hj; cases hj
  | some w => rw [hw] at hj; cases hj; exact h.2.2 j w hw
theorem lvh.st1 {g : Gl} {ls : Array Slot} {nL i : Nat} {v : Value} {L : List (Option Value)} (h : lv_has ls nL ((i, rv g v) :: (prs g L).filter (fun q => !(q.1 == i) && !(q.1 + 1 == i && q.2.category == 2)))) : lvh g ls nL (ls1 L i v) := by
  refine ⟨h.1, h.2.1, fun j w hj => ?_⟩
  rcases ls1_get L i v j w hj with ⟨rfl, rfl⟩ | ⟨a, b, c⟩
  · exact h.2.2 _ List.mem_cons_self
  · refine h.2.2 (j, rv g w) (List.mem_cons_of_mem _ (List.mem_filter.mpr ⟨prs_in a, ?_⟩))
    simp only [Bool.and_eq_true, Bool.not_eq_true', beq_eq_false_iff_ne, ne_eq, Bool.and_eq_false_iff, rv_cat]
    refine ⟨b, ?_⟩
    by_cases e : j + 1 = i
    · exact Or.inr (fun z => c ⟨e, z⟩)
    · exact Or.inl e
theorem lvh.st2 {g : Gl} {ls : Array Slot} {nL i : Nat} {v : Value} {L : List (Option Value)} (h : lv_has ls nL ((i, rv g v) :: (prs g L).filter (fun q => !(q.1 == i) && (!(q.1 == i + 1) && !(q.1 + 1 == i && q.2.category == 2))))) : lvh g ls nL (ls2 L i v) := by
  refine ⟨h.1, h.2.1, fun j w hj => ?_⟩
  rcases ls2_get L i v j w hj with ⟨rfl, rfl⟩ | ⟨a, b, b2, c⟩
  · exact h.2.2 _ List.mem_cons_self
  · refine h.2.2 (j, rv g w) (List.mem_cons_of_mem _ (List.mem_filter.mpr ⟨prs_in a, ?_⟩))
    simp only [Bool.and_eq_true, Bool.not_eq_true', beq_eq_false_iff_ne, ne_eq, Bool.and_eq_false_iff, rv_cat]
    refine ⟨b, b2, ?_⟩
    by_cases e : j + 1 = i
    · exact Or.inr (fun z => c ⟨e, z⟩)
    · exact Or.inl e
/-- the locals with which a method begins -/
def enp : List Value → Nat → List (Option Value)
  | [], n => List.replicate n none
  | .long x :: t, n => some (.long x) :: none :: enp t (n - 2)
  | .double x :: t, n => some (.double x) :: none :: enp t (n - 2)
  | v :: t, n => some v :: enp t (n - 1)
theorem lg_rep : ∀ (n j : Nat), lg (List.replicate n none) j = none
  | 0, j => rfl
  | n + 1, 0 => rfl
  | n + 1, j + 1 => by simpa [List.replicate, lg] using lg_rep n j
theorem enp_in (g : Gl) : ∀ (av : List Value) (n i j : Nat) (w : Value), lg (enp av n) j = some w → (i + j, rv g w) ∈ lv_args i (av.map (rv g)) := by
  intro av
  induction av with
  | nil => intro n i j w h; rw [enp, lg_rep] at h; cases h
  | cons v t ih =>
    have one : ∀ (u : Value) (n i j : Nat) (w : Value), u.category = 1 → lg (some u :: enp t (n - 1)) j = some w → (i + j, rv g w) ∈ lv_args i ((u :: t).map (rv g)) := by
      intro u n i j w hc h
      rw [List.map_cons, lv_args, rv_cat, if_neg (by omega)]
      cases j with
      | zero => simp only [lg, Option.some.injEq] at h; subst h; exact List.mem_cons_self
      | succ j =>
        have := ih (n - 1) (i + 1) j w (by simpa [lg] using h)
        rw [show i + (j + 1) = i + 1 + j by omega]
        exact List.mem_cons_of_mem _ this
    have two : ∀ (u : Value) (n i j : Nat) (w : Value), u.category = 2 → lg (some u :: none :: enp t (n - 2)) j = some w → (i + j, rv g w) ∈ lv_args i ((u :: t).map (rv g)) := by
      intro u n i j w hc h
      rw [List.map_cons, lv_args, rv_cat, if_pos hc]
      match j, h with
      | 0, h => simp only [lg, Option.some.injEq] at h; subst h; exact List.mem_cons_self
      | 1, h => simp [lg] at h
      | j + 2, h =>
        have := ih (n - 2) (i + 2) j w (by simpa [lg] using h)
        rw [show i + (j + 2) = i + 2 + j by omega]
        exact List.mem_cons_of_mem _ this
    intro n i j w h
    cases v with
    | long x => exact two _ n i j w rfl h
    | double x => exact two _ n i j w rfl h
    | _ => exact one _ n i j w rfl h
/-- the words that go from method to method -/
def lw_g : List Cond := lw_tbl.filter goodWord
theorem mem_g {w : Cond} (h : w ∈ lw_tbl) (hg : goodWord w = true) : w ∈ lw_g := List.mem_filter.mpr ⟨h, hg⟩
/-! THE JUDGEMENT: from this place of the method's code, with these locals, this stack, this state, the machine comes to its end -/
def Cx (g : Gl) (own : String) (cc : ByteArray) (nL : Nat) (ret : Option FieldType) (p : Program) (s : State) (m : MethodId) (args : Array Value) (meth : Method) (c : Code) : Prop :=
  p.tables.exec = Jvm.exec ∧ c.code = cc ∧ c.maxLocals = nL ∧ meth.sig.returnType = ret ∧ s.vm.findClass own = some m.cls ∧ meth.locks = false ∧ (∀ w ∈ lw_g, w.before args s = true) ∧ Kg g s ∧ gb g ≤ s.heap.size
def Gj (g : Gl) (l : Launch) (R : Room) (XX : State → Method → Prop) (QQ : List Frame → Array Value → State → State → Prop) (own : String) (cc : ByteArray) (nL : Nat) (ret : Option FieldType) (pc : Nat) (L : List (Option Value)) (st : List Value) (S : Sg) (c1 s1 : Nat) : Prop :=
  ∀ (p : Program) (e : Env) (s : State) (m : MethodId) (args : Array Value) (below : List Frame) (meth : Method) (c : Code) (H : Heap) (locs : List Loc) (ls : Array Slot), Cx g own cc nL ret p s m args meth c → XX s meth → Wd g S H → va_S (ourA g) s.heap H locs → lvh g ls nL L → W p l e R s m args below meth c H locs c1 s1 (QQ below args s) (F0 m pc ls (st.map (rv g)))
/-- what a method says at its end -/
def QcZ (g : Gl) (Z : Option Value → Sg → Prop) : Array Value → State → Outcome → State → Prop := fun _ st o t => (∃ (r : Option Value) (S : Sg), o = .returned (r.map (rv g)) ∧ Z r S ∧ Wd g S t.heap) ∧ va_F (ourA g) st t
abbrev QM (g : Gl) (Z : Option Value → Sg → Prop) (mc ms : Nat) : List Frame → Array Value → State → State → Prop := fun below args s => MQ below (QcZ g Z) args s mc ms (ourA g)
abbrev rmd (d mc ms : Nat) : Room := { frames := d, cells := mc, slots := ms, locals := 37 * d }
/-- a method's contract at these arguments and this state -/
def Ct (g : Gl) (l : Launch) (y : MethodName) (cc : ByteArray) (nL : Nat) (ret : Option FieldType) (d mc ms : Nat) (av : List Value) (S : Sg) (Z : Option Value → Sg → Prop) : Prop :=
  Met l y (Cond.code y cc nL ret :: lw_g) (rmd d mc ms) (va_Pc (av.map (rv g)) (fun U => Wd g S U.heap ∧ Kg g U)) (QcZ g Z) mc ms (ourA g)
theorem Ct.of {g : Gl} {l : Launch} {y : MethodName} {own : String} {cc : ByteArray} {nL : Nat} {ret : Option FieldType} {d mc ms : Nat} {av : List Value} {S : Sg} {Z : Option Value → Sg → Prop} {L : List (Option Value)} (ho : y.cls = own) (hy : plainName y.cls = true) (hL : enp av nL = L) (hn : (lg_sl (av.map (rv g))).length ≤ nL)
    (h : Gj g l (rmd d mc ms) (fun _ M => M.name = y.name) (QM g Z mc ms) own cc nL ret 0 L [] S 0 0) : Ct g l y cc nL ret d mc ms av S Z := by
  subst ho
  refine Met.ofW (cc := cc) (maxL := nL) (ret := ret) hy rfl ?_
  intro p e s m args below meth c s₁ B hml hv
  obtain ⟨rfl, hW, hK⟩ := hv
  have hts := atoms_spec (ws := Cond.code y cc nL ret :: lw_g) B.pre
  have hown : s.vm.findClass y.cls = some m.cls := findClass_of_methodNamed B.named
  have hl := lv_entry (av.map (rv g)) (n := nL) hn
  rw [lg_entry_eq]
  refine h p e s m _ below meth c s.heap [] _ ⟨B.exec, B.bytes, hml, B.returns, hown, B.notSynchronized, fun w hw => hts w (List.mem_cons_of_mem _ hw), hK, by rw [hW.1]; exact Nat.le_add_right _ _⟩ (name_of_methodNamed B.named B.method).1 hW va_S.rf ⟨hl.1, hl.2.1, fun j w hj => ?_⟩
  have := enp_in g av nL 0 j w (by rw [hL]; exact hj)
  rw [Nat.zero_add] at this
  exact hl.2.2 _ this
