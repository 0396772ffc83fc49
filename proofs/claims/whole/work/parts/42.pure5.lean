/-! what class and reference compute is the same (5): the line that fits a table -/
def sm9 (a : Int32) : Prop := ∃ k, k < 9 ∧ a = nI k - 4
theorem part_1 : ∀ k, k < 9 → max32 (nI k - 4) 0 = w1m (nI k - 4) 1 ∧ max32 (-(nI k - 4)) 0 = w1m (nI k - 4) 0 ∧ 0 ≤ (w1m (nI k - 4) 1).toInt ∧ (w1m (nI k - 4) 1).toInt ≤ 4 ∧ 0 ≤ (w1m (nI k - 4) 0).toInt ∧ (w1m (nI k - 4) 0).toInt ≤ 4 := by decide +kernel
theorem w1m_0 (a : Int32) {s : Int32} (h : ¬ s = 1) : w1m a s = w1m a 0 := by
  unfold w1m
  have d : ¬ (0 : Int32) = 1 := by decide
  by_cases z : a ≤ 0
  · rw [if_pos z, if_pos z, if_neg h, if_neg d]
  · rw [if_neg z, if_neg z, if_neg h, if_neg d]
theorem part_e {a : Int32} (h : sm9 a) (s : Int32) : part a s = w1m a s ∧ 0 ≤ (w1m a s).toInt ∧ (w1m a s).toInt ≤ 4 := by
  obtain ⟨k, hk, rfl⟩ := h
  obtain ⟨p1, p2, p3, p4, p5, p6⟩ := part_1 k hk
  unfold part
  by_cases z : s = 1
  · rw [if_pos z, z]; exact ⟨p1, p3, p4⟩
  · rw [if_neg z, w1m_0 _ z]; exact ⟨p2, p5, p6⟩
theorem wg_e {a b c : Int32} (ha : sm9 a) (hb : sm9 b) (hc : sm9 c) (i : Nat) : wg3 a b c i = wm3 a b c (nI i) ∧ 0 ≤ (wm3 a b c (nI i)).toInt ∧ (wm3 a b c (nI i)).toInt ≤ 12 := by
  obtain ⟨a1, a2, a3⟩ := part_e ha (nI i &&& 1)
  obtain ⟨b1, b2, b3⟩ := part_e hb (nI i >>> ((1 : Int32) &&& 31) &&& 1)
  obtain ⟨c1, c2, c3⟩ := part_e hc (nI i >>> ((2 : Int32) &&& 31))
  unfold wg3 wm3
  rw [a1, b1, c1]
  have e := add_in (x := w1m a (nI i &&& 1)) (y := w1m b (nI i >>> ((1 : Int32) &&& 31) &&& 1)) (by omega) (by omega)
  refine ⟨rfl, ?_⟩
  rw [add_in (by omega) (by omega), e]; omega
theorem fl_e {t a b c : Int32} (ha : sm9 a) (hb : sm9 b) (hc : sm9 c) : ∀ i, i ≤ 8 → ((flo t a b c i).1 ≤ (flo t a b c i).2 ∧ (fbM t a b c i).1 ≤ (fbM t a b c i).2) ∨ ((flo t a b c i).2 = (fbM t a b c i).2 ∧ -1 ≤ (fbM t a b c i).2.toInt ∧ (fbM t a b c i).2.toInt ≤ 12 ∧ (((flo t a b c i).1 = (fbM t a b c i).1 ∧ (fbM t a b c i).1.toInt ≤ 12) ∨ ((flo t a b c i).1 = 13 ∧ (fbM t a b c i).1 = 99 ∧ ∀ j, j < i → bt t j = 0)))
  | 0, _ => Or.inr ⟨rfl, show -1 ≤ (-1 : Int32).toInt by decide, show (-1 : Int32).toInt ≤ 12 by decide, Or.inr ⟨rfl, rfl, fun j hj => absurd hj (Nat.not_lt_zero j)⟩⟩
  | i + 1, hi => by
    obtain ⟨e, u0, u1⟩ := wg_e ha hb hc i
    have ih := fl_e (t := t) ha hb hc i (by omega)
    rw [flo, fbM, e]
    generalize wm3 a b c (nI i) = u at *
    generalize flo t a b c i = f at *
    generalize fbM t a b c i = m at *
    obtain ⟨x, y⟩ := f
    obtain ⟨p, q⟩ := m
    have big : (13 : Int32).toInt = 13 := rfl
    have e99 : (99 : Int32).toInt = 99 := rfl
    have mono : p ≤ q → ((if bt t i = 1 then ((if p ≤ u then p else u), q) else (p, if u ≤ q then q else u) : Int32 × Int32)).1 ≤ ((if bt t i = 1 then ((if p ≤ u then p else u), q) else (p, if u ≤ q then q else u) : Int32 × Int32)).2 := fun h => by
      rw [Int32.le_iff_toInt_le] at h
      by_cases z : bt t i = 1
      · rw [if_pos z]; dsimp only
        by_cases r : p ≤ u
        · rw [if_pos r, Int32.le_iff_toInt_le]; exact h
        · rw [if_neg r, Int32.le_iff_toInt_le]; rw [Int32.le_iff_toInt_le] at r; omega
      · rw [if_neg z]; dsimp only
        by_cases r : u ≤ q
        · rw [if_pos r, Int32.le_iff_toInt_le]; exact h
        · rw [if_neg r, Int32.le_iff_toInt_le]; rw [Int32.le_iff_toInt_le] at r; omega
    dsimp only at ih ⊢
    by_cases hxy : x ≤ y
    · rw [if_pos hxy]
      rcases ih with ⟨h1, h2⟩ | ⟨h1, h2, h3, ⟨h4, h5⟩ | ⟨h4, h5, h6⟩⟩
      · exact Or.inl ⟨hxy, mono h2⟩
      · exact Or.inl ⟨hxy, mono (by rw [← h4, ← h1]; exact hxy)⟩
      · rw [h4, h1, Int32.le_iff_toInt_le] at hxy; omega
    · rw [if_neg hxy]
      rcases ih with ⟨h1, h2⟩ | ⟨h1, h2, h3, h4⟩
      · exact absurd h1 hxy
      · subst h1
        refine Or.inr ?_
        by_cases z : bt t i = 1
        · rw [if_pos (show t >>> (nI i &&& 31) &&& 1 = 1 from z), if_pos z]
          dsimp only
          refine ⟨rfl, h2, h3, Or.inl ?_⟩
          rcases h4 with ⟨h4, h5⟩ | ⟨h4, h5, h6⟩
          · subst h4
            unfold min32
            by_cases r : x ≤ u
            · rw [if_pos r, if_neg (Int32.not_lt.mpr r)]; exact ⟨rfl, h5⟩
            · rw [if_neg r, if_pos (Int32.not_le.mp r)]; exact ⟨rfl, u1⟩
          · subst h4; subst h5
            unfold min32
            rw [if_pos (by rw [Int32.lt_iff_toInt_lt]; omega), if_neg (by rw [Int32.le_iff_toInt_le]; omega)]
            exact ⟨rfl, u1⟩
        · have z0 : bt t i = 0 := (bt01 t (by omega)).resolve_right z
          rw [if_neg (show ¬ t >>> (nI i &&& 31) &&& 1 = 1 from z), if_neg z]
          dsimp only
          have em : max32 y u = if u ≤ y then y else u := by
            unfold max32
            by_cases r : u ≤ y
            · rw [if_pos r]
              by_cases s : y < u
              · exact absurd r (Int32.not_le.mpr s)
              · rw [if_neg s]
            · rw [if_neg r, if_pos (Int32.not_le.mp r)]
          refine ⟨em, ?_, ?_, ?_⟩
          · split
            · exact h2
            · omega
          · split
            · exact h3
            · exact u1
          · rcases h4 with ⟨h4, h5⟩ | ⟨h4, h5, h6⟩
            · exact Or.inl ⟨h4, h5⟩
            · refine Or.inr ⟨h4, h5, fun j hj => ?_⟩
              by_cases r : j = i
              · rw [r]; exact z0
              · exact h6 j (by omega)
theorem some_bit : ∀ t, t < 256 → 0 < t → ∃ j, j < 8 ∧ bt (nI t) j = 1 := by decide +kernel
theorem try_e {t : Nat} (h0 : 0 < t) (h1 : t < 256) {a b c : Int32} (ha : sm9 a) (hb : sm9 b) (hc : sm9 c) : tryF (nI t) a b c = if (fbM (nI t) a b c 8).1 ≤ (fbM (nI t) a b c 8).2 then none else some (a, b, c, (fbM (nI t) a b c 8).1) := by
  unfold tryF
  rcases fl_e (t := nI t) ha hb hc 8 (Nat.le_refl 8) with ⟨x, y⟩ | ⟨x, -, -, ⟨y, -⟩ | ⟨-, -, y⟩⟩
  · rw [if_pos x, if_pos y]
  · rw [x, y]
  · obtain ⟨j, hj, e⟩ := some_bit t h1 h0
    rw [y j hj] at e; exact absurd e (by decide)
theorem sm_abc : ∀ n, n < 729 → (∃ k, k < 9 ∧ aN n = nI k - 4) ∧ (∃ k, k < 9 ∧ bN n = nI k - 4) ∧ (∃ k, k < 9 ∧ cN n = nI k - 4) := by
  intro n hn
  have d : ∀ i, i < 9 → ∀ j, j < 9 → ∀ k, k < 9 → aN (81 * i + 9 * j + k) = nI i - 4 ∧ bN (81 * i + 9 * j + k) = nI j - 4 ∧ cN (81 * i + 9 * j + k) = nI k - 4 := by decide +kernel
  have e : n = 81 * (n / 81) + 9 * (n % 81 / 9) + n % 9 := by omega
  obtain ⟨x, y, z⟩ := d (n / 81) (by omega) (n % 81 / 9) (by omega) (n % 9) (by omega)
  rw [← e] at x y z
  exact ⟨⟨_, by omega, x⟩, ⟨_, by omega, y⟩, ⟨_, by omega, z⟩⟩
/-- the class's order of search, as numbers of the reference's -/
def ad4 (i : Nat) : Nat := if i ≤ 4 then 4 - i else i - 4
abbrev cBad (tog i j : Nat) : Prop := tog < ad4 i + ad4 j ∨ 4 < tog - (ad4 i + ad4 j)
def c1N (tog i j : Nat) : Nat := 81 * i + 9 * j + 4 - (tog - (ad4 i + ad4 j))
def c2N (tog i j : Nat) : Nat := 81 * i + 9 * j + 4 + (tog - (ad4 i + ad4 j))
def cnd (tog i j : Nat) : List Nat := if cBad tog i j then [] else [c1N tog i j, c2N tog i j]
def innL (tog i : Nat) : Nat → List Nat
  | 0 => []
  | n + 1 => cnd tog i (8 - n) ++ innL tog i n
def outL (tog : Nat) : Nat → List Nat
  | 0 => []
  | n + 1 => innL tog (8 - n) 9 ++ outL tog n
def srL : Nat → List Nat
  | 0 => []
  | n + 1 => outL (12 - n) 9 ++ srL n
def tryN (t : Int32) (n : Nat) : Option Q4 := tryF t (aN n) (bN n) (cN n)
def fstN (t : Int32) : List Nat → Option Q4
  | [] => none
  | n :: r => (tryN t n).or (fstN t r)
theorem fst_app (t : Int32) : ∀ (l m : List Nat), fstN t (l ++ m) = (fstN t l).or (fstN t m)
  | [], m => by simp [fstN]
  | n :: r, m => by
    show (tryN t n).or (fstN t (r ++ m)) = ((tryN t n).or (fstN t r)).or (fstN t m)
    rw [fst_app t r m, Option.or_assoc]
theorem cnd_o1 : ∀ tog, tog < 13 → ∀ i, i < 9 → ∀ j, j < 9 → ((thd (nI tog) i j < 0 ∨ 4 < thd (nI tog) i j) ↔ cBad tog i j) := by decide +kernel
def c1ok (tog i j : Nat) : Bool := decide (fI i = aN (c1N tog i j)) && decide (fI j = bN (c1N tog i j)) && decide (-(thd (nI tog) i j) = cN (c1N tog i j)) && (decide (fI i = aN (c2N tog i j)) && decide (fI j = bN (c2N tog i j)) && decide (thd (nI tog) i j = cN (c2N tog i j)))
theorem cnd_o2 : ∀ tog, tog < 13 → ∀ i, i < 9 → ∀ j, j < 9 → ¬ cBad tog i j → c1ok tog i j = true := by decide +kernel
theorem cnd_ok {tog : Nat} (ht : tog < 13) {i : Nat} (hi : i < 9) {j : Nat} (hj : j < 9) : ((thd (nI tog) i j < 0 ∨ 4 < thd (nI tog) i j) ↔ cBad tog i j) ∧ (¬ cBad tog i j → (fI i = aN (c1N tog i j) ∧ fI j = bN (c1N tog i j) ∧ -(thd (nI tog) i j) = cN (c1N tog i j)) ∧ (fI i = aN (c2N tog i j) ∧ fI j = bN (c2N tog i j) ∧ thd (nI tog) i j = cN (c2N tog i j))) := by
  refine ⟨cnd_o1 tog ht i hi j hj, fun h => ?_⟩
  have := cnd_o2 tog ht i hi j hj h
  simp only [c1ok, Bool.and_eq_true, decide_eq_true_eq] at this
  obtain ⟨⟨⟨a, b⟩, c⟩, ⟨d, e⟩, f⟩ := this
  exact ⟨⟨a, b, c⟩, d, e, f⟩
theorem trz_e (t : Int32) {tog i j : Nat} (ht : tog < 13) (hi : i < 9) (hj : j < 9) : trz t (nI tog) i j = fstN t (cnd tog i j) := by
  obtain ⟨h1, h2⟩ := cnd_ok ht hi hj
  unfold trz cnd
  by_cases c : cBad tog i j
  · rw [if_pos c, if_pos (h1.mpr c)]; rfl
  · rw [if_neg c, if_neg (fun z => c (h1.mp z))]
    obtain ⟨⟨a1, a2, a3⟩, b1, b2, b3⟩ := h2 c
    show _ = (tryN t (c1N tog i j)).or ((tryN t (c2N tog i j)).or none)
    unfold tryN
    rw [← a1, ← a2, ← a3, ← b1, ← b2, ← b3, Option.or_none]
theorem inn_e (t : Int32) {tog i : Nat} (ht : tog < 13) (hi : i < 9) : ∀ n, n ≤ 9 → inn t (nI tog) i n = fstN t (innL tog i n)
  | 0, _ => rfl
  | n + 1, h => by rw [inn, innL, fst_app, trz_e t ht hi (by omega), inn_e t ht hi n (by omega)]
theorem out_e (t : Int32) {tog : Nat} (ht : tog < 13) : ∀ n, n ≤ 9 → outr t (nI tog) n = fstN t (outL tog n)
  | 0, _ => rfl
  | n + 1, h => by rw [outr, outL, fst_app, inn_e t ht (by omega) 9 (Nat.le_refl 9), out_e t ht n (by omega)]
theorem srch_e (t : Int32) : ∀ n, n ≤ 13 → srch t n = fstN t (srL n)
  | 0, _ => rfl
  | n + 1, h => by rw [srch, srL, fst_app, out_e t (by omega) 9 (Nat.le_refl 9), srch_e t n (by omega)]
def keyN (n : Nat) : Nat := ad4 (n / 81) + ad4 (n % 81 / 9) + ad4 (n % 9)
def kkN (n : Nat) : Nat := 1000 * keyN n + n
def srt : List Nat → Bool
  | [] => true
  | a :: r => (match r with | [] => true | b :: _ => Nat.ble (kkN a) (kkN b)) && srt r
theorem srt_le : ∀ {a : Nat} {r : List Nat}, srt (a :: r) = true → ∀ m, m ∈ r → kkN a ≤ kkN m
  | a, [], _, m, hm => absurd hm (by simp)
  | a, b :: r, h, m, hm => by
    have h1 : (Nat.ble (kkN a) (kkN b) && srt (b :: r)) = true := h
    rw [Bool.and_eq_true] at h1
    have hab := Nat.le_of_ble_eq_true h1.1
    rcases List.mem_cons.mp hm with e | e
    · rw [e]; exact hab
    · exact Nat.le_trans hab (srt_le h1.2 m e)
theorem srt_tl {a : Nat} {r : List Nat} (h : srt (a :: r) = true) : srt r = true := by
  have h1 : (_ && srt r) = true := h
  rw [Bool.and_eq_true] at h1
  exact h1.2
theorem LL_srt : srt (srL 13) = true := by decide +kernel
theorem LL_lt : (srL 13).all (fun n => Nat.blt n 729) = true := by decide +kernel
theorem LL_mem : ∀ n, n < 729 → n ∈ srL 13 := by
  have c : ∀ i, i < 9 → ∀ j, j < 9 → ∀ k, k < 9 → 81 * i + 9 * j + k ∈ cnd (ad4 i + ad4 j + ad4 k) i j := by decide +kernel
  have m1 : ∀ tog i j x, j < 9 → x ∈ cnd tog i j → ∀ n, 8 - j < n → x ∈ innL tog i n := by
    intro tog i j x hj hx n
    induction n with
    | zero => intro h; omega
    | succ n ih =>
      intro h
      rw [innL, List.mem_append]
      by_cases e : 8 - n = j ∧ n ≤ 8
      · rw [e.1]; exact Or.inl hx
      · exact Or.inr (ih (by omega))
  have m2 : ∀ tog i x, i < 9 → x ∈ innL tog i 9 → ∀ n, 8 - i < n → x ∈ outL tog n := by
    intro tog i x hj hx n
    induction n with
    | zero => intro h; omega
    | succ n ih =>
      intro h
      rw [outL, List.mem_append]
      by_cases e : 8 - n = i ∧ n ≤ 8
      · rw [e.1]; exact Or.inl hx
      · exact Or.inr (ih (by omega))
  have m3 : ∀ tog x, tog < 13 → x ∈ outL tog 9 → ∀ n, 12 - tog < n → x ∈ srL n := by
    intro tog x hj hx n
    induction n with
    | zero => intro h; omega
    | succ n ih =>
      intro h
      rw [srL, List.mem_append]
      by_cases e : 12 - n = tog ∧ n ≤ 12
      · rw [e.1]; exact Or.inl hx
      · exact Or.inr (ih (by omega))
  intro n hn
  have e : n = 81 * (n / 81) + 9 * (n % 81 / 9) + n % 9 := by omega
  have hc := c (n / 81) (by omega) (n % 81 / 9) (by omega) (n % 9) (by omega)
  rw [← e] at hc
  have a4 : ∀ i, i < 9 → ad4 i ≤ 4 := by decide
  have x1 := a4 (n / 81) (by omega)
  have x2 := a4 (n % 81 / 9) (by omega)
  have x3 := a4 (n % 9) (by omega)
  exact m3 _ n (by omega) (m2 _ _ n (by omega) (m1 _ _ _ n (by omega) hc 9 (by omega)) 9 (by omega)) 13 (by omega)
theorem tryN_e {t : Nat} (h0 : 0 < t) (h1 : t < 256) {n : Nat} (hn : n < 729) : tryN (nI t) n = if (fbM (nI t) (aN n) (bN n) (cN n) 8).1 ≤ (fbM (nI t) (aN n) (bN n) (cN n) 8).2 then none else some (aN n, bN n, cN n, (fbM (nI t) (aN n) (bN n) (cN n) 8).1) := by
  obtain ⟨a, b, c⟩ := sm_abc n hn
  exact try_e h0 h1 a b c
theorem fst_min {t : Nat} (h0 : 0 < t) (h1 : t < 256) : ∀ {l : List Nat}, srt l = true → (∀ n, n ∈ l → n < 729) → (fstN (nI t) l = none ∧ ∀ m, m ∈ l → ¬ okN (nI t) m) ∨ ∃ n, n ∈ l ∧ okN (nI t) n ∧ fstN (nI t) l = some (aN n, bN n, cN n, (fbM (nI t) (aN n) (bN n) (cN n) 8).1) ∧ ∀ m, m ∈ l → okN (nI t) m → kkN n ≤ kkN m
  | [], _, _ => Or.inl ⟨rfl, fun m hm => absurd hm (by simp)⟩
  | a :: r, hs, hl => by
    have e := tryN_e h0 h1 (hl a (by simp))
    by_cases c : (fbM (nI t) (aN a) (bN a) (cN a) 8).1 ≤ (fbM (nI t) (aN a) (bN a) (cN a) 8).2
    · rw [if_pos c] at e
      have e2 : fstN (nI t) (a :: r) = fstN (nI t) r := by rw [fstN, e, Option.none_or]
      rw [e2]
      have na : ¬ okN (nI t) a := fun z => z c
      rcases fst_min h0 h1 (l := r) (srt_tl hs) (fun n hn => hl n (by simp [hn])) with ⟨x, y⟩ | ⟨n, x, y, z, w⟩
      · refine Or.inl ⟨x, fun m hm => ?_⟩
        rcases List.mem_cons.mp hm with q | q
        · rw [q]; exact na
        · exact y m q
      · refine Or.inr ⟨n, by simp [x], y, z, fun m hm ho => ?_⟩
        rcases List.mem_cons.mp hm with q | q
        · rw [q] at ho; exact absurd ho na
        · exact w m q ho
    · rw [if_neg c] at e
      refine Or.inr ⟨a, by simp, c, by rw [fstN, e, Option.some_or], fun m hm _ => ?_⟩
      rcases List.mem_cons.mp hm with q | q
      · rw [q]; exact Nat.le_refl _
      · exact srt_le hs m q
theorem key_e : ∀ n, n < 729 → allN n = nI (keyN n) ∧ keyN n ≤ 12 := by
  intro n hn
  have d : ∀ i, i < 9 → ∀ j, j < 9 → ∀ k, k < 9 → allN (81 * i + 9 * j + k) = nI (keyN (81 * i + 9 * j + k)) ∧ keyN (81 * i + 9 * j + k) ≤ 12 := by decide +kernel
  have e : n = 81 * (n / 81) + 9 * (n % 81 / 9) + n % 9 := by omega
  have := d (n / 81) (by omega) (n % 81 / 9) (by omega) (n % 9) (by omega)
  rw [← e] at this
  exact this
theorem sr_min (t : Int32) : ∀ N, N ≤ 729 → ((srM t N).1 = 0 ∧ ∀ m, m < N → ¬ okN t m) ∨ ((srM t N).1 = 1 ∧ ∃ n, n < N ∧ okN t n ∧ (srM t N).2 = newN t n ∧ ∀ m, m < N → okN t m → kkN n ≤ kkN m)
  | 0, _ => Or.inl ⟨rfl, fun m hm => absurd hm (Nat.not_lt_zero m)⟩
  | N + 1, hN => by
    obtain ⟨ke, kl⟩ := key_e N (by omega)
    rw [srM]
    by_cases c : okN t N
    · rcases sr_min t N (by omega) with ⟨h1, h2⟩ | ⟨h1, n, hn, ho, hv, hm⟩
      · rw [if_pos ⟨c, Or.inl h1⟩]
        refine Or.inr ⟨rfl, N, by omega, c, rfl, fun m hm ho => ?_⟩
        by_cases e : m = N
        · rw [e]; exact Nat.le_refl _
        · exact absurd ho (h2 m (by omega))
      · obtain ⟨je, jl⟩ := key_e n (by omega)
        have ev : (srM t N).2.2.2.2.2 = nI (keyN n) := by rw [hv, ← je]; rfl
        by_cases z : (srM t N).2.2.2.2.2 ≤ allN N
        · rw [if_neg (fun q => q.2.elim (fun w => by rw [h1] at w; exact absurd w (by decide)) (fun w => w z))]
          refine Or.inr ⟨h1, n, by omega, ho, hv, fun m hm' hk => ?_⟩
          by_cases e : m = N
          · rw [ev, ke] at z
            have : keyN n ≤ keyN N := by
              rcases Nat.lt_or_ge (keyN N) (keyN n) with q | q
              · exact absurd z (nI_ge (by omega) (by omega))
              · exact q
            rw [e]; unfold kkN; omega
          · exact hm m (by omega) hk
        · rw [if_pos ⟨c, Or.inr z⟩]
          rw [ev, ke] at z
          have lt : keyN N < keyN n := by
            rcases Nat.lt_or_ge (keyN N) (keyN n) with q | q
            · exact q
            · exact absurd (nI_le q (by omega)) z
          refine Or.inr ⟨rfl, N, by omega, c, rfl, fun m hm' hk => ?_⟩
          by_cases e : m = N
          · rw [e]; exact Nat.le_refl _
          · have := hm m (by omega) hk
            unfold kkN at this ⊢; omega
    · rw [if_neg (fun q => c q.1)]
      rcases sr_min t N (by omega) with ⟨h1, h2⟩ | ⟨h1, n, hn, ho, hv, hm⟩
      · refine Or.inl ⟨h1, fun m hm => ?_⟩
        by_cases e : m = N
        · rw [e]; exact c
        · exact h2 m (by omega)
      · refine Or.inr ⟨h1, n, by omega, ho, hv, fun m hm' hk => ?_⟩
        by_cases e : m = N
        · rw [e] at hk; exact absurd hk c
        · exact hm m (by omega) hk
theorem fit_255 : fitF 255 = some (0, 0, 0, 0) := by decide +kernel
theorem fit_c (t what : Int32) : fitMA t what = fitA t what := by
  unfold fitMA fitA
  by_cases c : ¬ t < 0 ∧ ¬ 255 < t ∧ ¬ what < 0 ∧ what ≤ 4
  · rw [if_pos c, if_pos c]
    by_cases z : t = 0
    · have e1 : fitM t = (1, (0, 0, 0, 1, 0)) := by unfold fitM; rw [if_pos z]
      have e2 : fitF t = some (0, 0, 0, 1) := by unfold fitF; rw [if_pos z]
      rw [e1, e2, if_neg (by decide)]
      show pick5 _ what = pickQ _ what
      unfold pick5 pickQ
      rw [show abs32 (0 : Int32) + abs32 0 + abs32 0 = 0 from by decide]
    · by_cases z2 : t = 255
      · have e1 : fitM t = (1, (0, 0, 0, 0, 0)) := by unfold fitM; rw [if_neg z, if_pos z2]
        rw [e1, z2, fit_255, if_neg (by decide)]
        show pick5 _ what = pickQ _ what
        unfold pick5 pickQ
        rw [show abs32 (0 : Int32) + abs32 0 + abs32 0 = 0 from by decide]
      · have e1 : fitM t = srM t 729 := by unfold fitM; rw [if_neg z, if_neg z2]
        have e2 : fitF t = srch t 13 := by unfold fitF; rw [if_neg z]
        rw [e1, e2, srch_e t 13 (Nat.le_refl 13)]
        obtain ⟨k, hk, rfl⟩ := nI_of c.1
        have hk2 : k < 256 := by
          rcases Nat.lt_or_ge k 256 with q | q
          · exact q
          · exact absurd (nI_lt (a := 255) (b := k) (by omega) hk) c.2.1
        have hk0 : 0 < k := by
          rcases Nat.eq_zero_or_pos k with q | q
          · rw [q] at z; exact absurd rfl z
          · exact q
        have hlt : ∀ n, n ∈ srL 13 → n < 729 := fun n hn => by
          have := List.all_eq_true.mp LL_lt n hn
          exact Nat.le_of_ble_eq_true this
        rcases fst_min hk0 hk2 LL_srt hlt with ⟨x, y⟩ | ⟨n, x, y, w, v⟩
        · rcases sr_min (nI k) 729 (Nat.le_refl _) with ⟨a, b⟩ | ⟨a, n, hn, ho, -, -⟩
          · rw [x, if_pos a]; rfl
          · exact absurd ho (y n (LL_mem n hn))
        · rcases sr_min (nI k) 729 (Nat.le_refl _) with ⟨a, b⟩ | ⟨a, m, hm, ho, hv, hmin⟩
          · exact absurd y (b n (hlt n x))
          · have q1 := v m (LL_mem m hm) ho
            have q2 := hmin n (hlt n x) y
            have hn := hlt n x
            have : n = m := by unfold kkN at q1 q2; omega
            subst this
            rw [w, hv, if_neg (by rw [a]; decide)]
            rfl
  · rw [if_neg c, if_neg c]

