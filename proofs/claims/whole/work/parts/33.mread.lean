/-! the tokens of the class, one after the other as the reference takes them -/
theorem Ct.weak {g : Gl} {l : Launch} {y : MethodName} {cc : ByteArray} {nL : Nat} {ret : Option FieldType} {d mc ms : Nat} {av : List Value} {S : Sg} {Z Z2 : Option Value → Sg → Prop} (hz : ∀ r S2, Z r S2 → Z2 r S2) (h : Ct g l y cc nL ret d mc ms av S Z) : Ct g l y cc nL ret d mc ms av S Z2 := by
  intro p e he hc hk s m args below hf ha hP hK
  obtain ⟨n, o, h1, h2, h3, ⟨⟨⟨r, S2, e1, e2, e3⟩, e4⟩, L⟩⟩ := h p e he hc hk s m args below hf ha hP hK
  exact ⟨n, o, h1, h2, h3, ⟨⟨⟨r, S2, e1, hz r S2 e2, e3⟩, e4⟩, L⟩⟩
theorem skp_fuel {tb : Nat → Int32} {len : Nat} (h : ∀ q, len ≤ q → ¬ tb q = 32) : ∀ {n k a : Nat}, len ≤ a + n → len ≤ a + k → skp tb n a = skp tb k a
  | 0, 0, a, _, _ => rfl
  | 0, k + 1, a, h1, _ => by rw [skp, skp, if_neg (h a (by omega))]
  | n + 1, 0, a, _, h2 => by rw [skp, skp, if_neg (h a (by omega))]
  | n + 1, k + 1, a, h1, h2 => by
    rw [skp, skp]
    by_cases q : tb a = 32
    · rw [if_pos q, if_pos q]; exact skp_fuel h (by omega) (by omega)
    · rw [if_neg q, if_neg q]
def tsJ (tb : Nat → Int32) (len : Nat) (K V P : Nat → Int32) (a : Nat → Nat) (j : Nat) : Prop := a j ≤ len ∧ skp tb len (a j) < len ∧ P j = nI (skp tb len (a j)) ∧ K j = (tok1 tb len (skp tb len (a j))).1 ∧ V j = (tok1 tb len (skp tb len (a j))).2.1 ∧ a (j + 1) = (tok1 tb len (skp tb len (a j))).2.2
/-- where each token begins to be looked for -/
def TS (tb : Nat → Int32) (len : Nat) (K V P : Nat → Int32) (c : Nat) (a : Nat → Nat) : Prop := a 0 = 0 ∧ 1 ≤ c ∧ (∀ j, j + 1 < c → tsJ tb len K V P a j) ∧ a (c - 1) ≤ len ∧ skp tb len (a (c - 1)) = len ∧ P (c - 1) = nI len ∧ K (c - 1) = 0
theorem spT_seq {tb : Nat → Int32} {len : Nat} (h32 : ∀ q, len ≤ q → ¬ tb q = 32) (hs : ∀ q, len ≤ q → ¬ isSm (tb q)) (hd : ∀ q, len ≤ q → ¬ isDg (tb q)) (he : ∀ q, len ≤ q → tb q = -1) (q0 : TR) (h0 : q0.2.2.2 = 0) : ∀ i, ∃ a : Nat → Nat, a 0 = 0 ∧ (∀ j, j < (spT tb len q0 i).2.2.2.2 → tsJ tb len (spT tb len q0 i).2.1 (spT tb len q0 i).2.2.1 (spT tb len q0 i).2.2.2.1 a j) ∧ (spT tb len q0 i).1 ≤ len ∧ (len ≤ (spT tb len q0 i).1 ∨ i ≤ (spT tb len q0 i).1) ∧ a (spT tb len q0 i).2.2.2.2 ≤ (spT tb len q0 i).1 ∧ skp tb len (a (spT tb len q0 i).2.2.2.2) = skp tb len (spT tb len q0 i).1
  | 0 => ⟨fun _ => 0, rfl, fun j hj => by rw [spT, h0] at hj; exact absurd hj (Nat.not_lt_zero j), Nat.zero_le _, Or.inr (Nat.le_refl _), Nat.le_refl _, rfl⟩
  | i + 1 => by
    obtain ⟨a, a0, h1, h2, h3, h4, h5⟩ := spT_seq h32 hs hd he q0 h0 i
    rw [spT]
    by_cases q1 : len ≤ (spT tb len q0 i).1
    · rw [if_pos q1]; exact ⟨a, a0, h1, h2, Or.inl q1, h4, h5⟩
    · rw [if_neg q1]
      generalize spT tb len q0 i = S at h1 h2 h3 h4 h5 q1 ⊢
      obtain ⟨pos, K, V, P, c⟩ := S
      dsimp only at h1 h2 h3 h4 h5 q1 ⊢
      by_cases q2 : tb pos = 32
      · rw [if_pos q2]
        refine ⟨a, a0, h1, by show pos + 1 ≤ len; omega, ?_, by show a c ≤ pos + 1; omega, ?_⟩
        · show len ≤ pos + 1 ∨ i + 1 ≤ pos + 1
          omega
        · show skp tb len (a c) = skp tb len (pos + 1)
          rw [h5]
          have hl : 1 ≤ len := by omega
          obtain ⟨n, rfl⟩ : ∃ n, len = n + 1 := ⟨len - 1, by omega⟩
          have e : skp tb (n + 1) pos = skp tb n (pos + 1) := by rw [skp, if_pos q2]
          rw [e]; exact skp_fuel h32 (by omega) (by omega)
      · rw [if_neg q2]
        have hl : 1 ≤ len := by omega
        have hsk : skp tb len pos = pos := by
          obtain ⟨n, rfl⟩ : ∃ n, len = n + 1 := ⟨len - 1, by omega⟩
          rw [skp, if_neg q2]
        have ht := tok1_le hs hd he (m := pos) (by omega)
        refine ⟨fun j => if j = c + 1 then (tok1 tb len pos).2.2 else a j, ?_, fun j hj => ?_, ht.2, ?_, ?_, ?_⟩
        · show (if 0 = c + 1 then _ else a 0) = 0
          rw [if_neg (by omega)]; exact a0
        · have hj2 : j < c + 1 := hj
          by_cases e : j = c
          · subst e
            have e1 : (if j = j + 1 then (tok1 tb len pos).2.2 else a j) = a j := if_neg (by omega)
            unfold tsJ
            simp only [pshT, upd, if_true]
            rw [e1, h5, hsk]
            exact ⟨by omega, by omega, rfl, rfl, rfl, rfl⟩
          · obtain ⟨t1, t2, t3, t4, t5, t6⟩ := h1 j (by omega)
            have e1 : (if j = c + 1 then (tok1 tb len pos).2.2 else a j) = a j := if_neg (by omega)
            have e2 : (if j + 1 = c + 1 then (tok1 tb len pos).2.2 else a (j + 1)) = a (j + 1) := if_neg (by omega)
            unfold tsJ
            simp only [pshT, upd, if_neg e]
            rw [e1, e2]
            exact ⟨t1, t2, t3, t4, t5, t6⟩
        · show len ≤ (tok1 tb len pos).2.2 ∨ i + 1 ≤ (tok1 tb len pos).2.2
          omega
        · show (if c + 1 = c + 1 then (tok1 tb len pos).2.2 else a (c + 1)) ≤ (tok1 tb len pos).2.2
          rw [if_pos rfl]; exact Nat.le_refl _
        · show skp tb len (if c + 1 = c + 1 then (tok1 tb len pos).2.2 else a (c + 1)) = _
          rw [if_pos rfl]
theorem allT_TS {tb : Nat → Int32} {len : Nat} (hlen : len ≤ 400) (h32 : ∀ q, len ≤ q → ¬ tb q = 32) (hs : ∀ q, len ≤ q → ¬ isSm (tb q)) (hd : ∀ q, len ≤ q → ¬ isDg (tb q)) (he : ∀ q, len ≤ q → tb q = -1) (q0 : TR) (h0 : q0.2.2.2 = 0) : ∃ a, TS tb len (allT tb len q0).1 (allT tb len q0).2.1 (allT tb len q0).2.2.1 (allT tb len q0).2.2.2 a := by
  obtain ⟨a, a0, h1, h2, h3, h4, h5⟩ := spT_seq h32 hs hd he q0 h0 400
  unfold allT
  generalize spT tb len q0 400 = S at h1 h2 h3 h4 h5 ⊢
  obtain ⟨pos, K, V, P, c⟩ := S
  dsimp only at h1 h2 h3 h4 h5 ⊢
  have hp : pos = len := by omega
  subst hp
  have hsk : skp tb pos pos = pos := by
    have h := skp_le h32 (n := pos) (a := pos) (Nat.le_refl _)
    omega
  refine ⟨a, a0, Nat.le_add_left _ _, fun j hj => ?_, ?_, ?_, ?_, ?_⟩
  · have hj2 : j + 1 < c + 1 := hj
    obtain ⟨t1, t2, t3, t4, t5, t6⟩ := h1 j (by omega)
    unfold tsJ
    simp only [pshT, upd, if_neg (show ¬ j = c by omega)]
    exact ⟨t1, t2, t3, t4, t5, t6⟩
  · exact h4
  · show skp tb pos (a c) = pos
    rw [h5, hsk]
  · show upd P c (nI pos) c = nI pos
    simp [upd]
  · show upd K c 0 c = 0
    simp [upd]
/-- the reference stands at the token j -/
def AT (tb : Nat → Int32) (len : Nat) (K V P : Nat → Int32) (c : Nat) (a : Nat → Nat) (j : Nat) (nx tk pl vl : Int32) : Prop := j < c ∧ pl = P j ∧ kR tk vl (K j) (V j) ∧ (¬ K j = 8 → ¬ K j = 0 → nx = nI (a (j + 1)) ∧ a (j + 1) ≤ len)
theorem AT_of {tb : Nat → Int32} {len : Nat} {K V P : Nat → Int32} {c : Nat} {a : Nat → Nat} (hT : TS tb len K V P c a) (hs : ∀ q, len ≤ q → ¬ isSm (tb q)) (hd : ∀ q, len ≤ q → ¬ isDg (tb q)) (he : ∀ q, len ≤ q → tb q = -1) {j : Nat} (hj : j < c) {nx tk vl : Int32} (h : advP tb len (skp tb len (a j)) nx tk vl) : AT tb len K V P c a j nx tk (nI (skp tb len (a j))) vl := by
  obtain ⟨a0, c1, t1, t2, t3, t4, t5⟩ := hT
  by_cases e : j + 1 < c
  · obtain ⟨s1, s2, s3, s4, s5, s6⟩ := t1 j e
    obtain ⟨k1, k2⟩ := h.2 s2
    refine ⟨hj, s3.symm, by rw [s4, s5]; exact k1, fun h8 _ => ?_⟩
    rw [s6]
    exact ⟨k2 (by rw [← s4]; exact h8), (tok1_le hs hd he s2).2⟩
  · obtain rfl : j = c - 1 := by omega
    have z := h.1 (by rw [t3]; exact Nat.le_refl _)
    refine ⟨hj, by rw [t3, t4], ?_, fun _ h0 => absurd t5 h0⟩
    rw [t5, z]
    exact Or.inr (Or.inr (Or.inr (Or.inr (Or.inr (Or.inr (Or.inr (Or.inr ⟨rfl, rfl⟩)))))))
theorem TS_0 {tb : Nat → Int32} {len : Nat} {K V P : Nat → Int32} {c : Nat} {a : Nat → Nat} (hT : TS tb len K V P c a) {j : Nat} (hj : j < c) (h0 : ¬ K j = 0) : j + 1 < c := by
  obtain ⟨a0, c1, t1, t2, t3, t4, t5⟩ := hT
  rcases Nat.lt_or_ge (j + 1) c with q | q
  · exact q
  · obtain rfl : j = c - 1 := by omega
    exact absurd t5 h0
/-- the kinds, as the reference numbers them -/
def kmp (K : Int32) : Int32 := if K = 1 then 1 else if K = 7 then 2 else if K = 2 then 3 else if K = 3 then 4 else if K = 4 then 5 else if K = 5 then 6 else if K = 6 then 7 else if K = 8 then 8 else 0
theorem kR_m {tk vl K V : Int32} (h : kR tk vl K V) : tk = kmp K ∧ (K = 0 ∨ K = 1 ∨ K = 2 ∨ K = 3 ∨ K = 4 ∨ K = 5 ∨ K = 6 ∨ K = 7 ∨ K = 8) ∧ (K = 1 → vl = V) ∧ (K = 2 → vl = V) ∧ (K = 7 → vl + 1 = V) := by
  unfold kR at h
  rcases h with ⟨rfl, rfl⟩ | ⟨rfl, rfl, h⟩ | ⟨rfl, rfl, h⟩ | ⟨rfl, rfl, h⟩ | ⟨rfl, rfl⟩ | ⟨rfl, rfl⟩ | ⟨rfl, rfl⟩ | ⟨rfl, rfl⟩ | ⟨rfl, rfl⟩
  · exact ⟨by decide, by decide, fun z => absurd z (by decide), fun z => absurd z (by decide), fun z => absurd z (by decide)⟩
  · exact ⟨by decide, by decide, fun _ => h, fun z => absurd z (by decide), fun z => absurd z (by decide)⟩
  · exact ⟨by decide, by decide, fun z => absurd z (by decide), fun z => absurd z (by decide), fun _ => h⟩
  · exact ⟨by decide, by decide, fun z => absurd z (by decide), fun _ => h, fun z => absurd z (by decide)⟩
  · exact ⟨by decide, by decide, fun z => absurd z (by decide), fun z => absurd z (by decide), fun z => absurd z (by decide)⟩
  · exact ⟨by decide, by decide, fun z => absurd z (by decide), fun z => absurd z (by decide), fun z => absurd z (by decide)⟩
  · exact ⟨by decide, by decide, fun z => absurd z (by decide), fun z => absurd z (by decide), fun z => absurd z (by decide)⟩
  · exact ⟨by decide, by decide, fun z => absurd z (by decide), fun z => absurd z (by decide), fun z => absurd z (by decide)⟩
  · exact ⟨by decide, by decide, fun z => absurd z (by decide), fun z => absurd z (by decide), fun z => absurd z (by decide)⟩
/-- these are one kind -/
def kP (t k : Int32) : Prop := (t = 1 ∧ k = 1) ∨ (t = 2 ∧ k = 7) ∨ (t = 3 ∧ k = 2) ∨ (t = 4 ∧ k = 3) ∨ (t = 5 ∧ k = 4) ∨ (t = 6 ∧ k = 5) ∨ (t = 7 ∧ k = 6) ∨ (t = 0 ∧ k = 0)
theorem kR_iff {tk vl K V t k : Int32} (h : kR tk vl K V) (hp : kP t k) : tk = t ↔ K = k := by
  obtain ⟨h1, h2, -⟩ := kR_m h
  subst h1
  unfold kP at hp
  rcases hp with ⟨rfl, rfl⟩ | ⟨rfl, rfl⟩ | ⟨rfl, rfl⟩ | ⟨rfl, rfl⟩ | ⟨rfl, rfl⟩ | ⟨rfl, rfl⟩ | ⟨rfl, rfl⟩ | ⟨rfl, rfl⟩ <;> rcases h2 with rfl | rfl | rfl | rfl | rfl | rfl | rfl | rfl | rfl <;> decide
theorem kP_8 {t k : Int32} (hp : kP t k) : ¬ k = 8 := by
  unfold kP at hp
  rcases hp with ⟨rfl, rfl⟩ | ⟨rfl, rfl⟩ | ⟨rfl, rfl⟩ | ⟨rfl, rfl⟩ | ⟨rfl, rfl⟩ | ⟨rfl, rfl⟩ | ⟨rfl, rfl⟩ | ⟨rfl, rfl⟩ <;> decide
/-- all that stands while a text is read -/
def RD (F : Nat → Nat → Int32) (len : Nat) (K V P : Nat → Int32) (c : Nat) (a : Nat → Nat) : Prop := F 167 2 = nI len ∧ len ≤ 400 ∧ (∀ k, k < len → ¬ F 168 k < 0) ∧ TS (bm F len) len K V P c a ∧ TV K V c ∧ (∀ j, j < c → ¬ P j < 0)
def MSt (F : Nat → Nat → Int32) (J : Nat → Int64) (len : Nat) (K V P : Nat → Int32) (c : Nat) (a : Nat → Nat) (j : Nat) (S2 : Sg) : Prop := ∃ nx tk pl vl, S2 = St (mt F nx tk pl vl (-1)) J ∧ AT (bm F len) len K V P c a j nx tk pl vl
def MBd (F : Nat → Nat → Int32) (J : Nat → Int64) (P : Nat → Int32) (j : Nat) (S2 : Sg) : Prop := ∃ nx tk pl vl, S2 = St (mt F nx tk pl vl (P j)) J
set_option maxRecDepth 100000 in
set_option maxHeartbeats 4000000 in
theorem m_well (g : Gl) (l : Launch) (F : Nat → Nat → Int32) (J : Nat → Int64) (nx tk pl vl : Int32) : Ct g l yX8_isWell cX8_isWell 1 (some .boolean) 0 0 0 [.ref 167] (St (mt F nx tk pl vl (-1)) J) (fun r S2 => r = some (.int 1) ∧ S2 = St (mt F nx tk pl vl (-1)) J) := by
  refine Ct.of rfl (by decide) rfl (Nat.le_of_ble_eq_true rfl) ?_
  refine g_aload_n 1 dX8_isWell_0 rfl rfl ?_
  refine gf_8_7 4 dX8_isWell_1 rfl kf_X8_77 (by first | decide | assumption | exact ⟨Nat.le_of_ble_eq_true rfl, rfl⟩) ?_
  refine gst_at (x2 := -1) rfl ?_
  refine g_if_ge 11 7 dX8_isWell_4 rfl (by decide) (fun h4 => ?_) (fun h4 => ?_)
  · exact absurd h4 (by decide)
  · refine g_iconst (1) 8 dX8_isWell_7 rfl (by decide) ?_
    refine g_goto 12 dX8_isWell_8 (by decide) ?_
    refine g_zret dX8_isWell_12 (by decide) ?_
    exact ⟨rfl, rfl⟩

set_option maxRecDepth 100000 in
set_option maxHeartbeats 4000000 in
theorem m_ill (g : Gl) (l : Launch) (F : Nat → Nat → Int32) (J : Nat → Int64) (nx tk pl vl : Int32) {fl : Int32} (hf : ¬ fl < 0) : Ct g l yX8_isWell cX8_isWell 1 (some .boolean) 0 0 0 [.ref 167] (St (mt F nx tk pl vl fl) J) (fun r S2 => r = some (.int 0) ∧ S2 = St (mt F nx tk pl vl fl) J) := by
  refine Ct.of rfl (by decide) rfl (Nat.le_of_ble_eq_true rfl) ?_
  refine g_aload_n 1 dX8_isWell_0 rfl rfl ?_
  refine gf_8_7 4 dX8_isWell_1 rfl kf_X8_77 (by first | decide | assumption | exact ⟨Nat.le_of_ble_eq_true rfl, rfl⟩) ?_
  refine gst_at (x2 := fl) rfl ?_
  refine g_if_ge 11 7 dX8_isWell_4 rfl (by decide) (fun h4 => ?_) (fun h4 => ?_)
  · refine g_iconst (0) 12 dX8_isWell_11 rfl (by decide) ?_
    refine g_zret dX8_isWell_12 (by decide) ?_
    exact ⟨rfl, rfl⟩
  · exact absurd (Int32.not_lt.mp hf) h4

set_option maxRecDepth 100000 in
set_option maxHeartbeats 4000000 in
theorem m_fails (g : Gl) (l : Launch) (F : Nat → Nat → Int32) (J : Nat → Int64) (nx tk pl vl : Int32) : Ct g l yX8_fails cX8_fails 1 none 0 0 0 [.ref 167] (St (mt F nx tk pl vl (-1)) J) (fun r S2 => r = none ∧ S2 = St (mt F nx tk pl vl pl) J) := by
  refine Ct.of rfl (by decide) rfl (Nat.le_of_ble_eq_true rfl) ?_
  refine g_aload_n 1 dX8_fails_0 rfl rfl ?_
  refine g_aload_n 2 dX8_fails_1 rfl rfl ?_
  refine gf_8_7 5 dX8_fails_2 rfl kf_X8_77 (by first | decide | assumption | exact ⟨Nat.le_of_ble_eq_true rfl, rfl⟩) ?_
  refine gst_at (x2 := -1) rfl ?_
  refine g_if_ge 15 8 dX8_fails_5 rfl (by decide) (fun h5 => ?_) (fun h5 => ?_)
  · exact absurd h5 (by decide)
  · refine g_aload_n 9 dX8_fails_8 rfl rfl ?_
    refine gf_8_5 12 dX8_fails_9 rfl kf_X8_64 (by first | decide | assumption | exact ⟨Nat.le_of_ble_eq_true rfl, rfl⟩) ?_
    refine gst_at (x2 := pl) rfl ?_
    refine g_goto 19 dX8_fails_12 (by decide) ?_
    refine gp_8_7 22 dX8_fails_19 rfl kf_X8_77 (by first | decide | assumption | exact ⟨Nat.le_of_ble_eq_true rfl, rfl⟩) ?_
    refine gs_at (congrArg (fun x => St x J) mt_7) ?_
    refine g_vret dX8_fails_22 ?_
    exact ⟨rfl, rfl⟩

set_option maxRecDepth 100000 in
set_option maxHeartbeats 4000000 in
theorem m_fails2 (g : Gl) (l : Launch) (F : Nat → Nat → Int32) (J : Nat → Int64) (nx tk pl vl : Int32) {fl : Int32} (hf : ¬ fl < 0) : Ct g l yX8_fails cX8_fails 1 none 0 0 0 [.ref 167] (St (mt F nx tk pl vl fl) J) (fun r S2 => r = none ∧ S2 = St (mt F nx tk pl vl fl) J) := by
  refine Ct.of rfl (by decide) rfl (Nat.le_of_ble_eq_true rfl) ?_
  refine g_aload_n 1 dX8_fails_0 rfl rfl ?_
  refine g_aload_n 2 dX8_fails_1 rfl rfl ?_
  refine gf_8_7 5 dX8_fails_2 rfl kf_X8_77 (by first | decide | assumption | exact ⟨Nat.le_of_ble_eq_true rfl, rfl⟩) ?_
  refine gst_at (x2 := fl) rfl ?_
  refine g_if_ge 15 8 dX8_fails_5 rfl (by decide) (fun h5 => ?_) (fun h5 => ?_)
  · refine g_aload_n 16 dX8_fails_15 rfl rfl ?_
    refine gf_8_7 19 dX8_fails_16 rfl kf_X8_77 (by first | decide | assumption | exact ⟨Nat.le_of_ble_eq_true rfl, rfl⟩) ?_
    refine gst_at (x2 := fl) rfl ?_
    refine gp_8_7 22 dX8_fails_19 rfl kf_X8_77 (by first | decide | assumption | exact ⟨Nat.le_of_ble_eq_true rfl, rfl⟩) ?_
    refine gs_at (congrArg (fun x => St x J) mt_7) ?_
    refine g_vret dX8_fails_22 ?_
    exact ⟨rfl, rfl⟩
  · exact absurd (Int32.not_lt.mp hf) h5

set_option maxRecDepth 100000 in
set_option maxHeartbeats 4000000 in
theorem m_isTok (g : Gl) (l : Launch) (F : Nat → Nat → Int32) (J : Nat → Int64) (nx tk pl vl t : Int32) : Ct g l yX8_isToken cX8_isToken 2 (some .boolean) 1 0 0 [.ref 167, .int t] (St (mt F nx tk pl vl (-1)) J) (fun r S2 => r = some (.int (if tk = t then 1 else 0)) ∧ S2 = St (mt F nx tk pl vl (-1)) J) := by
  refine Ct.of rfl (by decide) rfl (Nat.le_of_ble_eq_true rfl) ?_
  refine g_aload_n 1 dX8_isToken_0 rfl rfl ?_
  refine g_v0 8 4 dX8_isToken_1 rfl kl_X8_80 mv_X8_isWell rfl ⟨Nat.le_of_ble_eq_true rfl, Nat.le_of_ble_eq_true rfl⟩ (Nat.le_of_ble_eq_true rfl) (by first | decide | assumption | exact ⟨Nat.le_of_ble_eq_true rfl, rfl⟩) (m_well g l F J _ _ _ _) ?_
  rintro _ _ ⟨rfl, rfl⟩
  refine g_if_eq 19 7 dX8_isToken_4 rfl (by decide) (fun h4 => ?_) (fun h4 => ?_)
  · exact absurd h4 (by decide)
  · refine g_aload_n 8 dX8_isToken_7 rfl rfl ?_
    refine gf_8_4 11 dX8_isToken_8 rfl kf_X8_67 (by first | decide | assumption | exact ⟨Nat.le_of_ble_eq_true rfl, rfl⟩) ?_
    refine gst_at (x2 := tk) rfl ?_
    refine g_iload_n 12 dX8_isToken_11 rfl rfl ?_
    refine g_icmp_ne 19 15 dX8_isToken_12 rfl (by decide) (fun h12 => ?_) (fun h12 => ?_)
    · refine g_iconst (0) 20 dX8_isToken_19 rfl (by decide) ?_
      refine g_zret dX8_isToken_20 (by decide) ?_
      exact ⟨iv_neg h12, rfl⟩
    · refine g_iconst (1) 16 dX8_isToken_15 rfl (by decide) ?_
      refine g_goto 20 dX8_isToken_16 (by decide) ?_
      refine g_zret dX8_isToken_20 (by decide) ?_
      exact ⟨iv_pos h12, rfl⟩

set_option maxRecDepth 100000 in
set_option maxHeartbeats 4000000 in
theorem m_isTok2 (g : Gl) (l : Launch) (F : Nat → Nat → Int32) (J : Nat → Int64) (nx tk pl vl : Int32) {fl : Int32} (hf : ¬ fl < 0) (t : Int32) : Ct g l yX8_isToken cX8_isToken 2 (some .boolean) 1 0 0 [.ref 167, .int t] (St (mt F nx tk pl vl fl) J) (fun r S2 => r = some (.int 0) ∧ S2 = St (mt F nx tk pl vl fl) J) := by
  refine Ct.of rfl (by decide) rfl (Nat.le_of_ble_eq_true rfl) ?_
  refine g_aload_n 1 dX8_isToken_0 rfl rfl ?_
  refine g_v0 8 4 dX8_isToken_1 rfl kl_X8_80 mv_X8_isWell rfl ⟨Nat.le_of_ble_eq_true rfl, Nat.le_of_ble_eq_true rfl⟩ (Nat.le_of_ble_eq_true rfl) (by first | decide | assumption | exact ⟨Nat.le_of_ble_eq_true rfl, rfl⟩) (m_ill g l F J _ _ _ _ hf) ?_
  rintro _ _ ⟨rfl, rfl⟩
  refine g_if_eq 19 7 dX8_isToken_4 rfl (by decide) (fun h4 => ?_) (fun h4 => ?_)
  · refine g_iconst (0) 20 dX8_isToken_19 rfl (by decide) ?_
    refine g_zret dX8_isToken_20 (by decide) ?_
    exact ⟨rfl, rfl⟩
  · exact absurd rfl h4

set_option maxRecDepth 100000 in
set_option maxHeartbeats 4000000 in
theorem m_adv (g : Gl) (l : Launch) (F : Nat → Nat → Int32) (J : Nat → Int64) {len : Nat} {K V P : Nat → Int32} {c : Nat} {a : Nat → Nat} (hR : RD F len K V P c a) {j : Nat} {nx tk pl vl : Int32} (hA : AT (bm F len) len K V P c a j nx tk pl vl) (h8 : ¬ K j = 8) (h0 : ¬ K j = 0) (vl2 : Int32) : Ct g l yX8_advances cX8_advances 5 none 3 0 0 [.ref 167] (St (mt F nx tk pl vl (-1)) J) (fun r S2 => r = none ∧ MSt F J len K V P c a (gn c j) S2) := by
  obtain ⟨hl, hlen, hb, hT, hV, hP⟩ := hR
  obtain ⟨a1, a2, a3, a4⟩ := hA
  obtain ⟨n1, n2⟩ := a4 h8 h0
  subst n1
  have hj := TS_0 hT a1 h0
  have h := m_advances g l F J hl hlen hb n2 tk pl vl (-1)
  have hz : ∀ r S2, advZ F J len (skp (bm F len) len (a (j + 1))) (-1) r S2 → (r = none ∧ MSt F J len K V P c a (gn c j) S2) := by
    rintro r S2 ⟨rfl, nx, tk, vl, rfl, hp⟩
    have e : gn c j = j + 1 := by rw [gn, if_pos hj]
    rw [e]
    exact ⟨rfl, nx, tk, _, vl, rfl, AT_of hT (bm_sm F len) (bm_dg F len) (fun q hq => bm_no hq) hj hp⟩
  exact Ct.weak hz h
