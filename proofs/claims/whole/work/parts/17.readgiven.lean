theorem gs_at {g : Gl} {l : Launch} {R : Room} {XX : State → Method → Prop} {QQ : List Frame → Array Value → State → State → Prop} {own : String} {cc : ByteArray} {nL : Nat} {ret : Option FieldType} {pc : Nat} {L : List (Option Value)} {st : List Value} {S S2 : Sg} {c1 s1 : Nat} (e : S = S2) (k : Gj g l R XX QQ own cc nL ret pc L st S2 c1 s1) : Gj g l R XX QQ own cc nL ret pc L st S c1 s1 := e ▸ k
section GIVEN
variable {σ : Type} (cur : σ → Int32 × Int32) (adv : σ → σ)
abbrev LL : Type := Nat → (Nat → Int32) × Int32
abbrev P5 : Type := Int32 × Int32 × Int32 × (Nat → Int32) × Int32
/-- GIVEN's lines: whether all is well, how many, where it stands, the lines -/
def gvR : Nat → Nat → σ → LL → Bool × Nat × σ × LL
  | 0, i, s, L => (decide ((cur s).1 = 0), i, s, L)
  | n + 1, i, s, L => if (cur s).1 = 0 then (true, i, s, L) else if (pLine cur adv s).1 = true then (if (pTok cur adv 6 (pLine cur adv s).2.1).1 = true then gvR n (i + 1) (pTok cur adv 6 (pLine cur adv s).2.1).2 (va_up L i ((pLine cur adv s).2.2.1, (pLine cur adv s).2.2.2)) else (false, i, (pTok cur adv 6 (pLine cur adv s).2.1).2, L)) else (false, i, (pLine cur adv s).2.1, L)
def pSt (gc : Int32) (Q0 : Nat → P5) (i : Nat) (s : σ) : Bool × σ × Int32 × Int32 × (Nat → Int32) × Int32 := pStep cur adv (gc + nI i) s (Q0 i).2.1 (Q0 i).2.2.1 (Q0 i).2.2.2.1 (Q0 i).2.2.2.2
def pRc (gc : Int32) (Q0 : Nat → P5) (i : Nat) (s : σ) : P5 := ((cur s).2, (pSt cur adv gc Q0 i s).2.2.1, (pSt cur adv gc Q0 i s).2.2.2.1, (pSt cur adv gc Q0 i s).2.2.2.2.1, (pSt cur adv gc Q0 i s).2.2.2.2.2)
/-- THE PROOF's steps -/
def prR (gc : Int32) (Q0 : Nat → P5) : Nat → Nat → σ → (Nat → P5) → Bool × Nat × σ × (Nat → P5)
  | 0, i, s, Q => (decide ((cur s).1 = 0), i, s, Q)
  | n + 1, i, s, Q => if (cur s).1 = 0 then (true, i, s, Q) else if (pSt cur adv gc Q0 i s).1 = true then (if (pTok cur adv 6 (pSt cur adv gc Q0 i s).2.1).1 = true then prR gc Q0 n (i + 1) (pTok cur adv 6 (pSt cur adv gc Q0 i s).2.1).2 (va_up Q i (pRc cur adv gc Q0 i s)) else (false, i, (pTok cur adv 6 (pSt cur adv gc Q0 i s).2.1).2, Q)) else (false, i, (pSt cur adv gc Q0 i s).2.1, Q)
end GIVEN
def tdF (F : Nat → Nat → Int32) (L : LL) : Nat → Nat → Nat → Int32
  | 0 => F
  | m + 1 => setL (tdF F L m) (10 + 2 * m) (L m).1 (L m).2
def sdF (F : Nat → Nat → Int32) (Q : Nat → P5) : Nat → Nat → Nat → Int32
  | 0 => F
  | m + 1 => stF (sdF F Q m) (26 + 3 * m) (Q m).1 (Q m).2.1 (Q m).2.2.1 (Q m).2.2.2.1 (Q m).2.2.2.2
theorem tdF_ne (F : Nat → Nat → Int32) (L : LL) {q : Nat} : ∀ {m : Nat}, (q < 10 ∨ 10 + 2 * m ≤ q) → tdF F L m q = F q
  | 0, h => rfl
  | m + 1, h => by rw [tdF, setL_ne _ _ _ (by omega) (by omega), tdF_ne F L (by omega)]
theorem tdF_congr (F : Nat → Nat → Int32) {L M : LL} : ∀ {m : Nat}, (∀ i, i < m → L i = M i) → tdF F L m = tdF F M m
  | 0, h => rfl
  | m + 1, h => by rw [tdF, tdF, tdF_congr F (fun i hi => h i (by omega)), h m (by omega)]
theorem tdF_next (F : Nat → Nat → Int32) (L : LL) (i : Nat) (w : Nat → Int32) (d : Int32) : setL (tdF F L i) (10 + 2 * i) w d = tdF F (va_up L i (w, d)) (i + 1) := by
  rw [tdF, tdF_congr F (L := va_up L i (w, d)) (M := L) (fun j hj => by simp [va_up, Nat.ne_of_lt hj])]
  simp [va_up]
theorem sdF_ne (F : Nat → Nat → Int32) (Q : Nat → P5) {q : Nat} : ∀ {m : Nat}, (q < 26 ∨ 26 + 3 * m ≤ q) → sdF F Q m q = F q
  | 0, h => rfl
  | m + 1, h => by rw [sdF, stF_ne _ _ _ _ _ _ (by omega) (by omega) (by omega), sdF_ne F Q (by omega)]
theorem sdF_congr (F : Nat → Nat → Int32) {L M : Nat → P5} : ∀ {m : Nat}, (∀ i, i < m → L i = M i) → sdF F L m = sdF F M m
  | 0, h => rfl
  | m + 1, h => by rw [sdF, sdF, sdF_congr F (fun i hi => h i (by omega)), h m (by omega)]
theorem sdF_next (F : Nat → Nat → Int32) (Q : Nat → P5) (i : Nat) (x : P5) : stF (sdF F Q i) (26 + 3 * i) x.1 x.2.1 x.2.2.1 x.2.2.2.1 x.2.2.2.2 = sdF F (va_up Q i x) (i + 1) := by
  rw [sdF, sdF_congr F (L := va_up Q i x) (M := Q) (fun j hj => by simp [va_up, Nat.ne_of_lt hj])]
  simp [va_up]
theorem td_is : ∀ i, i < 8 → (10 + 2 * i < 174 ∧ sh (10 + 2 * i) = 2) := by decide +kernel
theorem sd_is : ∀ i, i < 24 → (26 + 3 * i < 174 ∧ sh (26 + 3 * i) = 4) := by decide +kernel
/-- what is no scratch of the reader stays -/
def kpR (F G : Nat → Nat → Int32) : Prop := ∀ q, q < 6 ∨ 98 ≤ q → G q = F q
theorem stT_ne (F : Nat → Nat → Int32) (A : TR) {q : Nat} (h : q < 6 ∨ 10 ≤ q) : stT F A q = F q := by
  simp only [stT, tk, if_neg (show ¬ q = 7 by omega), if_neg (show ¬ q = 8 by omega), if_neg (show ¬ q = 9 by omega), if_neg (show ¬ q = 6 by omega)]
theorem stT_now (F : Nat → Nat → Int32) (A : TR) : stT F A = nw (stT F A) 0 := by
  rw [nw, nI_0]; exact (up2_id (stT F A) 6 4).symm
theorem allT_c (tb : Nat → Int32) (len : Nat) (F : Nat → Nat → Int32) : 1 ≤ (allT tb len (q0F F)).2.2.2 ∧ (allT tb len (q0F F)).2.2.2 ≤ 401 := by
  have := spT_m (tb := tb) (len := len) (q0 := q0F F) rfl 400
  exact ⟨Nat.le_add_left 1 _, Nat.succ_le_succ this⟩
theorem RE_T (F : Nat → Nat → Int32) {A : TR} (h : 1 ≤ A.2.2.2 ∧ A.2.2.2 ≤ 401) : RE (stT F A) A.1 A.2.1 A.2.2.2 := ⟨rfl, rfl, rfl, h.1, h.2⟩
theorem RE.td {F : Nat → Nat → Int32} {K V : Nat → Int32} {c : Nat} (h : RE F K V c) (L : LL) (m : Nat) : RE (tdF F L m) K V c :=
  ⟨by rw [tdF_ne F L (by omega)]; exact h.1, by rw [tdF_ne F L (by omega)]; exact h.2.1, by rw [tdF_ne F L (by omega)]; exact h.2.2.1, h.2.2.2⟩
theorem RE.sd {F : Nat → Nat → Int32} {K V : Nat → Int32} {c : Nat} (h : RE F K V c) (L : Nat → P5) (m : Nat) : RE (sdF F L m) K V c :=
  ⟨by rw [sdF_ne F L (by omega)]; exact h.1, by rw [sdF_ne F L (by omega)]; exact h.2.1, by rw [sdF_ne F L (by omega)]; exact h.2.2.1, h.2.2.2⟩
def L0 : LL := fun _ => (fun _ => 0, 0)
def Q00 : Nat → P5 := fun _ => (0, 0, 0, fun _ => 0, 0)
/-- what stands in the steps' rows from before -/
def oldQ (F : Nat → Nat → Int32) : Nat → P5 := fun i => (F (26 + 3 * i) 0, F (26 + 3 * i) 1, F (26 + 3 * i) 2, F (26 + 3 * i + 2), F (26 + 3 * i + 1) 1)
def gvZ (x : Bool × Nat × Nat × LL) (F F1 : Nat → Nat → Int32) (P : Nat → Int32) (J : Nat → Int64) : Option Value → Sg → Prop := fun r S2 => (x.1 = true ∧ r = some (.int (nI x.2.1)) ∧ S2 = St (nw (tdF F1 x.2.2.2 x.2.1) x.2.2.1) J) ∨ (x.1 = false ∧ r = some (.int (-10 - P x.2.2.1)) ∧ ∃ G, S2 = St G J ∧ kpR F G)
def prZ (x : Bool × Nat × Nat × (Nat → P5)) (F F1 : Nat → Nat → Int32) (P : Nat → Int32) (J : Nat → Int64) : Option Value → Sg → Prop := fun r S2 => (x.1 = true ∧ r = some (.int (nI x.2.1)) ∧ S2 = St (nw (sdF F1 x.2.2.2 x.2.1) x.2.2.1) J) ∨ (x.1 = false ∧ r = some (.int (-10 - P x.2.2.1)) ∧ ∃ G, S2 = St G J ∧ kpR F G)

theorem kp_td {F : Nat → Nat → Int32} {A : TR} {L : LL} {i j : Nat} {w : Nat → Int32} {d : Int32} (hi : i < 8) : kpR F (nw (setL (tdF (stT F A) L i) (10 + 2 * i) w d) j) := by
  intro q hq
  rw [nw_ne _ _ (by omega), setL_ne _ _ _ (by omega) (by omega), tdF_ne _ _ (by omega), stT_ne _ _ (by omega)]
theorem kp_td0 {F : Nat → Nat → Int32} {A : TR} {L : LL} {i j : Nat} (hi : i ≤ 8) : kpR F (nw (tdF (stT F A) L i) j) := by
  intro q hq
  rw [nw_ne _ _ (by omega), tdF_ne _ _ (by omega), stT_ne _ _ (by omega)]
theorem kp_sd {F : Nat → Nat → Int32} {A : TR} {L : Nat → P5} {i j : Nat} {a b c : Int32} {w : Nat → Int32} {d : Int32} (hi : i < 24) : kpR F (nw (stF (sdF (stT F A) L i) (26 + 3 * i) a b c w d) j) := by
  intro q hq
  rw [nw_ne _ _ (by omega), stF_ne _ _ _ _ _ _ (by omega) (by omega) (by omega), sdF_ne _ _ (by omega), stT_ne _ _ (by omega)]
theorem kp_sd0 {F : Nat → Nat → Int32} {A : TR} {L : Nat → P5} {i j : Nat} (hi : i ≤ 24) : kpR F (nw (sdF (stT F A) L i) j) := by
  intro q hq
  rw [nw_ne _ _ (by omega), sdF_ne _ _ (by omega), stT_ne _ _ (by omega)]
theorem pl_td {F : Nat → Nat → Int32} {A : TR} {L : LL} {i j : Nat} {w : Nat → Int32} {d : Int32} : nw (setL (tdF (stT F A) L i) (10 + 2 * i) w d) j 9 = A.2.2.1 := by
  rw [nw_ne _ _ (by omega), setL_ne _ _ _ (by omega) (by omega), tdF_ne _ _ (by omega)]; rfl
theorem pl_td0 {F : Nat → Nat → Int32} {A : TR} {L : LL} {i j : Nat} : nw (tdF (stT F A) L i) j 9 = A.2.2.1 := by
  rw [nw_ne _ _ (by omega), tdF_ne _ _ (by omega)]; rfl
theorem pl_sd {F : Nat → Nat → Int32} {A : TR} {L : Nat → P5} {i j : Nat} {a b c : Int32} {w : Nat → Int32} {d : Int32} : nw (stF (sdF (stT F A) L i) (26 + 3 * i) a b c w d) j 9 = A.2.2.1 := by
  rw [nw_ne _ _ (by omega), stF_ne _ _ _ _ _ _ (by omega) (by omega) (by omega), sdF_ne _ _ (by omega)]; rfl
theorem pl_sd0 {F : Nat → Nat → Int32} {A : TR} {L : Nat → P5} {i j : Nat} : nw (sdF (stT F A) L i) j 9 = A.2.2.1 := by
  rw [nw_ne _ _ (by omega), sdF_ne _ _ (by omega)]; rfl

set_option maxRecDepth 100000 in
set_option maxHeartbeats 4000000 in
theorem ex_readGiven (g : Gl) (l : Launch) (F : Nat → Nat → Int32) (J : Nat → Int64) (A : TR) (hA : 1 ≤ A.2.2.2 ∧ A.2.2.2 ≤ 401) (hR : RE (stT F A) A.1 A.2.1 A.2.2.2) {XX : State → Method → Prop} (i s : Nat) (L : LL) (hi : i ≤ 8) (hs : s < A.2.2.2) (he : (gvR (crF A.1 A.2.1) (gn A.2.2.2) 8 0 0 L0) = (decide (((crF A.1 A.2.1) s).1 = 0), i, s, L)) : Gj g l (rmd 8 0 0) XX (QM g (gvZ (gvR (crF A.1 A.2.1) (gn A.2.2.2) 8 0 0 L0) F (stT F A) A.2.2.1 J) 0 0) RX3 cX3_readGiven 3 (some .int) 65 [some (.ref 3), some (.ref 1), some (.int (nI i))] [] (St (nw (tdF (stT F A) L i) s) J) 0 0 := by
  refine g_aload_n 66 dX3_readGiven_65 rfl rfl ?_
  refine gf_3_2 69 dX3_readGiven_66 rfl kf_X3_26 ?_
  refine g_v0 6 72 dX3_readGiven_69 rfl kl_X3_36 mv_X6_kind rfl ⟨Nat.le_of_ble_eq_true rfl, Nat.le_of_ble_eq_true rfl⟩ (Nat.le_of_ble_eq_true rfl) (by first | decide | assumption | exact ⟨Nat.le_of_ble_eq_true rfl, rfl⟩) (c_kind g l _ J (j := s) rfl (by omega)) ?_
  rintro _ _ ⟨rfl, rfl⟩
  rw [show nw (tdF (stT F A) L i) s 7 = A.1 from (hR.td L i).1]
  refine g_if_ne 79 75 dX3_readGiven_72 rfl (by decide) (fun h72 => ?_) (fun h72 => ?_)
  · refine g_bipush (-10) 81 dX3_readGiven_79 rfl (by decide) ?_
    refine g_aload_n 82 dX3_readGiven_81 rfl rfl ?_
    refine gf_3_2 85 dX3_readGiven_82 rfl kf_X3_26 ?_
    refine g_v0 6 88 dX3_readGiven_85 rfl kl_X3_48 mv_X6_place rfl ⟨Nat.le_of_ble_eq_true rfl, Nat.le_of_ble_eq_true rfl⟩ (Nat.le_of_ble_eq_true rfl) (by first | decide | assumption | exact ⟨Nat.le_of_ble_eq_true rfl, rfl⟩) (c_place g l _ J (j := s) rfl (by omega)) ?_
    rintro _ _ ⟨rfl, rfl⟩
    rw [pl_td0]
    refine g_isub 89 dX3_readGiven_88 rfl ?_
    refine g_iret dX3_readGiven_89 ?_
    have e : ¬ ((crF A.1 A.2.1) s).1 = 0 := h72
    exact Or.inr ⟨by rw [he]; exact decide_eq_false e, by rw [he], _, rfl, kp_td0 hi⟩
  · refine g_iload_n 76 dX3_readGiven_75 rfl rfl ?_
    refine g_goto 89 dX3_readGiven_76 (by decide) ?_
    refine g_iret dX3_readGiven_89 ?_
    have e : ((crF A.1 A.2.1) s).1 = 0 := h72
    exact Or.inl ⟨by rw [he]; exact decide_eq_true e, by rw [he], by rw [he]⟩

set_option maxRecDepth 100000 in
set_option maxHeartbeats 4000000 in
theorem lp_readGiven (g : Gl) (l : Launch) (F : Nat → Nat → Int32) (J : Nat → Int64) (A : TR) (hA : 1 ≤ A.2.2.2 ∧ A.2.2.2 ≤ 401) (hR : RE (stT F A) A.1 A.2.1 A.2.2.2) {XX : State → Method → Prop} (n : Nat) : ∀ (i s : Nat) (ix : Int32) (L : LL), i + n = 8 → ix = nI i → s < A.2.2.2 → (gvR (crF A.1 A.2.1) (gn A.2.2.2) 8 0 0 L0) = gvR (crF A.1 A.2.1) (gn A.2.2.2) n i s L → Gj g l (rmd 8 0 0) XX (QM g (gvZ (gvR (crF A.1 A.2.1) (gn A.2.2.2) 8 0 0 L0) F (stT F A) A.2.2.1 J) 0 0) RX3 cX3_readGiven 3 (some .int) 10 [some (.ref 3), some (.ref 1), some (.int ix)] [] (St (nw (tdF (stT F A) L i) s) J) 0 0 := by
  induction n with
  | zero =>
    intro i s ix L hi hx hs he
    obtain rfl : i = 8 := by omega
    subst hx
    refine g_iload_n 11 dX3_readGiven_10 rfl rfl ?_
    refine g_bipush (8) 13 dX3_readGiven_11 rfl (by decide) ?_
    refine g_icmp_ge 65 16 dX3_readGiven_13 rfl (by decide) (fun h13 => ?_) (fun h13 => ?_)
    · exact ex_readGiven g l F J A hA hR _ s L (by omega) hs he
    · exact absurd (by decide) h13
  | succ n ih =>
    intro i s ix L hi hx hs he
    subst hx
    have hR2 := hR.td L i
    have hpl := pLine_lt (K := A.1) (V := A.2.1) hs
    have hti := td_is i (by omega)
    refine g_iload_n 11 dX3_readGiven_10 rfl rfl ?_
    refine g_bipush (8) 13 dX3_readGiven_11 rfl (by decide) ?_
    refine g_icmp_ge 65 16 dX3_readGiven_13 rfl (by decide) (fun h13 => ?_) (fun h13 => ?_)
    · exact absurd h13 (nI_ge (a := i) (b := 8) (by omega) (by decide))
    · refine g_aload_n 17 dX3_readGiven_16 rfl rfl ?_
      refine gf_3_2 20 dX3_readGiven_17 rfl kf_X3_26 ?_
      refine g_v0 6 23 dX3_readGiven_20 rfl kl_X3_36 mv_X6_kind rfl ⟨Nat.le_of_ble_eq_true rfl, Nat.le_of_ble_eq_true rfl⟩ (Nat.le_of_ble_eq_true rfl) (by first | decide | assumption | exact ⟨Nat.le_of_ble_eq_true rfl, rfl⟩) (c_kind g l _ J (j := s) rfl (by omega)) ?_
      rintro _ _ ⟨rfl, rfl⟩
      rw [show nw (tdF (stT F A) L i) s 7 = A.1 from (hR.td L i).1]
      refine g_if_eq 65 26 dX3_readGiven_23 rfl (by decide) (fun h23 => ?_) (fun h23 => ?_)
      · have e : ((crF A.1 A.2.1) s).1 = 0 := h23
        exact ex_readGiven g l F J A hA hR i s L (by omega) hs (by rw [he, gvR, if_pos e, decide_eq_true e])
      · refine g_aload_n 27 dX3_readGiven_26 rfl rfl ?_
        refine g_aload_n 28 dX3_readGiven_27 rfl rfl ?_
        refine gf_3_0 31 dX3_readGiven_28 rfl kf_X3_11 ?_
        refine g_iload_n 32 dX3_readGiven_31 rfl rfl ?_
        refine ga_told i 33 dX3_readGiven_32 rfl rfl (by omega) ?_
        refine g_v1 3 36 dX3_readGiven_33 rfl kl_X3_40 mv_X3_takeLine rfl ⟨Nat.le_of_ble_eq_true rfl, Nat.le_of_ble_eq_true rfl⟩ (Nat.le_of_ble_eq_true rfl) (by first | decide | assumption | exact ⟨Nat.le_of_ble_eq_true rfl, rfl⟩) (c_takeLine g l hti (tdF (stT F A) L i) J hR2 hs) ?_
        rintro r S2 (⟨q0, rfl, rfl⟩ | ⟨q0, rfl, rfl⟩)
        · refine g_if_eq 48 39 dX3_readGiven_36 rfl (by decide) (fun h36 => ?_) (fun h36 => ?_)
          · exact absurd h36 (by decide)
          · refine g_aload_n 40 dX3_readGiven_39 rfl rfl ?_
            refine g_bipush (6) 42 dX3_readGiven_40 rfl (by decide) ?_
            refine g_v1 3 45 dX3_readGiven_42 rfl kl_X3_44 mv_X3_take rfl ⟨Nat.le_of_ble_eq_true rfl, Nat.le_of_ble_eq_true rfl⟩ (Nat.le_of_ble_eq_true rfl) (by first | decide | assumption | exact ⟨Nat.le_of_ble_eq_true rfl, rfl⟩) (c_take g l 6 _ J (hR2.set hti _ _) hpl) ?_
            rintro r S2 (⟨q1, rfl, rfl⟩ | ⟨q1, rfl, rfl⟩)
            · refine g_if_ne 59 48 dX3_readGiven_45 rfl (by decide) (fun h45 => ?_) (fun h45 => ?_)
              · refine g_iinc (1) 62 dX3_readGiven_59 rfl (by decide) (by decide) rfl ?_
                refine g_goto 10 dX3_readGiven_62 (by decide) ?_
                have e : ¬ ((crF A.1 A.2.1) s).1 = 0 := h23
                rw [tdF_next]
                exact ih (i + 1) _ _ _ (by omega) (nI_succ i).symm (pTok_lt 6 hpl) (by rw [he, gvR, if_neg e, if_pos q0, if_pos q1])
              · exact absurd h45 (by decide)
            · refine g_if_ne 59 48 dX3_readGiven_45 rfl (by decide) (fun h45 => ?_) (fun h45 => ?_)
              · exact absurd h45 (by decide)
              · refine g_bipush (-10) 50 dX3_readGiven_48 rfl (by decide) ?_
                refine g_aload_n 51 dX3_readGiven_50 rfl rfl ?_
                refine gf_3_2 54 dX3_readGiven_51 rfl kf_X3_26 ?_
                refine g_v0 6 57 dX3_readGiven_54 rfl kl_X3_48 mv_X6_place rfl ⟨Nat.le_of_ble_eq_true rfl, Nat.le_of_ble_eq_true rfl⟩ (Nat.le_of_ble_eq_true rfl) (by first | decide | assumption | exact ⟨Nat.le_of_ble_eq_true rfl, rfl⟩) (c_place g l _ J rfl (by have := pTok_lt (K := A.1) (V := A.2.1) (c := A.2.2.2) 6 hpl; omega)) ?_
                rintro _ _ ⟨rfl, rfl⟩
                rw [pl_td]
                refine g_isub 58 dX3_readGiven_57 rfl ?_
                refine g_iret dX3_readGiven_58 ?_
                have e : ¬ ((crF A.1 A.2.1) s).1 = 0 := h23
                exact Or.inr ⟨by rw [he, gvR, if_neg e, if_pos q0, if_neg (by rw [q1]; decide)], by rw [he, gvR, if_neg e, if_pos q0, if_neg (by rw [q1]; decide)], _, rfl, kp_td (by omega)⟩
        · refine g_if_eq 48 39 dX3_readGiven_36 rfl (by decide) (fun h36 => ?_) (fun h36 => ?_)
          · refine g_bipush (-10) 50 dX3_readGiven_48 rfl (by decide) ?_
            refine g_aload_n 51 dX3_readGiven_50 rfl rfl ?_
            refine gf_3_2 54 dX3_readGiven_51 rfl kf_X3_26 ?_
            refine g_v0 6 57 dX3_readGiven_54 rfl kl_X3_48 mv_X6_place rfl ⟨Nat.le_of_ble_eq_true rfl, Nat.le_of_ble_eq_true rfl⟩ (Nat.le_of_ble_eq_true rfl) (by first | decide | assumption | exact ⟨Nat.le_of_ble_eq_true rfl, rfl⟩) (c_place g l _ J rfl (by have := pTok_lt (K := A.1) (V := A.2.1) (c := A.2.2.2) 6 hpl; omega)) ?_
            rintro _ _ ⟨rfl, rfl⟩
            rw [pl_td]
            refine g_isub 58 dX3_readGiven_57 rfl ?_
            refine g_iret dX3_readGiven_58 ?_
            have e : ¬ ((crF A.1 A.2.1) s).1 = 0 := h23
            exact Or.inr ⟨by rw [he, gvR, if_neg e, if_neg (by rw [q0]; decide)], by rw [he, gvR, if_neg e, if_neg (by rw [q0]; decide)], _, rfl, kp_td (by omega)⟩
          · exact absurd h36 (by decide)

set_option maxRecDepth 100000 in
set_option maxHeartbeats 4000000 in
theorem c_readGiven (g : Gl) (l : Launch) (F : Nat → Nat → Int32) (J : Nat → Int64) {len : Nat} (hl : F 1 1 = nI len) (hlen : len ≤ 400) : Ct g l yX3_readGiven cX3_readGiven 3 (some .int) 8 0 0 [.ref 3, .ref 1] (St F J) (let A := (allT (at_ F len) len (q0F F)); (gvZ (gvR (crF A.1 A.2.1) (gn A.2.2.2) 8 0 0 L0) F (stT F A) A.2.2.1 J)) := by
  have hA := allT_c (at_ F len) len F
  have hR := RE_T F hA
  dsimp only
  refine Ct.of rfl (by decide) rfl (Nat.le_of_ble_eq_true rfl) ?_
  refine g_aload_n 1 dX3_readGiven_0 rfl rfl ?_
  refine gf_3_2 4 dX3_readGiven_1 rfl kf_X3_26 ?_
  refine g_aload_n 5 dX3_readGiven_4 rfl rfl ?_
  refine g_v1 6 8 dX3_readGiven_5 rfl kl_X3_32 mv_X6_split rfl ⟨Nat.le_of_ble_eq_true rfl, Nat.le_of_ble_eq_true rfl⟩ (Nat.le_of_ble_eq_true rfl) (by first | decide | assumption | exact ⟨Nat.le_of_ble_eq_true rfl, rfl⟩) (c_split g l F J hl hlen) ?_
  rintro _ _ ⟨rfl, rfl⟩
  generalize allT (at_ F len) len (q0F F) = A at hA hR ⊢
  refine g_iconst (0) 9 dX3_readGiven_8 rfl (by decide) ?_
  refine g_istore_n 10 dX3_readGiven_9 rfl (by decide) ?_
  exact gs_at (congrArg (fun G => St G J) (stT_now F A)) (lp_readGiven g l F J A hA hR 8 0 0 _ L0 rfl rfl (by omega) rfl)

theorem sd_old (F : Nat → Nat → Int32) (A : TR) (Q : Nat → P5) (i : Nat) : stF (sdF (stT F A) Q i) (26 + 3 * i) (oldQ F i).1 (oldQ F i).2.1 (oldQ F i).2.2.1 (oldQ F i).2.2.2.1 (oldQ F i).2.2.2.2 = sdF (stT F A) Q i := by
  have e : ∀ q, 26 + 3 * i ≤ q → sdF (stT F A) Q i q = F q := fun q h => by rw [sdF_ne _ _ (Or.inr h), stT_ne _ _ (by omega)]
  have h := stF_self (sdF (stT F A) Q i) (26 + 3 * i)
  rw [e _ (Nat.le_refl _), e (26 + 3 * i + 2) (by omega), e (26 + 3 * i + 1) (by omega)] at h
  exact h.symm

set_option maxRecDepth 100000 in
set_option maxHeartbeats 4000000 in
theorem c_tst (g : Gl) (l : Launch) (gc : Int32) (F : Nat → Nat → Int32) (J : Nat → Int64) (A : TR) (hA : 1 ≤ A.2.2.2 ∧ A.2.2.2 ≤ 401) (hR : RE (stT F A) A.1 A.2.1 A.2.2.2) {i s : Nat} (hi : i < 24) (hs : s < A.2.2.2) (Q : Nat → P5) : Ct g l yX3_takeStepText cX3_takeStepText 3 (some .boolean) 4 0 0 [.ref 3, .ref (26 + 3 * i), .int (gc + nI i)] (St (nw (sdF (stT F A) Q i) s) J) (sZ (pSt (crF A.1 A.2.1) (gn A.2.2.2) gc (oldQ F) i s) (sdF (stT F A) Q i) J (26 + 3 * i) (A.2.1 s)) := by
  have h := c_takeStepText g l (gc + nI i) (sd_is i hi) (oldQ F i).1 (oldQ F i).2.1 (oldQ F i).2.2.1 (oldQ F i).2.2.2.1 (oldQ F i).2.2.2.2 (sdF (stT F A) Q i) J (hR.sd Q i) hs
  rw [sd_old] at h
  exact h
set_option maxRecDepth 100000 in
set_option maxHeartbeats 4000000 in
theorem ex_readProof (g : Gl) (l : Launch) (gc : Int32) (F : Nat → Nat → Int32) (J : Nat → Int64) (A : TR) (hA : 1 ≤ A.2.2.2 ∧ A.2.2.2 ≤ 401) (hR : RE (stT F A) A.1 A.2.1 A.2.2.2) {XX : State → Method → Prop} (i s : Nat) (Q : Nat → P5) (hi : i ≤ 24) (hs : s < A.2.2.2) (he : (prR (crF A.1 A.2.1) (gn A.2.2.2) gc (oldQ F) 24 0 0 Q00) = (decide (((crF A.1 A.2.1) s).1 = 0), i, s, Q)) : Gj g l (rmd 8 0 0) XX (QM g (prZ (prR (crF A.1 A.2.1) (gn A.2.2.2) gc (oldQ F) 24 0 0 Q00) F (stT F A) A.2.2.1 J) 0 0) RX3 cX3_readProof 4 (some .int) 68 [some (.ref 3), some (.ref 1), some (.int gc), some (.int (nI i))] [] (St (nw (sdF (stT F A) Q i) s) J) 0 0 := by
  refine g_aload_n 69 dX3_readProof_68 rfl rfl ?_
  refine gf_3_2 72 dX3_readProof_69 rfl kf_X3_26 ?_
  refine g_v0 6 75 dX3_readProof_72 rfl kl_X3_36 mv_X6_kind rfl ⟨Nat.le_of_ble_eq_true rfl, Nat.le_of_ble_eq_true rfl⟩ (Nat.le_of_ble_eq_true rfl) (by first | decide | assumption | exact ⟨Nat.le_of_ble_eq_true rfl, rfl⟩) (c_kind g l _ J (j := s) rfl (by omega)) ?_
  rintro _ _ ⟨rfl, rfl⟩
  rw [show nw (sdF (stT F A) Q i) s 7 = A.1 from (hR.sd Q i).1]
  refine g_if_ne 82 78 dX3_readProof_75 rfl (by decide) (fun h75 => ?_) (fun h75 => ?_)
  · refine g_bipush (-10) 84 dX3_readProof_82 rfl (by decide) ?_
    refine g_aload_n 85 dX3_readProof_84 rfl rfl ?_
    refine gf_3_2 88 dX3_readProof_85 rfl kf_X3_26 ?_
    refine g_v0 6 91 dX3_readProof_88 rfl kl_X3_48 mv_X6_place rfl ⟨Nat.le_of_ble_eq_true rfl, Nat.le_of_ble_eq_true rfl⟩ (Nat.le_of_ble_eq_true rfl) (by first | decide | assumption | exact ⟨Nat.le_of_ble_eq_true rfl, rfl⟩) (c_place g l _ J (j := s) rfl (by omega)) ?_
    rintro _ _ ⟨rfl, rfl⟩
    rw [pl_sd0]
    refine g_isub 92 dX3_readProof_91 rfl ?_
    refine g_iret dX3_readProof_92 ?_
    have e : ¬ ((crF A.1 A.2.1) s).1 = 0 := h75
    exact Or.inr ⟨by rw [he]; exact decide_eq_false e, by rw [he], _, rfl, kp_sd0 hi⟩
  · refine g_iload_n 79 dX3_readProof_78 rfl rfl ?_
    refine g_goto 92 dX3_readProof_79 (by decide) ?_
    refine g_iret dX3_readProof_92 ?_
    have e : ((crF A.1 A.2.1) s).1 = 0 := h75
    exact Or.inl ⟨by rw [he]; exact decide_eq_true e, by rw [he], by rw [he]⟩

set_option maxRecDepth 100000 in
set_option maxHeartbeats 4000000 in
theorem lp_readProof (g : Gl) (l : Launch) (gc : Int32) (F : Nat → Nat → Int32) (J : Nat → Int64) (A : TR) (hA : 1 ≤ A.2.2.2 ∧ A.2.2.2 ≤ 401) (hR : RE (stT F A) A.1 A.2.1 A.2.2.2) {XX : State → Method → Prop} (n : Nat) : ∀ (i s : Nat) (ix : Int32) (Q : Nat → P5), i + n = 24 → ix = nI i → s < A.2.2.2 → (prR (crF A.1 A.2.1) (gn A.2.2.2) gc (oldQ F) 24 0 0 Q00) = prR (crF A.1 A.2.1) (gn A.2.2.2) gc (oldQ F) n i s Q → Gj g l (rmd 8 0 0) XX (QM g (prZ (prR (crF A.1 A.2.1) (gn A.2.2.2) gc (oldQ F) 24 0 0 Q00) F (stT F A) A.2.2.1 J) 0 0) RX3 cX3_readProof 4 (some .int) 10 [some (.ref 3), some (.ref 1), some (.int gc), some (.int ix)] [] (St (nw (sdF (stT F A) Q i) s) J) 0 0 := by
  induction n with
  | zero =>
    intro i s ix Q hi hx hs he
    obtain rfl : i = 24 := by omega
    subst hx
    refine g_iload_n 11 dX3_readProof_10 rfl rfl ?_
    refine g_bipush (24) 13 dX3_readProof_11 rfl (by decide) ?_
    refine g_icmp_ge 68 16 dX3_readProof_13 rfl (by decide) (fun h13 => ?_) (fun h13 => ?_)
    · exact ex_readProof g l gc F J A hA hR _ s Q (by omega) hs he
    · exact absurd (by decide) h13
  | succ n ih =>
    intro i s ix Q hi hx hs he
    subst hx
    have hR2 := hR.sd Q i
    have hpl := pStep_lt (K := A.1) (V := A.2.1) (c := A.2.2.2) (gc + nI i) (oldQ F i).2.1 (oldQ F i).2.2.1 (oldQ F i).2.2.2.1 (oldQ F i).2.2.2.2 hs
    have hti := sd_is i (by omega)
    refine g_iload_n 11 dX3_readProof_10 rfl rfl ?_
    refine g_bipush (24) 13 dX3_readProof_11 rfl (by decide) ?_
    refine g_icmp_ge 68 16 dX3_readProof_13 rfl (by decide) (fun h13 => ?_) (fun h13 => ?_)
    · exact absurd h13 (nI_ge (a := i) (b := 24) (by omega) (by decide))
    · refine g_aload_n 17 dX3_readProof_16 rfl rfl ?_
      refine gf_3_2 20 dX3_readProof_17 rfl kf_X3_26 ?_
      refine g_v0 6 23 dX3_readProof_20 rfl kl_X3_36 mv_X6_kind rfl ⟨Nat.le_of_ble_eq_true rfl, Nat.le_of_ble_eq_true rfl⟩ (Nat.le_of_ble_eq_true rfl) (by first | decide | assumption | exact ⟨Nat.le_of_ble_eq_true rfl, rfl⟩) (c_kind g l _ J (j := s) rfl (by omega)) ?_
      rintro _ _ ⟨rfl, rfl⟩
      rw [show nw (sdF (stT F A) Q i) s 7 = A.1 from (hR.sd Q i).1]
      refine g_if_eq 68 26 dX3_readProof_23 rfl (by decide) (fun h23 => ?_) (fun h23 => ?_)
      · have e : ((crF A.1 A.2.1) s).1 = 0 := h23
        exact ex_readProof g l gc F J A hA hR i s Q (by omega) hs (by rw [he, prR, if_pos e, decide_eq_true e])
      · refine g_aload_n 27 dX3_readProof_26 rfl rfl ?_
        refine g_aload_n 28 dX3_readProof_27 rfl rfl ?_
        refine gf_3_1 31 dX3_readProof_28 rfl kf_X3_19 ?_
        refine g_iload_n 32 dX3_readProof_31 rfl rfl ?_
        refine ga_steps i 33 dX3_readProof_32 rfl rfl (by omega) ?_
        refine g_iload_n 34 dX3_readProof_33 rfl rfl ?_
        refine g_iload_n 35 dX3_readProof_34 rfl rfl ?_
        refine g_iadd 36 dX3_readProof_35 rfl ?_
        refine g_v2 3 39 dX3_readProof_36 rfl kl_X3_51 mv_X3_takeStepText rfl ⟨Nat.le_of_ble_eq_true rfl, Nat.le_of_ble_eq_true rfl⟩ (Nat.le_of_ble_eq_true rfl) (by first | decide | assumption | exact ⟨Nat.le_of_ble_eq_true rfl, rfl⟩) (c_tst g l gc F J A hA hR (by omega) hs Q) ?_
        rintro r S2 (⟨q0, rfl, rfl⟩ | ⟨q0, rfl, rfl⟩)
        · refine g_if_eq 51 42 dX3_readProof_39 rfl (by decide) (fun h39 => ?_) (fun h39 => ?_)
          · exact absurd h39 (by decide)
          · refine g_aload_n 43 dX3_readProof_42 rfl rfl ?_
            refine g_bipush (6) 45 dX3_readProof_43 rfl (by decide) ?_
            refine g_v1 3 48 dX3_readProof_45 rfl kl_X3_44 mv_X3_take rfl ⟨Nat.le_of_ble_eq_true rfl, Nat.le_of_ble_eq_true rfl⟩ (Nat.le_of_ble_eq_true rfl) (by first | decide | assumption | exact ⟨Nat.le_of_ble_eq_true rfl, rfl⟩) (c_take g l 6 _ J (hR2.st (by omega) _ _ _ _ _) hpl) ?_
            rintro r S2 (⟨q1, rfl, rfl⟩ | ⟨q1, rfl, rfl⟩)
            · refine g_if_ne 62 51 dX3_readProof_48 rfl (by decide) (fun h48 => ?_) (fun h48 => ?_)
              · refine g_iinc (1) 65 dX3_readProof_62 rfl (by decide) (by decide) rfl ?_
                refine g_goto 10 dX3_readProof_65 (by decide) ?_
                have e : ¬ ((crF A.1 A.2.1) s).1 = 0 := h23
                exact gs_at (congrArg (fun G => St (nw G _) J) (sdF_next (stT F A) Q i (pRc (crF A.1 A.2.1) (gn A.2.2.2) gc (oldQ F) i s))) (ih (i + 1) _ _ _ (by omega) (nI_succ i).symm (pTok_lt 6 hpl) (by rw [he, prR, if_neg e, if_pos q0, if_pos q1]))
              · exact absurd h48 (by decide)
            · refine g_if_ne 62 51 dX3_readProof_48 rfl (by decide) (fun h48 => ?_) (fun h48 => ?_)
              · exact absurd h48 (by decide)
              · refine g_bipush (-10) 53 dX3_readProof_51 rfl (by decide) ?_
                refine g_aload_n 54 dX3_readProof_53 rfl rfl ?_
                refine gf_3_2 57 dX3_readProof_54 rfl kf_X3_26 ?_
                refine g_v0 6 60 dX3_readProof_57 rfl kl_X3_48 mv_X6_place rfl ⟨Nat.le_of_ble_eq_true rfl, Nat.le_of_ble_eq_true rfl⟩ (Nat.le_of_ble_eq_true rfl) (by first | decide | assumption | exact ⟨Nat.le_of_ble_eq_true rfl, rfl⟩) (c_place g l _ J rfl (by have := pTok_lt (K := A.1) (V := A.2.1) (c := A.2.2.2) 6 hpl; first | omega | (have : (pSt (crF A.1 A.2.1) (gn A.2.2.2) gc (oldQ F) i s).2.1 < A.2.2.2 := hpl; omega) | exact Nat.lt_of_lt_of_le this hA.2)) ?_
                rintro _ _ ⟨rfl, rfl⟩
                rw [pl_sd]
                refine g_isub 61 dX3_readProof_60 rfl ?_
                refine g_iret dX3_readProof_61 ?_
                have e : ¬ ((crF A.1 A.2.1) s).1 = 0 := h23
                exact Or.inr ⟨by rw [he, prR, if_neg e, if_pos q0, if_neg (by rw [q1]; decide)], by rw [he, prR, if_neg e, if_pos q0, if_neg (by rw [q1]; decide)], _, rfl, kp_sd (by omega)⟩
        · refine g_if_eq 51 42 dX3_readProof_39 rfl (by decide) (fun h39 => ?_) (fun h39 => ?_)
          · refine g_bipush (-10) 53 dX3_readProof_51 rfl (by decide) ?_
            refine g_aload_n 54 dX3_readProof_53 rfl rfl ?_
            refine gf_3_2 57 dX3_readProof_54 rfl kf_X3_26 ?_
            refine g_v0 6 60 dX3_readProof_57 rfl kl_X3_48 mv_X6_place rfl ⟨Nat.le_of_ble_eq_true rfl, Nat.le_of_ble_eq_true rfl⟩ (Nat.le_of_ble_eq_true rfl) (by first | decide | assumption | exact ⟨Nat.le_of_ble_eq_true rfl, rfl⟩) (c_place g l _ J rfl (by have := pTok_lt (K := A.1) (V := A.2.1) (c := A.2.2.2) 6 hpl; first | omega | (have : (pSt (crF A.1 A.2.1) (gn A.2.2.2) gc (oldQ F) i s).2.1 < A.2.2.2 := hpl; omega) | exact Nat.lt_of_lt_of_le this hA.2)) ?_
            rintro _ _ ⟨rfl, rfl⟩
            rw [pl_sd]
            refine g_isub 61 dX3_readProof_60 rfl ?_
            refine g_iret dX3_readProof_61 ?_
            have e : ¬ ((crF A.1 A.2.1) s).1 = 0 := h23
            exact Or.inr ⟨by rw [he, prR, if_neg e, if_neg (by rw [q0]; decide)], by rw [he, prR, if_neg e, if_neg (by rw [q0]; decide)], _, rfl, kp_sd (by omega)⟩
          · exact absurd h39 (by decide)

set_option maxRecDepth 100000 in
set_option maxHeartbeats 4000000 in
theorem c_readProof (g : Gl) (l : Launch) (gc : Int32) (F : Nat → Nat → Int32) (J : Nat → Int64) {len : Nat} (hl : F 1 1 = nI len) (hlen : len ≤ 400) : Ct g l yX3_readProof cX3_readProof 4 (some .int) 8 0 0 [.ref 3, .ref 1, .int gc] (St F J) (let A := (allT (at_ F len) len (q0F F)); (prZ (prR (crF A.1 A.2.1) (gn A.2.2.2) gc (oldQ F) 24 0 0 Q00) F (stT F A) A.2.2.1 J)) := by
  have hA := allT_c (at_ F len) len F
  have hR := RE_T F hA
  dsimp only
  refine Ct.of rfl (by decide) rfl (Nat.le_of_ble_eq_true rfl) ?_
  refine g_aload_n 1 dX3_readProof_0 rfl rfl ?_
  refine gf_3_2 4 dX3_readProof_1 rfl kf_X3_26 ?_
  refine g_aload_n 5 dX3_readProof_4 rfl rfl ?_
  refine g_v1 6 8 dX3_readProof_5 rfl kl_X3_32 mv_X6_split rfl ⟨Nat.le_of_ble_eq_true rfl, Nat.le_of_ble_eq_true rfl⟩ (Nat.le_of_ble_eq_true rfl) (by first | decide | assumption | exact ⟨Nat.le_of_ble_eq_true rfl, rfl⟩) (c_split g l F J hl hlen) ?_
  rintro _ _ ⟨rfl, rfl⟩
  generalize allT (at_ F len) len (q0F F) = A at hA hR ⊢
  refine g_iconst (0) 9 dX3_readProof_8 rfl (by decide) ?_
  refine g_istore_n 10 dX3_readProof_9 rfl (by decide) ?_
  exact gs_at (congrArg (fun G => St G J) (stT_now F A)) (lp_readProof g l gc F J A hA hR 24 0 0 _ Q00 rfl rfl (by omega) rfl)

