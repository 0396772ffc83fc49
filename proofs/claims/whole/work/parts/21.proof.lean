/-! TruthSums: GIVEN and THE PROOF -/
def hdF (F : Nat → Nat → Int32) (a b c d e : Int32) : Nat → Nat → Int32 := fun q => if q = 0 then (fun j => if j = 7 then a else if j = 8 then b else if j = 9 then c else if j = 10 then d else if j = 11 then e else F 0 j) else F q
theorem hd_ne (F : Nat → Nat → Int32) {q : Nat} (a b c d e : Int32) (h : q ≠ 0) : hdF F a b c d e q = F q := by simp [hdF, h]
theorem hd_up (F : Nat → Nat → Int32) (a b c d e x : Int32) : up2 (hdF F a b c d e) 0 7 x = hdF F x b c d e ∧ up2 (hdF F a b c d e) 0 8 x = hdF F a x c d e ∧ up2 (hdF F a b c d e) 0 9 x = hdF F a b x d e ∧ up2 (hdF F a b c d e) 0 10 x = hdF F a b c x e ∧ up2 (hdF F a b c d e) 0 11 x = hdF F a b c d x := by
  have key : ∀ (i : Nat) (a2 b2 c2 d2 e2 : Int32), (∀ j, upd (fun j => if j = 7 then a else if j = 8 then b else if j = 9 then c else if j = 10 then d else if j = 11 then e else F 0 j) i x j = if j = 7 then a2 else if j = 8 then b2 else if j = 9 then c2 else if j = 10 then d2 else if j = 11 then e2 else F 0 j) → up2 (hdF F a b c d e) 0 i x = hdF F a2 b2 c2 d2 e2 := by
    intro i a2 b2 c2 d2 e2 h
    funext q j
    by_cases z : q = 0
    · subst z; rw [up2_same]; exact h j
    · rw [up2_ne _ _ _ z, hd_ne _ _ _ _ _ _ z, hd_ne _ _ _ _ _ _ z]
  refine ⟨key 7 x b c d e (fun j => ?_), key 8 a x c d e (fun j => ?_), key 9 a b x d e (fun j => ?_), key 10 a b c x e (fun j => ?_), key 11 a b c d x (fun j => ?_)⟩
  · by_cases z : j = 7 <;> simp [upd, z]
  · by_cases z : j = 8 <;> simp [upd, z]
  · by_cases z : j = 9 <;> simp [upd, z]
  · by_cases z : j = 10 <;> simp [upd, z]
  · by_cases z : j = 11 <;> simp [upd, z]
theorem hd_self (F : Nat → Nat → Int32) : F = hdF F (F 0 7) (F 0 8) (F 0 9) (F 0 10) (F 0 11) := by
  funext q j
  by_cases z : q = 0
  · subst z
    simp only [hdF, if_true]
    by_cases e7 : j = 7
    · simp [e7]
    · by_cases e8 : j = 8
      · simp [e8]
      · by_cases e9 : j = 9
        · simp [e9]
        · by_cases e10 : j = 10
          · simp [e10]
          · by_cases e11 : j = 11 <;> simp [e7, e8, e9, e10, e11]
  · rw [hd_ne _ _ _ _ _ _ z]
theorem hd_forget (F : Nat → Nat → Int32) : up2 (up2 (up2 (up2 F 0 8 0) 0 9 0) 0 10 (-9)) 0 11 (-9) = hdF F (F 0 7) 0 0 (-9) (-9) := by
  have h : up2 (up2 (up2 (up2 F 0 8 0) 0 9 0) 0 10 (-9)) 0 11 (-9) = up2 (up2 (up2 (up2 (hdF F (F 0 7) (F 0 8) (F 0 9) (F 0 10) (F 0 11)) 0 8 0) 0 9 0) 0 10 (-9)) 0 11 (-9) := congrArg (fun X => up2 (up2 (up2 (up2 X 0 8 0) 0 9 0) 0 10 (-9)) 0 11 (-9)) (hd_self F)
  rw [h, (hd_up _ _ _ _ _ _ _).2.1, (hd_up _ _ _ _ _ _ _).2.2.1, (hd_up _ _ _ _ _ _ _).2.2.2.1, (hd_up _ _ _ _ _ _ _).2.2.2.2]
def upW (W : Nat → Nat → Int32) (i : Nat) (w : Nat → Int32) : Nat → Nat → Int32 := fun q => if q = i then (fun j => if j < 6 then w j else W i j) else W q
theorem Wc_set (F : Nat → Nat → Int32) (i : Nat) (w : Nat → Int32) (d : Int32) : Wc (setL F (101 + 2 * i) w d) = upW (Wc F) i w := by
  funext q j
  simp only [Wc, upW]
  by_cases h : q = i
  · subst h; simp [setL, up2, fillL]
  · rw [if_neg h, setL_ne _ _ _ (by omega) (by omega)]
theorem Dc_set (F : Nat → Nat → Int32) (i : Nat) (w : Nat → Int32) (d : Int32) : Dc (setL F (101 + 2 * i) w d) = va_up (Dc F) i d := by
  funext q
  simp only [Dc, va_up]
  by_cases h : q = i
  · subst h; rw [if_pos rfl, setL_k]
  · rw [if_neg h, setL_ne _ _ _ (by omega) (by omega)]
theorem Wc_x {F G : Nat → Nat → Int32} (h : ∀ q, 101 ≤ q → G q = F q) : Wc G = Wc F ∧ Dc G = Dc F := ⟨by funext q; exact h _ (by omega), by funext q; simp only [Dc]; rw [h _ (by omega)]⟩
def opL (W : Nat → Nat → Int32) (D : Nat → Int32) (kd : Int32) (f : Nat) (s : Int32) : (Nat → Int32) × Int32 :=
  if kd = 1 then (fun j => W f j + W s.toNatClampNeg j, max32 (sd (W f) (W s.toNatClampNeg) (D f + D s.toNatClampNeg) 6) 0)
  else if kd = 2 then (fun j => W f j * s, D f * s)
  else if kd = 3 then (fun j => sg32 (W f j) ((abs32 (W f j) + max32 s 1 - 1) / max32 s 1), (D f + max32 s 1 - 1) / max32 s 1)
  else if kd = 4 then (fun j => sg32 (W f j) (min32 (abs32 (W f j)) (D f)), D f)
  else if kd = 5 then (upd (W f) s.toNatClampNeg 0, max32 (D f - abs32 (W f s.toNatClampNeg)) 0)
  else (upd (fun _ => 0) s.toNatClampNeg (if kd = 6 then 1 else -1), 0)
/-- a step that may stand with m lines ahead of it -/
def wfS (m : Nat) (q : P5) : Prop := (¬ q.1 = 6 → ¬ q.1 = 7 → ¬ q.1 = 8 → (q.1 = 1 ∨ q.1 = 2 ∨ q.1 = 3 ∨ q.1 = 4 ∨ q.1 = 5) ∧ ∃ f, f < m ∧ q.2.1 = nI f) ∧ (q.1 = 1 → ∃ f, f < m ∧ q.2.2.1 = nI f) ∧ (q.1 = 5 ∨ q.1 = 6 ∨ q.1 = 7 → ∃ a, a < 6 ∧ q.2.2.1 = nI a)
def wk1 (q : P5) (m : Nat) (W : Nat → Nat → Int32) (D : Nat → Int32) : (Nat → Nat → Int32) × (Nat → Int32) × Int32 :=
  if q.1 = 8 then (if (fps (upW W m (fun j => -(q.2.2.2.1 j))) (va_up D m (mw q.2.2.2.1 0 0 6 + 1 - q.2.2.2.2)) (m + 1) 0 0 7).1.2.2 = 0 then (upW W m (fun j => -(q.2.2.2.1 j)), va_up D m (mw q.2.2.2.1 0 0 6 + 1 - q.2.2.2.2), 2) else (upW (upW W m (fun j => -(q.2.2.2.1 j))) m q.2.2.2.1, va_up (va_up D m (mw q.2.2.2.1 0 0 6 + 1 - q.2.2.2.2)) m q.2.2.2.2, 0))
  else (upW W m (opL W D q.1 q.2.1.toNatClampNeg q.2.2.1).1, va_up D m (opL W D q.1 q.2.1.toNatClampNeg q.2.2.1).2, if okL (opL W D q.1 q.2.1.toNatClampNeg q.2.2.1).1 (opL W D q.1 q.2.1.toNatClampNeg q.2.2.1).2 then 0 else 1)
abbrev WK : Type := (Nat → Nat → Int32) × (Nat → Int32) × Int32 × Nat
def wkS (Q : Nat → P5) (G : Nat) (W : Nat → Nat → Int32) (D : Nat → Int32) : Nat → WK
  | 0 => (W, D, 0, 0)
  | s + 1 => if (wkS Q G W D s).2.2.1 = 0 then ((wk1 (Q s) (G + s) (wkS Q G W D s).1 (wkS Q G W D s).2.1).1, (wk1 (Q s) (G + s) (wkS Q G W D s).1 (wkS Q G W D s).2.1).2.1, (wk1 (Q s) (G + s) (wkS Q G W D s).1 (wkS Q G W D s).2.1).2.2, if (wk1 (Q s) (G + s) (wkS Q G W D s).1 (wkS Q G W D s).2.1).2.2 = 0 then s + 1 else s) else wkS Q G W D s
theorem wkS_stay {Q : Nat → P5} {G : Nat} {W : Nat → Nat → Int32} {D : Nat → Int32} {i : Nat} (h : ¬ (wkS Q G W D i).2.2.1 = 0) : ∀ {j : Nat}, i ≤ j → wkS Q G W D j = wkS Q G W D i := by
  intro j hj
  induction j with
  | zero => obtain rfl : i = 0 := by omega
            rfl
  | succ j ih =>
    rcases Nat.lt_or_ge j i with q | q
    · obtain rfl : i = j + 1 := by omega
      rfl
    · rw [wkS, ih q, if_neg h]
theorem okL_set (F : Nat → Nat → Int32) (k : Nat) (w : Nat → Int32) (d : Int32) : okL (setL F k w d (k + 1)) (setL F k w d k 1) ↔ okL w d := by
  rw [setL_k]
  exact ⟨fun h => ⟨fun j hj => by have := h.1 j hj; rw [setL_w _ _ _ _ hj] at this; exact this, h.2⟩, fun h => ⟨fun j hj => by rw [setL_w _ _ _ _ hj]; exact h.1 j hj, h.2⟩⟩
/-- what THE PROOF's walk leaves -/
def kpW (F G : Nat → Nat → Int32) : Prop := ∀ q, q ≠ 0 → q ≠ 98 → (q < 101 ∨ 165 ≤ q) → G q = F q

set_option maxRecDepth 100000 in
set_option maxHeartbeats 4000000 in
theorem c_forget (g : Gl) (l : Launch) (F : Nat → Nat → Int32) (J : Nat → Int64) : Ct g l yX7_forgetProof cX7_forgetProof 1 none 0 0 0 [.ref 0] (St F J) (fun r S2 => r = none ∧ S2 = St (hdF F (F 0 7) 0 0 (-9) (-9)) J) := by
  refine Ct.of rfl (by decide) rfl (Nat.le_of_ble_eq_true rfl) ?_
  refine g_aload_n 1 dX7_forgetProof_0 rfl rfl ?_
  refine g_iconst (0) 2 dX7_forgetProof_1 rfl (by decide) ?_
  refine gp_7_8 5 dX7_forgetProof_2 rfl kf_X7_97 (by first | decide | assumption | exact ⟨Nat.le_of_ble_eq_true rfl, rfl⟩) ?_
  refine g_aload_n 6 dX7_forgetProof_5 rfl rfl ?_
  refine g_iconst (0) 7 dX7_forgetProof_6 rfl (by decide) ?_
  refine gp_7_9 10 dX7_forgetProof_7 rfl kf_X7_91 (by first | decide | assumption | exact ⟨Nat.le_of_ble_eq_true rfl, rfl⟩) ?_
  refine g_aload_n 11 dX7_forgetProof_10 rfl rfl ?_
  refine g_bipush (-9) 13 dX7_forgetProof_11 rfl (by decide) ?_
  refine gp_7_10 16 dX7_forgetProof_13 rfl kf_X7_52 (by first | decide | assumption | exact ⟨Nat.le_of_ble_eq_true rfl, rfl⟩) ?_
  refine g_aload_n 17 dX7_forgetProof_16 rfl rfl ?_
  refine g_bipush (-9) 19 dX7_forgetProof_17 rfl (by decide) ?_
  refine gp_7_11 22 dX7_forgetProof_19 rfl kf_X7_56 (by first | decide | assumption | exact ⟨Nat.le_of_ble_eq_true rfl, rfl⟩) ?_
  refine g_vret dX7_forgetProof_22 ?_
  exact ⟨rfl, by rw [hd_forget]⟩

set_option maxRecDepth 100000 in
set_option maxHeartbeats 4000000 in
theorem c_lineOrFirst (g : Gl) (l : Launch) (F : Nat → Nat → Int32) (J : Nat → Int64) {G P : Nat} (hS : cS F G P) {f : Nat} (hf : f < G + P) : Ct g l yX7_lineOrFirst cX7_lineOrFirst 2 (some (.object "TruthSums$Line")) 2 0 0 [.ref 0, .int (nI f)] (St F J) (fun r S2 => r = some (.ref (101 + 2 * f)) ∧ S2 = St F J) := by
  obtain ⟨hG, hP, hG8, hP24⟩ := hS
  refine Ct.of rfl (by decide) rfl (Nat.le_of_ble_eq_true rfl) ?_
  refine g_aload_n 1 dX7_lineOrFirst_0 rfl rfl ?_
  refine g_iload_n 2 dX7_lineOrFirst_1 rfl rfl ?_
  refine g_v1 7 5 dX7_lineOrFirst_2 rfl kl_X7_152 mv_X7_isLine rfl ⟨Nat.le_of_ble_eq_true rfl, Nat.le_of_ble_eq_true rfl⟩ (Nat.le_of_ble_eq_true rfl) (by first | decide | assumption | exact ⟨Nat.le_of_ble_eq_true rfl, rfl⟩) (c_isLine g l _ F J ⟨hG, hP, hG8, hP24⟩) ?_
  rintro _ _ ⟨rfl, rfl⟩
  refine g_if_eq 17 8 dX7_lineOrFirst_5 rfl (by decide) (fun h5 => ?_) (fun h5 => ?_)
  · exact absurd (⟨nI_pos (by omega), nI_ge hf (by omega)⟩ : isLn (G + P) (nI f)) (b10.mp h5)
  · refine g_aload_n 9 dX7_lineOrFirst_8 rfl rfl ?_
    refine gf_7_4 12 dX7_lineOrFirst_9 rfl kf_X7_39 ?_
    refine g_iload_n 13 dX7_lineOrFirst_12 rfl rfl ?_
    refine ga_lines f 14 dX7_lineOrFirst_13 rfl rfl (by omega) ?_
    refine g_goto 23 dX7_lineOrFirst_14 (by decide) ?_
    refine g_aret dX7_lineOrFirst_23 ?_
    exact ⟨rfl, rfl⟩

set_option maxRecDepth 100000 in
set_option maxHeartbeats 4000000 in
theorem ex_takeStep (g : Gl) (l : Launch) (F : Nat → Nat → Int32) (J : Nat → Int64) {G P : Nat} (hS : cS F G P) {t : Nat} (ht : t < 174 ∧ sh t = 4) {m : Nat} (hm : m = G + P) (hm32 : m < 32) {XX : State → Method → Prop} (w : Nat → Int32) (d : Int32) (he : opL (Wc F) (Dc F) (F t 0) (F t 1).toNatClampNeg (F t 2) = (w, d)) : Gj g l (rmd 3 0 0) XX (QM g (fun r S2 => r = some (.int (if okL (opL (Wc F) (Dc F) (F t 0) (F t 1).toNatClampNeg (F t 2)).1 (opL (Wc F) (Dc F) (F t 0) (F t 1).toNatClampNeg (F t 2)).2 then 0 else 1)) ∧ S2 = St (setL F (101 + 2 * m) (opL (Wc F) (Dc F) (F t 0) (F t 1).toNatClampNeg (F t 2)).1 (opL (Wc F) (Dc F) (F t 0) (F t 1).toNatClampNeg (F t 2)).2) J) 0 0) RX7 cX7_takeStep 3 (some .int) 157 [some (.ref 0), some (.ref t), some (.ref (101 + 2 * m))] [] (St (setL F (101 + 2 * m) w d) J) 0 0 := by
  refine g_aload_n 158 dX7_takeStep_157 rfl rfl ?_
  refine g_v0 2 161 dX7_takeStep_158 rfl kl_X7_148 mv_X2_isTooGreat rfl ⟨Nat.le_of_ble_eq_true rfl, Nat.le_of_ble_eq_true rfl⟩ (Nat.le_of_ble_eq_true rfl) (ln_is m hm32) (c_isTooGreat g l (ln_is m hm32) (setL F (101 + 2 * m) w d) J) ?_
  rintro r S2 ⟨⟨x, rfl, ⟨rfl, hc⟩ | ⟨rfl, hc⟩⟩, rfl⟩
  all_goals rw [okL_set] at hc
  · refine g_if_eq 168 164 dX7_takeStep_161 rfl (by decide) (fun h161 => ?_) (fun h161 => ?_)
    · refine g_iconst (0) 169 dX7_takeStep_168 rfl (by decide) ?_
      refine g_iret dX7_takeStep_169 ?_
      exact ⟨by rw [he, if_pos hc], by rw [he]⟩
    · exact absurd h161 (by decide)
  · refine g_if_eq 168 164 dX7_takeStep_161 rfl (by decide) (fun h161 => ?_) (fun h161 => ?_)
    · exact absurd h161 (by decide)
    · refine g_iconst (1) 165 dX7_takeStep_164 rfl (by decide) ?_
      refine g_goto 169 dX7_takeStep_165 (by decide) ?_
      refine g_iret dX7_takeStep_169 ?_
      exact ⟨by rw [he, if_neg hc], by rw [he]⟩

theorem gst2_at {g : Gl} {l : Launch} {R : Room} {XX : State → Method → Prop} {QQ : List Frame → Array Value → State → State → Prop} {own : String} {cc : ByteArray} {nL : Nat} {ret : Option FieldType} {pc : Nat} {L : List (Option Value)} {st : List Value} {v : Value} {S : Sg} {c1 s1 : Nat} {x x2 : Int32} (e : x = x2) (k : Gj g l R XX QQ own cc nL ret pc L (v :: .int x2 :: st) S c1 s1) : Gj g l R XX QQ own cc nL ret pc L (v :: .int x :: st) S c1 s1 := e ▸ k
theorem gst_at {g : Gl} {l : Launch} {R : Room} {XX : State → Method → Prop} {QQ : List Frame → Array Value → State → State → Prop} {own : String} {cc : ByteArray} {nL : Nat} {ret : Option FieldType} {pc : Nat} {L : List (Option Value)} {st : List Value} {S : Sg} {c1 s1 : Nat} {x x2 : Int32} (e : x = x2) (k : Gj g l R XX QQ own cc nL ret pc L (.int x2 :: st) S c1 s1) : Gj g l R XX QQ own cc nL ret pc L (.int x :: st) S c1 s1 := e ▸ k
set_option maxRecDepth 100000 in
set_option maxHeartbeats 4000000 in
theorem c_takeStep (g : Gl) (l : Launch) (F : Nat → Nat → Int32) (J : Nat → Int64) {G P : Nat} (hS : cS F G P) {t : Nat} (ht : t < 174 ∧ sh t = 4) {m : Nat} (hm : m = G + P) (hm32 : m < 32) (hwf : wfS m (F t 0, F t 1, F t 2, F (t + 2), F (t + 1) 1)) (hn8 : ¬ F t 0 = 8) : Ct g l yX7_takeStep cX7_takeStep 3 (some .int) 3 0 0 [.ref 0, .ref t, .ref (101 + 2 * m)] (St F J) (fun r S2 => r = some (.int (if okL (opL (Wc F) (Dc F) (F t 0) (F t 1).toNatClampNeg (F t 2)).1 (opL (Wc F) (Dc F) (F t 0) (F t 1).toNatClampNeg (F t 2)).2 then 0 else 1)) ∧ S2 = St (setL F (101 + 2 * m) (opL (Wc F) (Dc F) (F t 0) (F t 1).toNatClampNeg (F t 2)).1 (opL (Wc F) (Dc F) (F t 0) (F t 1).toNatClampNeg (F t 2)).2) J) := by
  have hwf1 := hwf.1
  have hwf2 := hwf.2.1
  have hwf3 := hwf.2.2
  dsimp only at hwf1 hwf2 hwf3
  refine Ct.of rfl (by decide) rfl (Nat.le_of_ble_eq_true rfl) ?_
  refine g_aload_n 1 dX7_takeStep_0 rfl rfl ?_
  refine gf_4_0 4 dX7_takeStep_1 rfl kf_X7_104 (by first | decide | assumption | exact ⟨Nat.le_of_ble_eq_true rfl, rfl⟩) ?_
  by_cases h67 : F t 0 = 6 ∨ F t 0 = 7
  · obtain ⟨a, ha, ea⟩ := hwf3 (Or.inr h67)
    have hx : ∀ v : Int32, v = 1 ∨ v = 2 ∨ v = 3 ∨ v = 4 ∨ v = 5 → ¬ F t 0 = v := by
      rintro v hv e; rcases h67 with y | y <;> rw [y] at e <;> subst e <;> revert hv <;> decide
    refine g_tsOut 135 dX7_takeStep_4 (by rcases h67 with y | y <;> rw [y] <;> decide) (by decide) ?_
    refine g_aload_n 136 dX7_takeStep_135 rfl rfl ?_
    refine g_aload_n 137 dX7_takeStep_136 rfl rfl ?_
    refine gf_4_2 140 dX7_takeStep_137 rfl kf_X7_124 (by first | decide | assumption | exact ⟨Nat.le_of_ble_eq_true rfl, rfl⟩) ?_
    refine g_aload_n 141 dX7_takeStep_140 rfl rfl ?_
    refine gf_4_0 144 dX7_takeStep_141 rfl kf_X7_104 (by first | decide | assumption | exact ⟨Nat.le_of_ble_eq_true rfl, rfl⟩) ?_
    refine g_bipush (6) 146 dX7_takeStep_144 rfl (by decide) ?_
    refine g_icmp_ne 153 149 dX7_takeStep_146 rfl (by decide) (fun h146 => ?_) (fun h146 => ?_)
    · refine g_iconst (-1) 154 dX7_takeStep_153 rfl (by decide) ?_
      refine gst2_at ea ?_
      refine g_v2 2 157 dX7_takeStep_154 rfl kl_X7_144 mv_X2_becomeBare rfl ⟨Nat.le_of_ble_eq_true rfl, Nat.le_of_ble_eq_true rfl⟩ (Nat.le_of_ble_eq_true rfl) (ln_is m hm32) (c_becomeBare g l (ln_is m hm32) ha _ F J) ?_
      rintro _ _ ⟨rfl, rfl⟩
      exact ex_takeStep g l F J hS ht hm hm32 _ _ (by rw [opL, if_neg (hx 1 (by decide)), if_neg (hx 2 (by decide)), if_neg (hx 3 (by decide)), if_neg (hx 4 (by decide)), if_neg (hx 5 (by decide)), ea, nI_clamp (by omega), if_neg h146])
    · refine g_iconst (1) 150 dX7_takeStep_149 rfl (by decide) ?_
      refine g_goto 154 dX7_takeStep_150 (by decide) ?_
      refine gst2_at ea ?_
      refine g_v2 2 157 dX7_takeStep_154 rfl kl_X7_144 mv_X2_becomeBare rfl ⟨Nat.le_of_ble_eq_true rfl, Nat.le_of_ble_eq_true rfl⟩ (Nat.le_of_ble_eq_true rfl) (ln_is m hm32) (c_becomeBare g l (ln_is m hm32) ha _ F J) ?_
      rintro _ _ ⟨rfl, rfl⟩
      exact ex_takeStep g l F J hS ht hm hm32 _ _ (by rw [opL, if_neg (hx 1 (by decide)), if_neg (hx 2 (by decide)), if_neg (hx 3 (by decide)), if_neg (hx 4 (by decide)), if_neg (hx 5 (by decide)), ea, nI_clamp (by omega), if_pos h146])
  obtain ⟨hk5, f, hf, ef⟩ := hwf1 (fun z => h67 (Or.inl z)) (fun z => h67 (Or.inr z)) hn8
  rcases hk5 with e0 | e0 | e0 | e0 | e0
  · obtain ⟨f2, hf2, ef2⟩ := hwf2 e0
    refine gst_at (x2 := 1) e0 ?_
    refine g_tsIn (off := 36) 40 dX7_takeStep_4 (by decide) (by decide) (by decide) (by decide) ?_
    refine g_aload_n 41 dX7_takeStep_40 rfl rfl ?_
    refine g_aload_n 42 dX7_takeStep_41 rfl rfl ?_
    refine g_aload_n 43 dX7_takeStep_42 rfl rfl ?_
    refine gf_4_1 46 dX7_takeStep_43 rfl kf_X7_117 (by first | decide | assumption | exact ⟨Nat.le_of_ble_eq_true rfl, rfl⟩) ?_
    refine gst_at ef ?_
    refine g_v1 7 49 dX7_takeStep_46 rfl kl_X7_120 mv_X7_lineOrFirst rfl ⟨Nat.le_of_ble_eq_true rfl, Nat.le_of_ble_eq_true rfl⟩ (Nat.le_of_ble_eq_true rfl) (by first | decide | assumption | exact ⟨Nat.le_of_ble_eq_true rfl, rfl⟩) (c_lineOrFirst g l F J hS (f := f) (by omega)) ?_
    rintro _ _ ⟨rfl, rfl⟩
    refine g_aload_n 50 dX7_takeStep_49 rfl rfl ?_
    refine g_aload_n 51 dX7_takeStep_50 rfl rfl ?_
    refine gf_4_2 54 dX7_takeStep_51 rfl kf_X7_124 (by first | decide | assumption | exact ⟨Nat.le_of_ble_eq_true rfl, rfl⟩) ?_
    refine gst_at ef2 ?_
    refine g_v1 7 57 dX7_takeStep_54 rfl kl_X7_120 mv_X7_lineOrFirst rfl ⟨Nat.le_of_ble_eq_true rfl, Nat.le_of_ble_eq_true rfl⟩ (Nat.le_of_ble_eq_true rfl) (by first | decide | assumption | exact ⟨Nat.le_of_ble_eq_true rfl, rfl⟩) (c_lineOrFirst g l F J hS (f := f2) (by omega)) ?_
    rintro _ _ ⟨rfl, rfl⟩
    refine g_v2 2 60 dX7_takeStep_57 rfl kl_X7_127 mv_X2_becomeSum rfl ⟨Nat.le_of_ble_eq_true rfl, Nat.le_of_ble_eq_true rfl⟩ (Nat.le_of_ble_eq_true rfl) (ln_is m hm32) (c_becomeSum g l (ln_is m hm32) (ln_is f (by omega)) (by omega) (ln_is f2 (by omega)) (by omega) F J) ?_
    rintro _ _ ⟨rfl, rfl⟩
    refine g_goto 157 dX7_takeStep_60 (by decide) ?_
    exact ex_takeStep g l F J hS ht hm hm32 _ _ (by rw [opL, if_pos e0, ef, ef2, nI_clamp (by omega), nI_clamp (by omega)]; rfl)
  · skip
    refine gst_at (x2 := 2) e0 ?_
    refine g_tsIn (off := 59) 63 dX7_takeStep_4 (by decide) (by decide) (by decide) (by decide) ?_
    refine g_aload_n 64 dX7_takeStep_63 rfl rfl ?_
    refine g_aload_n 65 dX7_takeStep_64 rfl rfl ?_
    refine g_aload_n 66 dX7_takeStep_65 rfl rfl ?_
    refine gf_4_1 69 dX7_takeStep_66 rfl kf_X7_117 (by first | decide | assumption | exact ⟨Nat.le_of_ble_eq_true rfl, rfl⟩) ?_
    refine gst_at ef ?_
    refine g_v1 7 72 dX7_takeStep_69 rfl kl_X7_120 mv_X7_lineOrFirst rfl ⟨Nat.le_of_ble_eq_true rfl, Nat.le_of_ble_eq_true rfl⟩ (Nat.le_of_ble_eq_true rfl) (by first | decide | assumption | exact ⟨Nat.le_of_ble_eq_true rfl, rfl⟩) (c_lineOrFirst g l F J hS (f := f) (by omega)) ?_
    rintro _ _ ⟨rfl, rfl⟩
    refine g_aload_n 73 dX7_takeStep_72 rfl rfl ?_
    refine gf_4_2 76 dX7_takeStep_73 rfl kf_X7_124 (by first | decide | assumption | exact ⟨Nat.le_of_ble_eq_true rfl, rfl⟩) ?_
    refine g_v2 2 79 dX7_takeStep_76 rfl kl_X7_131 mv_X2_becomeTimes rfl ⟨Nat.le_of_ble_eq_true rfl, Nat.le_of_ble_eq_true rfl⟩ (Nat.le_of_ble_eq_true rfl) (ln_is m hm32) (c_becomeTimes g l (ln_is m hm32) (ln_is f (by omega)) (by omega) _ F J) ?_
    rintro _ _ ⟨rfl, rfl⟩
    refine g_goto 157 dX7_takeStep_79 (by decide) ?_
    exact ex_takeStep g l F J hS ht hm hm32 _ _ (by rw [opL, if_neg (show ¬ F t 0 = 1 by rw [e0]; decide), if_pos e0, ef, nI_clamp (by omega)]; rfl)
  · skip
    refine gst_at (x2 := 3) e0 ?_
    refine g_tsIn (off := 78) 82 dX7_takeStep_4 (by decide) (by decide) (by decide) (by decide) ?_
    refine g_aload_n 83 dX7_takeStep_82 rfl rfl ?_
    refine g_aload_n 84 dX7_takeStep_83 rfl rfl ?_
    refine g_aload_n 85 dX7_takeStep_84 rfl rfl ?_
    refine gf_4_1 88 dX7_takeStep_85 rfl kf_X7_117 (by first | decide | assumption | exact ⟨Nat.le_of_ble_eq_true rfl, rfl⟩) ?_
    refine gst_at ef ?_
    refine g_v1 7 91 dX7_takeStep_88 rfl kl_X7_120 mv_X7_lineOrFirst rfl ⟨Nat.le_of_ble_eq_true rfl, Nat.le_of_ble_eq_true rfl⟩ (Nat.le_of_ble_eq_true rfl) (by first | decide | assumption | exact ⟨Nat.le_of_ble_eq_true rfl, rfl⟩) (c_lineOrFirst g l F J hS (f := f) (by omega)) ?_
    rintro _ _ ⟨rfl, rfl⟩
    refine g_aload_n 92 dX7_takeStep_91 rfl rfl ?_
    refine gf_4_2 95 dX7_takeStep_92 rfl kf_X7_124 (by first | decide | assumption | exact ⟨Nat.le_of_ble_eq_true rfl, rfl⟩) ?_
    refine g_v2 2 98 dX7_takeStep_95 rfl kl_X7_135 mv_X2_becomeCut rfl ⟨Nat.le_of_ble_eq_true rfl, Nat.le_of_ble_eq_true rfl⟩ (Nat.le_of_ble_eq_true rfl) (ln_is m hm32) (c_becomeCut g l (ln_is m hm32) (ln_is f (by omega)) (by omega) _ F J) ?_
    rintro _ _ ⟨rfl, rfl⟩
    refine g_goto 157 dX7_takeStep_98 (by decide) ?_
    exact ex_takeStep g l F J hS ht hm hm32 _ _ (by rw [opL, if_neg (show ¬ F t 0 = 1 by rw [e0]; decide), if_neg (show ¬ F t 0 = 2 by rw [e0]; decide), if_pos e0, ef, nI_clamp (by omega)]; rfl)
  · skip
    refine gst_at (x2 := 4) e0 ?_
    refine g_tsIn (off := 97) 101 dX7_takeStep_4 (by decide) (by decide) (by decide) (by decide) ?_
    refine g_aload_n 102 dX7_takeStep_101 rfl rfl ?_
    refine g_aload_n 103 dX7_takeStep_102 rfl rfl ?_
    refine g_aload_n 104 dX7_takeStep_103 rfl rfl ?_
    refine gf_4_1 107 dX7_takeStep_104 rfl kf_X7_117 (by first | decide | assumption | exact ⟨Nat.le_of_ble_eq_true rfl, rfl⟩) ?_
    refine gst_at ef ?_
    refine g_v1 7 110 dX7_takeStep_107 rfl kl_X7_120 mv_X7_lineOrFirst rfl ⟨Nat.le_of_ble_eq_true rfl, Nat.le_of_ble_eq_true rfl⟩ (Nat.le_of_ble_eq_true rfl) (by first | decide | assumption | exact ⟨Nat.le_of_ble_eq_true rfl, rfl⟩) (c_lineOrFirst g l F J hS (f := f) (by omega)) ?_
    rintro _ _ ⟨rfl, rfl⟩
    refine g_v1 2 113 dX7_takeStep_110 rfl kl_X7_138 mv_X2_becomeTrimmed rfl ⟨Nat.le_of_ble_eq_true rfl, Nat.le_of_ble_eq_true rfl⟩ (Nat.le_of_ble_eq_true rfl) (ln_is m hm32) (c_becomeTrimmed g l (ln_is m hm32) (ln_is f (by omega)) (by omega) F J) ?_
    rintro _ _ ⟨rfl, rfl⟩
    refine g_goto 157 dX7_takeStep_113 (by decide) ?_
    exact ex_takeStep g l F J hS ht hm hm32 _ _ (by rw [opL, if_neg (show ¬ F t 0 = 1 by rw [e0]; decide), if_neg (show ¬ F t 0 = 2 by rw [e0]; decide), if_neg (show ¬ F t 0 = 3 by rw [e0]; decide), if_pos e0, ef, nI_clamp (by omega)]; rfl)
  · obtain ⟨a, ha, ea⟩ := hwf3 (Or.inl e0)
    refine gst_at (x2 := 5) e0 ?_
    refine g_tsIn (off := 112) 116 dX7_takeStep_4 (by decide) (by decide) (by decide) (by decide) ?_
    refine g_aload_n 117 dX7_takeStep_116 rfl rfl ?_
    refine g_aload_n 118 dX7_takeStep_117 rfl rfl ?_
    refine g_aload_n 119 dX7_takeStep_118 rfl rfl ?_
    refine gf_4_1 122 dX7_takeStep_119 rfl kf_X7_117 (by first | decide | assumption | exact ⟨Nat.le_of_ble_eq_true rfl, rfl⟩) ?_
    refine gst_at ef ?_
    refine g_v1 7 125 dX7_takeStep_122 rfl kl_X7_120 mv_X7_lineOrFirst rfl ⟨Nat.le_of_ble_eq_true rfl, Nat.le_of_ble_eq_true rfl⟩ (Nat.le_of_ble_eq_true rfl) (by first | decide | assumption | exact ⟨Nat.le_of_ble_eq_true rfl, rfl⟩) (c_lineOrFirst g l F J hS (f := f) (by omega)) ?_
    rintro _ _ ⟨rfl, rfl⟩
    refine g_aload_n 126 dX7_takeStep_125 rfl rfl ?_
    refine gf_4_2 129 dX7_takeStep_126 rfl kf_X7_124 (by first | decide | assumption | exact ⟨Nat.le_of_ble_eq_true rfl, rfl⟩) ?_
    refine gst_at ea ?_
    refine g_v2 2 132 dX7_takeStep_129 rfl kl_X7_141 mv_X2_becomeDropped rfl ⟨Nat.le_of_ble_eq_true rfl, Nat.le_of_ble_eq_true rfl⟩ (Nat.le_of_ble_eq_true rfl) (ln_is m hm32) (c_becomeDropped g l (ln_is m hm32) (ln_is f (by omega)) (by omega) ha F J) ?_
    rintro _ _ ⟨rfl, rfl⟩
    refine g_goto 157 dX7_takeStep_132 (by decide) ?_
    exact ex_takeStep g l F J hS ht hm hm32 _ _ (by rw [opL, if_neg (show ¬ F t 0 = 1 by rw [e0]; decide), if_neg (show ¬ F t 0 = 2 by rw [e0]; decide), if_neg (show ¬ F t 0 = 3 by rw [e0]; decide), if_neg (show ¬ F t 0 = 4 by rw [e0]; decide), if_pos e0, ef, ea, nI_clamp (by omega), nI_clamp (by omega)]; rfl)

set_option maxRecDepth 100000 in
set_option maxHeartbeats 4000000 in
theorem c_takeClaim (g : Gl) (l : Launch) (F : Nat → Nat → Int32) (J : Nat → Int64) {t : Nat} (ht : t < 97 ∧ sh t = 4) {m : Nat} (hm32 : m < 32) : Ct g l yX7_takeClaim cX7_takeClaim 4 (some .int) 5 0 0 [.ref 0, .ref t, .int (nI m), .ref (101 + 2 * m)] (St F J) (fun r S2 => (((fps (Wc (setL F (101 + 2 * m) (fun j => -(F (t + 1 + 1) j)) (mw (F (t + 1 + 1)) 0 0 6 + 1 - F (t + 1) 1))) (Dc (setL F (101 + 2 * m) (fun j => -(F (t + 1 + 1) j)) (mw (F (t + 1 + 1)) 0 0 6 + 1 - F (t + 1) 1))) (m + 1) 0 0 7).1).2.2 = 0 ∧ r = some (.int 2) ∧ S2 = St (fo3 (setL F (101 + 2 * m) (fun j => -(F (t + 1 + 1) j)) (mw (F (t + 1 + 1)) 0 0 6 + 1 - F (t + 1) 1)) (fps (Wc (setL F (101 + 2 * m) (fun j => -(F (t + 1 + 1) j)) (mw (F (t + 1 + 1)) 0 0 6 + 1 - F (t + 1) 1))) (Dc (setL F (101 + 2 * m) (fun j => -(F (t + 1 + 1) j)) (mw (F (t + 1 + 1)) 0 0 6 + 1 - F (t + 1) 1))) (m + 1) 0 0 7).1) J) ∨ (¬ ((fps (Wc (setL F (101 + 2 * m) (fun j => -(F (t + 1 + 1) j)) (mw (F (t + 1 + 1)) 0 0 6 + 1 - F (t + 1) 1))) (Dc (setL F (101 + 2 * m) (fun j => -(F (t + 1 + 1) j)) (mw (F (t + 1 + 1)) 0 0 6 + 1 - F (t + 1) 1))) (m + 1) 0 0 7).1).2.2 = 0 ∧ r = some (.int 0) ∧ S2 = St (setL (fo3 (setL F (101 + 2 * m) (fun j => -(F (t + 1 + 1) j)) (mw (F (t + 1 + 1)) 0 0 6 + 1 - F (t + 1) 1)) (fps (Wc (setL F (101 + 2 * m) (fun j => -(F (t + 1 + 1) j)) (mw (F (t + 1 + 1)) 0 0 6 + 1 - F (t + 1) 1))) (Dc (setL F (101 + 2 * m) (fun j => -(F (t + 1 + 1) j)) (mw (F (t + 1 + 1)) 0 0 6 + 1 - F (t + 1) 1))) (m + 1) 0 0 7).1) (101 + 2 * m) (F (t + 1 + 1)) (F (t + 1) 1)) J)) := by
  obtain ⟨t10, ht1⟩ := ist t (by omega) ht.2
  have hne : t + 1 ≠ 101 + 2 * m := by omega
  have r1 : ∀ q, fo3 (setL F (101 + 2 * m) (fun j => -(F (t + 1 + 1) j)) (mw (F (t + 1 + 1)) 0 0 6 + 1 - F (t + 1) 1)) q (t + 1 + 1) = F (t + 1 + 1) := fun q => by rw [fo3, fo_ne _ _ _ _ (by
      intro z
      have := (isl_w (t + 1) ht1.1 ht1.2).1.2
      rw [z] at this; exact absurd this (by decide)), setL_ne _ _ _ (by omega) (by omega)]
  have r2 : ∀ q, fo3 (setL F (101 + 2 * m) (fun j => -(F (t + 1 + 1) j)) (mw (F (t + 1 + 1)) 0 0 6 + 1 - F (t + 1) 1)) q (t + 1) = F (t + 1) := fun q => by rw [fo3, fo_ne _ _ _ _ (is_ne98 _ ht1.1 ht1.2).1, setL_ne _ _ _ (by omega) (by omega)]
  refine Ct.of rfl (by decide) rfl (Nat.le_of_ble_eq_true rfl) ?_
  refine g_aload_n 1 dX7_takeClaim_0 rfl rfl ?_
  refine g_aload_n 2 dX7_takeClaim_1 rfl rfl ?_
  refine gf_4_3 5 dX7_takeClaim_2 rfl kf_X7_156 ⟨by omega, ht.2⟩ ?_
  refine g_v1 2 8 dX7_takeClaim_5 rfl kl_X7_160 mv_X2_becomeOpposite rfl ⟨Nat.le_of_ble_eq_true rfl, Nat.le_of_ble_eq_true rfl⟩ (Nat.le_of_ble_eq_true rfl) (ln_is m hm32) (c_becomeOpposite g l (ln_is m hm32) ht1 hne F J) ?_
  rintro _ _ ⟨rfl, rfl⟩
  refine g_aload_n 9 dX7_takeClaim_8 rfl rfl ?_
  refine gf_7_2 12 dX7_takeClaim_9 rfl kf_X7_26 ?_
  refine g_aload_n 13 dX7_takeClaim_12 rfl rfl ?_
  refine gf_7_4 16 dX7_takeClaim_13 rfl kf_X7_39 ?_
  refine g_iload_n 17 dX7_takeClaim_16 rfl rfl ?_
  refine g_iconst (1) 18 dX7_takeClaim_17 rfl (by decide) ?_
  refine g_iadd 19 dX7_takeClaim_18 rfl ?_
  rw [← nI_succ]
  refine g_iconst (0) 20 dX7_takeClaim_19 rfl (by decide) ?_
  refine g_iconst (0) 21 dX7_takeClaim_20 rfl (by decide) ?_
  refine g_v4 1 24 dX7_takeClaim_21 rfl kl_X7_163 mv_X1_force rfl ⟨Nat.le_of_ble_eq_true rfl, Nat.le_of_ble_eq_true rfl⟩ (Nat.le_of_ble_eq_true rfl) (by first | decide | assumption | exact ⟨Nat.le_of_ble_eq_true rfl, rfl⟩) (c_force g l 0 0 (N := m + 1) (by omega) (setL F (101 + 2 * m) (fun j => -(F (t + 1 + 1) j)) (mw (F (t + 1 + 1)) 0 0 6 + 1 - F (t + 1) 1)) J) ?_
  rintro _ _ ⟨rfl, rfl⟩
  rw [show fps (fun i => (setL F (101 + 2 * m) (fun j => -(F (t + 1 + 1) j)) (mw (F (t + 1 + 1)) 0 0 6 + 1 - F (t + 1) 1)) (101 + 2 * i + 1)) (fun i => (setL F (101 + 2 * m) (fun j => -(F (t + 1 + 1) j)) (mw (F (t + 1 + 1)) 0 0 6 + 1 - F (t + 1) 1)) (101 + 2 * i) 1) (m + 1) 0 0 7 = fps (Wc (setL F (101 + 2 * m) (fun j => -(F (t + 1 + 1) j)) (mw (F (t + 1 + 1)) 0 0 6 + 1 - F (t + 1) 1))) (Dc (setL F (101 + 2 * m) (fun j => -(F (t + 1 + 1) j)) (mw (F (t + 1 + 1)) 0 0 6 + 1 - F (t + 1) 1))) (m + 1) 0 0 7 from rfl]
  generalize (fps (Wc (setL F (101 + 2 * m) (fun j => -(F (t + 1 + 1) j)) (mw (F (t + 1 + 1)) 0 0 6 + 1 - F (t + 1) 1))) (Dc (setL F (101 + 2 * m) (fun j => -(F (t + 1 + 1) j)) (mw (F (t + 1 + 1)) 0 0 6 + 1 - F (t + 1) 1))) (m + 1) 0 0 7).1 = q
  refine g_aload_n 25 dX7_takeClaim_24 rfl rfl ?_
  refine gf_7_2 28 dX7_takeClaim_25 rfl kf_X7_26 ?_
  refine gf_1_2 31 dX7_takeClaim_28 rfl kf_X7_167 (by first | decide | assumption | exact ⟨Nat.le_of_ble_eq_true rfl, rfl⟩) ?_
  refine g_if_ne 36 34 dX7_takeClaim_31 rfl (by decide) (fun h31 => ?_) (fun h31 => ?_)
  · refine g_aload_n 37 dX7_takeClaim_36 rfl rfl ?_
    refine g_aload_n 38 dX7_takeClaim_37 rfl rfl ?_
    refine gf_4_3 41 dX7_takeClaim_38 rfl kf_X7_156 ⟨by omega, ht.2⟩ ?_
    refine g_v1 2 44 dX7_takeClaim_41 rfl kl_X7_77 mv_X2_becomeSame rfl ⟨Nat.le_of_ble_eq_true rfl, Nat.le_of_ble_eq_true rfl⟩ (Nat.le_of_ble_eq_true rfl) (ln_is m hm32) (c_becomeSame g l (ln_is m hm32) ht1 hne _ J) ?_
    rintro _ _ ⟨rfl, rfl⟩
    refine g_iconst (0) 45 dX7_takeClaim_44 rfl (by decide) ?_
    refine g_iret dX7_takeClaim_45 ?_
    exact Or.inr ⟨h31, rfl, by rw [r1, r2]⟩
  · refine g_iconst (2) 35 dX7_takeClaim_34 rfl (by decide) ?_
    refine g_iret dX7_takeClaim_35 ?_
    exact Or.inl ⟨h31, rfl, rfl⟩

def ivW (F0 : Nat → Nat → Int32) (G T s : Nat) (F : Nat → Nat → Int32) : Prop := F 0 7 = nI G ∧ F 0 8 = nI s ∧ F 0 9 = nI T ∧ F 0 10 = -9 ∧ F 0 11 = -9 ∧ Wc F = (wkS (oldQ F0) G (Wc F0) (Dc F0) s).1 ∧ Dc F = (wkS (oldQ F0) G (Wc F0) (Dc F0) s).2.1 ∧ kpW F0 F
def wkZ (F0 : Nat → Nat → Int32) (G T : Nat) (J : Nat → Int64) : Option Value → Sg → Prop := fun r S2 => r = none ∧ ∃ F2, S2 = St F2 J ∧ F2 0 7 = nI G ∧ F2 0 8 = nI (wkS (oldQ F0) G (Wc F0) (Dc F0) T).2.2.2 ∧ F2 0 9 = nI T ∧ F2 0 10 = (if (wkS (oldQ F0) G (Wc F0) (Dc F0) T).2.2.1 = 0 then -9 else nI (wkS (oldQ F0) G (Wc F0) (Dc F0) T).2.2.2) ∧ F2 0 11 = (if (wkS (oldQ F0) G (Wc F0) (Dc F0) T).2.2.1 = 0 then -9 else (wkS (oldQ F0) G (Wc F0) (Dc F0) T).2.2.1) ∧ Wc F2 = (wkS (oldQ F0) G (Wc F0) (Dc F0) T).1 ∧ Dc F2 = (wkS (oldQ F0) G (Wc F0) (Dc F0) T).2.1 ∧ kpW F0 F2
theorem wkS_cnt {Q : Nat → P5} {G : Nat} {W : Nat → Nat → Int32} {D : Nat → Int32} : ∀ {s : Nat}, (wkS Q G W D s).2.2.1 = 0 → (wkS Q G W D s).2.2.2 = s
  | 0, _ => rfl
  | s + 1, h => by
    rw [wkS] at h ⊢
    by_cases q : (wkS Q G W D s).2.2.1 = 0
    · rw [if_pos q] at h ⊢
      exact if_pos h
    · rw [if_neg q] at h
      exact absurd h q
theorem wkS_go {Q : Nat → P5} {G : Nat} {W : Nat → Nat → Int32} {D : Nat → Int32} {s : Nat} {W2 : Nat → Nat → Int32} {D2 : Nat → Int32} {v : Int32} (h0 : (wkS Q G W D s).2.2.1 = 0) (h : wk1 (Q s) (G + s) (wkS Q G W D s).1 (wkS Q G W D s).2.1 = (W2, D2, v)) : wkS Q G W D (s + 1) = (W2, D2, v, if v = 0 then s + 1 else s) := by
  rw [wkS, if_pos h0, h]
theorem setL_kp {F0 F : Nat → Nat → Int32} (h : kpW F0 F) {m : Nat} (hm : m < 32) (w : Nat → Int32) (d : Int32) : kpW F0 (setL F (101 + 2 * m) w d) := fun q a b c => by
  rw [setL_ne _ _ _ (by omega) (by omega)]; exact h q a b c
theorem fo3_kp {F0 F : Nat → Nat → Int32} (h : kpW F0 F) (x : Int32 × Int32 × Int32) : kpW F0 (fo3 F x) := fun q a b c => by
  rw [fo3, fo_ne _ _ _ _ b]; exact h q a b c
theorem up0_kp {F0 F : Nat → Nat → Int32} (h : kpW F0 F) (j : Nat) (x : Int32) : kpW F0 (up2 F 0 j x) := fun q a b c => by
  rw [up2_ne _ _ _ a]; exact h q a b c
theorem up0_W (F : Nat → Nat → Int32) (j : Nat) (x : Int32) : Wc (up2 F 0 j x) = Wc F ∧ Dc (up2 F 0 j x) = Dc F := Wc_x (fun q h => up2_ne _ _ _ (by omega))
theorem fo3_W (F : Nat → Nat → Int32) (x : Int32 × Int32 × Int32) : Wc (fo3 F x) = Wc F ∧ Dc (fo3 F x) = Dc F := Wc_x (fun q h => by rw [fo3, fo_ne _ _ _ _ (by omega)])
theorem set0 (F : Nat → Nat → Int32) (m : Nat) (w : Nat → Int32) (d : Int32) : setL F (101 + 2 * m) w d 0 = F 0 := setL_ne _ _ _ (by omega) (by omega)
theorem up0_r (F : Nat → Nat → Int32) {i j : Nat} (x : Int32) (h : i ≠ j) : up2 F 0 j x 0 i = F 0 i := by rw [up2_same]; simp [upd, h]

theorem gl_ix {g : Gl} {l : Launch} {R : Room} {XX : State → Method → Prop} {QQ : List Frame → Array Value → State → State → Prop} {own : String} {cc : ByteArray} {nL : Nat} {ret : Option FieldType} {pc : Nat} {L : List (Option Value)} {v : Value} {st : List Value} {S : Sg} {c1 s1 : Nat} {x x2 : Int32} (e : x = x2) (k : Gj g l R XX QQ own cc nL ret pc (some v :: some (.int x2) :: L) st S c1 s1) : Gj g l R XX QQ own cc nL ret pc (some v :: some (.int x) :: L) st S c1 s1 := e ▸ k
set_option maxRecDepth 100000 in
set_option maxHeartbeats 4000000 in
theorem ex_walk (g : Gl) (l : Launch) (F0 : Nat → Nat → Int32) (J : Nat → Int64) {G T : Nat} (hG8 : G ≤ 8) (hT : T ≤ 24) (hwf : ∀ s, s < T → wfS (G + s) (oldQ F0 s)) {XX : State → Method → Prop} (s : Nat) (hs : s < T) (F : Nat → Nat → Int32) (v : Int32) (x2 x3 : Option Value) (h7 : F 0 7 = nI G) (h8 : F 0 8 = nI s) (h9 : F 0 9 = nI T) (h10 : F 0 10 = -9) (h11 : F 0 11 = -9) (hk : kpW F0 F) (hw : wkS (oldQ F0) G (Wc F0) (Dc F0) (s + 1) = (Wc F, Dc F, v, if v = 0 then s + 1 else s))
    (go : v = 0 → ivW F0 G T (s + 1) (up2 F 0 8 (nI (s + 1))) → ∀ x2 x3 x4 : Option Value, Gj g l (rmd 6 0 0) XX (QM g (wkZ F0 G T J) 0 0) RX7 cX7_walkProof 5 none 2 [some (.ref 0), some (.int (nI (s + 1))), x2, x3, x4] [] (St (up2 F 0 8 (nI (s + 1))) J) 0 0) : Gj g l (rmd 6 0 0) XX (QM g (wkZ F0 G T J) 0 0) RX7 cX7_walkProof 5 none 84 [some (.ref 0), some (.int (nI s)), x2, x3, some (.int v)] [] (St F J) 0 0 := by
  refine g_iload 86 dX7_walkProof_84 rfl rfl ?_
  refine g_if_eq 101 89 dX7_walkProof_86 rfl (by decide) (fun h86 => ?_) (fun h86 => ?_)
  · refine g_aload_n 102 dX7_walkProof_101 rfl rfl ?_
    refine g_dup 103 dX7_walkProof_102 rfl rfl ?_
    refine gf_7_8 106 dX7_walkProof_103 rfl kf_X7_97 (by first | decide | assumption | exact ⟨Nat.le_of_ble_eq_true rfl, rfl⟩) ?_
    refine g_iconst (1) 107 dX7_walkProof_106 rfl (by decide) ?_
    refine g_iadd 108 dX7_walkProof_107 rfl ?_
    rw [h8, ← nI_succ]
    refine gp_7_8 111 dX7_walkProof_108 rfl kf_X7_97 (by first | decide | assumption | exact ⟨Nat.le_of_ble_eq_true rfl, rfl⟩) ?_
    refine g_iinc (1) 114 dX7_walkProof_111 rfl (by decide) (by decide) rfl ?_
    refine g_goto 2 dX7_walkProof_114 (by decide) ?_
    refine gl_ix (nI_succ s).symm (go h86 ⟨?_, ?_, ?_, ?_, ?_, ?_, ?_, ?_⟩ _ _ _)
    · rw [up0_r _ _ (by decide)]; exact h7
    · rw [up2_same]; simp [upd]
    · rw [up0_r _ _ (by decide)]; exact h9
    · rw [up0_r _ _ (by decide)]; exact h10
    · rw [up0_r _ _ (by decide)]; exact h11
    · rw [hw, (up0_W _ _ _).1]
    · rw [hw, (up0_W _ _ _).2]
    · exact up0_kp hk _ _
  · refine g_aload_n 90 dX7_walkProof_89 rfl rfl ?_
    refine g_iload_n 91 dX7_walkProof_90 rfl rfl ?_
    refine gp_7_10 94 dX7_walkProof_91 rfl kf_X7_52 (by first | decide | assumption | exact ⟨Nat.le_of_ble_eq_true rfl, rfl⟩) ?_
    refine g_aload_n 95 dX7_walkProof_94 rfl rfl ?_
    refine g_iload 97 dX7_walkProof_95 rfl rfl ?_
    refine gp_7_11 100 dX7_walkProof_97 rfl kf_X7_56 (by first | decide | assumption | exact ⟨Nat.le_of_ble_eq_true rfl, rfl⟩) ?_
    refine g_vret dX7_walkProof_100 ?_
    have e : wkS (oldQ F0) G (Wc F0) (Dc F0) T = (Wc F, Dc F, v, s) := by
      rw [wkS_stay (i := s + 1) (by rw [hw]; exact h86) (by omega), hw, if_neg h86]
    refine ⟨rfl, _, rfl, ?_, ?_, ?_, ?_, ?_, ?_, ?_, ?_⟩
    · rw [up0_r _ _ (by decide), up0_r _ _ (by decide)]; exact h7
    · rw [e, up0_r _ _ (by decide), up0_r _ _ (by decide)]; exact h8
    · rw [up0_r _ _ (by decide), up0_r _ _ (by decide)]; exact h9
    · rw [e, up0_r _ _ (by decide), up2_same]; exact (if_neg h86).symm
    · rw [e, up2_same]; exact (if_neg h86).symm
    · rw [e, (up0_W _ _ _).1, (up0_W _ _ _).1]
    · rw [e, (up0_W _ _ _).2, (up0_W _ _ _).2]
    · exact up0_kp (up0_kp hk _ _) _ _

set_option maxRecDepth 100000 in
set_option maxHeartbeats 4000000 in
theorem lp_walk (g : Gl) (l : Launch) (F0 : Nat → Nat → Int32) (J : Nat → Int64) {G T : Nat} (hG8 : G ≤ 8) (hT : T ≤ 24) (hwf : ∀ s, s < T → wfS (G + s) (oldQ F0 s)) {XX : State → Method → Prop} (n : Nat) : ∀ (s : Nat) (F : Nat → Nat → Int32) (x2 x3 x4 : Option Value), s + n = T → ivW F0 G T s F → (wkS (oldQ F0) G (Wc F0) (Dc F0) s).2.2.1 = 0 → Gj g l (rmd 6 0 0) XX (QM g (wkZ F0 G T J) 0 0) RX7 cX7_walkProof 5 none 2 [some (.ref 0), some (.int (nI s)), x2, x3, x4] [] (St F J) 0 0 := by
  induction n with
  | zero =>
    intro s F x2 x3 x4 hs hi hv
    obtain rfl : s = T := by omega
    obtain ⟨h7, h8, h9, h10, h11, hW, hD, hk⟩ := hi
    refine g_iload_n 3 dX7_walkProof_2 rfl rfl ?_
    refine g_aload_n 4 dX7_walkProof_3 rfl rfl ?_
    refine gf_7_9 7 dX7_walkProof_4 rfl kf_X7_91 (by first | decide | assumption | exact ⟨Nat.le_of_ble_eq_true rfl, rfl⟩) ?_
    refine g_icmp_ge 117 10 dX7_walkProof_7 rfl (by decide) (fun h7_ => ?_) (fun h7_ => ?_)
    · refine g_vret dX7_walkProof_117 ?_
      exact ⟨rfl, F, rfl, h7, by rw [wkS_cnt hv]; exact h8, h9, by rw [if_pos hv]; exact h10, by rw [if_pos hv]; exact h11, hW, hD, hk⟩
    · exact absurd (by rw [h9]; exact nI_le (Nat.le_refl _) (by omega)) h7_
  | succ n ih =>
    intro s F x2 x3 x4 hs hi hv
    obtain ⟨h7, h8, h9, h10, h11, hW, hD, hk⟩ := hi
    have hti := sd_is s (by omega)
    have hrow : ∀ q, q < 98 → q ≠ 0 → F q = F0 q := fun q a b => hk q b (by omega) (by omega)
    have hS : cS F G s := ⟨h7, h8, hG8, by omega⟩
    have hwf1 := hwf s (by omega)
    have r0 : F (26 + 3 * s) = F0 (26 + 3 * s) := hrow _ (by omega) (by omega)
    have r1 : F (26 + 3 * s + 1) = F0 (26 + 3 * s + 1) := hrow _ (by omega) (by omega)
    have r2 : F (26 + 3 * s + 2) = F0 (26 + 3 * s + 2) := hrow _ (by omega) (by omega)
    have hgs : nI G + nI s = nI (G + s) := nI_add _ _
    refine g_iload_n 3 dX7_walkProof_2 rfl rfl ?_
    refine g_aload_n 4 dX7_walkProof_3 rfl rfl ?_
    refine gf_7_9 7 dX7_walkProof_4 rfl kf_X7_91 (by first | decide | assumption | exact ⟨Nat.le_of_ble_eq_true rfl, rfl⟩) ?_
    refine g_icmp_ge 117 10 dX7_walkProof_7 rfl (by decide) (fun h7_ => ?_) (fun h7_ => ?_)
    · exact absurd h7_ (by rw [h9]; exact nI_ge (by omega) (by omega))
    · refine g_iload_n 11 dX7_walkProof_10 rfl rfl ?_
      refine g_bipush (24) 13 dX7_walkProof_11 rfl (by decide) ?_
      refine g_icmp_ge 117 16 dX7_walkProof_13 rfl (by decide) (fun h13 => ?_) (fun h13 => ?_)
      · exact absurd h13 (nI_ge (a := s) (b := 24) (by omega) (by decide))
      · refine g_aload_n 17 dX7_walkProof_16 rfl rfl ?_
        refine gf_7_7 20 dX7_walkProof_17 rfl kf_X7_81 (by first | decide | assumption | exact ⟨Nat.le_of_ble_eq_true rfl, rfl⟩) ?_
        refine g_iload_n 21 dX7_walkProof_20 rfl rfl ?_
        refine g_iadd 22 dX7_walkProof_21 rfl ?_
        refine g_aload_n 23 dX7_walkProof_22 rfl rfl ?_
        refine gf_7_4 26 dX7_walkProof_23 rfl kf_X7_39 ?_
        refine ga_len 27 dX7_walkProof_26 rfl ⟨by decide, Or.inr rfl⟩ ?_
        refine g_icmp_ge 117 30 dX7_walkProof_27 rfl (by decide) (fun h27 => ?_) (fun h27 => ?_)
        · exact absurd h27 (by rw [h7, hgs]; exact nI_ge (a := G + s) (b := 32) (by omega) (by decide))
        · refine g_aload_n 31 dX7_walkProof_30 rfl rfl ?_
          refine gf_7_1 34 dX7_walkProof_31 rfl kf_X7_19 ?_
          refine gf_3_1 37 dX7_walkProof_34 rfl kf_X7_100 ?_
          refine g_iload_n 38 dX7_walkProof_37 rfl rfl ?_
          refine ga_steps s 39 dX7_walkProof_38 rfl rfl (by omega) ?_
          refine g_astore_n 40 dX7_walkProof_39 rfl (by decide) ?_
          refine g_aload_n 41 dX7_walkProof_40 rfl rfl ?_
          refine gf_7_7 44 dX7_walkProof_41 rfl kf_X7_81 (by first | decide | assumption | exact ⟨Nat.le_of_ble_eq_true rfl, rfl⟩) ?_
          refine g_iload_n 45 dX7_walkProof_44 rfl rfl ?_
          refine g_iadd 46 dX7_walkProof_45 rfl ?_
          rw [h7, hgs]
          refine g_istore_n 47 dX7_walkProof_46 rfl (by decide) ?_
          refine g_aload_n 48 dX7_walkProof_47 rfl rfl ?_
          refine gf_4_0 51 dX7_walkProof_48 rfl kf_X7_104 (by first | decide | assumption | exact ⟨Nat.le_of_ble_eq_true rfl, rfl⟩) ?_
          refine g_bipush (8) 53 dX7_walkProof_51 rfl (by decide) ?_
          refine g_icmp_ne 71 56 dX7_walkProof_53 rfl (by decide) (fun h53 => ?_) (fun h53 => ?_)
          · refine g_aload_n 72 dX7_walkProof_71 rfl rfl ?_
            refine g_aload_n 73 dX7_walkProof_72 rfl rfl ?_
            refine g_aload_n 74 dX7_walkProof_73 rfl rfl ?_
            refine gf_7_4 77 dX7_walkProof_74 rfl kf_X7_39 ?_
            refine g_iload_n 78 dX7_walkProof_77 rfl rfl ?_
            refine ga_lines (G + s) 79 dX7_walkProof_78 rfl rfl (by omega) ?_
            refine g_v2 7 82 dX7_walkProof_79 rfl kl_X7_113 mv_X7_takeStep rfl ⟨Nat.le_of_ble_eq_true rfl, Nat.le_of_ble_eq_true rfl⟩ (Nat.le_of_ble_eq_true rfl) (by first | decide | assumption | exact ⟨Nat.le_of_ble_eq_true rfl, rfl⟩) (c_takeStep g l F J hS hti (m := G + s) rfl (by omega) (by rw [r0, r1, r2]; exact hwf1) h53) ?_
            rintro _ _ ⟨rfl, rfl⟩
            refine g_istore 84 dX7_walkProof_82 rfl (by decide) ?_
            have e1 : wk1 (oldQ F0 s) (G + s) (wkS (oldQ F0) G (Wc F0) (Dc F0) s).1 (wkS (oldQ F0) G (Wc F0) (Dc F0) s).2.1 = (upW (Wc F) (G + s) (opL (Wc F) (Dc F) (F (26 + 3 * s) 0) (F (26 + 3 * s) 1).toNatClampNeg (F (26 + 3 * s) 2)).1, va_up (Dc F) (G + s) (opL (Wc F) (Dc F) (F (26 + 3 * s) 0) (F (26 + 3 * s) 1).toNatClampNeg (F (26 + 3 * s) 2)).2, if okL (opL (Wc F) (Dc F) (F (26 + 3 * s) 0) (F (26 + 3 * s) 1).toNatClampNeg (F (26 + 3 * s) 2)).1 (opL (Wc F) (Dc F) (F (26 + 3 * s) 0) (F (26 + 3 * s) 1).toNatClampNeg (F (26 + 3 * s) 2)).2 then 0 else 1) := by
              rw [wk1, if_neg (show ¬ (oldQ F0 s).1 = 8 by rw [oldQ, ← r0]; exact h53), ← hW, ← hD, show (oldQ F0 s).1 = F (26 + 3 * s) 0 by rw [r0]; rfl, show (oldQ F0 s).2.1 = F (26 + 3 * s) 1 by rw [r0]; rfl, show (oldQ F0 s).2.2.1 = F (26 + 3 * s) 2 by rw [r0]; rfl]
            have hw := wkS_go hv e1
            rw [← Wc_set F (G + s) _ (opL (Wc F) (Dc F) (F (26 + 3 * s) 0) (F (26 + 3 * s) 1).toNatClampNeg (F (26 + 3 * s) 2)).2, ← Dc_set F (G + s) (opL (Wc F) (Dc F) (F (26 + 3 * s) 0) (F (26 + 3 * s) 1).toNatClampNeg (F (26 + 3 * s) 2)).1 _] at hw
            refine ex_walk g l F0 J hG8 hT hwf s (by omega) _ _ _ _ ?_ ?_ ?_ ?_ ?_ ?_ hw (fun hv2 hi2 x2 x3 x4 => ih (s + 1) _ x2 x3 x4 (by omega) hi2 (by rw [hw]; exact hv2))
            · rw [set0]; exact h7
            · rw [set0]; exact h8
            · rw [set0]; exact h9
            · rw [set0]; exact h10
            · rw [set0]; exact h11
            · exact setL_kp hk (by omega) _ _
          · refine g_aload_n 57 dX7_walkProof_56 rfl rfl ?_
            refine g_aload_n 58 dX7_walkProof_57 rfl rfl ?_
            refine g_iload_n 59 dX7_walkProof_58 rfl rfl ?_
            refine g_aload_n 60 dX7_walkProof_59 rfl rfl ?_
            refine gf_7_4 63 dX7_walkProof_60 rfl kf_X7_39 ?_
            refine g_iload_n 64 dX7_walkProof_63 rfl rfl ?_
            refine ga_lines (G + s) 65 dX7_walkProof_64 rfl rfl (by omega) ?_
            refine g_v3 7 68 dX7_walkProof_65 rfl kl_X7_109 mv_X7_takeClaim rfl ⟨Nat.le_of_ble_eq_true rfl, Nat.le_of_ble_eq_true rfl⟩ (Nat.le_of_ble_eq_true rfl) (by first | decide | assumption | exact ⟨Nat.le_of_ble_eq_true rfl, rfl⟩) (c_takeClaim g l F J (t := 26 + 3 * s) ⟨by omega, hti.2⟩ (m := G + s) (by omega)) ?_
            rintro r S2 (⟨hq, rfl, rfl⟩ | ⟨hq, rfl, rfl⟩)
            · refine g_goto 82 dX7_walkProof_68 (by decide) ?_
              refine g_istore 84 dX7_walkProof_82 rfl (by decide) ?_
              have k8 : (oldQ F0 s).1 = 8 := by rw [oldQ, ← r0]; exact h53
              have q3 : (oldQ F0 s).2.2.2.1 = F (26 + 3 * s + 1 + 1) := by rw [show F (26 + 3 * s + 1 + 1) = F0 (26 + 3 * s + 2) from r2]; rfl
              have q4 : (oldQ F0 s).2.2.2.2 = F (26 + 3 * s + 1) 1 := by rw [r1]; rfl
              have e1 : wk1 (oldQ F0 s) (G + s) (wkS (oldQ F0) G (Wc F0) (Dc F0) s).1 (wkS (oldQ F0) G (Wc F0) (Dc F0) s).2.1 = if (fps (Wc (setL F (101 + 2 * (G + s)) (fun j => -(F (26 + 3 * s + 1 + 1) j)) (mw (F (26 + 3 * s + 1 + 1)) 0 0 6 + 1 - F (26 + 3 * s + 1) 1))) (Dc (setL F (101 + 2 * (G + s)) (fun j => -(F (26 + 3 * s + 1 + 1) j)) (mw (F (26 + 3 * s + 1 + 1)) 0 0 6 + 1 - F (26 + 3 * s + 1) 1))) (G + s + 1) 0 0 7).1.2.2 = 0 then (Wc (setL F (101 + 2 * (G + s)) (fun j => -(F (26 + 3 * s + 1 + 1) j)) (mw (F (26 + 3 * s + 1 + 1)) 0 0 6 + 1 - F (26 + 3 * s + 1) 1)), Dc (setL F (101 + 2 * (G + s)) (fun j => -(F (26 + 3 * s + 1 + 1) j)) (mw (F (26 + 3 * s + 1 + 1)) 0 0 6 + 1 - F (26 + 3 * s + 1) 1)), 2) else (upW (Wc (setL F (101 + 2 * (G + s)) (fun j => -(F (26 + 3 * s + 1 + 1) j)) (mw (F (26 + 3 * s + 1 + 1)) 0 0 6 + 1 - F (26 + 3 * s + 1) 1))) (G + s) (F (26 + 3 * s + 1 + 1)), va_up (Dc (setL F (101 + 2 * (G + s)) (fun j => -(F (26 + 3 * s + 1 + 1) j)) (mw (F (26 + 3 * s + 1 + 1)) 0 0 6 + 1 - F (26 + 3 * s + 1) 1))) (G + s) (F (26 + 3 * s + 1) 1), 0) := by
                rw [wk1, if_pos k8, ← hW, ← hD, q3, q4, Wc_set, Dc_set]
              generalize hFo : (setL F (101 + 2 * (G + s)) (fun j => -(F (26 + 3 * s + 1 + 1) j)) (mw (F (26 + 3 * s + 1 + 1)) 0 0 6 + 1 - F (26 + 3 * s + 1) 1)) = Fo at hq e1 ⊢
              have fo0 : Fo 0 = F 0 := by rw [← hFo]; exact set0 _ _ _ _
              have kpo : kpW F0 Fo := by rw [← hFo]; exact setL_kp hk (by omega) _ _
              have f30 : ∀ x, fo3 Fo x 0 = F 0 := fun x => by rw [fo3, fo_ne _ _ _ _ (by decide), fo0]
              generalize hqq : (fps (Wc Fo) (Dc Fo) (G + s + 1) 0 0 7).1 = qq at hq e1 ⊢
              rw [if_pos hq] at e1
              have hw := wkS_go hv e1
              rw [← (fo3_W Fo qq).1, ← (fo3_W Fo qq).2] at hw
              refine ex_walk g l F0 J hG8 hT hwf s (by omega) _ _ _ _ ?_ ?_ ?_ ?_ ?_ ?_ hw (fun hv2 hi2 x2 x3 x4 => ih (s + 1) _ x2 x3 x4 (by omega) hi2 (by rw [hw]; exact hv2))
              · rw [f30]; exact h7
              · rw [f30]; exact h8
              · rw [f30]; exact h9
              · rw [f30]; exact h10
              · rw [f30]; exact h11
              · exact fo3_kp kpo _
            · refine g_goto 82 dX7_walkProof_68 (by decide) ?_
              refine g_istore 84 dX7_walkProof_82 rfl (by decide) ?_
              have k8 : (oldQ F0 s).1 = 8 := by rw [oldQ, ← r0]; exact h53
              have q3 : (oldQ F0 s).2.2.2.1 = F (26 + 3 * s + 1 + 1) := by rw [show F (26 + 3 * s + 1 + 1) = F0 (26 + 3 * s + 2) from r2]; rfl
              have q4 : (oldQ F0 s).2.2.2.2 = F (26 + 3 * s + 1) 1 := by rw [r1]; rfl
              have e1 : wk1 (oldQ F0 s) (G + s) (wkS (oldQ F0) G (Wc F0) (Dc F0) s).1 (wkS (oldQ F0) G (Wc F0) (Dc F0) s).2.1 = if (fps (Wc (setL F (101 + 2 * (G + s)) (fun j => -(F (26 + 3 * s + 1 + 1) j)) (mw (F (26 + 3 * s + 1 + 1)) 0 0 6 + 1 - F (26 + 3 * s + 1) 1))) (Dc (setL F (101 + 2 * (G + s)) (fun j => -(F (26 + 3 * s + 1 + 1) j)) (mw (F (26 + 3 * s + 1 + 1)) 0 0 6 + 1 - F (26 + 3 * s + 1) 1))) (G + s + 1) 0 0 7).1.2.2 = 0 then (Wc (setL F (101 + 2 * (G + s)) (fun j => -(F (26 + 3 * s + 1 + 1) j)) (mw (F (26 + 3 * s + 1 + 1)) 0 0 6 + 1 - F (26 + 3 * s + 1) 1)), Dc (setL F (101 + 2 * (G + s)) (fun j => -(F (26 + 3 * s + 1 + 1) j)) (mw (F (26 + 3 * s + 1 + 1)) 0 0 6 + 1 - F (26 + 3 * s + 1) 1)), 2) else (upW (Wc (setL F (101 + 2 * (G + s)) (fun j => -(F (26 + 3 * s + 1 + 1) j)) (mw (F (26 + 3 * s + 1 + 1)) 0 0 6 + 1 - F (26 + 3 * s + 1) 1))) (G + s) (F (26 + 3 * s + 1 + 1)), va_up (Dc (setL F (101 + 2 * (G + s)) (fun j => -(F (26 + 3 * s + 1 + 1) j)) (mw (F (26 + 3 * s + 1 + 1)) 0 0 6 + 1 - F (26 + 3 * s + 1) 1))) (G + s) (F (26 + 3 * s + 1) 1), 0) := by
                rw [wk1, if_pos k8, ← hW, ← hD, q3, q4, Wc_set, Dc_set]
              generalize hFo : (setL F (101 + 2 * (G + s)) (fun j => -(F (26 + 3 * s + 1 + 1) j)) (mw (F (26 + 3 * s + 1 + 1)) 0 0 6 + 1 - F (26 + 3 * s + 1) 1)) = Fo at hq e1 ⊢
              have fo0 : Fo 0 = F 0 := by rw [← hFo]; exact set0 _ _ _ _
              have kpo : kpW F0 Fo := by rw [← hFo]; exact setL_kp hk (by omega) _ _
              have f30 : ∀ x, fo3 Fo x 0 = F 0 := fun x => by rw [fo3, fo_ne _ _ _ _ (by decide), fo0]
              generalize hqq : (fps (Wc Fo) (Dc Fo) (G + s + 1) 0 0 7).1 = qq at hq e1 ⊢
              rw [if_neg hq] at e1
              have hw := wkS_go hv e1
              rw [← (fo3_W Fo qq).1, ← (fo3_W Fo qq).2, ← Wc_set (fo3 Fo qq) (G + s) _ (F (26 + 3 * s + 1) 1), ← Dc_set (fo3 Fo qq) (G + s) (F (26 + 3 * s + 1 + 1)) _] at hw
              refine ex_walk g l F0 J hG8 hT hwf s (by omega) _ _ _ _ ?_ ?_ ?_ ?_ ?_ ?_ hw (fun hv2 hi2 x2 x3 x4 => ih (s + 1) _ x2 x3 x4 (by omega) hi2 (by rw [hw]))
              · rw [set0, f30]; exact h7
              · rw [set0, f30]; exact h8
              · rw [set0, f30]; exact h9
              · rw [set0, f30]; exact h10
              · rw [set0, f30]; exact h11
              · exact setL_kp (fo3_kp kpo _) (by omega) _ _

set_option maxRecDepth 100000 in
set_option maxHeartbeats 4000000 in
theorem c_walkProof (g : Gl) (l : Launch) (F0 : Nat → Nat → Int32) (J : Nat → Int64) {G T : Nat} (hG8 : G ≤ 8) (hT : T ≤ 24) (hwf : ∀ s, s < T → wfS (G + s) (oldQ F0 s)) (h7 : F0 0 7 = nI G) (h8 : F0 0 8 = 0) (h9 : F0 0 9 = nI T) (h10 : F0 0 10 = -9) (h11 : F0 0 11 = -9) : Ct g l yX7_walkProof cX7_walkProof 5 none 6 0 0 [.ref 0] (St F0 J) (wkZ F0 G T J) := by
  refine Ct.of rfl (by decide) rfl (Nat.le_of_ble_eq_true rfl) ?_
  refine g_iconst (0) 1 dX7_walkProof_0 rfl (by decide) ?_
  refine g_istore_n 2 dX7_walkProof_1 rfl (by decide) ?_
  exact lp_walk g l F0 J hG8 hT hwf T 0 F0 _ _ _ (Nat.zero_add _) ⟨h7, by rw [h8]; rfl, h9, h10, h11, rfl, rfl, fun _ _ _ _ => rfl⟩ rfl

