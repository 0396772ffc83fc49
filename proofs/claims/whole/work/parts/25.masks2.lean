/-! the reference: what it is asked (2) -/
def hasM (x : Int64) (w : Nat) : Prop := x >>> ((nI w).toInt64 &&& 63) &&& 1 = 1
theorem sh_eq (x : Int64) {w : Nat} (hw : w < 64) : x >>> ((nI w).toInt64 &&& 63) &&& 1 = ushL x (nI w) &&& 1 := by
  have e1 : ∀ w, w < 64 → ((nI w).toInt64 &&& 63).toBitVec.smod 64 = BitVec.ofNat 64 w := by decide +kernel
  have e2 : ∀ w, w < 64 → ((nI w).toInt64.toUInt64 &&& Int64.toUInt64 63).toBitVec = BitVec.ofNat 64 w := by decide +kernel
  have e3 : ∀ w, w < 64 → ((nI w).toInt64.toUInt64 &&& Int64.toUInt64 63 % 64).toBitVec = BitVec.ofNat 64 w := by decide +kernel
  apply Int64.toBitVec.inj
  rw [Int64.toBitVec_and, Int64.toBitVec_and, Int64.toBitVec_shiftRight, e1 w hw]
  have e4 : (ushL x (nI w)).toBitVec = x.toBitVec >>> (BitVec.ofNat 64 w) := by
    show ((x.toUInt64 >>> ((nI w).toInt64.toUInt64 &&& Int64.toUInt64 63)).toInt64).toBitVec = _
    have : ((x.toUInt64 >>> ((nI w).toInt64.toUInt64 &&& Int64.toUInt64 63)).toInt64).toBitVec = (x.toUInt64 >>> ((nI w).toInt64.toUInt64 &&& Int64.toUInt64 63)).toBitVec := rfl
    rw [this, UInt64.toBitVec_shiftRight, e2 w hw]
    have : ∀ w, w < 64 → (BitVec.ofNat 64 w % 64) = BitVec.ofNat 64 w := by decide +kernel
    rw [this w hw]; rfl
  rw [e4]
  have e5 : (BitVec.ofNat 64 w).toNat = w := by simp; omega
  apply BitVec.eq_of_getLsbD_eq
  intro i hi
  simp only [BitVec.getLsbD_and, BitVec.sshiftRight_eq', BitVec.ushiftRight_eq', e5, BitVec.getLsbD_ushiftRight, BitVec.getLsbD_sshiftRight]
  by_cases h : i = 0
  · subst h; simp [hw]
  · simp [h]
theorem has_eq (x : Int64) {w : Nat} (hw : w < 64) : (x >>> ((nI w).toInt64 &&& 63) &&& 1 = 1) ↔ hasW x w := by rw [sh_eq x hw]
set_option maxRecDepth 100000 in
set_option maxHeartbeats 4000000 in
theorem lm_tight (g : Gl) (l : Launch) (F : Nat → Nat → Int32) (J : Nat → Int64) {n0 : Nat} (hn0 : n0 < 33) (t : Int64) {XX : State → Method → Prop} (n : Nat) : ∀ (i : Nat) (ix x : Int32) (x6 : Option Value), i + n = 64 → ix = nI i → x = tgt t (Wm F n0) i → Gj g l (rmd 6 0 0) XX (QM g (fun r S2 => r = some (.int (tgt t (Wm F n0) 64)) ∧ S2 = St F J) 0 0) RX8 cX8_tight 7 (some .int) 27 [some (.ref 167), some (.int (nI n0)), some (.long t), none, some (.int x), some (.int ix), x6] [] (St F J) 0 0 := by
  induction n with
  | zero =>
    intro i ix x x6 hi hx he
    obtain rfl : i = 64 := by omega
    subst hx; subst he
    refine g_iload 29 dX8_tight_27 rfl rfl ?_
    refine g_bipush (64) 31 dX8_tight_29 rfl (by decide) ?_
    refine g_icmp_ge 86 34 dX8_tight_31 rfl (by decide) (fun h31 => ?_) (fun h31 => ?_)
    · refine g_iload 88 dX8_tight_86 rfl rfl ?_
      refine g_iret dX8_tight_88 ?_
      exact ⟨rfl, rfl⟩
    · exact absurd (by decide) h31
  | succ n ih =>
    intro i ix x x6 hi hx he
    subst hx
    have e0 := we_mw (Wm F n0) (x := i) (by omega) 6 (Nat.le_refl _)
    refine g_iload 29 dX8_tight_27 rfl rfl ?_
    refine g_bipush (64) 31 dX8_tight_29 rfl (by decide) ?_
    refine g_icmp_ge 86 34 dX8_tight_31 rfl (by decide) (fun h31 => ?_) (fun h31 => ?_)
    · exact absurd h31 (lt64 (by omega))
    · refine g_aload_n 35 dX8_tight_34 rfl rfl ?_
      refine g_bipush (7) 37 dX8_tight_35 rfl (by decide) ?_
      refine g_iload_n 38 dX8_tight_37 rfl rfl ?_
      refine g_imul 39 dX8_tight_38 rfl ?_
      refine g_iload 41 dX8_tight_39 rfl rfl ?_
      refine g_v2 8 44 dX8_tight_41 rfl kl_X8_146 mv_X8_weighs rfl ⟨Nat.le_of_ble_eq_true rfl, Nat.le_of_ble_eq_true rfl⟩ (Nat.le_of_ble_eq_true rfl) (by first | decide | assumption | exact ⟨Nat.le_of_ble_eq_true rfl, rfl⟩) (m_weighs g l _ F J hn0) ?_
      rintro _ _ ⟨rfl, rfl⟩
      refine g_istore 46 dX8_tight_44 rfl (by decide) ?_
      refine g_lload_n 47 dX8_tight_46 rfl rfl ?_
      refine g_iload 49 dX8_tight_47 rfl rfl ?_
      refine g_lshr 50 dX8_tight_49 rfl ?_
      refine g_lconst (1) 51 dX8_tight_50 rfl (by decide) ?_
      refine g_land 52 dX8_tight_51 rfl ?_
      refine g_lconst (1) 53 dX8_tight_52 rfl (by decide) ?_
      refine g_lc_ne 76 57 dX8_tight_53 dX8_tight_54 rfl (by decide) (fun h53 => ?_) (fun h53 => ?_)
      · refine g_iload 78 dX8_tight_76 rfl rfl ?_
        refine g_istore 80 dX8_tight_78 rfl (by decide) ?_
        refine g_iinc (1) 83 dX8_tight_80 rfl (by decide) (by decide) rfl ?_
        refine g_goto 27 dX8_tight_83 (by decide) ?_
        exact ih (i + 1) _ _ _ (by omega) (nI_succ i).symm (by rw [tgt, ← he, ← e0, if_neg (fun z => h53 ((has_eq t (by omega)).mpr z.1))])
      · refine g_iload 59 dX8_tight_57 rfl rfl ?_
        refine g_bipush (-9) 61 dX8_tight_59 rfl (by decide) ?_
        refine g_icmp_eq 71 64 dX8_tight_61 rfl (by decide) (fun h61 => ?_) (fun h61 => ?_)
        · refine g_iload 73 dX8_tight_71 rfl rfl ?_
          refine g_goto 78 dX8_tight_73 (by decide) ?_
          refine g_istore 80 dX8_tight_78 rfl (by decide) ?_
          refine g_iinc (1) 83 dX8_tight_80 rfl (by decide) (by decide) rfl ?_
          refine g_goto 27 dX8_tight_83 (by decide) ?_
          exact ih (i + 1) _ _ _ (by omega) (nI_succ i).symm (by rw [tgt, ← he, ← e0, if_pos ⟨(has_eq t (by omega)).mp h53, Or.inl h61⟩])
        · refine g_iload 66 dX8_tight_64 rfl rfl ?_
          refine g_iload 68 dX8_tight_66 rfl rfl ?_
          refine g_icmp_ge 76 71 dX8_tight_68 rfl (by decide) (fun h68 => ?_) (fun h68 => ?_)
          · refine g_iload 78 dX8_tight_76 rfl rfl ?_
            refine g_istore 80 dX8_tight_78 rfl (by decide) ?_
            refine g_iinc (1) 83 dX8_tight_80 rfl (by decide) (by decide) rfl ?_
            refine g_goto 27 dX8_tight_83 (by decide) ?_
            exact ih (i + 1) _ _ _ (by omega) (nI_succ i).symm (by rw [tgt, ← he, ← e0, if_neg (fun z => z.2.elim h61 (fun y => y h68))])
          · refine g_iload 73 dX8_tight_71 rfl rfl ?_
            refine g_goto 78 dX8_tight_73 (by decide) ?_
            refine g_istore 80 dX8_tight_78 rfl (by decide) ?_
            refine g_iinc (1) 83 dX8_tight_80 rfl (by decide) (by decide) rfl ?_
            refine g_goto 27 dX8_tight_83 (by decide) ?_
            exact ih (i + 1) _ _ _ (by omega) (nI_succ i).symm (by rw [tgt, ← he, ← e0, if_pos ⟨(has_eq t (by omega)).mp h53, Or.inr h68⟩])

set_option maxRecDepth 100000 in
set_option maxHeartbeats 4000000 in
theorem m_tight (g : Gl) (l : Launch) (i : Int32) (F : Nat → Nat → Int32) (J : Nat → Int64) {G P : Nat} (hS : mS F G P) : Ct g l yX8_tight cX8_tight 7 (some .int) 6 0 0 [.ref 167, .int i] (St F J) (fun r S2 => r = some (.int (tightA (G + P) G (Wm F) (Dm F) i)) ∧ S2 = St F J) := by
  obtain ⟨hG, hP, hT, hG8, hP24⟩ := hS
  refine Ct.of rfl (by decide) rfl (Nat.le_of_ble_eq_true rfl) ?_
  refine g_aload_n 1 dX8_tight_0 rfl rfl ?_
  refine g_iconst (0) 2 dX8_tight_1 rfl (by decide) ?_
  refine gp_8_0 5 dX8_tight_2 rfl kf_X8_35 (by first | decide | assumption | exact ⟨Nat.le_of_ble_eq_true rfl, rfl⟩) ?_
  refine gs_at (congrArg (fun x => St x J) (thr hT)) ?_
  refine g_aload_n 6 dX8_tight_5 rfl rfl ?_
  refine g_iload_n 7 dX8_tight_6 rfl rfl ?_
  refine g_v1 8 10 dX8_tight_7 rfl kl_X8_142 mv_X8_isLine rfl ⟨Nat.le_of_ble_eq_true rfl, Nat.le_of_ble_eq_true rfl⟩ (Nat.le_of_ble_eq_true rfl) (by first | decide | assumption | exact ⟨Nat.le_of_ble_eq_true rfl, rfl⟩) (m_isLine g l _ F J ⟨hG, hP, hT, hG8, hP24⟩) ?_
  rintro _ _ ⟨rfl, rfl⟩
  refine g_if_ne 15 13 dX8_tight_10 rfl (by decide) (fun h10 => ?_) (fun h10 => ?_)
  · obtain ⟨n, hn, en, cn⟩ := isLn_n (b10n h10) (by omega)
    subst en
    refine g_aload_n 16 dX8_tight_15 rfl rfl ?_
    refine g_v0 8 19 dX8_tight_16 rfl kl_X8_171 mv_X8_trueWorlds rfl ⟨Nat.le_of_ble_eq_true rfl, Nat.le_of_ble_eq_true rfl⟩ (Nat.le_of_ble_eq_true rfl) (by first | decide | assumption | exact ⟨Nat.le_of_ble_eq_true rfl, rfl⟩) (m_trueWorlds g l F J ⟨hG, hP, hT, hG8, hP24⟩) ?_
    rintro _ _ ⟨rfl, rfl⟩
    refine g_lstore_n 20 dX8_tight_19 rfl (by decide) ?_
    refine g_bipush (-9) 22 dX8_tight_20 rfl (by decide) ?_
    refine g_istore 24 dX8_tight_22 rfl (by decide) ?_
    refine g_iconst (0) 25 dX8_tight_24 rfl (by decide) ?_
    refine g_istore 27 dX8_tight_25 rfl (by decide) ?_
    have h := lm_tight g l F J (n0 := n) (by omega) (tws (Wm F) (Dm F) G) 64 0 _ _ none rfl rfl rfl (XX := fun _ M => M.name = yX8_tight.name)
    rw [show tgt (tws (Wm F) (Dm F) G) (Wm F n) 64 = tightA (G + P) G (Wm F) (Dm F) (nI n) by rw [tightA, if_pos (b10n h10), cn]] at h
    exact h
  · refine g_iconst (-1) 14 dX8_tight_13 rfl (by decide) ?_
    refine g_iret dX8_tight_14 ?_
    exact ⟨by rw [tightA, if_neg (b10.mp h10)], rfl⟩

def onM (s : Int32) : Nat → Int32
  | 0 => 0
  | i + 1 => onM s i + bt s i
set_option maxRecDepth 100000 in
theorem on_bc : ∀ s, s < 256 → onM (nI s) 8 = bc32 (nI s) ∧ ¬ (9 : Int32) ≤ bc32 (nI s) := by decide +kernel
set_option maxRecDepth 100000 in
set_option maxHeartbeats 4000000 in
theorem lm_ones (g : Gl) (l : Launch) (s : Int32) (S : Sg) {XX : State → Method → Prop} (n : Nat) : ∀ (i : Nat) (ix x : Int32), i + n = 8 → ix = nI i → x = onM s i → Gj g l (rmd 0 0 0) XX (QM g (fun r S2 => r = some (.int (onM s 8)) ∧ S2 = S) 0 0) RX8 cX8_ones 3 (some .int) 4 [some (.int s), some (.int x), some (.int ix)] [] S 0 0 := by
  induction n with
  | zero =>
    intro i ix x hi hx he
    obtain rfl : i = 8 := by omega
    subst hx; subst he
    refine g_iload_n 5 dX8_ones_4 rfl rfl ?_
    refine g_bipush (8) 7 dX8_ones_5 rfl (by decide) ?_
    refine g_icmp_ge 24 10 dX8_ones_7 rfl (by decide) (fun h7 => ?_) (fun h7 => ?_)
    · refine g_iload_n 25 dX8_ones_24 rfl rfl ?_
      refine g_iret dX8_ones_25 ?_
      exact ⟨rfl, rfl⟩
    · exact absurd (by decide) h7
  | succ n ih =>
    intro i ix x hi hx he
    subst hx
    refine g_iload_n 5 dX8_ones_4 rfl rfl ?_
    refine g_bipush (8) 7 dX8_ones_5 rfl (by decide) ?_
    refine g_icmp_ge 24 10 dX8_ones_7 rfl (by decide) (fun h7 => ?_) (fun h7 => ?_)
    · exact absurd h7 (nI_ge (a := i) (b := 8) (by omega) (by decide))
    · refine g_iload_n 11 dX8_ones_10 rfl rfl ?_
      refine g_iload_n 12 dX8_ones_11 rfl rfl ?_
      refine g_iload_n 13 dX8_ones_12 rfl rfl ?_
      refine g_ishr 14 dX8_ones_13 rfl ?_
      refine g_iconst (1) 15 dX8_ones_14 rfl (by decide) ?_
      refine g_iand 16 dX8_ones_15 rfl ?_
      refine g_iadd 17 dX8_ones_16 rfl ?_
      refine g_istore_n 18 dX8_ones_17 rfl (by decide) ?_
      refine g_iinc (1) 21 dX8_ones_18 rfl (by decide) (by decide) rfl ?_
      refine g_goto 4 dX8_ones_21 (by decide) ?_
      exact ih (i + 1) _ _ (by omega) (nI_succ i).symm (by rw [onM, ← he]; rfl)

set_option maxRecDepth 100000 in
set_option maxHeartbeats 4000000 in
theorem m_ones0 (g : Gl) (l : Launch) (s : Int32) (S : Sg) : Ct g l yX8_ones cX8_ones 3 (some .int) 0 0 0 [.int s] S (fun r S2 => r = some (.int (onM s 8)) ∧ S2 = S) := by
  refine Ct.of rfl (by decide) rfl (Nat.le_of_ble_eq_true rfl) ?_
  refine g_iconst (0) 1 dX8_ones_0 rfl (by decide) ?_
  refine g_istore_n 2 dX8_ones_1 rfl (by decide) ?_
  refine g_iconst (0) 3 dX8_ones_2 rfl (by decide) ?_
  refine g_istore_n 4 dX8_ones_3 rfl (by decide) ?_
  exact lm_ones g l s S 8 0 _ _ rfl rfl rfl

theorem m_ones (g : Gl) (l : Launch) {s : Nat} (hs : s < 256) (S : Sg) : Ct g l yX8_ones cX8_ones 3 (some .int) 0 0 0 [.int (nI s)] S (fun r S2 => r = some (.int (bc32 (nI s))) ∧ S2 = S) := by
  have h := m_ones0 g l (nI s) S
  rw [(on_bc s hs).1] at h; exact h
theorem lts_in (X : Nat → Int64) (h : Int64) : ∀ s, s ≤ 256 → ((lts X h s).1 = -9 ∧ (lts X h s).2 = 9) ∨ ∃ b, b < 256 ∧ (lts X h s).1 = nI b ∧ (lts X h s).2 = bc32 (nI b)
  | 0, _ => Or.inl ⟨rfl, rfl⟩
  | s + 1, hs => by
    rw [lts]
    split
    · exact lts_in X h s (by omega)
    · split
      · exact Or.inr ⟨s, by omega, rfl, rfl⟩
      · exact lts_in X h s (by omega)
theorem nI_m9 {b : Nat} (hb : b < 256) : ¬ nI b = -9 := fun z => nI_pos (n := b) (by omega) (by rw [z]; decide)
theorem b01x {x : Int32} (h : ¬ x < 0 ∧ x ≤ 1) (h1 : ¬ x = 1) : x = 0 := by
  obtain ⟨b, hb, e⟩ := nI_of2 (M := 1) (n := 1) rfl h.1 h.2
  subst e
  match b, hb with
  | 0, _ => rfl
  | 1, _ => exact absurd rfl h1
set_option maxRecDepth 100000 in
set_option maxHeartbeats 4000000 in
theorem lm_needed (g : Gl) (l : Launch) (what : Int32) (hd : Int64) (F : Nat → Nat → Int32) (J : Nat → Int64) {G P : Nat} (hS : mS F G P) {n0 : Nat} (hn0 : n0 < 33) (hln : isLn (G + P) (nI n0)) (hwt : ¬ what < 0 ∧ what ≤ 1) (e1 : holdsA (G + P) (Wm F) (Dm F) (nI n0) = hd) {XX : State → Method → Prop} (n : Nat) : ∀ (i : Nat) (ix bs : Int32), i + n = 2 ^ G → ix = nI i → bs = (lts (gwF (Wm F) (Dm F) J G) hd i).1 → Gj g l (rmd 6 0 0) XX (QM g (fun r S2 => r = some (.int (neededA (G + P) G (Wm F) (Dm F) J (nI n0) what)) ∧ S2 = St F J) 0 0) RX8 cX8_needed 7 (some .int) 37 [some (.ref 167), some (.int (nI n0)), some (.int what), some (.long hd), none, some (.int bs), some (.int ix)] [] (St F J) 0 0 := by
  obtain ⟨hG, hP, hT, hG8, hP24⟩ := hS
  induction n with
  | zero =>
    intro i ix bs hi hx he
    have h2 := p2le G hG8
    obtain rfl : i = 2 ^ G := by omega
    subst hx
    rcases lts_in (gwF (Wm F) (Dm F) J G) hd (2 ^ G) h2 with ⟨q1, q2⟩ | ⟨b, hb, q1, q2⟩
    · rw [q1] at he
      subst he
      refine g_iload 39 dX8_needed_37 rfl rfl ?_
      refine g_iconst (1) 40 dX8_needed_39 rfl (by decide) ?_
      refine g_aload_n 41 dX8_needed_40 rfl rfl ?_
      refine gf_8_9 44 dX8_needed_41 rfl kf_X8_106 (by first | decide | assumption | exact ⟨Nat.le_of_ble_eq_true rfl, rfl⟩) ?_
      refine g_ishl 45 dX8_needed_44 rfl ?_
      rw [hG, shl1 G hG8]
      refine g_icmp_ge 95 48 dX8_needed_45 rfl (by decide) (fun h45 => ?_) (fun h45 => ?_)
      · refine g_iload 97 dX8_needed_95 rfl rfl ?_
        refine g_bipush (-9) 99 dX8_needed_97 rfl (by decide) ?_
        refine g_icmp_eq 107 102 dX8_needed_99 rfl (by decide) (fun h99 => ?_) (fun h99 => ?_)
        · refine g_iload 109 dX8_needed_107 rfl rfl ?_
          refine g_goto 117 dX8_needed_109 (by decide) ?_
          refine g_iret dX8_needed_117 ?_
          exact ⟨by rw [neededA, if_pos ⟨hln, hwt⟩, e1, if_pos q1], rfl⟩
        · exact absurd h99 (by decide)
      · exact absurd (nI_le (Nat.le_refl _) (by omega)) h45
    · have he2 := he
      rw [q1] at he
      subst he
      refine g_iload 39 dX8_needed_37 rfl rfl ?_
      refine g_iconst (1) 40 dX8_needed_39 rfl (by decide) ?_
      refine g_aload_n 41 dX8_needed_40 rfl rfl ?_
      refine gf_8_9 44 dX8_needed_41 rfl kf_X8_106 (by first | decide | assumption | exact ⟨Nat.le_of_ble_eq_true rfl, rfl⟩) ?_
      refine g_ishl 45 dX8_needed_44 rfl ?_
      rw [hG, shl1 G hG8]
      refine g_icmp_ge 95 48 dX8_needed_45 rfl (by decide) (fun h45 => ?_) (fun h45 => ?_)
      · refine g_iload 97 dX8_needed_95 rfl rfl ?_
        refine g_bipush (-9) 99 dX8_needed_97 rfl (by decide) ?_
        refine g_icmp_eq 107 102 dX8_needed_99 rfl (by decide) (fun h99 => ?_) (fun h99 => ?_)
        · exact absurd h99 (nI_m9 hb)
        · refine g_iload_n 103 dX8_needed_102 rfl rfl ?_
          refine g_iconst (1) 104 dX8_needed_103 rfl (by decide) ?_
          refine g_icmp_ne 112 107 dX8_needed_104 rfl (by decide) (fun h104 => ?_) (fun h104 => ?_)
          · refine g_iload 114 dX8_needed_112 rfl rfl ?_
            refine g_s1 117 dX8_needed_114 rfl kl_X8_175 ms_X8_ones ⟨Nat.le_of_ble_eq_true rfl, Nat.le_of_ble_eq_true rfl⟩ (Nat.le_of_ble_eq_true rfl) (m_ones g l hb _) ?_
            rintro _ _ ⟨rfl, rfl⟩
            refine g_iret dX8_needed_117 ?_
            exact ⟨by rw [neededA, if_pos ⟨hln, hwt⟩, e1, ← he2, if_neg (nI_m9 hb), if_pos (b01x hwt h104)], rfl⟩
          · refine g_iload 109 dX8_needed_107 rfl rfl ?_
            refine g_goto 117 dX8_needed_109 (by decide) ?_
            refine g_iret dX8_needed_117 ?_
            exact ⟨by rw [neededA, if_pos ⟨hln, hwt⟩, e1, ← he2, if_neg (nI_m9 hb), if_neg (by rw [h104]; decide)], rfl⟩
      · exact absurd (nI_le (Nat.le_refl _) (by omega)) h45
  | succ n ih =>
    intro i ix bs hi hx he
    have h2 := p2le G hG8
    subst hx
    have ehb := hb_wog (Wm F) (Dm F) J hG8 (s := i) (by omega)
    rcases lts_in (gwF (Wm F) (Dm F) J G) hd i (by omega) with ⟨q1, q2⟩ | ⟨b, hb, q1, q2⟩
    · rw [q1] at he
      subst he
      refine g_iload 39 dX8_needed_37 rfl rfl ?_
      refine g_iconst (1) 40 dX8_needed_39 rfl (by decide) ?_
      refine g_aload_n 41 dX8_needed_40 rfl rfl ?_
      refine gf_8_9 44 dX8_needed_41 rfl kf_X8_106 (by first | decide | assumption | exact ⟨Nat.le_of_ble_eq_true rfl, rfl⟩) ?_
      refine g_ishl 45 dX8_needed_44 rfl ?_
      rw [hG, shl1 G hG8]
      refine g_icmp_ge 95 48 dX8_needed_45 rfl (by decide) (fun h45 => ?_) (fun h45 => ?_)
      · exact absurd h45 (nI_ge (by omega) (by omega))
      · refine g_iload 50 dX8_needed_48 rfl rfl ?_
        refine g_bipush (-9) 52 dX8_needed_50 rfl (by decide) ?_
        refine g_icmp_eq 68 55 dX8_needed_52 rfl (by decide) (fun h52 => ?_) (fun h52 => ?_)
        · refine g_aload_n 69 dX8_needed_68 rfl rfl ?_
          refine g_iload 71 dX8_needed_69 rfl rfl ?_
          refine g_v1 8 74 dX8_needed_71 rfl kl_X8_168 mv_X8_heldBy rfl ⟨Nat.le_of_ble_eq_true rfl, Nat.le_of_ble_eq_true rfl⟩ (Nat.le_of_ble_eq_true rfl) (by first | decide | assumption | exact ⟨Nat.le_of_ble_eq_true rfl, rfl⟩) (m_heldBy g l _ F J ⟨hG, hP, hT, hG8, hP24⟩) ?_
          rintro _ _ ⟨rfl, rfl⟩
          rw [ehb]
          refine g_lload_n 75 dX8_needed_74 rfl rfl ?_
          refine g_ldc2 78 dX8_needed_75 rfl kc_X8_160 ?_
          refine g_lxor 79 dX8_needed_78 rfl ?_
          refine g_land 80 dX8_needed_79 rfl ?_
          refine g_lconst (0) 81 dX8_needed_80 rfl (by decide) ?_
          refine g_lc_ne 89 85 dX8_needed_81 dX8_needed_82 rfl (by decide) (fun h81 => ?_) (fun h81 => ?_)
          · refine g_iinc (1) 92 dX8_needed_89 rfl (by decide) (by decide) rfl ?_
            refine g_goto 37 dX8_needed_92 (by decide) ?_
            exact ih (i + 1) _ _ (by omega) (nI_succ i).symm (by rw [lts, q2, if_neg (on_bc i (by omega)).2, if_neg h81, q1])
          · refine g_iload 87 dX8_needed_85 rfl rfl ?_
            refine g_istore 89 dX8_needed_87 rfl (by decide) ?_
            refine g_iinc (1) 92 dX8_needed_89 rfl (by decide) (by decide) rfl ?_
            refine g_goto 37 dX8_needed_92 (by decide) ?_
            exact ih (i + 1) _ _ (by omega) (nI_succ i).symm (by rw [lts, q2, if_neg (on_bc i (by omega)).2, if_pos h81])
        · exact absurd h52 (by decide)
    · rw [q1] at he
      subst he
      refine g_iload 39 dX8_needed_37 rfl rfl ?_
      refine g_iconst (1) 40 dX8_needed_39 rfl (by decide) ?_
      refine g_aload_n 41 dX8_needed_40 rfl rfl ?_
      refine gf_8_9 44 dX8_needed_41 rfl kf_X8_106 (by first | decide | assumption | exact ⟨Nat.le_of_ble_eq_true rfl, rfl⟩) ?_
      refine g_ishl 45 dX8_needed_44 rfl ?_
      rw [hG, shl1 G hG8]
      refine g_icmp_ge 95 48 dX8_needed_45 rfl (by decide) (fun h45 => ?_) (fun h45 => ?_)
      · exact absurd h45 (nI_ge (by omega) (by omega))
      · refine g_iload 50 dX8_needed_48 rfl rfl ?_
        refine g_bipush (-9) 52 dX8_needed_50 rfl (by decide) ?_
        refine g_icmp_eq 68 55 dX8_needed_52 rfl (by decide) (fun h52 => ?_) (fun h52 => ?_)
        · exact absurd h52 (nI_m9 hb)
        · refine g_iload 57 dX8_needed_55 rfl rfl ?_
          refine g_s1 60 dX8_needed_57 rfl kl_X8_175 ms_X8_ones ⟨Nat.le_of_ble_eq_true rfl, Nat.le_of_ble_eq_true rfl⟩ (Nat.le_of_ble_eq_true rfl) (m_ones g l (s := i) (by omega) _) ?_
          rintro _ _ ⟨rfl, rfl⟩
          refine g_iload 62 dX8_needed_60 rfl rfl ?_
          refine g_s1 65 dX8_needed_62 rfl kl_X8_175 ms_X8_ones ⟨Nat.le_of_ble_eq_true rfl, Nat.le_of_ble_eq_true rfl⟩ (Nat.le_of_ble_eq_true rfl) (m_ones g l hb _) ?_
          rintro _ _ ⟨rfl, rfl⟩
          refine g_icmp_ge 89 68 dX8_needed_65 rfl (by decide) (fun h65 => ?_) (fun h65 => ?_)
          · refine g_iinc (1) 92 dX8_needed_89 rfl (by decide) (by decide) rfl ?_
            refine g_goto 37 dX8_needed_92 (by decide) ?_
            exact ih (i + 1) _ _ (by omega) (nI_succ i).symm (by rw [lts, q2, if_pos h65, q1])
          · refine g_aload_n 69 dX8_needed_68 rfl rfl ?_
            refine g_iload 71 dX8_needed_69 rfl rfl ?_
            refine g_v1 8 74 dX8_needed_71 rfl kl_X8_168 mv_X8_heldBy rfl ⟨Nat.le_of_ble_eq_true rfl, Nat.le_of_ble_eq_true rfl⟩ (Nat.le_of_ble_eq_true rfl) (by first | decide | assumption | exact ⟨Nat.le_of_ble_eq_true rfl, rfl⟩) (m_heldBy g l _ F J ⟨hG, hP, hT, hG8, hP24⟩) ?_
            rintro _ _ ⟨rfl, rfl⟩
            rw [ehb]
            refine g_lload_n 75 dX8_needed_74 rfl rfl ?_
            refine g_ldc2 78 dX8_needed_75 rfl kc_X8_160 ?_
            refine g_lxor 79 dX8_needed_78 rfl ?_
            refine g_land 80 dX8_needed_79 rfl ?_
            refine g_lconst (0) 81 dX8_needed_80 rfl (by decide) ?_
            refine g_lc_ne 89 85 dX8_needed_81 dX8_needed_82 rfl (by decide) (fun h81 => ?_) (fun h81 => ?_)
            · refine g_iinc (1) 92 dX8_needed_89 rfl (by decide) (by decide) rfl ?_
              refine g_goto 37 dX8_needed_92 (by decide) ?_
              exact ih (i + 1) _ _ (by omega) (nI_succ i).symm (by rw [lts, q2, if_neg h65, if_neg h81, q1])
            · refine g_iload 87 dX8_needed_85 rfl rfl ?_
              refine g_istore 89 dX8_needed_87 rfl (by decide) ?_
              refine g_iinc (1) 92 dX8_needed_89 rfl (by decide) (by decide) rfl ?_
              refine g_goto 37 dX8_needed_92 (by decide) ?_
              exact ih (i + 1) _ _ (by omega) (nI_succ i).symm (by rw [lts, q2, if_neg h65, if_pos h81])

set_option maxRecDepth 100000 in
set_option maxHeartbeats 4000000 in
theorem m_needed (g : Gl) (l : Launch) (i what : Int32) (F : Nat → Nat → Int32) (J : Nat → Int64) {G P : Nat} (hS : mS F G P) : Ct g l yX8_needed cX8_needed 7 (some .int) 6 0 0 [.ref 167, .int i, .int what] (St F J) (fun r S2 => r = some (.int (neededA (G + P) G (Wm F) (Dm F) J i what)) ∧ S2 = St F J) := by
  obtain ⟨hG, hP, hT, hG8, hP24⟩ := hS
  refine Ct.of rfl (by decide) rfl (Nat.le_of_ble_eq_true rfl) ?_
  refine g_aload_n 1 dX8_needed_0 rfl rfl ?_
  refine g_iconst (0) 2 dX8_needed_1 rfl (by decide) ?_
  refine gp_8_0 5 dX8_needed_2 rfl kf_X8_35 (by first | decide | assumption | exact ⟨Nat.le_of_ble_eq_true rfl, rfl⟩) ?_
  refine gs_at (congrArg (fun x => St x J) (thr hT)) ?_
  refine g_aload_n 6 dX8_needed_5 rfl rfl ?_
  refine g_iload_n 7 dX8_needed_6 rfl rfl ?_
  refine g_v1 8 10 dX8_needed_7 rfl kl_X8_142 mv_X8_isLine rfl ⟨Nat.le_of_ble_eq_true rfl, Nat.le_of_ble_eq_true rfl⟩ (Nat.le_of_ble_eq_true rfl) (by first | decide | assumption | exact ⟨Nat.le_of_ble_eq_true rfl, rfl⟩) (m_isLine g l _ F J ⟨hG, hP, hT, hG8, hP24⟩) ?_
  rintro _ _ ⟨rfl, rfl⟩
  refine g_if_eq 22 13 dX8_needed_10 rfl (by decide) (fun h10 => ?_) (fun h10 => ?_)
  · refine g_iconst (-1) 23 dX8_needed_22 rfl (by decide) ?_
    refine g_iret dX8_needed_23 ?_
    exact ⟨by rw [neededA, if_neg (fun z => b10.mp h10 z.1)], rfl⟩
  · obtain ⟨n, hn, en, cn⟩ := isLn_n (b10n h10) (by omega)
    subst en
    refine g_iload_n 14 dX8_needed_13 rfl rfl ?_
    refine g_iconst (0) 15 dX8_needed_14 rfl (by decide) ?_
    refine g_iconst (1) 16 dX8_needed_15 rfl (by decide) ?_
    refine g_s3 19 dX8_needed_16 rfl kl_X8_38 ms_X8_in ⟨Nat.le_of_ble_eq_true rfl, Nat.le_of_ble_eq_true rfl⟩ (Nat.le_of_ble_eq_true rfl) (m_in g l _ _ _ _) ?_
    rintro _ _ ⟨rfl, rfl⟩
    refine g_if_ne 24 22 dX8_needed_19 rfl (by decide) (fun h19 => ?_) (fun h19 => ?_)
    · have hq := b10n h19
      refine g_aload_n 25 dX8_needed_24 rfl rfl ?_
      refine g_iload_n 26 dX8_needed_25 rfl rfl ?_
      refine g_v1 8 29 dX8_needed_26 rfl kl_X8_153 mv_X8_held rfl ⟨Nat.le_of_ble_eq_true rfl, Nat.le_of_ble_eq_true rfl⟩ (Nat.le_of_ble_eq_true rfl) (by first | decide | assumption | exact ⟨Nat.le_of_ble_eq_true rfl, rfl⟩) (m_held g l F J (n0 := n) (by omega)) ?_
      rintro _ _ ⟨rfl, rfl⟩
      refine g_lstore_n 30 dX8_needed_29 rfl (by decide) ?_
      refine g_bipush (-9) 32 dX8_needed_30 rfl (by decide) ?_
      refine g_istore 34 dX8_needed_32 rfl (by decide) ?_
      refine g_iconst (0) 35 dX8_needed_34 rfl (by decide) ?_
      refine g_istore 37 dX8_needed_35 rfl (by decide) ?_
      exact lm_needed g l what _ F J ⟨hG, hP, hT, hG8, hP24⟩ (n0 := n) (by omega) (b10n h10) ⟨hq.1, Int32.not_lt.mp hq.2⟩ (by rw [holdsA, if_pos (b10n h10), cn]) (2 ^ G) 0 _ _ (Nat.zero_add _) rfl rfl
    · refine g_iconst (-1) 23 dX8_needed_22 rfl (by decide) ?_
      refine g_iret dX8_needed_23 ?_
      exact ⟨by rw [neededA, if_neg (fun z => b10.mp h19 ⟨z.2.1, Int32.not_lt.mpr z.2.2⟩)], rfl⟩

def cvM (w : Nat → Int32) (d set : Int32) : Nat → Int32
  | 0 => -d
  | i + 1 => cvM w d set i + (if bt set i = 1 then 0 else abs32 (w i))
abbrev isc (w : Nat → Int32) (d set : Int32) : Prop := cvM w d set 6 < 0
abbrev nsp (w : Nat → Int32) (d set : Int32) (j : Nat) : Prop := bt set j = 0 ∨ (¬ w j = 0 ∧ ¬ isc w d (set &&& ((1 : Int32) <<< (nI j &&& 31) ^^^ -1)))
def lcm' (w : Nat → Int32) (d set : Int32) : Nat → Prop
  | 0 => isc w d set
  | i + 1 => lcm' w d set i ∧ nsp w d set i
def covM (w : Nat → Int32) (d k : Int32) : Nat → Nat → Int32 → Int32 → Prop
  | 0, _, f, r => r = if k < 0 then f else -1
  | n + 1, s, f, r => (lcm' w d (nI s) 6 ∧ f = k ∧ r = nI s) ∨ (lcm' w d (nI s) 6 ∧ ¬ f = k ∧ covM w d k n (s + 1) (f + 1) r) ∨ (¬ lcm' w d (nI s) 6 ∧ covM w d k n (s + 1) f r)
set_option maxRecDepth 100000 in
set_option maxHeartbeats 4000000 in
theorem lm_isCover (g : Gl) (l : Launch) (set : Int32) (F : Nat → Nat → Int32) (J : Nat → Int64) {n0 : Nat} (hn0 : n0 < 33) {XX : State → Method → Prop} (n : Nat) : ∀ (i : Nat) (ix x : Int32), i + n = 6 → ix = nI i → x = cvM (Wm F n0) (Dm F n0) set i → Gj g l (rmd 1 0 0) XX (QM g (fun r S2 => r = some (.int (if cvM (Wm F n0) (Dm F n0) set 6 < 0 then 1 else 0)) ∧ S2 = St F J) 0 0) RX8 cX8_isCover 5 (some .boolean) 14 [some (.ref 167), some (.int (7 * nI n0)), some (.int set), some (.int x), some (.int ix)] [] (St F J) 0 0 := by
  induction n with
  | zero =>
    intro i ix x hi hx he
    obtain rfl : i = 6 := by omega
    subst hx; subst he
    refine g_iload 16 dX8_isCover_14 rfl rfl ?_
    refine g_bipush (6) 18 dX8_isCover_16 rfl (by decide) ?_
    refine g_icmp_ge 56 21 dX8_isCover_18 rfl (by decide) (fun h18 => ?_) (fun h18 => ?_)
    · refine g_iload_n 57 dX8_isCover_56 rfl rfl ?_
      refine g_if_ge 64 60 dX8_isCover_57 rfl (by decide) (fun h57 => ?_) (fun h57 => ?_)
      · refine g_iconst (0) 65 dX8_isCover_64 rfl (by decide) ?_
        refine g_zret dX8_isCover_65 (by decide) ?_
        exact ⟨iv_neg (Int32.not_lt.mpr h57), rfl⟩
      · refine g_iconst (1) 61 dX8_isCover_60 rfl (by decide) ?_
        refine g_goto 65 dX8_isCover_61 (by decide) ?_
        refine g_zret dX8_isCover_65 (by decide) ?_
        exact ⟨iv_pos (Int32.not_le.mp h57), rfl⟩
    · exact absurd (by decide) h18
  | succ n ih =>
    intro i ix x hi hx he
    subst hx
    refine g_iload 16 dX8_isCover_14 rfl rfl ?_
    refine g_bipush (6) 18 dX8_isCover_16 rfl (by decide) ?_
    refine g_icmp_ge 56 21 dX8_isCover_18 rfl (by decide) (fun h18 => ?_) (fun h18 => ?_)
    · exact absurd h18 (lt6 (by omega))
    · refine g_iload_n 22 dX8_isCover_21 rfl rfl ?_
      refine g_iload_n 23 dX8_isCover_22 rfl rfl ?_
      refine g_iload 25 dX8_isCover_23 rfl rfl ?_
      refine g_ishr 26 dX8_isCover_25 rfl ?_
      refine g_iconst (1) 27 dX8_isCover_26 rfl (by decide) ?_
      refine g_iand 28 dX8_isCover_27 rfl ?_
      refine g_iconst (1) 29 dX8_isCover_28 rfl (by decide) ?_
      refine g_icmp_ne 36 32 dX8_isCover_29 rfl (by decide) (fun h29 => ?_) (fun h29 => ?_)
      · refine g_aload_n 37 dX8_isCover_36 rfl rfl ?_
        refine gf_8_8 40 dX8_isCover_37 rfl kf_X8_13 ?_
        refine g_iload_n 41 dX8_isCover_40 rfl rfl ?_
        refine g_iload 43 dX8_isCover_41 rfl rfl ?_
        refine g_iadd 44 dX8_isCover_43 rfl ?_
        refine ga_ild (7 * n0 + i) 45 dX8_isCover_44 rfl (by first | decide | assumption | exact ⟨Nat.le_of_ble_eq_true rfl, rfl⟩) (ix7 n0 i) (show 7 * n0 + i < 231 by omega) ?_
        refine g_s1 48 dX8_isCover_45 rfl kl_X8_119 ms_X8_size ⟨Nat.le_of_ble_eq_true rfl, Nat.le_of_ble_eq_true rfl⟩ (Nat.le_of_ble_eq_true rfl) (m_size g l _ _) ?_
        rintro _ _ ⟨rfl, rfl⟩
        refine g_iadd 49 dX8_isCover_48 rfl ?_
        refine g_istore_n 50 dX8_isCover_49 rfl (by decide) ?_
        refine g_iinc (1) 53 dX8_isCover_50 rfl (by decide) (by decide) rfl ?_
        refine g_goto 14 dX8_isCover_53 (by decide) ?_
        exact ih (i + 1) _ _ (by omega) (nI_succ i).symm (by rw [cvM, ← he, if_neg (show ¬ bt set i = 1 from h29)]; rfl)
      · refine g_iconst (0) 33 dX8_isCover_32 rfl (by decide) ?_
        refine g_goto 48 dX8_isCover_33 (by decide) ?_
        refine g_iadd 49 dX8_isCover_48 rfl ?_
        refine g_istore_n 50 dX8_isCover_49 rfl (by decide) ?_
        refine g_iinc (1) 53 dX8_isCover_50 rfl (by decide) (by decide) rfl ?_
        refine g_goto 14 dX8_isCover_53 (by decide) ?_
        exact ih (i + 1) _ _ (by omega) (nI_succ i).symm (by rw [cvM, ← he, if_pos (show bt set i = 1 from h29)])

set_option maxRecDepth 100000 in
set_option maxHeartbeats 4000000 in
theorem m_isCover (g : Gl) (l : Launch) (set : Int32) (F : Nat → Nat → Int32) (J : Nat → Int64) {n0 : Nat} (hn0 : n0 < 33) : Ct g l yX8_isCover cX8_isCover 5 (some .boolean) 1 0 0 [.ref 167, .int (7 * nI n0), .int set] (St F J) (fun r S2 => r = some (.int (if cvM (Wm F n0) (Dm F n0) set 6 < 0 then 1 else 0)) ∧ S2 = St F J) := by
  refine Ct.of rfl (by decide) rfl (Nat.le_of_ble_eq_true rfl) ?_
  refine g_aload_n 1 dX8_isCover_0 rfl rfl ?_
  refine gf_8_8 4 dX8_isCover_1 rfl kf_X8_13 ?_
  refine g_iload_n 5 dX8_isCover_4 rfl rfl ?_
  refine g_bipush (6) 7 dX8_isCover_5 rfl (by decide) ?_
  refine g_iadd 8 dX8_isCover_7 rfl ?_
  refine ga_ild (7 * n0 + 6) 9 dX8_isCover_8 rfl (by first | decide | assumption | exact ⟨Nat.le_of_ble_eq_true rfl, rfl⟩) (ix76 n0) (show 7 * n0 + 6 < 231 by omega) ?_
  refine g_ineg 10 dX8_isCover_9 rfl ?_
  refine g_istore_n 11 dX8_isCover_10 rfl (by decide) ?_
  refine g_iconst (0) 12 dX8_isCover_11 rfl (by decide) ?_
  refine g_istore 14 dX8_isCover_12 rfl (by decide) ?_
  exact lm_isCover g l set F J hn0 6 0 _ _ rfl rfl rfl

set_option maxRecDepth 100000 in
set_option maxHeartbeats 4000000 in
theorem lm_cov_in (g : Gl) (l : Launch) (k f : Int32) (s : Nat) (F : Nat → Nat → Int32) (J : Nat → Int64) {n0 : Nat} (hn0 : n0 < 33) {XX : State → Method → Prop} (n : Nat) : ∀ (i : Nat) (ix b : Int32), i + n = 6 → ix = nI i → ((b = 1 ∧ lcm' (Wm F n0) (Dm F n0) (nI s) i) ∨ (b = 0 ∧ ¬ lcm' (Wm F n0) (Dm F n0) (nI s) i)) → (∀ b2 i7, ((b2 = 1 ∧ lcm' (Wm F n0) (Dm F n0) (nI s) 6) ∨ (b2 = 0 ∧ ¬ lcm' (Wm F n0) (Dm F n0) (nI s) 6)) → Gj g l (rmd 3 0 0) XX (QM g (fun r S2 => ∃ x, r = some (.int x) ∧ covM (Wm F n0) (Dm F n0) k 64 0 0 x ∧ S2 = St F J) 0 0) RX8 cX8_covers 8 (some .int) 114 [some (.ref 167), some (.int (nI n0)), some (.int k), some (.int (7 * nI n0)), some (.int f), some (.int (nI s)), some (.int b2), i7] [] (St F J) 0 0) → Gj g l (rmd 3 0 0) XX (QM g (fun r S2 => ∃ x, r = some (.int x) ∧ covM (Wm F n0) (Dm F n0) k 64 0 0 x ∧ S2 = St F J) 0 0) RX8 cX8_covers 8 (some .int) 50 [some (.ref 167), some (.int (nI n0)), some (.int k), some (.int (7 * nI n0)), some (.int f), some (.int (nI s)), some (.int b), some (.int ix)] [] (St F J) 0 0 := by
  induction n with
  | zero =>
    intro i ix b hi hx he kk
    obtain rfl : i = 6 := by omega
    subst hx
    refine g_iload 52 dX8_covers_50 rfl rfl ?_
    refine g_bipush (6) 54 dX8_covers_52 rfl (by decide) ?_
    refine g_icmp_ge 114 57 dX8_covers_54 rfl (by decide) (fun h54 => ?_) (fun h54 => ?_)
    · exact kk _ _ he
    · exact absurd (by decide) h54
  | succ n ih =>
    intro i ix b hi hx he kk
    subst hx
    rcases he with ⟨rfl, he⟩ | ⟨rfl, he⟩
    · refine g_iload 52 dX8_covers_50 rfl rfl ?_
      refine g_bipush (6) 54 dX8_covers_52 rfl (by decide) ?_
      refine g_icmp_ge 114 57 dX8_covers_54 rfl (by decide) (fun h54 => ?_) (fun h54 => ?_)
      · exact absurd h54 (lt6 (by omega))
      · refine g_iload 59 dX8_covers_57 rfl rfl ?_
        refine g_if_eq 105 62 dX8_covers_59 rfl (by decide) (fun h59 => ?_) (fun h59 => ?_)
        · exact absurd h59 (by decide)
        · refine g_iload 64 dX8_covers_62 rfl rfl ?_
          refine g_iload 66 dX8_covers_64 rfl rfl ?_
          refine g_ishr 67 dX8_covers_66 rfl ?_
          refine g_iconst (1) 68 dX8_covers_67 rfl (by decide) ?_
          refine g_iand 69 dX8_covers_68 rfl ?_
          refine g_if_eq 101 72 dX8_covers_69 rfl (by decide) (fun h69 => ?_) (fun h69 => ?_)
          · refine g_iconst (1) 102 dX8_covers_101 rfl (by decide) ?_
            refine g_goto 106 dX8_covers_102 (by decide) ?_
            refine g_istore 108 dX8_covers_106 rfl (by decide) ?_
            refine g_iinc (1) 111 dX8_covers_108 rfl (by decide) (by decide) rfl ?_
            refine g_goto 50 dX8_covers_111 (by decide) ?_
            exact ih (i + 1) _ _ (by omega) (nI_succ i).symm (Or.inl ⟨rfl, he, Or.inl h69⟩) kk
          · refine g_aload_n 73 dX8_covers_72 rfl rfl ?_
            refine gf_8_8 76 dX8_covers_73 rfl kf_X8_13 ?_
            refine g_iload_n 77 dX8_covers_76 rfl rfl ?_
            refine g_iload 79 dX8_covers_77 rfl rfl ?_
            refine g_iadd 80 dX8_covers_79 rfl ?_
            refine ga_ild (7 * n0 + i) 81 dX8_covers_80 rfl (by first | decide | assumption | exact ⟨Nat.le_of_ble_eq_true rfl, rfl⟩) (ix7 n0 i) (show 7 * n0 + i < 231 by omega) ?_
            refine g_if_eq 105 84 dX8_covers_81 rfl (by decide) (fun h81 => ?_) (fun h81 => ?_)
            · refine g_iconst (0) 106 dX8_covers_105 rfl (by decide) ?_
              refine g_istore 108 dX8_covers_106 rfl (by decide) ?_
              refine g_iinc (1) 111 dX8_covers_108 rfl (by decide) (by decide) rfl ?_
              refine g_goto 50 dX8_covers_111 (by decide) ?_
              exact ih (i + 1) _ _ (by omega) (nI_succ i).symm (Or.inr ⟨rfl, fun z => z.2.elim h69 (fun y => y.1 h81)⟩) kk
            · refine g_aload_n 85 dX8_covers_84 rfl rfl ?_
              refine g_iload_n 86 dX8_covers_85 rfl rfl ?_
              refine g_iload 88 dX8_covers_86 rfl rfl ?_
              refine g_iconst (1) 89 dX8_covers_88 rfl (by decide) ?_
              refine g_iload 91 dX8_covers_89 rfl rfl ?_
              refine g_ishl 92 dX8_covers_91 rfl ?_
              refine g_iconst (-1) 93 dX8_covers_92 rfl (by decide) ?_
              refine g_ixor 94 dX8_covers_93 rfl ?_
              refine g_iand 95 dX8_covers_94 rfl ?_
              refine g_v2 8 98 dX8_covers_95 rfl kl_X8_178 mv_X8_isCover rfl ⟨Nat.le_of_ble_eq_true rfl, Nat.le_of_ble_eq_true rfl⟩ (Nat.le_of_ble_eq_true rfl) (by first | decide | assumption | exact ⟨Nat.le_of_ble_eq_true rfl, rfl⟩) (m_isCover g l _ F J hn0) ?_
              rintro _ _ ⟨rfl, rfl⟩
              refine g_if_ne 105 101 dX8_covers_98 rfl (by decide) (fun h98 => ?_) (fun h98 => ?_)
              · refine g_iconst (0) 106 dX8_covers_105 rfl (by decide) ?_
                refine g_istore 108 dX8_covers_106 rfl (by decide) ?_
                refine g_iinc (1) 111 dX8_covers_108 rfl (by decide) (by decide) rfl ?_
                refine g_goto 50 dX8_covers_111 (by decide) ?_
                exact ih (i + 1) _ _ (by omega) (nI_succ i).symm (Or.inr ⟨rfl, fun z => z.2.elim h69 (fun y => y.2 (b10n h98))⟩) kk
              · refine g_iconst (1) 102 dX8_covers_101 rfl (by decide) ?_
                refine g_goto 106 dX8_covers_102 (by decide) ?_
                refine g_istore 108 dX8_covers_106 rfl (by decide) ?_
                refine g_iinc (1) 111 dX8_covers_108 rfl (by decide) (by decide) rfl ?_
                refine g_goto 50 dX8_covers_111 (by decide) ?_
                exact ih (i + 1) _ _ (by omega) (nI_succ i).symm (Or.inl ⟨rfl, he, Or.inr ⟨h81, b10.mp h98⟩⟩) kk
    · refine g_iload 52 dX8_covers_50 rfl rfl ?_
      refine g_bipush (6) 54 dX8_covers_52 rfl (by decide) ?_
      refine g_icmp_ge 114 57 dX8_covers_54 rfl (by decide) (fun h54 => ?_) (fun h54 => ?_)
      · exact absurd h54 (lt6 (by omega))
      · refine g_iload 59 dX8_covers_57 rfl rfl ?_
        refine g_if_eq 105 62 dX8_covers_59 rfl (by decide) (fun h59 => ?_) (fun h59 => ?_)
        · refine g_iconst (0) 106 dX8_covers_105 rfl (by decide) ?_
          refine g_istore 108 dX8_covers_106 rfl (by decide) ?_
          refine g_iinc (1) 111 dX8_covers_108 rfl (by decide) (by decide) rfl ?_
          refine g_goto 50 dX8_covers_111 (by decide) ?_
          exact ih (i + 1) _ _ (by omega) (nI_succ i).symm (Or.inr ⟨rfl, fun z => he z.1⟩) kk
        · exact absurd h59 (by decide)

set_option maxRecDepth 100000 in
set_option maxHeartbeats 4000000 in
theorem lm_covers (g : Gl) (l : Launch) (k : Int32) (F : Nat → Nat → Int32) (J : Nat → Int64) {n0 : Nat} (hn0 : n0 < 33) {XX : State → Method → Prop} (n : Nat) : ∀ (s : Nat) (ix f : Int32) (i6 i7 : Option Value), s + n = 64 → ix = nI s → (∀ x, covM (Wm F n0) (Dm F n0) k n s f x → covM (Wm F n0) (Dm F n0) k 64 0 0 x) → Gj g l (rmd 3 0 0) XX (QM g (fun r S2 => ∃ x, r = some (.int x) ∧ covM (Wm F n0) (Dm F n0) k 64 0 0 x ∧ S2 = St F J) 0 0) RX8 cX8_covers 8 (some .int) 31 [some (.ref 167), some (.int (nI n0)), some (.int k), some (.int (7 * nI n0)), some (.int f), some (.int ix), i6, i7] [] (St F J) 0 0 := by
  induction n with
  | zero =>
    intro s ix f i6 i7 hi hx he
    obtain rfl : s = 64 := by omega
    subst hx
    refine g_iload 33 dX8_covers_31 rfl rfl ?_
    refine g_bipush (64) 35 dX8_covers_33 rfl (by decide) ?_
    refine g_icmp_ge 149 38 dX8_covers_35 rfl (by decide) (fun h35 => ?_) (fun h35 => ?_)
    · refine g_iload_n 150 dX8_covers_149 rfl rfl ?_
      refine g_if_ge 158 153 dX8_covers_150 rfl (by decide) (fun h150 => ?_) (fun h150 => ?_)
      · refine g_iconst (-1) 159 dX8_covers_158 rfl (by decide) ?_
        refine g_iret dX8_covers_159 ?_
        exact ⟨_, rfl, he _ (by rw [covM, if_neg (Int32.not_lt.mpr h150)]), rfl⟩
      · refine g_iload 155 dX8_covers_153 rfl rfl ?_
        refine g_goto 159 dX8_covers_155 (by decide) ?_
        refine g_iret dX8_covers_159 ?_
        exact ⟨_, rfl, he _ (by rw [covM, if_pos (Int32.not_le.mp h150)]), rfl⟩
    · exact absurd (by decide) h35
  | succ n ih =>
    intro s ix f i6 i7 hi hx he
    subst hx
    refine g_iload 33 dX8_covers_31 rfl rfl ?_
    refine g_bipush (64) 35 dX8_covers_33 rfl (by decide) ?_
    refine g_icmp_ge 149 38 dX8_covers_35 rfl (by decide) (fun h35 => ?_) (fun h35 => ?_)
    · exact absurd h35 (lt64 (by omega))
    · refine g_aload_n 39 dX8_covers_38 rfl rfl ?_
      refine g_iload_n 40 dX8_covers_39 rfl rfl ?_
      refine g_iload 42 dX8_covers_40 rfl rfl ?_
      refine g_v2 8 45 dX8_covers_42 rfl kl_X8_178 mv_X8_isCover rfl ⟨Nat.le_of_ble_eq_true rfl, Nat.le_of_ble_eq_true rfl⟩ (Nat.le_of_ble_eq_true rfl) (by first | decide | assumption | exact ⟨Nat.le_of_ble_eq_true rfl, rfl⟩) (m_isCover g l _ F J hn0) ?_
      rintro _ _ ⟨rfl, rfl⟩
      refine g_istore 47 dX8_covers_45 rfl (by decide) ?_
      refine g_iconst (0) 48 dX8_covers_47 rfl (by decide) ?_
      refine g_istore 50 dX8_covers_48 rfl (by decide) ?_
      refine lm_cov_in g l k f s F J hn0 6 0 _ _ rfl rfl (by
        by_cases h : isc (Wm F n0) (Dm F n0) (nI s)
        · exact Or.inl ⟨if_pos h, h⟩
        · exact Or.inr ⟨if_neg h, h⟩) (fun b2 i7 hb => ?_)
      rcases hb with ⟨rfl, hb⟩ | ⟨rfl, hb⟩
      · refine g_iload 116 dX8_covers_114 rfl rfl ?_
        refine g_if_eq 128 119 dX8_covers_116 rfl (by decide) (fun h116 => ?_) (fun h116 => ?_)
        · exact absurd h116 (by decide)
        · refine g_iload 121 dX8_covers_119 rfl rfl ?_
          refine g_iload_n 122 dX8_covers_121 rfl rfl ?_
          refine g_icmp_ne 128 125 dX8_covers_122 rfl (by decide) (fun h122 => ?_) (fun h122 => ?_)
          · refine g_iload 130 dX8_covers_128 rfl rfl ?_
            refine g_iload 132 dX8_covers_130 rfl rfl ?_
            refine g_if_eq 139 135 dX8_covers_132 rfl (by decide) (fun h132 => ?_) (fun h132 => ?_)
            · exact absurd h132 (by decide)
            · refine g_iconst (1) 136 dX8_covers_135 rfl (by decide) ?_
              refine g_goto 140 dX8_covers_136 (by decide) ?_
              refine g_iadd 141 dX8_covers_140 rfl ?_
              refine g_istore 143 dX8_covers_141 rfl (by decide) ?_
              refine g_iinc (1) 146 dX8_covers_143 rfl (by decide) (by decide) rfl ?_
              refine g_goto 31 dX8_covers_146 (by decide) ?_
              exact ih (s + 1) _ _ _ _ (by omega) (nI_succ s).symm (fun x hx => he x (Or.inr (Or.inl ⟨hb, h122, hx⟩)))
          · refine g_iload 127 dX8_covers_125 rfl rfl ?_
            refine g_iret dX8_covers_127 ?_
            exact ⟨_, rfl, he _ (Or.inl ⟨hb, h122, rfl⟩), rfl⟩
      · refine g_iload 116 dX8_covers_114 rfl rfl ?_
        refine g_if_eq 128 119 dX8_covers_116 rfl (by decide) (fun h116 => ?_) (fun h116 => ?_)
        · refine g_iload 130 dX8_covers_128 rfl rfl ?_
          refine g_iload 132 dX8_covers_130 rfl rfl ?_
          refine g_if_eq 139 135 dX8_covers_132 rfl (by decide) (fun h132 => ?_) (fun h132 => ?_)
          · refine g_iconst (0) 140 dX8_covers_139 rfl (by decide) ?_
            refine g_iadd 141 dX8_covers_140 rfl ?_
            refine g_istore 143 dX8_covers_141 rfl (by decide) ?_
            refine g_iinc (1) 146 dX8_covers_143 rfl (by decide) (by decide) rfl ?_
            refine g_goto 31 dX8_covers_146 (by decide) ?_
            exact ih (s + 1) _ _ _ _ (by omega) (nI_succ s).symm (fun x hx => he x (Or.inr (Or.inr ⟨hb, by rw [Int32.add_zero] at hx; exact hx⟩)))
          · exact absurd h132 (by decide)
        · exact absurd h116 (by decide)

set_option maxRecDepth 100000 in
set_option maxHeartbeats 4000000 in
theorem m_covers (g : Gl) (l : Launch) (i k : Int32) (F : Nat → Nat → Int32) (J : Nat → Int64) {G P : Nat} (hS : mS F G P) : Ct g l yX8_covers cX8_covers 8 (some .int) 3 0 0 [.ref 167, .int i, .int k] (St F J) (fun r S2 => ∃ x, r = some (.int x) ∧ (if isLn (G + P) i ∧ -1 ≤ k then covM (Wm F i.toNatClampNeg) (Dm F i.toNatClampNeg) k 64 0 0 x else x = -1) ∧ S2 = St F J) := by
  obtain ⟨hG, hP, hT, hG8, hP24⟩ := hS
  refine Ct.of rfl (by decide) rfl (Nat.le_of_ble_eq_true rfl) ?_
  refine g_aload_n 1 dX8_covers_0 rfl rfl ?_
  refine g_iconst (0) 2 dX8_covers_1 rfl (by decide) ?_
  refine gp_8_0 5 dX8_covers_2 rfl kf_X8_35 (by first | decide | assumption | exact ⟨Nat.le_of_ble_eq_true rfl, rfl⟩) ?_
  refine gs_at (congrArg (fun x => St x J) (thr hT)) ?_
  refine g_aload_n 6 dX8_covers_5 rfl rfl ?_
  refine g_iload_n 7 dX8_covers_6 rfl rfl ?_
  refine g_v1 8 10 dX8_covers_7 rfl kl_X8_142 mv_X8_isLine rfl ⟨Nat.le_of_ble_eq_true rfl, Nat.le_of_ble_eq_true rfl⟩ (Nat.le_of_ble_eq_true rfl) (by first | decide | assumption | exact ⟨Nat.le_of_ble_eq_true rfl, rfl⟩) (m_isLine g l _ F J ⟨hG, hP, hT, hG8, hP24⟩) ?_
  rintro _ _ ⟨rfl, rfl⟩
  refine g_if_eq 18 13 dX8_covers_10 rfl (by decide) (fun h10 => ?_) (fun h10 => ?_)
  · refine g_iconst (-1) 19 dX8_covers_18 rfl (by decide) ?_
    refine g_iret dX8_covers_19 ?_
    exact ⟨_, rfl, by rw [if_neg (fun z => b10.mp h10 z.1)], rfl⟩
  · obtain ⟨n, hn, en, cn⟩ := isLn_n (b10n h10) (by omega)
    subst en
    refine g_iload_n 14 dX8_covers_13 rfl rfl ?_
    refine g_iconst (-1) 15 dX8_covers_14 rfl (by decide) ?_
    refine g_icmp_ge 20 18 dX8_covers_15 rfl (by decide) (fun h15 => ?_) (fun h15 => ?_)
    · refine g_bipush (7) 22 dX8_covers_20 rfl (by decide) ?_
      refine g_iload_n 23 dX8_covers_22 rfl rfl ?_
      refine g_imul 24 dX8_covers_23 rfl ?_
      refine g_istore_n 25 dX8_covers_24 rfl (by decide) ?_
      refine g_iconst (0) 26 dX8_covers_25 rfl (by decide) ?_
      refine g_istore 28 dX8_covers_26 rfl (by decide) ?_
      refine g_iconst (0) 29 dX8_covers_28 rfl (by decide) ?_
      refine g_istore 31 dX8_covers_29 rfl (by decide) ?_
      have h := lm_covers g l k F J (n0 := n) (by omega) 64 0 _ _ none none rfl rfl (fun _ h => h) (XX := fun _ M => M.name = yX8_covers.name)
      simp only [cn, if_pos (show isLn (G + P) (nI n) ∧ -1 ≤ k from ⟨b10n h10, h15⟩)]
      exact h
    · refine g_iconst (-1) 19 dX8_covers_18 rfl (by decide) ?_
      refine g_iret dX8_covers_19 ?_
      exact ⟨_, rfl, by rw [if_neg (fun z => h15 z.2)], rfl⟩

