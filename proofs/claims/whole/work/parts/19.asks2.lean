/-! TruthSums: what it is asked (2) -/
theorem iw_lt64 {i : Nat} (h : i < 64) : ¬ (64 : Int32) ≤ nI i := lt64 h
set_option maxRecDepth 100000 in
set_option maxHeartbeats 4000000 in
theorem lp_tight (g : Gl) (l : Launch) (F : Nat → Nat → Int32) (J : Nat → Int64) {n0 : Nat} (hn0 : n0 < 32) (t : Int64) {XX : State → Method → Prop} (n : Nat) : ∀ (i : Nat) (ix x : Int32) (x6 : Option Value), i + n = 64 → ix = nI i → x = tgt t (Wc F n0) i → Gj g l (rmd 5 0 0) XX (QM g (fun r S2 => r = some (.int (tgt t (Wc F n0) 64)) ∧ S2 = St F J) 0 0) RX7 cX7_tight 7 (some .int) 22 [some (.ref 0), some (.int (nI n0)), some (.long t), none, some (.int x), some (.int ix), x6] [] (St F J) 0 0 := by
  induction n with
  | zero =>
    intro i ix x x6 hi hx he
    obtain rfl : i = 64 := by omega
    subst hx; subst he
    refine g_iload 24 dX7_tight_22 rfl rfl ?_
    refine g_bipush (64) 26 dX7_tight_24 rfl (by decide) ?_
    refine g_icmp_ge 75 29 dX7_tight_26 rfl (by decide) (fun h26 => ?_) (fun h26 => ?_)
    · refine g_iload 77 dX7_tight_75 rfl rfl ?_
      refine g_iret dX7_tight_77 ?_
      exact ⟨rfl, rfl⟩
    · exact absurd (by decide) h26
  | succ n ih =>
    intro i ix x x6 hi hx he
    subst hx
    refine g_iload 24 dX7_tight_22 rfl rfl ?_
    refine g_bipush (64) 26 dX7_tight_24 rfl (by decide) ?_
    refine g_icmp_ge 75 29 dX7_tight_26 rfl (by decide) (fun h26 => ?_) (fun h26 => ?_)
    · exact absurd h26 (lt64 (by omega))
    · refine g_lload_n 30 dX7_tight_29 rfl rfl ?_
      refine g_iload 32 dX7_tight_30 rfl rfl ?_
      refine g_s2 35 dX7_tight_32 rfl kl_X7_206 ms_X7_has ⟨Nat.le_of_ble_eq_true rfl, Nat.le_of_ble_eq_true rfl⟩ (Nat.le_of_ble_eq_true rfl) (c_has g l _ _ _) ?_
      rintro _ _ ⟨rfl, rfl⟩
      refine g_if_eq 69 38 dX7_tight_35 rfl (by decide) (fun h35 => ?_) (fun h35 => ?_)
      · refine g_iinc (1) 72 dX7_tight_69 rfl (by decide) (by decide) rfl ?_
        refine g_goto 22 dX7_tight_72 (by decide) ?_
        exact ih (i + 1) _ _ _ (by omega) (nI_succ i).symm (by rw [tgt, ← he, if_neg (fun z => b10.mp h35 z.1)])
      · refine g_aload_n 39 dX7_tight_38 rfl rfl ?_
        refine gf_7_4 42 dX7_tight_39 rfl kf_X7_39 ?_
        refine g_iload_n 43 dX7_tight_42 rfl rfl ?_
        refine ga_lines n0 44 dX7_tight_43 rfl rfl hn0 ?_
        refine g_iload 46 dX7_tight_44 rfl rfl ?_
        refine g_v1 2 49 dX7_tight_46 rfl kl_X7_210 mv_X2_weighsIn rfl ⟨Nat.le_of_ble_eq_true rfl, Nat.le_of_ble_eq_true rfl⟩ (Nat.le_of_ble_eq_true rfl) (ln_is n0 hn0) (c_weighsIn g l (ln_is n0 hn0) _ F J) ?_
        rintro _ _ ⟨rfl, rfl⟩
        refine g_istore 51 dX7_tight_49 rfl (by decide) ?_
        refine g_iload 53 dX7_tight_51 rfl rfl ?_
        refine g_bipush (-9) 55 dX7_tight_53 rfl (by decide) ?_
        refine g_icmp_eq 65 58 dX7_tight_55 rfl (by decide) (fun h55 => ?_) (fun h55 => ?_)
        · refine g_iload 67 dX7_tight_65 rfl rfl ?_
          refine g_istore 69 dX7_tight_67 rfl (by decide) ?_
          refine g_iinc (1) 72 dX7_tight_69 rfl (by decide) (by decide) rfl ?_
          refine g_goto 22 dX7_tight_72 (by decide) ?_
          exact ih (i + 1) _ _ _ (by omega) (nI_succ i).symm (by rw [tgt, ← he, if_pos ⟨b10n h35, Or.inl h55⟩]; rfl)
        · refine g_iload 60 dX7_tight_58 rfl rfl ?_
          refine g_iload 62 dX7_tight_60 rfl rfl ?_
          refine g_icmp_ge 69 65 dX7_tight_62 rfl (by decide) (fun h62 => ?_) (fun h62 => ?_)
          · refine g_iinc (1) 72 dX7_tight_69 rfl (by decide) (by decide) rfl ?_
            refine g_goto 22 dX7_tight_72 (by decide) ?_
            exact ih (i + 1) _ _ _ (by omega) (nI_succ i).symm (by rw [tgt, ← he, if_neg (fun z => z.2.elim h55 (fun y => y h62))])
          · refine g_iload 67 dX7_tight_65 rfl rfl ?_
            refine g_istore 69 dX7_tight_67 rfl (by decide) ?_
            refine g_iinc (1) 72 dX7_tight_69 rfl (by decide) (by decide) rfl ?_
            refine g_goto 22 dX7_tight_72 (by decide) ?_
            exact ih (i + 1) _ _ _ (by omega) (nI_succ i).symm (by rw [tgt, ← he, if_pos ⟨b10n h35, Or.inr h62⟩]; rfl)

set_option maxRecDepth 100000 in
set_option maxHeartbeats 4000000 in
theorem c_tight (g : Gl) (l : Launch) (i : Int32) (F : Nat → Nat → Int32) (J : Nat → Int64) {G P : Nat} (hS : cS F G P) : Ct g l yX7_tight cX7_tight 7 (some .int) 5 0 0 [.ref 0, .int i] (St F J) (fun r S2 => r = some (.int (tightA (G + P) G (Wc F) (Dc F) i)) ∧ S2 = St F J) := by
  obtain ⟨hG, hP, hG8, hP24⟩ := hS
  refine Ct.of rfl (by decide) rfl (Nat.le_of_ble_eq_true rfl) ?_
  refine g_aload_n 1 dX7_tight_0 rfl rfl ?_
  refine g_iload_n 2 dX7_tight_1 rfl rfl ?_
  refine g_v1 7 5 dX7_tight_2 rfl kl_X7_152 mv_X7_isLine rfl ⟨Nat.le_of_ble_eq_true rfl, Nat.le_of_ble_eq_true rfl⟩ (Nat.le_of_ble_eq_true rfl) (by first | decide | assumption | exact ⟨Nat.le_of_ble_eq_true rfl, rfl⟩) (c_isLine g l _ F J ⟨hG, hP, hG8, hP24⟩) ?_
  rintro _ _ ⟨rfl, rfl⟩
  refine g_if_ne 10 8 dX7_tight_5 rfl (by decide) (fun h5 => ?_) (fun h5 => ?_)
  · obtain ⟨n, hn, en, cn⟩ := isLn_n (b10n h5) (by omega)
    subst en
    refine g_aload_n 11 dX7_tight_10 rfl rfl ?_
    refine g_v0 7 14 dX7_tight_11 rfl kl_X7_203 mv_X7_trueWorlds rfl ⟨Nat.le_of_ble_eq_true rfl, Nat.le_of_ble_eq_true rfl⟩ (Nat.le_of_ble_eq_true rfl) (by first | decide | assumption | exact ⟨Nat.le_of_ble_eq_true rfl, rfl⟩) (c_trueWorlds g l F J ⟨hG, hP, hG8, hP24⟩) ?_
    rintro _ _ ⟨rfl, rfl⟩
    refine g_lstore_n 15 dX7_tight_14 rfl (by decide) ?_
    refine g_bipush (-9) 17 dX7_tight_15 rfl (by decide) ?_
    refine g_istore 19 dX7_tight_17 rfl (by decide) ?_
    refine g_iconst (0) 20 dX7_tight_19 rfl (by decide) ?_
    refine g_istore 22 dX7_tight_20 rfl (by decide) ?_
    have h := lp_tight g l F J (n0 := n) (by omega) (tws (Wc F) (Dc F) G) 64 0 _ _ none rfl rfl rfl (XX := fun _ M => M.name = yX7_tight.name)
    rw [show tgt (tws (Wc F) (Dc F) G) (Wc F n) 64 = tightA (G + P) G (Wc F) (Dc F) (nI n) by rw [tightA, if_pos (b10n h5), cn]] at h
    exact h
  · refine g_iconst (-1) 9 dX7_tight_8 rfl (by decide) ?_
    refine g_iret dX7_tight_9 ?_
    exact ⟨by rw [tightA, if_neg (b10.mp h5)], rfl⟩

set_option maxRecDepth 100000 in
set_option maxHeartbeats 4000000 in
theorem lp_worldsOfGiven (g : Gl) (l : Launch) (set : Int32) (F : Nat → Nat → Int32) (J : Nat → Int64) {XX : State → Method → Prop} (n : Nat) : ∀ (i : Nat) (ix : Int32) (x : Int64), i + n = 8 → ix = nI i → x = wog J set i → Gj g l (rmd 0 0 0) XX (QM g (fun r S2 => r = some (.long (wog J set 8)) ∧ S2 = St F J) 0 0) RX7 cX7_worldsOfGiven 5 (some .long) 7 [some (.ref 0), some (.int set), some (.long x), none, some (.int ix)] [] (St F J) 0 0 := by
  induction n with
  | zero =>
    intro i ix x hi hx he
    obtain rfl : i = 8 := by omega
    subst hx; subst he
    refine g_iload 9 dX7_worldsOfGiven_7 rfl rfl ?_
    refine g_bipush (8) 11 dX7_worldsOfGiven_9 rfl (by decide) ?_
    refine g_icmp_ge 40 14 dX7_worldsOfGiven_11 rfl (by decide) (fun h11 => ?_) (fun h11 => ?_)
    · refine g_lload_n 41 dX7_worldsOfGiven_40 rfl rfl ?_
      refine g_lret dX7_worldsOfGiven_41 ?_
      exact ⟨rfl, rfl⟩
    · exact absurd (by decide) h11
  | succ n ih =>
    intro i ix x hi hx he
    subst hx
    refine g_iload 9 dX7_worldsOfGiven_7 rfl rfl ?_
    refine g_bipush (8) 11 dX7_worldsOfGiven_9 rfl (by decide) ?_
    refine g_icmp_ge 40 14 dX7_worldsOfGiven_11 rfl (by decide) (fun h11 => ?_) (fun h11 => ?_)
    · exact absurd h11 (nI_ge (a := i) (b := 8) (by omega) (by decide))
    · refine g_iload_n 15 dX7_worldsOfGiven_14 rfl rfl ?_
      refine g_iload 17 dX7_worldsOfGiven_15 rfl rfl ?_
      refine g_ishr 18 dX7_worldsOfGiven_17 rfl ?_
      refine g_iconst (1) 19 dX7_worldsOfGiven_18 rfl (by decide) ?_
      refine g_iand 20 dX7_worldsOfGiven_19 rfl ?_
      refine g_iconst (1) 21 dX7_worldsOfGiven_20 rfl (by decide) ?_
      refine g_icmp_ne 34 24 dX7_worldsOfGiven_21 rfl (by decide) (fun h21 => ?_) (fun h21 => ?_)
      · refine g_iinc (1) 37 dX7_worldsOfGiven_34 rfl (by decide) (by decide) rfl ?_
        refine g_goto 7 dX7_worldsOfGiven_37 (by decide) ?_
        exact ih (i + 1) _ _ (by omega) (nI_succ i).symm (by rw [wog, ← he, if_neg h21])
      · refine g_lload_n 25 dX7_worldsOfGiven_24 rfl rfl ?_
        refine g_aload_n 26 dX7_worldsOfGiven_25 rfl rfl ?_
        refine gf_7_5 29 dX7_worldsOfGiven_26 rfl kf_X7_44 ?_
        refine g_iload 31 dX7_worldsOfGiven_29 rfl rfl ?_
        refine ga_lld (i) 32 dX7_worldsOfGiven_31 rfl rfl (by omega) ?_
        refine g_land 33 dX7_worldsOfGiven_32 rfl ?_
        refine g_lstore_n 34 dX7_worldsOfGiven_33 rfl (by decide) ?_
        refine g_iinc (1) 37 dX7_worldsOfGiven_34 rfl (by decide) (by decide) rfl ?_
        refine g_goto 7 dX7_worldsOfGiven_37 (by decide) ?_
        exact ih (i + 1) _ _ (by omega) (nI_succ i).symm (by rw [wog, ← he, if_pos h21])

set_option maxRecDepth 100000 in
set_option maxHeartbeats 4000000 in
theorem c_worldsOfGiven (g : Gl) (l : Launch) (set : Int32) (F : Nat → Nat → Int32) (J : Nat → Int64) : Ct g l yX7_worldsOfGiven cX7_worldsOfGiven 5 (some .long) 0 0 0 [.ref 0, .int set] (St F J) (fun r S2 => r = some (.long (wog J set 8)) ∧ S2 = St F J) := by
  refine Ct.of rfl (by decide) rfl (Nat.le_of_ble_eq_true rfl) ?_
  refine g_ldc2 3 dX7_worldsOfGiven_0 rfl kc_X7_192 ?_
  refine g_lstore_n 4 dX7_worldsOfGiven_3 rfl (by decide) ?_
  refine g_iconst (0) 5 dX7_worldsOfGiven_4 rfl (by decide) ?_
  refine g_istore 7 dX7_worldsOfGiven_5 rfl (by decide) ?_
  exact lp_worldsOfGiven g l set F J 8 0 _ _ rfl rfl rfl

def gwF (W : Nat → Nat → Int32) (D : Nat → Int32) (J : Nat → Int64) (m : Nat) : Nat → Int64 := fun i => if i < m then wh (W i) (D i) 64 else J i
theorem gwF_0 (W : Nat → Nat → Int32) (D : Nat → Int32) (J : Nat → Int64) : gwF W D J 0 = J := by funext i; simp [gwF]
theorem gwF_s (W : Nat → Nat → Int32) (D : Nat → Int32) (J : Nat → Int64) (i : Nat) : vp_updL (gwF W D J i) i (wh (W i) (D i) 64) = gwF W D J (i + 1) := by
  funext j
  by_cases e : j = i
  · subst e; simp [vp_updL, gwF]
  · by_cases q : j < i
    · simp [vp_updL, gwF, e, q, Nat.lt_succ_of_lt q]
    · simp [vp_updL, gwF, e, q, show ¬ j < i + 1 by omega]
theorem shl1 : ∀ G, G ≤ 8 → (1 : Int32) <<< (nI G &&& 31) = nI (2 ^ G) := by decide +kernel
theorem p2le : ∀ G, G ≤ 8 → 2 ^ G ≤ 256 := by decide +kernel
def neededA (N G : Nat) (W : Nat → Nat → Int32) (D : Nat → Int32) (J : Nat → Int64) (i what : Int32) : Int32 := if isLn N i ∧ ¬ what < 0 ∧ what ≤ 1 then (if (lts (gwF W D J G) (holdsA N W D i) (2 ^ G)).1 = -9 then -9 else if what = 0 then bc32 (lts (gwF W D J G) (holdsA N W D i) (2 ^ G)).1 else (lts (gwF W D J G) (holdsA N W D i) (2 ^ G)).1) else -1

set_option maxRecDepth 100000 in
set_option maxHeartbeats 4000000 in
theorem lp_lt2 (g : Gl) (l : Launch) (h : Int64) (F : Nat → Nat → Int32) (J : Nat → Int64) {G P : Nat} (hS : cS F G P) {XX : State → Method → Prop} (n : Nat) : ∀ (i : Nat) (ix bs fw : Int32) (x6 : Option Value), i + n = 2 ^ G → ix = nI i → (bs, fw) = lts (gwF (Wc F) (Dc F) J G) h i → Gj g l (rmd 4 0 0) XX (QM g (fun r S2 => r = some (.int (lts (gwF (Wc F) (Dc F) J G) h (2 ^ G)).1) ∧ S2 = St F (gwF (Wc F) (Dc F) J G)) 0 0) RX7 cX7_leastTelling 7 (some .int) 47 [some (.ref 0), some (.long h), none, some (.int bs), some (.int fw), some (.int ix), x6] [] (St F (gwF (Wc F) (Dc F) J G)) 0 0 := by
  obtain ⟨hG, hP, hG8, hP24⟩ := hS
  induction n with
  | zero =>
    intro i ix bs fw x6 hi hx he
    have h2 := p2le G hG8
    obtain rfl : i = 2 ^ G := by omega
    subst hx
    refine g_iload 49 dX7_leastTelling_47 rfl rfl ?_
    refine g_iconst (1) 50 dX7_leastTelling_49 rfl (by decide) ?_
    refine g_aload_n 51 dX7_leastTelling_50 rfl rfl ?_
    refine gf_7_7 54 dX7_leastTelling_51 rfl kf_X7_81 (by first | decide | assumption | exact ⟨Nat.le_of_ble_eq_true rfl, rfl⟩) ?_
    refine g_ishl 55 dX7_leastTelling_54 rfl ?_
    rw [hG, shl1 G hG8]
    refine g_icmp_ge 98 58 dX7_leastTelling_55 rfl (by decide) (fun h55 => ?_) (fun h55 => ?_)
    · refine g_iload_n 99 dX7_leastTelling_98 rfl rfl ?_
      refine g_iret dX7_leastTelling_99 ?_
      exact ⟨by rw [← he], rfl⟩
    · exact absurd (nI_le (Nat.le_refl _) (by omega)) h55
  | succ n ih =>
    intro i ix bs fw x6 hi hx he
    have h2 := p2le G hG8
    subst hx
    have e1 : bs = (lts (gwF (Wc F) (Dc F) J G) h i).1 := by rw [← he]
    have e2 : fw = (lts (gwF (Wc F) (Dc F) J G) h i).2 := by rw [← he]
    refine g_iload 49 dX7_leastTelling_47 rfl rfl ?_
    refine g_iconst (1) 50 dX7_leastTelling_49 rfl (by decide) ?_
    refine g_aload_n 51 dX7_leastTelling_50 rfl rfl ?_
    refine gf_7_7 54 dX7_leastTelling_51 rfl kf_X7_81 (by first | decide | assumption | exact ⟨Nat.le_of_ble_eq_true rfl, rfl⟩) ?_
    refine g_ishl 55 dX7_leastTelling_54 rfl ?_
    rw [hG, shl1 G hG8]
    refine g_icmp_ge 98 58 dX7_leastTelling_55 rfl (by decide) (fun h55 => ?_) (fun h55 => ?_)
    · exact absurd h55 (nI_ge (by omega) (by omega))
    · refine g_iload 60 dX7_leastTelling_58 rfl rfl ?_
      refine g_s1 63 dX7_leastTelling_60 rfl kl_X7_218 ms_J6_bitCount_0f7a4 ⟨Nat.le_of_ble_eq_true rfl, Nat.le_of_ble_eq_true rfl⟩ (Nat.le_of_ble_eq_true rfl) (c_bc32 g l _ _) ?_
      rintro _ _ ⟨rfl, rfl⟩
      refine g_istore 65 dX7_leastTelling_63 rfl (by decide) ?_
      refine g_iload 67 dX7_leastTelling_65 rfl rfl ?_
      refine g_iload 69 dX7_leastTelling_67 rfl rfl ?_
      refine g_icmp_ge 92 72 dX7_leastTelling_69 rfl (by decide) (fun h69 => ?_) (fun h69 => ?_)
      · refine g_iinc (1) 95 dX7_leastTelling_92 rfl (by decide) (by decide) rfl ?_
        refine g_goto 47 dX7_leastTelling_95 (by decide) ?_
        exact ih (i + 1) _ _ _ _ (by omega) (nI_succ i).symm (by rw [lts, ← e2, if_pos h69, ← he])
      · refine g_aload_n 73 dX7_leastTelling_72 rfl rfl ?_
        refine g_iload 75 dX7_leastTelling_73 rfl rfl ?_
        refine g_v1 7 78 dX7_leastTelling_75 rfl kl_X7_254 mv_X7_worldsOfGiven rfl ⟨Nat.le_of_ble_eq_true rfl, Nat.le_of_ble_eq_true rfl⟩ (Nat.le_of_ble_eq_true rfl) (by first | decide | assumption | exact ⟨Nat.le_of_ble_eq_true rfl, rfl⟩) (c_worldsOfGiven g l _ F _) ?_
        rintro _ _ ⟨rfl, rfl⟩
        refine g_lload_n 79 dX7_leastTelling_78 rfl rfl ?_
        refine g_s2 82 dX7_leastTelling_79 rfl kl_X7_188 ms_X7_isWithin ⟨Nat.le_of_ble_eq_true rfl, Nat.le_of_ble_eq_true rfl⟩ (Nat.le_of_ble_eq_true rfl) (c_isWithin g l _ _ _) ?_
        rintro _ _ ⟨rfl, rfl⟩
        refine g_if_eq 92 85 dX7_leastTelling_82 rfl (by decide) (fun h82 => ?_) (fun h82 => ?_)
        · refine g_iinc (1) 95 dX7_leastTelling_92 rfl (by decide) (by decide) rfl ?_
          refine g_goto 47 dX7_leastTelling_95 (by decide) ?_
          exact ih (i + 1) _ _ _ _ (by omega) (nI_succ i).symm (by rw [lts, ← e2, if_neg h69, if_neg (b10.mp h82), ← he])
        · refine g_iload 87 dX7_leastTelling_85 rfl rfl ?_
          refine g_istore_n 88 dX7_leastTelling_87 rfl (by decide) ?_
          refine g_iload 90 dX7_leastTelling_88 rfl rfl ?_
          refine g_istore 92 dX7_leastTelling_90 rfl (by decide) ?_
          refine g_iinc (1) 95 dX7_leastTelling_92 rfl (by decide) (by decide) rfl ?_
          refine g_goto 47 dX7_leastTelling_95 (by decide) ?_
          exact ih (i + 1) _ _ _ _ (by omega) (nI_succ i).symm (by rw [lts, ← e2, if_neg h69, if_pos (b10n h82)])

set_option maxRecDepth 100000 in
set_option maxHeartbeats 4000000 in
theorem lp_lt1 (g : Gl) (l : Launch) (h : Int64) (F : Nat → Nat → Int32) (J : Nat → Int64) {G P : Nat} (hS : cS F G P) {XX : State → Method → Prop} (n : Nat) : ∀ (i : Nat) (ix : Int32) (X : Nat → Int64) (x4 x5 x6 : Option Value), i + n = G → ix = nI i → X = gwF (Wc F) (Dc F) J i → Gj g l (rmd 4 0 0) XX (QM g (fun r S2 => r = some (.int (lts (gwF (Wc F) (Dc F) J G) h (2 ^ G)).1) ∧ S2 = St F (gwF (Wc F) (Dc F) J G)) 0 0) RX7 cX7_leastTelling 7 (some .int) 2 [some (.ref 0), some (.long h), none, some (.int ix), x4, x5, x6] [] (St F X) 0 0 := by
  obtain ⟨hG, hP, hG8, hP24⟩ := hS
  induction n with
  | zero =>
    intro i ix X x4 x5 x6 hi hx he
    obtain rfl : i = G := by omega
    subst hx; subst he
    refine g_iload_n 3 dX7_leastTelling_2 rfl rfl ?_
    refine g_aload_n 4 dX7_leastTelling_3 rfl rfl ?_
    refine gf_7_7 7 dX7_leastTelling_4 rfl kf_X7_81 (by first | decide | assumption | exact ⟨Nat.le_of_ble_eq_true rfl, rfl⟩) ?_
    refine g_icmp_ge 37 10 dX7_leastTelling_7 rfl (by decide) (fun h7 => ?_) (fun h7 => ?_)
    · refine g_bipush (-9) 39 dX7_leastTelling_37 rfl (by decide) ?_
      refine g_istore_n 40 dX7_leastTelling_39 rfl (by decide) ?_
      refine g_bipush (9) 42 dX7_leastTelling_40 rfl (by decide) ?_
      refine g_istore 44 dX7_leastTelling_42 rfl (by decide) ?_
      refine g_iconst (0) 45 dX7_leastTelling_44 rfl (by decide) ?_
      refine g_istore 47 dX7_leastTelling_45 rfl (by decide) ?_
      exact lp_lt2 g l h F J ⟨hG, hP, hG8, hP24⟩ (2 ^ i) 0 _ _ _ _ (Nat.zero_add _) rfl rfl
    · exact absurd (by rw [hG]; exact nI_le (Nat.le_refl _) (by omega)) h7
  | succ n ih =>
    intro i ix X x4 x5 x6 hi hx he
    subst hx; subst he
    refine g_iload_n 3 dX7_leastTelling_2 rfl rfl ?_
    refine g_aload_n 4 dX7_leastTelling_3 rfl rfl ?_
    refine gf_7_7 7 dX7_leastTelling_4 rfl kf_X7_81 (by first | decide | assumption | exact ⟨Nat.le_of_ble_eq_true rfl, rfl⟩) ?_
    refine g_icmp_ge 37 10 dX7_leastTelling_7 rfl (by decide) (fun h7 => ?_) (fun h7 => ?_)
    · exact absurd h7 (by rw [hG]; exact nI_ge (by omega) (by omega))
    · refine g_iload_n 11 dX7_leastTelling_10 rfl rfl ?_
      refine g_bipush (8) 13 dX7_leastTelling_11 rfl (by decide) ?_
      refine g_icmp_ge 37 16 dX7_leastTelling_13 rfl (by decide) (fun h13 => ?_) (fun h13 => ?_)
      · exact absurd h13 (nI_ge (a := i) (b := 8) (by omega) (by decide))
      · refine g_aload_n 17 dX7_leastTelling_16 rfl rfl ?_
        refine gf_7_5 20 dX7_leastTelling_17 rfl kf_X7_44 ?_
        refine g_iload_n 21 dX7_leastTelling_20 rfl rfl ?_
        refine g_aload_n 22 dX7_leastTelling_21 rfl rfl ?_
        refine gf_7_4 25 dX7_leastTelling_22 rfl kf_X7_39 ?_
        refine g_iload_n 26 dX7_leastTelling_25 rfl rfl ?_
        refine ga_lines i 27 dX7_leastTelling_26 rfl rfl (by omega) ?_
        refine g_v0 2 30 dX7_leastTelling_27 rfl kl_X7_178 mv_X2_worldsHeld rfl ⟨Nat.le_of_ble_eq_true rfl, Nat.le_of_ble_eq_true rfl⟩ (Nat.le_of_ble_eq_true rfl) (ln_is i (by omega)) (c_worldsHeld g l (ln_is i (by omega)) F _) ?_
        rintro _ _ ⟨rfl, rfl⟩
        refine ga_lst (i) 31 dX7_leastTelling_30 rfl rfl (by omega) ?_
        refine g_iinc (1) 34 dX7_leastTelling_31 rfl (by decide) (by decide) rfl ?_
        refine g_goto 2 dX7_leastTelling_34 (by decide) ?_
        exact ih (i + 1) _ _ _ _ _ (by omega) (nI_succ i).symm (gwF_s _ _ _ _)


set_option maxRecDepth 100000 in
set_option maxHeartbeats 4000000 in
theorem c_leastTelling (g : Gl) (l : Launch) (h : Int64) (F : Nat → Nat → Int32) (J : Nat → Int64) {G P : Nat} (hS : cS F G P) : Ct g l yX7_leastTelling cX7_leastTelling 7 (some .int) 4 0 0 [.ref 0, .long h] (St F J) (fun r S2 => r = some (.int (lts (gwF (Wc F) (Dc F) J G) h (2 ^ G)).1) ∧ S2 = St F (gwF (Wc F) (Dc F) J G)) := by
  obtain ⟨hG, hP, hG8, hP24⟩ := hS
  refine Ct.of rfl (by decide) rfl (Nat.le_of_ble_eq_true rfl) ?_
  refine g_iconst (0) 1 dX7_leastTelling_0 rfl (by decide) ?_
  refine g_istore_n 2 dX7_leastTelling_1 rfl (by decide) ?_
  exact lp_lt1 g l h F J ⟨hG, hP, hG8, hP24⟩ G 0 _ _ _ _ _ (Nat.zero_add _) rfl (gwF_0 _ _ _).symm

set_option maxRecDepth 100000 in
set_option maxHeartbeats 4000000 in
theorem c_needed (g : Gl) (l : Launch) (i what : Int32) (F : Nat → Nat → Int32) (J : Nat → Int64) {G P : Nat} (hS : cS F G P) : Ct g l yX7_needed cX7_needed 4 (some .int) 5 0 0 [.ref 0, .int i, .int what] (St F J) (fun r S2 => r = some (.int (neededA (G + P) G (Wc F) (Dc F) J i what)) ∧ ∃ J2, S2 = St F J2) := by
  obtain ⟨hG, hP, hG8, hP24⟩ := hS
  refine Ct.of rfl (by decide) rfl (Nat.le_of_ble_eq_true rfl) ?_
  refine g_aload_n 1 dX7_needed_0 rfl rfl ?_
  refine g_iload_n 2 dX7_needed_1 rfl rfl ?_
  refine g_v1 7 5 dX7_needed_2 rfl kl_X7_152 mv_X7_isLine rfl ⟨Nat.le_of_ble_eq_true rfl, Nat.le_of_ble_eq_true rfl⟩ (Nat.le_of_ble_eq_true rfl) (by first | decide | assumption | exact ⟨Nat.le_of_ble_eq_true rfl, rfl⟩) (c_isLine g l _ F J ⟨hG, hP, hG8, hP24⟩) ?_
  rintro _ _ ⟨rfl, rfl⟩
  refine g_if_eq 17 8 dX7_needed_5 rfl (by decide) (fun h5 => ?_) (fun h5 => ?_)
  · refine g_iconst (-1) 18 dX7_needed_17 rfl (by decide) ?_
    refine g_iret dX7_needed_18 ?_
    exact ⟨by rw [neededA, if_neg (fun z => b10.mp h5 z.1)], J, rfl⟩
  · obtain ⟨n, hn, en, cn⟩ := isLn_n (b10n h5) (by omega)
    refine g_iload_n 9 dX7_needed_8 rfl rfl ?_
    refine g_if_lt 17 12 dX7_needed_9 rfl (by decide) (fun h9 => ?_) (fun h9 => ?_)
    · refine g_iconst (-1) 18 dX7_needed_17 rfl (by decide) ?_
      refine g_iret dX7_needed_18 ?_
      exact ⟨by rw [neededA, if_neg (fun z => z.2.1 h9)], J, rfl⟩
    · refine g_iload_n 13 dX7_needed_12 rfl rfl ?_
      refine g_iconst (1) 14 dX7_needed_13 rfl (by decide) ?_
      refine g_icmp_le 19 17 dX7_needed_14 rfl (by decide) (fun h14 => ?_) (fun h14 => ?_)
      · refine g_aload_n 20 dX7_needed_19 rfl rfl ?_
        refine g_aload_n 21 dX7_needed_20 rfl rfl ?_
        refine gf_7_4 24 dX7_needed_21 rfl kf_X7_39 ?_
        refine g_iload_n 25 dX7_needed_24 rfl rfl ?_
        refine ga_lines n 26 dX7_needed_25 rfl en (by omega) ?_
        refine g_v0 2 29 dX7_needed_26 rfl kl_X7_178 mv_X2_worldsHeld rfl ⟨Nat.le_of_ble_eq_true rfl, Nat.le_of_ble_eq_true rfl⟩ (Nat.le_of_ble_eq_true rfl) (ln_is n (by omega)) (c_worldsHeld g l (ln_is n (by omega)) F J) ?_
        rintro _ _ ⟨rfl, rfl⟩
        refine g_v1 7 32 dX7_needed_29 rfl kl_X7_214 mv_X7_leastTelling rfl ⟨Nat.le_of_ble_eq_true rfl, Nat.le_of_ble_eq_true rfl⟩ (Nat.le_of_ble_eq_true rfl) (by first | decide | assumption | exact ⟨Nat.le_of_ble_eq_true rfl, rfl⟩) (c_leastTelling g l _ F J ⟨hG, hP, hG8, hP24⟩) ?_
        rintro _ _ ⟨rfl, rfl⟩
        refine g_istore_n 33 dX7_needed_32 rfl (by decide) ?_
        refine g_iload_n 34 dX7_needed_33 rfl rfl ?_
        refine g_bipush (-9) 36 dX7_needed_34 rfl (by decide) ?_
        refine g_icmp_ne 42 39 dX7_needed_36 rfl (by decide) (fun h36 => ?_) (fun h36 => ?_)
        · refine g_iload_n 43 dX7_needed_42 rfl rfl ?_
          refine g_if_ne 53 46 dX7_needed_43 rfl (by decide) (fun h43 => ?_) (fun h43 => ?_)
          · refine g_iload_n 54 dX7_needed_53 rfl rfl ?_
            refine g_iret dX7_needed_54 ?_
            have e1 : holdsA (G + P) (Wc F) (Dc F) i = wh (Wc F n) (Dc F n) 64 := by rw [holdsA, if_pos (b10n h5), cn]
            exact ⟨by rw [neededA, if_pos ⟨b10n h5, h9, h14⟩, e1]; rw [if_neg (show ¬ (lts (gwF (Wc F) (Dc F) J G) (wh (Wc F n) (Dc F n) 64) (2 ^ G)).1 = -9 from h36), if_neg h43]; rfl, _, rfl⟩
          · refine g_iload_n 47 dX7_needed_46 rfl rfl ?_
            refine g_s1 50 dX7_needed_47 rfl kl_X7_218 ms_J6_bitCount_0f7a4 ⟨Nat.le_of_ble_eq_true rfl, Nat.le_of_ble_eq_true rfl⟩ (Nat.le_of_ble_eq_true rfl) (c_bc32 g l _ _) ?_
            rintro _ _ ⟨rfl, rfl⟩
            refine g_goto 54 dX7_needed_50 (by decide) ?_
            refine g_iret dX7_needed_54 ?_
            have e1 : holdsA (G + P) (Wc F) (Dc F) i = wh (Wc F n) (Dc F n) 64 := by rw [holdsA, if_pos (b10n h5), cn]
            exact ⟨by rw [neededA, if_pos ⟨b10n h5, h9, h14⟩, e1]; rw [if_neg (show ¬ (lts (gwF (Wc F) (Dc F) J G) (wh (Wc F n) (Dc F n) 64) (2 ^ G)).1 = -9 from h36), if_pos h43]; rfl, _, rfl⟩
        · refine g_bipush (-9) 41 dX7_needed_39 rfl (by decide) ?_
          refine g_iret dX7_needed_41 ?_
          have e1 : holdsA (G + P) (Wc F) (Dc F) i = wh (Wc F n) (Dc F n) 64 := by rw [holdsA, if_pos (b10n h5), cn]
          exact ⟨by rw [neededA, if_pos ⟨b10n h5, h9, h14⟩, e1]; exact iv_pos h36, _, rfl⟩
      · refine g_iconst (-1) 18 dX7_needed_17 rfl (by decide) ?_
        refine g_iret dX7_needed_18 ?_
        exact ⟨by rw [neededA, if_neg (fun z => h14 z.2.2)], J, rfl⟩

set_option maxRecDepth 100000 in
set_option maxHeartbeats 4000000 in
theorem lp_covers (g : Gl) (l : Launch) (k : Int32) (F : Nat → Nat → Int32) (J : Nat → Int64) {n0 : Nat} (hn0 : n0 < 32) {XX : State → Method → Prop} (n : Nat) : ∀ (i : Nat) (ix f : Int32), i + n = 64 → ix = nI i → covR (Wc F n0) (Dc F n0) k 64 0 0 = covR (Wc F n0) (Dc F n0) k n i f → Gj g l (rmd 3 0 0) XX (QM g (fun r S2 => r = some (.int (covR (Wc F n0) (Dc F n0) k 64 0 0)) ∧ S2 = St F J) 0 0) RX7 cX7_covers 5 (some .int) 20 [some (.ref 0), some (.int (nI n0)), some (.int k), some (.int f), some (.int ix)] [] (St F J) 0 0 := by
  induction n with
  | zero =>
    intro i ix f hi hx he
    obtain rfl : i = 64 := by omega
    subst hx
    refine g_iload 22 dX7_covers_20 rfl rfl ?_
    refine g_bipush (63) 24 dX7_covers_22 rfl (by decide) ?_
    refine g_icmp_gt 58 27 dX7_covers_24 rfl (by decide) (fun h24 => ?_) (fun h24 => ?_)
    · refine g_iload_n 59 dX7_covers_58 rfl rfl ?_
      refine g_iconst (-1) 60 dX7_covers_59 rfl (by decide) ?_
      refine g_icmp_ne 67 63 dX7_covers_60 rfl (by decide) (fun h60 => ?_) (fun h60 => ?_)
      · refine g_iconst (-1) 68 dX7_covers_67 rfl (by decide) ?_
        refine g_iret dX7_covers_68 ?_
        exact ⟨by rw [he, covR, if_neg h60], rfl⟩
      · refine g_iload_n 64 dX7_covers_63 rfl rfl ?_
        refine g_goto 68 dX7_covers_64 (by decide) ?_
        refine g_iret dX7_covers_68 ?_
        exact ⟨by rw [he, covR, if_pos h60], rfl⟩
    · exact absurd (by decide) h24
  | succ n ih =>
    intro i ix f hi hx he
    subst hx
    refine g_iload 22 dX7_covers_20 rfl rfl ?_
    refine g_bipush (63) 24 dX7_covers_22 rfl (by decide) ?_
    refine g_icmp_gt 58 27 dX7_covers_24 rfl (by decide) (fun h24 => ?_) (fun h24 => ?_)
    · exact absurd h24 (nI_nlt (a := 63) (b := i) (by omega) (by decide))
    · refine g_aload_n 28 dX7_covers_27 rfl rfl ?_
      refine gf_7_4 31 dX7_covers_28 rfl kf_X7_39 ?_
      refine g_iload_n 32 dX7_covers_31 rfl rfl ?_
      refine ga_lines n0 33 dX7_covers_32 rfl rfl hn0 ?_
      refine g_iload 35 dX7_covers_33 rfl rfl ?_
      refine g_v1 2 38 dX7_covers_35 rfl kl_X7_223 mv_X2_isLeastCover rfl ⟨Nat.le_of_ble_eq_true rfl, Nat.le_of_ble_eq_true rfl⟩ (Nat.le_of_ble_eq_true rfl) (ln_is n0 hn0) (c_isLeastCover g l (ln_is n0 hn0) _ F J) ?_
      rintro r S2 ⟨⟨x, rfl, ⟨rfl, hc⟩ | ⟨rfl, hc⟩⟩, rfl⟩
      · refine g_if_eq 52 41 dX7_covers_38 rfl (by decide) (fun h38 => ?_) (fun h38 => ?_)
        · exact absurd h38 (by decide)
        · refine g_iload_n 42 dX7_covers_41 rfl rfl ?_
          refine g_iload_n 43 dX7_covers_42 rfl rfl ?_
          refine g_icmp_ne 49 46 dX7_covers_43 rfl (by decide) (fun h43 => ?_) (fun h43 => ?_)
          · refine g_iinc (1) 52 dX7_covers_49 rfl (by decide) (by decide) rfl ?_
            refine g_iinc (1) 55 dX7_covers_52 rfl (by decide) (by decide) rfl ?_
            refine g_goto 20 dX7_covers_55 (by decide) ?_
            exact ih (i + 1) _ _ (by omega) (nI_succ i).symm (by rw [he, covR, if_pos (show lcov (Wc F n0) (Dc F n0) (nI i) from hc), if_neg h43])
          · refine g_iload 48 dX7_covers_46 rfl rfl ?_
            refine g_iret dX7_covers_48 ?_
            exact ⟨by rw [he, covR, if_pos (show lcov (Wc F n0) (Dc F n0) (nI i) from hc), if_pos h43], rfl⟩
      · refine g_if_eq 52 41 dX7_covers_38 rfl (by decide) (fun h38 => ?_) (fun h38 => ?_)
        · refine g_iinc (1) 55 dX7_covers_52 rfl (by decide) (by decide) rfl ?_
          refine g_goto 20 dX7_covers_55 (by decide) ?_
          exact ih (i + 1) _ _ (by omega) (nI_succ i).symm (by rw [he, covR, if_neg (show ¬ lcov (Wc F n0) (Dc F n0) (nI i) from hc)])
        · exact absurd h38 (by decide)

set_option maxRecDepth 100000 in
set_option maxHeartbeats 4000000 in
theorem c_covers (g : Gl) (l : Launch) (i k : Int32) (F : Nat → Nat → Int32) (J : Nat → Int64) {G P : Nat} (hS : cS F G P) : Ct g l yX7_covers cX7_covers 5 (some .int) 3 0 0 [.ref 0, .int i, .int k] (St F J) (fun r S2 => r = some (.int (coversA (G + P) (Wc F) (Dc F) i k)) ∧ S2 = St F J) := by
  obtain ⟨hG, hP, hG8, hP24⟩ := hS
  refine Ct.of rfl (by decide) rfl (Nat.le_of_ble_eq_true rfl) ?_
  refine g_aload_n 1 dX7_covers_0 rfl rfl ?_
  refine g_iload_n 2 dX7_covers_1 rfl rfl ?_
  refine g_v1 7 5 dX7_covers_2 rfl kl_X7_152 mv_X7_isLine rfl ⟨Nat.le_of_ble_eq_true rfl, Nat.le_of_ble_eq_true rfl⟩ (Nat.le_of_ble_eq_true rfl) (by first | decide | assumption | exact ⟨Nat.le_of_ble_eq_true rfl, rfl⟩) (c_isLine g l _ F J ⟨hG, hP, hG8, hP24⟩) ?_
  rintro _ _ ⟨rfl, rfl⟩
  refine g_if_eq 13 8 dX7_covers_5 rfl (by decide) (fun h5 => ?_) (fun h5 => ?_)
  · refine g_iconst (-1) 14 dX7_covers_13 rfl (by decide) ?_
    refine g_iret dX7_covers_14 ?_
    exact ⟨by rw [coversA, if_neg (fun z => b10.mp h5 z.1)], rfl⟩
  · obtain ⟨n, hn, en, cn⟩ := isLn_n (b10n h5) (by omega)
    subst en
    refine g_iload_n 9 dX7_covers_8 rfl rfl ?_
    refine g_iconst (-1) 10 dX7_covers_9 rfl (by decide) ?_
    refine g_icmp_ge 15 13 dX7_covers_10 rfl (by decide) (fun h10 => ?_) (fun h10 => ?_)
    · refine g_iconst (0) 16 dX7_covers_15 rfl (by decide) ?_
      refine g_istore_n 17 dX7_covers_16 rfl (by decide) ?_
      refine g_iconst (0) 18 dX7_covers_17 rfl (by decide) ?_
      refine g_istore 20 dX7_covers_18 rfl (by decide) ?_
      have h := lp_covers g l k F J (n0 := n) (by omega) 64 0 _ _ rfl rfl rfl (XX := fun _ M => M.name = yX7_covers.name)
      rw [show covR (Wc F n) (Dc F n) k 64 0 0 = coversA (G + P) (Wc F) (Dc F) (nI n) k by rw [coversA, if_pos ⟨b10n h5, h10⟩, cn]] at h
      exact h
    · refine g_iconst (-1) 14 dX7_covers_13 rfl (by decide) ?_
      refine g_iret dX7_covers_14 ?_
      exact ⟨by rw [coversA, if_neg (fun z => h10 z.2)], rfl⟩

def costA (C : Nat → Int32) (a v : Int32) : Int32 := if ¬ a < 0 ∧ ¬ 6 ≤ a ∧ ¬ v < 0 ∧ v ≤ 99 then C a.toNatClampNeg else -1
def costC (C : Nat → Int32) (a v : Int32) : Nat → Int32 := if ¬ a < 0 ∧ ¬ 6 ≤ a ∧ ¬ v < 0 ∧ v ≤ 99 then upd C a.toNatClampNeg v else C
def setR (F : Nat → Nat → Int32) (k : Nat) (w : Nat → Int32) : Nat → Nat → Int32 := fun q => if q = k then w else F q
theorem setR_id (F : Nat → Nat → Int32) (k : Nat) : setR F k (F k) = F := by
  funext q; simp only [setR]; split
  · simp_all
  · rfl
theorem a_in {a : Int32} (h1 : ¬ a < 0) (h2 : ¬ 6 ≤ a) : ∃ b : Nat, b < 6 ∧ a = nI b ∧ a.toNatClampNeg = b := by
  obtain ⟨b, hb, e⟩ := nI_of h1
  refine ⟨b, ?_, e, by rw [e]; exact nI_clamp hb⟩
  rcases Nat.lt_or_ge b 6 with z | z
  · exact z
  · exact absurd (by rw [e]; exact nI_le (a := 6) z hb) h2

set_option maxRecDepth 100000 in
set_option maxHeartbeats 4000000 in
theorem c_cost (g : Gl) (l : Launch) (a v : Int32) (F : Nat → Nat → Int32) (J : Nat → Int64) : Ct g l yX7_cost cX7_cost 4 (some .int) 0 0 0 [.ref 0, .int a, .int v] (St F J) (fun r S2 => r = some (.int (costA (F 166) a v)) ∧ S2 = St (setR F 166 (costC (F 166) a v)) J) := by
  refine Ct.of rfl (by decide) rfl (Nat.le_of_ble_eq_true rfl) ?_
  refine g_iload_n 1 dX7_cost_0 rfl rfl ?_
  refine g_if_lt 20 4 dX7_cost_1 rfl (by decide) (fun h1 => ?_) (fun h1 => ?_)
  · refine g_iconst (-1) 21 dX7_cost_20 rfl (by decide) ?_
    refine g_iret dX7_cost_21 ?_
    have hc : ¬ (¬ a < 0 ∧ ¬ 6 ≤ a ∧ ¬ v < 0 ∧ v ≤ 99) := fun z => z.1 h1
    exact ⟨by rw [costA, if_neg hc], by rw [costC, if_neg hc, setR_id]⟩
  · refine g_iload_n 5 dX7_cost_4 rfl rfl ?_
    refine g_bipush (6) 7 dX7_cost_5 rfl (by decide) ?_
    refine g_icmp_ge 20 10 dX7_cost_7 rfl (by decide) (fun h7 => ?_) (fun h7 => ?_)
    · refine g_iconst (-1) 21 dX7_cost_20 rfl (by decide) ?_
      refine g_iret dX7_cost_21 ?_
      have hc : ¬ (¬ a < 0 ∧ ¬ 6 ≤ a ∧ ¬ v < 0 ∧ v ≤ 99) := fun z => z.2.1 h7
      exact ⟨by rw [costA, if_neg hc], by rw [costC, if_neg hc, setR_id]⟩
    · refine g_iload_n 11 dX7_cost_10 rfl rfl ?_
      refine g_if_lt 20 14 dX7_cost_11 rfl (by decide) (fun h11 => ?_) (fun h11 => ?_)
      · refine g_iconst (-1) 21 dX7_cost_20 rfl (by decide) ?_
        refine g_iret dX7_cost_21 ?_
        have hc : ¬ (¬ a < 0 ∧ ¬ 6 ≤ a ∧ ¬ v < 0 ∧ v ≤ 99) := fun z => z.2.2.1 h11
        exact ⟨by rw [costA, if_neg hc], by rw [costC, if_neg hc, setR_id]⟩
      · refine g_iload_n 15 dX7_cost_14 rfl rfl ?_
        refine g_bipush (99) 17 dX7_cost_15 rfl (by decide) ?_
        refine g_icmp_le 22 20 dX7_cost_17 rfl (by decide) (fun h17 => ?_) (fun h17 => ?_)
        · obtain ⟨b, hb, eb, cb⟩ := a_in h1 h7
          refine g_aload_n 23 dX7_cost_22 rfl rfl ?_
          refine gf_7_6 26 dX7_cost_23 rfl kf_X7_48 ?_
          refine g_iload_n 27 dX7_cost_26 rfl rfl ?_
          refine ga_ild (b) 28 dX7_cost_27 rfl (by first | decide | assumption | exact ⟨Nat.le_of_ble_eq_true rfl, rfl⟩) eb hb ?_
          refine g_istore_n 29 dX7_cost_28 rfl (by decide) ?_
          refine g_aload_n 30 dX7_cost_29 rfl rfl ?_
          refine gf_7_6 33 dX7_cost_30 rfl kf_X7_48 ?_
          refine g_iload_n 34 dX7_cost_33 rfl rfl ?_
          refine g_iload_n 35 dX7_cost_34 rfl rfl ?_
          refine ga_ist (b) 36 dX7_cost_35 rfl (by first | decide | assumption | exact ⟨Nat.le_of_ble_eq_true rfl, rfl⟩) eb hb ?_
          refine g_iload_n 37 dX7_cost_36 rfl rfl ?_
          refine g_iret dX7_cost_37 ?_
          have hc : ¬ a < 0 ∧ ¬ 6 ≤ a ∧ ¬ v < 0 ∧ v ≤ 99 := ⟨h1, h7, h11, h17⟩
          exact ⟨by rw [costA, if_pos hc, cb], by rw [costC, if_pos hc, cb]; rfl⟩
        · refine g_iconst (-1) 21 dX7_cost_20 rfl (by decide) ?_
          refine g_iret dX7_cost_21 ?_
          have hc : ¬ (¬ a < 0 ∧ ¬ 6 ≤ a ∧ ¬ v < 0 ∧ v ≤ 99) := fun z => h17 z.2.2.2
          exact ⟨by rw [costA, if_neg hc], by rw [costC, if_neg hc, setR_id]⟩

set_option maxRecDepth 100000 in
set_option maxHeartbeats 4000000 in
theorem lp_costOf (g : Gl) (l : Launch) (w : Int32) (F : Nat → Nat → Int32) (J : Nat → Int64) {XX : State → Method → Prop} (n : Nat) : ∀ (i : Nat) (ix x : Int32), i + n = 6 → ix = nI i → x = cos (F 166) w i → Gj g l (rmd 0 0 0) XX (QM g (fun r S2 => r = some (.int (cos (F 166) w 6)) ∧ S2 = St F J) 0 0) RX7 cX7_costOf 4 (some .int) 4 [some (.ref 0), some (.int w), some (.int x), some (.int ix)] [] (St F J) 0 0 := by
  induction n with
  | zero =>
    intro i ix x hi hx he
    obtain rfl : i = 6 := by omega
    subst hx; subst he
    refine g_iload_n 5 dX7_costOf_4 rfl rfl ?_
    refine g_bipush (6) 7 dX7_costOf_5 rfl (by decide) ?_
    refine g_icmp_ge 34 10 dX7_costOf_7 rfl (by decide) (fun h7 => ?_) (fun h7 => ?_)
    · refine g_iload_n 35 dX7_costOf_34 rfl rfl ?_
      refine g_iret dX7_costOf_35 ?_
      exact ⟨rfl, rfl⟩
    · exact absurd (by decide) h7
  | succ n ih =>
    intro i ix x hi hx he
    subst hx
    refine g_iload_n 5 dX7_costOf_4 rfl rfl ?_
    refine g_bipush (6) 7 dX7_costOf_5 rfl (by decide) ?_
    refine g_icmp_ge 34 10 dX7_costOf_7 rfl (by decide) (fun h7 => ?_) (fun h7 => ?_)
    · exact absurd h7 (lt6 (by omega))
    · refine g_iload_n 11 dX7_costOf_10 rfl rfl ?_
      refine g_iload_n 12 dX7_costOf_11 rfl rfl ?_
      refine g_ishr 13 dX7_costOf_12 rfl ?_
      refine g_iconst (1) 14 dX7_costOf_13 rfl (by decide) ?_
      refine g_iand 15 dX7_costOf_14 rfl ?_
      refine g_iconst (1) 16 dX7_costOf_15 rfl (by decide) ?_
      refine g_icmp_ne 28 19 dX7_costOf_16 rfl (by decide) (fun h16 => ?_) (fun h16 => ?_)
      · refine g_iinc (1) 31 dX7_costOf_28 rfl (by decide) (by decide) rfl ?_
        refine g_goto 4 dX7_costOf_31 (by decide) ?_
        exact ih (i + 1) _ _ (by omega) (nI_succ i).symm (by rw [cos, ← he, if_neg h16])
      · refine g_iload_n 20 dX7_costOf_19 rfl rfl ?_
        refine g_aload_n 21 dX7_costOf_20 rfl rfl ?_
        refine gf_7_6 24 dX7_costOf_21 rfl kf_X7_48 ?_
        refine g_iload_n 25 dX7_costOf_24 rfl rfl ?_
        refine ga_ild (i) 26 dX7_costOf_25 rfl (by first | decide | assumption | exact ⟨Nat.le_of_ble_eq_true rfl, rfl⟩) rfl (show i < 6 by omega) ?_
        refine g_iadd 27 dX7_costOf_26 rfl ?_
        refine g_istore_n 28 dX7_costOf_27 rfl (by decide) ?_
        refine g_iinc (1) 31 dX7_costOf_28 rfl (by decide) (by decide) rfl ?_
        refine g_goto 4 dX7_costOf_31 (by decide) ?_
        exact ih (i + 1) _ _ (by omega) (nI_succ i).symm (by rw [cos, ← he, if_pos h16])

set_option maxRecDepth 100000 in
set_option maxHeartbeats 4000000 in
theorem c_costOf (g : Gl) (l : Launch) (w : Int32) (F : Nat → Nat → Int32) (J : Nat → Int64) : Ct g l yX7_costOf cX7_costOf 4 (some .int) 0 0 0 [.ref 0, .int w] (St F J) (fun r S2 => r = some (.int (cos (F 166) w 6)) ∧ S2 = St F J) := by
  refine Ct.of rfl (by decide) rfl (Nat.le_of_ble_eq_true rfl) ?_
  refine g_iconst (0) 1 dX7_costOf_0 rfl (by decide) ?_
  refine g_istore_n 2 dX7_costOf_1 rfl (by decide) ?_
  refine g_iconst (0) 3 dX7_costOf_2 rfl (by decide) ?_
  refine g_istore_n 4 dX7_costOf_3 rfl (by decide) ?_
  exact lp_costOf g l w F J 6 0 _ _ rfl rfl rfl

set_option maxRecDepth 100000 in
set_option maxHeartbeats 4000000 in
theorem lp_cheapest (g : Gl) (l : Launch) (t : Int64) (F : Nat → Nat → Int32) (J : Nat → Int64) {XX : State → Method → Prop} (n : Nat) : ∀ (i : Nat) (ix x : Int32), i + n = 64 → ix = nI i → x = chs t (F 166) i → Gj g l (rmd 5 0 0) XX (QM g (fun r S2 => r = some (.int (chs t (F 166) 64)) ∧ S2 = St F J) 0 0) RX7 cX7_cheapestTrueWorld 5 (some .int) 11 [some (.ref 0), some (.long t), none, some (.int x), some (.int ix)] [] (St F J) 0 0 := by
  induction n with
  | zero =>
    intro i ix x hi hx he
    obtain rfl : i = 64 := by omega
    subst hx; subst he
    refine g_iload 13 dX7_cheapestTrueWorld_11 rfl rfl ?_
    refine g_bipush (64) 15 dX7_cheapestTrueWorld_13 rfl (by decide) ?_
    refine g_icmp_ge 56 18 dX7_cheapestTrueWorld_15 rfl (by decide) (fun h15 => ?_) (fun h15 => ?_)
    · refine g_iload_n 57 dX7_cheapestTrueWorld_56 rfl rfl ?_
      refine g_iret dX7_cheapestTrueWorld_57 ?_
      exact ⟨rfl, rfl⟩
    · exact absurd (by decide) h15
  | succ n ih =>
    intro i ix x hi hx he
    subst hx
    refine g_iload 13 dX7_cheapestTrueWorld_11 rfl rfl ?_
    refine g_bipush (64) 15 dX7_cheapestTrueWorld_13 rfl (by decide) ?_
    refine g_icmp_ge 56 18 dX7_cheapestTrueWorld_15 rfl (by decide) (fun h15 => ?_) (fun h15 => ?_)
    · exact absurd h15 (lt64 (by omega))
    · refine g_lload_n 19 dX7_cheapestTrueWorld_18 rfl rfl ?_
      refine g_iload 21 dX7_cheapestTrueWorld_19 rfl rfl ?_
      refine g_s2 24 dX7_cheapestTrueWorld_21 rfl kl_X7_206 ms_X7_has ⟨Nat.le_of_ble_eq_true rfl, Nat.le_of_ble_eq_true rfl⟩ (Nat.le_of_ble_eq_true rfl) (c_has g l _ _ _) ?_
      rintro _ _ ⟨rfl, rfl⟩
      refine g_if_eq 50 27 dX7_cheapestTrueWorld_24 rfl (by decide) (fun h24 => ?_) (fun h24 => ?_)
      · refine g_iinc (1) 53 dX7_cheapestTrueWorld_50 rfl (by decide) (by decide) rfl ?_
        refine g_goto 11 dX7_cheapestTrueWorld_53 (by decide) ?_
        exact ih (i + 1) _ _ (by omega) (nI_succ i).symm (by rw [chs, ← he, if_neg (fun z => b10.mp h24 z.1)])
      · refine g_iload_n 28 dX7_cheapestTrueWorld_27 rfl rfl ?_
        refine g_bipush (-9) 30 dX7_cheapestTrueWorld_28 rfl (by decide) ?_
        refine g_icmp_eq 47 33 dX7_cheapestTrueWorld_30 rfl (by decide) (fun h30 => ?_) (fun h30 => ?_)
        · refine g_iload 49 dX7_cheapestTrueWorld_47 rfl rfl ?_
          refine g_istore_n 50 dX7_cheapestTrueWorld_49 rfl (by decide) ?_
          refine g_iinc (1) 53 dX7_cheapestTrueWorld_50 rfl (by decide) (by decide) rfl ?_
          refine g_goto 11 dX7_cheapestTrueWorld_53 (by decide) ?_
          exact ih (i + 1) _ _ (by omega) (nI_succ i).symm (by rw [chs, ← he, if_pos ⟨b10n h24, Or.inl h30⟩])
        · refine g_aload_n 34 dX7_cheapestTrueWorld_33 rfl rfl ?_
          refine g_iload 36 dX7_cheapestTrueWorld_34 rfl rfl ?_
          refine g_v1 7 39 dX7_cheapestTrueWorld_36 rfl kl_X7_229 mv_X7_costOf rfl ⟨Nat.le_of_ble_eq_true rfl, Nat.le_of_ble_eq_true rfl⟩ (Nat.le_of_ble_eq_true rfl) (by first | decide | assumption | exact ⟨Nat.le_of_ble_eq_true rfl, rfl⟩) (c_costOf g l _ F J) ?_
          rintro _ _ ⟨rfl, rfl⟩
          refine g_aload_n 40 dX7_cheapestTrueWorld_39 rfl rfl ?_
          refine g_iload_n 41 dX7_cheapestTrueWorld_40 rfl rfl ?_
          refine g_v1 7 44 dX7_cheapestTrueWorld_41 rfl kl_X7_229 mv_X7_costOf rfl ⟨Nat.le_of_ble_eq_true rfl, Nat.le_of_ble_eq_true rfl⟩ (Nat.le_of_ble_eq_true rfl) (by first | decide | assumption | exact ⟨Nat.le_of_ble_eq_true rfl, rfl⟩) (c_costOf g l _ F J) ?_
          rintro _ _ ⟨rfl, rfl⟩
          refine g_icmp_ge 50 47 dX7_cheapestTrueWorld_44 rfl (by decide) (fun h44 => ?_) (fun h44 => ?_)
          · refine g_iinc (1) 53 dX7_cheapestTrueWorld_50 rfl (by decide) (by decide) rfl ?_
            refine g_goto 11 dX7_cheapestTrueWorld_53 (by decide) ?_
            exact ih (i + 1) _ _ (by omega) (nI_succ i).symm (by rw [chs, ← he, if_neg (fun z => z.2.elim h30 (fun y => y h44))])
          · refine g_iload 49 dX7_cheapestTrueWorld_47 rfl rfl ?_
            refine g_istore_n 50 dX7_cheapestTrueWorld_49 rfl (by decide) ?_
            refine g_iinc (1) 53 dX7_cheapestTrueWorld_50 rfl (by decide) (by decide) rfl ?_
            refine g_goto 11 dX7_cheapestTrueWorld_53 (by decide) ?_
            exact ih (i + 1) _ _ (by omega) (nI_succ i).symm (by rw [chs, ← he, if_pos ⟨b10n h24, Or.inr h44⟩])

set_option maxRecDepth 100000 in
set_option maxHeartbeats 4000000 in
theorem c_cheapest (g : Gl) (l : Launch) (F : Nat → Nat → Int32) (J : Nat → Int64) {G P : Nat} (hS : cS F G P) : Ct g l yX7_cheapestTrueWorld cX7_cheapestTrueWorld 5 (some .int) 5 0 0 [.ref 0] (St F J) (fun r S2 => r = some (.int (chs (tws (Wc F) (Dc F) G) (F 166) 64)) ∧ S2 = St F J) := by
  obtain ⟨hG, hP, hG8, hP24⟩ := hS
  refine Ct.of rfl (by decide) rfl (Nat.le_of_ble_eq_true rfl) ?_
  refine g_aload_n 1 dX7_cheapestTrueWorld_0 rfl rfl ?_
  refine g_v0 7 4 dX7_cheapestTrueWorld_1 rfl kl_X7_203 mv_X7_trueWorlds rfl ⟨Nat.le_of_ble_eq_true rfl, Nat.le_of_ble_eq_true rfl⟩ (Nat.le_of_ble_eq_true rfl) (by first | decide | assumption | exact ⟨Nat.le_of_ble_eq_true rfl, rfl⟩) (c_trueWorlds g l F J ⟨hG, hP, hG8, hP24⟩) ?_
  rintro _ _ ⟨rfl, rfl⟩
  refine g_lstore_n 5 dX7_cheapestTrueWorld_4 rfl (by decide) ?_
  refine g_bipush (-9) 7 dX7_cheapestTrueWorld_5 rfl (by decide) ?_
  refine g_istore_n 8 dX7_cheapestTrueWorld_7 rfl (by decide) ?_
  refine g_iconst (0) 9 dX7_cheapestTrueWorld_8 rfl (by decide) ?_
  refine g_istore 11 dX7_cheapestTrueWorld_9 rfl (by decide) ?_
  exact lp_cheapest g l _ F J 64 0 _ _ rfl rfl rfl

set_option maxRecDepth 100000 in
set_option maxHeartbeats 4000000 in
theorem c_least (g : Gl) (l : Launch) (what : Int32) (F : Nat → Nat → Int32) (J : Nat → Int64) {G P : Nat} (hS : cS F G P) : Ct g l yX7_least cX7_least 3 (some .int) 6 0 0 [.ref 0, .int what] (St F J) (fun r S2 => r = some (.int (leastA G (Wc F) (Dc F) (F 166) what)) ∧ S2 = St F J) := by
  obtain ⟨hG, hP, hG8, hP24⟩ := hS
  refine Ct.of rfl (by decide) rfl (Nat.le_of_ble_eq_true rfl) ?_
  refine g_iload_n 1 dX7_least_0 rfl rfl ?_
  refine g_if_lt 9 4 dX7_least_1 rfl (by decide) (fun h1 => ?_) (fun h1 => ?_)
  · refine g_iconst (-1) 10 dX7_least_9 rfl (by decide) ?_
    refine g_iret dX7_least_10 ?_
    exact ⟨by rw [leastA, if_neg (fun z => z.1 h1)], rfl⟩
  · refine g_iload_n 5 dX7_least_4 rfl rfl ?_
    refine g_iconst (1) 6 dX7_least_5 rfl (by decide) ?_
    refine g_icmp_le 11 9 dX7_least_6 rfl (by decide) (fun h6 => ?_) (fun h6 => ?_)
    · refine g_aload_n 12 dX7_least_11 rfl rfl ?_
      refine g_v0 7 15 dX7_least_12 rfl kl_X7_226 mv_X7_cheapestTrueWorld rfl ⟨Nat.le_of_ble_eq_true rfl, Nat.le_of_ble_eq_true rfl⟩ (Nat.le_of_ble_eq_true rfl) (by first | decide | assumption | exact ⟨Nat.le_of_ble_eq_true rfl, rfl⟩) (c_cheapest g l F J ⟨hG, hP, hG8, hP24⟩) ?_
      rintro _ _ ⟨rfl, rfl⟩
      refine g_istore_n 16 dX7_least_15 rfl (by decide) ?_
      refine g_iload_n 17 dX7_least_16 rfl rfl ?_
      refine g_if_eq 26 20 dX7_least_17 rfl (by decide) (fun h17 => ?_) (fun h17 => ?_)
      · refine g_iload_n 27 dX7_least_26 rfl rfl ?_
        refine g_goto 35 dX7_least_27 (by decide) ?_
        refine g_iret dX7_least_35 ?_
        exact ⟨by rw [leastA, if_pos ⟨h1, h6⟩, if_pos (Or.inl h17)], rfl⟩
      · refine g_iload_n 21 dX7_least_20 rfl rfl ?_
        refine g_bipush (-9) 23 dX7_least_21 rfl (by decide) ?_
        refine g_icmp_ne 30 26 dX7_least_23 rfl (by decide) (fun h23 => ?_) (fun h23 => ?_)
        · refine g_aload_n 31 dX7_least_30 rfl rfl ?_
          refine g_iload_n 32 dX7_least_31 rfl rfl ?_
          refine g_v1 7 35 dX7_least_32 rfl kl_X7_229 mv_X7_costOf rfl ⟨Nat.le_of_ble_eq_true rfl, Nat.le_of_ble_eq_true rfl⟩ (Nat.le_of_ble_eq_true rfl) (by first | decide | assumption | exact ⟨Nat.le_of_ble_eq_true rfl, rfl⟩) (c_costOf g l _ F J) ?_
          rintro _ _ ⟨rfl, rfl⟩
          refine g_iret dX7_least_35 ?_
          exact ⟨by rw [leastA, if_pos ⟨h1, h6⟩, if_neg (fun z => z.elim h17 h23)], rfl⟩
        · refine g_iload_n 27 dX7_least_26 rfl rfl ?_
          refine g_goto 35 dX7_least_27 (by decide) ?_
          refine g_iret dX7_least_35 ?_
          exact ⟨by rw [leastA, if_pos ⟨h1, h6⟩, if_pos (Or.inr h23)], rfl⟩
    · refine g_iconst (-1) 10 dX7_least_9 rfl (by decide) ?_
      refine g_iret dX7_least_10 ?_
      exact ⟨by rw [leastA, if_neg (fun z => h6 z.2)], rfl⟩

theorem wr_0 : True := trivial
