/-! the reference: one token after the other -/
def bm (F : Nat → Nat → Int32) (len k : Nat) : Int32 := if k < len then F 168 k else -1
theorem bm_no {F : Nat → Nat → Int32} {len k : Nat} (h : len ≤ k) : bm F len k = -1 := by rw [bm, if_neg (by omega)]
theorem bm_lt {F : Nat → Nat → Int32} {len k : Nat} (h : ¬ bm F len k = -1) : k < len := Nat.lt_of_not_le (fun z => h (bm_no z))
def mt (F : Nat → Nat → Int32) (nx tk pl vl fl : Int32) : Nat → Nat → Int32 := fun q => if q = 167 then (fun j => if j = 3 then nx else if j = 4 then tk else if j = 5 then pl else if j = 6 then vl else if j = 7 then fl else F 167 j) else F q
theorem mt_at (F : Nat → Nat → Int32) (a b c d e a2 b2 c2 d2 e2 : Int32) (i : Nat) (x : Int32) (h : ∀ j, upd (fun j => if j = 3 then a else if j = 4 then b else if j = 5 then c else if j = 6 then d else if j = 7 then e else F 167 j) i x j = if j = 3 then a2 else if j = 4 then b2 else if j = 5 then c2 else if j = 6 then d2 else if j = 7 then e2 else F 167 j) : up2 (mt F a b c d e) 167 i x = mt F a2 b2 c2 d2 e2 := by
  funext r j
  by_cases z : r = 167
  · subst z; simp only [up2, mt, if_true]; exact h j
  · simp [up2, mt, z]
theorem mt_3 {F : Nat → Nat → Int32} {a b c d e x : Int32} : up2 (mt F a b c d e) 167 3 x = mt F x b c d e := mt_at F _ _ _ _ _ _ _ _ _ _ 3 x fun j => by by_cases h : j = 3 <;> simp [upd, h]
theorem mt_4 {F : Nat → Nat → Int32} {a b c d e x : Int32} : up2 (mt F a b c d e) 167 4 x = mt F a x c d e := mt_at F _ _ _ _ _ _ _ _ _ _ 4 x fun j => by by_cases h : j = 4 <;> simp [upd, h]
theorem mt_5 {F : Nat → Nat → Int32} {a b c d e x : Int32} : up2 (mt F a b c d e) 167 5 x = mt F a b x d e := mt_at F _ _ _ _ _ _ _ _ _ _ 5 x fun j => by by_cases h : j = 5 <;> simp [upd, h]
theorem mt_6 {F : Nat → Nat → Int32} {a b c d e x : Int32} : up2 (mt F a b c d e) 167 6 x = mt F a b c x e := mt_at F _ _ _ _ _ _ _ _ _ _ 6 x fun j => by by_cases h : j = 6 <;> simp [upd, h]
theorem mt_7 {F : Nat → Nat → Int32} {a b c d e x : Int32} : up2 (mt F a b c d e) 167 7 x = mt F a b c d x := mt_at F _ _ _ _ _ _ _ _ _ _ 7 x fun j => by by_cases h : j = 7 <;> simp [upd, h]
theorem mt_id (F : Nat → Nat → Int32) : F = mt F (F 167 3) (F 167 4) (F 167 5) (F 167 6) (F 167 7) := by
  funext r j
  by_cases z : r = 167
  · subst z; simp only [mt, if_true]
    by_cases h0 : j = 3
    · simp [h0]
    · by_cases h1 : j = 4
      · simp [h1]
      · by_cases h2 : j = 5
        · simp [h2]
        · by_cases h3 : j = 6
          · simp [h3]
          · by_cases h4 : j = 7 <;> simp [h0, h1, h2, h3, h4]
  · simp [mt, z]
def addM (v : Int64) (c : Int32) : Int64 := if c = 0 then v else 256 * v + c.toInt64
def wrd5 (a b c d e : Int32) : Int64 := addM (addM (addM (addM (addM 0 a) b) c) d) e
def wrd (v : Int64) : Int32 := if v = 6382692 then 0 else if v = 499984983411 then 1 else if v = 6518132 then 2 else if v = 1953655149 then 3 else if v = 1685221232 then 4 else if v = 29551 then 5 else if v = 7237492 then 6 else if v = 427020085613 then 7 else -9
theorem wrd_c : wrd5 97 100 100 0 0 = 6382692 ∧ wrd5 116 105 109 101 115 = 499984983411 ∧ wrd5 99 117 116 0 0 = 6518132 ∧ wrd5 116 114 105 109 0 = 1953655149 ∧ wrd5 100 114 111 112 0 = 1685221232 ∧ wrd5 115 111 0 0 0 = 29551 ∧ wrd5 110 111 116 0 0 = 7237492 ∧ wrd5 99 108 97 105 109 = 427020085613 := by decide +kernel
set_option maxRecDepth 100000 in
set_option maxHeartbeats 4000000 in
theorem m_byteAt (g : Gl) (l : Launch) (F : Nat → Nat → Int32) (J : Nat → Int64) {len : Nat} (hl : F 167 2 = nI len) (hlen : len ≤ 400) (k : Nat) (hk : k < 1000) : Ct g l yX8_byteAt cX8_byteAt 2 (some .int) 0 0 0 [.ref 167, .int (nI k)] (St F J) (fun r S2 => r = some (.int (bm F len k)) ∧ S2 = St F J) := by
  refine Ct.of rfl (by decide) rfl (Nat.le_of_ble_eq_true rfl) ?_
  refine g_iload_n 1 dX8_byteAt_0 rfl rfl ?_
  refine g_aload_n 2 dX8_byteAt_1 rfl rfl ?_
  refine gf_8_2 5 dX8_byteAt_2 rfl kf_X8_42 (by first | decide | assumption | exact ⟨Nat.le_of_ble_eq_true rfl, rfl⟩) ?_
  refine gst_at hl ?_
  refine g_icmp_ge 17 8 dX8_byteAt_5 rfl (by decide) (fun h5 => ?_) (fun h5 => ?_)
  · refine g_iconst (-1) 18 dX8_byteAt_17 rfl (by decide) ?_
    refine g_iret dX8_byteAt_18 ?_
    exact ⟨by rw [bm, if_neg (fun z => nI_ge (a := k) (b := len) z (by omega) h5)], rfl⟩
  · have hkl : k < len := Nat.lt_of_not_le (fun z => h5 (nI_le z (by omega)))
    refine g_aload_n 9 dX8_byteAt_8 rfl rfl ?_
    refine gf_8_1 12 dX8_byteAt_9 rfl kf_X8_7 ?_
    refine g_iload_n 13 dX8_byteAt_12 rfl rfl ?_
    refine ga_ild (k) 14 dX8_byteAt_13 rfl (by first | decide | assumption | exact ⟨Nat.le_of_ble_eq_true rfl, rfl⟩) rfl (show k < 400 by omega) ?_
    refine g_goto 18 dX8_byteAt_14 (by decide) ?_
    refine g_iret dX8_byteAt_18 ?_
    exact ⟨by rw [bm, if_pos hkl], rfl⟩

theorem m_byteT (g : Gl) (l : Launch) (F : Nat → Nat → Int32) (J : Nat → Int64) (a b c d e : Int32) {len : Nat} (hl : F 167 2 = nI len) (hlen : len ≤ 400) (k : Nat) (hk : k < 1000) : Ct g l yX8_byteAt cX8_byteAt 2 (some .int) 0 0 0 [.ref 167, .int (nI k)] (St (mt F a b c d e) J) (fun r S2 => r = some (.int (bm F len k)) ∧ S2 = St (mt F a b c d e) J) := m_byteAt g l (mt F a b c d e) J hl hlen k hk
set_option maxRecDepth 100000 in
set_option maxHeartbeats 4000000 in
theorem m_add (g : Gl) (l : Launch) (v : Int64) (c : Int32) (S : Sg) : Ct g l yX8_add cX8_add 3 (some .long) 0 0 0 [.long v, .int c] S (fun r S2 => r = some (.long (addM v c)) ∧ S2 = S) := by
  refine Ct.of rfl (by decide) rfl (Nat.le_of_ble_eq_true rfl) ?_
  refine g_iload_n 1 dX8_add_0 rfl rfl ?_
  refine g_if_ne 8 4 dX8_add_1 rfl (by decide) (fun h1 => ?_) (fun h1 => ?_)
  · refine g_ldc2 11 dX8_add_8 rfl kc_X8_47 ?_
    refine g_lload_n 12 dX8_add_11 rfl rfl ?_
    refine g_lmul 13 dX8_add_12 rfl ?_
    refine g_iload_n 14 dX8_add_13 rfl rfl ?_
    refine g_i2l 15 dX8_add_14 rfl ?_
    refine g_ladd 16 dX8_add_15 rfl ?_
    refine g_lret dX8_add_16 ?_
    exact ⟨by rw [addM, if_neg h1], rfl⟩
  · refine g_lload_n 5 dX8_add_4 rfl rfl ?_
    refine g_goto 16 dX8_add_5 (by decide) ?_
    refine g_lret dX8_add_16 ?_
    exact ⟨by rw [addM, if_pos h1], rfl⟩

set_option maxRecDepth 100000 in
set_option maxHeartbeats 4000000 in
theorem m_word (g : Gl) (l : Launch) (a b c d e : Int32) (S : Sg) : Ct g l yX8_word cX8_word 5 (some .long) 1 0 0 [.int a, .int b, .int c, .int d, .int e] S (fun r S2 => r = some (.long (wrd5 a b c d e)) ∧ S2 = S) := by
  refine Ct.of rfl (by decide) rfl (Nat.le_of_ble_eq_true rfl) ?_
  refine g_lconst (0) 1 dX8_word_0 rfl (by decide) ?_
  refine g_iload_n 2 dX8_word_1 rfl rfl ?_
  refine g_s2 5 dX8_word_2 rfl kl_X8_49 ms_X8_add ⟨Nat.le_of_ble_eq_true rfl, Nat.le_of_ble_eq_true rfl⟩ (Nat.le_of_ble_eq_true rfl) (m_add g l _ _ _) ?_
  rintro _ _ ⟨rfl, rfl⟩
  refine g_iload_n 6 dX8_word_5 rfl rfl ?_
  refine g_s2 9 dX8_word_6 rfl kl_X8_49 ms_X8_add ⟨Nat.le_of_ble_eq_true rfl, Nat.le_of_ble_eq_true rfl⟩ (Nat.le_of_ble_eq_true rfl) (m_add g l _ _ _) ?_
  rintro _ _ ⟨rfl, rfl⟩
  refine g_iload_n 10 dX8_word_9 rfl rfl ?_
  refine g_s2 13 dX8_word_10 rfl kl_X8_49 ms_X8_add ⟨Nat.le_of_ble_eq_true rfl, Nat.le_of_ble_eq_true rfl⟩ (Nat.le_of_ble_eq_true rfl) (m_add g l _ _ _) ?_
  rintro _ _ ⟨rfl, rfl⟩
  refine g_iload_n 14 dX8_word_13 rfl rfl ?_
  refine g_s2 17 dX8_word_14 rfl kl_X8_49 ms_X8_add ⟨Nat.le_of_ble_eq_true rfl, Nat.le_of_ble_eq_true rfl⟩ (Nat.le_of_ble_eq_true rfl) (m_add g l _ _ _) ?_
  rintro _ _ ⟨rfl, rfl⟩
  refine g_iload 19 dX8_word_17 rfl rfl ?_
  refine g_s2 22 dX8_word_19 rfl kl_X8_49 ms_X8_add ⟨Nat.le_of_ble_eq_true rfl, Nat.le_of_ble_eq_true rfl⟩ (Nat.le_of_ble_eq_true rfl) (m_add g l _ _ _) ?_
  rintro _ _ ⟨rfl, rfl⟩
  refine g_lret dX8_word_22 ?_
  exact ⟨rfl, rfl⟩

set_option maxRecDepth 100000 in
set_option maxHeartbeats 4000000 in
theorem m_wordOf (g : Gl) (l : Launch) (v : Int64) (S : Sg) : Ct g l yX8_wordOf cX8_wordOf 2 (some .int) 2 0 0 [.long v] S (fun r S2 => r = some (.int (wrd v)) ∧ S2 = S) := by
  refine Ct.of rfl (by decide) rfl (Nat.le_of_ble_eq_true rfl) ?_
  refine g_lload_n 1 dX8_wordOf_0 rfl rfl ?_
  refine g_bipush (97) 3 dX8_wordOf_1 rfl (by decide) ?_
  refine g_bipush (100) 5 dX8_wordOf_3 rfl (by decide) ?_
  refine g_bipush (100) 7 dX8_wordOf_5 rfl (by decide) ?_
  refine g_iconst (0) 8 dX8_wordOf_7 rfl (by decide) ?_
  refine g_iconst (0) 9 dX8_wordOf_8 rfl (by decide) ?_
  refine g_s5 12 dX8_wordOf_9 rfl kl_X8_53 ms_X8_word ⟨Nat.le_of_ble_eq_true rfl, Nat.le_of_ble_eq_true rfl⟩ (Nat.le_of_ble_eq_true rfl) (m_word g l _ _ _ _ _ _) ?_
  rintro _ _ ⟨rfl, rfl⟩
  rw [wrd_c.1]
  refine g_lc_ne 20 16 dX8_wordOf_12 dX8_wordOf_13 rfl (by decide) (fun h12 => ?_) (fun h12 => ?_)
  · refine g_lload_n 21 dX8_wordOf_20 rfl rfl ?_
    refine g_bipush (116) 23 dX8_wordOf_21 rfl (by decide) ?_
    refine g_bipush (105) 25 dX8_wordOf_23 rfl (by decide) ?_
    refine g_bipush (109) 27 dX8_wordOf_25 rfl (by decide) ?_
    refine g_bipush (101) 29 dX8_wordOf_27 rfl (by decide) ?_
    refine g_bipush (115) 31 dX8_wordOf_29 rfl (by decide) ?_
    refine g_s5 34 dX8_wordOf_31 rfl kl_X8_53 ms_X8_word ⟨Nat.le_of_ble_eq_true rfl, Nat.le_of_ble_eq_true rfl⟩ (Nat.le_of_ble_eq_true rfl) (m_word g l _ _ _ _ _ _) ?_
    rintro _ _ ⟨rfl, rfl⟩
    rw [wrd_c.2.1]
    refine g_lc_ne 42 38 dX8_wordOf_34 dX8_wordOf_35 rfl (by decide) (fun h34 => ?_) (fun h34 => ?_)
    · refine g_lload_n 43 dX8_wordOf_42 rfl rfl ?_
      refine g_bipush (99) 45 dX8_wordOf_43 rfl (by decide) ?_
      refine g_bipush (117) 47 dX8_wordOf_45 rfl (by decide) ?_
      refine g_bipush (116) 49 dX8_wordOf_47 rfl (by decide) ?_
      refine g_iconst (0) 50 dX8_wordOf_49 rfl (by decide) ?_
      refine g_iconst (0) 51 dX8_wordOf_50 rfl (by decide) ?_
      refine g_s5 54 dX8_wordOf_51 rfl kl_X8_53 ms_X8_word ⟨Nat.le_of_ble_eq_true rfl, Nat.le_of_ble_eq_true rfl⟩ (Nat.le_of_ble_eq_true rfl) (m_word g l _ _ _ _ _ _) ?_
      rintro _ _ ⟨rfl, rfl⟩
      rw [wrd_c.2.2.1]
      refine g_lc_ne 62 58 dX8_wordOf_54 dX8_wordOf_55 rfl (by decide) (fun h54 => ?_) (fun h54 => ?_)
      · refine g_lload_n 63 dX8_wordOf_62 rfl rfl ?_
        refine g_bipush (116) 65 dX8_wordOf_63 rfl (by decide) ?_
        refine g_bipush (114) 67 dX8_wordOf_65 rfl (by decide) ?_
        refine g_bipush (105) 69 dX8_wordOf_67 rfl (by decide) ?_
        refine g_bipush (109) 71 dX8_wordOf_69 rfl (by decide) ?_
        refine g_iconst (0) 72 dX8_wordOf_71 rfl (by decide) ?_
        refine g_s5 75 dX8_wordOf_72 rfl kl_X8_53 ms_X8_word ⟨Nat.le_of_ble_eq_true rfl, Nat.le_of_ble_eq_true rfl⟩ (Nat.le_of_ble_eq_true rfl) (m_word g l _ _ _ _ _ _) ?_
        rintro _ _ ⟨rfl, rfl⟩
        rw [wrd_c.2.2.2.1]
        refine g_lc_ne 83 79 dX8_wordOf_75 dX8_wordOf_76 rfl (by decide) (fun h75 => ?_) (fun h75 => ?_)
        · refine g_lload_n 84 dX8_wordOf_83 rfl rfl ?_
          refine g_bipush (100) 86 dX8_wordOf_84 rfl (by decide) ?_
          refine g_bipush (114) 88 dX8_wordOf_86 rfl (by decide) ?_
          refine g_bipush (111) 90 dX8_wordOf_88 rfl (by decide) ?_
          refine g_bipush (112) 92 dX8_wordOf_90 rfl (by decide) ?_
          refine g_iconst (0) 93 dX8_wordOf_92 rfl (by decide) ?_
          refine g_s5 96 dX8_wordOf_93 rfl kl_X8_53 ms_X8_word ⟨Nat.le_of_ble_eq_true rfl, Nat.le_of_ble_eq_true rfl⟩ (Nat.le_of_ble_eq_true rfl) (m_word g l _ _ _ _ _ _) ?_
          rintro _ _ ⟨rfl, rfl⟩
          rw [wrd_c.2.2.2.2.1]
          refine g_lc_ne 104 100 dX8_wordOf_96 dX8_wordOf_97 rfl (by decide) (fun h96 => ?_) (fun h96 => ?_)
          · refine g_lload_n 105 dX8_wordOf_104 rfl rfl ?_
            refine g_bipush (115) 107 dX8_wordOf_105 rfl (by decide) ?_
            refine g_bipush (111) 109 dX8_wordOf_107 rfl (by decide) ?_
            refine g_iconst (0) 110 dX8_wordOf_109 rfl (by decide) ?_
            refine g_iconst (0) 111 dX8_wordOf_110 rfl (by decide) ?_
            refine g_iconst (0) 112 dX8_wordOf_111 rfl (by decide) ?_
            refine g_s5 115 dX8_wordOf_112 rfl kl_X8_53 ms_X8_word ⟨Nat.le_of_ble_eq_true rfl, Nat.le_of_ble_eq_true rfl⟩ (Nat.le_of_ble_eq_true rfl) (m_word g l _ _ _ _ _ _) ?_
            rintro _ _ ⟨rfl, rfl⟩
            rw [wrd_c.2.2.2.2.2.1]
            refine g_lc_ne 123 119 dX8_wordOf_115 dX8_wordOf_116 rfl (by decide) (fun h115 => ?_) (fun h115 => ?_)
            · refine g_lload_n 124 dX8_wordOf_123 rfl rfl ?_
              refine g_bipush (110) 126 dX8_wordOf_124 rfl (by decide) ?_
              refine g_bipush (111) 128 dX8_wordOf_126 rfl (by decide) ?_
              refine g_bipush (116) 130 dX8_wordOf_128 rfl (by decide) ?_
              refine g_iconst (0) 131 dX8_wordOf_130 rfl (by decide) ?_
              refine g_iconst (0) 132 dX8_wordOf_131 rfl (by decide) ?_
              refine g_s5 135 dX8_wordOf_132 rfl kl_X8_53 ms_X8_word ⟨Nat.le_of_ble_eq_true rfl, Nat.le_of_ble_eq_true rfl⟩ (Nat.le_of_ble_eq_true rfl) (m_word g l _ _ _ _ _ _) ?_
              rintro _ _ ⟨rfl, rfl⟩
              rw [wrd_c.2.2.2.2.2.2.1]
              refine g_lc_ne 144 139 dX8_wordOf_135 dX8_wordOf_136 rfl (by decide) (fun h135 => ?_) (fun h135 => ?_)
              · refine g_lload_n 145 dX8_wordOf_144 rfl rfl ?_
                refine g_bipush (99) 147 dX8_wordOf_145 rfl (by decide) ?_
                refine g_bipush (108) 149 dX8_wordOf_147 rfl (by decide) ?_
                refine g_bipush (97) 151 dX8_wordOf_149 rfl (by decide) ?_
                refine g_bipush (105) 153 dX8_wordOf_151 rfl (by decide) ?_
                refine g_bipush (109) 155 dX8_wordOf_153 rfl (by decide) ?_
                refine g_s5 158 dX8_wordOf_155 rfl kl_X8_53 ms_X8_word ⟨Nat.le_of_ble_eq_true rfl, Nat.le_of_ble_eq_true rfl⟩ (Nat.le_of_ble_eq_true rfl) (m_word g l _ _ _ _ _ _) ?_
                rintro _ _ ⟨rfl, rfl⟩
                rw [wrd_c.2.2.2.2.2.2.2]
                refine g_lc_ne 167 162 dX8_wordOf_158 dX8_wordOf_159 rfl (by decide) (fun h158 => ?_) (fun h158 => ?_)
                · refine g_bipush (-9) 169 dX8_wordOf_167 rfl (by decide) ?_
                  refine g_iret dX8_wordOf_169 ?_
                  exact ⟨by rw [wrd, if_neg h12, if_neg h34, if_neg h54, if_neg h75, if_neg h96, if_neg h115, if_neg h135, if_neg h158], rfl⟩
                · refine g_bipush (7) 164 dX8_wordOf_162 rfl (by decide) ?_
                  refine g_goto 169 dX8_wordOf_164 (by decide) ?_
                  refine g_iret dX8_wordOf_169 ?_
                  exact ⟨by rw [wrd, if_neg h12, if_neg h34, if_neg h54, if_neg h75, if_neg h96, if_neg h115, if_neg h135, if_pos h158], rfl⟩
              · refine g_bipush (6) 141 dX8_wordOf_139 rfl (by decide) ?_
                refine g_goto 169 dX8_wordOf_141 (by decide) ?_
                refine g_iret dX8_wordOf_169 ?_
                exact ⟨by rw [wrd, if_neg h12, if_neg h34, if_neg h54, if_neg h75, if_neg h96, if_neg h115, if_pos h135], rfl⟩
            · refine g_iconst (5) 120 dX8_wordOf_119 rfl (by decide) ?_
              refine g_goto 169 dX8_wordOf_120 (by decide) ?_
              refine g_iret dX8_wordOf_169 ?_
              exact ⟨by rw [wrd, if_neg h12, if_neg h34, if_neg h54, if_neg h75, if_neg h96, if_pos h115], rfl⟩
          · refine g_iconst (4) 101 dX8_wordOf_100 rfl (by decide) ?_
            refine g_goto 169 dX8_wordOf_101 (by decide) ?_
            refine g_iret dX8_wordOf_169 ?_
            exact ⟨by rw [wrd, if_neg h12, if_neg h34, if_neg h54, if_neg h75, if_pos h96], rfl⟩
        · refine g_iconst (3) 80 dX8_wordOf_79 rfl (by decide) ?_
          refine g_goto 169 dX8_wordOf_80 (by decide) ?_
          refine g_iret dX8_wordOf_169 ?_
          exact ⟨by rw [wrd, if_neg h12, if_neg h34, if_neg h54, if_pos h75], rfl⟩
      · refine g_iconst (2) 59 dX8_wordOf_58 rfl (by decide) ?_
        refine g_goto 169 dX8_wordOf_59 (by decide) ?_
        refine g_iret dX8_wordOf_169 ?_
        exact ⟨by rw [wrd, if_neg h12, if_neg h34, if_pos h54], rfl⟩
    · refine g_iconst (1) 39 dX8_wordOf_38 rfl (by decide) ?_
      refine g_goto 169 dX8_wordOf_39 (by decide) ?_
      refine g_iret dX8_wordOf_169 ?_
      exact ⟨by rw [wrd, if_neg h12, if_pos h34], rfl⟩
  · refine g_iconst (0) 17 dX8_wordOf_16 rfl (by decide) ?_
    refine g_goto 169 dX8_wordOf_17 (by decide) ?_
    refine g_iret dX8_wordOf_169 ?_
    exact ⟨by rw [wrd, if_pos h12], rfl⟩

def skp (tb : Nat → Int32) : Nat → Nat → Nat
  | 0, a => a
  | n + 1, a => if tb a = 32 then skp tb n (a + 1) else a
theorem skp_le {tb : Nat → Int32} {len : Nat} (h : ∀ q, len ≤ q → ¬ tb q = 32) : ∀ {n a : Nat}, a ≤ len → a ≤ skp tb n a ∧ skp tb n a ≤ len
  | 0, a, ha => ⟨Nat.le_refl _, ha⟩
  | n + 1, a, ha => by
    rw [skp]
    by_cases q : tb a = 32
    · rw [if_pos q]
      have : a < len := Nat.lt_of_not_le (fun z => h a z q)
      have := skp_le h (n := n) (a := a + 1) (by omega)
      omega
    · rw [if_neg q]; exact ⟨Nat.le_refl _, ha⟩
theorem skp_no {tb : Nat → Int32} {len : Nat} (h : ∀ q, len ≤ q → ¬ tb q = 32) : ∀ {n a : Nat}, len ≤ a + n → a ≤ len → ¬ tb (skp tb n a) = 32
  | 0, a, h1, h2 => h a (by omega)
  | n + 1, a, h1, h2 => by
    rw [skp]
    by_cases q : tb a = 32
    · rw [if_pos q]
      have : a < len := Nat.lt_of_not_le (fun z => h a z q)
      exact skp_no h (by omega) (by omega)
    · rw [if_neg q]; exact q
/-- the reference's token in the words of the class -/
def kR (tk vl K V : Int32) : Prop := (K = 8 ∧ tk = 8) ∨ (K = 1 ∧ tk = 1 ∧ vl = V) ∨ (K = 7 ∧ tk = 2 ∧ vl + 1 = V) ∨ (K = 2 ∧ tk = 3 ∧ vl = V) ∨ (K = 3 ∧ tk = 4) ∨ (K = 4 ∧ tk = 5) ∨ (K = 5 ∧ tk = 6) ∨ (K = 6 ∧ tk = 7) ∨ (K = 0 ∧ tk = 0)
def advP (tb : Nat → Int32) (len m : Nat) (nx tk vl : Int32) : Prop := (len ≤ m → tk = 0) ∧ (m < len → kR tk vl (tok1 tb len m).1 (tok1 tb len m).2.1 ∧ (¬ (tok1 tb len m).1 = 8 → nx = nI (tok1 tb len m).2.2))
def advZ (F : Nat → Nat → Int32) (J : Nat → Int64) (len m : Nat) (fl : Int32) : Option Value → Sg → Prop := fun r S2 => r = none ∧ ∃ nx tk vl, S2 = St (mt F nx tk (nI m) vl fl) J ∧ advP (bm F len) len m nx tk vl
def we5 (tb : Nat → Int32) (m : Nat) : Nat → Int64
  | 0 => 0
  | k + 1 => if k < 5 then addM (we5 tb m k) (tb (m + k)) else we5 tb m k
/-- what the reference makes of a word of k letters -/
def tkWm (tb : Nat → Int32) (m k : Nat) : Int32 × Int32 := if k = 1 then ((if 103 ≤ tb m then 8 else 1), tb m - 97) else if 5 < k then (8, -9) else ((if wrd (we5 tb m k) = -9 then 8 else 2), wrd (we5 tb m k))
def nvM (tb : Nat → Int32) : Nat → Nat → Int32 → Int32 × Nat
  | 0, m, x => (x, m)
  | n + 1, m, x => if isDg (tb m) then nvM tb n (m + 1) (if 999 < x then x else 10 * x + tb m - 48) else (x, m)
theorem nvM_no {tb : Nat → Int32} {n m : Nat} {x : Int32} (h : ¬ isDg (tb m)) : nvM tb n m x = (x, m) := by
  cases n with
  | zero => rfl
  | succ n => rw [nvM, if_neg h]
theorem nvM_le {tb : Nat → Int32} {len : Nat} (h : ∀ m, len ≤ m → ¬ isDg (tb m)) : ∀ {n m : Nat} {x : Int32}, m ≤ len → m ≤ (nvM tb n m x).2 ∧ (nvM tb n m x).2 ≤ len := by
  intro n
  induction n with
  | zero => intro m x hm; exact ⟨Nat.le_refl _, hm⟩
  | succ n ih =>
    intro m x hm
    rw [nvM]
    by_cases q : isDg (tb m)
    · rw [if_pos q]
      have : m < len := Nat.lt_of_not_le (fun z => h m z q)
      have := ih (m := m + 1) (x := if 999 < x then x else 10 * x + tb m - 48) (by omega)
      omega
    · rw [if_neg q]; exact ⟨Nat.le_refl _, hm⟩
theorem bm_sm (F : Nat → Nat → Int32) (len m : Nat) (h : len ≤ m) : ¬ isSm (bm F len m) := by rw [bm_no h]; decide
theorem bm_dg (F : Nat → Nat → Int32) (len m : Nat) (h : len ≤ m) : ¬ isDg (bm F len m) := by rw [bm_no h]; decide
theorem bm_sp (F : Nat → Nat → Int32) (len m : Nat) (h : len ≤ m) : ¬ bm F len m = 32 := by rw [bm_no h]; decide
theorem isSm_c {x : Int32} : (¬ x < 97 ∧ ¬ 122 < x) ↔ isSm x := Iff.rfl
set_option maxRecDepth 100000 in
set_option maxHeartbeats 4000000 in
theorem lm_skip (g : Gl) (l : Launch) {zc : Option Value → Sg → Prop} (F : Nat → Nat → Int32) (J : Nat → Int64) {len : Nat} (hl : F 167 2 = nI len) (hlen : len ≤ 400) (tk pl vl fl : Int32) (x1 x2 x3 x4 : Option Value) (e : Nat) {XX : State → Method → Prop} (n : Nat) : ∀ (a : Nat) (ax : Int32), len ≤ a + n → a ≤ len → ax = nI a → e = skp (bm F len) n a → (Gj g l (rmd 3 0 0) XX (QM g zc 0 0) RX8 cX8_advances 5 none 26 [some (.ref 167), x1, x2, x3, x4] [] (St (mt F (nI e) tk pl vl fl) J) 0 0) → Gj g l (rmd 3 0 0) XX (QM g zc 0 0) RX8 cX8_advances 5 none 0 [some (.ref 167), x1, x2, x3, x4] [] (St (mt F ax tk pl vl fl) J) 0 0 := by
  induction n with
  | zero =>
    intro a ax ha hb hx he kk
    subst hx
    have he2 : e = a := he
    subst he2
    refine g_aload_n 1 dX8_advances_0 rfl rfl ?_
    refine g_aload_n 2 dX8_advances_1 rfl rfl ?_
    refine gf_8_3 5 dX8_advances_2 rfl kf_X8_57 (by first | decide | assumption | exact ⟨Nat.le_of_ble_eq_true rfl, rfl⟩) ?_
    refine gst_at (x2 := nI e) rfl ?_
    refine g_v1 8 8 dX8_advances_5 rfl kl_X8_60 mv_X8_byteAt rfl ⟨Nat.le_of_ble_eq_true rfl, Nat.le_of_ble_eq_true rfl⟩ (Nat.le_of_ble_eq_true rfl) (by first | decide | assumption | exact ⟨Nat.le_of_ble_eq_true rfl, rfl⟩) (m_byteT g l F J _ _ _ _ _ hl hlen (e) (by omega)) ?_
    rintro _ _ ⟨rfl, rfl⟩
    refine g_bipush (32) 10 dX8_advances_8 rfl (by decide) ?_
    refine g_icmp_ne 26 13 dX8_advances_10 rfl (by decide) (fun h10 => ?_) (fun h10 => ?_)
    · exact kk
    · exact absurd h10 (bm_sp F len e (by omega))
  | succ n ih =>
    intro a ax ha hb hx he kk
    subst hx
    refine g_aload_n 1 dX8_advances_0 rfl rfl ?_
    refine g_aload_n 2 dX8_advances_1 rfl rfl ?_
    refine gf_8_3 5 dX8_advances_2 rfl kf_X8_57 (by first | decide | assumption | exact ⟨Nat.le_of_ble_eq_true rfl, rfl⟩) ?_
    refine gst_at (x2 := nI a) rfl ?_
    refine g_v1 8 8 dX8_advances_5 rfl kl_X8_60 mv_X8_byteAt rfl ⟨Nat.le_of_ble_eq_true rfl, Nat.le_of_ble_eq_true rfl⟩ (Nat.le_of_ble_eq_true rfl) (by first | decide | assumption | exact ⟨Nat.le_of_ble_eq_true rfl, rfl⟩) (m_byteT g l F J _ _ _ _ _ hl hlen (a) (by omega)) ?_
    rintro _ _ ⟨rfl, rfl⟩
    refine g_bipush (32) 10 dX8_advances_8 rfl (by decide) ?_
    refine g_icmp_ne 26 13 dX8_advances_10 rfl (by decide) (fun h10 => ?_) (fun h10 => ?_)
    · obtain rfl : e = a := by rw [he, skp, if_neg h10]
      exact kk
    · refine g_aload_n 14 dX8_advances_13 rfl rfl ?_
      refine g_dup 15 dX8_advances_14 rfl rfl ?_
      refine gf_8_3 18 dX8_advances_15 rfl kf_X8_57 (by first | decide | assumption | exact ⟨Nat.le_of_ble_eq_true rfl, rfl⟩) ?_
      refine gst_at (x2 := nI a) rfl ?_
      refine g_iconst (1) 19 dX8_advances_18 rfl (by decide) ?_
      refine g_iadd 20 dX8_advances_19 rfl ?_
      refine gp_8_3 23 dX8_advances_20 rfl kf_X8_57 (by first | decide | assumption | exact ⟨Nat.le_of_ble_eq_true rfl, rfl⟩) ?_
      refine gs_at (congrArg (fun x => St x J) mt_3) ?_
      refine g_goto 0 dX8_advances_23 (by decide) ?_
      exact ih (a + 1) _ (by omega) (Nat.lt_of_not_le (fun z => bm_sp F len a z h10)) (nI_1 a) (by rw [he, skp, if_pos h10]) kk

set_option maxRecDepth 100000 in
set_option maxHeartbeats 4000000 in
theorem lm_word (g : Gl) (l : Launch) {zc : Option Value → Sg → Prop} (F : Nat → Nat → Int32) (J : Nat → Int64) {len : Nat} (hl : F 167 2 = nI len) (hlen : len ≤ 400) {m : Nat} (hm : m < len) (tk pl vl fl : Int32) (e : Nat) {XX : State → Method → Prop} (n : Nat) : ∀ (k : Nat) (bx kx : Int32) (v : Int64), len ≤ m + k + n → m + k ≤ len → bx = nI (m + k) → kx = nI k → v = we5 (bm F len) m k → e = wend (bm F len) n (m + k) → (∀ k, e = m + k → Gj g l (rmd 3 0 0) XX (QM g zc 0 0) RX8 cX8_advances 5 none 128 [some (.ref 167), some (.int (bm F len m)), some (.long (we5 (bm F len) m k)), none, some (.int (nI k))] [] (St (mt F (nI e) tk pl vl fl) J) 0 0) → Gj g l (rmd 3 0 0) XX (QM g zc 0 0) RX8 cX8_advances 5 none 71 [some (.ref 167), some (.int (bm F len m)), some (.long v), none, some (.int kx)] [] (St (mt F bx tk pl vl fl) J) 0 0 := by
  induction n with
  | zero =>
    intro k bx kx v ha hb hx hk hv he kk
    subst hx; subst hk; subst hv
    have he2 : e = m + k := he
    refine g_aload_n 72 dX8_advances_71 rfl rfl ?_
    refine g_aload_n 73 dX8_advances_72 rfl rfl ?_
    refine gf_8_3 76 dX8_advances_73 rfl kf_X8_57 (by first | decide | assumption | exact ⟨Nat.le_of_ble_eq_true rfl, rfl⟩) ?_
    refine gst_at (x2 := nI (m + k)) rfl ?_
    refine g_v1 8 79 dX8_advances_76 rfl kl_X8_60 mv_X8_byteAt rfl ⟨Nat.le_of_ble_eq_true rfl, Nat.le_of_ble_eq_true rfl⟩ (Nat.le_of_ble_eq_true rfl) (by first | decide | assumption | exact ⟨Nat.le_of_ble_eq_true rfl, rfl⟩) (m_byteT g l F J _ _ _ _ _ hl hlen (m + k) (by omega)) ?_
    rintro _ _ ⟨rfl, rfl⟩
    refine g_bipush (97) 81 dX8_advances_79 rfl (by decide) ?_
    refine g_bipush (122) 83 dX8_advances_81 rfl (by decide) ?_
    refine g_s3 86 dX8_advances_83 rfl kl_X8_38 ms_X8_in ⟨Nat.le_of_ble_eq_true rfl, Nat.le_of_ble_eq_true rfl⟩ (Nat.le_of_ble_eq_true rfl) (m_in g l _ _ _ _) ?_
    rintro _ _ ⟨rfl, rfl⟩
    refine g_if_eq 128 89 dX8_advances_86 rfl (by decide) (fun h86 => ?_) (fun h86 => ?_)
    · subst he2
      exact kk k rfl
    · exact absurd (b10n h86) (bm_sm F len (m + k) (by omega))
  | succ n ih =>
    intro k bx kx v ha hb hx hk hv he kk
    subst hx; subst hk; subst hv
    refine g_aload_n 72 dX8_advances_71 rfl rfl ?_
    refine g_aload_n 73 dX8_advances_72 rfl rfl ?_
    refine gf_8_3 76 dX8_advances_73 rfl kf_X8_57 (by first | decide | assumption | exact ⟨Nat.le_of_ble_eq_true rfl, rfl⟩) ?_
    refine gst_at (x2 := nI (m + k)) rfl ?_
    refine g_v1 8 79 dX8_advances_76 rfl kl_X8_60 mv_X8_byteAt rfl ⟨Nat.le_of_ble_eq_true rfl, Nat.le_of_ble_eq_true rfl⟩ (Nat.le_of_ble_eq_true rfl) (by first | decide | assumption | exact ⟨Nat.le_of_ble_eq_true rfl, rfl⟩) (m_byteT g l F J _ _ _ _ _ hl hlen (m + k) (by omega)) ?_
    rintro _ _ ⟨rfl, rfl⟩
    refine g_bipush (97) 81 dX8_advances_79 rfl (by decide) ?_
    refine g_bipush (122) 83 dX8_advances_81 rfl (by decide) ?_
    refine g_s3 86 dX8_advances_83 rfl kl_X8_38 ms_X8_in ⟨Nat.le_of_ble_eq_true rfl, Nat.le_of_ble_eq_true rfl⟩ (Nat.le_of_ble_eq_true rfl) (m_in g l _ _ _ _) ?_
    rintro _ _ ⟨rfl, rfl⟩
    refine g_if_eq 128 89 dX8_advances_86 rfl (by decide) (fun h86 => ?_) (fun h86 => ?_)
    · have he2 : e = m + k := by rw [he, wend, if_neg (fun z => b10.mp h86 z)]
      subst he2
      exact kk k rfl
    · refine g_iload 91 dX8_advances_89 rfl rfl ?_
      refine g_iconst (5) 92 dX8_advances_91 rfl (by decide) ?_
      refine g_icmp_ge 110 95 dX8_advances_92 rfl (by decide) (fun h92 => ?_) (fun h92 => ?_)
      · refine g_lload_n 111 dX8_advances_110 rfl rfl ?_
        refine g_lstore_n 112 dX8_advances_111 rfl (by decide) ?_
        refine g_iinc (1) 115 dX8_advances_112 rfl (by decide) (by decide) rfl ?_
        refine g_aload_n 116 dX8_advances_115 rfl rfl ?_
        refine g_dup 117 dX8_advances_116 rfl rfl ?_
        refine gf_8_3 120 dX8_advances_117 rfl kf_X8_57 (by first | decide | assumption | exact ⟨Nat.le_of_ble_eq_true rfl, rfl⟩) ?_
        refine gst_at (x2 := nI (m + k)) rfl ?_
        refine g_iconst (1) 121 dX8_advances_120 rfl (by decide) ?_
        refine g_iadd 122 dX8_advances_121 rfl ?_
        refine gp_8_3 125 dX8_advances_122 rfl kf_X8_57 (by first | decide | assumption | exact ⟨Nat.le_of_ble_eq_true rfl, rfl⟩) ?_
        refine gs_at (congrArg (fun x => St x J) mt_3) ?_
        refine g_goto 71 dX8_advances_125 (by decide) ?_
        exact ih (k + 1) _ _ _ (by omega) (Nat.lt_of_not_le (fun z => bm_sm F len (m + k) z (b10n h86))) (nI_1 (m + k)) (nI_1 k) (by rw [we5, if_neg (fun z => nI_ge (a := k) (b := 5) z (by decide) h92)]) (by rw [he, wend, if_pos (b10n h86)]; rfl) kk
      · refine g_lload_n 96 dX8_advances_95 rfl rfl ?_
        refine g_aload_n 97 dX8_advances_96 rfl rfl ?_
        refine g_aload_n 98 dX8_advances_97 rfl rfl ?_
        refine gf_8_3 101 dX8_advances_98 rfl kf_X8_57 (by first | decide | assumption | exact ⟨Nat.le_of_ble_eq_true rfl, rfl⟩) ?_
        refine gst_at (x2 := nI (m + k)) rfl ?_
        refine g_v1 8 104 dX8_advances_101 rfl kl_X8_60 mv_X8_byteAt rfl ⟨Nat.le_of_ble_eq_true rfl, Nat.le_of_ble_eq_true rfl⟩ (Nat.le_of_ble_eq_true rfl) (by first | decide | assumption | exact ⟨Nat.le_of_ble_eq_true rfl, rfl⟩) (m_byteT g l F J _ _ _ _ _ hl hlen (m + k) (by omega)) ?_
        rintro _ _ ⟨rfl, rfl⟩
        refine g_s2 107 dX8_advances_104 rfl kl_X8_49 ms_X8_add ⟨Nat.le_of_ble_eq_true rfl, Nat.le_of_ble_eq_true rfl⟩ (Nat.le_of_ble_eq_true rfl) (m_add g l _ _ _) ?_
        rintro _ _ ⟨rfl, rfl⟩
        refine g_goto 111 dX8_advances_107 (by decide) ?_
        refine g_lstore_n 112 dX8_advances_111 rfl (by decide) ?_
        refine g_iinc (1) 115 dX8_advances_112 rfl (by decide) (by decide) rfl ?_
        refine g_aload_n 116 dX8_advances_115 rfl rfl ?_
        refine g_dup 117 dX8_advances_116 rfl rfl ?_
        refine gf_8_3 120 dX8_advances_117 rfl kf_X8_57 (by first | decide | assumption | exact ⟨Nat.le_of_ble_eq_true rfl, rfl⟩) ?_
        refine gst_at (x2 := nI (m + k)) rfl ?_
        refine g_iconst (1) 121 dX8_advances_120 rfl (by decide) ?_
        refine g_iadd 122 dX8_advances_121 rfl ?_
        refine gp_8_3 125 dX8_advances_122 rfl kf_X8_57 (by first | decide | assumption | exact ⟨Nat.le_of_ble_eq_true rfl, rfl⟩) ?_
        refine gs_at (congrArg (fun x => St x J) mt_3) ?_
        refine g_goto 71 dX8_advances_125 (by decide) ?_
        exact ih (k + 1) _ _ _ (by omega) (Nat.lt_of_not_le (fun z => bm_sm F len (m + k) z (b10n h86))) (nI_1 (m + k)) (nI_1 k) (by rw [we5, if_pos (Nat.lt_of_not_le (fun z => h92 (nI_le (a := 5) z (by omega))))]) (by rw [he, wend, if_pos (b10n h86)]; rfl) kk

set_option maxRecDepth 100000 in
set_option maxHeartbeats 4000000 in
theorem ex_word (g : Gl) (l : Launch) {zc : Option Value → Sg → Prop} (F : Nat → Nat → Int32) (J : Nat → Int64) {len : Nat} (hl : F 167 2 = nI len) (hlen : len ≤ 400) {m k : Nat} (hm : m < len) (hk : m + k ≤ len) (tk vl fl : Int32) {XX : State → Method → Prop} (kk : ∀ t v, tkWm (bm F len) m k = (t, v) → zc none (St (mt F (nI (m + k)) t (nI m) v fl) J)) : Gj g l (rmd 3 0 0) XX (QM g zc 0 0) RX8 cX8_advances 5 none 128 [some (.ref 167), some (.int (bm F len m)), some (.long (we5 (bm F len) m k)), none, some (.int (nI k))] [] (St (mt F (nI (m + k)) tk (nI m) vl fl) J) 0 0 := by
  refine g_aload_n 129 dX8_advances_128 rfl rfl ?_
  refine g_iload 131 dX8_advances_129 rfl rfl ?_
  refine g_iconst (1) 132 dX8_advances_131 rfl (by decide) ?_
  refine g_icmp_ne 142 135 dX8_advances_132 rfl (by decide) (fun h132 => ?_) (fun h132 => ?_)
  · refine g_iload 144 dX8_advances_142 rfl rfl ?_
    refine g_iconst (5) 145 dX8_advances_144 rfl (by decide) ?_
    refine g_icmp_le 153 148 dX8_advances_145 rfl (by decide) (fun h145 => ?_) (fun h145 => ?_)
    · refine g_lload_n 154 dX8_advances_153 rfl rfl ?_
      refine g_s1 157 dX8_advances_154 rfl kl_X8_70 ms_X8_wordOf ⟨Nat.le_of_ble_eq_true rfl, Nat.le_of_ble_eq_true rfl⟩ (Nat.le_of_ble_eq_true rfl) (m_wordOf g l _ _) ?_
      rintro _ _ ⟨rfl, rfl⟩
      refine gp_8_6 160 dX8_advances_157 rfl kf_X8_74 (by first | decide | assumption | exact ⟨Nat.le_of_ble_eq_true rfl, rfl⟩) ?_
      refine gs_at (congrArg (fun x => St x J) mt_6) ?_
      refine g_aload_n 161 dX8_advances_160 rfl rfl ?_
      refine g_iload 163 dX8_advances_161 rfl rfl ?_
      refine g_iconst (1) 164 dX8_advances_163 rfl (by decide) ?_
      refine g_icmp_ne 182 167 dX8_advances_164 rfl (by decide) (fun h164 => ?_) (fun h164 => ?_)
      · refine g_aload_n 183 dX8_advances_182 rfl rfl ?_
        refine gf_8_6 186 dX8_advances_183 rfl kf_X8_74 (by first | decide | assumption | exact ⟨Nat.le_of_ble_eq_true rfl, rfl⟩) ?_
        refine g_bipush (-9) 188 dX8_advances_186 rfl (by decide) ?_
        refine g_icmp_ne 196 191 dX8_advances_188 rfl (by decide) (fun h188 => ?_) (fun h188 => ?_)
        · refine g_iconst (2) 197 dX8_advances_196 rfl (by decide) ?_
          refine gp_8_4 200 dX8_advances_197 rfl kf_X8_67 (by first | decide | assumption | exact ⟨Nat.le_of_ble_eq_true rfl, rfl⟩) ?_
          refine gs_at (congrArg (fun x => St x J) mt_4) ?_
          refine g_goto 432 dX8_advances_200 (by decide) ?_
          refine g_vret dX8_advances_432 ?_
          have hk1 : ¬ k = 1 := fun z => h132 (by rw [z]; rfl)
          have hk5 : ¬ 5 < k := fun z => nI_ge (a := 5) (b := k) z (by omega) h145
          refine kk _ _ ?_
          rw [tkWm, if_neg hk1, if_neg hk5, if_neg (show ¬ wrd (we5 (bm F len) m k) = -9 from h188)]
        · refine g_bipush (8) 193 dX8_advances_191 rfl (by decide) ?_
          refine g_goto 197 dX8_advances_193 (by decide) ?_
          refine gp_8_4 200 dX8_advances_197 rfl kf_X8_67 (by first | decide | assumption | exact ⟨Nat.le_of_ble_eq_true rfl, rfl⟩) ?_
          refine gs_at (congrArg (fun x => St x J) mt_4) ?_
          refine g_goto 432 dX8_advances_200 (by decide) ?_
          refine g_vret dX8_advances_432 ?_
          have hk1 : ¬ k = 1 := fun z => h132 (by rw [z]; rfl)
          have hk5 : ¬ 5 < k := fun z => nI_ge (a := 5) (b := k) z (by omega) h145
          refine kk _ _ ?_
          rw [tkWm, if_neg hk1, if_neg hk5, if_pos (show wrd (we5 (bm F len) m k) = -9 from h188)]
      · exact absurd h164 h132
    · refine g_bipush (-9) 150 dX8_advances_148 rfl (by decide) ?_
      refine g_goto 157 dX8_advances_150 (by decide) ?_
      refine gp_8_6 160 dX8_advances_157 rfl kf_X8_74 (by first | decide | assumption | exact ⟨Nat.le_of_ble_eq_true rfl, rfl⟩) ?_
      refine gs_at (congrArg (fun x => St x J) mt_6) ?_
      refine g_aload_n 161 dX8_advances_160 rfl rfl ?_
      refine g_iload 163 dX8_advances_161 rfl rfl ?_
      refine g_iconst (1) 164 dX8_advances_163 rfl (by decide) ?_
      refine g_icmp_ne 182 167 dX8_advances_164 rfl (by decide) (fun h164 => ?_) (fun h164 => ?_)
      · refine g_aload_n 183 dX8_advances_182 rfl rfl ?_
        refine gf_8_6 186 dX8_advances_183 rfl kf_X8_74 (by first | decide | assumption | exact ⟨Nat.le_of_ble_eq_true rfl, rfl⟩) ?_
        refine g_bipush (-9) 188 dX8_advances_186 rfl (by decide) ?_
        refine g_icmp_ne 196 191 dX8_advances_188 rfl (by decide) (fun h188 => ?_) (fun h188 => ?_)
        · exact absurd rfl h188
        · refine g_bipush (8) 193 dX8_advances_191 rfl (by decide) ?_
          refine g_goto 197 dX8_advances_193 (by decide) ?_
          refine gp_8_4 200 dX8_advances_197 rfl kf_X8_67 (by first | decide | assumption | exact ⟨Nat.le_of_ble_eq_true rfl, rfl⟩) ?_
          refine gs_at (congrArg (fun x => St x J) mt_4) ?_
          refine g_goto 432 dX8_advances_200 (by decide) ?_
          refine g_vret dX8_advances_432 ?_
          have hk1 : ¬ k = 1 := fun z => h132 (by rw [z]; rfl)
          have hk5 : 5 < k := Nat.lt_of_not_le (fun z => h145 (nI_le (b := 5) z (by decide)))
          refine kk _ _ ?_
          rw [tkWm, if_neg hk1, if_pos hk5]
      · exact absurd h164 h132
  · refine g_iload_n 136 dX8_advances_135 rfl rfl ?_
    refine g_bipush (97) 138 dX8_advances_136 rfl (by decide) ?_
    refine g_isub 139 dX8_advances_138 rfl ?_
    refine g_goto 157 dX8_advances_139 (by decide) ?_
    refine gp_8_6 160 dX8_advances_157 rfl kf_X8_74 (by first | decide | assumption | exact ⟨Nat.le_of_ble_eq_true rfl, rfl⟩) ?_
    refine gs_at (congrArg (fun x => St x J) mt_6) ?_
    refine g_aload_n 161 dX8_advances_160 rfl rfl ?_
    refine g_iload 163 dX8_advances_161 rfl rfl ?_
    refine g_iconst (1) 164 dX8_advances_163 rfl (by decide) ?_
    refine g_icmp_ne 182 167 dX8_advances_164 rfl (by decide) (fun h164 => ?_) (fun h164 => ?_)
    · exact absurd h132 h164
    · refine g_iload_n 168 dX8_advances_167 rfl rfl ?_
      refine g_bipush (103) 170 dX8_advances_168 rfl (by decide) ?_
      refine g_icmp_ge 177 173 dX8_advances_170 rfl (by decide) (fun h170 => ?_) (fun h170 => ?_)
      · refine g_bipush (8) 179 dX8_advances_177 rfl (by decide) ?_
        refine g_goto 197 dX8_advances_179 (by decide) ?_
        refine gp_8_4 200 dX8_advances_197 rfl kf_X8_67 (by first | decide | assumption | exact ⟨Nat.le_of_ble_eq_true rfl, rfl⟩) ?_
        refine gs_at (congrArg (fun x => St x J) mt_4) ?_
        refine g_goto 432 dX8_advances_200 (by decide) ?_
        refine g_vret dX8_advances_432 ?_
        have hk1 : k = 1 := (nI_eq (by omega) (by decide)).mp h132
        refine kk _ _ ?_
        rw [tkWm, if_pos hk1, if_pos h170]
      · refine g_iconst (1) 174 dX8_advances_173 rfl (by decide) ?_
        refine g_goto 197 dX8_advances_174 (by decide) ?_
        refine gp_8_4 200 dX8_advances_197 rfl kf_X8_67 (by first | decide | assumption | exact ⟨Nat.le_of_ble_eq_true rfl, rfl⟩) ?_
        refine gs_at (congrArg (fun x => St x J) mt_4) ?_
        refine g_goto 432 dX8_advances_200 (by decide) ?_
        refine g_vret dX8_advances_432 ?_
        have hk1 : k = 1 := (nI_eq (by omega) (by decide)).mp h132
        refine kk _ _ ?_
        rw [tkWm, if_pos hk1, if_neg h170]

set_option maxRecDepth 100000 in
set_option maxHeartbeats 4000000 in
theorem lm_num (g : Gl) (l : Launch) {zc : Option Value → Sg → Prop} (F : Nat → Nat → Int32) (J : Nat → Int64) {len : Nat} (hl : F 167 2 = nI len) (hlen : len ≤ 400) {m : Nat} (hm : m < len) (tk pl fl : Int32) (x2 x3 x4 : Option Value) (ee : Int32 × Nat) {XX : State → Method → Prop} (n : Nat) : ∀ (b : Nat) (bx vl : Int32), len ≤ b + n → m ≤ b → b ≤ len → bx = nI b → ee = nvM (bm F len) n b vl → (Gj g l (rmd 3 0 0) XX (QM g zc 0 0) RX8 cX8_advances 5 none 290 [some (.ref 167), some (.int (bm F len m)), x2, x3, x4] [] (St (mt F (nI ee.2) tk pl ee.1 fl) J) 0 0) → Gj g l (rmd 3 0 0) XX (QM g zc 0 0) RX8 cX8_advances 5 none 219 [some (.ref 167), some (.int (bm F len m)), x2, x3, x4] [] (St (mt F bx tk pl vl fl) J) 0 0 := by
  induction n with
  | zero =>
    intro b bx vl ha hmb hb hx he kk
    subst hx
    have he2 : ee = (vl, b) := he
    subst he2
    refine g_aload_n 220 dX8_advances_219 rfl rfl ?_
    refine g_aload_n 221 dX8_advances_220 rfl rfl ?_
    refine gf_8_3 224 dX8_advances_221 rfl kf_X8_57 (by first | decide | assumption | exact ⟨Nat.le_of_ble_eq_true rfl, rfl⟩) ?_
    refine gst_at (x2 := nI b) rfl ?_
    refine g_v1 8 227 dX8_advances_224 rfl kl_X8_60 mv_X8_byteAt rfl ⟨Nat.le_of_ble_eq_true rfl, Nat.le_of_ble_eq_true rfl⟩ (Nat.le_of_ble_eq_true rfl) (by first | decide | assumption | exact ⟨Nat.le_of_ble_eq_true rfl, rfl⟩) (m_byteT g l F J _ _ _ _ _ hl hlen (b) (by omega)) ?_
    rintro _ _ ⟨rfl, rfl⟩
    refine g_bipush (48) 229 dX8_advances_227 rfl (by decide) ?_
    refine g_bipush (57) 231 dX8_advances_229 rfl (by decide) ?_
    refine g_s3 234 dX8_advances_231 rfl kl_X8_38 ms_X8_in ⟨Nat.le_of_ble_eq_true rfl, Nat.le_of_ble_eq_true rfl⟩ (Nat.le_of_ble_eq_true rfl) (m_in g l _ _ _ _) ?_
    rintro _ _ ⟨rfl, rfl⟩
    refine g_if_eq 290 237 dX8_advances_234 rfl (by decide) (fun h234 => ?_) (fun h234 => ?_)
    · exact kk
    · exact absurd (b10n h234) (bm_dg F len b (by omega))
  | succ n ih =>
    intro b bx vl ha hmb hb hx he kk
    subst hx
    refine g_aload_n 220 dX8_advances_219 rfl rfl ?_
    refine g_aload_n 221 dX8_advances_220 rfl rfl ?_
    refine gf_8_3 224 dX8_advances_221 rfl kf_X8_57 (by first | decide | assumption | exact ⟨Nat.le_of_ble_eq_true rfl, rfl⟩) ?_
    refine gst_at (x2 := nI b) rfl ?_
    refine g_v1 8 227 dX8_advances_224 rfl kl_X8_60 mv_X8_byteAt rfl ⟨Nat.le_of_ble_eq_true rfl, Nat.le_of_ble_eq_true rfl⟩ (Nat.le_of_ble_eq_true rfl) (by first | decide | assumption | exact ⟨Nat.le_of_ble_eq_true rfl, rfl⟩) (m_byteT g l F J _ _ _ _ _ hl hlen (b) (by omega)) ?_
    rintro _ _ ⟨rfl, rfl⟩
    refine g_bipush (48) 229 dX8_advances_227 rfl (by decide) ?_
    refine g_bipush (57) 231 dX8_advances_229 rfl (by decide) ?_
    refine g_s3 234 dX8_advances_231 rfl kl_X8_38 ms_X8_in ⟨Nat.le_of_ble_eq_true rfl, Nat.le_of_ble_eq_true rfl⟩ (Nat.le_of_ble_eq_true rfl) (m_in g l _ _ _ _) ?_
    rintro _ _ ⟨rfl, rfl⟩
    refine g_if_eq 290 237 dX8_advances_234 rfl (by decide) (fun h234 => ?_) (fun h234 => ?_)
    · have he2 : ee = (vl, b) := by rw [he, nvM, if_neg (fun z => b10.mp h234 z)]
      subst he2
      exact kk
    · refine g_aload_n 238 dX8_advances_237 rfl rfl ?_
      refine g_aload_n 239 dX8_advances_238 rfl rfl ?_
      refine gf_8_6 242 dX8_advances_239 rfl kf_X8_74 (by first | decide | assumption | exact ⟨Nat.le_of_ble_eq_true rfl, rfl⟩) ?_
      refine gst_at (x2 := vl) rfl ?_
      refine g_sipush (999) 245 dX8_advances_242 rfl (by decide) ?_
      refine g_icmp_le 255 248 dX8_advances_245 rfl (by decide) (fun h245 => ?_) (fun h245 => ?_)
      · refine g_bipush (10) 257 dX8_advances_255 rfl (by decide) ?_
        refine g_aload_n 258 dX8_advances_257 rfl rfl ?_
        refine gf_8_6 261 dX8_advances_258 rfl kf_X8_74 (by first | decide | assumption | exact ⟨Nat.le_of_ble_eq_true rfl, rfl⟩) ?_
        refine gst_at (x2 := vl) rfl ?_
        refine g_imul 262 dX8_advances_261 rfl ?_
        refine g_aload_n 263 dX8_advances_262 rfl rfl ?_
        refine g_aload_n 264 dX8_advances_263 rfl rfl ?_
        refine gf_8_3 267 dX8_advances_264 rfl kf_X8_57 (by first | decide | assumption | exact ⟨Nat.le_of_ble_eq_true rfl, rfl⟩) ?_
        refine gst_at (x2 := nI b) rfl ?_
        refine g_v1 8 270 dX8_advances_267 rfl kl_X8_60 mv_X8_byteAt rfl ⟨Nat.le_of_ble_eq_true rfl, Nat.le_of_ble_eq_true rfl⟩ (Nat.le_of_ble_eq_true rfl) (by first | decide | assumption | exact ⟨Nat.le_of_ble_eq_true rfl, rfl⟩) (m_byteT g l F J _ _ _ _ _ hl hlen (b) (by omega)) ?_
        rintro _ _ ⟨rfl, rfl⟩
        refine g_iadd 271 dX8_advances_270 rfl ?_
        refine g_bipush (48) 273 dX8_advances_271 rfl (by decide) ?_
        refine g_isub 274 dX8_advances_273 rfl ?_
        refine gp_8_6 277 dX8_advances_274 rfl kf_X8_74 (by first | decide | assumption | exact ⟨Nat.le_of_ble_eq_true rfl, rfl⟩) ?_
        refine gs_at (congrArg (fun x => St x J) mt_6) ?_
        refine g_aload_n 278 dX8_advances_277 rfl rfl ?_
        refine g_dup 279 dX8_advances_278 rfl rfl ?_
        refine gf_8_3 282 dX8_advances_279 rfl kf_X8_57 (by first | decide | assumption | exact ⟨Nat.le_of_ble_eq_true rfl, rfl⟩) ?_
        refine gst_at (x2 := nI b) rfl ?_
        refine g_iconst (1) 283 dX8_advances_282 rfl (by decide) ?_
        refine g_iadd 284 dX8_advances_283 rfl ?_
        refine gp_8_3 287 dX8_advances_284 rfl kf_X8_57 (by first | decide | assumption | exact ⟨Nat.le_of_ble_eq_true rfl, rfl⟩) ?_
        refine gs_at (congrArg (fun x => St x J) mt_3) ?_
        refine g_goto 219 dX8_advances_287 (by decide) ?_
        exact ih (b + 1) _ _ (by omega) (by omega) (Nat.lt_of_not_le (fun z => bm_dg F len b z (b10n h234))) (nI_1 b) (by rw [he, nvM, if_pos (b10n h234), if_neg (Int32.not_lt.mpr h245)]) kk
      · refine g_aload_n 249 dX8_advances_248 rfl rfl ?_
        refine gf_8_6 252 dX8_advances_249 rfl kf_X8_74 (by first | decide | assumption | exact ⟨Nat.le_of_ble_eq_true rfl, rfl⟩) ?_
        refine gst_at (x2 := vl) rfl ?_
        refine g_goto 274 dX8_advances_252 (by decide) ?_
        refine gp_8_6 277 dX8_advances_274 rfl kf_X8_74 (by first | decide | assumption | exact ⟨Nat.le_of_ble_eq_true rfl, rfl⟩) ?_
        refine gs_at (congrArg (fun x => St x J) mt_6) ?_
        refine g_aload_n 278 dX8_advances_277 rfl rfl ?_
        refine g_dup 279 dX8_advances_278 rfl rfl ?_
        refine gf_8_3 282 dX8_advances_279 rfl kf_X8_57 (by first | decide | assumption | exact ⟨Nat.le_of_ble_eq_true rfl, rfl⟩) ?_
        refine gst_at (x2 := nI b) rfl ?_
        refine g_iconst (1) 283 dX8_advances_282 rfl (by decide) ?_
        refine g_iadd 284 dX8_advances_283 rfl ?_
        refine gp_8_3 287 dX8_advances_284 rfl kf_X8_57 (by first | decide | assumption | exact ⟨Nat.le_of_ble_eq_true rfl, rfl⟩) ?_
        refine gs_at (congrArg (fun x => St x J) mt_3) ?_
        refine g_goto 219 dX8_advances_287 (by decide) ?_
        exact ih (b + 1) _ _ (by omega) (by omega) (Nat.lt_of_not_le (fun z => bm_dg F len b z (b10n h234))) (nI_1 b) (by rw [he, nvM, if_pos (b10n h234), if_pos (Int32.not_le.mp h245)]) kk

def tkNm (tb : Nat → Int32) (len m : Nat) : Int32 := if 999 < (nvM tb len m 0).1 ∨ (tb m = 48 ∧ m + 1 < (nvM tb len m 0).2) then 8 else 3
theorem sub_n {a b : Nat} (h : b ≤ a) : nI a - nI b = nI (a - b) := by
  have : nI a = nI (a - b) + nI b := by rw [nI_add, Nat.sub_add_cancel h]
  rw [this, Int32.add_sub_cancel]
set_option maxRecDepth 100000 in
set_option maxHeartbeats 4000000 in
theorem ex_num (g : Gl) (l : Launch) {zc : Option Value → Sg → Prop} (F : Nat → Nat → Int32) (J : Nat → Int64) {len : Nat} (hl : F 167 2 = nI len) (hlen : len ≤ 400) {m : Nat} (hm : m < len) (tk fl : Int32) (x2 x3 x4 : Option Value) {XX : State → Method → Prop} (kk : ∀ t, tkNm (bm F len) len m = t → zc none (St (mt F (nI (nvM (bm F len) len m 0).2) t (nI m) (nvM (bm F len) len m 0).1 fl) J)) : Gj g l (rmd 3 0 0) XX (QM g zc 0 0) RX8 cX8_advances 5 none 290 [some (.ref 167), some (.int (bm F len m)), x2, x3, x4] [] (St (mt F (nI (nvM (bm F len) len m 0).2) tk (nI m) (nvM (bm F len) len m 0).1 fl) J) 0 0 := by
  have hle := nvM_le (bm_dg F len) (n := len) (m := m) (x := 0) (by omega)
  refine g_aload_n 291 dX8_advances_290 rfl rfl ?_
  refine g_aload_n 292 dX8_advances_291 rfl rfl ?_
  refine gf_8_6 295 dX8_advances_292 rfl kf_X8_74 (by first | decide | assumption | exact ⟨Nat.le_of_ble_eq_true rfl, rfl⟩) ?_
  refine gst_at (x2 := (nvM (bm F len) len m 0).1) rfl ?_
  refine g_sipush (999) 298 dX8_advances_295 rfl (by decide) ?_
  refine g_icmp_gt 320 301 dX8_advances_298 rfl (by decide) (fun h298 => ?_) (fun h298 => ?_)
  · refine g_bipush (8) 322 dX8_advances_320 rfl (by decide) ?_
    refine g_goto 326 dX8_advances_322 (by decide) ?_
    refine gp_8_4 329 dX8_advances_326 rfl kf_X8_67 (by first | decide | assumption | exact ⟨Nat.le_of_ble_eq_true rfl, rfl⟩) ?_
    refine gs_at (congrArg (fun x => St x J) mt_4) ?_
    refine g_goto 432 dX8_advances_329 (by decide) ?_
    refine g_vret dX8_advances_432 ?_
    refine kk _ ?_
    rw [tkNm, if_pos (Or.inl h298)]
  · refine g_iload_n 302 dX8_advances_301 rfl rfl ?_
    refine g_bipush (48) 304 dX8_advances_302 rfl (by decide) ?_
    refine g_icmp_ne 325 307 dX8_advances_304 rfl (by decide) (fun h304 => ?_) (fun h304 => ?_)
    · refine g_iconst (3) 326 dX8_advances_325 rfl (by decide) ?_
      refine gp_8_4 329 dX8_advances_326 rfl kf_X8_67 (by first | decide | assumption | exact ⟨Nat.le_of_ble_eq_true rfl, rfl⟩) ?_
      refine gs_at (congrArg (fun x => St x J) mt_4) ?_
      refine g_goto 432 dX8_advances_329 (by decide) ?_
      refine g_vret dX8_advances_432 ?_
      refine kk _ ?_
      rw [tkNm, if_neg (fun z => z.elim h298 (fun y => h304 y.1))]
    · refine g_aload_n 308 dX8_advances_307 rfl rfl ?_
      refine gf_8_3 311 dX8_advances_308 rfl kf_X8_57 (by first | decide | assumption | exact ⟨Nat.le_of_ble_eq_true rfl, rfl⟩) ?_
      refine g_aload_n 312 dX8_advances_311 rfl rfl ?_
      refine gf_8_5 315 dX8_advances_312 rfl kf_X8_64 (by first | decide | assumption | exact ⟨Nat.le_of_ble_eq_true rfl, rfl⟩) ?_
      refine g_isub 316 dX8_advances_315 rfl ?_
      refine gst_at (show mt F (nI (nvM (bm F len) len m 0).2) tk (nI m) (nvM (bm F len) len m 0).1 fl 167 3 - mt F (nI (nvM (bm F len) len m 0).2) tk (nI m) (nvM (bm F len) len m 0).1 fl 167 5 = nI ((nvM (bm F len) len m 0).2 - m) from sub_n hle.1) ?_
      refine g_iconst (1) 317 dX8_advances_316 rfl (by decide) ?_
      refine g_icmp_le 325 320 dX8_advances_317 rfl (by decide) (fun h317 => ?_) (fun h317 => ?_)
      · refine g_iconst (3) 326 dX8_advances_325 rfl (by decide) ?_
        refine gp_8_4 329 dX8_advances_326 rfl kf_X8_67 (by first | decide | assumption | exact ⟨Nat.le_of_ble_eq_true rfl, rfl⟩) ?_
        refine gs_at (congrArg (fun x => St x J) mt_4) ?_
        refine g_goto 432 dX8_advances_329 (by decide) ?_
        refine g_vret dX8_advances_432 ?_
        refine kk _ ?_
        rw [tkNm, if_neg (fun z => z.elim h298 (fun y => nI_ge (a := 1) (b := (nvM (bm F len) len m 0).2 - m) (by have := y.2; omega) (by omega) h317))]
      · refine g_bipush (8) 322 dX8_advances_320 rfl (by decide) ?_
        refine g_goto 326 dX8_advances_322 (by decide) ?_
        refine gp_8_4 329 dX8_advances_326 rfl kf_X8_67 (by first | decide | assumption | exact ⟨Nat.le_of_ble_eq_true rfl, rfl⟩) ?_
        refine gs_at (congrArg (fun x => St x J) mt_4) ?_
        refine g_goto 432 dX8_advances_329 (by decide) ?_
        refine g_vret dX8_advances_432 ?_
        refine kk _ ?_
        rw [tkNm, if_pos (Or.inr ⟨h304, by have := Nat.lt_of_not_le (fun z => h317 (nI_le (a := (nvM (bm F len) len m 0).2 - m) (b := 1) z (by decide))); omega⟩)]

