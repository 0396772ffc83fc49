/-! the reference: a table as a line -/
abbrev Q5 : Type := Int32 × Int32 × Int32 × Int32 × Int32
def f5 (F : Nat → Nat → Int32) (q : Q5) : Nat → Nat → Int32 := fun r => if r = 173 then (fun j => if j = 0 then q.1 else if j = 1 then q.2.1 else if j = 2 then q.2.2.1 else if j = 3 then q.2.2.2.1 else if j = 4 then q.2.2.2.2 else F 173 j) else F r
theorem f5_at (F : Nat → Nat → Int32) (q p : Q5) (i : Nat) (x : Int32) (h : ∀ j, upd (fun j => if j = 0 then q.1 else if j = 1 then q.2.1 else if j = 2 then q.2.2.1 else if j = 3 then q.2.2.2.1 else if j = 4 then q.2.2.2.2 else F 173 j) i x j = if j = 0 then p.1 else if j = 1 then p.2.1 else if j = 2 then p.2.2.1 else if j = 3 then p.2.2.2.1 else if j = 4 then p.2.2.2.2 else F 173 j) : up2 (f5 F q) 173 i x = f5 F p := by
  funext r j
  by_cases z : r = 173
  · subst z; simp only [up2, f5, if_true]; exact h j
  · simp [up2, f5, z]
theorem f5_0 (F : Nat → Nat → Int32) (a b c d e x : Int32) : up2 (f5 F (a, b, c, d, e)) 173 0 x = f5 F (x, b, c, d, e) := f5_at F _ _ 0 x fun j => by
  by_cases h : j = 0 <;> simp [upd, h]
theorem f5_1 (F : Nat → Nat → Int32) (a b c d e x : Int32) : up2 (f5 F (a, b, c, d, e)) 173 1 x = f5 F (a, x, c, d, e) := f5_at F _ _ 1 x fun j => by
  by_cases h : j = 1 <;> simp [upd, h]
theorem f5_2 (F : Nat → Nat → Int32) (a b c d e x : Int32) : up2 (f5 F (a, b, c, d, e)) 173 2 x = f5 F (a, b, x, d, e) := f5_at F _ _ 2 x fun j => by
  by_cases h : j = 2 <;> simp [upd, h]
theorem f5_3 (F : Nat → Nat → Int32) (a b c d e x : Int32) : up2 (f5 F (a, b, c, d, e)) 173 3 x = f5 F (a, b, c, x, e) := f5_at F _ _ 3 x fun j => by
  by_cases h : j = 3 <;> simp [upd, h]
theorem f5_4 (F : Nat → Nat → Int32) (a b c d e x : Int32) : up2 (f5 F (a, b, c, d, e)) 173 4 x = f5 F (a, b, c, d, x) := f5_at F _ _ 4 x fun j => by
  by_cases h : j = 4 <;> simp [upd, h]
theorem f5_id (F : Nat → Nat → Int32) : F = f5 F (F 173 0, F 173 1, F 173 2, F 173 3, F 173 4) := by
  funext r j
  by_cases z : r = 173
  · subst z; simp only [f5, if_true]
    by_cases h0 : j = 0
    · simp [h0]
    · by_cases h1 : j = 1
      · simp [h1]
      · by_cases h2 : j = 2
        · simp [h2]
        · by_cases h3 : j = 3
          · simp [h3]
          · by_cases h4 : j = 4 <;> simp [h0, h1, h2, h3, h4]
  · simp [f5, z]
def w1m (a s : Int32) : Int32 := if a ≤ 0 then (if s = 1 then 0 else abs32 a) else (if s = 1 then abs32 a else 0)
def wm3 (a b c w : Int32) : Int32 := w1m a (w &&& 1) + w1m b (w >>> ((1 : Int32) &&& 31) &&& 1) + w1m c (w >>> ((2 : Int32) &&& 31))
def fbM (t a b c : Int32) : Nat → Int32 × Int32
  | 0 => (99, -1)
  | i + 1 => if bt t i = 1 then ((if (fbM t a b c i).1 ≤ wm3 a b c (nI i) then (fbM t a b c i).1 else wm3 a b c (nI i)), (fbM t a b c i).2) else ((fbM t a b c i).1, if wm3 a b c (nI i) ≤ (fbM t a b c i).2 then (fbM t a b c i).2 else wm3 a b c (nI i))
def aN (n : Nat) : Int32 := nI n / 81 - 4
def bN (n : Nat) : Int32 := nI n / 9 - nI n / 9 / 9 * 9 - 4
def cN (n : Nat) : Int32 := nI n - nI n / 9 * 9 - 4
def allN (n : Nat) : Int32 := abs32 (aN n) + abs32 (bN n) + abs32 (cN n)
def okN (t : Int32) (n : Nat) : Prop := ¬ (fbM t (aN n) (bN n) (cN n) 8).1 ≤ (fbM t (aN n) (bN n) (cN n) 8).2
def newN (t : Int32) (n : Nat) : Q5 := (aN n, bN n, cN n, (fbM t (aN n) (bN n) (cN n) 8).1, allN n)
/-- what the reference holds after n of the 729: whether it has one, and the one -/
def srM (t : Int32) : Nat → Int32 × Q5
  | 0 => (0, (0, 0, 0, 0, 0))
  | n + 1 => if ¬ (fbM t (aN n) (bN n) (cN n) 8).1 ≤ (fbM t (aN n) (bN n) (cN n) 8).2 ∧ ((srM t n).1 = 0 ∨ ¬ (srM t n).2.2.2.2.2 ≤ allN n) then (1, newN t n) else srM t n
def fitM (t : Int32) : Int32 × Q5 := if t = 0 then (1, (0, 0, 0, 1, 0)) else if t = 255 then (1, (0, 0, 0, 0, 0)) else srM t 729
def pick5 (q : Q5) (what : Int32) : Int32 := if what = 0 then q.1 else if what = 1 then q.2.1 else if what = 2 then q.2.2.1 else if what = 3 then q.2.2.2.1 else q.2.2.2.2
def fitMA (t what : Int32) : Int32 := if ¬ t < 0 ∧ ¬ 255 < t ∧ ¬ what < 0 ∧ what ≤ 4 then (if (fitM t).1 = 0 then -1000000 else pick5 (fitM t).2 what) else -1000000
set_option maxRecDepth 100000 in
set_option maxHeartbeats 4000000 in
theorem m_weighsOf (g : Gl) (l : Launch) (a b c w : Int32) (S : Sg) : Ct g l yX8_weighsOf cX8_weighsOf 5 (some .int) 1 0 0 [.int a, .int b, .int c, .int w] S (fun r S2 => r = some (.int (wm3 a b c w)) ∧ S2 = S) := by
  refine Ct.of rfl (by decide) rfl (Nat.le_of_ble_eq_true rfl) ?_
  refine g_iload_n 1 dX8_weighsOf_0 rfl rfl ?_
  refine g_if_le 8 4 dX8_weighsOf_1 rfl (by decide) (fun h1 => ?_) (fun h1 => ?_)
  · refine g_iconst (0) 9 dX8_weighsOf_8 rfl (by decide) ?_
    refine g_iload_n 10 dX8_weighsOf_9 rfl rfl ?_
    refine g_iconst (1) 11 dX8_weighsOf_10 rfl (by decide) ?_
    refine g_iand 12 dX8_weighsOf_11 rfl ?_
    refine g_iconst (1) 13 dX8_weighsOf_12 rfl (by decide) ?_
    refine g_icmp_ne 20 16 dX8_weighsOf_13 rfl (by decide) (fun h13 => ?_) (fun h13 => ?_)
    · refine g_iconst (0) 21 dX8_weighsOf_20 rfl (by decide) ?_
      refine g_icmp_ne 31 24 dX8_weighsOf_21 rfl (by decide) (fun h21 => ?_) (fun h21 => ?_)
      · exact absurd h21 (by decide)
      · refine g_iload_n 25 dX8_weighsOf_24 rfl rfl ?_
        refine g_s1 28 dX8_weighsOf_25 rfl kl_X8_119 ms_X8_size ⟨Nat.le_of_ble_eq_true rfl, Nat.le_of_ble_eq_true rfl⟩ (Nat.le_of_ble_eq_true rfl) (m_size g l _ _) ?_
        rintro _ _ ⟨rfl, rfl⟩
        refine g_goto 32 dX8_weighsOf_28 (by decide) ?_
        refine g_istore 34 dX8_weighsOf_32 rfl (by decide) ?_
        refine g_iload 36 dX8_weighsOf_34 rfl rfl ?_
        refine g_iload_n 37 dX8_weighsOf_36 rfl rfl ?_
        refine g_if_le 44 40 dX8_weighsOf_37 rfl (by decide) (fun h37 => ?_) (fun h37 => ?_)
        · refine g_iconst (0) 45 dX8_weighsOf_44 rfl (by decide) ?_
          refine g_iload_n 46 dX8_weighsOf_45 rfl rfl ?_
          refine g_iconst (1) 47 dX8_weighsOf_46 rfl (by decide) ?_
          refine g_ishr 48 dX8_weighsOf_47 rfl ?_
          refine g_iconst (1) 49 dX8_weighsOf_48 rfl (by decide) ?_
          refine g_iand 50 dX8_weighsOf_49 rfl ?_
          refine g_iconst (1) 51 dX8_weighsOf_50 rfl (by decide) ?_
          refine g_icmp_ne 58 54 dX8_weighsOf_51 rfl (by decide) (fun h51 => ?_) (fun h51 => ?_)
          · refine g_iconst (0) 59 dX8_weighsOf_58 rfl (by decide) ?_
            refine g_icmp_ne 69 62 dX8_weighsOf_59 rfl (by decide) (fun h59 => ?_) (fun h59 => ?_)
            · exact absurd h59 (by decide)
            · refine g_iload_n 63 dX8_weighsOf_62 rfl rfl ?_
              refine g_s1 66 dX8_weighsOf_63 rfl kl_X8_119 ms_X8_size ⟨Nat.le_of_ble_eq_true rfl, Nat.le_of_ble_eq_true rfl⟩ (Nat.le_of_ble_eq_true rfl) (m_size g l _ _) ?_
              rintro _ _ ⟨rfl, rfl⟩
              refine g_goto 70 dX8_weighsOf_66 (by decide) ?_
              refine g_iadd 71 dX8_weighsOf_70 rfl ?_
              refine g_istore 73 dX8_weighsOf_71 rfl (by decide) ?_
              refine g_iload 75 dX8_weighsOf_73 rfl rfl ?_
              refine g_iload_n 76 dX8_weighsOf_75 rfl rfl ?_
              refine g_if_le 83 79 dX8_weighsOf_76 rfl (by decide) (fun h76 => ?_) (fun h76 => ?_)
              · refine g_iconst (0) 84 dX8_weighsOf_83 rfl (by decide) ?_
                refine g_iload_n 85 dX8_weighsOf_84 rfl rfl ?_
                refine g_iconst (2) 86 dX8_weighsOf_85 rfl (by decide) ?_
                refine g_ishr 87 dX8_weighsOf_86 rfl ?_
                refine g_iconst (1) 88 dX8_weighsOf_87 rfl (by decide) ?_
                refine g_icmp_ne 95 91 dX8_weighsOf_88 rfl (by decide) (fun h88 => ?_) (fun h88 => ?_)
                · refine g_iconst (0) 96 dX8_weighsOf_95 rfl (by decide) ?_
                  refine g_icmp_ne 106 99 dX8_weighsOf_96 rfl (by decide) (fun h96 => ?_) (fun h96 => ?_)
                  · exact absurd h96 (by decide)
                  · refine g_iload_n 100 dX8_weighsOf_99 rfl rfl ?_
                    refine g_s1 103 dX8_weighsOf_100 rfl kl_X8_119 ms_X8_size ⟨Nat.le_of_ble_eq_true rfl, Nat.le_of_ble_eq_true rfl⟩ (Nat.le_of_ble_eq_true rfl) (m_size g l _ _) ?_
                    rintro _ _ ⟨rfl, rfl⟩
                    refine g_goto 107 dX8_weighsOf_103 (by decide) ?_
                    refine g_iadd 108 dX8_weighsOf_107 rfl ?_
                    refine g_iret dX8_weighsOf_108 ?_
                    exact ⟨by rw [wm3, show w1m a (w &&& 1) = abs32 a by rw [w1m, if_pos h1, if_neg (show ¬ (w &&& 1) = 1 from h13)], show w1m b (w >>> ((1 : Int32) &&& 31) &&& 1) = abs32 b by rw [w1m, if_pos h37, if_neg (show ¬ (w >>> ((1 : Int32) &&& 31) &&& 1) = 1 from h51)], show w1m c (w >>> ((2 : Int32) &&& 31)) = abs32 c by rw [w1m, if_pos h76, if_neg (show ¬ (w >>> ((2 : Int32) &&& 31)) = 1 from h88)]], rfl⟩
                · refine g_iconst (1) 92 dX8_weighsOf_91 rfl (by decide) ?_
                  refine g_goto 96 dX8_weighsOf_92 (by decide) ?_
                  refine g_icmp_ne 106 99 dX8_weighsOf_96 rfl (by decide) (fun h96 => ?_) (fun h96 => ?_)
                  · refine g_iconst (0) 107 dX8_weighsOf_106 rfl (by decide) ?_
                    refine g_iadd 108 dX8_weighsOf_107 rfl ?_
                    refine g_iret dX8_weighsOf_108 ?_
                    exact ⟨by rw [wm3, show w1m a (w &&& 1) = abs32 a by rw [w1m, if_pos h1, if_neg (show ¬ (w &&& 1) = 1 from h13)], show w1m b (w >>> ((1 : Int32) &&& 31) &&& 1) = abs32 b by rw [w1m, if_pos h37, if_neg (show ¬ (w >>> ((1 : Int32) &&& 31) &&& 1) = 1 from h51)], show w1m c (w >>> ((2 : Int32) &&& 31)) = 0 by rw [w1m, if_pos h76, if_pos (show (w >>> ((2 : Int32) &&& 31)) = 1 from h88)]], rfl⟩
                  · exact absurd h96 (by decide)
              · refine g_iconst (1) 80 dX8_weighsOf_79 rfl (by decide) ?_
                refine g_goto 84 dX8_weighsOf_80 (by decide) ?_
                refine g_iload_n 85 dX8_weighsOf_84 rfl rfl ?_
                refine g_iconst (2) 86 dX8_weighsOf_85 rfl (by decide) ?_
                refine g_ishr 87 dX8_weighsOf_86 rfl ?_
                refine g_iconst (1) 88 dX8_weighsOf_87 rfl (by decide) ?_
                refine g_icmp_ne 95 91 dX8_weighsOf_88 rfl (by decide) (fun h88 => ?_) (fun h88 => ?_)
                · refine g_iconst (0) 96 dX8_weighsOf_95 rfl (by decide) ?_
                  refine g_icmp_ne 106 99 dX8_weighsOf_96 rfl (by decide) (fun h96 => ?_) (fun h96 => ?_)
                  · refine g_iconst (0) 107 dX8_weighsOf_106 rfl (by decide) ?_
                    refine g_iadd 108 dX8_weighsOf_107 rfl ?_
                    refine g_iret dX8_weighsOf_108 ?_
                    exact ⟨by rw [wm3, show w1m a (w &&& 1) = abs32 a by rw [w1m, if_pos h1, if_neg (show ¬ (w &&& 1) = 1 from h13)], show w1m b (w >>> ((1 : Int32) &&& 31) &&& 1) = abs32 b by rw [w1m, if_pos h37, if_neg (show ¬ (w >>> ((1 : Int32) &&& 31) &&& 1) = 1 from h51)], show w1m c (w >>> ((2 : Int32) &&& 31)) = 0 by rw [w1m, if_neg h76, if_neg (show ¬ (w >>> ((2 : Int32) &&& 31)) = 1 from h88)]], rfl⟩
                  · exact absurd h96 (by decide)
                · refine g_iconst (1) 92 dX8_weighsOf_91 rfl (by decide) ?_
                  refine g_goto 96 dX8_weighsOf_92 (by decide) ?_
                  refine g_icmp_ne 106 99 dX8_weighsOf_96 rfl (by decide) (fun h96 => ?_) (fun h96 => ?_)
                  · exact absurd h96 (by decide)
                  · refine g_iload_n 100 dX8_weighsOf_99 rfl rfl ?_
                    refine g_s1 103 dX8_weighsOf_100 rfl kl_X8_119 ms_X8_size ⟨Nat.le_of_ble_eq_true rfl, Nat.le_of_ble_eq_true rfl⟩ (Nat.le_of_ble_eq_true rfl) (m_size g l _ _) ?_
                    rintro _ _ ⟨rfl, rfl⟩
                    refine g_goto 107 dX8_weighsOf_103 (by decide) ?_
                    refine g_iadd 108 dX8_weighsOf_107 rfl ?_
                    refine g_iret dX8_weighsOf_108 ?_
                    exact ⟨by rw [wm3, show w1m a (w &&& 1) = abs32 a by rw [w1m, if_pos h1, if_neg (show ¬ (w &&& 1) = 1 from h13)], show w1m b (w >>> ((1 : Int32) &&& 31) &&& 1) = abs32 b by rw [w1m, if_pos h37, if_neg (show ¬ (w >>> ((1 : Int32) &&& 31) &&& 1) = 1 from h51)], show w1m c (w >>> ((2 : Int32) &&& 31)) = abs32 c by rw [w1m, if_neg h76, if_pos (show (w >>> ((2 : Int32) &&& 31)) = 1 from h88)]], rfl⟩
          · refine g_iconst (1) 55 dX8_weighsOf_54 rfl (by decide) ?_
            refine g_goto 59 dX8_weighsOf_55 (by decide) ?_
            refine g_icmp_ne 69 62 dX8_weighsOf_59 rfl (by decide) (fun h59 => ?_) (fun h59 => ?_)
            · refine g_iconst (0) 70 dX8_weighsOf_69 rfl (by decide) ?_
              refine g_iadd 71 dX8_weighsOf_70 rfl ?_
              refine g_istore 73 dX8_weighsOf_71 rfl (by decide) ?_
              refine g_iload 75 dX8_weighsOf_73 rfl rfl ?_
              refine g_iload_n 76 dX8_weighsOf_75 rfl rfl ?_
              refine g_if_le 83 79 dX8_weighsOf_76 rfl (by decide) (fun h76 => ?_) (fun h76 => ?_)
              · refine g_iconst (0) 84 dX8_weighsOf_83 rfl (by decide) ?_
                refine g_iload_n 85 dX8_weighsOf_84 rfl rfl ?_
                refine g_iconst (2) 86 dX8_weighsOf_85 rfl (by decide) ?_
                refine g_ishr 87 dX8_weighsOf_86 rfl ?_
                refine g_iconst (1) 88 dX8_weighsOf_87 rfl (by decide) ?_
                refine g_icmp_ne 95 91 dX8_weighsOf_88 rfl (by decide) (fun h88 => ?_) (fun h88 => ?_)
                · refine g_iconst (0) 96 dX8_weighsOf_95 rfl (by decide) ?_
                  refine g_icmp_ne 106 99 dX8_weighsOf_96 rfl (by decide) (fun h96 => ?_) (fun h96 => ?_)
                  · exact absurd h96 (by decide)
                  · refine g_iload_n 100 dX8_weighsOf_99 rfl rfl ?_
                    refine g_s1 103 dX8_weighsOf_100 rfl kl_X8_119 ms_X8_size ⟨Nat.le_of_ble_eq_true rfl, Nat.le_of_ble_eq_true rfl⟩ (Nat.le_of_ble_eq_true rfl) (m_size g l _ _) ?_
                    rintro _ _ ⟨rfl, rfl⟩
                    refine g_goto 107 dX8_weighsOf_103 (by decide) ?_
                    refine g_iadd 108 dX8_weighsOf_107 rfl ?_
                    refine g_iret dX8_weighsOf_108 ?_
                    exact ⟨by rw [wm3, show w1m a (w &&& 1) = abs32 a by rw [w1m, if_pos h1, if_neg (show ¬ (w &&& 1) = 1 from h13)], show w1m b (w >>> ((1 : Int32) &&& 31) &&& 1) = 0 by rw [w1m, if_pos h37, if_pos (show (w >>> ((1 : Int32) &&& 31) &&& 1) = 1 from h51)], show w1m c (w >>> ((2 : Int32) &&& 31)) = abs32 c by rw [w1m, if_pos h76, if_neg (show ¬ (w >>> ((2 : Int32) &&& 31)) = 1 from h88)]], rfl⟩
                · refine g_iconst (1) 92 dX8_weighsOf_91 rfl (by decide) ?_
                  refine g_goto 96 dX8_weighsOf_92 (by decide) ?_
                  refine g_icmp_ne 106 99 dX8_weighsOf_96 rfl (by decide) (fun h96 => ?_) (fun h96 => ?_)
                  · refine g_iconst (0) 107 dX8_weighsOf_106 rfl (by decide) ?_
                    refine g_iadd 108 dX8_weighsOf_107 rfl ?_
                    refine g_iret dX8_weighsOf_108 ?_
                    exact ⟨by rw [wm3, show w1m a (w &&& 1) = abs32 a by rw [w1m, if_pos h1, if_neg (show ¬ (w &&& 1) = 1 from h13)], show w1m b (w >>> ((1 : Int32) &&& 31) &&& 1) = 0 by rw [w1m, if_pos h37, if_pos (show (w >>> ((1 : Int32) &&& 31) &&& 1) = 1 from h51)], show w1m c (w >>> ((2 : Int32) &&& 31)) = 0 by rw [w1m, if_pos h76, if_pos (show (w >>> ((2 : Int32) &&& 31)) = 1 from h88)]], rfl⟩
                  · exact absurd h96 (by decide)
              · refine g_iconst (1) 80 dX8_weighsOf_79 rfl (by decide) ?_
                refine g_goto 84 dX8_weighsOf_80 (by decide) ?_
                refine g_iload_n 85 dX8_weighsOf_84 rfl rfl ?_
                refine g_iconst (2) 86 dX8_weighsOf_85 rfl (by decide) ?_
                refine g_ishr 87 dX8_weighsOf_86 rfl ?_
                refine g_iconst (1) 88 dX8_weighsOf_87 rfl (by decide) ?_
                refine g_icmp_ne 95 91 dX8_weighsOf_88 rfl (by decide) (fun h88 => ?_) (fun h88 => ?_)
                · refine g_iconst (0) 96 dX8_weighsOf_95 rfl (by decide) ?_
                  refine g_icmp_ne 106 99 dX8_weighsOf_96 rfl (by decide) (fun h96 => ?_) (fun h96 => ?_)
                  · refine g_iconst (0) 107 dX8_weighsOf_106 rfl (by decide) ?_
                    refine g_iadd 108 dX8_weighsOf_107 rfl ?_
                    refine g_iret dX8_weighsOf_108 ?_
                    exact ⟨by rw [wm3, show w1m a (w &&& 1) = abs32 a by rw [w1m, if_pos h1, if_neg (show ¬ (w &&& 1) = 1 from h13)], show w1m b (w >>> ((1 : Int32) &&& 31) &&& 1) = 0 by rw [w1m, if_pos h37, if_pos (show (w >>> ((1 : Int32) &&& 31) &&& 1) = 1 from h51)], show w1m c (w >>> ((2 : Int32) &&& 31)) = 0 by rw [w1m, if_neg h76, if_neg (show ¬ (w >>> ((2 : Int32) &&& 31)) = 1 from h88)]], rfl⟩
                  · exact absurd h96 (by decide)
                · refine g_iconst (1) 92 dX8_weighsOf_91 rfl (by decide) ?_
                  refine g_goto 96 dX8_weighsOf_92 (by decide) ?_
                  refine g_icmp_ne 106 99 dX8_weighsOf_96 rfl (by decide) (fun h96 => ?_) (fun h96 => ?_)
                  · exact absurd h96 (by decide)
                  · refine g_iload_n 100 dX8_weighsOf_99 rfl rfl ?_
                    refine g_s1 103 dX8_weighsOf_100 rfl kl_X8_119 ms_X8_size ⟨Nat.le_of_ble_eq_true rfl, Nat.le_of_ble_eq_true rfl⟩ (Nat.le_of_ble_eq_true rfl) (m_size g l _ _) ?_
                    rintro _ _ ⟨rfl, rfl⟩
                    refine g_goto 107 dX8_weighsOf_103 (by decide) ?_
                    refine g_iadd 108 dX8_weighsOf_107 rfl ?_
                    refine g_iret dX8_weighsOf_108 ?_
                    exact ⟨by rw [wm3, show w1m a (w &&& 1) = abs32 a by rw [w1m, if_pos h1, if_neg (show ¬ (w &&& 1) = 1 from h13)], show w1m b (w >>> ((1 : Int32) &&& 31) &&& 1) = 0 by rw [w1m, if_pos h37, if_pos (show (w >>> ((1 : Int32) &&& 31) &&& 1) = 1 from h51)], show w1m c (w >>> ((2 : Int32) &&& 31)) = abs32 c by rw [w1m, if_neg h76, if_pos (show (w >>> ((2 : Int32) &&& 31)) = 1 from h88)]], rfl⟩
            · exact absurd h59 (by decide)
        · refine g_iconst (1) 41 dX8_weighsOf_40 rfl (by decide) ?_
          refine g_goto 45 dX8_weighsOf_41 (by decide) ?_
          refine g_iload_n 46 dX8_weighsOf_45 rfl rfl ?_
          refine g_iconst (1) 47 dX8_weighsOf_46 rfl (by decide) ?_
          refine g_ishr 48 dX8_weighsOf_47 rfl ?_
          refine g_iconst (1) 49 dX8_weighsOf_48 rfl (by decide) ?_
          refine g_iand 50 dX8_weighsOf_49 rfl ?_
          refine g_iconst (1) 51 dX8_weighsOf_50 rfl (by decide) ?_
          refine g_icmp_ne 58 54 dX8_weighsOf_51 rfl (by decide) (fun h51 => ?_) (fun h51 => ?_)
          · refine g_iconst (0) 59 dX8_weighsOf_58 rfl (by decide) ?_
            refine g_icmp_ne 69 62 dX8_weighsOf_59 rfl (by decide) (fun h59 => ?_) (fun h59 => ?_)
            · refine g_iconst (0) 70 dX8_weighsOf_69 rfl (by decide) ?_
              refine g_iadd 71 dX8_weighsOf_70 rfl ?_
              refine g_istore 73 dX8_weighsOf_71 rfl (by decide) ?_
              refine g_iload 75 dX8_weighsOf_73 rfl rfl ?_
              refine g_iload_n 76 dX8_weighsOf_75 rfl rfl ?_
              refine g_if_le 83 79 dX8_weighsOf_76 rfl (by decide) (fun h76 => ?_) (fun h76 => ?_)
              · refine g_iconst (0) 84 dX8_weighsOf_83 rfl (by decide) ?_
                refine g_iload_n 85 dX8_weighsOf_84 rfl rfl ?_
                refine g_iconst (2) 86 dX8_weighsOf_85 rfl (by decide) ?_
                refine g_ishr 87 dX8_weighsOf_86 rfl ?_
                refine g_iconst (1) 88 dX8_weighsOf_87 rfl (by decide) ?_
                refine g_icmp_ne 95 91 dX8_weighsOf_88 rfl (by decide) (fun h88 => ?_) (fun h88 => ?_)
                · refine g_iconst (0) 96 dX8_weighsOf_95 rfl (by decide) ?_
                  refine g_icmp_ne 106 99 dX8_weighsOf_96 rfl (by decide) (fun h96 => ?_) (fun h96 => ?_)
                  · exact absurd h96 (by decide)
                  · refine g_iload_n 100 dX8_weighsOf_99 rfl rfl ?_
                    refine g_s1 103 dX8_weighsOf_100 rfl kl_X8_119 ms_X8_size ⟨Nat.le_of_ble_eq_true rfl, Nat.le_of_ble_eq_true rfl⟩ (Nat.le_of_ble_eq_true rfl) (m_size g l _ _) ?_
                    rintro _ _ ⟨rfl, rfl⟩
                    refine g_goto 107 dX8_weighsOf_103 (by decide) ?_
                    refine g_iadd 108 dX8_weighsOf_107 rfl ?_
                    refine g_iret dX8_weighsOf_108 ?_
                    exact ⟨by rw [wm3, show w1m a (w &&& 1) = abs32 a by rw [w1m, if_pos h1, if_neg (show ¬ (w &&& 1) = 1 from h13)], show w1m b (w >>> ((1 : Int32) &&& 31) &&& 1) = 0 by rw [w1m, if_neg h37, if_neg (show ¬ (w >>> ((1 : Int32) &&& 31) &&& 1) = 1 from h51)], show w1m c (w >>> ((2 : Int32) &&& 31)) = abs32 c by rw [w1m, if_pos h76, if_neg (show ¬ (w >>> ((2 : Int32) &&& 31)) = 1 from h88)]], rfl⟩
                · refine g_iconst (1) 92 dX8_weighsOf_91 rfl (by decide) ?_
                  refine g_goto 96 dX8_weighsOf_92 (by decide) ?_
                  refine g_icmp_ne 106 99 dX8_weighsOf_96 rfl (by decide) (fun h96 => ?_) (fun h96 => ?_)
                  · refine g_iconst (0) 107 dX8_weighsOf_106 rfl (by decide) ?_
                    refine g_iadd 108 dX8_weighsOf_107 rfl ?_
                    refine g_iret dX8_weighsOf_108 ?_
                    exact ⟨by rw [wm3, show w1m a (w &&& 1) = abs32 a by rw [w1m, if_pos h1, if_neg (show ¬ (w &&& 1) = 1 from h13)], show w1m b (w >>> ((1 : Int32) &&& 31) &&& 1) = 0 by rw [w1m, if_neg h37, if_neg (show ¬ (w >>> ((1 : Int32) &&& 31) &&& 1) = 1 from h51)], show w1m c (w >>> ((2 : Int32) &&& 31)) = 0 by rw [w1m, if_pos h76, if_pos (show (w >>> ((2 : Int32) &&& 31)) = 1 from h88)]], rfl⟩
                  · exact absurd h96 (by decide)
              · refine g_iconst (1) 80 dX8_weighsOf_79 rfl (by decide) ?_
                refine g_goto 84 dX8_weighsOf_80 (by decide) ?_
                refine g_iload_n 85 dX8_weighsOf_84 rfl rfl ?_
                refine g_iconst (2) 86 dX8_weighsOf_85 rfl (by decide) ?_
                refine g_ishr 87 dX8_weighsOf_86 rfl ?_
                refine g_iconst (1) 88 dX8_weighsOf_87 rfl (by decide) ?_
                refine g_icmp_ne 95 91 dX8_weighsOf_88 rfl (by decide) (fun h88 => ?_) (fun h88 => ?_)
                · refine g_iconst (0) 96 dX8_weighsOf_95 rfl (by decide) ?_
                  refine g_icmp_ne 106 99 dX8_weighsOf_96 rfl (by decide) (fun h96 => ?_) (fun h96 => ?_)
                  · refine g_iconst (0) 107 dX8_weighsOf_106 rfl (by decide) ?_
                    refine g_iadd 108 dX8_weighsOf_107 rfl ?_
                    refine g_iret dX8_weighsOf_108 ?_
                    exact ⟨by rw [wm3, show w1m a (w &&& 1) = abs32 a by rw [w1m, if_pos h1, if_neg (show ¬ (w &&& 1) = 1 from h13)], show w1m b (w >>> ((1 : Int32) &&& 31) &&& 1) = 0 by rw [w1m, if_neg h37, if_neg (show ¬ (w >>> ((1 : Int32) &&& 31) &&& 1) = 1 from h51)], show w1m c (w >>> ((2 : Int32) &&& 31)) = 0 by rw [w1m, if_neg h76, if_neg (show ¬ (w >>> ((2 : Int32) &&& 31)) = 1 from h88)]], rfl⟩
                  · exact absurd h96 (by decide)
                · refine g_iconst (1) 92 dX8_weighsOf_91 rfl (by decide) ?_
                  refine g_goto 96 dX8_weighsOf_92 (by decide) ?_
                  refine g_icmp_ne 106 99 dX8_weighsOf_96 rfl (by decide) (fun h96 => ?_) (fun h96 => ?_)
                  · exact absurd h96 (by decide)
                  · refine g_iload_n 100 dX8_weighsOf_99 rfl rfl ?_
                    refine g_s1 103 dX8_weighsOf_100 rfl kl_X8_119 ms_X8_size ⟨Nat.le_of_ble_eq_true rfl, Nat.le_of_ble_eq_true rfl⟩ (Nat.le_of_ble_eq_true rfl) (m_size g l _ _) ?_
                    rintro _ _ ⟨rfl, rfl⟩
                    refine g_goto 107 dX8_weighsOf_103 (by decide) ?_
                    refine g_iadd 108 dX8_weighsOf_107 rfl ?_
                    refine g_iret dX8_weighsOf_108 ?_
                    exact ⟨by rw [wm3, show w1m a (w &&& 1) = abs32 a by rw [w1m, if_pos h1, if_neg (show ¬ (w &&& 1) = 1 from h13)], show w1m b (w >>> ((1 : Int32) &&& 31) &&& 1) = 0 by rw [w1m, if_neg h37, if_neg (show ¬ (w >>> ((1 : Int32) &&& 31) &&& 1) = 1 from h51)], show w1m c (w >>> ((2 : Int32) &&& 31)) = abs32 c by rw [w1m, if_neg h76, if_pos (show (w >>> ((2 : Int32) &&& 31)) = 1 from h88)]], rfl⟩
            · exact absurd h59 (by decide)
          · refine g_iconst (1) 55 dX8_weighsOf_54 rfl (by decide) ?_
            refine g_goto 59 dX8_weighsOf_55 (by decide) ?_
            refine g_icmp_ne 69 62 dX8_weighsOf_59 rfl (by decide) (fun h59 => ?_) (fun h59 => ?_)
            · exact absurd h59 (by decide)
            · refine g_iload_n 63 dX8_weighsOf_62 rfl rfl ?_
              refine g_s1 66 dX8_weighsOf_63 rfl kl_X8_119 ms_X8_size ⟨Nat.le_of_ble_eq_true rfl, Nat.le_of_ble_eq_true rfl⟩ (Nat.le_of_ble_eq_true rfl) (m_size g l _ _) ?_
              rintro _ _ ⟨rfl, rfl⟩
              refine g_goto 70 dX8_weighsOf_66 (by decide) ?_
              refine g_iadd 71 dX8_weighsOf_70 rfl ?_
              refine g_istore 73 dX8_weighsOf_71 rfl (by decide) ?_
              refine g_iload 75 dX8_weighsOf_73 rfl rfl ?_
              refine g_iload_n 76 dX8_weighsOf_75 rfl rfl ?_
              refine g_if_le 83 79 dX8_weighsOf_76 rfl (by decide) (fun h76 => ?_) (fun h76 => ?_)
              · refine g_iconst (0) 84 dX8_weighsOf_83 rfl (by decide) ?_
                refine g_iload_n 85 dX8_weighsOf_84 rfl rfl ?_
                refine g_iconst (2) 86 dX8_weighsOf_85 rfl (by decide) ?_
                refine g_ishr 87 dX8_weighsOf_86 rfl ?_
                refine g_iconst (1) 88 dX8_weighsOf_87 rfl (by decide) ?_
                refine g_icmp_ne 95 91 dX8_weighsOf_88 rfl (by decide) (fun h88 => ?_) (fun h88 => ?_)
                · refine g_iconst (0) 96 dX8_weighsOf_95 rfl (by decide) ?_
                  refine g_icmp_ne 106 99 dX8_weighsOf_96 rfl (by decide) (fun h96 => ?_) (fun h96 => ?_)
                  · exact absurd h96 (by decide)
                  · refine g_iload_n 100 dX8_weighsOf_99 rfl rfl ?_
                    refine g_s1 103 dX8_weighsOf_100 rfl kl_X8_119 ms_X8_size ⟨Nat.le_of_ble_eq_true rfl, Nat.le_of_ble_eq_true rfl⟩ (Nat.le_of_ble_eq_true rfl) (m_size g l _ _) ?_
                    rintro _ _ ⟨rfl, rfl⟩
                    refine g_goto 107 dX8_weighsOf_103 (by decide) ?_
                    refine g_iadd 108 dX8_weighsOf_107 rfl ?_
                    refine g_iret dX8_weighsOf_108 ?_
                    exact ⟨by rw [wm3, show w1m a (w &&& 1) = abs32 a by rw [w1m, if_pos h1, if_neg (show ¬ (w &&& 1) = 1 from h13)], show w1m b (w >>> ((1 : Int32) &&& 31) &&& 1) = abs32 b by rw [w1m, if_neg h37, if_pos (show (w >>> ((1 : Int32) &&& 31) &&& 1) = 1 from h51)], show w1m c (w >>> ((2 : Int32) &&& 31)) = abs32 c by rw [w1m, if_pos h76, if_neg (show ¬ (w >>> ((2 : Int32) &&& 31)) = 1 from h88)]], rfl⟩
                · refine g_iconst (1) 92 dX8_weighsOf_91 rfl (by decide) ?_
                  refine g_goto 96 dX8_weighsOf_92 (by decide) ?_
                  refine g_icmp_ne 106 99 dX8_weighsOf_96 rfl (by decide) (fun h96 => ?_) (fun h96 => ?_)
                  · refine g_iconst (0) 107 dX8_weighsOf_106 rfl (by decide) ?_
                    refine g_iadd 108 dX8_weighsOf_107 rfl ?_
                    refine g_iret dX8_weighsOf_108 ?_
                    exact ⟨by rw [wm3, show w1m a (w &&& 1) = abs32 a by rw [w1m, if_pos h1, if_neg (show ¬ (w &&& 1) = 1 from h13)], show w1m b (w >>> ((1 : Int32) &&& 31) &&& 1) = abs32 b by rw [w1m, if_neg h37, if_pos (show (w >>> ((1 : Int32) &&& 31) &&& 1) = 1 from h51)], show w1m c (w >>> ((2 : Int32) &&& 31)) = 0 by rw [w1m, if_pos h76, if_pos (show (w >>> ((2 : Int32) &&& 31)) = 1 from h88)]], rfl⟩
                  · exact absurd h96 (by decide)
              · refine g_iconst (1) 80 dX8_weighsOf_79 rfl (by decide) ?_
                refine g_goto 84 dX8_weighsOf_80 (by decide) ?_
                refine g_iload_n 85 dX8_weighsOf_84 rfl rfl ?_
                refine g_iconst (2) 86 dX8_weighsOf_85 rfl (by decide) ?_
                refine g_ishr 87 dX8_weighsOf_86 rfl ?_
                refine g_iconst (1) 88 dX8_weighsOf_87 rfl (by decide) ?_
                refine g_icmp_ne 95 91 dX8_weighsOf_88 rfl (by decide) (fun h88 => ?_) (fun h88 => ?_)
                · refine g_iconst (0) 96 dX8_weighsOf_95 rfl (by decide) ?_
                  refine g_icmp_ne 106 99 dX8_weighsOf_96 rfl (by decide) (fun h96 => ?_) (fun h96 => ?_)
                  · refine g_iconst (0) 107 dX8_weighsOf_106 rfl (by decide) ?_
                    refine g_iadd 108 dX8_weighsOf_107 rfl ?_
                    refine g_iret dX8_weighsOf_108 ?_
                    exact ⟨by rw [wm3, show w1m a (w &&& 1) = abs32 a by rw [w1m, if_pos h1, if_neg (show ¬ (w &&& 1) = 1 from h13)], show w1m b (w >>> ((1 : Int32) &&& 31) &&& 1) = abs32 b by rw [w1m, if_neg h37, if_pos (show (w >>> ((1 : Int32) &&& 31) &&& 1) = 1 from h51)], show w1m c (w >>> ((2 : Int32) &&& 31)) = 0 by rw [w1m, if_neg h76, if_neg (show ¬ (w >>> ((2 : Int32) &&& 31)) = 1 from h88)]], rfl⟩
                  · exact absurd h96 (by decide)
                · refine g_iconst (1) 92 dX8_weighsOf_91 rfl (by decide) ?_
                  refine g_goto 96 dX8_weighsOf_92 (by decide) ?_
                  refine g_icmp_ne 106 99 dX8_weighsOf_96 rfl (by decide) (fun h96 => ?_) (fun h96 => ?_)
                  · exact absurd h96 (by decide)
                  · refine g_iload_n 100 dX8_weighsOf_99 rfl rfl ?_
                    refine g_s1 103 dX8_weighsOf_100 rfl kl_X8_119 ms_X8_size ⟨Nat.le_of_ble_eq_true rfl, Nat.le_of_ble_eq_true rfl⟩ (Nat.le_of_ble_eq_true rfl) (m_size g l _ _) ?_
                    rintro _ _ ⟨rfl, rfl⟩
                    refine g_goto 107 dX8_weighsOf_103 (by decide) ?_
                    refine g_iadd 108 dX8_weighsOf_107 rfl ?_
                    refine g_iret dX8_weighsOf_108 ?_
                    exact ⟨by rw [wm3, show w1m a (w &&& 1) = abs32 a by rw [w1m, if_pos h1, if_neg (show ¬ (w &&& 1) = 1 from h13)], show w1m b (w >>> ((1 : Int32) &&& 31) &&& 1) = abs32 b by rw [w1m, if_neg h37, if_pos (show (w >>> ((1 : Int32) &&& 31) &&& 1) = 1 from h51)], show w1m c (w >>> ((2 : Int32) &&& 31)) = abs32 c by rw [w1m, if_neg h76, if_pos (show (w >>> ((2 : Int32) &&& 31)) = 1 from h88)]], rfl⟩
    · refine g_iconst (1) 17 dX8_weighsOf_16 rfl (by decide) ?_
      refine g_goto 21 dX8_weighsOf_17 (by decide) ?_
      refine g_icmp_ne 31 24 dX8_weighsOf_21 rfl (by decide) (fun h21 => ?_) (fun h21 => ?_)
      · refine g_iconst (0) 32 dX8_weighsOf_31 rfl (by decide) ?_
        refine g_istore 34 dX8_weighsOf_32 rfl (by decide) ?_
        refine g_iload 36 dX8_weighsOf_34 rfl rfl ?_
        refine g_iload_n 37 dX8_weighsOf_36 rfl rfl ?_
        refine g_if_le 44 40 dX8_weighsOf_37 rfl (by decide) (fun h37 => ?_) (fun h37 => ?_)
        · refine g_iconst (0) 45 dX8_weighsOf_44 rfl (by decide) ?_
          refine g_iload_n 46 dX8_weighsOf_45 rfl rfl ?_
          refine g_iconst (1) 47 dX8_weighsOf_46 rfl (by decide) ?_
          refine g_ishr 48 dX8_weighsOf_47 rfl ?_
          refine g_iconst (1) 49 dX8_weighsOf_48 rfl (by decide) ?_
          refine g_iand 50 dX8_weighsOf_49 rfl ?_
          refine g_iconst (1) 51 dX8_weighsOf_50 rfl (by decide) ?_
          refine g_icmp_ne 58 54 dX8_weighsOf_51 rfl (by decide) (fun h51 => ?_) (fun h51 => ?_)
          · refine g_iconst (0) 59 dX8_weighsOf_58 rfl (by decide) ?_
            refine g_icmp_ne 69 62 dX8_weighsOf_59 rfl (by decide) (fun h59 => ?_) (fun h59 => ?_)
            · exact absurd h59 (by decide)
            · refine g_iload_n 63 dX8_weighsOf_62 rfl rfl ?_
              refine g_s1 66 dX8_weighsOf_63 rfl kl_X8_119 ms_X8_size ⟨Nat.le_of_ble_eq_true rfl, Nat.le_of_ble_eq_true rfl⟩ (Nat.le_of_ble_eq_true rfl) (m_size g l _ _) ?_
              rintro _ _ ⟨rfl, rfl⟩
              refine g_goto 70 dX8_weighsOf_66 (by decide) ?_
              refine g_iadd 71 dX8_weighsOf_70 rfl ?_
              refine g_istore 73 dX8_weighsOf_71 rfl (by decide) ?_
              refine g_iload 75 dX8_weighsOf_73 rfl rfl ?_
              refine g_iload_n 76 dX8_weighsOf_75 rfl rfl ?_
              refine g_if_le 83 79 dX8_weighsOf_76 rfl (by decide) (fun h76 => ?_) (fun h76 => ?_)
              · refine g_iconst (0) 84 dX8_weighsOf_83 rfl (by decide) ?_
                refine g_iload_n 85 dX8_weighsOf_84 rfl rfl ?_
                refine g_iconst (2) 86 dX8_weighsOf_85 rfl (by decide) ?_
                refine g_ishr 87 dX8_weighsOf_86 rfl ?_
                refine g_iconst (1) 88 dX8_weighsOf_87 rfl (by decide) ?_
                refine g_icmp_ne 95 91 dX8_weighsOf_88 rfl (by decide) (fun h88 => ?_) (fun h88 => ?_)
                · refine g_iconst (0) 96 dX8_weighsOf_95 rfl (by decide) ?_
                  refine g_icmp_ne 106 99 dX8_weighsOf_96 rfl (by decide) (fun h96 => ?_) (fun h96 => ?_)
                  · exact absurd h96 (by decide)
                  · refine g_iload_n 100 dX8_weighsOf_99 rfl rfl ?_
                    refine g_s1 103 dX8_weighsOf_100 rfl kl_X8_119 ms_X8_size ⟨Nat.le_of_ble_eq_true rfl, Nat.le_of_ble_eq_true rfl⟩ (Nat.le_of_ble_eq_true rfl) (m_size g l _ _) ?_
                    rintro _ _ ⟨rfl, rfl⟩
                    refine g_goto 107 dX8_weighsOf_103 (by decide) ?_
                    refine g_iadd 108 dX8_weighsOf_107 rfl ?_
                    refine g_iret dX8_weighsOf_108 ?_
                    exact ⟨by rw [wm3, show w1m a (w &&& 1) = 0 by rw [w1m, if_pos h1, if_pos (show (w &&& 1) = 1 from h13)], show w1m b (w >>> ((1 : Int32) &&& 31) &&& 1) = abs32 b by rw [w1m, if_pos h37, if_neg (show ¬ (w >>> ((1 : Int32) &&& 31) &&& 1) = 1 from h51)], show w1m c (w >>> ((2 : Int32) &&& 31)) = abs32 c by rw [w1m, if_pos h76, if_neg (show ¬ (w >>> ((2 : Int32) &&& 31)) = 1 from h88)]], rfl⟩
                · refine g_iconst (1) 92 dX8_weighsOf_91 rfl (by decide) ?_
                  refine g_goto 96 dX8_weighsOf_92 (by decide) ?_
                  refine g_icmp_ne 106 99 dX8_weighsOf_96 rfl (by decide) (fun h96 => ?_) (fun h96 => ?_)
                  · refine g_iconst (0) 107 dX8_weighsOf_106 rfl (by decide) ?_
                    refine g_iadd 108 dX8_weighsOf_107 rfl ?_
                    refine g_iret dX8_weighsOf_108 ?_
                    exact ⟨by rw [wm3, show w1m a (w &&& 1) = 0 by rw [w1m, if_pos h1, if_pos (show (w &&& 1) = 1 from h13)], show w1m b (w >>> ((1 : Int32) &&& 31) &&& 1) = abs32 b by rw [w1m, if_pos h37, if_neg (show ¬ (w >>> ((1 : Int32) &&& 31) &&& 1) = 1 from h51)], show w1m c (w >>> ((2 : Int32) &&& 31)) = 0 by rw [w1m, if_pos h76, if_pos (show (w >>> ((2 : Int32) &&& 31)) = 1 from h88)]], rfl⟩
                  · exact absurd h96 (by decide)
              · refine g_iconst (1) 80 dX8_weighsOf_79 rfl (by decide) ?_
                refine g_goto 84 dX8_weighsOf_80 (by decide) ?_
                refine g_iload_n 85 dX8_weighsOf_84 rfl rfl ?_
                refine g_iconst (2) 86 dX8_weighsOf_85 rfl (by decide) ?_
                refine g_ishr 87 dX8_weighsOf_86 rfl ?_
                refine g_iconst (1) 88 dX8_weighsOf_87 rfl (by decide) ?_
                refine g_icmp_ne 95 91 dX8_weighsOf_88 rfl (by decide) (fun h88 => ?_) (fun h88 => ?_)
                · refine g_iconst (0) 96 dX8_weighsOf_95 rfl (by decide) ?_
                  refine g_icmp_ne 106 99 dX8_weighsOf_96 rfl (by decide) (fun h96 => ?_) (fun h96 => ?_)
                  · refine g_iconst (0) 107 dX8_weighsOf_106 rfl (by decide) ?_
                    refine g_iadd 108 dX8_weighsOf_107 rfl ?_
                    refine g_iret dX8_weighsOf_108 ?_
                    exact ⟨by rw [wm3, show w1m a (w &&& 1) = 0 by rw [w1m, if_pos h1, if_pos (show (w &&& 1) = 1 from h13)], show w1m b (w >>> ((1 : Int32) &&& 31) &&& 1) = abs32 b by rw [w1m, if_pos h37, if_neg (show ¬ (w >>> ((1 : Int32) &&& 31) &&& 1) = 1 from h51)], show w1m c (w >>> ((2 : Int32) &&& 31)) = 0 by rw [w1m, if_neg h76, if_neg (show ¬ (w >>> ((2 : Int32) &&& 31)) = 1 from h88)]], rfl⟩
                  · exact absurd h96 (by decide)
                · refine g_iconst (1) 92 dX8_weighsOf_91 rfl (by decide) ?_
                  refine g_goto 96 dX8_weighsOf_92 (by decide) ?_
                  refine g_icmp_ne 106 99 dX8_weighsOf_96 rfl (by decide) (fun h96 => ?_) (fun h96 => ?_)
                  · exact absurd h96 (by decide)
                  · refine g_iload_n 100 dX8_weighsOf_99 rfl rfl ?_
                    refine g_s1 103 dX8_weighsOf_100 rfl kl_X8_119 ms_X8_size ⟨Nat.le_of_ble_eq_true rfl, Nat.le_of_ble_eq_true rfl⟩ (Nat.le_of_ble_eq_true rfl) (m_size g l _ _) ?_
                    rintro _ _ ⟨rfl, rfl⟩
                    refine g_goto 107 dX8_weighsOf_103 (by decide) ?_
                    refine g_iadd 108 dX8_weighsOf_107 rfl ?_
                    refine g_iret dX8_weighsOf_108 ?_
                    exact ⟨by rw [wm3, show w1m a (w &&& 1) = 0 by rw [w1m, if_pos h1, if_pos (show (w &&& 1) = 1 from h13)], show w1m b (w >>> ((1 : Int32) &&& 31) &&& 1) = abs32 b by rw [w1m, if_pos h37, if_neg (show ¬ (w >>> ((1 : Int32) &&& 31) &&& 1) = 1 from h51)], show w1m c (w >>> ((2 : Int32) &&& 31)) = abs32 c by rw [w1m, if_neg h76, if_pos (show (w >>> ((2 : Int32) &&& 31)) = 1 from h88)]], rfl⟩
          · refine g_iconst (1) 55 dX8_weighsOf_54 rfl (by decide) ?_
            refine g_goto 59 dX8_weighsOf_55 (by decide) ?_
            refine g_icmp_ne 69 62 dX8_weighsOf_59 rfl (by decide) (fun h59 => ?_) (fun h59 => ?_)
            · refine g_iconst (0) 70 dX8_weighsOf_69 rfl (by decide) ?_
              refine g_iadd 71 dX8_weighsOf_70 rfl ?_
              refine g_istore 73 dX8_weighsOf_71 rfl (by decide) ?_
              refine g_iload 75 dX8_weighsOf_73 rfl rfl ?_
              refine g_iload_n 76 dX8_weighsOf_75 rfl rfl ?_
              refine g_if_le 83 79 dX8_weighsOf_76 rfl (by decide) (fun h76 => ?_) (fun h76 => ?_)
              · refine g_iconst (0) 84 dX8_weighsOf_83 rfl (by decide) ?_
                refine g_iload_n 85 dX8_weighsOf_84 rfl rfl ?_
                refine g_iconst (2) 86 dX8_weighsOf_85 rfl (by decide) ?_
                refine g_ishr 87 dX8_weighsOf_86 rfl ?_
                refine g_iconst (1) 88 dX8_weighsOf_87 rfl (by decide) ?_
                refine g_icmp_ne 95 91 dX8_weighsOf_88 rfl (by decide) (fun h88 => ?_) (fun h88 => ?_)
                · refine g_iconst (0) 96 dX8_weighsOf_95 rfl (by decide) ?_
                  refine g_icmp_ne 106 99 dX8_weighsOf_96 rfl (by decide) (fun h96 => ?_) (fun h96 => ?_)
                  · exact absurd h96 (by decide)
                  · refine g_iload_n 100 dX8_weighsOf_99 rfl rfl ?_
                    refine g_s1 103 dX8_weighsOf_100 rfl kl_X8_119 ms_X8_size ⟨Nat.le_of_ble_eq_true rfl, Nat.le_of_ble_eq_true rfl⟩ (Nat.le_of_ble_eq_true rfl) (m_size g l _ _) ?_
                    rintro _ _ ⟨rfl, rfl⟩
                    refine g_goto 107 dX8_weighsOf_103 (by decide) ?_
                    refine g_iadd 108 dX8_weighsOf_107 rfl ?_
                    refine g_iret dX8_weighsOf_108 ?_
                    exact ⟨by rw [wm3, show w1m a (w &&& 1) = 0 by rw [w1m, if_pos h1, if_pos (show (w &&& 1) = 1 from h13)], show w1m b (w >>> ((1 : Int32) &&& 31) &&& 1) = 0 by rw [w1m, if_pos h37, if_pos (show (w >>> ((1 : Int32) &&& 31) &&& 1) = 1 from h51)], show w1m c (w >>> ((2 : Int32) &&& 31)) = abs32 c by rw [w1m, if_pos h76, if_neg (show ¬ (w >>> ((2 : Int32) &&& 31)) = 1 from h88)]], rfl⟩
                · refine g_iconst (1) 92 dX8_weighsOf_91 rfl (by decide) ?_
                  refine g_goto 96 dX8_weighsOf_92 (by decide) ?_
                  refine g_icmp_ne 106 99 dX8_weighsOf_96 rfl (by decide) (fun h96 => ?_) (fun h96 => ?_)
                  · refine g_iconst (0) 107 dX8_weighsOf_106 rfl (by decide) ?_
                    refine g_iadd 108 dX8_weighsOf_107 rfl ?_
                    refine g_iret dX8_weighsOf_108 ?_
                    exact ⟨by rw [wm3, show w1m a (w &&& 1) = 0 by rw [w1m, if_pos h1, if_pos (show (w &&& 1) = 1 from h13)], show w1m b (w >>> ((1 : Int32) &&& 31) &&& 1) = 0 by rw [w1m, if_pos h37, if_pos (show (w >>> ((1 : Int32) &&& 31) &&& 1) = 1 from h51)], show w1m c (w >>> ((2 : Int32) &&& 31)) = 0 by rw [w1m, if_pos h76, if_pos (show (w >>> ((2 : Int32) &&& 31)) = 1 from h88)]], rfl⟩
                  · exact absurd h96 (by decide)
              · refine g_iconst (1) 80 dX8_weighsOf_79 rfl (by decide) ?_
                refine g_goto 84 dX8_weighsOf_80 (by decide) ?_
                refine g_iload_n 85 dX8_weighsOf_84 rfl rfl ?_
                refine g_iconst (2) 86 dX8_weighsOf_85 rfl (by decide) ?_
                refine g_ishr 87 dX8_weighsOf_86 rfl ?_
                refine g_iconst (1) 88 dX8_weighsOf_87 rfl (by decide) ?_
                refine g_icmp_ne 95 91 dX8_weighsOf_88 rfl (by decide) (fun h88 => ?_) (fun h88 => ?_)
                · refine g_iconst (0) 96 dX8_weighsOf_95 rfl (by decide) ?_
                  refine g_icmp_ne 106 99 dX8_weighsOf_96 rfl (by decide) (fun h96 => ?_) (fun h96 => ?_)
                  · refine g_iconst (0) 107 dX8_weighsOf_106 rfl (by decide) ?_
                    refine g_iadd 108 dX8_weighsOf_107 rfl ?_
                    refine g_iret dX8_weighsOf_108 ?_
                    exact ⟨by rw [wm3, show w1m a (w &&& 1) = 0 by rw [w1m, if_pos h1, if_pos (show (w &&& 1) = 1 from h13)], show w1m b (w >>> ((1 : Int32) &&& 31) &&& 1) = 0 by rw [w1m, if_pos h37, if_pos (show (w >>> ((1 : Int32) &&& 31) &&& 1) = 1 from h51)], show w1m c (w >>> ((2 : Int32) &&& 31)) = 0 by rw [w1m, if_neg h76, if_neg (show ¬ (w >>> ((2 : Int32) &&& 31)) = 1 from h88)]], rfl⟩
                  · exact absurd h96 (by decide)
                · refine g_iconst (1) 92 dX8_weighsOf_91 rfl (by decide) ?_
                  refine g_goto 96 dX8_weighsOf_92 (by decide) ?_
                  refine g_icmp_ne 106 99 dX8_weighsOf_96 rfl (by decide) (fun h96 => ?_) (fun h96 => ?_)
                  · exact absurd h96 (by decide)
                  · refine g_iload_n 100 dX8_weighsOf_99 rfl rfl ?_
                    refine g_s1 103 dX8_weighsOf_100 rfl kl_X8_119 ms_X8_size ⟨Nat.le_of_ble_eq_true rfl, Nat.le_of_ble_eq_true rfl⟩ (Nat.le_of_ble_eq_true rfl) (m_size g l _ _) ?_
                    rintro _ _ ⟨rfl, rfl⟩
                    refine g_goto 107 dX8_weighsOf_103 (by decide) ?_
                    refine g_iadd 108 dX8_weighsOf_107 rfl ?_
                    refine g_iret dX8_weighsOf_108 ?_
                    exact ⟨by rw [wm3, show w1m a (w &&& 1) = 0 by rw [w1m, if_pos h1, if_pos (show (w &&& 1) = 1 from h13)], show w1m b (w >>> ((1 : Int32) &&& 31) &&& 1) = 0 by rw [w1m, if_pos h37, if_pos (show (w >>> ((1 : Int32) &&& 31) &&& 1) = 1 from h51)], show w1m c (w >>> ((2 : Int32) &&& 31)) = abs32 c by rw [w1m, if_neg h76, if_pos (show (w >>> ((2 : Int32) &&& 31)) = 1 from h88)]], rfl⟩
            · exact absurd h59 (by decide)
        · refine g_iconst (1) 41 dX8_weighsOf_40 rfl (by decide) ?_
          refine g_goto 45 dX8_weighsOf_41 (by decide) ?_
          refine g_iload_n 46 dX8_weighsOf_45 rfl rfl ?_
          refine g_iconst (1) 47 dX8_weighsOf_46 rfl (by decide) ?_
          refine g_ishr 48 dX8_weighsOf_47 rfl ?_
          refine g_iconst (1) 49 dX8_weighsOf_48 rfl (by decide) ?_
          refine g_iand 50 dX8_weighsOf_49 rfl ?_
          refine g_iconst (1) 51 dX8_weighsOf_50 rfl (by decide) ?_
          refine g_icmp_ne 58 54 dX8_weighsOf_51 rfl (by decide) (fun h51 => ?_) (fun h51 => ?_)
          · refine g_iconst (0) 59 dX8_weighsOf_58 rfl (by decide) ?_
            refine g_icmp_ne 69 62 dX8_weighsOf_59 rfl (by decide) (fun h59 => ?_) (fun h59 => ?_)
            · refine g_iconst (0) 70 dX8_weighsOf_69 rfl (by decide) ?_
              refine g_iadd 71 dX8_weighsOf_70 rfl ?_
              refine g_istore 73 dX8_weighsOf_71 rfl (by decide) ?_
              refine g_iload 75 dX8_weighsOf_73 rfl rfl ?_
              refine g_iload_n 76 dX8_weighsOf_75 rfl rfl ?_
              refine g_if_le 83 79 dX8_weighsOf_76 rfl (by decide) (fun h76 => ?_) (fun h76 => ?_)
              · refine g_iconst (0) 84 dX8_weighsOf_83 rfl (by decide) ?_
                refine g_iload_n 85 dX8_weighsOf_84 rfl rfl ?_
                refine g_iconst (2) 86 dX8_weighsOf_85 rfl (by decide) ?_
                refine g_ishr 87 dX8_weighsOf_86 rfl ?_
                refine g_iconst (1) 88 dX8_weighsOf_87 rfl (by decide) ?_
                refine g_icmp_ne 95 91 dX8_weighsOf_88 rfl (by decide) (fun h88 => ?_) (fun h88 => ?_)
                · refine g_iconst (0) 96 dX8_weighsOf_95 rfl (by decide) ?_
                  refine g_icmp_ne 106 99 dX8_weighsOf_96 rfl (by decide) (fun h96 => ?_) (fun h96 => ?_)
                  · exact absurd h96 (by decide)
                  · refine g_iload_n 100 dX8_weighsOf_99 rfl rfl ?_
                    refine g_s1 103 dX8_weighsOf_100 rfl kl_X8_119 ms_X8_size ⟨Nat.le_of_ble_eq_true rfl, Nat.le_of_ble_eq_true rfl⟩ (Nat.le_of_ble_eq_true rfl) (m_size g l _ _) ?_
                    rintro _ _ ⟨rfl, rfl⟩
                    refine g_goto 107 dX8_weighsOf_103 (by decide) ?_
                    refine g_iadd 108 dX8_weighsOf_107 rfl ?_
                    refine g_iret dX8_weighsOf_108 ?_
                    exact ⟨by rw [wm3, show w1m a (w &&& 1) = 0 by rw [w1m, if_pos h1, if_pos (show (w &&& 1) = 1 from h13)], show w1m b (w >>> ((1 : Int32) &&& 31) &&& 1) = 0 by rw [w1m, if_neg h37, if_neg (show ¬ (w >>> ((1 : Int32) &&& 31) &&& 1) = 1 from h51)], show w1m c (w >>> ((2 : Int32) &&& 31)) = abs32 c by rw [w1m, if_pos h76, if_neg (show ¬ (w >>> ((2 : Int32) &&& 31)) = 1 from h88)]], rfl⟩
                · refine g_iconst (1) 92 dX8_weighsOf_91 rfl (by decide) ?_
                  refine g_goto 96 dX8_weighsOf_92 (by decide) ?_
                  refine g_icmp_ne 106 99 dX8_weighsOf_96 rfl (by decide) (fun h96 => ?_) (fun h96 => ?_)
                  · refine g_iconst (0) 107 dX8_weighsOf_106 rfl (by decide) ?_
                    refine g_iadd 108 dX8_weighsOf_107 rfl ?_
                    refine g_iret dX8_weighsOf_108 ?_
                    exact ⟨by rw [wm3, show w1m a (w &&& 1) = 0 by rw [w1m, if_pos h1, if_pos (show (w &&& 1) = 1 from h13)], show w1m b (w >>> ((1 : Int32) &&& 31) &&& 1) = 0 by rw [w1m, if_neg h37, if_neg (show ¬ (w >>> ((1 : Int32) &&& 31) &&& 1) = 1 from h51)], show w1m c (w >>> ((2 : Int32) &&& 31)) = 0 by rw [w1m, if_pos h76, if_pos (show (w >>> ((2 : Int32) &&& 31)) = 1 from h88)]], rfl⟩
                  · exact absurd h96 (by decide)
              · refine g_iconst (1) 80 dX8_weighsOf_79 rfl (by decide) ?_
                refine g_goto 84 dX8_weighsOf_80 (by decide) ?_
                refine g_iload_n 85 dX8_weighsOf_84 rfl rfl ?_
                refine g_iconst (2) 86 dX8_weighsOf_85 rfl (by decide) ?_
                refine g_ishr 87 dX8_weighsOf_86 rfl ?_
                refine g_iconst (1) 88 dX8_weighsOf_87 rfl (by decide) ?_
                refine g_icmp_ne 95 91 dX8_weighsOf_88 rfl (by decide) (fun h88 => ?_) (fun h88 => ?_)
                · refine g_iconst (0) 96 dX8_weighsOf_95 rfl (by decide) ?_
                  refine g_icmp_ne 106 99 dX8_weighsOf_96 rfl (by decide) (fun h96 => ?_) (fun h96 => ?_)
                  · refine g_iconst (0) 107 dX8_weighsOf_106 rfl (by decide) ?_
                    refine g_iadd 108 dX8_weighsOf_107 rfl ?_
                    refine g_iret dX8_weighsOf_108 ?_
                    exact ⟨by rw [wm3, show w1m a (w &&& 1) = 0 by rw [w1m, if_pos h1, if_pos (show (w &&& 1) = 1 from h13)], show w1m b (w >>> ((1 : Int32) &&& 31) &&& 1) = 0 by rw [w1m, if_neg h37, if_neg (show ¬ (w >>> ((1 : Int32) &&& 31) &&& 1) = 1 from h51)], show w1m c (w >>> ((2 : Int32) &&& 31)) = 0 by rw [w1m, if_neg h76, if_neg (show ¬ (w >>> ((2 : Int32) &&& 31)) = 1 from h88)]], rfl⟩
                  · exact absurd h96 (by decide)
                · refine g_iconst (1) 92 dX8_weighsOf_91 rfl (by decide) ?_
                  refine g_goto 96 dX8_weighsOf_92 (by decide) ?_
                  refine g_icmp_ne 106 99 dX8_weighsOf_96 rfl (by decide) (fun h96 => ?_) (fun h96 => ?_)
                  · exact absurd h96 (by decide)
                  · refine g_iload_n 100 dX8_weighsOf_99 rfl rfl ?_
                    refine g_s1 103 dX8_weighsOf_100 rfl kl_X8_119 ms_X8_size ⟨Nat.le_of_ble_eq_true rfl, Nat.le_of_ble_eq_true rfl⟩ (Nat.le_of_ble_eq_true rfl) (m_size g l _ _) ?_
                    rintro _ _ ⟨rfl, rfl⟩
                    refine g_goto 107 dX8_weighsOf_103 (by decide) ?_
                    refine g_iadd 108 dX8_weighsOf_107 rfl ?_
                    refine g_iret dX8_weighsOf_108 ?_
                    exact ⟨by rw [wm3, show w1m a (w &&& 1) = 0 by rw [w1m, if_pos h1, if_pos (show (w &&& 1) = 1 from h13)], show w1m b (w >>> ((1 : Int32) &&& 31) &&& 1) = 0 by rw [w1m, if_neg h37, if_neg (show ¬ (w >>> ((1 : Int32) &&& 31) &&& 1) = 1 from h51)], show w1m c (w >>> ((2 : Int32) &&& 31)) = abs32 c by rw [w1m, if_neg h76, if_pos (show (w >>> ((2 : Int32) &&& 31)) = 1 from h88)]], rfl⟩
            · exact absurd h59 (by decide)
          · refine g_iconst (1) 55 dX8_weighsOf_54 rfl (by decide) ?_
            refine g_goto 59 dX8_weighsOf_55 (by decide) ?_
            refine g_icmp_ne 69 62 dX8_weighsOf_59 rfl (by decide) (fun h59 => ?_) (fun h59 => ?_)
            · exact absurd h59 (by decide)
            · refine g_iload_n 63 dX8_weighsOf_62 rfl rfl ?_
              refine g_s1 66 dX8_weighsOf_63 rfl kl_X8_119 ms_X8_size ⟨Nat.le_of_ble_eq_true rfl, Nat.le_of_ble_eq_true rfl⟩ (Nat.le_of_ble_eq_true rfl) (m_size g l _ _) ?_
              rintro _ _ ⟨rfl, rfl⟩
              refine g_goto 70 dX8_weighsOf_66 (by decide) ?_
              refine g_iadd 71 dX8_weighsOf_70 rfl ?_
              refine g_istore 73 dX8_weighsOf_71 rfl (by decide) ?_
              refine g_iload 75 dX8_weighsOf_73 rfl rfl ?_
              refine g_iload_n 76 dX8_weighsOf_75 rfl rfl ?_
              refine g_if_le 83 79 dX8_weighsOf_76 rfl (by decide) (fun h76 => ?_) (fun h76 => ?_)
              · refine g_iconst (0) 84 dX8_weighsOf_83 rfl (by decide) ?_
                refine g_iload_n 85 dX8_weighsOf_84 rfl rfl ?_
                refine g_iconst (2) 86 dX8_weighsOf_85 rfl (by decide) ?_
                refine g_ishr 87 dX8_weighsOf_86 rfl ?_
                refine g_iconst (1) 88 dX8_weighsOf_87 rfl (by decide) ?_
                refine g_icmp_ne 95 91 dX8_weighsOf_88 rfl (by decide) (fun h88 => ?_) (fun h88 => ?_)
                · refine g_iconst (0) 96 dX8_weighsOf_95 rfl (by decide) ?_
                  refine g_icmp_ne 106 99 dX8_weighsOf_96 rfl (by decide) (fun h96 => ?_) (fun h96 => ?_)
                  · exact absurd h96 (by decide)
                  · refine g_iload_n 100 dX8_weighsOf_99 rfl rfl ?_
                    refine g_s1 103 dX8_weighsOf_100 rfl kl_X8_119 ms_X8_size ⟨Nat.le_of_ble_eq_true rfl, Nat.le_of_ble_eq_true rfl⟩ (Nat.le_of_ble_eq_true rfl) (m_size g l _ _) ?_
                    rintro _ _ ⟨rfl, rfl⟩
                    refine g_goto 107 dX8_weighsOf_103 (by decide) ?_
                    refine g_iadd 108 dX8_weighsOf_107 rfl ?_
                    refine g_iret dX8_weighsOf_108 ?_
                    exact ⟨by rw [wm3, show w1m a (w &&& 1) = 0 by rw [w1m, if_pos h1, if_pos (show (w &&& 1) = 1 from h13)], show w1m b (w >>> ((1 : Int32) &&& 31) &&& 1) = abs32 b by rw [w1m, if_neg h37, if_pos (show (w >>> ((1 : Int32) &&& 31) &&& 1) = 1 from h51)], show w1m c (w >>> ((2 : Int32) &&& 31)) = abs32 c by rw [w1m, if_pos h76, if_neg (show ¬ (w >>> ((2 : Int32) &&& 31)) = 1 from h88)]], rfl⟩
                · refine g_iconst (1) 92 dX8_weighsOf_91 rfl (by decide) ?_
                  refine g_goto 96 dX8_weighsOf_92 (by decide) ?_
                  refine g_icmp_ne 106 99 dX8_weighsOf_96 rfl (by decide) (fun h96 => ?_) (fun h96 => ?_)
                  · refine g_iconst (0) 107 dX8_weighsOf_106 rfl (by decide) ?_
                    refine g_iadd 108 dX8_weighsOf_107 rfl ?_
                    refine g_iret dX8_weighsOf_108 ?_
                    exact ⟨by rw [wm3, show w1m a (w &&& 1) = 0 by rw [w1m, if_pos h1, if_pos (show (w &&& 1) = 1 from h13)], show w1m b (w >>> ((1 : Int32) &&& 31) &&& 1) = abs32 b by rw [w1m, if_neg h37, if_pos (show (w >>> ((1 : Int32) &&& 31) &&& 1) = 1 from h51)], show w1m c (w >>> ((2 : Int32) &&& 31)) = 0 by rw [w1m, if_pos h76, if_pos (show (w >>> ((2 : Int32) &&& 31)) = 1 from h88)]], rfl⟩
                  · exact absurd h96 (by decide)
              · refine g_iconst (1) 80 dX8_weighsOf_79 rfl (by decide) ?_
                refine g_goto 84 dX8_weighsOf_80 (by decide) ?_
                refine g_iload_n 85 dX8_weighsOf_84 rfl rfl ?_
                refine g_iconst (2) 86 dX8_weighsOf_85 rfl (by decide) ?_
                refine g_ishr 87 dX8_weighsOf_86 rfl ?_
                refine g_iconst (1) 88 dX8_weighsOf_87 rfl (by decide) ?_
                refine g_icmp_ne 95 91 dX8_weighsOf_88 rfl (by decide) (fun h88 => ?_) (fun h88 => ?_)
                · refine g_iconst (0) 96 dX8_weighsOf_95 rfl (by decide) ?_
                  refine g_icmp_ne 106 99 dX8_weighsOf_96 rfl (by decide) (fun h96 => ?_) (fun h96 => ?_)
                  · refine g_iconst (0) 107 dX8_weighsOf_106 rfl (by decide) ?_
                    refine g_iadd 108 dX8_weighsOf_107 rfl ?_
                    refine g_iret dX8_weighsOf_108 ?_
                    exact ⟨by rw [wm3, show w1m a (w &&& 1) = 0 by rw [w1m, if_pos h1, if_pos (show (w &&& 1) = 1 from h13)], show w1m b (w >>> ((1 : Int32) &&& 31) &&& 1) = abs32 b by rw [w1m, if_neg h37, if_pos (show (w >>> ((1 : Int32) &&& 31) &&& 1) = 1 from h51)], show w1m c (w >>> ((2 : Int32) &&& 31)) = 0 by rw [w1m, if_neg h76, if_neg (show ¬ (w >>> ((2 : Int32) &&& 31)) = 1 from h88)]], rfl⟩
                  · exact absurd h96 (by decide)
                · refine g_iconst (1) 92 dX8_weighsOf_91 rfl (by decide) ?_
                  refine g_goto 96 dX8_weighsOf_92 (by decide) ?_
                  refine g_icmp_ne 106 99 dX8_weighsOf_96 rfl (by decide) (fun h96 => ?_) (fun h96 => ?_)
                  · exact absurd h96 (by decide)
                  · refine g_iload_n 100 dX8_weighsOf_99 rfl rfl ?_
                    refine g_s1 103 dX8_weighsOf_100 rfl kl_X8_119 ms_X8_size ⟨Nat.le_of_ble_eq_true rfl, Nat.le_of_ble_eq_true rfl⟩ (Nat.le_of_ble_eq_true rfl) (m_size g l _ _) ?_
                    rintro _ _ ⟨rfl, rfl⟩
                    refine g_goto 107 dX8_weighsOf_103 (by decide) ?_
                    refine g_iadd 108 dX8_weighsOf_107 rfl ?_
                    refine g_iret dX8_weighsOf_108 ?_
                    exact ⟨by rw [wm3, show w1m a (w &&& 1) = 0 by rw [w1m, if_pos h1, if_pos (show (w &&& 1) = 1 from h13)], show w1m b (w >>> ((1 : Int32) &&& 31) &&& 1) = abs32 b by rw [w1m, if_neg h37, if_pos (show (w >>> ((1 : Int32) &&& 31) &&& 1) = 1 from h51)], show w1m c (w >>> ((2 : Int32) &&& 31)) = abs32 c by rw [w1m, if_neg h76, if_pos (show (w >>> ((2 : Int32) &&& 31)) = 1 from h88)]], rfl⟩
      · exact absurd h21 (by decide)
  · refine g_iconst (1) 5 dX8_weighsOf_4 rfl (by decide) ?_
    refine g_goto 9 dX8_weighsOf_5 (by decide) ?_
    refine g_iload_n 10 dX8_weighsOf_9 rfl rfl ?_
    refine g_iconst (1) 11 dX8_weighsOf_10 rfl (by decide) ?_
    refine g_iand 12 dX8_weighsOf_11 rfl ?_
    refine g_iconst (1) 13 dX8_weighsOf_12 rfl (by decide) ?_
    refine g_icmp_ne 20 16 dX8_weighsOf_13 rfl (by decide) (fun h13 => ?_) (fun h13 => ?_)
    · refine g_iconst (0) 21 dX8_weighsOf_20 rfl (by decide) ?_
      refine g_icmp_ne 31 24 dX8_weighsOf_21 rfl (by decide) (fun h21 => ?_) (fun h21 => ?_)
      · refine g_iconst (0) 32 dX8_weighsOf_31 rfl (by decide) ?_
        refine g_istore 34 dX8_weighsOf_32 rfl (by decide) ?_
        refine g_iload 36 dX8_weighsOf_34 rfl rfl ?_
        refine g_iload_n 37 dX8_weighsOf_36 rfl rfl ?_
        refine g_if_le 44 40 dX8_weighsOf_37 rfl (by decide) (fun h37 => ?_) (fun h37 => ?_)
        · refine g_iconst (0) 45 dX8_weighsOf_44 rfl (by decide) ?_
          refine g_iload_n 46 dX8_weighsOf_45 rfl rfl ?_
          refine g_iconst (1) 47 dX8_weighsOf_46 rfl (by decide) ?_
          refine g_ishr 48 dX8_weighsOf_47 rfl ?_
          refine g_iconst (1) 49 dX8_weighsOf_48 rfl (by decide) ?_
          refine g_iand 50 dX8_weighsOf_49 rfl ?_
          refine g_iconst (1) 51 dX8_weighsOf_50 rfl (by decide) ?_
          refine g_icmp_ne 58 54 dX8_weighsOf_51 rfl (by decide) (fun h51 => ?_) (fun h51 => ?_)
          · refine g_iconst (0) 59 dX8_weighsOf_58 rfl (by decide) ?_
            refine g_icmp_ne 69 62 dX8_weighsOf_59 rfl (by decide) (fun h59 => ?_) (fun h59 => ?_)
            · exact absurd h59 (by decide)
            · refine g_iload_n 63 dX8_weighsOf_62 rfl rfl ?_
              refine g_s1 66 dX8_weighsOf_63 rfl kl_X8_119 ms_X8_size ⟨Nat.le_of_ble_eq_true rfl, Nat.le_of_ble_eq_true rfl⟩ (Nat.le_of_ble_eq_true rfl) (m_size g l _ _) ?_
              rintro _ _ ⟨rfl, rfl⟩
              refine g_goto 70 dX8_weighsOf_66 (by decide) ?_
              refine g_iadd 71 dX8_weighsOf_70 rfl ?_
              refine g_istore 73 dX8_weighsOf_71 rfl (by decide) ?_
              refine g_iload 75 dX8_weighsOf_73 rfl rfl ?_
              refine g_iload_n 76 dX8_weighsOf_75 rfl rfl ?_
              refine g_if_le 83 79 dX8_weighsOf_76 rfl (by decide) (fun h76 => ?_) (fun h76 => ?_)
              · refine g_iconst (0) 84 dX8_weighsOf_83 rfl (by decide) ?_
                refine g_iload_n 85 dX8_weighsOf_84 rfl rfl ?_
                refine g_iconst (2) 86 dX8_weighsOf_85 rfl (by decide) ?_
                refine g_ishr 87 dX8_weighsOf_86 rfl ?_
                refine g_iconst (1) 88 dX8_weighsOf_87 rfl (by decide) ?_
                refine g_icmp_ne 95 91 dX8_weighsOf_88 rfl (by decide) (fun h88 => ?_) (fun h88 => ?_)
                · refine g_iconst (0) 96 dX8_weighsOf_95 rfl (by decide) ?_
                  refine g_icmp_ne 106 99 dX8_weighsOf_96 rfl (by decide) (fun h96 => ?_) (fun h96 => ?_)
                  · exact absurd h96 (by decide)
                  · refine g_iload_n 100 dX8_weighsOf_99 rfl rfl ?_
                    refine g_s1 103 dX8_weighsOf_100 rfl kl_X8_119 ms_X8_size ⟨Nat.le_of_ble_eq_true rfl, Nat.le_of_ble_eq_true rfl⟩ (Nat.le_of_ble_eq_true rfl) (m_size g l _ _) ?_
                    rintro _ _ ⟨rfl, rfl⟩
                    refine g_goto 107 dX8_weighsOf_103 (by decide) ?_
                    refine g_iadd 108 dX8_weighsOf_107 rfl ?_
                    refine g_iret dX8_weighsOf_108 ?_
                    exact ⟨by rw [wm3, show w1m a (w &&& 1) = 0 by rw [w1m, if_neg h1, if_neg (show ¬ (w &&& 1) = 1 from h13)], show w1m b (w >>> ((1 : Int32) &&& 31) &&& 1) = abs32 b by rw [w1m, if_pos h37, if_neg (show ¬ (w >>> ((1 : Int32) &&& 31) &&& 1) = 1 from h51)], show w1m c (w >>> ((2 : Int32) &&& 31)) = abs32 c by rw [w1m, if_pos h76, if_neg (show ¬ (w >>> ((2 : Int32) &&& 31)) = 1 from h88)]], rfl⟩
                · refine g_iconst (1) 92 dX8_weighsOf_91 rfl (by decide) ?_
                  refine g_goto 96 dX8_weighsOf_92 (by decide) ?_
                  refine g_icmp_ne 106 99 dX8_weighsOf_96 rfl (by decide) (fun h96 => ?_) (fun h96 => ?_)
                  · refine g_iconst (0) 107 dX8_weighsOf_106 rfl (by decide) ?_
                    refine g_iadd 108 dX8_weighsOf_107 rfl ?_
                    refine g_iret dX8_weighsOf_108 ?_
                    exact ⟨by rw [wm3, show w1m a (w &&& 1) = 0 by rw [w1m, if_neg h1, if_neg (show ¬ (w &&& 1) = 1 from h13)], show w1m b (w >>> ((1 : Int32) &&& 31) &&& 1) = abs32 b by rw [w1m, if_pos h37, if_neg (show ¬ (w >>> ((1 : Int32) &&& 31) &&& 1) = 1 from h51)], show w1m c (w >>> ((2 : Int32) &&& 31)) = 0 by rw [w1m, if_pos h76, if_pos (show (w >>> ((2 : Int32) &&& 31)) = 1 from h88)]], rfl⟩
                  · exact absurd h96 (by decide)
              · refine g_iconst (1) 80 dX8_weighsOf_79 rfl (by decide) ?_
                refine g_goto 84 dX8_weighsOf_80 (by decide) ?_
                refine g_iload_n 85 dX8_weighsOf_84 rfl rfl ?_
                refine g_iconst (2) 86 dX8_weighsOf_85 rfl (by decide) ?_
                refine g_ishr 87 dX8_weighsOf_86 rfl ?_
                refine g_iconst (1) 88 dX8_weighsOf_87 rfl (by decide) ?_
                refine g_icmp_ne 95 91 dX8_weighsOf_88 rfl (by decide) (fun h88 => ?_) (fun h88 => ?_)
                · refine g_iconst (0) 96 dX8_weighsOf_95 rfl (by decide) ?_
                  refine g_icmp_ne 106 99 dX8_weighsOf_96 rfl (by decide) (fun h96 => ?_) (fun h96 => ?_)
                  · refine g_iconst (0) 107 dX8_weighsOf_106 rfl (by decide) ?_
                    refine g_iadd 108 dX8_weighsOf_107 rfl ?_
                    refine g_iret dX8_weighsOf_108 ?_
                    exact ⟨by rw [wm3, show w1m a (w &&& 1) = 0 by rw [w1m, if_neg h1, if_neg (show ¬ (w &&& 1) = 1 from h13)], show w1m b (w >>> ((1 : Int32) &&& 31) &&& 1) = abs32 b by rw [w1m, if_pos h37, if_neg (show ¬ (w >>> ((1 : Int32) &&& 31) &&& 1) = 1 from h51)], show w1m c (w >>> ((2 : Int32) &&& 31)) = 0 by rw [w1m, if_neg h76, if_neg (show ¬ (w >>> ((2 : Int32) &&& 31)) = 1 from h88)]], rfl⟩
                  · exact absurd h96 (by decide)
                · refine g_iconst (1) 92 dX8_weighsOf_91 rfl (by decide) ?_
                  refine g_goto 96 dX8_weighsOf_92 (by decide) ?_
                  refine g_icmp_ne 106 99 dX8_weighsOf_96 rfl (by decide) (fun h96 => ?_) (fun h96 => ?_)
                  · exact absurd h96 (by decide)
                  · refine g_iload_n 100 dX8_weighsOf_99 rfl rfl ?_
                    refine g_s1 103 dX8_weighsOf_100 rfl kl_X8_119 ms_X8_size ⟨Nat.le_of_ble_eq_true rfl, Nat.le_of_ble_eq_true rfl⟩ (Nat.le_of_ble_eq_true rfl) (m_size g l _ _) ?_
                    rintro _ _ ⟨rfl, rfl⟩
                    refine g_goto 107 dX8_weighsOf_103 (by decide) ?_
                    refine g_iadd 108 dX8_weighsOf_107 rfl ?_
                    refine g_iret dX8_weighsOf_108 ?_
                    exact ⟨by rw [wm3, show w1m a (w &&& 1) = 0 by rw [w1m, if_neg h1, if_neg (show ¬ (w &&& 1) = 1 from h13)], show w1m b (w >>> ((1 : Int32) &&& 31) &&& 1) = abs32 b by rw [w1m, if_pos h37, if_neg (show ¬ (w >>> ((1 : Int32) &&& 31) &&& 1) = 1 from h51)], show w1m c (w >>> ((2 : Int32) &&& 31)) = abs32 c by rw [w1m, if_neg h76, if_pos (show (w >>> ((2 : Int32) &&& 31)) = 1 from h88)]], rfl⟩
          · refine g_iconst (1) 55 dX8_weighsOf_54 rfl (by decide) ?_
            refine g_goto 59 dX8_weighsOf_55 (by decide) ?_
            refine g_icmp_ne 69 62 dX8_weighsOf_59 rfl (by decide) (fun h59 => ?_) (fun h59 => ?_)
            · refine g_iconst (0) 70 dX8_weighsOf_69 rfl (by decide) ?_
              refine g_iadd 71 dX8_weighsOf_70 rfl ?_
              refine g_istore 73 dX8_weighsOf_71 rfl (by decide) ?_
              refine g_iload 75 dX8_weighsOf_73 rfl rfl ?_
              refine g_iload_n 76 dX8_weighsOf_75 rfl rfl ?_
              refine g_if_le 83 79 dX8_weighsOf_76 rfl (by decide) (fun h76 => ?_) (fun h76 => ?_)
              · refine g_iconst (0) 84 dX8_weighsOf_83 rfl (by decide) ?_
                refine g_iload_n 85 dX8_weighsOf_84 rfl rfl ?_
                refine g_iconst (2) 86 dX8_weighsOf_85 rfl (by decide) ?_
                refine g_ishr 87 dX8_weighsOf_86 rfl ?_
                refine g_iconst (1) 88 dX8_weighsOf_87 rfl (by decide) ?_
                refine g_icmp_ne 95 91 dX8_weighsOf_88 rfl (by decide) (fun h88 => ?_) (fun h88 => ?_)
                · refine g_iconst (0) 96 dX8_weighsOf_95 rfl (by decide) ?_
                  refine g_icmp_ne 106 99 dX8_weighsOf_96 rfl (by decide) (fun h96 => ?_) (fun h96 => ?_)
                  · exact absurd h96 (by decide)
                  · refine g_iload_n 100 dX8_weighsOf_99 rfl rfl ?_
                    refine g_s1 103 dX8_weighsOf_100 rfl kl_X8_119 ms_X8_size ⟨Nat.le_of_ble_eq_true rfl, Nat.le_of_ble_eq_true rfl⟩ (Nat.le_of_ble_eq_true rfl) (m_size g l _ _) ?_
                    rintro _ _ ⟨rfl, rfl⟩
                    refine g_goto 107 dX8_weighsOf_103 (by decide) ?_
                    refine g_iadd 108 dX8_weighsOf_107 rfl ?_
                    refine g_iret dX8_weighsOf_108 ?_
                    exact ⟨by rw [wm3, show w1m a (w &&& 1) = 0 by rw [w1m, if_neg h1, if_neg (show ¬ (w &&& 1) = 1 from h13)], show w1m b (w >>> ((1 : Int32) &&& 31) &&& 1) = 0 by rw [w1m, if_pos h37, if_pos (show (w >>> ((1 : Int32) &&& 31) &&& 1) = 1 from h51)], show w1m c (w >>> ((2 : Int32) &&& 31)) = abs32 c by rw [w1m, if_pos h76, if_neg (show ¬ (w >>> ((2 : Int32) &&& 31)) = 1 from h88)]], rfl⟩
                · refine g_iconst (1) 92 dX8_weighsOf_91 rfl (by decide) ?_
                  refine g_goto 96 dX8_weighsOf_92 (by decide) ?_
                  refine g_icmp_ne 106 99 dX8_weighsOf_96 rfl (by decide) (fun h96 => ?_) (fun h96 => ?_)
                  · refine g_iconst (0) 107 dX8_weighsOf_106 rfl (by decide) ?_
                    refine g_iadd 108 dX8_weighsOf_107 rfl ?_
                    refine g_iret dX8_weighsOf_108 ?_
                    exact ⟨by rw [wm3, show w1m a (w &&& 1) = 0 by rw [w1m, if_neg h1, if_neg (show ¬ (w &&& 1) = 1 from h13)], show w1m b (w >>> ((1 : Int32) &&& 31) &&& 1) = 0 by rw [w1m, if_pos h37, if_pos (show (w >>> ((1 : Int32) &&& 31) &&& 1) = 1 from h51)], show w1m c (w >>> ((2 : Int32) &&& 31)) = 0 by rw [w1m, if_pos h76, if_pos (show (w >>> ((2 : Int32) &&& 31)) = 1 from h88)]], rfl⟩
                  · exact absurd h96 (by decide)
              · refine g_iconst (1) 80 dX8_weighsOf_79 rfl (by decide) ?_
                refine g_goto 84 dX8_weighsOf_80 (by decide) ?_
                refine g_iload_n 85 dX8_weighsOf_84 rfl rfl ?_
                refine g_iconst (2) 86 dX8_weighsOf_85 rfl (by decide) ?_
                refine g_ishr 87 dX8_weighsOf_86 rfl ?_
                refine g_iconst (1) 88 dX8_weighsOf_87 rfl (by decide) ?_
                refine g_icmp_ne 95 91 dX8_weighsOf_88 rfl (by decide) (fun h88 => ?_) (fun h88 => ?_)
                · refine g_iconst (0) 96 dX8_weighsOf_95 rfl (by decide) ?_
                  refine g_icmp_ne 106 99 dX8_weighsOf_96 rfl (by decide) (fun h96 => ?_) (fun h96 => ?_)
                  · refine g_iconst (0) 107 dX8_weighsOf_106 rfl (by decide) ?_
                    refine g_iadd 108 dX8_weighsOf_107 rfl ?_
                    refine g_iret dX8_weighsOf_108 ?_
                    exact ⟨by rw [wm3, show w1m a (w &&& 1) = 0 by rw [w1m, if_neg h1, if_neg (show ¬ (w &&& 1) = 1 from h13)], show w1m b (w >>> ((1 : Int32) &&& 31) &&& 1) = 0 by rw [w1m, if_pos h37, if_pos (show (w >>> ((1 : Int32) &&& 31) &&& 1) = 1 from h51)], show w1m c (w >>> ((2 : Int32) &&& 31)) = 0 by rw [w1m, if_neg h76, if_neg (show ¬ (w >>> ((2 : Int32) &&& 31)) = 1 from h88)]], rfl⟩
                  · exact absurd h96 (by decide)
                · refine g_iconst (1) 92 dX8_weighsOf_91 rfl (by decide) ?_
                  refine g_goto 96 dX8_weighsOf_92 (by decide) ?_
                  refine g_icmp_ne 106 99 dX8_weighsOf_96 rfl (by decide) (fun h96 => ?_) (fun h96 => ?_)
                  · exact absurd h96 (by decide)
                  · refine g_iload_n 100 dX8_weighsOf_99 rfl rfl ?_
                    refine g_s1 103 dX8_weighsOf_100 rfl kl_X8_119 ms_X8_size ⟨Nat.le_of_ble_eq_true rfl, Nat.le_of_ble_eq_true rfl⟩ (Nat.le_of_ble_eq_true rfl) (m_size g l _ _) ?_
                    rintro _ _ ⟨rfl, rfl⟩
                    refine g_goto 107 dX8_weighsOf_103 (by decide) ?_
                    refine g_iadd 108 dX8_weighsOf_107 rfl ?_
                    refine g_iret dX8_weighsOf_108 ?_
                    exact ⟨by rw [wm3, show w1m a (w &&& 1) = 0 by rw [w1m, if_neg h1, if_neg (show ¬ (w &&& 1) = 1 from h13)], show w1m b (w >>> ((1 : Int32) &&& 31) &&& 1) = 0 by rw [w1m, if_pos h37, if_pos (show (w >>> ((1 : Int32) &&& 31) &&& 1) = 1 from h51)], show w1m c (w >>> ((2 : Int32) &&& 31)) = abs32 c by rw [w1m, if_neg h76, if_pos (show (w >>> ((2 : Int32) &&& 31)) = 1 from h88)]], rfl⟩
            · exact absurd h59 (by decide)
        · refine g_iconst (1) 41 dX8_weighsOf_40 rfl (by decide) ?_
          refine g_goto 45 dX8_weighsOf_41 (by decide) ?_
          refine g_iload_n 46 dX8_weighsOf_45 rfl rfl ?_
          refine g_iconst (1) 47 dX8_weighsOf_46 rfl (by decide) ?_
          refine g_ishr 48 dX8_weighsOf_47 rfl ?_
          refine g_iconst (1) 49 dX8_weighsOf_48 rfl (by decide) ?_
          refine g_iand 50 dX8_weighsOf_49 rfl ?_
          refine g_iconst (1) 51 dX8_weighsOf_50 rfl (by decide) ?_
          refine g_icmp_ne 58 54 dX8_weighsOf_51 rfl (by decide) (fun h51 => ?_) (fun h51 => ?_)
          · refine g_iconst (0) 59 dX8_weighsOf_58 rfl (by decide) ?_
            refine g_icmp_ne 69 62 dX8_weighsOf_59 rfl (by decide) (fun h59 => ?_) (fun h59 => ?_)
            · refine g_iconst (0) 70 dX8_weighsOf_69 rfl (by decide) ?_
              refine g_iadd 71 dX8_weighsOf_70 rfl ?_
              refine g_istore 73 dX8_weighsOf_71 rfl (by decide) ?_
              refine g_iload 75 dX8_weighsOf_73 rfl rfl ?_
              refine g_iload_n 76 dX8_weighsOf_75 rfl rfl ?_
              refine g_if_le 83 79 dX8_weighsOf_76 rfl (by decide) (fun h76 => ?_) (fun h76 => ?_)
              · refine g_iconst (0) 84 dX8_weighsOf_83 rfl (by decide) ?_
                refine g_iload_n 85 dX8_weighsOf_84 rfl rfl ?_
                refine g_iconst (2) 86 dX8_weighsOf_85 rfl (by decide) ?_
                refine g_ishr 87 dX8_weighsOf_86 rfl ?_
                refine g_iconst (1) 88 dX8_weighsOf_87 rfl (by decide) ?_
                refine g_icmp_ne 95 91 dX8_weighsOf_88 rfl (by decide) (fun h88 => ?_) (fun h88 => ?_)
                · refine g_iconst (0) 96 dX8_weighsOf_95 rfl (by decide) ?_
                  refine g_icmp_ne 106 99 dX8_weighsOf_96 rfl (by decide) (fun h96 => ?_) (fun h96 => ?_)
                  · exact absurd h96 (by decide)
                  · refine g_iload_n 100 dX8_weighsOf_99 rfl rfl ?_
                    refine g_s1 103 dX8_weighsOf_100 rfl kl_X8_119 ms_X8_size ⟨Nat.le_of_ble_eq_true rfl, Nat.le_of_ble_eq_true rfl⟩ (Nat.le_of_ble_eq_true rfl) (m_size g l _ _) ?_
                    rintro _ _ ⟨rfl, rfl⟩
                    refine g_goto 107 dX8_weighsOf_103 (by decide) ?_
                    refine g_iadd 108 dX8_weighsOf_107 rfl ?_
                    refine g_iret dX8_weighsOf_108 ?_
                    exact ⟨by rw [wm3, show w1m a (w &&& 1) = 0 by rw [w1m, if_neg h1, if_neg (show ¬ (w &&& 1) = 1 from h13)], show w1m b (w >>> ((1 : Int32) &&& 31) &&& 1) = 0 by rw [w1m, if_neg h37, if_neg (show ¬ (w >>> ((1 : Int32) &&& 31) &&& 1) = 1 from h51)], show w1m c (w >>> ((2 : Int32) &&& 31)) = abs32 c by rw [w1m, if_pos h76, if_neg (show ¬ (w >>> ((2 : Int32) &&& 31)) = 1 from h88)]], rfl⟩
                · refine g_iconst (1) 92 dX8_weighsOf_91 rfl (by decide) ?_
                  refine g_goto 96 dX8_weighsOf_92 (by decide) ?_
                  refine g_icmp_ne 106 99 dX8_weighsOf_96 rfl (by decide) (fun h96 => ?_) (fun h96 => ?_)
                  · refine g_iconst (0) 107 dX8_weighsOf_106 rfl (by decide) ?_
                    refine g_iadd 108 dX8_weighsOf_107 rfl ?_
                    refine g_iret dX8_weighsOf_108 ?_
                    exact ⟨by rw [wm3, show w1m a (w &&& 1) = 0 by rw [w1m, if_neg h1, if_neg (show ¬ (w &&& 1) = 1 from h13)], show w1m b (w >>> ((1 : Int32) &&& 31) &&& 1) = 0 by rw [w1m, if_neg h37, if_neg (show ¬ (w >>> ((1 : Int32) &&& 31) &&& 1) = 1 from h51)], show w1m c (w >>> ((2 : Int32) &&& 31)) = 0 by rw [w1m, if_pos h76, if_pos (show (w >>> ((2 : Int32) &&& 31)) = 1 from h88)]], rfl⟩
                  · exact absurd h96 (by decide)
              · refine g_iconst (1) 80 dX8_weighsOf_79 rfl (by decide) ?_
                refine g_goto 84 dX8_weighsOf_80 (by decide) ?_
                refine g_iload_n 85 dX8_weighsOf_84 rfl rfl ?_
                refine g_iconst (2) 86 dX8_weighsOf_85 rfl (by decide) ?_
                refine g_ishr 87 dX8_weighsOf_86 rfl ?_
                refine g_iconst (1) 88 dX8_weighsOf_87 rfl (by decide) ?_
                refine g_icmp_ne 95 91 dX8_weighsOf_88 rfl (by decide) (fun h88 => ?_) (fun h88 => ?_)
                · refine g_iconst (0) 96 dX8_weighsOf_95 rfl (by decide) ?_
                  refine g_icmp_ne 106 99 dX8_weighsOf_96 rfl (by decide) (fun h96 => ?_) (fun h96 => ?_)
                  · refine g_iconst (0) 107 dX8_weighsOf_106 rfl (by decide) ?_
                    refine g_iadd 108 dX8_weighsOf_107 rfl ?_
                    refine g_iret dX8_weighsOf_108 ?_
                    exact ⟨by rw [wm3, show w1m a (w &&& 1) = 0 by rw [w1m, if_neg h1, if_neg (show ¬ (w &&& 1) = 1 from h13)], show w1m b (w >>> ((1 : Int32) &&& 31) &&& 1) = 0 by rw [w1m, if_neg h37, if_neg (show ¬ (w >>> ((1 : Int32) &&& 31) &&& 1) = 1 from h51)], show w1m c (w >>> ((2 : Int32) &&& 31)) = 0 by rw [w1m, if_neg h76, if_neg (show ¬ (w >>> ((2 : Int32) &&& 31)) = 1 from h88)]], rfl⟩
                  · exact absurd h96 (by decide)
                · refine g_iconst (1) 92 dX8_weighsOf_91 rfl (by decide) ?_
                  refine g_goto 96 dX8_weighsOf_92 (by decide) ?_
                  refine g_icmp_ne 106 99 dX8_weighsOf_96 rfl (by decide) (fun h96 => ?_) (fun h96 => ?_)
                  · exact absurd h96 (by decide)
                  · refine g_iload_n 100 dX8_weighsOf_99 rfl rfl ?_
                    refine g_s1 103 dX8_weighsOf_100 rfl kl_X8_119 ms_X8_size ⟨Nat.le_of_ble_eq_true rfl, Nat.le_of_ble_eq_true rfl⟩ (Nat.le_of_ble_eq_true rfl) (m_size g l _ _) ?_
                    rintro _ _ ⟨rfl, rfl⟩
                    refine g_goto 107 dX8_weighsOf_103 (by decide) ?_
                    refine g_iadd 108 dX8_weighsOf_107 rfl ?_
                    refine g_iret dX8_weighsOf_108 ?_
                    exact ⟨by rw [wm3, show w1m a (w &&& 1) = 0 by rw [w1m, if_neg h1, if_neg (show ¬ (w &&& 1) = 1 from h13)], show w1m b (w >>> ((1 : Int32) &&& 31) &&& 1) = 0 by rw [w1m, if_neg h37, if_neg (show ¬ (w >>> ((1 : Int32) &&& 31) &&& 1) = 1 from h51)], show w1m c (w >>> ((2 : Int32) &&& 31)) = abs32 c by rw [w1m, if_neg h76, if_pos (show (w >>> ((2 : Int32) &&& 31)) = 1 from h88)]], rfl⟩
            · exact absurd h59 (by decide)
          · refine g_iconst (1) 55 dX8_weighsOf_54 rfl (by decide) ?_
            refine g_goto 59 dX8_weighsOf_55 (by decide) ?_
            refine g_icmp_ne 69 62 dX8_weighsOf_59 rfl (by decide) (fun h59 => ?_) (fun h59 => ?_)
            · exact absurd h59 (by decide)
            · refine g_iload_n 63 dX8_weighsOf_62 rfl rfl ?_
              refine g_s1 66 dX8_weighsOf_63 rfl kl_X8_119 ms_X8_size ⟨Nat.le_of_ble_eq_true rfl, Nat.le_of_ble_eq_true rfl⟩ (Nat.le_of_ble_eq_true rfl) (m_size g l _ _) ?_
              rintro _ _ ⟨rfl, rfl⟩
              refine g_goto 70 dX8_weighsOf_66 (by decide) ?_
              refine g_iadd 71 dX8_weighsOf_70 rfl ?_
              refine g_istore 73 dX8_weighsOf_71 rfl (by decide) ?_
              refine g_iload 75 dX8_weighsOf_73 rfl rfl ?_
              refine g_iload_n 76 dX8_weighsOf_75 rfl rfl ?_
              refine g_if_le 83 79 dX8_weighsOf_76 rfl (by decide) (fun h76 => ?_) (fun h76 => ?_)
              · refine g_iconst (0) 84 dX8_weighsOf_83 rfl (by decide) ?_
                refine g_iload_n 85 dX8_weighsOf_84 rfl rfl ?_
                refine g_iconst (2) 86 dX8_weighsOf_85 rfl (by decide) ?_
                refine g_ishr 87 dX8_weighsOf_86 rfl ?_
                refine g_iconst (1) 88 dX8_weighsOf_87 rfl (by decide) ?_
                refine g_icmp_ne 95 91 dX8_weighsOf_88 rfl (by decide) (fun h88 => ?_) (fun h88 => ?_)
                · refine g_iconst (0) 96 dX8_weighsOf_95 rfl (by decide) ?_
                  refine g_icmp_ne 106 99 dX8_weighsOf_96 rfl (by decide) (fun h96 => ?_) (fun h96 => ?_)
                  · exact absurd h96 (by decide)
                  · refine g_iload_n 100 dX8_weighsOf_99 rfl rfl ?_
                    refine g_s1 103 dX8_weighsOf_100 rfl kl_X8_119 ms_X8_size ⟨Nat.le_of_ble_eq_true rfl, Nat.le_of_ble_eq_true rfl⟩ (Nat.le_of_ble_eq_true rfl) (m_size g l _ _) ?_
                    rintro _ _ ⟨rfl, rfl⟩
                    refine g_goto 107 dX8_weighsOf_103 (by decide) ?_
                    refine g_iadd 108 dX8_weighsOf_107 rfl ?_
                    refine g_iret dX8_weighsOf_108 ?_
                    exact ⟨by rw [wm3, show w1m a (w &&& 1) = 0 by rw [w1m, if_neg h1, if_neg (show ¬ (w &&& 1) = 1 from h13)], show w1m b (w >>> ((1 : Int32) &&& 31) &&& 1) = abs32 b by rw [w1m, if_neg h37, if_pos (show (w >>> ((1 : Int32) &&& 31) &&& 1) = 1 from h51)], show w1m c (w >>> ((2 : Int32) &&& 31)) = abs32 c by rw [w1m, if_pos h76, if_neg (show ¬ (w >>> ((2 : Int32) &&& 31)) = 1 from h88)]], rfl⟩
                · refine g_iconst (1) 92 dX8_weighsOf_91 rfl (by decide) ?_
                  refine g_goto 96 dX8_weighsOf_92 (by decide) ?_
                  refine g_icmp_ne 106 99 dX8_weighsOf_96 rfl (by decide) (fun h96 => ?_) (fun h96 => ?_)
                  · refine g_iconst (0) 107 dX8_weighsOf_106 rfl (by decide) ?_
                    refine g_iadd 108 dX8_weighsOf_107 rfl ?_
                    refine g_iret dX8_weighsOf_108 ?_
                    exact ⟨by rw [wm3, show w1m a (w &&& 1) = 0 by rw [w1m, if_neg h1, if_neg (show ¬ (w &&& 1) = 1 from h13)], show w1m b (w >>> ((1 : Int32) &&& 31) &&& 1) = abs32 b by rw [w1m, if_neg h37, if_pos (show (w >>> ((1 : Int32) &&& 31) &&& 1) = 1 from h51)], show w1m c (w >>> ((2 : Int32) &&& 31)) = 0 by rw [w1m, if_pos h76, if_pos (show (w >>> ((2 : Int32) &&& 31)) = 1 from h88)]], rfl⟩
                  · exact absurd h96 (by decide)
              · refine g_iconst (1) 80 dX8_weighsOf_79 rfl (by decide) ?_
                refine g_goto 84 dX8_weighsOf_80 (by decide) ?_
                refine g_iload_n 85 dX8_weighsOf_84 rfl rfl ?_
                refine g_iconst (2) 86 dX8_weighsOf_85 rfl (by decide) ?_
                refine g_ishr 87 dX8_weighsOf_86 rfl ?_
                refine g_iconst (1) 88 dX8_weighsOf_87 rfl (by decide) ?_
                refine g_icmp_ne 95 91 dX8_weighsOf_88 rfl (by decide) (fun h88 => ?_) (fun h88 => ?_)
                · refine g_iconst (0) 96 dX8_weighsOf_95 rfl (by decide) ?_
                  refine g_icmp_ne 106 99 dX8_weighsOf_96 rfl (by decide) (fun h96 => ?_) (fun h96 => ?_)
                  · refine g_iconst (0) 107 dX8_weighsOf_106 rfl (by decide) ?_
                    refine g_iadd 108 dX8_weighsOf_107 rfl ?_
                    refine g_iret dX8_weighsOf_108 ?_
                    exact ⟨by rw [wm3, show w1m a (w &&& 1) = 0 by rw [w1m, if_neg h1, if_neg (show ¬ (w &&& 1) = 1 from h13)], show w1m b (w >>> ((1 : Int32) &&& 31) &&& 1) = abs32 b by rw [w1m, if_neg h37, if_pos (show (w >>> ((1 : Int32) &&& 31) &&& 1) = 1 from h51)], show w1m c (w >>> ((2 : Int32) &&& 31)) = 0 by rw [w1m, if_neg h76, if_neg (show ¬ (w >>> ((2 : Int32) &&& 31)) = 1 from h88)]], rfl⟩
                  · exact absurd h96 (by decide)
                · refine g_iconst (1) 92 dX8_weighsOf_91 rfl (by decide) ?_
                  refine g_goto 96 dX8_weighsOf_92 (by decide) ?_
                  refine g_icmp_ne 106 99 dX8_weighsOf_96 rfl (by decide) (fun h96 => ?_) (fun h96 => ?_)
                  · exact absurd h96 (by decide)
                  · refine g_iload_n 100 dX8_weighsOf_99 rfl rfl ?_
                    refine g_s1 103 dX8_weighsOf_100 rfl kl_X8_119 ms_X8_size ⟨Nat.le_of_ble_eq_true rfl, Nat.le_of_ble_eq_true rfl⟩ (Nat.le_of_ble_eq_true rfl) (m_size g l _ _) ?_
                    rintro _ _ ⟨rfl, rfl⟩
                    refine g_goto 107 dX8_weighsOf_103 (by decide) ?_
                    refine g_iadd 108 dX8_weighsOf_107 rfl ?_
                    refine g_iret dX8_weighsOf_108 ?_
                    exact ⟨by rw [wm3, show w1m a (w &&& 1) = 0 by rw [w1m, if_neg h1, if_neg (show ¬ (w &&& 1) = 1 from h13)], show w1m b (w >>> ((1 : Int32) &&& 31) &&& 1) = abs32 b by rw [w1m, if_neg h37, if_pos (show (w >>> ((1 : Int32) &&& 31) &&& 1) = 1 from h51)], show w1m c (w >>> ((2 : Int32) &&& 31)) = abs32 c by rw [w1m, if_neg h76, if_pos (show (w >>> ((2 : Int32) &&& 31)) = 1 from h88)]], rfl⟩
      · exact absurd h21 (by decide)
    · refine g_iconst (1) 17 dX8_weighsOf_16 rfl (by decide) ?_
      refine g_goto 21 dX8_weighsOf_17 (by decide) ?_
      refine g_icmp_ne 31 24 dX8_weighsOf_21 rfl (by decide) (fun h21 => ?_) (fun h21 => ?_)
      · exact absurd h21 (by decide)
      · refine g_iload_n 25 dX8_weighsOf_24 rfl rfl ?_
        refine g_s1 28 dX8_weighsOf_25 rfl kl_X8_119 ms_X8_size ⟨Nat.le_of_ble_eq_true rfl, Nat.le_of_ble_eq_true rfl⟩ (Nat.le_of_ble_eq_true rfl) (m_size g l _ _) ?_
        rintro _ _ ⟨rfl, rfl⟩
        refine g_goto 32 dX8_weighsOf_28 (by decide) ?_
        refine g_istore 34 dX8_weighsOf_32 rfl (by decide) ?_
        refine g_iload 36 dX8_weighsOf_34 rfl rfl ?_
        refine g_iload_n 37 dX8_weighsOf_36 rfl rfl ?_
        refine g_if_le 44 40 dX8_weighsOf_37 rfl (by decide) (fun h37 => ?_) (fun h37 => ?_)
        · refine g_iconst (0) 45 dX8_weighsOf_44 rfl (by decide) ?_
          refine g_iload_n 46 dX8_weighsOf_45 rfl rfl ?_
          refine g_iconst (1) 47 dX8_weighsOf_46 rfl (by decide) ?_
          refine g_ishr 48 dX8_weighsOf_47 rfl ?_
          refine g_iconst (1) 49 dX8_weighsOf_48 rfl (by decide) ?_
          refine g_iand 50 dX8_weighsOf_49 rfl ?_
          refine g_iconst (1) 51 dX8_weighsOf_50 rfl (by decide) ?_
          refine g_icmp_ne 58 54 dX8_weighsOf_51 rfl (by decide) (fun h51 => ?_) (fun h51 => ?_)
          · refine g_iconst (0) 59 dX8_weighsOf_58 rfl (by decide) ?_
            refine g_icmp_ne 69 62 dX8_weighsOf_59 rfl (by decide) (fun h59 => ?_) (fun h59 => ?_)
            · exact absurd h59 (by decide)
            · refine g_iload_n 63 dX8_weighsOf_62 rfl rfl ?_
              refine g_s1 66 dX8_weighsOf_63 rfl kl_X8_119 ms_X8_size ⟨Nat.le_of_ble_eq_true rfl, Nat.le_of_ble_eq_true rfl⟩ (Nat.le_of_ble_eq_true rfl) (m_size g l _ _) ?_
              rintro _ _ ⟨rfl, rfl⟩
              refine g_goto 70 dX8_weighsOf_66 (by decide) ?_
              refine g_iadd 71 dX8_weighsOf_70 rfl ?_
              refine g_istore 73 dX8_weighsOf_71 rfl (by decide) ?_
              refine g_iload 75 dX8_weighsOf_73 rfl rfl ?_
              refine g_iload_n 76 dX8_weighsOf_75 rfl rfl ?_
              refine g_if_le 83 79 dX8_weighsOf_76 rfl (by decide) (fun h76 => ?_) (fun h76 => ?_)
              · refine g_iconst (0) 84 dX8_weighsOf_83 rfl (by decide) ?_
                refine g_iload_n 85 dX8_weighsOf_84 rfl rfl ?_
                refine g_iconst (2) 86 dX8_weighsOf_85 rfl (by decide) ?_
                refine g_ishr 87 dX8_weighsOf_86 rfl ?_
                refine g_iconst (1) 88 dX8_weighsOf_87 rfl (by decide) ?_
                refine g_icmp_ne 95 91 dX8_weighsOf_88 rfl (by decide) (fun h88 => ?_) (fun h88 => ?_)
                · refine g_iconst (0) 96 dX8_weighsOf_95 rfl (by decide) ?_
                  refine g_icmp_ne 106 99 dX8_weighsOf_96 rfl (by decide) (fun h96 => ?_) (fun h96 => ?_)
                  · exact absurd h96 (by decide)
                  · refine g_iload_n 100 dX8_weighsOf_99 rfl rfl ?_
                    refine g_s1 103 dX8_weighsOf_100 rfl kl_X8_119 ms_X8_size ⟨Nat.le_of_ble_eq_true rfl, Nat.le_of_ble_eq_true rfl⟩ (Nat.le_of_ble_eq_true rfl) (m_size g l _ _) ?_
                    rintro _ _ ⟨rfl, rfl⟩
                    refine g_goto 107 dX8_weighsOf_103 (by decide) ?_
                    refine g_iadd 108 dX8_weighsOf_107 rfl ?_
                    refine g_iret dX8_weighsOf_108 ?_
                    exact ⟨by rw [wm3, show w1m a (w &&& 1) = abs32 a by rw [w1m, if_neg h1, if_pos (show (w &&& 1) = 1 from h13)], show w1m b (w >>> ((1 : Int32) &&& 31) &&& 1) = abs32 b by rw [w1m, if_pos h37, if_neg (show ¬ (w >>> ((1 : Int32) &&& 31) &&& 1) = 1 from h51)], show w1m c (w >>> ((2 : Int32) &&& 31)) = abs32 c by rw [w1m, if_pos h76, if_neg (show ¬ (w >>> ((2 : Int32) &&& 31)) = 1 from h88)]], rfl⟩
                · refine g_iconst (1) 92 dX8_weighsOf_91 rfl (by decide) ?_
                  refine g_goto 96 dX8_weighsOf_92 (by decide) ?_
                  refine g_icmp_ne 106 99 dX8_weighsOf_96 rfl (by decide) (fun h96 => ?_) (fun h96 => ?_)
                  · refine g_iconst (0) 107 dX8_weighsOf_106 rfl (by decide) ?_
                    refine g_iadd 108 dX8_weighsOf_107 rfl ?_
                    refine g_iret dX8_weighsOf_108 ?_
                    exact ⟨by rw [wm3, show w1m a (w &&& 1) = abs32 a by rw [w1m, if_neg h1, if_pos (show (w &&& 1) = 1 from h13)], show w1m b (w >>> ((1 : Int32) &&& 31) &&& 1) = abs32 b by rw [w1m, if_pos h37, if_neg (show ¬ (w >>> ((1 : Int32) &&& 31) &&& 1) = 1 from h51)], show w1m c (w >>> ((2 : Int32) &&& 31)) = 0 by rw [w1m, if_pos h76, if_pos (show (w >>> ((2 : Int32) &&& 31)) = 1 from h88)]], rfl⟩
                  · exact absurd h96 (by decide)
              · refine g_iconst (1) 80 dX8_weighsOf_79 rfl (by decide) ?_
                refine g_goto 84 dX8_weighsOf_80 (by decide) ?_
                refine g_iload_n 85 dX8_weighsOf_84 rfl rfl ?_
                refine g_iconst (2) 86 dX8_weighsOf_85 rfl (by decide) ?_
                refine g_ishr 87 dX8_weighsOf_86 rfl ?_
                refine g_iconst (1) 88 dX8_weighsOf_87 rfl (by decide) ?_
                refine g_icmp_ne 95 91 dX8_weighsOf_88 rfl (by decide) (fun h88 => ?_) (fun h88 => ?_)
                · refine g_iconst (0) 96 dX8_weighsOf_95 rfl (by decide) ?_
                  refine g_icmp_ne 106 99 dX8_weighsOf_96 rfl (by decide) (fun h96 => ?_) (fun h96 => ?_)
                  · refine g_iconst (0) 107 dX8_weighsOf_106 rfl (by decide) ?_
                    refine g_iadd 108 dX8_weighsOf_107 rfl ?_
                    refine g_iret dX8_weighsOf_108 ?_
                    exact ⟨by rw [wm3, show w1m a (w &&& 1) = abs32 a by rw [w1m, if_neg h1, if_pos (show (w &&& 1) = 1 from h13)], show w1m b (w >>> ((1 : Int32) &&& 31) &&& 1) = abs32 b by rw [w1m, if_pos h37, if_neg (show ¬ (w >>> ((1 : Int32) &&& 31) &&& 1) = 1 from h51)], show w1m c (w >>> ((2 : Int32) &&& 31)) = 0 by rw [w1m, if_neg h76, if_neg (show ¬ (w >>> ((2 : Int32) &&& 31)) = 1 from h88)]], rfl⟩
                  · exact absurd h96 (by decide)
                · refine g_iconst (1) 92 dX8_weighsOf_91 rfl (by decide) ?_
                  refine g_goto 96 dX8_weighsOf_92 (by decide) ?_
                  refine g_icmp_ne 106 99 dX8_weighsOf_96 rfl (by decide) (fun h96 => ?_) (fun h96 => ?_)
                  · exact absurd h96 (by decide)
                  · refine g_iload_n 100 dX8_weighsOf_99 rfl rfl ?_
                    refine g_s1 103 dX8_weighsOf_100 rfl kl_X8_119 ms_X8_size ⟨Nat.le_of_ble_eq_true rfl, Nat.le_of_ble_eq_true rfl⟩ (Nat.le_of_ble_eq_true rfl) (m_size g l _ _) ?_
                    rintro _ _ ⟨rfl, rfl⟩
                    refine g_goto 107 dX8_weighsOf_103 (by decide) ?_
                    refine g_iadd 108 dX8_weighsOf_107 rfl ?_
                    refine g_iret dX8_weighsOf_108 ?_
                    exact ⟨by rw [wm3, show w1m a (w &&& 1) = abs32 a by rw [w1m, if_neg h1, if_pos (show (w &&& 1) = 1 from h13)], show w1m b (w >>> ((1 : Int32) &&& 31) &&& 1) = abs32 b by rw [w1m, if_pos h37, if_neg (show ¬ (w >>> ((1 : Int32) &&& 31) &&& 1) = 1 from h51)], show w1m c (w >>> ((2 : Int32) &&& 31)) = abs32 c by rw [w1m, if_neg h76, if_pos (show (w >>> ((2 : Int32) &&& 31)) = 1 from h88)]], rfl⟩
          · refine g_iconst (1) 55 dX8_weighsOf_54 rfl (by decide) ?_
            refine g_goto 59 dX8_weighsOf_55 (by decide) ?_
            refine g_icmp_ne 69 62 dX8_weighsOf_59 rfl (by decide) (fun h59 => ?_) (fun h59 => ?_)
            · refine g_iconst (0) 70 dX8_weighsOf_69 rfl (by decide) ?_
              refine g_iadd 71 dX8_weighsOf_70 rfl ?_
              refine g_istore 73 dX8_weighsOf_71 rfl (by decide) ?_
              refine g_iload 75 dX8_weighsOf_73 rfl rfl ?_
              refine g_iload_n 76 dX8_weighsOf_75 rfl rfl ?_
              refine g_if_le 83 79 dX8_weighsOf_76 rfl (by decide) (fun h76 => ?_) (fun h76 => ?_)
              · refine g_iconst (0) 84 dX8_weighsOf_83 rfl (by decide) ?_
                refine g_iload_n 85 dX8_weighsOf_84 rfl rfl ?_
                refine g_iconst (2) 86 dX8_weighsOf_85 rfl (by decide) ?_
                refine g_ishr 87 dX8_weighsOf_86 rfl ?_
                refine g_iconst (1) 88 dX8_weighsOf_87 rfl (by decide) ?_
                refine g_icmp_ne 95 91 dX8_weighsOf_88 rfl (by decide) (fun h88 => ?_) (fun h88 => ?_)
                · refine g_iconst (0) 96 dX8_weighsOf_95 rfl (by decide) ?_
                  refine g_icmp_ne 106 99 dX8_weighsOf_96 rfl (by decide) (fun h96 => ?_) (fun h96 => ?_)
                  · exact absurd h96 (by decide)
                  · refine g_iload_n 100 dX8_weighsOf_99 rfl rfl ?_
                    refine g_s1 103 dX8_weighsOf_100 rfl kl_X8_119 ms_X8_size ⟨Nat.le_of_ble_eq_true rfl, Nat.le_of_ble_eq_true rfl⟩ (Nat.le_of_ble_eq_true rfl) (m_size g l _ _) ?_
                    rintro _ _ ⟨rfl, rfl⟩
                    refine g_goto 107 dX8_weighsOf_103 (by decide) ?_
                    refine g_iadd 108 dX8_weighsOf_107 rfl ?_
                    refine g_iret dX8_weighsOf_108 ?_
                    exact ⟨by rw [wm3, show w1m a (w &&& 1) = abs32 a by rw [w1m, if_neg h1, if_pos (show (w &&& 1) = 1 from h13)], show w1m b (w >>> ((1 : Int32) &&& 31) &&& 1) = 0 by rw [w1m, if_pos h37, if_pos (show (w >>> ((1 : Int32) &&& 31) &&& 1) = 1 from h51)], show w1m c (w >>> ((2 : Int32) &&& 31)) = abs32 c by rw [w1m, if_pos h76, if_neg (show ¬ (w >>> ((2 : Int32) &&& 31)) = 1 from h88)]], rfl⟩
                · refine g_iconst (1) 92 dX8_weighsOf_91 rfl (by decide) ?_
                  refine g_goto 96 dX8_weighsOf_92 (by decide) ?_
                  refine g_icmp_ne 106 99 dX8_weighsOf_96 rfl (by decide) (fun h96 => ?_) (fun h96 => ?_)
                  · refine g_iconst (0) 107 dX8_weighsOf_106 rfl (by decide) ?_
                    refine g_iadd 108 dX8_weighsOf_107 rfl ?_
                    refine g_iret dX8_weighsOf_108 ?_
                    exact ⟨by rw [wm3, show w1m a (w &&& 1) = abs32 a by rw [w1m, if_neg h1, if_pos (show (w &&& 1) = 1 from h13)], show w1m b (w >>> ((1 : Int32) &&& 31) &&& 1) = 0 by rw [w1m, if_pos h37, if_pos (show (w >>> ((1 : Int32) &&& 31) &&& 1) = 1 from h51)], show w1m c (w >>> ((2 : Int32) &&& 31)) = 0 by rw [w1m, if_pos h76, if_pos (show (w >>> ((2 : Int32) &&& 31)) = 1 from h88)]], rfl⟩
                  · exact absurd h96 (by decide)
              · refine g_iconst (1) 80 dX8_weighsOf_79 rfl (by decide) ?_
                refine g_goto 84 dX8_weighsOf_80 (by decide) ?_
                refine g_iload_n 85 dX8_weighsOf_84 rfl rfl ?_
                refine g_iconst (2) 86 dX8_weighsOf_85 rfl (by decide) ?_
                refine g_ishr 87 dX8_weighsOf_86 rfl ?_
                refine g_iconst (1) 88 dX8_weighsOf_87 rfl (by decide) ?_
                refine g_icmp_ne 95 91 dX8_weighsOf_88 rfl (by decide) (fun h88 => ?_) (fun h88 => ?_)
                · refine g_iconst (0) 96 dX8_weighsOf_95 rfl (by decide) ?_
                  refine g_icmp_ne 106 99 dX8_weighsOf_96 rfl (by decide) (fun h96 => ?_) (fun h96 => ?_)
                  · refine g_iconst (0) 107 dX8_weighsOf_106 rfl (by decide) ?_
                    refine g_iadd 108 dX8_weighsOf_107 rfl ?_
                    refine g_iret dX8_weighsOf_108 ?_
                    exact ⟨by rw [wm3, show w1m a (w &&& 1) = abs32 a by rw [w1m, if_neg h1, if_pos (show (w &&& 1) = 1 from h13)], show w1m b (w >>> ((1 : Int32) &&& 31) &&& 1) = 0 by rw [w1m, if_pos h37, if_pos (show (w >>> ((1 : Int32) &&& 31) &&& 1) = 1 from h51)], show w1m c (w >>> ((2 : Int32) &&& 31)) = 0 by rw [w1m, if_neg h76, if_neg (show ¬ (w >>> ((2 : Int32) &&& 31)) = 1 from h88)]], rfl⟩
                  · exact absurd h96 (by decide)
                · refine g_iconst (1) 92 dX8_weighsOf_91 rfl (by decide) ?_
                  refine g_goto 96 dX8_weighsOf_92 (by decide) ?_
                  refine g_icmp_ne 106 99 dX8_weighsOf_96 rfl (by decide) (fun h96 => ?_) (fun h96 => ?_)
                  · exact absurd h96 (by decide)
                  · refine g_iload_n 100 dX8_weighsOf_99 rfl rfl ?_
                    refine g_s1 103 dX8_weighsOf_100 rfl kl_X8_119 ms_X8_size ⟨Nat.le_of_ble_eq_true rfl, Nat.le_of_ble_eq_true rfl⟩ (Nat.le_of_ble_eq_true rfl) (m_size g l _ _) ?_
                    rintro _ _ ⟨rfl, rfl⟩
                    refine g_goto 107 dX8_weighsOf_103 (by decide) ?_
                    refine g_iadd 108 dX8_weighsOf_107 rfl ?_
                    refine g_iret dX8_weighsOf_108 ?_
                    exact ⟨by rw [wm3, show w1m a (w &&& 1) = abs32 a by rw [w1m, if_neg h1, if_pos (show (w &&& 1) = 1 from h13)], show w1m b (w >>> ((1 : Int32) &&& 31) &&& 1) = 0 by rw [w1m, if_pos h37, if_pos (show (w >>> ((1 : Int32) &&& 31) &&& 1) = 1 from h51)], show w1m c (w >>> ((2 : Int32) &&& 31)) = abs32 c by rw [w1m, if_neg h76, if_pos (show (w >>> ((2 : Int32) &&& 31)) = 1 from h88)]], rfl⟩
            · exact absurd h59 (by decide)
        · refine g_iconst (1) 41 dX8_weighsOf_40 rfl (by decide) ?_
          refine g_goto 45 dX8_weighsOf_41 (by decide) ?_
          refine g_iload_n 46 dX8_weighsOf_45 rfl rfl ?_
          refine g_iconst (1) 47 dX8_weighsOf_46 rfl (by decide) ?_
          refine g_ishr 48 dX8_weighsOf_47 rfl ?_
          refine g_iconst (1) 49 dX8_weighsOf_48 rfl (by decide) ?_
          refine g_iand 50 dX8_weighsOf_49 rfl ?_
          refine g_iconst (1) 51 dX8_weighsOf_50 rfl (by decide) ?_
          refine g_icmp_ne 58 54 dX8_weighsOf_51 rfl (by decide) (fun h51 => ?_) (fun h51 => ?_)
          · refine g_iconst (0) 59 dX8_weighsOf_58 rfl (by decide) ?_
            refine g_icmp_ne 69 62 dX8_weighsOf_59 rfl (by decide) (fun h59 => ?_) (fun h59 => ?_)
            · refine g_iconst (0) 70 dX8_weighsOf_69 rfl (by decide) ?_
              refine g_iadd 71 dX8_weighsOf_70 rfl ?_
              refine g_istore 73 dX8_weighsOf_71 rfl (by decide) ?_
              refine g_iload 75 dX8_weighsOf_73 rfl rfl ?_
              refine g_iload_n 76 dX8_weighsOf_75 rfl rfl ?_
              refine g_if_le 83 79 dX8_weighsOf_76 rfl (by decide) (fun h76 => ?_) (fun h76 => ?_)
              · refine g_iconst (0) 84 dX8_weighsOf_83 rfl (by decide) ?_
                refine g_iload_n 85 dX8_weighsOf_84 rfl rfl ?_
                refine g_iconst (2) 86 dX8_weighsOf_85 rfl (by decide) ?_
                refine g_ishr 87 dX8_weighsOf_86 rfl ?_
                refine g_iconst (1) 88 dX8_weighsOf_87 rfl (by decide) ?_
                refine g_icmp_ne 95 91 dX8_weighsOf_88 rfl (by decide) (fun h88 => ?_) (fun h88 => ?_)
                · refine g_iconst (0) 96 dX8_weighsOf_95 rfl (by decide) ?_
                  refine g_icmp_ne 106 99 dX8_weighsOf_96 rfl (by decide) (fun h96 => ?_) (fun h96 => ?_)
                  · exact absurd h96 (by decide)
                  · refine g_iload_n 100 dX8_weighsOf_99 rfl rfl ?_
                    refine g_s1 103 dX8_weighsOf_100 rfl kl_X8_119 ms_X8_size ⟨Nat.le_of_ble_eq_true rfl, Nat.le_of_ble_eq_true rfl⟩ (Nat.le_of_ble_eq_true rfl) (m_size g l _ _) ?_
                    rintro _ _ ⟨rfl, rfl⟩
                    refine g_goto 107 dX8_weighsOf_103 (by decide) ?_
                    refine g_iadd 108 dX8_weighsOf_107 rfl ?_
                    refine g_iret dX8_weighsOf_108 ?_
                    exact ⟨by rw [wm3, show w1m a (w &&& 1) = abs32 a by rw [w1m, if_neg h1, if_pos (show (w &&& 1) = 1 from h13)], show w1m b (w >>> ((1 : Int32) &&& 31) &&& 1) = 0 by rw [w1m, if_neg h37, if_neg (show ¬ (w >>> ((1 : Int32) &&& 31) &&& 1) = 1 from h51)], show w1m c (w >>> ((2 : Int32) &&& 31)) = abs32 c by rw [w1m, if_pos h76, if_neg (show ¬ (w >>> ((2 : Int32) &&& 31)) = 1 from h88)]], rfl⟩
                · refine g_iconst (1) 92 dX8_weighsOf_91 rfl (by decide) ?_
                  refine g_goto 96 dX8_weighsOf_92 (by decide) ?_
                  refine g_icmp_ne 106 99 dX8_weighsOf_96 rfl (by decide) (fun h96 => ?_) (fun h96 => ?_)
                  · refine g_iconst (0) 107 dX8_weighsOf_106 rfl (by decide) ?_
                    refine g_iadd 108 dX8_weighsOf_107 rfl ?_
                    refine g_iret dX8_weighsOf_108 ?_
                    exact ⟨by rw [wm3, show w1m a (w &&& 1) = abs32 a by rw [w1m, if_neg h1, if_pos (show (w &&& 1) = 1 from h13)], show w1m b (w >>> ((1 : Int32) &&& 31) &&& 1) = 0 by rw [w1m, if_neg h37, if_neg (show ¬ (w >>> ((1 : Int32) &&& 31) &&& 1) = 1 from h51)], show w1m c (w >>> ((2 : Int32) &&& 31)) = 0 by rw [w1m, if_pos h76, if_pos (show (w >>> ((2 : Int32) &&& 31)) = 1 from h88)]], rfl⟩
                  · exact absurd h96 (by decide)
              · refine g_iconst (1) 80 dX8_weighsOf_79 rfl (by decide) ?_
                refine g_goto 84 dX8_weighsOf_80 (by decide) ?_
                refine g_iload_n 85 dX8_weighsOf_84 rfl rfl ?_
                refine g_iconst (2) 86 dX8_weighsOf_85 rfl (by decide) ?_
                refine g_ishr 87 dX8_weighsOf_86 rfl ?_
                refine g_iconst (1) 88 dX8_weighsOf_87 rfl (by decide) ?_
                refine g_icmp_ne 95 91 dX8_weighsOf_88 rfl (by decide) (fun h88 => ?_) (fun h88 => ?_)
                · refine g_iconst (0) 96 dX8_weighsOf_95 rfl (by decide) ?_
                  refine g_icmp_ne 106 99 dX8_weighsOf_96 rfl (by decide) (fun h96 => ?_) (fun h96 => ?_)
                  · refine g_iconst (0) 107 dX8_weighsOf_106 rfl (by decide) ?_
                    refine g_iadd 108 dX8_weighsOf_107 rfl ?_
                    refine g_iret dX8_weighsOf_108 ?_
                    exact ⟨by rw [wm3, show w1m a (w &&& 1) = abs32 a by rw [w1m, if_neg h1, if_pos (show (w &&& 1) = 1 from h13)], show w1m b (w >>> ((1 : Int32) &&& 31) &&& 1) = 0 by rw [w1m, if_neg h37, if_neg (show ¬ (w >>> ((1 : Int32) &&& 31) &&& 1) = 1 from h51)], show w1m c (w >>> ((2 : Int32) &&& 31)) = 0 by rw [w1m, if_neg h76, if_neg (show ¬ (w >>> ((2 : Int32) &&& 31)) = 1 from h88)]], rfl⟩
                  · exact absurd h96 (by decide)
                · refine g_iconst (1) 92 dX8_weighsOf_91 rfl (by decide) ?_
                  refine g_goto 96 dX8_weighsOf_92 (by decide) ?_
                  refine g_icmp_ne 106 99 dX8_weighsOf_96 rfl (by decide) (fun h96 => ?_) (fun h96 => ?_)
                  · exact absurd h96 (by decide)
                  · refine g_iload_n 100 dX8_weighsOf_99 rfl rfl ?_
                    refine g_s1 103 dX8_weighsOf_100 rfl kl_X8_119 ms_X8_size ⟨Nat.le_of_ble_eq_true rfl, Nat.le_of_ble_eq_true rfl⟩ (Nat.le_of_ble_eq_true rfl) (m_size g l _ _) ?_
                    rintro _ _ ⟨rfl, rfl⟩
                    refine g_goto 107 dX8_weighsOf_103 (by decide) ?_
                    refine g_iadd 108 dX8_weighsOf_107 rfl ?_
                    refine g_iret dX8_weighsOf_108 ?_
                    exact ⟨by rw [wm3, show w1m a (w &&& 1) = abs32 a by rw [w1m, if_neg h1, if_pos (show (w &&& 1) = 1 from h13)], show w1m b (w >>> ((1 : Int32) &&& 31) &&& 1) = 0 by rw [w1m, if_neg h37, if_neg (show ¬ (w >>> ((1 : Int32) &&& 31) &&& 1) = 1 from h51)], show w1m c (w >>> ((2 : Int32) &&& 31)) = abs32 c by rw [w1m, if_neg h76, if_pos (show (w >>> ((2 : Int32) &&& 31)) = 1 from h88)]], rfl⟩
            · exact absurd h59 (by decide)
          · refine g_iconst (1) 55 dX8_weighsOf_54 rfl (by decide) ?_
            refine g_goto 59 dX8_weighsOf_55 (by decide) ?_
            refine g_icmp_ne 69 62 dX8_weighsOf_59 rfl (by decide) (fun h59 => ?_) (fun h59 => ?_)
            · exact absurd h59 (by decide)
            · refine g_iload_n 63 dX8_weighsOf_62 rfl rfl ?_
              refine g_s1 66 dX8_weighsOf_63 rfl kl_X8_119 ms_X8_size ⟨Nat.le_of_ble_eq_true rfl, Nat.le_of_ble_eq_true rfl⟩ (Nat.le_of_ble_eq_true rfl) (m_size g l _ _) ?_
              rintro _ _ ⟨rfl, rfl⟩
              refine g_goto 70 dX8_weighsOf_66 (by decide) ?_
              refine g_iadd 71 dX8_weighsOf_70 rfl ?_
              refine g_istore 73 dX8_weighsOf_71 rfl (by decide) ?_
              refine g_iload 75 dX8_weighsOf_73 rfl rfl ?_
              refine g_iload_n 76 dX8_weighsOf_75 rfl rfl ?_
              refine g_if_le 83 79 dX8_weighsOf_76 rfl (by decide) (fun h76 => ?_) (fun h76 => ?_)
              · refine g_iconst (0) 84 dX8_weighsOf_83 rfl (by decide) ?_
                refine g_iload_n 85 dX8_weighsOf_84 rfl rfl ?_
                refine g_iconst (2) 86 dX8_weighsOf_85 rfl (by decide) ?_
                refine g_ishr 87 dX8_weighsOf_86 rfl ?_
                refine g_iconst (1) 88 dX8_weighsOf_87 rfl (by decide) ?_
                refine g_icmp_ne 95 91 dX8_weighsOf_88 rfl (by decide) (fun h88 => ?_) (fun h88 => ?_)
                · refine g_iconst (0) 96 dX8_weighsOf_95 rfl (by decide) ?_
                  refine g_icmp_ne 106 99 dX8_weighsOf_96 rfl (by decide) (fun h96 => ?_) (fun h96 => ?_)
                  · exact absurd h96 (by decide)
                  · refine g_iload_n 100 dX8_weighsOf_99 rfl rfl ?_
                    refine g_s1 103 dX8_weighsOf_100 rfl kl_X8_119 ms_X8_size ⟨Nat.le_of_ble_eq_true rfl, Nat.le_of_ble_eq_true rfl⟩ (Nat.le_of_ble_eq_true rfl) (m_size g l _ _) ?_
                    rintro _ _ ⟨rfl, rfl⟩
                    refine g_goto 107 dX8_weighsOf_103 (by decide) ?_
                    refine g_iadd 108 dX8_weighsOf_107 rfl ?_
                    refine g_iret dX8_weighsOf_108 ?_
                    exact ⟨by rw [wm3, show w1m a (w &&& 1) = abs32 a by rw [w1m, if_neg h1, if_pos (show (w &&& 1) = 1 from h13)], show w1m b (w >>> ((1 : Int32) &&& 31) &&& 1) = abs32 b by rw [w1m, if_neg h37, if_pos (show (w >>> ((1 : Int32) &&& 31) &&& 1) = 1 from h51)], show w1m c (w >>> ((2 : Int32) &&& 31)) = abs32 c by rw [w1m, if_pos h76, if_neg (show ¬ (w >>> ((2 : Int32) &&& 31)) = 1 from h88)]], rfl⟩
                · refine g_iconst (1) 92 dX8_weighsOf_91 rfl (by decide) ?_
                  refine g_goto 96 dX8_weighsOf_92 (by decide) ?_
                  refine g_icmp_ne 106 99 dX8_weighsOf_96 rfl (by decide) (fun h96 => ?_) (fun h96 => ?_)
                  · refine g_iconst (0) 107 dX8_weighsOf_106 rfl (by decide) ?_
                    refine g_iadd 108 dX8_weighsOf_107 rfl ?_
                    refine g_iret dX8_weighsOf_108 ?_
                    exact ⟨by rw [wm3, show w1m a (w &&& 1) = abs32 a by rw [w1m, if_neg h1, if_pos (show (w &&& 1) = 1 from h13)], show w1m b (w >>> ((1 : Int32) &&& 31) &&& 1) = abs32 b by rw [w1m, if_neg h37, if_pos (show (w >>> ((1 : Int32) &&& 31) &&& 1) = 1 from h51)], show w1m c (w >>> ((2 : Int32) &&& 31)) = 0 by rw [w1m, if_pos h76, if_pos (show (w >>> ((2 : Int32) &&& 31)) = 1 from h88)]], rfl⟩
                  · exact absurd h96 (by decide)
              · refine g_iconst (1) 80 dX8_weighsOf_79 rfl (by decide) ?_
                refine g_goto 84 dX8_weighsOf_80 (by decide) ?_
                refine g_iload_n 85 dX8_weighsOf_84 rfl rfl ?_
                refine g_iconst (2) 86 dX8_weighsOf_85 rfl (by decide) ?_
                refine g_ishr 87 dX8_weighsOf_86 rfl ?_
                refine g_iconst (1) 88 dX8_weighsOf_87 rfl (by decide) ?_
                refine g_icmp_ne 95 91 dX8_weighsOf_88 rfl (by decide) (fun h88 => ?_) (fun h88 => ?_)
                · refine g_iconst (0) 96 dX8_weighsOf_95 rfl (by decide) ?_
                  refine g_icmp_ne 106 99 dX8_weighsOf_96 rfl (by decide) (fun h96 => ?_) (fun h96 => ?_)
                  · refine g_iconst (0) 107 dX8_weighsOf_106 rfl (by decide) ?_
                    refine g_iadd 108 dX8_weighsOf_107 rfl ?_
                    refine g_iret dX8_weighsOf_108 ?_
                    exact ⟨by rw [wm3, show w1m a (w &&& 1) = abs32 a by rw [w1m, if_neg h1, if_pos (show (w &&& 1) = 1 from h13)], show w1m b (w >>> ((1 : Int32) &&& 31) &&& 1) = abs32 b by rw [w1m, if_neg h37, if_pos (show (w >>> ((1 : Int32) &&& 31) &&& 1) = 1 from h51)], show w1m c (w >>> ((2 : Int32) &&& 31)) = 0 by rw [w1m, if_neg h76, if_neg (show ¬ (w >>> ((2 : Int32) &&& 31)) = 1 from h88)]], rfl⟩
                  · exact absurd h96 (by decide)
                · refine g_iconst (1) 92 dX8_weighsOf_91 rfl (by decide) ?_
                  refine g_goto 96 dX8_weighsOf_92 (by decide) ?_
                  refine g_icmp_ne 106 99 dX8_weighsOf_96 rfl (by decide) (fun h96 => ?_) (fun h96 => ?_)
                  · exact absurd h96 (by decide)
                  · refine g_iload_n 100 dX8_weighsOf_99 rfl rfl ?_
                    refine g_s1 103 dX8_weighsOf_100 rfl kl_X8_119 ms_X8_size ⟨Nat.le_of_ble_eq_true rfl, Nat.le_of_ble_eq_true rfl⟩ (Nat.le_of_ble_eq_true rfl) (m_size g l _ _) ?_
                    rintro _ _ ⟨rfl, rfl⟩
                    refine g_goto 107 dX8_weighsOf_103 (by decide) ?_
                    refine g_iadd 108 dX8_weighsOf_107 rfl ?_
                    refine g_iret dX8_weighsOf_108 ?_
                    exact ⟨by rw [wm3, show w1m a (w &&& 1) = abs32 a by rw [w1m, if_neg h1, if_pos (show (w &&& 1) = 1 from h13)], show w1m b (w >>> ((1 : Int32) &&& 31) &&& 1) = abs32 b by rw [w1m, if_neg h37, if_pos (show (w >>> ((1 : Int32) &&& 31) &&& 1) = 1 from h51)], show w1m c (w >>> ((2 : Int32) &&& 31)) = abs32 c by rw [w1m, if_neg h76, if_pos (show (w >>> ((2 : Int32) &&& 31)) = 1 from h88)]], rfl⟩

set_option maxRecDepth 100000 in
set_option maxHeartbeats 4000000 in
theorem lm_fin (g : Gl) (l : Launch) {zc : Option Value → Sg → Prop} (t iz nx a b c : Int32) (S : Sg) {XX : State → Method → Prop} (n : Nat) : ∀ (i : Nat) (ix x y : Int32) (x10 : Option Value), i + n = 8 → ix = nI i → (x, y) = fbM t a b c i → (∀ x9 x10, Gj g l (rmd 2 0 0) XX (QM g zc 0 0) RX8 cX8_fits 11 (some .boolean) 178 [some (.ref 167), some (.int t), some (.int iz), some (.int nx), some (.int a), some (.int b), some (.int c), some (.int (fbM t a b c 8).1), some (.int (fbM t a b c 8).2), x9, x10] [] S 0 0) → Gj g l (rmd 2 0 0) XX (QM g zc 0 0) RX8 cX8_fits 11 (some .boolean) 107 [some (.ref 167), some (.int t), some (.int iz), some (.int nx), some (.int a), some (.int b), some (.int c), some (.int x), some (.int y), some (.int ix), x10] [] S 0 0 := by
  induction n with
  | zero =>
    intro i ix x y x10 hi hx he kk
    obtain rfl : i = 8 := by omega
    subst hx
    rw [← he] at kk
    refine g_iload 109 dX8_fits_107 rfl rfl ?_
    refine g_bipush (8) 111 dX8_fits_109 rfl (by decide) ?_
    refine g_icmp_ge 178 114 dX8_fits_111 rfl (by decide) (fun h111 => ?_) (fun h111 => ?_)
    · exact kk _ _
    · exact absurd (by decide) h111
  | succ n ih =>
    intro i ix x y x10 hi hx he kk
    subst hx
    have ex : x = (fbM t a b c i).1 := by rw [← he]
    have ey : y = (fbM t a b c i).2 := by rw [← he]
    refine g_iload 109 dX8_fits_107 rfl rfl ?_
    refine g_bipush (8) 111 dX8_fits_109 rfl (by decide) ?_
    refine g_icmp_ge 178 114 dX8_fits_111 rfl (by decide) (fun h111 => ?_) (fun h111 => ?_)
    · exact absurd h111 (nI_ge (a := i) (b := 8) (by omega) (by decide))
    · refine g_iload 116 dX8_fits_114 rfl rfl ?_
      refine g_iload 118 dX8_fits_116 rfl rfl ?_
      refine g_iload 120 dX8_fits_118 rfl rfl ?_
      refine g_iload 122 dX8_fits_120 rfl rfl ?_
      refine g_s4 125 dX8_fits_122 rfl kl_X8_181 ms_X8_weighsOf ⟨Nat.le_of_ble_eq_true rfl, Nat.le_of_ble_eq_true rfl⟩ (Nat.le_of_ble_eq_true rfl) (m_weighsOf g l _ _ _ _ _) ?_
      rintro _ _ ⟨rfl, rfl⟩
      refine g_istore 127 dX8_fits_125 rfl (by decide) ?_
      refine g_iload_n 128 dX8_fits_127 rfl rfl ?_
      refine g_iload 130 dX8_fits_128 rfl rfl ?_
      refine g_ishr 131 dX8_fits_130 rfl ?_
      refine g_iconst (1) 132 dX8_fits_131 rfl (by decide) ?_
      refine g_iand 133 dX8_fits_132 rfl ?_
      refine g_iconst (1) 134 dX8_fits_133 rfl (by decide) ?_
      refine g_icmp_ne 156 137 dX8_fits_134 rfl (by decide) (fun h134 => ?_) (fun h134 => ?_)
      · refine g_iload 158 dX8_fits_156 rfl rfl ?_
        refine g_iload 160 dX8_fits_158 rfl rfl ?_
        refine g_icmp_le 168 163 dX8_fits_160 rfl (by decide) (fun h160 => ?_) (fun h160 => ?_)
        · refine g_iload 170 dX8_fits_168 rfl rfl ?_
          refine g_istore 172 dX8_fits_170 rfl (by decide) ?_
          refine g_iinc (1) 175 dX8_fits_172 rfl (by decide) (by decide) rfl ?_
          refine g_goto 107 dX8_fits_175 (by decide) ?_
          exact ih (i + 1) _ _ _ _ (by omega) (nI_succ i).symm (by rw [fbM, ← ex, ← ey, if_neg (show ¬ bt t i = 1 from h134), if_pos h160]) kk
        · refine g_iload 165 dX8_fits_163 rfl rfl ?_
          refine g_goto 170 dX8_fits_165 (by decide) ?_
          refine g_istore 172 dX8_fits_170 rfl (by decide) ?_
          refine g_iinc (1) 175 dX8_fits_172 rfl (by decide) (by decide) rfl ?_
          refine g_goto 107 dX8_fits_175 (by decide) ?_
          exact ih (i + 1) _ _ _ _ (by omega) (nI_succ i).symm (by rw [fbM, ← ex, ← ey, if_neg (show ¬ bt t i = 1 from h134), if_neg h160]) kk
      · refine g_iload 139 dX8_fits_137 rfl rfl ?_
        refine g_iload 141 dX8_fits_139 rfl rfl ?_
        refine g_icmp_ge 149 144 dX8_fits_141 rfl (by decide) (fun h141 => ?_) (fun h141 => ?_)
        · refine g_iload 151 dX8_fits_149 rfl rfl ?_
          refine g_istore 153 dX8_fits_151 rfl (by decide) ?_
          refine g_goto 172 dX8_fits_153 (by decide) ?_
          refine g_iinc (1) 175 dX8_fits_172 rfl (by decide) (by decide) rfl ?_
          refine g_goto 107 dX8_fits_175 (by decide) ?_
          exact ih (i + 1) _ _ _ _ (by omega) (nI_succ i).symm (by rw [fbM, ← ex, ← ey, if_pos (show bt t i = 1 from h134), if_pos h141]) kk
        · refine g_iload 146 dX8_fits_144 rfl rfl ?_
          refine g_goto 151 dX8_fits_146 (by decide) ?_
          refine g_istore 153 dX8_fits_151 rfl (by decide) ?_
          refine g_goto 172 dX8_fits_153 (by decide) ?_
          refine g_iinc (1) 175 dX8_fits_172 rfl (by decide) (by decide) rfl ?_
          refine g_goto 107 dX8_fits_175 (by decide) ?_
          exact ih (i + 1) _ _ _ _ (by omega) (nI_succ i).symm (by rw [fbM, ← ex, ← ey, if_pos (show bt t i = 1 from h134), if_neg h141]) kk

theorem nb01 {x : Int32} (h : x = 0 ∨ x = 1) : narrow .boolean (.int x) = .int x := by
  rcases h with h | h <;> subst h <;> decide
theorem srM_01 (t : Int32) : ∀ n, (srM t n).1 = 0 ∨ (srM t n).1 = 1
  | 0 => Or.inl rfl
  | n + 1 => by
    rw [srM]; split
    · exact Or.inr rfl
    · exact srM_01 t n
set_option maxRecDepth 100000 in
set_option maxHeartbeats 4000000 in
theorem lm_fits (g : Gl) (l : Launch) (t : Int32) (h0 : ¬ t ≤ 0) (h5 : ¬ 255 ≤ t) (F : Nat → Nat → Int32) (J : Nat → Int64) {XX : State → Method → Prop} (n : Nat) : ∀ (i : Nat) (ix iz : Int32) (q : Q5) (x4 x5 x6 x7 x8 x9 x10 : Option Value), i + n = 729 → ix = nI i → (iz, q) = srM t i → Gj g l (rmd 2 0 0) XX (QM g (fun r S2 => r = some (.int (srM t 729).1) ∧ S2 = St (f5 F (srM t 729).2) J) 0 0) RX8 cX8_fits 11 (some .boolean) 52 [some (.ref 167), some (.int t), some (.int iz), some (.int ix), x4, x5, x6, x7, x8, x9, x10] [] (St (f5 F q) J) 0 0 := by
  induction n with
  | zero =>
    intro i ix iz q x4 x5 x6 x7 x8 x9 x10 hi hx he
    obtain rfl : i = 729 := by omega
    subst hx
    refine g_iload_n 53 dX8_fits_52 rfl rfl ?_
    refine g_sipush (729) 56 dX8_fits_53 rfl (by decide) ?_
    refine g_icmp_ge 267 59 dX8_fits_56 rfl (by decide) (fun h56 => ?_) (fun h56 => ?_)
    · refine g_iload_n 268 dX8_fits_267 rfl rfl ?_
      refine g_zret dX8_fits_268 (nb01 (by have h := srM_01 t 729; rw [← he] at h; exact h)) ?_
      exact ⟨by rw [← he], by rw [← he]⟩
    · exact absurd (by decide) h56
  | succ n ih =>
    intro i ix iz q x4 x5 x6 x7 x8 x9 x10 hi hx he
    subst hx
    obtain ⟨q1, q2, q3, q4, q5⟩ := q
    refine g_iload_n 53 dX8_fits_52 rfl rfl ?_
    refine g_sipush (729) 56 dX8_fits_53 rfl (by decide) ?_
    refine g_icmp_ge 267 59 dX8_fits_56 rfl (by decide) (fun h56 => ?_) (fun h56 => ?_)
    · exact absurd h56 (nI_ge (a := i) (b := 729) (by omega) (by decide))
    · refine g_iload_n 60 dX8_fits_59 rfl rfl ?_
      refine g_if_le 267 63 dX8_fits_60 rfl (by decide) (fun h60 => ?_) (fun h60 => ?_)
      · exact absurd h60 h0
      · refine g_iload_n 64 dX8_fits_63 rfl rfl ?_
        refine g_sipush (255) 67 dX8_fits_64 rfl (by decide) ?_
        refine g_icmp_ge 267 70 dX8_fits_67 rfl (by decide) (fun h67 => ?_) (fun h67 => ?_)
        · exact absurd h67 h5
        · refine g_iload_n 71 dX8_fits_70 rfl rfl ?_
          refine g_bipush (81) 73 dX8_fits_71 rfl (by decide) ?_
          refine g_idiv 74 dX8_fits_73 rfl (by decide) ?_
          refine g_iconst (4) 75 dX8_fits_74 rfl (by decide) ?_
          refine g_isub 76 dX8_fits_75 rfl ?_
          refine g_istore 78 dX8_fits_76 rfl (by decide) ?_
          refine g_iload_n 79 dX8_fits_78 rfl rfl ?_
          refine g_bipush (9) 81 dX8_fits_79 rfl (by decide) ?_
          refine g_idiv 82 dX8_fits_81 rfl (by decide) ?_
          refine g_bipush (9) 84 dX8_fits_82 rfl (by decide) ?_
          refine g_irem 85 dX8_fits_84 rfl (by decide) ?_
          refine g_iconst (4) 86 dX8_fits_85 rfl (by decide) ?_
          refine g_isub 87 dX8_fits_86 rfl ?_
          refine g_istore 89 dX8_fits_87 rfl (by decide) ?_
          refine g_iload_n 90 dX8_fits_89 rfl rfl ?_
          refine g_bipush (9) 92 dX8_fits_90 rfl (by decide) ?_
          refine g_irem 93 dX8_fits_92 rfl (by decide) ?_
          refine g_iconst (4) 94 dX8_fits_93 rfl (by decide) ?_
          refine g_isub 95 dX8_fits_94 rfl ?_
          refine g_istore 97 dX8_fits_95 rfl (by decide) ?_
          refine g_bipush (99) 99 dX8_fits_97 rfl (by decide) ?_
          refine g_istore 101 dX8_fits_99 rfl (by decide) ?_
          refine g_iconst (-1) 102 dX8_fits_101 rfl (by decide) ?_
          refine g_istore 104 dX8_fits_102 rfl (by decide) ?_
          refine g_iconst (0) 105 dX8_fits_104 rfl (by decide) ?_
          refine g_istore 107 dX8_fits_105 rfl (by decide) ?_
          refine lm_fin g l t iz (nI i) (aN i) (bN i) (cN i) _ 8 0 _ _ _ _ rfl rfl rfl (fun x9 x10 => ?_)
          refine g_iload 180 dX8_fits_178 rfl rfl ?_
          refine g_s1 183 dX8_fits_180 rfl kl_X8_119 ms_X8_size ⟨Nat.le_of_ble_eq_true rfl, Nat.le_of_ble_eq_true rfl⟩ (Nat.le_of_ble_eq_true rfl) (m_size g l _ _) ?_
          rintro _ _ ⟨rfl, rfl⟩
          refine g_iload 185 dX8_fits_183 rfl rfl ?_
          refine g_s1 188 dX8_fits_185 rfl kl_X8_119 ms_X8_size ⟨Nat.le_of_ble_eq_true rfl, Nat.le_of_ble_eq_true rfl⟩ (Nat.le_of_ble_eq_true rfl) (m_size g l _ _) ?_
          rintro _ _ ⟨rfl, rfl⟩
          refine g_iadd 189 dX8_fits_188 rfl ?_
          refine g_iload 191 dX8_fits_189 rfl rfl ?_
          refine g_s1 194 dX8_fits_191 rfl kl_X8_119 ms_X8_size ⟨Nat.le_of_ble_eq_true rfl, Nat.le_of_ble_eq_true rfl⟩ (Nat.le_of_ble_eq_true rfl) (m_size g l _ _) ?_
          rintro _ _ ⟨rfl, rfl⟩
          refine g_iadd 195 dX8_fits_194 rfl ?_
          refine g_istore 197 dX8_fits_195 rfl (by decide) ?_
          refine g_iload 199 dX8_fits_197 rfl rfl ?_
          refine g_iload 201 dX8_fits_199 rfl rfl ?_
          refine g_icmp_ge 261 204 dX8_fits_201 rfl (by decide) (fun h201 => ?_) (fun h201 => ?_)
          · refine g_iinc (1) 264 dX8_fits_261 rfl (by decide) (by decide) rfl ?_
            refine g_goto 52 dX8_fits_264 (by decide) ?_
            exact ih (i + 1) _ _ _ _ _ _ _ _ _ _ (by omega) (nI_succ i).symm (by rw [srM, if_neg (fun z => z.1 h201)]; exact he)
          · refine g_iload_n 205 dX8_fits_204 rfl rfl ?_
            refine g_if_eq 219 208 dX8_fits_205 rfl (by decide) (fun h205 => ?_) (fun h205 => ?_)
            · refine g_iconst (1) 220 dX8_fits_219 rfl (by decide) ?_
              refine g_istore_n 221 dX8_fits_220 rfl (by decide) ?_
              refine g_aload_n 222 dX8_fits_221 rfl rfl ?_
              refine gf_8_19 225 dX8_fits_222 rfl kf_X8_32 ?_
              refine g_iconst (0) 226 dX8_fits_225 rfl (by decide) ?_
              refine g_iload 228 dX8_fits_226 rfl rfl ?_
              refine ga_ist (0) 229 dX8_fits_228 rfl (by first | decide | assumption | exact ⟨Nat.le_of_ble_eq_true rfl, rfl⟩) rfl (by decide) ?_
              refine g_aload_n 230 dX8_fits_229 rfl rfl ?_
              refine gf_8_19 233 dX8_fits_230 rfl kf_X8_32 ?_
              refine g_iconst (1) 234 dX8_fits_233 rfl (by decide) ?_
              refine g_iload 236 dX8_fits_234 rfl rfl ?_
              refine ga_ist (1) 237 dX8_fits_236 rfl (by first | decide | assumption | exact ⟨Nat.le_of_ble_eq_true rfl, rfl⟩) rfl (by decide) ?_
              refine g_aload_n 238 dX8_fits_237 rfl rfl ?_
              refine gf_8_19 241 dX8_fits_238 rfl kf_X8_32 ?_
              refine g_iconst (2) 242 dX8_fits_241 rfl (by decide) ?_
              refine g_iload 244 dX8_fits_242 rfl rfl ?_
              refine ga_ist (2) 245 dX8_fits_244 rfl (by first | decide | assumption | exact ⟨Nat.le_of_ble_eq_true rfl, rfl⟩) rfl (by decide) ?_
              refine g_aload_n 246 dX8_fits_245 rfl rfl ?_
              refine gf_8_19 249 dX8_fits_246 rfl kf_X8_32 ?_
              refine g_iconst (3) 250 dX8_fits_249 rfl (by decide) ?_
              refine g_iload 252 dX8_fits_250 rfl rfl ?_
              refine ga_ist (3) 253 dX8_fits_252 rfl (by first | decide | assumption | exact ⟨Nat.le_of_ble_eq_true rfl, rfl⟩) rfl (by decide) ?_
              refine g_aload_n 254 dX8_fits_253 rfl rfl ?_
              refine gf_8_19 257 dX8_fits_254 rfl kf_X8_32 ?_
              refine g_iconst (4) 258 dX8_fits_257 rfl (by decide) ?_
              refine g_iload 260 dX8_fits_258 rfl rfl ?_
              refine ga_ist (4) 261 dX8_fits_260 rfl (by first | decide | assumption | exact ⟨Nat.le_of_ble_eq_true rfl, rfl⟩) rfl (by decide) ?_
              refine g_iinc (1) 264 dX8_fits_261 rfl (by decide) (by decide) rfl ?_
              refine g_goto 52 dX8_fits_264 (by decide) ?_
              rw [f5_0, f5_1, f5_2, f5_3, f5_4]
              exact ih (i + 1) _ _ _ _ _ _ _ _ _ _ (by omega) (nI_succ i).symm (by rw [srM, if_pos ⟨h201, Or.inl (by rw [← he]; exact h205)⟩]; rfl)
            · refine g_iload 210 dX8_fits_208 rfl rfl ?_
              refine g_aload_n 211 dX8_fits_210 rfl rfl ?_
              refine gf_8_19 214 dX8_fits_211 rfl kf_X8_32 ?_
              refine g_iconst (4) 215 dX8_fits_214 rfl (by decide) ?_
              refine ga_ild (4) 216 dX8_fits_215 rfl (by first | decide | assumption | exact ⟨Nat.le_of_ble_eq_true rfl, rfl⟩) rfl (by decide) ?_
              refine g_icmp_ge 261 219 dX8_fits_216 rfl (by decide) (fun h216 => ?_) (fun h216 => ?_)
              · refine g_iinc (1) 264 dX8_fits_261 rfl (by decide) (by decide) rfl ?_
                refine g_goto 52 dX8_fits_264 (by decide) ?_
                exact ih (i + 1) _ _ _ _ _ _ _ _ _ _ (by omega) (nI_succ i).symm (by rw [srM, if_neg (fun z => z.2.elim (by rw [← he]; exact h205) (fun y => y (by rw [← he]; exact h216)))]; exact he)
              · refine g_iconst (1) 220 dX8_fits_219 rfl (by decide) ?_
                refine g_istore_n 221 dX8_fits_220 rfl (by decide) ?_
                refine g_aload_n 222 dX8_fits_221 rfl rfl ?_
                refine gf_8_19 225 dX8_fits_222 rfl kf_X8_32 ?_
                refine g_iconst (0) 226 dX8_fits_225 rfl (by decide) ?_
                refine g_iload 228 dX8_fits_226 rfl rfl ?_
                refine ga_ist (0) 229 dX8_fits_228 rfl (by first | decide | assumption | exact ⟨Nat.le_of_ble_eq_true rfl, rfl⟩) rfl (by decide) ?_
                refine g_aload_n 230 dX8_fits_229 rfl rfl ?_
                refine gf_8_19 233 dX8_fits_230 rfl kf_X8_32 ?_
                refine g_iconst (1) 234 dX8_fits_233 rfl (by decide) ?_
                refine g_iload 236 dX8_fits_234 rfl rfl ?_
                refine ga_ist (1) 237 dX8_fits_236 rfl (by first | decide | assumption | exact ⟨Nat.le_of_ble_eq_true rfl, rfl⟩) rfl (by decide) ?_
                refine g_aload_n 238 dX8_fits_237 rfl rfl ?_
                refine gf_8_19 241 dX8_fits_238 rfl kf_X8_32 ?_
                refine g_iconst (2) 242 dX8_fits_241 rfl (by decide) ?_
                refine g_iload 244 dX8_fits_242 rfl rfl ?_
                refine ga_ist (2) 245 dX8_fits_244 rfl (by first | decide | assumption | exact ⟨Nat.le_of_ble_eq_true rfl, rfl⟩) rfl (by decide) ?_
                refine g_aload_n 246 dX8_fits_245 rfl rfl ?_
                refine gf_8_19 249 dX8_fits_246 rfl kf_X8_32 ?_
                refine g_iconst (3) 250 dX8_fits_249 rfl (by decide) ?_
                refine g_iload 252 dX8_fits_250 rfl rfl ?_
                refine ga_ist (3) 253 dX8_fits_252 rfl (by first | decide | assumption | exact ⟨Nat.le_of_ble_eq_true rfl, rfl⟩) rfl (by decide) ?_
                refine g_aload_n 254 dX8_fits_253 rfl rfl ?_
                refine gf_8_19 257 dX8_fits_254 rfl kf_X8_32 ?_
                refine g_iconst (4) 258 dX8_fits_257 rfl (by decide) ?_
                refine g_iload 260 dX8_fits_258 rfl rfl ?_
                refine ga_ist (4) 261 dX8_fits_260 rfl (by first | decide | assumption | exact ⟨Nat.le_of_ble_eq_true rfl, rfl⟩) rfl (by decide) ?_
                refine g_iinc (1) 264 dX8_fits_261 rfl (by decide) (by decide) rfl ?_
                refine g_goto 52 dX8_fits_264 (by decide) ?_
                rw [f5_0, f5_1, f5_2, f5_3, f5_4]
                exact ih (i + 1) _ _ _ _ _ _ _ _ _ _ (by omega) (nI_succ i).symm (by rw [srM, if_pos ⟨h201, Or.inr (by rw [← he]; exact h216)⟩]; rfl)

set_option maxRecDepth 100000 in
set_option maxHeartbeats 4000000 in
theorem fi_z (g : Gl) (l : Launch) {zc : Option Value → Sg → Prop} (t iz : Int32) (ht : t = 0) (F : Nat → Nat → Int32) (J : Nat → Int64) {XX : State → Method → Prop} (x4 x5 x6 x7 x8 x9 x10 : Option Value) (kk : Gj g l (rmd 2 0 0) XX (QM g zc 0 0) RX8 cX8_fits 11 (some .boolean) 52 [some (.ref 167), some (.int t), some (.int iz), some (.int 0), x4, x5, x6, x7, x8, x9, x10] [] (St (f5 F (0, 0, 0, 1, 0)) J) 0 0) : Gj g l (rmd 2 0 0) XX (QM g zc 0 0) RX8 cX8_fits 11 (some .boolean) 19 [some (.ref 167), some (.int t), some (.int iz), some (.int 0), x4, x5, x6, x7, x8, x9, x10] [] (St F J) 0 0 := by
  refine gs_at (congrArg (fun x => St x J) (f5_id F)) ?_
  refine g_iload_n 20 dX8_fits_19 rfl rfl ?_
  refine g_iconst (5) 21 dX8_fits_20 rfl (by decide) ?_
  refine g_icmp_ge 50 24 dX8_fits_21 rfl (by decide) (fun h21 => ?_) (fun h21 => ?_)
  · exact absurd h21 (by decide)
  · refine g_aload_n 25 dX8_fits_24 rfl rfl ?_
    refine gf_8_19 28 dX8_fits_25 rfl kf_X8_32 ?_
    refine g_iload_n 29 dX8_fits_28 rfl rfl ?_
    refine g_iload_n 30 dX8_fits_29 rfl rfl ?_
    refine g_iconst (3) 31 dX8_fits_30 rfl (by decide) ?_
    refine g_icmp_ne 42 34 dX8_fits_31 rfl (by decide) (fun h31 => ?_) (fun h31 => ?_)
    · refine g_iconst (0) 43 dX8_fits_42 rfl (by decide) ?_
      refine ga_ist (0) 44 dX8_fits_43 rfl (by first | decide | assumption | exact ⟨Nat.le_of_ble_eq_true rfl, rfl⟩) rfl (by decide) ?_
      refine g_iinc (1) 47 dX8_fits_44 rfl (by decide) (by decide) rfl ?_
      refine g_goto 19 dX8_fits_47 (by decide) ?_
      refine g_iload_n 20 dX8_fits_19 rfl rfl ?_
      refine g_iconst (5) 21 dX8_fits_20 rfl (by decide) ?_
      refine g_icmp_ge 50 24 dX8_fits_21 rfl (by decide) (fun h21 => ?_) (fun h21 => ?_)
      · exact absurd h21 (by decide)
      · refine g_aload_n 25 dX8_fits_24 rfl rfl ?_
        refine gf_8_19 28 dX8_fits_25 rfl kf_X8_32 ?_
        refine g_iload_n 29 dX8_fits_28 rfl rfl ?_
        refine g_iload_n 30 dX8_fits_29 rfl rfl ?_
        refine g_iconst (3) 31 dX8_fits_30 rfl (by decide) ?_
        refine g_icmp_ne 42 34 dX8_fits_31 rfl (by decide) (fun h31 => ?_) (fun h31 => ?_)
        · refine g_iconst (0) 43 dX8_fits_42 rfl (by decide) ?_
          refine ga_ist (1) 44 dX8_fits_43 rfl (by first | decide | assumption | exact ⟨Nat.le_of_ble_eq_true rfl, rfl⟩) rfl (by decide) ?_
          refine g_iinc (1) 47 dX8_fits_44 rfl (by decide) (by decide) rfl ?_
          refine g_goto 19 dX8_fits_47 (by decide) ?_
          refine g_iload_n 20 dX8_fits_19 rfl rfl ?_
          refine g_iconst (5) 21 dX8_fits_20 rfl (by decide) ?_
          refine g_icmp_ge 50 24 dX8_fits_21 rfl (by decide) (fun h21 => ?_) (fun h21 => ?_)
          · exact absurd h21 (by decide)
          · refine g_aload_n 25 dX8_fits_24 rfl rfl ?_
            refine gf_8_19 28 dX8_fits_25 rfl kf_X8_32 ?_
            refine g_iload_n 29 dX8_fits_28 rfl rfl ?_
            refine g_iload_n 30 dX8_fits_29 rfl rfl ?_
            refine g_iconst (3) 31 dX8_fits_30 rfl (by decide) ?_
            refine g_icmp_ne 42 34 dX8_fits_31 rfl (by decide) (fun h31 => ?_) (fun h31 => ?_)
            · refine g_iconst (0) 43 dX8_fits_42 rfl (by decide) ?_
              refine ga_ist (2) 44 dX8_fits_43 rfl (by first | decide | assumption | exact ⟨Nat.le_of_ble_eq_true rfl, rfl⟩) rfl (by decide) ?_
              refine g_iinc (1) 47 dX8_fits_44 rfl (by decide) (by decide) rfl ?_
              refine g_goto 19 dX8_fits_47 (by decide) ?_
              refine g_iload_n 20 dX8_fits_19 rfl rfl ?_
              refine g_iconst (5) 21 dX8_fits_20 rfl (by decide) ?_
              refine g_icmp_ge 50 24 dX8_fits_21 rfl (by decide) (fun h21 => ?_) (fun h21 => ?_)
              · exact absurd h21 (by decide)
              · refine g_aload_n 25 dX8_fits_24 rfl rfl ?_
                refine gf_8_19 28 dX8_fits_25 rfl kf_X8_32 ?_
                refine g_iload_n 29 dX8_fits_28 rfl rfl ?_
                refine g_iload_n 30 dX8_fits_29 rfl rfl ?_
                refine g_iconst (3) 31 dX8_fits_30 rfl (by decide) ?_
                refine g_icmp_ne 42 34 dX8_fits_31 rfl (by decide) (fun h31 => ?_) (fun h31 => ?_)
                · exact absurd h31 (by decide)
                · refine g_iload_n 35 dX8_fits_34 rfl rfl ?_
                  refine g_if_ne 42 38 dX8_fits_35 rfl (by decide) (fun h35 => ?_) (fun h35 => ?_)
                  · exact absurd ht h35
                  · refine g_iconst (1) 39 dX8_fits_38 rfl (by decide) ?_
                    refine g_goto 43 dX8_fits_39 (by decide) ?_
                    refine ga_ist (3) 44 dX8_fits_43 rfl (by first | decide | assumption | exact ⟨Nat.le_of_ble_eq_true rfl, rfl⟩) rfl (by decide) ?_
                    refine g_iinc (1) 47 dX8_fits_44 rfl (by decide) (by decide) rfl ?_
                    refine g_goto 19 dX8_fits_47 (by decide) ?_
                    refine g_iload_n 20 dX8_fits_19 rfl rfl ?_
                    refine g_iconst (5) 21 dX8_fits_20 rfl (by decide) ?_
                    refine g_icmp_ge 50 24 dX8_fits_21 rfl (by decide) (fun h21 => ?_) (fun h21 => ?_)
                    · exact absurd h21 (by decide)
                    · refine g_aload_n 25 dX8_fits_24 rfl rfl ?_
                      refine gf_8_19 28 dX8_fits_25 rfl kf_X8_32 ?_
                      refine g_iload_n 29 dX8_fits_28 rfl rfl ?_
                      refine g_iload_n 30 dX8_fits_29 rfl rfl ?_
                      refine g_iconst (3) 31 dX8_fits_30 rfl (by decide) ?_
                      refine g_icmp_ne 42 34 dX8_fits_31 rfl (by decide) (fun h31 => ?_) (fun h31 => ?_)
                      · refine g_iconst (0) 43 dX8_fits_42 rfl (by decide) ?_
                        refine ga_ist (4) 44 dX8_fits_43 rfl (by first | decide | assumption | exact ⟨Nat.le_of_ble_eq_true rfl, rfl⟩) rfl (by decide) ?_
                        refine g_iinc (1) 47 dX8_fits_44 rfl (by decide) (by decide) rfl ?_
                        refine g_goto 19 dX8_fits_47 (by decide) ?_
                        refine g_iload_n 20 dX8_fits_19 rfl rfl ?_
                        refine g_iconst (5) 21 dX8_fits_20 rfl (by decide) ?_
                        refine g_icmp_ge 50 24 dX8_fits_21 rfl (by decide) (fun h21 => ?_) (fun h21 => ?_)
                        · refine g_iconst (0) 51 dX8_fits_50 rfl (by decide) ?_
                          refine g_istore_n 52 dX8_fits_51 rfl (by decide) ?_
                          rw [f5_0, f5_1, f5_2, f5_3, f5_4]
                          exact kk
                        · exact absurd h21 (by decide)
                      · exact absurd h31 (by decide)
            · exact absurd h31 (by decide)
        · exact absurd h31 (by decide)
    · exact absurd h31 (by decide)

set_option maxRecDepth 100000 in
set_option maxHeartbeats 4000000 in
theorem fi_n (g : Gl) (l : Launch) {zc : Option Value → Sg → Prop} (t iz : Int32) (ht : ¬ t = 0) (F : Nat → Nat → Int32) (J : Nat → Int64) {XX : State → Method → Prop} (x4 x5 x6 x7 x8 x9 x10 : Option Value) (kk : Gj g l (rmd 2 0 0) XX (QM g zc 0 0) RX8 cX8_fits 11 (some .boolean) 52 [some (.ref 167), some (.int t), some (.int iz), some (.int 0), x4, x5, x6, x7, x8, x9, x10] [] (St (f5 F (0, 0, 0, 0, 0)) J) 0 0) : Gj g l (rmd 2 0 0) XX (QM g zc 0 0) RX8 cX8_fits 11 (some .boolean) 19 [some (.ref 167), some (.int t), some (.int iz), some (.int 0), x4, x5, x6, x7, x8, x9, x10] [] (St F J) 0 0 := by
  refine gs_at (congrArg (fun x => St x J) (f5_id F)) ?_
  refine g_iload_n 20 dX8_fits_19 rfl rfl ?_
  refine g_iconst (5) 21 dX8_fits_20 rfl (by decide) ?_
  refine g_icmp_ge 50 24 dX8_fits_21 rfl (by decide) (fun h21 => ?_) (fun h21 => ?_)
  · exact absurd h21 (by decide)
  · refine g_aload_n 25 dX8_fits_24 rfl rfl ?_
    refine gf_8_19 28 dX8_fits_25 rfl kf_X8_32 ?_
    refine g_iload_n 29 dX8_fits_28 rfl rfl ?_
    refine g_iload_n 30 dX8_fits_29 rfl rfl ?_
    refine g_iconst (3) 31 dX8_fits_30 rfl (by decide) ?_
    refine g_icmp_ne 42 34 dX8_fits_31 rfl (by decide) (fun h31 => ?_) (fun h31 => ?_)
    · refine g_iconst (0) 43 dX8_fits_42 rfl (by decide) ?_
      refine ga_ist (0) 44 dX8_fits_43 rfl (by first | decide | assumption | exact ⟨Nat.le_of_ble_eq_true rfl, rfl⟩) rfl (by decide) ?_
      refine g_iinc (1) 47 dX8_fits_44 rfl (by decide) (by decide) rfl ?_
      refine g_goto 19 dX8_fits_47 (by decide) ?_
      refine g_iload_n 20 dX8_fits_19 rfl rfl ?_
      refine g_iconst (5) 21 dX8_fits_20 rfl (by decide) ?_
      refine g_icmp_ge 50 24 dX8_fits_21 rfl (by decide) (fun h21 => ?_) (fun h21 => ?_)
      · exact absurd h21 (by decide)
      · refine g_aload_n 25 dX8_fits_24 rfl rfl ?_
        refine gf_8_19 28 dX8_fits_25 rfl kf_X8_32 ?_
        refine g_iload_n 29 dX8_fits_28 rfl rfl ?_
        refine g_iload_n 30 dX8_fits_29 rfl rfl ?_
        refine g_iconst (3) 31 dX8_fits_30 rfl (by decide) ?_
        refine g_icmp_ne 42 34 dX8_fits_31 rfl (by decide) (fun h31 => ?_) (fun h31 => ?_)
        · refine g_iconst (0) 43 dX8_fits_42 rfl (by decide) ?_
          refine ga_ist (1) 44 dX8_fits_43 rfl (by first | decide | assumption | exact ⟨Nat.le_of_ble_eq_true rfl, rfl⟩) rfl (by decide) ?_
          refine g_iinc (1) 47 dX8_fits_44 rfl (by decide) (by decide) rfl ?_
          refine g_goto 19 dX8_fits_47 (by decide) ?_
          refine g_iload_n 20 dX8_fits_19 rfl rfl ?_
          refine g_iconst (5) 21 dX8_fits_20 rfl (by decide) ?_
          refine g_icmp_ge 50 24 dX8_fits_21 rfl (by decide) (fun h21 => ?_) (fun h21 => ?_)
          · exact absurd h21 (by decide)
          · refine g_aload_n 25 dX8_fits_24 rfl rfl ?_
            refine gf_8_19 28 dX8_fits_25 rfl kf_X8_32 ?_
            refine g_iload_n 29 dX8_fits_28 rfl rfl ?_
            refine g_iload_n 30 dX8_fits_29 rfl rfl ?_
            refine g_iconst (3) 31 dX8_fits_30 rfl (by decide) ?_
            refine g_icmp_ne 42 34 dX8_fits_31 rfl (by decide) (fun h31 => ?_) (fun h31 => ?_)
            · refine g_iconst (0) 43 dX8_fits_42 rfl (by decide) ?_
              refine ga_ist (2) 44 dX8_fits_43 rfl (by first | decide | assumption | exact ⟨Nat.le_of_ble_eq_true rfl, rfl⟩) rfl (by decide) ?_
              refine g_iinc (1) 47 dX8_fits_44 rfl (by decide) (by decide) rfl ?_
              refine g_goto 19 dX8_fits_47 (by decide) ?_
              refine g_iload_n 20 dX8_fits_19 rfl rfl ?_
              refine g_iconst (5) 21 dX8_fits_20 rfl (by decide) ?_
              refine g_icmp_ge 50 24 dX8_fits_21 rfl (by decide) (fun h21 => ?_) (fun h21 => ?_)
              · exact absurd h21 (by decide)
              · refine g_aload_n 25 dX8_fits_24 rfl rfl ?_
                refine gf_8_19 28 dX8_fits_25 rfl kf_X8_32 ?_
                refine g_iload_n 29 dX8_fits_28 rfl rfl ?_
                refine g_iload_n 30 dX8_fits_29 rfl rfl ?_
                refine g_iconst (3) 31 dX8_fits_30 rfl (by decide) ?_
                refine g_icmp_ne 42 34 dX8_fits_31 rfl (by decide) (fun h31 => ?_) (fun h31 => ?_)
                · exact absurd h31 (by decide)
                · refine g_iload_n 35 dX8_fits_34 rfl rfl ?_
                  refine g_if_ne 42 38 dX8_fits_35 rfl (by decide) (fun h35 => ?_) (fun h35 => ?_)
                  · refine g_iconst (0) 43 dX8_fits_42 rfl (by decide) ?_
                    refine ga_ist (3) 44 dX8_fits_43 rfl (by first | decide | assumption | exact ⟨Nat.le_of_ble_eq_true rfl, rfl⟩) rfl (by decide) ?_
                    refine g_iinc (1) 47 dX8_fits_44 rfl (by decide) (by decide) rfl ?_
                    refine g_goto 19 dX8_fits_47 (by decide) ?_
                    refine g_iload_n 20 dX8_fits_19 rfl rfl ?_
                    refine g_iconst (5) 21 dX8_fits_20 rfl (by decide) ?_
                    refine g_icmp_ge 50 24 dX8_fits_21 rfl (by decide) (fun h21 => ?_) (fun h21 => ?_)
                    · exact absurd h21 (by decide)
                    · refine g_aload_n 25 dX8_fits_24 rfl rfl ?_
                      refine gf_8_19 28 dX8_fits_25 rfl kf_X8_32 ?_
                      refine g_iload_n 29 dX8_fits_28 rfl rfl ?_
                      refine g_iload_n 30 dX8_fits_29 rfl rfl ?_
                      refine g_iconst (3) 31 dX8_fits_30 rfl (by decide) ?_
                      refine g_icmp_ne 42 34 dX8_fits_31 rfl (by decide) (fun h31 => ?_) (fun h31 => ?_)
                      · refine g_iconst (0) 43 dX8_fits_42 rfl (by decide) ?_
                        refine ga_ist (4) 44 dX8_fits_43 rfl (by first | decide | assumption | exact ⟨Nat.le_of_ble_eq_true rfl, rfl⟩) rfl (by decide) ?_
                        refine g_iinc (1) 47 dX8_fits_44 rfl (by decide) (by decide) rfl ?_
                        refine g_goto 19 dX8_fits_47 (by decide) ?_
                        refine g_iload_n 20 dX8_fits_19 rfl rfl ?_
                        refine g_iconst (5) 21 dX8_fits_20 rfl (by decide) ?_
                        refine g_icmp_ge 50 24 dX8_fits_21 rfl (by decide) (fun h21 => ?_) (fun h21 => ?_)
                        · refine g_iconst (0) 51 dX8_fits_50 rfl (by decide) ?_
                          refine g_istore_n 52 dX8_fits_51 rfl (by decide) ?_
                          rw [f5_0, f5_1, f5_2, f5_3, f5_4]
                          exact kk
                        · exact absurd h21 (by decide)
                      · exact absurd h31 (by decide)
                  · exact absurd h35 ht
            · exact absurd h31 (by decide)
        · exact absurd h31 (by decide)
    · exact absurd h31 (by decide)

set_option maxRecDepth 100000 in
set_option maxHeartbeats 4000000 in
theorem m_fits (g : Gl) (l : Launch) (t : Int32) (hl : ¬ t < 0) (hu : ¬ 255 < t) (F : Nat → Nat → Int32) (J : Nat → Int64) : Ct g l yX8_fits cX8_fits 11 (some .boolean) 2 0 0 [.ref 167, .int t] (St F J) (fun r S2 => r = some (.int (fitM t).1) ∧ S2 = St (f5 F (fitM t).2) J) := by
  by_cases ht : t = 0
  · have e : fitM t = (1, (0, 0, 0, 1, 0)) := by rw [fitM, if_pos ht]
    rw [e]
    refine Ct.of rfl (by decide) rfl (Nat.le_of_ble_eq_true rfl) ?_
    refine g_iload_n 1 dX8_fits_0 rfl rfl ?_
    refine g_if_eq 11 4 dX8_fits_1 rfl (by decide) (fun h1 => ?_) (fun h1 => ?_)
    · refine g_iconst (1) 12 dX8_fits_11 rfl (by decide) ?_
      refine g_goto 16 dX8_fits_12 (by decide) ?_
      refine g_istore_n 17 dX8_fits_16 rfl (by decide) ?_
      refine g_iconst (0) 18 dX8_fits_17 rfl (by decide) ?_
      refine g_istore_n 19 dX8_fits_18 rfl (by decide) ?_
      refine fi_z g l t 1 ht F J _ _ _ _ _ _ _ ?_
      refine g_iload_n 53 dX8_fits_52 rfl rfl ?_
      refine g_sipush (729) 56 dX8_fits_53 rfl (by decide) ?_
      refine g_icmp_ge 267 59 dX8_fits_56 rfl (by decide) (fun h56 => ?_) (fun h56 => ?_)
      · exact absurd h56 (by decide)
      · refine g_iload_n 60 dX8_fits_59 rfl rfl ?_
        refine g_if_le 267 63 dX8_fits_60 rfl (by decide) (fun h60 => ?_) (fun h60 => ?_)
        · refine g_iload_n 268 dX8_fits_267 rfl rfl ?_
          refine g_zret dX8_fits_268 (by decide) ?_
          exact ⟨rfl, rfl⟩
        · exact absurd (by rw [ht]; decide) h60
    · exact absurd ht h1
  · by_cases h5 : t = 255
    · have e : fitM t = (1, (0, 0, 0, 0, 0)) := by rw [fitM, if_neg ht, if_pos h5]
      rw [e]
      refine Ct.of rfl (by decide) rfl (Nat.le_of_ble_eq_true rfl) ?_
      refine g_iload_n 1 dX8_fits_0 rfl rfl ?_
      refine g_if_eq 11 4 dX8_fits_1 rfl (by decide) (fun h1 => ?_) (fun h1 => ?_)
      · exact absurd h1 ht
      · refine g_iload_n 5 dX8_fits_4 rfl rfl ?_
        refine g_sipush (255) 8 dX8_fits_5 rfl (by decide) ?_
        refine g_icmp_ne 15 11 dX8_fits_8 rfl (by decide) (fun h8 => ?_) (fun h8 => ?_)
        · exact absurd h5 h8
        · refine g_iconst (1) 12 dX8_fits_11 rfl (by decide) ?_
          refine g_goto 16 dX8_fits_12 (by decide) ?_
          refine g_istore_n 17 dX8_fits_16 rfl (by decide) ?_
          refine g_iconst (0) 18 dX8_fits_17 rfl (by decide) ?_
          refine g_istore_n 19 dX8_fits_18 rfl (by decide) ?_
          refine fi_n g l t 1 ht F J _ _ _ _ _ _ _ ?_
          refine g_iload_n 53 dX8_fits_52 rfl rfl ?_
          refine g_sipush (729) 56 dX8_fits_53 rfl (by decide) ?_
          refine g_icmp_ge 267 59 dX8_fits_56 rfl (by decide) (fun h56 => ?_) (fun h56 => ?_)
          · exact absurd h56 (by decide)
          · refine g_iload_n 60 dX8_fits_59 rfl rfl ?_
            refine g_if_le 267 63 dX8_fits_60 rfl (by decide) (fun h60 => ?_) (fun h60 => ?_)
            · exact absurd h60 (by rw [h5]; decide)
            · refine g_iload_n 64 dX8_fits_63 rfl rfl ?_
              refine g_sipush (255) 67 dX8_fits_64 rfl (by decide) ?_
              refine g_icmp_ge 267 70 dX8_fits_67 rfl (by decide) (fun h67 => ?_) (fun h67 => ?_)
              · refine g_iload_n 268 dX8_fits_267 rfl rfl ?_
                refine g_zret dX8_fits_268 (by decide) ?_
                exact ⟨rfl, rfl⟩
              · exact absurd (by rw [h5]; decide) h67
    · have e : fitM t = srM t 729 := by rw [fitM, if_neg ht, if_neg h5]
      rw [e]
      refine Ct.of rfl (by decide) rfl (Nat.le_of_ble_eq_true rfl) ?_
      refine g_iload_n 1 dX8_fits_0 rfl rfl ?_
      refine g_if_eq 11 4 dX8_fits_1 rfl (by decide) (fun h1 => ?_) (fun h1 => ?_)
      · exact absurd h1 ht
      · refine g_iload_n 5 dX8_fits_4 rfl rfl ?_
        refine g_sipush (255) 8 dX8_fits_5 rfl (by decide) ?_
        refine g_icmp_ne 15 11 dX8_fits_8 rfl (by decide) (fun h8 => ?_) (fun h8 => ?_)
        · refine g_iconst (0) 16 dX8_fits_15 rfl (by decide) ?_
          refine g_istore_n 17 dX8_fits_16 rfl (by decide) ?_
          refine g_iconst (0) 18 dX8_fits_17 rfl (by decide) ?_
          refine g_istore_n 19 dX8_fits_18 rfl (by decide) ?_
          refine fi_n g l t 0 ht F J _ _ _ _ _ _ _ ?_
          exact lm_fits g l t (fun z => ht (Int32.le_antisymm z (Int32.not_lt.mp hl))) (fun z => h5 (Int32.le_antisymm (Int32.not_lt.mp hu) z)) F J 729 0 _ _ _ _ _ _ _ _ _ _ rfl rfl rfl
        · exact absurd h8 h5

theorem kpX_f5 (F : Nat → Nat → Int32) (q : Q5) : kpX 173 F (f5 F q) := fun r h => by simp [f5, h]
theorem pk5 (F : Nat → Nat → Int32) (q : Q5) : ∀ {b : Nat}, b ≤ 4 → some (Value.int (f5 F q 173 b)) = some (Value.int (pick5 q (nI b)))
  | 0, _ => rfl
  | 1, _ => rfl
  | 2, _ => rfl
  | 3, _ => rfl
  | 4, _ => rfl
set_option maxRecDepth 100000 in
set_option maxHeartbeats 4000000 in
theorem m_fit (g : Gl) (l : Launch) (t what : Int32) (F : Nat → Nat → Int32) (J : Nat → Int64) (hT : F 167 0 = 0) : Ct g l yX8_fit cX8_fit 3 (some .int) 3 0 0 [.ref 167, .int t, .int what] (St F J) (fun r S2 => r = some (.int (fitMA t what)) ∧ ∃ F2, S2 = St F2 J ∧ kpX 173 F F2) := by
  refine Ct.of rfl (by decide) rfl (Nat.le_of_ble_eq_true rfl) ?_
  refine g_aload_n 1 dX8_fit_0 rfl rfl ?_
  refine g_iconst (0) 2 dX8_fit_1 rfl (by decide) ?_
  refine gp_8_0 5 dX8_fit_2 rfl kf_X8_35 (by first | decide | assumption | exact ⟨Nat.le_of_ble_eq_true rfl, rfl⟩) ?_
  refine gs_at (congrArg (fun x => St x J) (thr hT)) ?_
  refine g_iload_n 6 dX8_fit_5 rfl rfl ?_
  refine g_iconst (0) 7 dX8_fit_6 rfl (by decide) ?_
  refine g_sipush (255) 10 dX8_fit_7 rfl (by decide) ?_
  refine g_s3 13 dX8_fit_10 rfl kl_X8_38 ms_X8_in ⟨Nat.le_of_ble_eq_true rfl, Nat.le_of_ble_eq_true rfl⟩ (Nat.le_of_ble_eq_true rfl) (m_in g l _ _ _ _) ?_
  rintro _ _ ⟨rfl, rfl⟩
  refine g_if_eq 42 16 dX8_fit_13 rfl (by decide) (fun h13 => ?_) (fun h13 => ?_)
  · refine g_ldc 44 dX8_fit_42 rfl kc_X8_145 ?_
    refine g_iret dX8_fit_44 ?_
    exact ⟨by rw [fitMA, if_neg (fun z => b10.mp h13 ⟨z.1, z.2.1⟩)], F, rfl, kpX_r 173 F⟩
  · refine g_iload_n 17 dX8_fit_16 rfl rfl ?_
    refine g_iconst (0) 18 dX8_fit_17 rfl (by decide) ?_
    refine g_iconst (4) 19 dX8_fit_18 rfl (by decide) ?_
    refine g_s3 22 dX8_fit_19 rfl kl_X8_38 ms_X8_in ⟨Nat.le_of_ble_eq_true rfl, Nat.le_of_ble_eq_true rfl⟩ (Nat.le_of_ble_eq_true rfl) (m_in g l _ _ _ _) ?_
    rintro _ _ ⟨rfl, rfl⟩
    refine g_if_eq 42 25 dX8_fit_22 rfl (by decide) (fun h22 => ?_) (fun h22 => ?_)
    · refine g_ldc 44 dX8_fit_42 rfl kc_X8_145 ?_
      refine g_iret dX8_fit_44 ?_
      exact ⟨by rw [fitMA, if_neg (fun z => b10.mp h22 ⟨z.2.2.1, Int32.not_lt.mpr z.2.2.2⟩)], F, rfl, kpX_r 173 F⟩
    · have hq := b10n h22
      have hok : ¬ t < 0 ∧ ¬ 255 < t ∧ ¬ what < 0 ∧ what ≤ 4 := ⟨(b10n h13).1, (b10n h13).2, hq.1, Int32.not_lt.mp hq.2⟩
      obtain ⟨b, hb, eb⟩ := nI_of2 (M := 4) (n := 4) rfl hq.1 (Int32.not_lt.mp hq.2)
      subst eb
      refine g_aload_n 26 dX8_fit_25 rfl rfl ?_
      refine g_iload_n 27 dX8_fit_26 rfl rfl ?_
      refine g_v1 8 30 dX8_fit_27 rfl kl_X8_185 mv_X8_fits rfl ⟨Nat.le_of_ble_eq_true rfl, Nat.le_of_ble_eq_true rfl⟩ (Nat.le_of_ble_eq_true rfl) (by first | decide | assumption | exact ⟨Nat.le_of_ble_eq_true rfl, rfl⟩) (m_fits g l t (b10n h13).1 (b10n h13).2 F J) ?_
      rintro _ _ ⟨rfl, rfl⟩
      refine g_if_eq 42 33 dX8_fit_30 rfl (by decide) (fun h30 => ?_) (fun h30 => ?_)
      · refine g_ldc 44 dX8_fit_42 rfl kc_X8_145 ?_
        refine g_iret dX8_fit_44 ?_
        exact ⟨by rw [fitMA, if_pos hok, if_pos h30], _, rfl, kpX_f5 F _⟩
      · refine g_aload_n 34 dX8_fit_33 rfl rfl ?_
        refine gf_8_19 37 dX8_fit_34 rfl kf_X8_32 ?_
        refine g_iload_n 38 dX8_fit_37 rfl rfl ?_
        refine ga_ild (b) 39 dX8_fit_38 rfl (by first | decide | assumption | exact ⟨Nat.le_of_ble_eq_true rfl, rfl⟩) rfl (show b < 5 by omega) ?_
        refine g_goto 44 dX8_fit_39 (by decide) ?_
        refine g_iret dX8_fit_44 ?_
        exact ⟨by rw [fitMA, if_pos hok, if_neg h30]; exact pk5 F _ hb, _, rfl, kpX_f5 F _⟩

