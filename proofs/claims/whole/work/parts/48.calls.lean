/-! the law: its twenty calls -/
theorem ixk (k c : Nat) : nI k + nI c = nI (k + c) := by rw [nI_add]
set_option maxRecDepth 100000 in
set_option maxHeartbeats 4000000 in
theorem lc_0 (g : Gl) (l : Launch) {b L : Nat} {xs : Nat → Int32} {k : Nat} (hk : k + 5 ≤ L) (hL : L ≤ 2560) (F : Nat → Nat → Int32) (J : Nat → Int64) {G P T len : Nat} (h : LR F G P T len) (kk : ∀ (F2 : Nat → Nat → Int32) (J2 : Nat → Int64), (∃ G P T len, LR F2 G P T len) → Gj g l room_1 (XL g b L xs) (QL b) RL cL_law 4 (some .boolean) 680 [some (.ref 1300), some (.ref 0), some (.ref 167), some (.int (nI k))] [] (St F2 J2) 174 3276) : Gj g l room_1 (XL g b L xs) (QL b) RL cL_law 4 (some .boolean) 128 [some (.ref 1300), some (.ref 0), some (.ref 167), some (.int (nI k))] [] (St F J) 174 3276 := by
  obtain ⟨hc, hm, t1, t2, w1, w2, l1, l2, l3, tx, ag, bb, cs⟩ := id h
  have h8 : G ≤ 8 := hc.2.2.1
  have h24 : P ≤ 24 := hc.2.2.2
  have h32 : G + P ≤ 32 := by omega
  have hE : EQ (Wm F) (Dm F) (Wc F) (Dc F) (G + P) := ag
  refine g_aload_n 129 dL_law_128 rfl rfl ?_
  refine g_aload_n 130 dL_law_129 rfl rfl ?_
  refine g_iload_n 131 dL_law_130 rfl rfl ?_
  refine g_iconst (1) 132 dL_law_131 rfl (by decide) ?_
  refine g_iadd 133 dL_law_132 rfl ?_
  refine g_sld (k + 1) 134 dL_law_133 rfl (ixk k 1) (by omega) hL ?_
  refine g_i2l 135 dL_law_134 rfl ?_
  refine g_bipush (32) 137 dL_law_135 rfl (by decide) ?_
  refine g_lshl 138 dL_law_137 rfl ?_
  refine g_aload_n 139 dL_law_138 rfl rfl ?_
  refine g_iload_n 140 dL_law_139 rfl rfl ?_
  refine g_iconst (2) 141 dL_law_140 rfl (by decide) ?_
  refine g_iadd 142 dL_law_141 rfl ?_
  refine g_sld (k + 2) 143 dL_law_142 rfl (ixk k 2) (by omega) hL ?_
  refine g_i2l 144 dL_law_143 rfl ?_
  refine g_ldc2 147 dL_law_144 rfl kc_L_13 ?_
  refine g_land 148 dL_law_147 rfl ?_
  refine g_lor 149 dL_law_148 rfl ?_
  refine g_aload_n 150 dL_law_149 rfl rfl ?_
  refine g_iload_n 151 dL_law_150 rfl rfl ?_
  refine g_iconst (3) 152 dL_law_151 rfl (by decide) ?_
  refine g_iadd 153 dL_law_152 rfl ?_
  refine g_sld (k + 3) 154 dL_law_153 rfl (ixk k 3) (by omega) hL ?_
  refine g_w2 7 157 dL_law_154 rfl kl_L_15 mv_X7_type rfl ⟨Nat.le_of_ble_eq_true rfl, Nat.le_of_ble_eq_true rfl⟩ ⟨Nat.le_of_ble_eq_true rfl, Nat.le_of_ble_eq_true rfl⟩ (Nat.le_of_ble_eq_true rfl) ⟨Nat.le_of_ble_eq_true rfl, rfl⟩ (c_type g l _ (xs (k + 3)) F J l1 l3) ?_
  rintro _ _ ⟨rfl, rfl⟩
  refine g_aload_n 158 dL_law_157 rfl rfl ?_
  refine g_aload_n 159 dL_law_158 rfl rfl ?_
  refine g_iload_n 160 dL_law_159 rfl rfl ?_
  refine g_iconst (1) 161 dL_law_160 rfl (by decide) ?_
  refine g_iadd 162 dL_law_161 rfl ?_
  refine g_sld (k + 1) 163 dL_law_162 rfl (ixk k 1) (by omega) hL ?_
  refine g_i2l 164 dL_law_163 rfl ?_
  refine g_bipush (32) 166 dL_law_164 rfl (by decide) ?_
  refine g_lshl 167 dL_law_166 rfl ?_
  refine g_aload_n 168 dL_law_167 rfl rfl ?_
  refine g_iload_n 169 dL_law_168 rfl rfl ?_
  refine g_iconst (2) 170 dL_law_169 rfl (by decide) ?_
  refine g_iadd 171 dL_law_170 rfl ?_
  refine g_sld (k + 2) 172 dL_law_171 rfl (ixk k 2) (by omega) hL ?_
  refine g_i2l 173 dL_law_172 rfl ?_
  refine g_ldc2 176 dL_law_173 rfl kc_L_13 ?_
  refine g_land 177 dL_law_176 rfl ?_
  refine g_lor 178 dL_law_177 rfl ?_
  refine g_aload_n 179 dL_law_178 rfl rfl ?_
  refine g_iload_n 180 dL_law_179 rfl rfl ?_
  refine g_iconst (3) 181 dL_law_180 rfl (by decide) ?_
  refine g_iadd 182 dL_law_181 rfl ?_
  refine g_sld (k + 3) 183 dL_law_182 rfl (ixk k 3) (by omega) hL ?_
  refine g_w2 8 186 dL_law_183 rfl kl_L_19 mv_X8_type rfl ⟨Nat.le_of_ble_eq_true rfl, Nat.le_of_ble_eq_true rfl⟩ ⟨Nat.le_of_ble_eq_true rfl, Nat.le_of_ble_eq_true rfl⟩ (Nat.le_of_ble_eq_true rfl) ⟨Nat.le_of_ble_eq_true rfl, rfl⟩ (m_type g l _ (xs (k + 3)) _ J (by rw [typeF_167 F l1]; exact hm.2.2.1) (by rw [typeF_167 F l1]; exact l2) l3) ?_
  rintro _ _ ⟨rfl, rfl⟩
  refine g_icmp_eq 680 189 dL_law_186 rfl (by decide) (fun hq => ?_) (fun hq => ?_)
  · exact kk _ _ (let ⟨x, y⟩ := LR_type h _ _; ⟨G, P, T, x, y⟩)
  · exact absurd (rfl) hq

set_option maxRecDepth 100000 in
set_option maxHeartbeats 4000000 in
theorem lc_1 (g : Gl) (l : Launch) {b L : Nat} {xs : Nat → Int32} {k : Nat} (hk : k + 5 ≤ L) (hL : L ≤ 2560) (F : Nat → Nat → Int32) (J : Nat → Int64) {G P T len : Nat} (h : LR F G P T len) (kk : ∀ (F2 : Nat → Nat → Int32) (J2 : Nat → Int64), (∃ G P T len, LR F2 G P T len) → Gj g l room_1 (XL g b L xs) (QL b) RL cL_law 4 (some .boolean) 680 [some (.ref 1300), some (.ref 0), some (.ref 167), some (.int (nI k))] [] (St F2 J2) 174 3276) : Gj g l room_1 (XL g b L xs) (QL b) RL cL_law 4 (some .boolean) 191 [some (.ref 1300), some (.ref 0), some (.ref 167), some (.int (nI k))] [] (St F J) 174 3276 := by
  obtain ⟨hc, hm, t1, t2, w1, w2, l1, l2, l3, tx, ag, bb, cs⟩ := id h
  have h8 : G ≤ 8 := hc.2.2.1
  have h24 : P ≤ 24 := hc.2.2.2
  have h32 : G + P ≤ 32 := by omega
  have hE : EQ (Wm F) (Dm F) (Wc F) (Dc F) (G + P) := ag
  refine g_aload_n 192 dL_law_191 rfl rfl ?_
  refine g_w0 7 195 dL_law_192 rfl kl_L_20 mv_X7_clear rfl ⟨Nat.le_of_ble_eq_true rfl, Nat.le_of_ble_eq_true rfl⟩ ⟨Nat.le_of_ble_eq_true rfl, Nat.le_of_ble_eq_true rfl⟩ (Nat.le_of_ble_eq_true rfl) ⟨Nat.le_of_ble_eq_true rfl, rfl⟩ (c_clear g l F J) ?_
  rintro _ _ ⟨rfl, rfl⟩
  refine g_aload_n 196 dL_law_195 rfl rfl ?_
  refine g_w0 8 199 dL_law_196 rfl kl_L_24 mv_X8_clear rfl ⟨Nat.le_of_ble_eq_true rfl, Nat.le_of_ble_eq_true rfl⟩ ⟨Nat.le_of_ble_eq_true rfl, Nat.le_of_ble_eq_true rfl⟩ (Nat.le_of_ble_eq_true rfl) ⟨Nat.le_of_ble_eq_true rfl, rfl⟩ (m_clear g l _ J hm.2.2.1) ?_
  rintro _ _ ⟨rfl, rfl⟩
  refine g_icmp_eq 680 202 dL_law_199 rfl (by decide) (fun hq => ?_) (fun hq => ?_)
  · exact kk _ _ ⟨G, P, T, 0, LR_clear h⟩
  · exact absurd (l1.trans l2.symm) hq

set_option maxRecDepth 100000 in
set_option maxHeartbeats 4000000 in
theorem lc_4 (g : Gl) (l : Launch) {b L : Nat} {xs : Nat → Int32} {k : Nat} (hk : k + 5 ≤ L) (hL : L ≤ 2560) (F : Nat → Nat → Int32) (J : Nat → Int64) {G P T len : Nat} (h : LR F G P T len) (kk : ∀ (F2 : Nat → Nat → Int32) (J2 : Nat → Int64), (∃ G P T len, LR F2 G P T len) → Gj g l room_1 (XL g b L xs) (QL b) RL cL_law 4 (some .boolean) 680 [some (.ref 1300), some (.ref 0), some (.ref 167), some (.int (nI k))] [] (St F2 J2) 174 3276) : Gj g l room_1 (XL g b L xs) (QL b) RL cL_law 4 (some .boolean) 230 [some (.ref 1300), some (.ref 0), some (.ref 167), some (.int (nI k))] [] (St F J) 174 3276 := by
  obtain ⟨hc, hm, t1, t2, w1, w2, l1, l2, l3, tx, ag, bb, cs⟩ := id h
  have h8 : G ≤ 8 := hc.2.2.1
  have h24 : P ≤ 24 := hc.2.2.2
  have h32 : G + P ≤ 32 := by omega
  have hE : EQ (Wm F) (Dm F) (Wc F) (Dc F) (G + P) := ag
  refine g_aload_n 231 dL_law_230 rfl rfl ?_
  refine g_aload_n 232 dL_law_231 rfl rfl ?_
  refine g_iload_n 233 dL_law_232 rfl rfl ?_
  refine g_iconst (1) 234 dL_law_233 rfl (by decide) ?_
  refine g_iadd 235 dL_law_234 rfl ?_
  refine g_sld (k + 1) 236 dL_law_235 rfl (ixk k 1) (by omega) hL ?_
  refine g_w1 7 239 dL_law_236 rfl kl_L_33 mv_X7_wrong rfl ⟨Nat.le_of_ble_eq_true rfl, Nat.le_of_ble_eq_true rfl⟩ ⟨Nat.le_of_ble_eq_true rfl, Nat.le_of_ble_eq_true rfl⟩ (Nat.le_of_ble_eq_true rfl) ⟨Nat.le_of_ble_eq_true rfl, rfl⟩ (c_wrong g l (xs (k + 1)) F J) ?_
  rintro _ _ ⟨rfl, rfl⟩
  refine g_aload_n 240 dL_law_239 rfl rfl ?_
  refine g_aload_n 241 dL_law_240 rfl rfl ?_
  refine g_iload_n 242 dL_law_241 rfl rfl ?_
  refine g_iconst (1) 243 dL_law_242 rfl (by decide) ?_
  refine g_iadd 244 dL_law_243 rfl ?_
  refine g_sld (k + 1) 245 dL_law_244 rfl (ixk k 1) (by omega) hL ?_
  refine g_w1 8 248 dL_law_245 rfl kl_L_37 mv_X8_wrong rfl ⟨Nat.le_of_ble_eq_true rfl, Nat.le_of_ble_eq_true rfl⟩ ⟨Nat.le_of_ble_eq_true rfl, Nat.le_of_ble_eq_true rfl⟩ (Nat.le_of_ble_eq_true rfl) ⟨Nat.le_of_ble_eq_true rfl, rfl⟩ (m_wrong g l (xs (k + 1)) F J hm.2.2.1) ?_
  rintro _ _ ⟨rfl, rfl⟩
  refine g_icmp_eq 680 251 dL_law_248 rfl (by decide) (fun hq => ?_) (fun hq => ?_)
  · exact kk F _ ⟨G, P, T, len, h⟩
  · exact absurd (by rw [w1, w2]) hq

set_option maxRecDepth 100000 in
set_option maxHeartbeats 4000000 in
theorem lc_5 (g : Gl) (l : Launch) {b L : Nat} {xs : Nat → Int32} {k : Nat} (hk : k + 5 ≤ L) (hL : L ≤ 2560) (F : Nat → Nat → Int32) (J : Nat → Int64) {G P T len : Nat} (h : LR F G P T len) (kk : ∀ (F2 : Nat → Nat → Int32) (J2 : Nat → Int64), (∃ G P T len, LR F2 G P T len) → Gj g l room_1 (XL g b L xs) (QL b) RL cL_law 4 (some .boolean) 680 [some (.ref 1300), some (.ref 0), some (.ref 167), some (.int (nI k))] [] (St F2 J2) 174 3276) : Gj g l room_1 (XL g b L xs) (QL b) RL cL_law 4 (some .boolean) 253 [some (.ref 1300), some (.ref 0), some (.ref 167), some (.int (nI k))] [] (St F J) 174 3276 := by
  obtain ⟨hc, hm, t1, t2, w1, w2, l1, l2, l3, tx, ag, bb, cs⟩ := id h
  have h8 : G ≤ 8 := hc.2.2.1
  have h24 : P ≤ 24 := hc.2.2.2
  have h32 : G + P ≤ 32 := by omega
  have hE : EQ (Wm F) (Dm F) (Wc F) (Dc F) (G + P) := ag
  refine g_aload_n 254 dL_law_253 rfl rfl ?_
  refine g_aload_n 255 dL_law_254 rfl rfl ?_
  refine g_iload_n 256 dL_law_255 rfl rfl ?_
  refine g_iconst (1) 257 dL_law_256 rfl (by decide) ?_
  refine g_iadd 258 dL_law_257 rfl ?_
  refine g_sld (k + 1) 259 dL_law_258 rfl (ixk k 1) (by omega) hL ?_
  refine g_aload_n 260 dL_law_259 rfl rfl ?_
  refine g_iload_n 261 dL_law_260 rfl rfl ?_
  refine g_iconst (2) 262 dL_law_261 rfl (by decide) ?_
  refine g_iadd 263 dL_law_262 rfl ?_
  refine g_sld (k + 2) 264 dL_law_263 rfl (ixk k 2) (by omega) hL ?_
  refine g_w2 7 267 dL_law_264 rfl kl_L_38 mv_X7_line rfl ⟨Nat.le_of_ble_eq_true rfl, Nat.le_of_ble_eq_true rfl⟩ ⟨Nat.le_of_ble_eq_true rfl, Nat.le_of_ble_eq_true rfl⟩ (Nat.le_of_ble_eq_true rfl) ⟨Nat.le_of_ble_eq_true rfl, rfl⟩ (c_line g l (xs (k + 1)) (xs (k + 2)) F J hc) ?_
  rintro _ _ ⟨rfl, rfl⟩
  refine g_aload_n 268 dL_law_267 rfl rfl ?_
  refine g_aload_n 269 dL_law_268 rfl rfl ?_
  refine g_iload_n 270 dL_law_269 rfl rfl ?_
  refine g_iconst (1) 271 dL_law_270 rfl (by decide) ?_
  refine g_iadd 272 dL_law_271 rfl ?_
  refine g_sld (k + 1) 273 dL_law_272 rfl (ixk k 1) (by omega) hL ?_
  refine g_aload_n 274 dL_law_273 rfl rfl ?_
  refine g_iload_n 275 dL_law_274 rfl rfl ?_
  refine g_iconst (2) 276 dL_law_275 rfl (by decide) ?_
  refine g_iadd 277 dL_law_276 rfl ?_
  refine g_sld (k + 2) 278 dL_law_277 rfl (ixk k 2) (by omega) hL ?_
  refine g_w2 8 281 dL_law_278 rfl kl_L_42 mv_X8_line rfl ⟨Nat.le_of_ble_eq_true rfl, Nat.le_of_ble_eq_true rfl⟩ ⟨Nat.le_of_ble_eq_true rfl, Nat.le_of_ble_eq_true rfl⟩ (Nat.le_of_ble_eq_true rfl) ⟨Nat.le_of_ble_eq_true rfl, rfl⟩ (m_line g l (xs (k + 1)) (xs (k + 2)) F J hm) ?_
  rintro _ _ ⟨rfl, rfl⟩
  refine g_icmp_eq 680 284 dL_law_281 rfl (by decide) (fun hq => ?_) (fun hq => ?_)
  · exact kk F _ ⟨G, P, T, len, h⟩
  · exact absurd ((line_c h32 hE _ _).symm) hq

set_option maxRecDepth 100000 in
set_option maxHeartbeats 4000000 in
theorem lc_6 (g : Gl) (l : Launch) {b L : Nat} {xs : Nat → Int32} {k : Nat} (hk : k + 5 ≤ L) (hL : L ≤ 2560) (F : Nat → Nat → Int32) (J : Nat → Int64) {G P T len : Nat} (h : LR F G P T len) (kk : ∀ (F2 : Nat → Nat → Int32) (J2 : Nat → Int64), (∃ G P T len, LR F2 G P T len) → Gj g l room_1 (XL g b L xs) (QL b) RL cL_law 4 (some .boolean) 680 [some (.ref 1300), some (.ref 0), some (.ref 167), some (.int (nI k))] [] (St F2 J2) 174 3276) : Gj g l room_1 (XL g b L xs) (QL b) RL cL_law 4 (some .boolean) 286 [some (.ref 1300), some (.ref 0), some (.ref 167), some (.int (nI k))] [] (St F J) 174 3276 := by
  obtain ⟨hc, hm, t1, t2, w1, w2, l1, l2, l3, tx, ag, bb, cs⟩ := id h
  have h8 : G ≤ 8 := hc.2.2.1
  have h24 : P ≤ 24 := hc.2.2.2
  have h32 : G + P ≤ 32 := by omega
  have hE : EQ (Wm F) (Dm F) (Wc F) (Dc F) (G + P) := ag
  refine g_aload_n 287 dL_law_286 rfl rfl ?_
  refine g_aload_n 288 dL_law_287 rfl rfl ?_
  refine g_iload_n 289 dL_law_288 rfl rfl ?_
  refine g_iconst (1) 290 dL_law_289 rfl (by decide) ?_
  refine g_iadd 291 dL_law_290 rfl ?_
  refine g_sld (k + 1) 292 dL_law_291 rfl (ixk k 1) (by omega) hL ?_
  refine g_w1 7 295 dL_law_292 rfl kl_L_43 mv_X7_holds rfl ⟨Nat.le_of_ble_eq_true rfl, Nat.le_of_ble_eq_true rfl⟩ ⟨Nat.le_of_ble_eq_true rfl, Nat.le_of_ble_eq_true rfl⟩ (Nat.le_of_ble_eq_true rfl) ⟨Nat.le_of_ble_eq_true rfl, rfl⟩ (c_holds g l (xs (k + 1)) F J hc) ?_
  rintro _ _ ⟨rfl, rfl⟩
  refine g_aload_n 296 dL_law_295 rfl rfl ?_
  refine g_aload_n 297 dL_law_296 rfl rfl ?_
  refine g_iload_n 298 dL_law_297 rfl rfl ?_
  refine g_iconst (1) 299 dL_law_298 rfl (by decide) ?_
  refine g_iadd 300 dL_law_299 rfl ?_
  refine g_sld (k + 1) 301 dL_law_300 rfl (ixk k 1) (by omega) hL ?_
  refine g_w1 8 304 dL_law_301 rfl kl_L_47 mv_X8_holds rfl ⟨Nat.le_of_ble_eq_true rfl, Nat.le_of_ble_eq_true rfl⟩ ⟨Nat.le_of_ble_eq_true rfl, Nat.le_of_ble_eq_true rfl⟩ (Nat.le_of_ble_eq_true rfl) ⟨Nat.le_of_ble_eq_true rfl, rfl⟩ (m_holds g l (xs (k + 1)) F J hm) ?_
  rintro _ _ ⟨rfl, rfl⟩
  refine g_lc_eq 680 308 dL_law_304 dL_law_305 rfl (by decide) (fun hq => ?_) (fun hq => ?_)
  · exact kk F _ ⟨G, P, T, len, h⟩
  · exact absurd ((holds_c h32 hE _).symm) hq

set_option maxRecDepth 100000 in
set_option maxHeartbeats 4000000 in
theorem lc_7 (g : Gl) (l : Launch) {b L : Nat} {xs : Nat → Int32} {k : Nat} (hk : k + 5 ≤ L) (hL : L ≤ 2560) (F : Nat → Nat → Int32) (J : Nat → Int64) {G P T len : Nat} (h : LR F G P T len) (kk : ∀ (F2 : Nat → Nat → Int32) (J2 : Nat → Int64), (∃ G P T len, LR F2 G P T len) → Gj g l room_1 (XL g b L xs) (QL b) RL cL_law 4 (some .boolean) 680 [some (.ref 1300), some (.ref 0), some (.ref 167), some (.int (nI k))] [] (St F2 J2) 174 3276) : Gj g l room_1 (XL g b L xs) (QL b) RL cL_law 4 (some .boolean) 310 [some (.ref 1300), some (.ref 0), some (.ref 167), some (.int (nI k))] [] (St F J) 174 3276 := by
  obtain ⟨hc, hm, t1, t2, w1, w2, l1, l2, l3, tx, ag, bb, cs⟩ := id h
  have h8 : G ≤ 8 := hc.2.2.1
  have h24 : P ≤ 24 := hc.2.2.2
  have h32 : G + P ≤ 32 := by omega
  have hE : EQ (Wm F) (Dm F) (Wc F) (Dc F) (G + P) := ag
  refine g_aload_n 311 dL_law_310 rfl rfl ?_
  refine g_aload_n 312 dL_law_311 rfl rfl ?_
  refine g_iload_n 313 dL_law_312 rfl rfl ?_
  refine g_iconst (1) 314 dL_law_313 rfl (by decide) ?_
  refine g_iadd 315 dL_law_314 rfl ?_
  refine g_sld (k + 1) 316 dL_law_315 rfl (ixk k 1) (by omega) hL ?_
  refine g_w1 7 319 dL_law_316 rfl kl_L_48 mv_X7_broken rfl ⟨Nat.le_of_ble_eq_true rfl, Nat.le_of_ble_eq_true rfl⟩ ⟨Nat.le_of_ble_eq_true rfl, Nat.le_of_ble_eq_true rfl⟩ (Nat.le_of_ble_eq_true rfl) ⟨Nat.le_of_ble_eq_true rfl, rfl⟩ (c_broken g l (xs (k + 1)) F J hc) ?_
  rintro _ _ ⟨rfl, rfl⟩
  refine g_aload_n 320 dL_law_319 rfl rfl ?_
  refine g_aload_n 321 dL_law_320 rfl rfl ?_
  refine g_iload_n 322 dL_law_321 rfl rfl ?_
  refine g_iconst (1) 323 dL_law_322 rfl (by decide) ?_
  refine g_iadd 324 dL_law_323 rfl ?_
  refine g_sld (k + 1) 325 dL_law_324 rfl (ixk k 1) (by omega) hL ?_
  refine g_w1 8 328 dL_law_325 rfl kl_L_51 mv_X8_broken rfl ⟨Nat.le_of_ble_eq_true rfl, Nat.le_of_ble_eq_true rfl⟩ ⟨Nat.le_of_ble_eq_true rfl, Nat.le_of_ble_eq_true rfl⟩ (Nat.le_of_ble_eq_true rfl) ⟨Nat.le_of_ble_eq_true rfl, rfl⟩ (m_broken g l (xs (k + 1)) F J hm) ?_
  rintro _ _ ⟨rfl, rfl⟩
  refine g_icmp_eq 680 331 dL_law_328 rfl (by decide) (fun hq => ?_) (fun hq => ?_)
  · exact kk F _ ⟨G, P, T, len, h⟩
  · exact absurd ((broken_c h32 hE _).symm) hq

set_option maxRecDepth 100000 in
set_option maxHeartbeats 4000000 in
theorem lc_8 (g : Gl) (l : Launch) {b L : Nat} {xs : Nat → Int32} {k : Nat} (hk : k + 5 ≤ L) (hL : L ≤ 2560) (F : Nat → Nat → Int32) (J : Nat → Int64) {G P T len : Nat} (h : LR F G P T len) (kk : ∀ (F2 : Nat → Nat → Int32) (J2 : Nat → Int64), (∃ G P T len, LR F2 G P T len) → Gj g l room_1 (XL g b L xs) (QL b) RL cL_law 4 (some .boolean) 680 [some (.ref 1300), some (.ref 0), some (.ref 167), some (.int (nI k))] [] (St F2 J2) 174 3276) : Gj g l room_1 (XL g b L xs) (QL b) RL cL_law 4 (some .boolean) 333 [some (.ref 1300), some (.ref 0), some (.ref 167), some (.int (nI k))] [] (St F J) 174 3276 := by
  obtain ⟨hc, hm, t1, t2, w1, w2, l1, l2, l3, tx, ag, bb, cs⟩ := id h
  have h8 : G ≤ 8 := hc.2.2.1
  have h24 : P ≤ 24 := hc.2.2.2
  have h32 : G + P ≤ 32 := by omega
  have hE : EQ (Wm F) (Dm F) (Wc F) (Dc F) (G + P) := ag
  refine g_aload_n 334 dL_law_333 rfl rfl ?_
  refine g_w0 7 337 dL_law_334 rfl kl_L_52 mv_X7_end rfl ⟨Nat.le_of_ble_eq_true rfl, Nat.le_of_ble_eq_true rfl⟩ ⟨Nat.le_of_ble_eq_true rfl, Nat.le_of_ble_eq_true rfl⟩ (Nat.le_of_ble_eq_true rfl) ⟨Nat.le_of_ble_eq_true rfl, rfl⟩ (c_end g l F J hc) ?_
  rintro _ _ ⟨rfl, rfl⟩
  refine g_aload_n 338 dL_law_337 rfl rfl ?_
  refine g_w0 8 341 dL_law_338 rfl kl_L_55 mv_X8_end rfl ⟨Nat.le_of_ble_eq_true rfl, Nat.le_of_ble_eq_true rfl⟩ ⟨Nat.le_of_ble_eq_true rfl, Nat.le_of_ble_eq_true rfl⟩ (Nat.le_of_ble_eq_true rfl) ⟨Nat.le_of_ble_eq_true rfl, rfl⟩ (m_end g l F J hm) ?_
  rintro _ _ ⟨rfl, rfl⟩
  refine g_icmp_eq 680 344 dL_law_341 rfl (by decide) (fun hq => ?_) (fun hq => ?_)
  · exact kk F _ ⟨G, P, T, len, h⟩
  · exact absurd ((end_c hE (G + P) 0 (by omega)).symm) hq

set_option maxRecDepth 100000 in
set_option maxHeartbeats 4000000 in
theorem lc_9 (g : Gl) (l : Launch) {b L : Nat} {xs : Nat → Int32} {k : Nat} (hk : k + 5 ≤ L) (hL : L ≤ 2560) (F : Nat → Nat → Int32) (J : Nat → Int64) {G P T len : Nat} (h : LR F G P T len) (kk : ∀ (F2 : Nat → Nat → Int32) (J2 : Nat → Int64), (∃ G P T len, LR F2 G P T len) → Gj g l room_1 (XL g b L xs) (QL b) RL cL_law 4 (some .boolean) 680 [some (.ref 1300), some (.ref 0), some (.ref 167), some (.int (nI k))] [] (St F2 J2) 174 3276) : Gj g l room_1 (XL g b L xs) (QL b) RL cL_law 4 (some .boolean) 346 [some (.ref 1300), some (.ref 0), some (.ref 167), some (.int (nI k))] [] (St F J) 174 3276 := by
  obtain ⟨hc, hm, t1, t2, w1, w2, l1, l2, l3, tx, ag, bb, cs⟩ := id h
  have h8 : G ≤ 8 := hc.2.2.1
  have h24 : P ≤ 24 := hc.2.2.2
  have h32 : G + P ≤ 32 := by omega
  have hE : EQ (Wm F) (Dm F) (Wc F) (Dc F) (G + P) := ag
  refine g_aload_n 347 dL_law_346 rfl rfl ?_
  refine g_aload_n 348 dL_law_347 rfl rfl ?_
  refine g_iload_n 349 dL_law_348 rfl rfl ?_
  refine g_iconst (1) 350 dL_law_349 rfl (by decide) ?_
  refine g_iadd 351 dL_law_350 rfl ?_
  refine g_sld (k + 1) 352 dL_law_351 rfl (ixk k 1) (by omega) hL ?_
  refine g_aload_n 353 dL_law_352 rfl rfl ?_
  refine g_iload_n 354 dL_law_353 rfl rfl ?_
  refine g_iconst (2) 355 dL_law_354 rfl (by decide) ?_
  refine g_iadd 356 dL_law_355 rfl ?_
  refine g_sld (k + 2) 357 dL_law_356 rfl (ixk k 2) (by omega) hL ?_
  refine g_aload_n 358 dL_law_357 rfl rfl ?_
  refine g_iload_n 359 dL_law_358 rfl rfl ?_
  refine g_iconst (3) 360 dL_law_359 rfl (by decide) ?_
  refine g_iadd 361 dL_law_360 rfl ?_
  refine g_sld (k + 3) 362 dL_law_361 rfl (ixk k 3) (by omega) hL ?_
  refine g_w3 7 365 dL_law_362 rfl kl_L_56 mv_X7_both rfl ⟨Nat.le_of_ble_eq_true rfl, Nat.le_of_ble_eq_true rfl⟩ ⟨Nat.le_of_ble_eq_true rfl, Nat.le_of_ble_eq_true rfl⟩ (Nat.le_of_ble_eq_true rfl) ⟨Nat.le_of_ble_eq_true rfl, rfl⟩ (c_both g l (xs (k + 1)) (xs (k + 2)) (xs (k + 3)) F J hc) ?_
  rintro _ _ ⟨rfl, rfl⟩
  refine g_aload_n 366 dL_law_365 rfl rfl ?_
  refine g_aload_n 367 dL_law_366 rfl rfl ?_
  refine g_iload_n 368 dL_law_367 rfl rfl ?_
  refine g_iconst (1) 369 dL_law_368 rfl (by decide) ?_
  refine g_iadd 370 dL_law_369 rfl ?_
  refine g_sld (k + 1) 371 dL_law_370 rfl (ixk k 1) (by omega) hL ?_
  refine g_aload_n 372 dL_law_371 rfl rfl ?_
  refine g_iload_n 373 dL_law_372 rfl rfl ?_
  refine g_iconst (2) 374 dL_law_373 rfl (by decide) ?_
  refine g_iadd 375 dL_law_374 rfl ?_
  refine g_sld (k + 2) 376 dL_law_375 rfl (ixk k 2) (by omega) hL ?_
  refine g_aload_n 377 dL_law_376 rfl rfl ?_
  refine g_iload_n 378 dL_law_377 rfl rfl ?_
  refine g_iconst (3) 379 dL_law_378 rfl (by decide) ?_
  refine g_iadd 380 dL_law_379 rfl ?_
  refine g_sld (k + 3) 381 dL_law_380 rfl (ixk k 3) (by omega) hL ?_
  refine g_w3 8 384 dL_law_381 rfl kl_L_60 mv_X8_both rfl ⟨Nat.le_of_ble_eq_true rfl, Nat.le_of_ble_eq_true rfl⟩ ⟨Nat.le_of_ble_eq_true rfl, Nat.le_of_ble_eq_true rfl⟩ (Nat.le_of_ble_eq_true rfl) ⟨Nat.le_of_ble_eq_true rfl, rfl⟩ (m_both g l (xs (k + 1)) (xs (k + 2)) (xs (k + 3)) F J hm) ?_
  rintro _ _ ⟨rfl, rfl⟩
  refine g_icmp_eq 680 387 dL_law_384 rfl (by decide) (fun hq => ?_) (fun hq => ?_)
  · exact kk F _ ⟨G, P, T, len, h⟩
  · exact absurd ((both_c h32 hE _ _ _).symm) hq

set_option maxRecDepth 100000 in
set_option maxHeartbeats 4000000 in
theorem lc_10 (g : Gl) (l : Launch) {b L : Nat} {xs : Nat → Int32} {k : Nat} (hk : k + 5 ≤ L) (hL : L ≤ 2560) (F : Nat → Nat → Int32) (J : Nat → Int64) {G P T len : Nat} (h : LR F G P T len) (kk : ∀ (F2 : Nat → Nat → Int32) (J2 : Nat → Int64), (∃ G P T len, LR F2 G P T len) → Gj g l room_1 (XL g b L xs) (QL b) RL cL_law 4 (some .boolean) 680 [some (.ref 1300), some (.ref 0), some (.ref 167), some (.int (nI k))] [] (St F2 J2) 174 3276) : Gj g l room_1 (XL g b L xs) (QL b) RL cL_law 4 (some .boolean) 389 [some (.ref 1300), some (.ref 0), some (.ref 167), some (.int (nI k))] [] (St F J) 174 3276 := by
  obtain ⟨hc, hm, t1, t2, w1, w2, l1, l2, l3, tx, ag, bb, cs⟩ := id h
  have h8 : G ≤ 8 := hc.2.2.1
  have h24 : P ≤ 24 := hc.2.2.2
  have h32 : G + P ≤ 32 := by omega
  have hE : EQ (Wm F) (Dm F) (Wc F) (Dc F) (G + P) := ag
  refine g_aload_n 390 dL_law_389 rfl rfl ?_
  refine g_aload_n 391 dL_law_390 rfl rfl ?_
  refine g_iload_n 392 dL_law_391 rfl rfl ?_
  refine g_iconst (1) 393 dL_law_392 rfl (by decide) ?_
  refine g_iadd 394 dL_law_393 rfl ?_
  refine g_sld (k + 1) 395 dL_law_394 rfl (ixk k 1) (by omega) hL ?_
  refine g_aload_n 396 dL_law_395 rfl rfl ?_
  refine g_iload_n 397 dL_law_396 rfl rfl ?_
  refine g_iconst (2) 398 dL_law_397 rfl (by decide) ?_
  refine g_iadd 399 dL_law_398 rfl ?_
  refine g_sld (k + 2) 400 dL_law_399 rfl (ixk k 2) (by omega) hL ?_
  refine g_aload_n 401 dL_law_400 rfl rfl ?_
  refine g_iload_n 402 dL_law_401 rfl rfl ?_
  refine g_iconst (3) 403 dL_law_402 rfl (by decide) ?_
  refine g_iadd 404 dL_law_403 rfl ?_
  refine g_sld (k + 3) 405 dL_law_404 rfl (ixk k 3) (by omega) hL ?_
  refine g_aload_n 406 dL_law_405 rfl rfl ?_
  refine g_iload_n 407 dL_law_406 rfl rfl ?_
  refine g_iconst (4) 408 dL_law_407 rfl (by decide) ?_
  refine g_iadd 409 dL_law_408 rfl ?_
  refine g_sld (k + 4) 410 dL_law_409 rfl (ixk k 4) (by omega) hL ?_
  refine g_w4 7 413 dL_law_410 rfl kl_L_61 mv_X7_forced rfl ⟨Nat.le_of_ble_eq_true rfl, Nat.le_of_ble_eq_true rfl⟩ ⟨Nat.le_of_ble_eq_true rfl, Nat.le_of_ble_eq_true rfl⟩ (Nat.le_of_ble_eq_true rfl) ⟨Nat.le_of_ble_eq_true rfl, rfl⟩ (c_forced g l (xs (k + 1)) (xs (k + 2)) (xs (k + 3)) (xs (k + 4)) F J hc) ?_
  rintro _ _ ⟨rfl, F2, rfl, kp⟩
  have hL2 := LR_X (Or.inl rfl) kp h
  refine g_aload_n 414 dL_law_413 rfl rfl ?_
  refine g_aload_n 415 dL_law_414 rfl rfl ?_
  refine g_iload_n 416 dL_law_415 rfl rfl ?_
  refine g_iconst (1) 417 dL_law_416 rfl (by decide) ?_
  refine g_iadd 418 dL_law_417 rfl ?_
  refine g_sld (k + 1) 419 dL_law_418 rfl (ixk k 1) (by omega) hL ?_
  refine g_aload_n 420 dL_law_419 rfl rfl ?_
  refine g_iload_n 421 dL_law_420 rfl rfl ?_
  refine g_iconst (2) 422 dL_law_421 rfl (by decide) ?_
  refine g_iadd 423 dL_law_422 rfl ?_
  refine g_sld (k + 2) 424 dL_law_423 rfl (ixk k 2) (by omega) hL ?_
  refine g_aload_n 425 dL_law_424 rfl rfl ?_
  refine g_iload_n 426 dL_law_425 rfl rfl ?_
  refine g_iconst (3) 427 dL_law_426 rfl (by decide) ?_
  refine g_iadd 428 dL_law_427 rfl ?_
  refine g_sld (k + 3) 429 dL_law_428 rfl (ixk k 3) (by omega) hL ?_
  refine g_aload_n 430 dL_law_429 rfl rfl ?_
  refine g_iload_n 431 dL_law_430 rfl rfl ?_
  refine g_iconst (4) 432 dL_law_431 rfl (by decide) ?_
  refine g_iadd 433 dL_law_432 rfl ?_
  refine g_sld (k + 4) 434 dL_law_433 rfl (ixk k 4) (by omega) hL ?_
  refine g_w4 8 437 dL_law_434 rfl kl_L_65 mv_X8_forced rfl ⟨Nat.le_of_ble_eq_true rfl, Nat.le_of_ble_eq_true rfl⟩ ⟨Nat.le_of_ble_eq_true rfl, Nat.le_of_ble_eq_true rfl⟩ (Nat.le_of_ble_eq_true rfl) ⟨Nat.le_of_ble_eq_true rfl, rfl⟩ (m_forced g l (xs (k + 1)) (xs (k + 2)) (xs (k + 3)) (xs (k + 4)) F2 J hL2.2.1 (fun i hi j hj => bz_w ((AG_b (AG_169 (kp 169 (by decide)) ag) bb i hi).1 j hj))) ?_
  rintro _ _ ⟨rfl, F3, rfl, kS⟩
  refine g_icmp_eq 680 440 dL_law_437 rfl (by decide) (fun hq => ?_) (fun hq => ?_)
  · exact kk _ _ ⟨G, P, T, len, LR_S kS hL2⟩
  · exact absurd ((forced_c (show EQ (Wm F2) (Dm F2) (Wc F) (Dc F) (G + P) from AG_169 (kp 169 (by decide)) ag) _ _ _ _).symm) hq

set_option maxRecDepth 100000 in
set_option maxHeartbeats 4000000 in
theorem lc_11 (g : Gl) (l : Launch) {b L : Nat} {xs : Nat → Int32} {k : Nat} (hk : k + 5 ≤ L) (hL : L ≤ 2560) (F : Nat → Nat → Int32) (J : Nat → Int64) {G P T len : Nat} (h : LR F G P T len) (kk : ∀ (F2 : Nat → Nat → Int32) (J2 : Nat → Int64), (∃ G P T len, LR F2 G P T len) → Gj g l room_1 (XL g b L xs) (QL b) RL cL_law 4 (some .boolean) 680 [some (.ref 1300), some (.ref 0), some (.ref 167), some (.int (nI k))] [] (St F2 J2) 174 3276) : Gj g l room_1 (XL g b L xs) (QL b) RL cL_law 4 (some .boolean) 442 [some (.ref 1300), some (.ref 0), some (.ref 167), some (.int (nI k))] [] (St F J) 174 3276 := by
  obtain ⟨hc, hm, t1, t2, w1, w2, l1, l2, l3, tx, ag, bb, cs⟩ := id h
  have h8 : G ≤ 8 := hc.2.2.1
  have h24 : P ≤ 24 := hc.2.2.2
  have h32 : G + P ≤ 32 := by omega
  have hE : EQ (Wm F) (Dm F) (Wc F) (Dc F) (G + P) := ag
  refine g_aload_n 443 dL_law_442 rfl rfl ?_
  refine g_w0 7 446 dL_law_443 rfl kl_L_66 mv_X7_trues rfl ⟨Nat.le_of_ble_eq_true rfl, Nat.le_of_ble_eq_true rfl⟩ ⟨Nat.le_of_ble_eq_true rfl, Nat.le_of_ble_eq_true rfl⟩ (Nat.le_of_ble_eq_true rfl) ⟨Nat.le_of_ble_eq_true rfl, rfl⟩ (c_trues g l F J hc) ?_
  rintro _ _ ⟨rfl, rfl⟩
  refine g_aload_n 447 dL_law_446 rfl rfl ?_
  refine g_w0 8 450 dL_law_447 rfl kl_L_70 mv_X8_trues rfl ⟨Nat.le_of_ble_eq_true rfl, Nat.le_of_ble_eq_true rfl⟩ ⟨Nat.le_of_ble_eq_true rfl, Nat.le_of_ble_eq_true rfl⟩ (Nat.le_of_ble_eq_true rfl) ⟨Nat.le_of_ble_eq_true rfl, rfl⟩ (m_trues g l F J hm) ?_
  rintro _ _ ⟨rfl, rfl⟩
  refine g_lc_eq 680 454 dL_law_450 dL_law_451 rfl (by decide) (fun hq => ?_) (fun hq => ?_)
  · exact kk F _ ⟨G, P, T, len, h⟩
  · exact absurd ((tws_c hE (by omega)).symm) hq

set_option maxRecDepth 100000 in
set_option maxHeartbeats 4000000 in
theorem lc_12 (g : Gl) (l : Launch) {b L : Nat} {xs : Nat → Int32} {k : Nat} (hk : k + 5 ≤ L) (hL : L ≤ 2560) (F : Nat → Nat → Int32) (J : Nat → Int64) {G P T len : Nat} (h : LR F G P T len) (kk : ∀ (F2 : Nat → Nat → Int32) (J2 : Nat → Int64), (∃ G P T len, LR F2 G P T len) → Gj g l room_1 (XL g b L xs) (QL b) RL cL_law 4 (some .boolean) 680 [some (.ref 1300), some (.ref 0), some (.ref 167), some (.int (nI k))] [] (St F2 J2) 174 3276) : Gj g l room_1 (XL g b L xs) (QL b) RL cL_law 4 (some .boolean) 456 [some (.ref 1300), some (.ref 0), some (.ref 167), some (.int (nI k))] [] (St F J) 174 3276 := by
  obtain ⟨hc, hm, t1, t2, w1, w2, l1, l2, l3, tx, ag, bb, cs⟩ := id h
  have h8 : G ≤ 8 := hc.2.2.1
  have h24 : P ≤ 24 := hc.2.2.2
  have h32 : G + P ≤ 32 := by omega
  have hE : EQ (Wm F) (Dm F) (Wc F) (Dc F) (G + P) := ag
  refine g_aload_n 457 dL_law_456 rfl rfl ?_
  refine g_aload_n 458 dL_law_457 rfl rfl ?_
  refine g_iload_n 459 dL_law_458 rfl rfl ?_
  refine g_iconst (1) 460 dL_law_459 rfl (by decide) ?_
  refine g_iadd 461 dL_law_460 rfl ?_
  refine g_sld (k + 1) 462 dL_law_461 rfl (ixk k 1) (by omega) hL ?_
  refine g_w1 7 465 dL_law_462 rfl kl_L_71 mv_X7_told rfl ⟨Nat.le_of_ble_eq_true rfl, Nat.le_of_ble_eq_true rfl⟩ ⟨Nat.le_of_ble_eq_true rfl, Nat.le_of_ble_eq_true rfl⟩ (Nat.le_of_ble_eq_true rfl) ⟨Nat.le_of_ble_eq_true rfl, rfl⟩ (c_told g l (xs (k + 1)) F J hc) ?_
  rintro _ _ ⟨rfl, rfl⟩
  refine g_aload_n 466 dL_law_465 rfl rfl ?_
  refine g_aload_n 467 dL_law_466 rfl rfl ?_
  refine g_iload_n 468 dL_law_467 rfl rfl ?_
  refine g_iconst (1) 469 dL_law_468 rfl (by decide) ?_
  refine g_iadd 470 dL_law_469 rfl ?_
  refine g_sld (k + 1) 471 dL_law_470 rfl (ixk k 1) (by omega) hL ?_
  refine g_w1 8 474 dL_law_471 rfl kl_L_74 mv_X8_told rfl ⟨Nat.le_of_ble_eq_true rfl, Nat.le_of_ble_eq_true rfl⟩ ⟨Nat.le_of_ble_eq_true rfl, Nat.le_of_ble_eq_true rfl⟩ (Nat.le_of_ble_eq_true rfl) ⟨Nat.le_of_ble_eq_true rfl, rfl⟩ (m_told g l (xs (k + 1)) F J hm) ?_
  rintro _ _ ⟨rfl, rfl⟩
  refine g_icmp_eq 680 477 dL_law_474 rfl (by decide) (fun hq => ?_) (fun hq => ?_)
  · exact kk F _ ⟨G, P, T, len, h⟩
  · exact absurd ((told_c (by omega) h32 hE _).symm) hq

set_option maxRecDepth 100000 in
set_option maxHeartbeats 4000000 in
theorem lc_13 (g : Gl) (l : Launch) {b L : Nat} {xs : Nat → Int32} {k : Nat} (hk : k + 5 ≤ L) (hL : L ≤ 2560) (F : Nat → Nat → Int32) (J : Nat → Int64) {G P T len : Nat} (h : LR F G P T len) (kk : ∀ (F2 : Nat → Nat → Int32) (J2 : Nat → Int64), (∃ G P T len, LR F2 G P T len) → Gj g l room_1 (XL g b L xs) (QL b) RL cL_law 4 (some .boolean) 680 [some (.ref 1300), some (.ref 0), some (.ref 167), some (.int (nI k))] [] (St F2 J2) 174 3276) : Gj g l room_1 (XL g b L xs) (QL b) RL cL_law 4 (some .boolean) 479 [some (.ref 1300), some (.ref 0), some (.ref 167), some (.int (nI k))] [] (St F J) 174 3276 := by
  obtain ⟨hc, hm, t1, t2, w1, w2, l1, l2, l3, tx, ag, bb, cs⟩ := id h
  have h8 : G ≤ 8 := hc.2.2.1
  have h24 : P ≤ 24 := hc.2.2.2
  have h32 : G + P ≤ 32 := by omega
  have hE : EQ (Wm F) (Dm F) (Wc F) (Dc F) (G + P) := ag
  refine g_aload_n 480 dL_law_479 rfl rfl ?_
  refine g_aload_n 481 dL_law_480 rfl rfl ?_
  refine g_iload_n 482 dL_law_481 rfl rfl ?_
  refine g_iconst (1) 483 dL_law_482 rfl (by decide) ?_
  refine g_iadd 484 dL_law_483 rfl ?_
  refine g_sld (k + 1) 485 dL_law_484 rfl (ixk k 1) (by omega) hL ?_
  refine g_w1 7 488 dL_law_485 rfl kl_L_75 mv_X7_tight rfl ⟨Nat.le_of_ble_eq_true rfl, Nat.le_of_ble_eq_true rfl⟩ ⟨Nat.le_of_ble_eq_true rfl, Nat.le_of_ble_eq_true rfl⟩ (Nat.le_of_ble_eq_true rfl) ⟨Nat.le_of_ble_eq_true rfl, rfl⟩ (c_tight g l (xs (k + 1)) F J hc) ?_
  rintro _ _ ⟨rfl, rfl⟩
  refine g_aload_n 489 dL_law_488 rfl rfl ?_
  refine g_aload_n 490 dL_law_489 rfl rfl ?_
  refine g_iload_n 491 dL_law_490 rfl rfl ?_
  refine g_iconst (1) 492 dL_law_491 rfl (by decide) ?_
  refine g_iadd 493 dL_law_492 rfl ?_
  refine g_sld (k + 1) 494 dL_law_493 rfl (ixk k 1) (by omega) hL ?_
  refine g_w1 8 497 dL_law_494 rfl kl_L_78 mv_X8_tight rfl ⟨Nat.le_of_ble_eq_true rfl, Nat.le_of_ble_eq_true rfl⟩ ⟨Nat.le_of_ble_eq_true rfl, Nat.le_of_ble_eq_true rfl⟩ (Nat.le_of_ble_eq_true rfl) ⟨Nat.le_of_ble_eq_true rfl, rfl⟩ (m_tight g l (xs (k + 1)) F J hm) ?_
  rintro _ _ ⟨rfl, rfl⟩
  refine g_icmp_eq 680 500 dL_law_497 rfl (by decide) (fun hq => ?_) (fun hq => ?_)
  · exact kk F _ ⟨G, P, T, len, h⟩
  · exact absurd ((tight_c (by omega) h32 hE _).symm) hq

set_option maxRecDepth 100000 in
set_option maxHeartbeats 4000000 in
theorem lc_14 (g : Gl) (l : Launch) {b L : Nat} {xs : Nat → Int32} {k : Nat} (hk : k + 5 ≤ L) (hL : L ≤ 2560) (F : Nat → Nat → Int32) (J : Nat → Int64) {G P T len : Nat} (h : LR F G P T len) (kk : ∀ (F2 : Nat → Nat → Int32) (J2 : Nat → Int64), (∃ G P T len, LR F2 G P T len) → Gj g l room_1 (XL g b L xs) (QL b) RL cL_law 4 (some .boolean) 680 [some (.ref 1300), some (.ref 0), some (.ref 167), some (.int (nI k))] [] (St F2 J2) 174 3276) : Gj g l room_1 (XL g b L xs) (QL b) RL cL_law 4 (some .boolean) 502 [some (.ref 1300), some (.ref 0), some (.ref 167), some (.int (nI k))] [] (St F J) 174 3276 := by
  obtain ⟨hc, hm, t1, t2, w1, w2, l1, l2, l3, tx, ag, bb, cs⟩ := id h
  have h8 : G ≤ 8 := hc.2.2.1
  have h24 : P ≤ 24 := hc.2.2.2
  have h32 : G + P ≤ 32 := by omega
  have hE : EQ (Wm F) (Dm F) (Wc F) (Dc F) (G + P) := ag
  refine g_aload_n 503 dL_law_502 rfl rfl ?_
  refine g_aload_n 504 dL_law_503 rfl rfl ?_
  refine g_iload_n 505 dL_law_504 rfl rfl ?_
  refine g_iconst (1) 506 dL_law_505 rfl (by decide) ?_
  refine g_iadd 507 dL_law_506 rfl ?_
  refine g_sld (k + 1) 508 dL_law_507 rfl (ixk k 1) (by omega) hL ?_
  refine g_aload_n 509 dL_law_508 rfl rfl ?_
  refine g_iload_n 510 dL_law_509 rfl rfl ?_
  refine g_iconst (2) 511 dL_law_510 rfl (by decide) ?_
  refine g_iadd 512 dL_law_511 rfl ?_
  refine g_sld (k + 2) 513 dL_law_512 rfl (ixk k 2) (by omega) hL ?_
  refine g_w2 7 516 dL_law_513 rfl kl_L_79 mv_X7_needed rfl ⟨Nat.le_of_ble_eq_true rfl, Nat.le_of_ble_eq_true rfl⟩ ⟨Nat.le_of_ble_eq_true rfl, Nat.le_of_ble_eq_true rfl⟩ (Nat.le_of_ble_eq_true rfl) ⟨Nat.le_of_ble_eq_true rfl, rfl⟩ (c_needed g l (xs (k + 1)) (xs (k + 2)) F J hc) ?_
  rintro _ _ ⟨rfl, J2, rfl⟩
  refine g_aload_n 517 dL_law_516 rfl rfl ?_
  refine g_aload_n 518 dL_law_517 rfl rfl ?_
  refine g_iload_n 519 dL_law_518 rfl rfl ?_
  refine g_iconst (1) 520 dL_law_519 rfl (by decide) ?_
  refine g_iadd 521 dL_law_520 rfl ?_
  refine g_sld (k + 1) 522 dL_law_521 rfl (ixk k 1) (by omega) hL ?_
  refine g_aload_n 523 dL_law_522 rfl rfl ?_
  refine g_iload_n 524 dL_law_523 rfl rfl ?_
  refine g_iconst (2) 525 dL_law_524 rfl (by decide) ?_
  refine g_iadd 526 dL_law_525 rfl ?_
  refine g_sld (k + 2) 527 dL_law_526 rfl (ixk k 2) (by omega) hL ?_
  refine g_w2 8 530 dL_law_527 rfl kl_L_82 mv_X8_needed rfl ⟨Nat.le_of_ble_eq_true rfl, Nat.le_of_ble_eq_true rfl⟩ ⟨Nat.le_of_ble_eq_true rfl, Nat.le_of_ble_eq_true rfl⟩ (Nat.le_of_ble_eq_true rfl) ⟨Nat.le_of_ble_eq_true rfl, rfl⟩ (m_needed g l (xs (k + 1)) (xs (k + 2)) F J2 hm) ?_
  rintro _ _ ⟨rfl, rfl⟩
  refine g_icmp_eq 680 533 dL_law_530 rfl (by decide) (fun hq => ?_) (fun hq => ?_)
  · exact kk F _ ⟨G, P, T, len, h⟩
  · exact absurd ((needed_c J2 J h8 (by omega) h32 hE _ _).symm) hq

set_option maxRecDepth 100000 in
set_option maxHeartbeats 4000000 in
theorem lc_15 (g : Gl) (l : Launch) {b L : Nat} {xs : Nat → Int32} {k : Nat} (hk : k + 5 ≤ L) (hL : L ≤ 2560) (F : Nat → Nat → Int32) (J : Nat → Int64) {G P T len : Nat} (h : LR F G P T len) (kk : ∀ (F2 : Nat → Nat → Int32) (J2 : Nat → Int64), (∃ G P T len, LR F2 G P T len) → Gj g l room_1 (XL g b L xs) (QL b) RL cL_law 4 (some .boolean) 680 [some (.ref 1300), some (.ref 0), some (.ref 167), some (.int (nI k))] [] (St F2 J2) 174 3276) : Gj g l room_1 (XL g b L xs) (QL b) RL cL_law 4 (some .boolean) 535 [some (.ref 1300), some (.ref 0), some (.ref 167), some (.int (nI k))] [] (St F J) 174 3276 := by
  obtain ⟨hc, hm, t1, t2, w1, w2, l1, l2, l3, tx, ag, bb, cs⟩ := id h
  have h8 : G ≤ 8 := hc.2.2.1
  have h24 : P ≤ 24 := hc.2.2.2
  have h32 : G + P ≤ 32 := by omega
  have hE : EQ (Wm F) (Dm F) (Wc F) (Dc F) (G + P) := ag
  refine g_aload_n 536 dL_law_535 rfl rfl ?_
  refine g_aload_n 537 dL_law_536 rfl rfl ?_
  refine g_iload_n 538 dL_law_537 rfl rfl ?_
  refine g_iconst (1) 539 dL_law_538 rfl (by decide) ?_
  refine g_iadd 540 dL_law_539 rfl ?_
  refine g_sld (k + 1) 541 dL_law_540 rfl (ixk k 1) (by omega) hL ?_
  refine g_aload_n 542 dL_law_541 rfl rfl ?_
  refine g_iload_n 543 dL_law_542 rfl rfl ?_
  refine g_iconst (2) 544 dL_law_543 rfl (by decide) ?_
  refine g_iadd 545 dL_law_544 rfl ?_
  refine g_sld (k + 2) 546 dL_law_545 rfl (ixk k 2) (by omega) hL ?_
  refine g_w2 7 549 dL_law_546 rfl kl_L_83 mv_X7_covers rfl ⟨Nat.le_of_ble_eq_true rfl, Nat.le_of_ble_eq_true rfl⟩ ⟨Nat.le_of_ble_eq_true rfl, Nat.le_of_ble_eq_true rfl⟩ (Nat.le_of_ble_eq_true rfl) ⟨Nat.le_of_ble_eq_true rfl, rfl⟩ (c_covers g l (xs (k + 1)) (xs (k + 2)) F J hc) ?_
  rintro _ _ ⟨rfl, rfl⟩
  refine g_aload_n 550 dL_law_549 rfl rfl ?_
  refine g_aload_n 551 dL_law_550 rfl rfl ?_
  refine g_iload_n 552 dL_law_551 rfl rfl ?_
  refine g_iconst (1) 553 dL_law_552 rfl (by decide) ?_
  refine g_iadd 554 dL_law_553 rfl ?_
  refine g_sld (k + 1) 555 dL_law_554 rfl (ixk k 1) (by omega) hL ?_
  refine g_aload_n 556 dL_law_555 rfl rfl ?_
  refine g_iload_n 557 dL_law_556 rfl rfl ?_
  refine g_iconst (2) 558 dL_law_557 rfl (by decide) ?_
  refine g_iadd 559 dL_law_558 rfl ?_
  refine g_sld (k + 2) 560 dL_law_559 rfl (ixk k 2) (by omega) hL ?_
  refine g_w2 8 563 dL_law_560 rfl kl_L_86 mv_X8_covers rfl ⟨Nat.le_of_ble_eq_true rfl, Nat.le_of_ble_eq_true rfl⟩ ⟨Nat.le_of_ble_eq_true rfl, Nat.le_of_ble_eq_true rfl⟩ (Nat.le_of_ble_eq_true rfl) ⟨Nat.le_of_ble_eq_true rfl, rfl⟩ (m_covers g l (xs (k + 1)) (xs (k + 2)) F J hm) ?_
  rintro _ _ ⟨x, rfl, hx, rfl⟩
  refine g_icmp_eq 680 566 dL_law_563 rfl (by decide) (fun hq => ?_) (fun hq => ?_)
  · exact kk F _ ⟨G, P, T, len, h⟩
  · exact absurd ((covers_c h32 hE bb _ _ hx).symm) hq

set_option maxRecDepth 100000 in
set_option maxHeartbeats 4000000 in
theorem lc_16 (g : Gl) (l : Launch) {b L : Nat} {xs : Nat → Int32} {k : Nat} (hk : k + 5 ≤ L) (hL : L ≤ 2560) (F : Nat → Nat → Int32) (J : Nat → Int64) {G P T len : Nat} (h : LR F G P T len) (kk : ∀ (F2 : Nat → Nat → Int32) (J2 : Nat → Int64), (∃ G P T len, LR F2 G P T len) → Gj g l room_1 (XL g b L xs) (QL b) RL cL_law 4 (some .boolean) 680 [some (.ref 1300), some (.ref 0), some (.ref 167), some (.int (nI k))] [] (St F2 J2) 174 3276) : Gj g l room_1 (XL g b L xs) (QL b) RL cL_law 4 (some .boolean) 568 [some (.ref 1300), some (.ref 0), some (.ref 167), some (.int (nI k))] [] (St F J) 174 3276 := by
  obtain ⟨hc, hm, t1, t2, w1, w2, l1, l2, l3, tx, ag, bb, cs⟩ := id h
  have h8 : G ≤ 8 := hc.2.2.1
  have h24 : P ≤ 24 := hc.2.2.2
  have h32 : G + P ≤ 32 := by omega
  have hE : EQ (Wm F) (Dm F) (Wc F) (Dc F) (G + P) := ag
  refine g_aload_n 569 dL_law_568 rfl rfl ?_
  refine g_aload_n 570 dL_law_569 rfl rfl ?_
  refine g_iload_n 571 dL_law_570 rfl rfl ?_
  refine g_iconst (1) 572 dL_law_571 rfl (by decide) ?_
  refine g_iadd 573 dL_law_572 rfl ?_
  refine g_sld (k + 1) 574 dL_law_573 rfl (ixk k 1) (by omega) hL ?_
  refine g_aload_n 575 dL_law_574 rfl rfl ?_
  refine g_iload_n 576 dL_law_575 rfl rfl ?_
  refine g_iconst (2) 577 dL_law_576 rfl (by decide) ?_
  refine g_iadd 578 dL_law_577 rfl ?_
  refine g_sld (k + 2) 579 dL_law_578 rfl (ixk k 2) (by omega) hL ?_
  refine g_w2 7 582 dL_law_579 rfl kl_L_87 mv_X7_cost rfl ⟨Nat.le_of_ble_eq_true rfl, Nat.le_of_ble_eq_true rfl⟩ ⟨Nat.le_of_ble_eq_true rfl, Nat.le_of_ble_eq_true rfl⟩ (Nat.le_of_ble_eq_true rfl) ⟨Nat.le_of_ble_eq_true rfl, rfl⟩ (c_cost g l (xs (k + 1)) (xs (k + 2)) F J) ?_
  rintro _ _ ⟨rfl, rfl⟩
  refine g_aload_n 583 dL_law_582 rfl rfl ?_
  refine g_aload_n 584 dL_law_583 rfl rfl ?_
  refine g_iload_n 585 dL_law_584 rfl rfl ?_
  refine g_iconst (1) 586 dL_law_585 rfl (by decide) ?_
  refine g_iadd 587 dL_law_586 rfl ?_
  refine g_sld (k + 1) 588 dL_law_587 rfl (ixk k 1) (by omega) hL ?_
  refine g_aload_n 589 dL_law_588 rfl rfl ?_
  refine g_iload_n 590 dL_law_589 rfl rfl ?_
  refine g_iconst (2) 591 dL_law_590 rfl (by decide) ?_
  refine g_iadd 592 dL_law_591 rfl ?_
  refine g_sld (k + 2) 593 dL_law_592 rfl (ixk k 2) (by omega) hL ?_
  refine g_w2 8 596 dL_law_593 rfl kl_L_90 mv_X8_cost rfl ⟨Nat.le_of_ble_eq_true rfl, Nat.le_of_ble_eq_true rfl⟩ ⟨Nat.le_of_ble_eq_true rfl, Nat.le_of_ble_eq_true rfl⟩ (Nat.le_of_ble_eq_true rfl) ⟨Nat.le_of_ble_eq_true rfl, rfl⟩ (m_cost g l (xs (k + 1)) (xs (k + 2)) _ J hm.2.2.1) ?_
  rintro _ _ ⟨rfl, rfl⟩
  refine g_icmp_eq 680 599 dL_law_596 rfl (by decide) (fun hq => ?_) (fun hq => ?_)
  · exact kk _ _ ⟨G, P, T, len, (LR_cost h (xs (k + 1)) (xs (k + 2))).2⟩
  · exact absurd ((LR_cost h (xs (k + 1)) (xs (k + 2))).1) hq

set_option maxRecDepth 100000 in
set_option maxHeartbeats 4000000 in
theorem lc_17 (g : Gl) (l : Launch) {b L : Nat} {xs : Nat → Int32} {k : Nat} (hk : k + 5 ≤ L) (hL : L ≤ 2560) (F : Nat → Nat → Int32) (J : Nat → Int64) {G P T len : Nat} (h : LR F G P T len) (kk : ∀ (F2 : Nat → Nat → Int32) (J2 : Nat → Int64), (∃ G P T len, LR F2 G P T len) → Gj g l room_1 (XL g b L xs) (QL b) RL cL_law 4 (some .boolean) 680 [some (.ref 1300), some (.ref 0), some (.ref 167), some (.int (nI k))] [] (St F2 J2) 174 3276) : Gj g l room_1 (XL g b L xs) (QL b) RL cL_law 4 (some .boolean) 601 [some (.ref 1300), some (.ref 0), some (.ref 167), some (.int (nI k))] [] (St F J) 174 3276 := by
  obtain ⟨hc, hm, t1, t2, w1, w2, l1, l2, l3, tx, ag, bb, cs⟩ := id h
  have h8 : G ≤ 8 := hc.2.2.1
  have h24 : P ≤ 24 := hc.2.2.2
  have h32 : G + P ≤ 32 := by omega
  have hE : EQ (Wm F) (Dm F) (Wc F) (Dc F) (G + P) := ag
  refine g_aload_n 602 dL_law_601 rfl rfl ?_
  refine g_aload_n 603 dL_law_602 rfl rfl ?_
  refine g_iload_n 604 dL_law_603 rfl rfl ?_
  refine g_iconst (1) 605 dL_law_604 rfl (by decide) ?_
  refine g_iadd 606 dL_law_605 rfl ?_
  refine g_sld (k + 1) 607 dL_law_606 rfl (ixk k 1) (by omega) hL ?_
  refine g_w1 7 610 dL_law_607 rfl kl_L_91 mv_X7_least rfl ⟨Nat.le_of_ble_eq_true rfl, Nat.le_of_ble_eq_true rfl⟩ ⟨Nat.le_of_ble_eq_true rfl, Nat.le_of_ble_eq_true rfl⟩ (Nat.le_of_ble_eq_true rfl) ⟨Nat.le_of_ble_eq_true rfl, rfl⟩ (c_least g l (xs (k + 1)) F J hc) ?_
  rintro _ _ ⟨rfl, rfl⟩
  refine g_aload_n 611 dL_law_610 rfl rfl ?_
  refine g_aload_n 612 dL_law_611 rfl rfl ?_
  refine g_iload_n 613 dL_law_612 rfl rfl ?_
  refine g_iconst (1) 614 dL_law_613 rfl (by decide) ?_
  refine g_iadd 615 dL_law_614 rfl ?_
  refine g_sld (k + 1) 616 dL_law_615 rfl (ixk k 1) (by omega) hL ?_
  refine g_w1 8 619 dL_law_616 rfl kl_L_94 mv_X8_least rfl ⟨Nat.le_of_ble_eq_true rfl, Nat.le_of_ble_eq_true rfl⟩ ⟨Nat.le_of_ble_eq_true rfl, Nat.le_of_ble_eq_true rfl⟩ (Nat.le_of_ble_eq_true rfl) ⟨Nat.le_of_ble_eq_true rfl, rfl⟩ (m_least g l (xs (k + 1)) F J hm) ?_
  rintro _ _ ⟨rfl, rfl⟩
  refine g_icmp_eq 680 622 dL_law_619 rfl (by decide) (fun hq => ?_) (fun hq => ?_)
  · exact kk F _ ⟨G, P, T, len, h⟩
  · exact absurd ((least_c (by omega) hE cs _).symm) hq

set_option maxRecDepth 100000 in
set_option maxHeartbeats 4000000 in
theorem lc_18 (g : Gl) (l : Launch) {b L : Nat} {xs : Nat → Int32} {k : Nat} (hk : k + 5 ≤ L) (hL : L ≤ 2560) (F : Nat → Nat → Int32) (J : Nat → Int64) {G P T len : Nat} (h : LR F G P T len) (kk : ∀ (F2 : Nat → Nat → Int32) (J2 : Nat → Int64), (∃ G P T len, LR F2 G P T len) → Gj g l room_1 (XL g b L xs) (QL b) RL cL_law 4 (some .boolean) 680 [some (.ref 1300), some (.ref 0), some (.ref 167), some (.int (nI k))] [] (St F2 J2) 174 3276) : Gj g l room_1 (XL g b L xs) (QL b) RL cL_law 4 (some .boolean) 624 [some (.ref 1300), some (.ref 0), some (.ref 167), some (.int (nI k))] [] (St F J) 174 3276 := by
  obtain ⟨hc, hm, t1, t2, w1, w2, l1, l2, l3, tx, ag, bb, cs⟩ := id h
  have h8 : G ≤ 8 := hc.2.2.1
  have h24 : P ≤ 24 := hc.2.2.2
  have h32 : G + P ≤ 32 := by omega
  have hE : EQ (Wm F) (Dm F) (Wc F) (Dc F) (G + P) := ag
  refine g_aload_n 625 dL_law_624 rfl rfl ?_
  refine g_aload_n 626 dL_law_625 rfl rfl ?_
  refine g_iload_n 627 dL_law_626 rfl rfl ?_
  refine g_iconst (1) 628 dL_law_627 rfl (by decide) ?_
  refine g_iadd 629 dL_law_628 rfl ?_
  refine g_sld (k + 1) 630 dL_law_629 rfl (ixk k 1) (by omega) hL ?_
  refine g_aload_n 631 dL_law_630 rfl rfl ?_
  refine g_iload_n 632 dL_law_631 rfl rfl ?_
  refine g_iconst (2) 633 dL_law_632 rfl (by decide) ?_
  refine g_iadd 634 dL_law_633 rfl ?_
  refine g_sld (k + 2) 635 dL_law_634 rfl (ixk k 2) (by omega) hL ?_
  refine g_w2 7 638 dL_law_635 rfl kl_L_95 mv_X7_fit rfl ⟨Nat.le_of_ble_eq_true rfl, Nat.le_of_ble_eq_true rfl⟩ ⟨Nat.le_of_ble_eq_true rfl, Nat.le_of_ble_eq_true rfl⟩ (Nat.le_of_ble_eq_true rfl) ⟨Nat.le_of_ble_eq_true rfl, rfl⟩ (c_fit g l (xs (k + 1)) (xs (k + 2)) F J) ?_
  rintro _ _ ⟨rfl, F2, rfl, kp⟩
  have hL2 := LR_X (Or.inr (Or.inl rfl)) kp h
  refine g_aload_n 639 dL_law_638 rfl rfl ?_
  refine g_aload_n 640 dL_law_639 rfl rfl ?_
  refine g_iload_n 641 dL_law_640 rfl rfl ?_
  refine g_iconst (1) 642 dL_law_641 rfl (by decide) ?_
  refine g_iadd 643 dL_law_642 rfl ?_
  refine g_sld (k + 1) 644 dL_law_643 rfl (ixk k 1) (by omega) hL ?_
  refine g_aload_n 645 dL_law_644 rfl rfl ?_
  refine g_iload_n 646 dL_law_645 rfl rfl ?_
  refine g_iconst (2) 647 dL_law_646 rfl (by decide) ?_
  refine g_iadd 648 dL_law_647 rfl ?_
  refine g_sld (k + 2) 649 dL_law_648 rfl (ixk k 2) (by omega) hL ?_
  refine g_w2 8 652 dL_law_649 rfl kl_L_98 mv_X8_fit rfl ⟨Nat.le_of_ble_eq_true rfl, Nat.le_of_ble_eq_true rfl⟩ ⟨Nat.le_of_ble_eq_true rfl, Nat.le_of_ble_eq_true rfl⟩ (Nat.le_of_ble_eq_true rfl) ⟨Nat.le_of_ble_eq_true rfl, rfl⟩ (m_fit g l (xs (k + 1)) (xs (k + 2)) F2 J hL2.2.1.2.2.1) ?_
  rintro _ _ ⟨rfl, F3, rfl, kp3⟩
  refine g_icmp_eq 680 655 dL_law_652 rfl (by decide) (fun hq => ?_) (fun hq => ?_)
  · exact kk _ _ ⟨G, P, T, len, LR_X (Or.inr (Or.inr rfl)) kp3 hL2⟩
  · exact absurd ((fit_c _ _).symm) hq

set_option maxRecDepth 100000 in
set_option maxHeartbeats 4000000 in
theorem lc_19 (g : Gl) (l : Launch) {b L : Nat} {xs : Nat → Int32} {k : Nat} (hk : k + 5 ≤ L) (hL : L ≤ 2560) (F : Nat → Nat → Int32) (J : Nat → Int64) {G P T len : Nat} (h : LR F G P T len) (kk : ∀ (F2 : Nat → Nat → Int32) (J2 : Nat → Int64), (∃ G P T len, LR F2 G P T len) → Gj g l room_1 (XL g b L xs) (QL b) RL cL_law 4 (some .boolean) 680 [some (.ref 1300), some (.ref 0), some (.ref 167), some (.int (nI k))] [] (St F2 J2) 174 3276) : Gj g l room_1 (XL g b L xs) (QL b) RL cL_law 4 (some .boolean) 657 [some (.ref 1300), some (.ref 0), some (.ref 167), some (.int (nI k))] [] (St F J) 174 3276 := by
  obtain ⟨hc, hm, t1, t2, w1, w2, l1, l2, l3, tx, ag, bb, cs⟩ := id h
  have h8 : G ≤ 8 := hc.2.2.1
  have h24 : P ≤ 24 := hc.2.2.2
  have h32 : G + P ≤ 32 := by omega
  have hE : EQ (Wm F) (Dm F) (Wc F) (Dc F) (G + P) := ag
  refine g_aload_n 658 dL_law_657 rfl rfl ?_
  refine g_aload_n 659 dL_law_658 rfl rfl ?_
  refine g_iload_n 660 dL_law_659 rfl rfl ?_
  refine g_iconst (1) 661 dL_law_660 rfl (by decide) ?_
  refine g_iadd 662 dL_law_661 rfl ?_
  refine g_sld (k + 1) 663 dL_law_662 rfl (ixk k 1) (by omega) hL ?_
  refine g_w1 7 666 dL_law_663 rfl kl_L_99 mv_X7_count rfl ⟨Nat.le_of_ble_eq_true rfl, Nat.le_of_ble_eq_true rfl⟩ ⟨Nat.le_of_ble_eq_true rfl, Nat.le_of_ble_eq_true rfl⟩ (Nat.le_of_ble_eq_true rfl) ⟨Nat.le_of_ble_eq_true rfl, rfl⟩ (c_count g l (xs (k + 1)) F J hc t1 l1) ?_
  rintro _ _ ⟨rfl, rfl⟩
  refine g_aload_n 667 dL_law_666 rfl rfl ?_
  refine g_aload_n 668 dL_law_667 rfl rfl ?_
  refine g_iload_n 669 dL_law_668 rfl rfl ?_
  refine g_iconst (1) 670 dL_law_669 rfl (by decide) ?_
  refine g_iadd 671 dL_law_670 rfl ?_
  refine g_sld (k + 1) 672 dL_law_671 rfl (ixk k 1) (by omega) hL ?_
  refine g_w1 8 675 dL_law_672 rfl kl_L_102 mv_X8_count rfl ⟨Nat.le_of_ble_eq_true rfl, Nat.le_of_ble_eq_true rfl⟩ ⟨Nat.le_of_ble_eq_true rfl, Nat.le_of_ble_eq_true rfl⟩ (Nat.le_of_ble_eq_true rfl) ⟨Nat.le_of_ble_eq_true rfl, rfl⟩ (m_count g l (xs (k + 1)) F J hm t2 l2) ?_
  rintro _ _ ⟨rfl, rfl⟩
  refine g_icmp_eq 680 678 dL_law_675 rfl (by decide) (fun hq => ?_) (fun hq => ?_)
  · exact kk F _ ⟨G, P, T, len, h⟩
  · exact absurd ((count_c (by omega) hE P T len _).symm) hq

set_option maxRecDepth 100000 in
set_option maxHeartbeats 4000000 in
theorem lc_2 (g : Gl) (l : Launch) {b L : Nat} {xs : Nat → Int32} {k : Nat} (hk : k + 5 ≤ L) (hL : L ≤ 2560) (F : Nat → Nat → Int32) (J : Nat → Int64) {G P T len : Nat} (h : LR F G P T len) (kk : ∀ (F2 : Nat → Nat → Int32) (J2 : Nat → Int64), (∃ G P T len, LR F2 G P T len) → Gj g l room_1 (XL g b L xs) (QL b) RL cL_law 4 (some .boolean) 680 [some (.ref 1300), some (.ref 0), some (.ref 167), some (.int (nI k))] [] (St F2 J2) 174 3276) : Gj g l room_1 (XL g b L xs) (QL b) RL cL_law 4 (some .boolean) 204 [some (.ref 1300), some (.ref 0), some (.ref 167), some (.int (nI k))] [] (St F J) 174 3276 := by
  obtain ⟨hc, hm, t1, t2, w1, w2, l1, l2, l3, tx, ag, bb, cs⟩ := id h
  have h8 : G ≤ 8 := hc.2.2.1
  have h24 : P ≤ 24 := hc.2.2.2
  have h32 : G + P ≤ 32 := by omega
  have hE : EQ (Wm F) (Dm F) (Wc F) (Dc F) (G + P) := ag
  refine g_aload_n 205 dL_law_204 rfl rfl ?_
  refine g_w0 7 208 dL_law_205 rfl kl_L_25 mv_X7_given rfl ⟨Nat.le_of_ble_eq_true rfl, Nat.le_of_ble_eq_true rfl⟩ ⟨Nat.le_of_ble_eq_true rfl, Nat.le_of_ble_eq_true rfl⟩ (Nat.le_of_ble_eq_true rfl) ⟨Nat.le_of_ble_eq_true rfl, rfl⟩ (c_given g l F J l1 l3) ?_
  intro r S2 hz
  replace hz : gZ (gvR (crF (allT (at_ F len) len (q0F F)).1 (allT (at_ F len) len (q0F F)).2.1) (gn (allT (at_ F len) len (q0F F)).2.2.2) 8 0 0 L0) F (allT (at_ F len) len (q0F F)).2.2.1 J r S2 := hz
  generalize hX : (gvR (crF (allT (at_ F len) len (q0F F)).1 (allT (at_ F len) len (q0F F)).2.1) (gn (allT (at_ F len) len (q0F F)).2.2.2) 8 0 0 L0) = X at hz
  rcases hz with ⟨x1, rfl, F2, rfl, a⟩ | ⟨x1, rfl, F2, rfl, kp⟩
  · obtain ⟨aa, hR⟩ := LR_RD (F1 := F2) h (by rw [a.2.2.2.2.2.2.2 167 (by decide)]) (a.2.2.2.2.2.2.2 168 (by decide))
    refine g_aload_n 209 dL_law_208 rfl rfl ?_
    refine g_w0 8 212 dL_law_209 rfl kl_L_28 mv_X8_given rfl ⟨Nat.le_of_ble_eq_true rfl, Nat.le_of_ble_eq_true rfl⟩ ⟨Nat.le_of_ble_eq_true rfl, Nat.le_of_ble_eq_true rfl⟩ (Nat.le_of_ble_eq_true rfl) ⟨Nat.le_of_ble_eq_true rfl, rfl⟩ (m_given g l F2 J hR (by rw [a.2.2.2.2.2.2.2 167 (by decide)]; exact hm.2.2.1)) ?_
    rintro r2 S3 hz2
    rw [hX] at hz2
    rcases hz2 with ⟨y1, rfl, F3, rfl, bF⟩ | ⟨y1, -⟩
    · refine g_icmp_eq 680 215 dL_law_212 rfl (by decide) (fun hq => ?_) (fun hq => ?_)
      · exact kk _ _ ⟨_, 0, 0, 0, LR_given h (by rw [← hX]; exact gv_n 8 0 0 L0 (by decide)) (by rw [← hX]; exact gv_in 8 0 0 L0 (fun j hj => absurd hj (Nat.not_lt_zero j))) a bF⟩
      · exact absurd (rfl) hq
    · exact absurd (y1.symm.trans x1) (by decide)
  · obtain ⟨aa, hR⟩ := LR_RD (F1 := F2) h (by rw [kp 167 (by decide)]) (kp 168 (by decide))
    refine g_aload_n 209 dL_law_208 rfl rfl ?_
    refine g_w0 8 212 dL_law_209 rfl kl_L_28 mv_X8_given rfl ⟨Nat.le_of_ble_eq_true rfl, Nat.le_of_ble_eq_true rfl⟩ ⟨Nat.le_of_ble_eq_true rfl, Nat.le_of_ble_eq_true rfl⟩ (Nat.le_of_ble_eq_true rfl) ⟨Nat.le_of_ble_eq_true rfl, rfl⟩ (m_given g l F2 J hR (by rw [kp 167 (by decide)]; exact hm.2.2.1)) ?_
    rintro r2 S3 hz2
    rw [hX] at hz2
    rcases hz2 with ⟨y1, -⟩ | ⟨y1, rfl, F3, rfl, kF⟩
    · exact absurd (y1.symm.trans x1) (by decide)
    · refine g_icmp_eq 680 215 dL_law_212 rfl (by decide) (fun hq => ?_) (fun hq => ?_)
      · exact kk _ _ ⟨G, P, T, len, LR_F kF (LR_R kp h)⟩
      · exact absurd (rfl) hq

set_option maxRecDepth 100000 in
set_option maxHeartbeats 4000000 in
theorem lc_3 (g : Gl) (l : Launch) {b L : Nat} {xs : Nat → Int32} {k : Nat} (hk : k + 5 ≤ L) (hL : L ≤ 2560) (F : Nat → Nat → Int32) (J : Nat → Int64) {G P T len : Nat} (h : LR F G P T len) (kk : ∀ (F2 : Nat → Nat → Int32) (J2 : Nat → Int64), (∃ G P T len, LR F2 G P T len) → Gj g l room_1 (XL g b L xs) (QL b) RL cL_law 4 (some .boolean) 680 [some (.ref 1300), some (.ref 0), some (.ref 167), some (.int (nI k))] [] (St F2 J2) 174 3276) : Gj g l room_1 (XL g b L xs) (QL b) RL cL_law 4 (some .boolean) 217 [some (.ref 1300), some (.ref 0), some (.ref 167), some (.int (nI k))] [] (St F J) 174 3276 := by
  obtain ⟨hc, hm, t1, t2, w1, w2, l1, l2, l3, tx, ag, bb, cs⟩ := id h
  have h8 : G ≤ 8 := hc.2.2.1
  have h24 : P ≤ 24 := hc.2.2.2
  have h32 : G + P ≤ 32 := by omega
  have hE : EQ (Wm F) (Dm F) (Wc F) (Dc F) (G + P) := ag
  refine g_aload_n 218 dL_law_217 rfl rfl ?_
  refine g_w0 7 221 dL_law_218 rfl kl_L_29 mv_X7_proof rfl ⟨Nat.le_of_ble_eq_true rfl, Nat.le_of_ble_eq_true rfl⟩ ⟨Nat.le_of_ble_eq_true rfl, Nat.le_of_ble_eq_true rfl⟩ (Nat.le_of_ble_eq_true rfl) ⟨Nat.le_of_ble_eq_true rfl, rfl⟩ (c_proof g l F J l1 l3 hc.1 h8) ?_
  intro r S2 hz
  replace hz : pZ (prR (crF (allT (at_ F len) len (q0F F)).1 (allT (at_ F len) len (q0F F)).2.1) (gn (allT (at_ F len) len (q0F F)).2.2.2) (nI G) (oldQ F) 24 0 0 Q00) F G (allT (at_ F len) len (q0F F)).2.2.1 J r S2 := hz
  generalize hX : (prR (crF (allT (at_ F len) len (q0F F)).1 (allT (at_ F len) len (q0F F)).2.1) (gn (allT (at_ F len) len (q0F F)).2.2.2) (nI G) (oldQ F) 24 0 0 Q00) = X at hz
  rcases hz with ⟨x1, Q, hQ, rfl, F2, rfl, a⟩ | ⟨x1, rfl, F2, rfl, kp⟩
  · obtain ⟨aa, hR⟩ := LR_RD (F1 := F2) h (by rw [a.2.2.2.2.2.2.2.2 167 (by decide)]) (a.2.2.2.2.2.2.2.2 168 (by decide))
    refine g_aload_n 222 dL_law_221 rfl rfl ?_
    refine g_w0 8 225 dL_law_222 rfl kl_L_32 mv_X8_proof rfl ⟨Nat.le_of_ble_eq_true rfl, Nat.le_of_ble_eq_true rfl⟩ ⟨Nat.le_of_ble_eq_true rfl, Nat.le_of_ble_eq_true rfl⟩ (Nat.le_of_ble_eq_true rfl) ⟨Nat.le_of_ble_eq_true rfl, rfl⟩ (m_proof g l F2 J hR (by rw [a.2.2.2.2.2.2.2.2 167 (by decide)]; exact hm.2.2.1) (by rw [a.2.2.2.2.2.2.2.2 167 (by decide)]; exact hm.1) h8 (AG_169 (a.2.2.2.2.2.2.2.2 169 (by decide)) (fun i hi => ag i (by omega))) (fun i hi => bb i (by omega)) (Q := Q) (Q0 := oldQ F) (by rw [hX]; exact fun _ => hQ)) ?_
    rintro r2 S3 hz2
    rw [hX] at hz2
    rcases hz2 with ⟨y1, rfl, F3, rfl, bF⟩ | ⟨y1, -⟩
    · refine g_icmp_eq 680 228 dL_law_225 rfl (by decide) (fun hq => ?_) (fun hq => ?_)
      · exact kk _ _ ⟨G, _, _, 0, LR_proof h (by rw [← hX]; exact pr_n _ 24 0 0 Q00 (by decide)) a bF⟩
      · exact absurd (rfl) hq
    · exact absurd (y1.symm.trans x1) (by decide)
  · obtain ⟨aa, hR⟩ := LR_RD (F1 := F2) h (by rw [kp 167 (by decide)]) (kp 168 (by decide))
    refine g_aload_n 222 dL_law_221 rfl rfl ?_
    refine g_w0 8 225 dL_law_222 rfl kl_L_32 mv_X8_proof rfl ⟨Nat.le_of_ble_eq_true rfl, Nat.le_of_ble_eq_true rfl⟩ ⟨Nat.le_of_ble_eq_true rfl, Nat.le_of_ble_eq_true rfl⟩ (Nat.le_of_ble_eq_true rfl) ⟨Nat.le_of_ble_eq_true rfl, rfl⟩ (m_proof g l F2 J hR (by rw [kp 167 (by decide)]; exact hm.2.2.1) (by rw [kp 167 (by decide)]; exact hm.1) h8 (AG_169 (kp 169 (by decide)) (fun i hi => ag i (by omega))) (fun i hi => bb i (by omega)) (Q := oldQ F) (Q0 := oldQ F) (by rw [hX]; exact fun z => absurd (z.symm.trans x1) (by decide))) ?_
    rintro r2 S3 hz2
    rw [hX] at hz2
    rcases hz2 with ⟨y1, -⟩ | ⟨y1, rfl, F3, rfl, kF⟩
    · exact absurd (y1.symm.trans x1) (by decide)
    · refine g_icmp_eq 680 228 dL_law_225 rfl (by decide) (fun hq => ?_) (fun hq => ?_)
      · exact kk _ _ ⟨G, P, T, len, LR_F kF (LR_R kp h)⟩
      · exact absurd (rfl) hq

