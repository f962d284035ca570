set_option maxHeartbeats 4000000 in
set_option maxRecDepth 100000 in
/-- set -/
theorem lw_c0 {F : gF} {b L i : Nat} {xs : Nat → Int32} {ad : Nat → Nat} {K : Nat × Nat} {X : gX} {g : Nat → Nat} {n len : Nat} {h : Nat → Nat → Nat} {pad : Nat → Nat} {sv : Nat → Bool} {sg : Nat → Nat → Nat} (hC : Cx F RL cL_law 4 room_1) (hs : Sc F b L xs) (hab : (S0 ad).2.2 5000 = b) (hL : L ≤ 2560) (hi : i + 5 ≤ L) (hf : K.1 ≤ room_1.cells ∧ K.2 ≤ room_1.slots) (LL : LW X g n h pad len sv sg) (hn : ∀ X', LX X' → G F (S0 ad) K X' 913 [.ref 5000, .ref 0, .ref 201, .int (nI i)] []) : G F (S0 ad) K X 148 [.ref 5000, .ref 0, .ref 201, .int (nI i)] [] := by
  refine g_aload_1 hC dL_law_148 (pc' := 149) rfl ?_
  refine g_aload_0 hC dL_law_149 (pc' := 150) rfl ?_
  refine g_iload_3 hC dL_law_150 (pc' := 151) rfl ?_
  refine g_iconst hC dL_law_151 (pc' := 152) kc_iconst_1 rfl ?_
  refine g_iaddN hC dL_law_152 (pc' := 153) rfl ?_
  refine g_sld hC hs hab hL (by omega) dL_law_153 (pc' := 154) rfl ?_
  refine g_aload_0 hC dL_law_154 (pc' := 155) rfl ?_
  refine g_iload_3 hC dL_law_155 (pc' := 156) rfl ?_
  refine g_iconst hC dL_law_156 (pc' := 157) kc_iconst_2 rfl ?_
  refine g_iaddN hC dL_law_157 (pc' := 158) rfl ?_
  refine g_sld hC hs hab hL (by omega) dL_law_158 (pc' := 159) rfl ?_
  refine g_callV2I hC (k_set LL.2.1.1 LL.2.1.2.1 LL.2.2.1) ml_L_13 (sh_cs ad) rfl ⟨(Nat.le_of_ble_eq_true rfl), (Nat.le_of_ble_eq_true rfl)⟩ (Nat.le_of_ble_eq_true rfl) dL_law_159 (pc' := 162) rfl hf (fun v159 X159 q159 => ?_)
  obtain ⟨rfl, c1, f1⟩ := q159
  have mm := LL.m (X1 := X159) (fun j hj => f1 j (by omega))
  refine g_aload_2 hC dL_law_162 (pc' := 163) rfl ?_
  refine g_aload_0 hC dL_law_163 (pc' := 164) rfl ?_
  refine g_iload_3 hC dL_law_164 (pc' := 165) rfl ?_
  refine g_iconst hC dL_law_165 (pc' := 166) kc_iconst_1 rfl ?_
  refine g_iaddN hC dL_law_166 (pc' := 167) rfl ?_
  refine g_sld hC hs hab hL (by omega) dL_law_167 (pc' := 168) rfl ?_
  refine g_aload_0 hC dL_law_168 (pc' := 169) rfl ?_
  refine g_iload_3 hC dL_law_169 (pc' := 170) rfl ?_
  refine g_iconst hC dL_law_170 (pc' := 171) kc_iconst_2 rfl ?_
  refine g_iaddN hC dL_law_171 (pc' := 172) rfl ?_
  refine g_sld hC hs hab hL (by omega) dL_law_172 (pc' := 173) rfl ?_
  refine g_callV2I hC (c_set mm.1 LL.2.2.1) ml_L_17 (sh_M ad) rfl ⟨(Nat.le_of_ble_eq_true rfl), (Nat.le_of_ble_eq_true rfl)⟩ (Nat.le_of_ble_eq_true rfl) dL_law_173 (pc' := 176) rfl hf (fun v173 X173 q173 => ?_)
  obtain ⟨rfl, c2, w2⟩ := q173
  refine g_icmp_eq hC dL_law_176 (pc' := 179) (tgt := 913) (by decide) rfl (fun h176 => ?_) (fun h176 => by exact absurd rfl h176)
  exact hn _ (LL.c c1 f1 c2 w2 (fun hk => Inv_set LL.2.2.1 hk))

set_option maxHeartbeats 4000000 in
set_option maxRecDepth 100000 in
/-- thickness -/
theorem lw_c1 {F : gF} {b L i : Nat} {xs : Nat → Int32} {ad : Nat → Nat} {K : Nat × Nat} {X : gX} {g : Nat → Nat} {n len : Nat} {h : Nat → Nat → Nat} {pad : Nat → Nat} {sv : Nat → Bool} {sg : Nat → Nat → Nat} (hC : Cx F RL cL_law 4 room_1) (hs : Sc F b L xs) (hab : (S0 ad).2.2 5000 = b) (hL : L ≤ 2560) (hi : i + 5 ≤ L) (hf : K.1 ≤ room_1.cells ∧ K.2 ≤ room_1.slots) (LL : LW X g n h pad len sv sg) (hn : ∀ X', LX X' → G F (S0 ad) K X' 913 [.ref 5000, .ref 0, .ref 201, .int (nI i)] []) : G F (S0 ad) K X 181 [.ref 5000, .ref 0, .ref 201, .int (nI i)] [] := by
  refine g_aload_1 hC dL_law_181 (pc' := 182) rfl ?_
  refine g_aload_0 hC dL_law_182 (pc' := 183) rfl ?_
  refine g_iload_3 hC dL_law_183 (pc' := 184) rfl ?_
  refine g_iconst hC dL_law_184 (pc' := 185) kc_iconst_1 rfl ?_
  refine g_iaddN hC dL_law_185 (pc' := 186) rfl ?_
  refine g_sld hC hs hab hL (by omega) dL_law_186 (pc' := 187) rfl ?_
  refine g_aload_0 hC dL_law_187 (pc' := 188) rfl ?_
  refine g_iload_3 hC dL_law_188 (pc' := 189) rfl ?_
  refine g_iconst hC dL_law_189 (pc' := 190) kc_iconst_2 rfl ?_
  refine g_iaddN hC dL_law_190 (pc' := 191) rfl ?_
  refine g_sld hC hs hab hL (by omega) dL_law_191 (pc' := 192) rfl ?_
  refine g_callV2I hC (k_thickness LL.2.1.1 LL.2.1.2.1 LL.2.2.1) ml_L_18 (sh_cs ad) rfl ⟨(Nat.le_of_ble_eq_true rfl), (Nat.le_of_ble_eq_true rfl)⟩ (Nat.le_of_ble_eq_true rfl) dL_law_192 (pc' := 195) rfl hf (fun v192 X192 q192 => ?_)
  obtain ⟨rfl, c1, f1⟩ := q192
  have mm := LL.m (X1 := X192) (fun j hj => f1 j (by omega))
  refine g_aload_2 hC dL_law_195 (pc' := 196) rfl ?_
  refine g_aload_0 hC dL_law_196 (pc' := 197) rfl ?_
  refine g_iload_3 hC dL_law_197 (pc' := 198) rfl ?_
  refine g_iconst hC dL_law_198 (pc' := 199) kc_iconst_1 rfl ?_
  refine g_iaddN hC dL_law_199 (pc' := 200) rfl ?_
  refine g_sld hC hs hab hL (by omega) dL_law_200 (pc' := 201) rfl ?_
  refine g_aload_0 hC dL_law_201 (pc' := 202) rfl ?_
  refine g_iload_3 hC dL_law_202 (pc' := 203) rfl ?_
  refine g_iconst hC dL_law_203 (pc' := 204) kc_iconst_2 rfl ?_
  refine g_iaddN hC dL_law_204 (pc' := 205) rfl ?_
  refine g_sld hC hs hab hL (by omega) dL_law_205 (pc' := 206) rfl ?_
  refine g_callV2I hC (c_thickness mm.1 LL.2.2.1) ml_L_21 (sh_M ad) rfl ⟨(Nat.le_of_ble_eq_true rfl), (Nat.le_of_ble_eq_true rfl)⟩ (Nat.le_of_ble_eq_true rfl) dL_law_206 (pc' := 209) rfl hf (fun v206 X206 q206 => ?_)
  obtain ⟨rfl, c2, w2⟩ := q206
  refine g_icmp_eq hC dL_law_209 (pc' := 212) (tgt := 913) (by decide) rfl (fun h209 => ?_) (fun h209 => by exact absurd rfl h209)
  exact hn _ (LL.c c1 f1 c2 w2 (fun hk => Inv_thick LL.2.2.1 hk))

set_option maxHeartbeats 4000000 in
set_option maxRecDepth 100000 in
/-- carbon -/
theorem lw_c2 {F : gF} {b L i : Nat} {xs : Nat → Int32} {ad : Nat → Nat} {K : Nat × Nat} {X : gX} {g : Nat → Nat} {n len : Nat} {h : Nat → Nat → Nat} {pad : Nat → Nat} {sv : Nat → Bool} {sg : Nat → Nat → Nat} (hC : Cx F RL cL_law 4 room_1) (hs : Sc F b L xs) (hab : (S0 ad).2.2 5000 = b) (hL : L ≤ 2560) (hi : i + 5 ≤ L) (hf : K.1 ≤ room_1.cells ∧ K.2 ≤ room_1.slots) (LL : LW X g n h pad len sv sg) (hn : ∀ X', LX X' → G F (S0 ad) K X' 913 [.ref 5000, .ref 0, .ref 201, .int (nI i)] []) : G F (S0 ad) K X 214 [.ref 5000, .ref 0, .ref 201, .int (nI i)] [] := by
  refine g_aload_1 hC dL_law_214 (pc' := 215) rfl ?_
  refine g_aload_0 hC dL_law_215 (pc' := 216) rfl ?_
  refine g_iload_3 hC dL_law_216 (pc' := 217) rfl ?_
  refine g_iconst hC dL_law_217 (pc' := 218) kc_iconst_1 rfl ?_
  refine g_iaddN hC dL_law_218 (pc' := 219) rfl ?_
  refine g_sld hC hs hab hL (by omega) dL_law_219 (pc' := 220) rfl ?_
  refine g_aload_0 hC dL_law_220 (pc' := 221) rfl ?_
  refine g_iload_3 hC dL_law_221 (pc' := 222) rfl ?_
  refine g_iconst hC dL_law_222 (pc' := 223) kc_iconst_2 rfl ?_
  refine g_iaddN hC dL_law_223 (pc' := 224) rfl ?_
  refine g_sld hC hs hab hL (by omega) dL_law_224 (pc' := 225) rfl ?_
  refine g_callV2I hC (k_carbon LL.2.1.1 LL.2.1.2.1 LL.2.2.1) ml_L_22 (sh_cs ad) rfl ⟨(Nat.le_of_ble_eq_true rfl), (Nat.le_of_ble_eq_true rfl)⟩ (Nat.le_of_ble_eq_true rfl) dL_law_225 (pc' := 228) rfl hf (fun v225 X225 q225 => ?_)
  obtain ⟨rfl, c1, f1⟩ := q225
  have mm := LL.m (X1 := X225) (fun j hj => f1 j (by omega))
  refine g_aload_2 hC dL_law_228 (pc' := 229) rfl ?_
  refine g_aload_0 hC dL_law_229 (pc' := 230) rfl ?_
  refine g_iload_3 hC dL_law_230 (pc' := 231) rfl ?_
  refine g_iconst hC dL_law_231 (pc' := 232) kc_iconst_1 rfl ?_
  refine g_iaddN hC dL_law_232 (pc' := 233) rfl ?_
  refine g_sld hC hs hab hL (by omega) dL_law_233 (pc' := 234) rfl ?_
  refine g_aload_0 hC dL_law_234 (pc' := 235) rfl ?_
  refine g_iload_3 hC dL_law_235 (pc' := 236) rfl ?_
  refine g_iconst hC dL_law_236 (pc' := 237) kc_iconst_2 rfl ?_
  refine g_iaddN hC dL_law_237 (pc' := 238) rfl ?_
  refine g_sld hC hs hab hL (by omega) dL_law_238 (pc' := 239) rfl ?_
  refine g_callV2I hC (c_carbon mm.1 LL.2.2.1) ml_L_25 (sh_M ad) rfl ⟨(Nat.le_of_ble_eq_true rfl), (Nat.le_of_ble_eq_true rfl)⟩ (Nat.le_of_ble_eq_true rfl) dL_law_239 (pc' := 242) rfl hf (fun v239 X239 q239 => ?_)
  obtain ⟨rfl, c2, w2⟩ := q239
  refine g_icmp_eq hC dL_law_242 (pc' := 245) (tgt := 913) (by decide) rfl (fun h242 => ?_) (fun h242 => by exact absurd rfl h242)
  exact hn _ (LL.c c1 f1 c2 w2 (fun hk => Inv_carb LL.2.2.1 hk))

set_option maxHeartbeats 4000000 in
set_option maxRecDepth 100000 in
/-- write -/
theorem lw_c3 {F : gF} {b L i : Nat} {xs : Nat → Int32} {ad : Nat → Nat} {K : Nat × Nat} {X : gX} {g : Nat → Nat} {n len : Nat} {h : Nat → Nat → Nat} {pad : Nat → Nat} {sv : Nat → Bool} {sg : Nat → Nat → Nat} (hC : Cx F RL cL_law 4 room_1) (hs : Sc F b L xs) (hab : (S0 ad).2.2 5000 = b) (hL : L ≤ 2560) (hi : i + 5 ≤ L) (hf : K.1 ≤ room_1.cells ∧ K.2 ≤ room_1.slots) (LL : LW X g n h pad len sv sg) (hn : ∀ X', LX X' → G F (S0 ad) K X' 913 [.ref 5000, .ref 0, .ref 201, .int (nI i)] []) : G F (S0 ad) K X 247 [.ref 5000, .ref 0, .ref 201, .int (nI i)] [] := by
  refine g_aload_1 hC dL_law_247 (pc' := 248) rfl ?_
  refine g_aload_0 hC dL_law_248 (pc' := 249) rfl ?_
  refine g_iload_3 hC dL_law_249 (pc' := 250) rfl ?_
  refine g_iconst hC dL_law_250 (pc' := 251) kc_iconst_1 rfl ?_
  refine g_iaddN hC dL_law_251 (pc' := 252) rfl ?_
  refine g_sld hC hs hab hL (by omega) dL_law_252 (pc' := 253) rfl ?_
  refine g_aload_0 hC dL_law_253 (pc' := 254) rfl ?_
  refine g_iload_3 hC dL_law_254 (pc' := 255) rfl ?_
  refine g_iconst hC dL_law_255 (pc' := 256) kc_iconst_2 rfl ?_
  refine g_iaddN hC dL_law_256 (pc' := 257) rfl ?_
  refine g_sld hC hs hab hL (by omega) dL_law_257 (pc' := 258) rfl ?_
  refine g_aload_0 hC dL_law_258 (pc' := 259) rfl ?_
  refine g_iload_3 hC dL_law_259 (pc' := 260) rfl ?_
  refine g_iconst hC dL_law_260 (pc' := 261) kc_iconst_3 rfl ?_
  refine g_iaddN hC dL_law_261 (pc' := 262) rfl ?_
  refine g_sld hC hs hab hL (by omega) dL_law_262 (pc' := 263) rfl ?_
  refine g_callV3I hC (k_write LL.2.1.1 LL.2.1.2.1 LL.2.2.1) ml_L_26 (sh_cs ad) rfl ⟨(Nat.le_of_ble_eq_true rfl), (Nat.le_of_ble_eq_true rfl)⟩ (Nat.le_of_ble_eq_true rfl) dL_law_263 (pc' := 266) rfl hf (fun v263 X263 q263 => ?_)
  obtain ⟨rfl, c1, f1⟩ := q263
  have mm := LL.m (X1 := X263) (fun j hj => f1 j (by omega))
  refine g_aload_2 hC dL_law_266 (pc' := 267) rfl ?_
  refine g_aload_0 hC dL_law_267 (pc' := 268) rfl ?_
  refine g_iload_3 hC dL_law_268 (pc' := 269) rfl ?_
  refine g_iconst hC dL_law_269 (pc' := 270) kc_iconst_1 rfl ?_
  refine g_iaddN hC dL_law_270 (pc' := 271) rfl ?_
  refine g_sld hC hs hab hL (by omega) dL_law_271 (pc' := 272) rfl ?_
  refine g_aload_0 hC dL_law_272 (pc' := 273) rfl ?_
  refine g_iload_3 hC dL_law_273 (pc' := 274) rfl ?_
  refine g_iconst hC dL_law_274 (pc' := 275) kc_iconst_2 rfl ?_
  refine g_iaddN hC dL_law_275 (pc' := 276) rfl ?_
  refine g_sld hC hs hab hL (by omega) dL_law_276 (pc' := 277) rfl ?_
  refine g_aload_0 hC dL_law_277 (pc' := 278) rfl ?_
  refine g_iload_3 hC dL_law_278 (pc' := 279) rfl ?_
  refine g_iconst hC dL_law_279 (pc' := 280) kc_iconst_3 rfl ?_
  refine g_iaddN hC dL_law_280 (pc' := 281) rfl ?_
  refine g_sld hC hs hab hL (by omega) dL_law_281 (pc' := 282) rfl ?_
  refine g_callV3I hC (c_write mm.1 LL.2.2.1) ml_L_30 (sh_M ad) rfl ⟨(Nat.le_of_ble_eq_true rfl), (Nat.le_of_ble_eq_true rfl)⟩ (Nat.le_of_ble_eq_true rfl) dL_law_282 (pc' := 285) rfl hf (fun v282 X282 q282 => ?_)
  obtain ⟨rfl, c2, w2⟩ := q282
  refine g_icmp_eq hC dL_law_285 (pc' := 288) (tgt := 913) (by decide) rfl (fun h285 => ?_) (fun h285 => by exact absurd rfl h285)
  exact hn _ (LL.c c1 f1 c2 w2 (fun hk => Inv_wrtI LL.2.2.1 hk))

set_option maxHeartbeats 4000000 in
set_option maxRecDepth 100000 in
/-- strike -/
theorem lw_c4 {F : gF} {b L i : Nat} {xs : Nat → Int32} {ad : Nat → Nat} {K : Nat × Nat} {X : gX} {g : Nat → Nat} {n len : Nat} {h : Nat → Nat → Nat} {pad : Nat → Nat} {sv : Nat → Bool} {sg : Nat → Nat → Nat} (hC : Cx F RL cL_law 4 room_1) (hs : Sc F b L xs) (hab : (S0 ad).2.2 5000 = b) (hL : L ≤ 2560) (hi : i + 5 ≤ L) (hf : K.1 ≤ room_1.cells ∧ K.2 ≤ room_1.slots) (LL : LW X g n h pad len sv sg) (hn : ∀ X', LX X' → G F (S0 ad) K X' 913 [.ref 5000, .ref 0, .ref 201, .int (nI i)] []) : G F (S0 ad) K X 290 [.ref 5000, .ref 0, .ref 201, .int (nI i)] [] := by
  refine g_aload_1 hC dL_law_290 (pc' := 291) rfl ?_
  refine g_aload_0 hC dL_law_291 (pc' := 292) rfl ?_
  refine g_iload_3 hC dL_law_292 (pc' := 293) rfl ?_
  refine g_iconst hC dL_law_293 (pc' := 294) kc_iconst_1 rfl ?_
  refine g_iaddN hC dL_law_294 (pc' := 295) rfl ?_
  refine g_sld hC hs hab hL (by omega) dL_law_295 (pc' := 296) rfl ?_
  refine g_aload_0 hC dL_law_296 (pc' := 297) rfl ?_
  refine g_iload_3 hC dL_law_297 (pc' := 298) rfl ?_
  refine g_iconst hC dL_law_298 (pc' := 299) kc_iconst_2 rfl ?_
  refine g_iaddN hC dL_law_299 (pc' := 300) rfl ?_
  refine g_sld hC hs hab hL (by omega) dL_law_300 (pc' := 301) rfl ?_
  refine g_callV2I hC (k_strike LL.2.1.1 LL.2.1.2.1 LL.2.2.1) ml_L_31 (sh_cs ad) rfl ⟨(Nat.le_of_ble_eq_true rfl), (Nat.le_of_ble_eq_true rfl)⟩ (Nat.le_of_ble_eq_true rfl) dL_law_301 (pc' := 304) rfl hf (fun v301 X301 q301 => ?_)
  obtain ⟨rfl, c1, f1⟩ := q301
  have mm := LL.m (X1 := X301) (fun j hj => f1 j (by omega))
  refine g_aload_2 hC dL_law_304 (pc' := 305) rfl ?_
  refine g_aload_0 hC dL_law_305 (pc' := 306) rfl ?_
  refine g_iload_3 hC dL_law_306 (pc' := 307) rfl ?_
  refine g_iconst hC dL_law_307 (pc' := 308) kc_iconst_1 rfl ?_
  refine g_iaddN hC dL_law_308 (pc' := 309) rfl ?_
  refine g_sld hC hs hab hL (by omega) dL_law_309 (pc' := 310) rfl ?_
  refine g_aload_0 hC dL_law_310 (pc' := 311) rfl ?_
  refine g_iload_3 hC dL_law_311 (pc' := 312) rfl ?_
  refine g_iconst hC dL_law_312 (pc' := 313) kc_iconst_2 rfl ?_
  refine g_iaddN hC dL_law_313 (pc' := 314) rfl ?_
  refine g_sld hC hs hab hL (by omega) dL_law_314 (pc' := 315) rfl ?_
  refine g_callV2I hC (c_strike mm.1 LL.2.2.1) ml_L_34 (sh_M ad) rfl ⟨(Nat.le_of_ble_eq_true rfl), (Nat.le_of_ble_eq_true rfl)⟩ (Nat.le_of_ble_eq_true rfl) dL_law_315 (pc' := 318) rfl hf (fun v315 X315 q315 => ?_)
  obtain ⟨rfl, c2, w2⟩ := q315
  refine g_icmp_eq hC dL_law_318 (pc' := 321) (tgt := 913) (by decide) rfl (fun h318 => ?_) (fun h318 => by exact absurd rfl h318)
  exact hn _ (LL.c c1 f1 c2 w2 (fun hk => Inv_strI LL.2.2.1 hk))

set_option maxHeartbeats 4000000 in
set_option maxRecDepth 100000 in
/-- paint -/
theorem lw_c5 {F : gF} {b L i : Nat} {xs : Nat → Int32} {ad : Nat → Nat} {K : Nat × Nat} {X : gX} {g : Nat → Nat} {n len : Nat} {h : Nat → Nat → Nat} {pad : Nat → Nat} {sv : Nat → Bool} {sg : Nat → Nat → Nat} (hC : Cx F RL cL_law 4 room_1) (hs : Sc F b L xs) (hab : (S0 ad).2.2 5000 = b) (hL : L ≤ 2560) (hi : i + 5 ≤ L) (hf : K.1 ≤ room_1.cells ∧ K.2 ≤ room_1.slots) (LL : LW X g n h pad len sv sg) (hn : ∀ X', LX X' → G F (S0 ad) K X' 913 [.ref 5000, .ref 0, .ref 201, .int (nI i)] []) : G F (S0 ad) K X 323 [.ref 5000, .ref 0, .ref 201, .int (nI i)] [] := by
  refine g_aload_1 hC dL_law_323 (pc' := 324) rfl ?_
  refine g_aload_0 hC dL_law_324 (pc' := 325) rfl ?_
  refine g_iload_3 hC dL_law_325 (pc' := 326) rfl ?_
  refine g_iconst hC dL_law_326 (pc' := 327) kc_iconst_1 rfl ?_
  refine g_iaddN hC dL_law_327 (pc' := 328) rfl ?_
  refine g_sld hC hs hab hL (by omega) dL_law_328 (pc' := 329) rfl ?_
  refine g_aload_0 hC dL_law_329 (pc' := 330) rfl ?_
  refine g_iload_3 hC dL_law_330 (pc' := 331) rfl ?_
  refine g_iconst hC dL_law_331 (pc' := 332) kc_iconst_2 rfl ?_
  refine g_iaddN hC dL_law_332 (pc' := 333) rfl ?_
  refine g_sld hC hs hab hL (by omega) dL_law_333 (pc' := 334) rfl ?_
  refine g_callV2I hC (k_paint LL.2.1.1 LL.2.1.2.1 LL.2.2.1) ml_L_35 (sh_cs ad) rfl ⟨(Nat.le_of_ble_eq_true rfl), (Nat.le_of_ble_eq_true rfl)⟩ (Nat.le_of_ble_eq_true rfl) dL_law_334 (pc' := 337) rfl hf (fun v334 X334 q334 => ?_)
  obtain ⟨rfl, c1, f1⟩ := q334
  have mm := LL.m (X1 := X334) (fun j hj => f1 j (by omega))
  refine g_aload_2 hC dL_law_337 (pc' := 338) rfl ?_
  refine g_aload_0 hC dL_law_338 (pc' := 339) rfl ?_
  refine g_iload_3 hC dL_law_339 (pc' := 340) rfl ?_
  refine g_iconst hC dL_law_340 (pc' := 341) kc_iconst_1 rfl ?_
  refine g_iaddN hC dL_law_341 (pc' := 342) rfl ?_
  refine g_sld hC hs hab hL (by omega) dL_law_342 (pc' := 343) rfl ?_
  refine g_aload_0 hC dL_law_343 (pc' := 344) rfl ?_
  refine g_iload_3 hC dL_law_344 (pc' := 345) rfl ?_
  refine g_iconst hC dL_law_345 (pc' := 346) kc_iconst_2 rfl ?_
  refine g_iaddN hC dL_law_346 (pc' := 347) rfl ?_
  refine g_sld hC hs hab hL (by omega) dL_law_347 (pc' := 348) rfl ?_
  refine g_callV2I hC (c_paint mm.1 LL.2.2.1) ml_L_38 (sh_M ad) rfl ⟨(Nat.le_of_ble_eq_true rfl), (Nat.le_of_ble_eq_true rfl)⟩ (Nat.le_of_ble_eq_true rfl) dL_law_348 (pc' := 351) rfl hf (fun v348 X348 q348 => ?_)
  obtain ⟨rfl, c2, w2⟩ := q348
  refine g_icmp_eq hC dL_law_351 (pc' := 354) (tgt := 913) (by decide) rfl (fun h351 => ?_) (fun h351 => by exact absurd rfl h351)
  exact hn _ (LL.c c1 f1 c2 w2 (fun hk => Inv_paint LL.2.2.1 hk))

set_option maxHeartbeats 4000000 in
set_option maxRecDepth 100000 in
/-- amend -/
theorem lw_c6 {F : gF} {b L i : Nat} {xs : Nat → Int32} {ad : Nat → Nat} {K : Nat × Nat} {X : gX} {g : Nat → Nat} {n len : Nat} {h : Nat → Nat → Nat} {pad : Nat → Nat} {sv : Nat → Bool} {sg : Nat → Nat → Nat} (hC : Cx F RL cL_law 4 room_1) (hs : Sc F b L xs) (hab : (S0 ad).2.2 5000 = b) (hL : L ≤ 2560) (hi : i + 5 ≤ L) (hf : K.1 ≤ room_1.cells ∧ K.2 ≤ room_1.slots) (LL : LW X g n h pad len sv sg) (hn : ∀ X', LX X' → G F (S0 ad) K X' 913 [.ref 5000, .ref 0, .ref 201, .int (nI i)] []) : G F (S0 ad) K X 356 [.ref 5000, .ref 0, .ref 201, .int (nI i)] [] := by
  refine g_aload_1 hC dL_law_356 (pc' := 357) rfl ?_
  refine g_aload_0 hC dL_law_357 (pc' := 358) rfl ?_
  refine g_iload_3 hC dL_law_358 (pc' := 359) rfl ?_
  refine g_iconst hC dL_law_359 (pc' := 360) kc_iconst_1 rfl ?_
  refine g_iaddN hC dL_law_360 (pc' := 361) rfl ?_
  refine g_sld hC hs hab hL (by omega) dL_law_361 (pc' := 362) rfl ?_
  refine g_aload_0 hC dL_law_362 (pc' := 363) rfl ?_
  refine g_iload_3 hC dL_law_363 (pc' := 364) rfl ?_
  refine g_iconst hC dL_law_364 (pc' := 365) kc_iconst_2 rfl ?_
  refine g_iaddN hC dL_law_365 (pc' := 366) rfl ?_
  refine g_sld hC hs hab hL (by omega) dL_law_366 (pc' := 367) rfl ?_
  refine g_aload_0 hC dL_law_367 (pc' := 368) rfl ?_
  refine g_iload_3 hC dL_law_368 (pc' := 369) rfl ?_
  refine g_iconst hC dL_law_369 (pc' := 370) kc_iconst_3 rfl ?_
  refine g_iaddN hC dL_law_370 (pc' := 371) rfl ?_
  refine g_sld hC hs hab hL (by omega) dL_law_371 (pc' := 372) rfl ?_
  refine g_aload_0 hC dL_law_372 (pc' := 373) rfl ?_
  refine g_iload_3 hC dL_law_373 (pc' := 374) rfl ?_
  refine g_iconst hC dL_law_374 (pc' := 375) kc_iconst_4 rfl ?_
  refine g_iaddN hC dL_law_375 (pc' := 376) rfl ?_
  refine g_sld hC hs hab hL (by omega) dL_law_376 (pc' := 377) rfl ?_
  refine g_callV4I hC (k_amend LL.2.1.1 LL.2.1.2.1 LL.2.2.1) ml_L_39 (sh_cs ad) rfl ⟨(Nat.le_of_ble_eq_true rfl), (Nat.le_of_ble_eq_true rfl)⟩ (Nat.le_of_ble_eq_true rfl) dL_law_377 (pc' := 380) rfl hf (fun v377 X377 q377 => ?_)
  obtain ⟨rfl, c1, f1⟩ := q377
  have mm := LL.m (X1 := X377) (fun j hj => f1 j (by omega))
  refine g_aload_2 hC dL_law_380 (pc' := 381) rfl ?_
  refine g_aload_0 hC dL_law_381 (pc' := 382) rfl ?_
  refine g_iload_3 hC dL_law_382 (pc' := 383) rfl ?_
  refine g_iconst hC dL_law_383 (pc' := 384) kc_iconst_1 rfl ?_
  refine g_iaddN hC dL_law_384 (pc' := 385) rfl ?_
  refine g_sld hC hs hab hL (by omega) dL_law_385 (pc' := 386) rfl ?_
  refine g_aload_0 hC dL_law_386 (pc' := 387) rfl ?_
  refine g_iload_3 hC dL_law_387 (pc' := 388) rfl ?_
  refine g_iconst hC dL_law_388 (pc' := 389) kc_iconst_2 rfl ?_
  refine g_iaddN hC dL_law_389 (pc' := 390) rfl ?_
  refine g_sld hC hs hab hL (by omega) dL_law_390 (pc' := 391) rfl ?_
  refine g_aload_0 hC dL_law_391 (pc' := 392) rfl ?_
  refine g_iload_3 hC dL_law_392 (pc' := 393) rfl ?_
  refine g_iconst hC dL_law_393 (pc' := 394) kc_iconst_3 rfl ?_
  refine g_iaddN hC dL_law_394 (pc' := 395) rfl ?_
  refine g_sld hC hs hab hL (by omega) dL_law_395 (pc' := 396) rfl ?_
  refine g_aload_0 hC dL_law_396 (pc' := 397) rfl ?_
  refine g_iload_3 hC dL_law_397 (pc' := 398) rfl ?_
  refine g_iconst hC dL_law_398 (pc' := 399) kc_iconst_4 rfl ?_
  refine g_iaddN hC dL_law_399 (pc' := 400) rfl ?_
  refine g_sld hC hs hab hL (by omega) dL_law_400 (pc' := 401) rfl ?_
  refine g_callV4I hC (c_amend mm.1 LL.2.2.1) ml_L_43 (sh_M ad) rfl ⟨(Nat.le_of_ble_eq_true rfl), (Nat.le_of_ble_eq_true rfl)⟩ (Nat.le_of_ble_eq_true rfl) dL_law_401 (pc' := 404) rfl hf (fun v401 X401 q401 => ?_)
  obtain ⟨rfl, c2, w2⟩ := q401
  refine g_icmp_eq hC dL_law_404 (pc' := 407) (tgt := 913) (by decide) rfl (fun h404 => ?_) (fun h404 => by exact absurd rfl h404)
  exact hn _ (LL.c c1 f1 c2 w2 (fun hk => Inv_amend LL.2.2.1 hk))

set_option maxHeartbeats 4000000 in
set_option maxRecDepth 100000 in
/-- tear -/
theorem lw_c7 {F : gF} {b L i : Nat} {xs : Nat → Int32} {ad : Nat → Nat} {K : Nat × Nat} {X : gX} {g : Nat → Nat} {n len : Nat} {h : Nat → Nat → Nat} {pad : Nat → Nat} {sv : Nat → Bool} {sg : Nat → Nat → Nat} (hC : Cx F RL cL_law 4 room_1) (hs : Sc F b L xs) (hab : (S0 ad).2.2 5000 = b) (hL : L ≤ 2560) (hi : i + 5 ≤ L) (hf : K.1 ≤ room_1.cells ∧ K.2 ≤ room_1.slots) (LL : LW X g n h pad len sv sg) (hn : ∀ X', LX X' → G F (S0 ad) K X' 913 [.ref 5000, .ref 0, .ref 201, .int (nI i)] []) : G F (S0 ad) K X 409 [.ref 5000, .ref 0, .ref 201, .int (nI i)] [] := by
  refine g_aload_1 hC dL_law_409 (pc' := 410) rfl ?_
  refine g_aload_0 hC dL_law_410 (pc' := 411) rfl ?_
  refine g_iload_3 hC dL_law_411 (pc' := 412) rfl ?_
  refine g_iconst hC dL_law_412 (pc' := 413) kc_iconst_1 rfl ?_
  refine g_iaddN hC dL_law_413 (pc' := 414) rfl ?_
  refine g_sld hC hs hab hL (by omega) dL_law_414 (pc' := 415) rfl ?_
  refine g_callV1I hC (k_tear LL.2.1.1 LL.2.1.2.1 LL.2.2.1) ml_L_44 (sh_cs ad) rfl ⟨(Nat.le_of_ble_eq_true rfl), (Nat.le_of_ble_eq_true rfl)⟩ (Nat.le_of_ble_eq_true rfl) dL_law_415 (pc' := 418) rfl hf (fun v415 X415 q415 => ?_)
  obtain ⟨rfl, c1, f1⟩ := q415
  have mm := LL.m (X1 := X415) (fun j hj => f1 j (by omega))
  refine g_aload_2 hC dL_law_418 (pc' := 419) rfl ?_
  refine g_aload_0 hC dL_law_419 (pc' := 420) rfl ?_
  refine g_iload_3 hC dL_law_420 (pc' := 421) rfl ?_
  refine g_iconst hC dL_law_421 (pc' := 422) kc_iconst_1 rfl ?_
  refine g_iaddN hC dL_law_422 (pc' := 423) rfl ?_
  refine g_sld hC hs hab hL (by omega) dL_law_423 (pc' := 424) rfl ?_
  refine g_callV1I hC (c_tear mm.1 LL.2.2.1) ml_L_48 (sh_M ad) rfl ⟨(Nat.le_of_ble_eq_true rfl), (Nat.le_of_ble_eq_true rfl)⟩ (Nat.le_of_ble_eq_true rfl) dL_law_424 (pc' := 427) rfl hf (fun v424 X424 q424 => ?_)
  obtain ⟨rfl, c2, w2⟩ := q424
  refine g_icmp_eq hC dL_law_427 (pc' := 430) (tgt := 913) (by decide) rfl (fun h427 => ?_) (fun h427 => by exact absurd rfl h427)
  exact hn _ (LL.c c1 f1 c2 w2 (fun hk => Inv_tearI LL.2.2.1 hk))

set_option maxHeartbeats 4000000 in
set_option maxRecDepth 100000 in
/-- ofSheet -/
theorem lw_c8 {F : gF} {b L i : Nat} {xs : Nat → Int32} {ad : Nat → Nat} {K : Nat × Nat} {X : gX} {g : Nat → Nat} {n len : Nat} {h : Nat → Nat → Nat} {pad : Nat → Nat} {sv : Nat → Bool} {sg : Nat → Nat → Nat} (hC : Cx F RL cL_law 4 room_1) (hs : Sc F b L xs) (hab : (S0 ad).2.2 5000 = b) (hL : L ≤ 2560) (hi : i + 5 ≤ L) (hf : K.1 ≤ room_1.cells ∧ K.2 ≤ room_1.slots) (LL : LW X g n h pad len sv sg) (hn : ∀ X', LX X' → G F (S0 ad) K X' 913 [.ref 5000, .ref 0, .ref 201, .int (nI i)] []) : G F (S0 ad) K X 432 [.ref 5000, .ref 0, .ref 201, .int (nI i)] [] := by
  refine g_aload_1 hC dL_law_432 (pc' := 433) rfl ?_
  refine g_aload_0 hC dL_law_433 (pc' := 434) rfl ?_
  refine g_iload_3 hC dL_law_434 (pc' := 435) rfl ?_
  refine g_iconst hC dL_law_435 (pc' := 436) kc_iconst_1 rfl ?_
  refine g_iaddN hC dL_law_436 (pc' := 437) rfl ?_
  refine g_sld hC hs hab hL (by omega) dL_law_437 (pc' := 438) rfl ?_
  refine g_aload_0 hC dL_law_438 (pc' := 439) rfl ?_
  refine g_iload_3 hC dL_law_439 (pc' := 440) rfl ?_
  refine g_iconst hC dL_law_440 (pc' := 441) kc_iconst_2 rfl ?_
  refine g_iaddN hC dL_law_441 (pc' := 442) rfl ?_
  refine g_sld hC hs hab hL (by omega) dL_law_442 (pc' := 443) rfl ?_
  refine g_callV2R hC (k_ofSheet LL.2.1.1 LL.2.2.1) ml_L_49 (sh_cs ad) rfl ⟨(Nat.le_of_ble_eq_true rfl), (Nat.le_of_ble_eq_true rfl)⟩ (Nat.le_of_ble_eq_true rfl) dL_law_443 (pc' := 446) rfl hf ?_
  refine g_aload_2 hC dL_law_446 (pc' := 447) rfl ?_
  refine g_aload_0 hC dL_law_447 (pc' := 448) rfl ?_
  refine g_iload_3 hC dL_law_448 (pc' := 449) rfl ?_
  refine g_iconst hC dL_law_449 (pc' := 450) kc_iconst_1 rfl ?_
  refine g_iaddN hC dL_law_450 (pc' := 451) rfl ?_
  refine g_sld hC hs hab hL (by omega) dL_law_451 (pc' := 452) rfl ?_
  refine g_aload_0 hC dL_law_452 (pc' := 453) rfl ?_
  refine g_iload_3 hC dL_law_453 (pc' := 454) rfl ?_
  refine g_iconst hC dL_law_454 (pc' := 455) kc_iconst_2 rfl ?_
  refine g_iaddN hC dL_law_455 (pc' := 456) rfl ?_
  refine g_sld hC hs hab hL (by omega) dL_law_456 (pc' := 457) rfl ?_
  refine g_callV2R hC (c_ofSheet LL.1.1.1 LL.2.2.1) ml_L_52 (sh_M ad) rfl ⟨(Nat.le_of_ble_eq_true rfl), (Nat.le_of_ble_eq_true rfl)⟩ (Nat.le_of_ble_eq_true rfl) dL_law_457 (pc' := 460) rfl hf ?_
  refine g_icmp_eq hC dL_law_460 (pc' := 463) (tgt := 913) (by decide) rfl (fun h460 => ?_) (fun h460 => by exact absurd rfl h460)
  exact hn _ ⟨g, n, h, pad, len, sv, sg, LL⟩

set_option maxHeartbeats 4000000 in
set_option maxRecDepth 100000 in
/-- reading -/
theorem lw_c9 {F : gF} {b L i : Nat} {xs : Nat → Int32} {ad : Nat → Nat} {K : Nat × Nat} {X : gX} {g : Nat → Nat} {n len : Nat} {h : Nat → Nat → Nat} {pad : Nat → Nat} {sv : Nat → Bool} {sg : Nat → Nat → Nat} (hC : Cx F RL cL_law 4 room_1) (hs : Sc F b L xs) (hab : (S0 ad).2.2 5000 = b) (hL : L ≤ 2560) (hi : i + 5 ≤ L) (hf : K.1 ≤ room_1.cells ∧ K.2 ≤ room_1.slots) (LL : LW X g n h pad len sv sg) (hn : ∀ X', LX X' → G F (S0 ad) K X' 913 [.ref 5000, .ref 0, .ref 201, .int (nI i)] []) : G F (S0 ad) K X 465 [.ref 5000, .ref 0, .ref 201, .int (nI i)] [] := by
  refine g_aload_1 hC dL_law_465 (pc' := 466) rfl ?_
  refine g_aload_0 hC dL_law_466 (pc' := 467) rfl ?_
  refine g_iload_3 hC dL_law_467 (pc' := 468) rfl ?_
  refine g_iconst hC dL_law_468 (pc' := 469) kc_iconst_1 rfl ?_
  refine g_iaddN hC dL_law_469 (pc' := 470) rfl ?_
  refine g_sld hC hs hab hL (by omega) dL_law_470 (pc' := 471) rfl ?_
  refine g_aload_0 hC dL_law_471 (pc' := 472) rfl ?_
  refine g_iload_3 hC dL_law_472 (pc' := 473) rfl ?_
  refine g_iconst hC dL_law_473 (pc' := 474) kc_iconst_2 rfl ?_
  refine g_iaddN hC dL_law_474 (pc' := 475) rfl ?_
  refine g_sld hC hs hab hL (by omega) dL_law_475 (pc' := 476) rfl ?_
  refine g_aload_0 hC dL_law_476 (pc' := 477) rfl ?_
  refine g_iload_3 hC dL_law_477 (pc' := 478) rfl ?_
  refine g_iconst hC dL_law_478 (pc' := 479) kc_iconst_3 rfl ?_
  refine g_iaddN hC dL_law_479 (pc' := 480) rfl ?_
  refine g_sld hC hs hab hL (by omega) dL_law_480 (pc' := 481) rfl ?_
  refine g_callV3R hC (k_reading LL.2.1.1 LL.2.2.1) ml_L_53 (sh_cs ad) rfl ⟨(Nat.le_of_ble_eq_true rfl), (Nat.le_of_ble_eq_true rfl)⟩ (Nat.le_of_ble_eq_true rfl) dL_law_481 (pc' := 484) rfl hf ?_
  refine g_aload_2 hC dL_law_484 (pc' := 485) rfl ?_
  refine g_aload_0 hC dL_law_485 (pc' := 486) rfl ?_
  refine g_iload_3 hC dL_law_486 (pc' := 487) rfl ?_
  refine g_iconst hC dL_law_487 (pc' := 488) kc_iconst_1 rfl ?_
  refine g_iaddN hC dL_law_488 (pc' := 489) rfl ?_
  refine g_sld hC hs hab hL (by omega) dL_law_489 (pc' := 490) rfl ?_
  refine g_aload_0 hC dL_law_490 (pc' := 491) rfl ?_
  refine g_iload_3 hC dL_law_491 (pc' := 492) rfl ?_
  refine g_iconst hC dL_law_492 (pc' := 493) kc_iconst_2 rfl ?_
  refine g_iaddN hC dL_law_493 (pc' := 494) rfl ?_
  refine g_sld hC hs hab hL (by omega) dL_law_494 (pc' := 495) rfl ?_
  refine g_aload_0 hC dL_law_495 (pc' := 496) rfl ?_
  refine g_iload_3 hC dL_law_496 (pc' := 497) rfl ?_
  refine g_iconst hC dL_law_497 (pc' := 498) kc_iconst_3 rfl ?_
  refine g_iaddN hC dL_law_498 (pc' := 499) rfl ?_
  refine g_sld hC hs hab hL (by omega) dL_law_499 (pc' := 500) rfl ?_
  refine g_callV3R hC (c_reading LL.1.1.1 LL.2.2.1) ml_L_56 (sh_M ad) rfl ⟨(Nat.le_of_ble_eq_true rfl), (Nat.le_of_ble_eq_true rfl)⟩ (Nat.le_of_ble_eq_true rfl) dL_law_500 (pc' := 503) rfl hf ?_
  refine g_icmp_eq hC dL_law_503 (pc' := 506) (tgt := 913) (by decide) rfl (fun h503 => ?_) (fun h503 => by exact absurd rfl h503)
  exact hn _ ⟨g, n, h, pad, len, sv, sg, LL⟩

set_option maxHeartbeats 4000000 in
set_option maxRecDepth 100000 in
/-- ofMark -/
theorem lw_c10 {F : gF} {b L i : Nat} {xs : Nat → Int32} {ad : Nat → Nat} {K : Nat × Nat} {X : gX} {g : Nat → Nat} {n len : Nat} {h : Nat → Nat → Nat} {pad : Nat → Nat} {sv : Nat → Bool} {sg : Nat → Nat → Nat} (hC : Cx F RL cL_law 4 room_1) (hs : Sc F b L xs) (hab : (S0 ad).2.2 5000 = b) (hL : L ≤ 2560) (hi : i + 5 ≤ L) (hf : K.1 ≤ room_1.cells ∧ K.2 ≤ room_1.slots) (LL : LW X g n h pad len sv sg) (hn : ∀ X', LX X' → G F (S0 ad) K X' 913 [.ref 5000, .ref 0, .ref 201, .int (nI i)] []) : G F (S0 ad) K X 508 [.ref 5000, .ref 0, .ref 201, .int (nI i)] [] := by
  refine g_aload_1 hC dL_law_508 (pc' := 509) rfl ?_
  refine g_aload_0 hC dL_law_509 (pc' := 510) rfl ?_
  refine g_iload_3 hC dL_law_510 (pc' := 511) rfl ?_
  refine g_iconst hC dL_law_511 (pc' := 512) kc_iconst_1 rfl ?_
  refine g_iaddN hC dL_law_512 (pc' := 513) rfl ?_
  refine g_sld hC hs hab hL (by omega) dL_law_513 (pc' := 514) rfl ?_
  refine g_aload_0 hC dL_law_514 (pc' := 515) rfl ?_
  refine g_iload_3 hC dL_law_515 (pc' := 516) rfl ?_
  refine g_iconst hC dL_law_516 (pc' := 517) kc_iconst_2 rfl ?_
  refine g_iaddN hC dL_law_517 (pc' := 518) rfl ?_
  refine g_sld hC hs hab hL (by omega) dL_law_518 (pc' := 519) rfl ?_
  refine g_aload_0 hC dL_law_519 (pc' := 520) rfl ?_
  refine g_iload_3 hC dL_law_520 (pc' := 521) rfl ?_
  refine g_iconst hC dL_law_521 (pc' := 522) kc_iconst_3 rfl ?_
  refine g_iaddN hC dL_law_522 (pc' := 523) rfl ?_
  refine g_sld hC hs hab hL (by omega) dL_law_523 (pc' := 524) rfl ?_
  refine g_aload_0 hC dL_law_524 (pc' := 525) rfl ?_
  refine g_iload_3 hC dL_law_525 (pc' := 526) rfl ?_
  refine g_iconst hC dL_law_526 (pc' := 527) kc_iconst_4 rfl ?_
  refine g_iaddN hC dL_law_527 (pc' := 528) rfl ?_
  refine g_sld hC hs hab hL (by omega) dL_law_528 (pc' := 529) rfl ?_
  refine g_callV4R hC (k_ofMark LL.2.1.1 LL.2.2.1) ml_L_57 (sh_cs ad) rfl ⟨(Nat.le_of_ble_eq_true rfl), (Nat.le_of_ble_eq_true rfl)⟩ (Nat.le_of_ble_eq_true rfl) dL_law_529 (pc' := 532) rfl hf ?_
  refine g_aload_2 hC dL_law_532 (pc' := 533) rfl ?_
  refine g_aload_0 hC dL_law_533 (pc' := 534) rfl ?_
  refine g_iload_3 hC dL_law_534 (pc' := 535) rfl ?_
  refine g_iconst hC dL_law_535 (pc' := 536) kc_iconst_1 rfl ?_
  refine g_iaddN hC dL_law_536 (pc' := 537) rfl ?_
  refine g_sld hC hs hab hL (by omega) dL_law_537 (pc' := 538) rfl ?_
  refine g_aload_0 hC dL_law_538 (pc' := 539) rfl ?_
  refine g_iload_3 hC dL_law_539 (pc' := 540) rfl ?_
  refine g_iconst hC dL_law_540 (pc' := 541) kc_iconst_2 rfl ?_
  refine g_iaddN hC dL_law_541 (pc' := 542) rfl ?_
  refine g_sld hC hs hab hL (by omega) dL_law_542 (pc' := 543) rfl ?_
  refine g_aload_0 hC dL_law_543 (pc' := 544) rfl ?_
  refine g_iload_3 hC dL_law_544 (pc' := 545) rfl ?_
  refine g_iconst hC dL_law_545 (pc' := 546) kc_iconst_3 rfl ?_
  refine g_iaddN hC dL_law_546 (pc' := 547) rfl ?_
  refine g_sld hC hs hab hL (by omega) dL_law_547 (pc' := 548) rfl ?_
  refine g_aload_0 hC dL_law_548 (pc' := 549) rfl ?_
  refine g_iload_3 hC dL_law_549 (pc' := 550) rfl ?_
  refine g_iconst hC dL_law_550 (pc' := 551) kc_iconst_4 rfl ?_
  refine g_iaddN hC dL_law_551 (pc' := 552) rfl ?_
  refine g_sld hC hs hab hL (by omega) dL_law_552 (pc' := 553) rfl ?_
  refine g_callV4R hC (c_ofMark LL.1.1.1 LL.2.2.1) ml_L_60 (sh_M ad) rfl ⟨(Nat.le_of_ble_eq_true rfl), (Nat.le_of_ble_eq_true rfl)⟩ (Nat.le_of_ble_eq_true rfl) dL_law_553 (pc' := 556) rfl hf ?_
  refine g_icmp_eq hC dL_law_556 (pc' := 559) (tgt := 913) (by decide) rfl (fun h556 => ?_) (fun h556 => by exact absurd rfl h556)
  exact hn _ ⟨g, n, h, pad, len, sv, sg, LL⟩

set_option maxHeartbeats 4000000 in
set_option maxRecDepth 100000 in
/-- together -/
theorem lw_c11 {F : gF} {b L i : Nat} {xs : Nat → Int32} {ad : Nat → Nat} {K : Nat × Nat} {X : gX} {g : Nat → Nat} {n len : Nat} {h : Nat → Nat → Nat} {pad : Nat → Nat} {sv : Nat → Bool} {sg : Nat → Nat → Nat} (hC : Cx F RL cL_law 4 room_1) (hs : Sc F b L xs) (hab : (S0 ad).2.2 5000 = b) (hL : L ≤ 2560) (hi : i + 5 ≤ L) (hf : K.1 ≤ room_1.cells ∧ K.2 ≤ room_1.slots) (LL : LW X g n h pad len sv sg) (hn : ∀ X', LX X' → G F (S0 ad) K X' 913 [.ref 5000, .ref 0, .ref 201, .int (nI i)] []) : G F (S0 ad) K X 561 [.ref 5000, .ref 0, .ref 201, .int (nI i)] [] := by
  refine g_aload_1 hC dL_law_561 (pc' := 562) rfl ?_
  refine g_aload_0 hC dL_law_562 (pc' := 563) rfl ?_
  refine g_iload_3 hC dL_law_563 (pc' := 564) rfl ?_
  refine g_iconst hC dL_law_564 (pc' := 565) kc_iconst_1 rfl ?_
  refine g_iaddN hC dL_law_565 (pc' := 566) rfl ?_
  refine g_sld hC hs hab hL (by omega) dL_law_566 (pc' := 567) rfl ?_
  refine g_aload_0 hC dL_law_567 (pc' := 568) rfl ?_
  refine g_iload_3 hC dL_law_568 (pc' := 569) rfl ?_
  refine g_iconst hC dL_law_569 (pc' := 570) kc_iconst_2 rfl ?_
  refine g_iaddN hC dL_law_570 (pc' := 571) rfl ?_
  refine g_sld hC hs hab hL (by omega) dL_law_571 (pc' := 572) rfl ?_
  refine g_callV2I hC (k_together LL.2.1.1 LL.2.2.1) ml_L_61 (sh_cs ad) rfl ⟨(Nat.le_of_ble_eq_true rfl), (Nat.le_of_ble_eq_true rfl)⟩ (Nat.le_of_ble_eq_true rfl) dL_law_572 (pc' := 575) rfl hf (fun v572 X572 q572 => ?_)
  obtain ⟨rfl, f1⟩ := q572
  have mm := LL.m (X1 := X572) (fun j hj => f1 j (by omega))
  refine g_aload_2 hC dL_law_575 (pc' := 576) rfl ?_
  refine g_aload_0 hC dL_law_576 (pc' := 577) rfl ?_
  refine g_iload_3 hC dL_law_577 (pc' := 578) rfl ?_
  refine g_iconst hC dL_law_578 (pc' := 579) kc_iconst_1 rfl ?_
  refine g_iaddN hC dL_law_579 (pc' := 580) rfl ?_
  refine g_sld hC hs hab hL (by omega) dL_law_580 (pc' := 581) rfl ?_
  refine g_aload_0 hC dL_law_581 (pc' := 582) rfl ?_
  refine g_iload_3 hC dL_law_582 (pc' := 583) rfl ?_
  refine g_iconst hC dL_law_583 (pc' := 584) kc_iconst_2 rfl ?_
  refine g_iaddN hC dL_law_584 (pc' := 585) rfl ?_
  refine g_sld hC hs hab hL (by omega) dL_law_585 (pc' := 586) rfl ?_
  refine g_callV2I hC (c_together mm.1.1 LL.2.2.1) ml_L_64 (sh_M ad) rfl ⟨(Nat.le_of_ble_eq_true rfl), (Nat.le_of_ble_eq_true rfl)⟩ (Nat.le_of_ble_eq_true rfl) dL_law_586 (pc' := 589) rfl hf (fun v586 X586 q586 => ?_)
  obtain ⟨rfl, r2, s2⟩ := q586
  refine g_icmp_eq hC dL_law_589 (pc' := 592) (tgt := 913) (by decide) rfl (fun h589 => ?_) (fun h589 => by exact absurd rfl h589)
  exact hn _ (LL.a f1 r2 s2)

set_option maxHeartbeats 4000000 in
set_option maxRecDepth 100000 in
/-- count -/
theorem lw_c12 {F : gF} {b L i : Nat} {xs : Nat → Int32} {ad : Nat → Nat} {K : Nat × Nat} {X : gX} {g : Nat → Nat} {n len : Nat} {h : Nat → Nat → Nat} {pad : Nat → Nat} {sv : Nat → Bool} {sg : Nat → Nat → Nat} (hC : Cx F RL cL_law 4 room_1) (hs : Sc F b L xs) (hab : (S0 ad).2.2 5000 = b) (hL : L ≤ 2560) (hi : i + 5 ≤ L) (hf : K.1 ≤ room_1.cells ∧ K.2 ≤ room_1.slots) (LL : LW X g n h pad len sv sg) (hn : ∀ X', LX X' → G F (S0 ad) K X' 913 [.ref 5000, .ref 0, .ref 201, .int (nI i)] []) : G F (S0 ad) K X 594 [.ref 5000, .ref 0, .ref 201, .int (nI i)] [] := by
  refine g_aload_1 hC dL_law_594 (pc' := 595) rfl ?_
  refine g_aload_0 hC dL_law_595 (pc' := 596) rfl ?_
  refine g_iload_3 hC dL_law_596 (pc' := 597) rfl ?_
  refine g_iconst hC dL_law_597 (pc' := 598) kc_iconst_1 rfl ?_
  refine g_iaddN hC dL_law_598 (pc' := 599) rfl ?_
  refine g_sld hC hs hab hL (by omega) dL_law_599 (pc' := 600) rfl ?_
  refine g_callV1I hC (k_count LL.2.1.1 LL.2.2.1 LL.2.1.2.1.1 LL.2.1.2.2.1.1) ml_L_65 (sh_cs ad) rfl ⟨(Nat.le_of_ble_eq_true rfl), (Nat.le_of_ble_eq_true rfl)⟩ (Nat.le_of_ble_eq_true rfl) dL_law_600 (pc' := 603) rfl hf (fun v600 X600 q600 => ?_)
  obtain ⟨rfl, f1⟩ := q600
  have mm := LL.m (X1 := X600) (fun j hj => f1 j (by omega))
  refine g_aload_2 hC dL_law_603 (pc' := 604) rfl ?_
  refine g_aload_0 hC dL_law_604 (pc' := 605) rfl ?_
  refine g_iload_3 hC dL_law_605 (pc' := 606) rfl ?_
  refine g_iconst hC dL_law_606 (pc' := 607) kc_iconst_1 rfl ?_
  refine g_iaddN hC dL_law_607 (pc' := 608) rfl ?_
  refine g_sld hC hs hab hL (by omega) dL_law_608 (pc' := 609) rfl ?_
  refine g_callV1I hC (c_count mm.1.2.1 mm.2.1.1 mm.1.1 LL.2.2.1) ml_L_68 (sh_M ad) rfl ⟨(Nat.le_of_ble_eq_true rfl), (Nat.le_of_ble_eq_true rfl)⟩ (Nat.le_of_ble_eq_true rfl) dL_law_609 (pc' := 612) rfl hf (fun v609 X609 q609 => ?_)
  obtain ⟨rfl, r2, s2⟩ := q609
  refine g_icmp_eq hC dL_law_612 (pc' := 615) (tgt := 913) (by decide) rfl (fun h612 => ?_) (fun h612 => by exact absurd rfl h612)
  exact hn _ (LL.a f1 r2 s2)
