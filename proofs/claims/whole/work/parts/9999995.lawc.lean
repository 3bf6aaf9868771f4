/-! the law, call by call -/
/-- the end of a call: the next one -/
def lwT (C : pCt) (Q : pQ) (sc : Nat → Int) (c m L : Nat) : Prop := ∀ (M3 : pM) (l5 l6 : Option Value), INV (c + 1) M3 → M3.1.2.1 0 = (8, L) → M3.2.1 0 = sc → Go C Q yL_law cL_law (some .boolean) m (6 * m) 1026 [some (.ref 0), some (.ref 2), some (.ref 317), some (.ref 351), some (.int (iI ((7 * c : Nat) : Int))), l5, l6] [] M3
/-- what a call begins with -/
def lwB (sc : Nat → Int) (c L : Nat) (M : pM) : Prop := INV c M ∧ c ≤ 600 ∧ M.1.2.1 0 = (8, L) ∧ M.2.1 0 = sc ∧ (∀ j, inR (sc j)) ∧ 7 * c + 7 ≤ L ∧ L ≤ 3584
theorem lwT.a {C : pCt} {Q : pQ} {sc : Nat → Int} {c m L : Nat} (h : lwT C Q sc c m L) {M M3 : pM} {l5 l6 : Option Value} (hi : INV (c + 1) M3) (hs : smS M M3) (hk : M.1.2.1 0 = (8, L)) (hz : M.2.1 0 = sc) : Go C Q yL_law cL_law (some .boolean) (m + 1) (6 * m + 6) 1026 [some (.ref 0), some (.ref 2), some (.ref 317), some (.ref 351), some (.int (iI ((7 * c : Nat) : Int))), l5, l6] [] M3 :=
  Go_add 1 6 (h M3 l5 l6 hi (by rw [hs.1]; exact hk) (hs.2.trans hz))
set_option maxHeartbeats 4000000 in
theorem lc_feed {C : pCt} {Q : pQ} {M : pM} {c m L : Nat} {l5 l6 : Option Value} {sc : Nat → Int} (hC : ∀ kc ks z as M Q, Ct 340 kc ks z as M Q → C kc ks z as M Q) (hb : lwB sc c L M) (tail : lwT C Q sc c m L) : Go C Q yL_law cL_law (some .boolean) (m + 1) (6 * m + 6) 144 [some (.ref 0), some (.ref 2), some (.ref 317), some (.ref 351), some (.int (iI ((7 * c : Nat) : Int))), l5, l6] [] M := by
  obtain ⟨hi, hc, hk, hz, hr, hL, hL2⟩ := hb
  have hS := hi.1
  refine r_aload1 (pc2 := 145) dL_law_144 rfl ?_
  refine r_aload0 (pc2 := 146) dL_law_145 rfl ?_
  refine r_iload4 (pc2 := 148) dL_law_146 rfl ?_
  refine r_iconst (pc2 := 149) dL_law_148 rfl ?_
  refine r_iadd (c := ((7 * c + 1 : Nat) : Int)) (pc2 := 150) dL_law_149 rfl (by omega) ?_
  refine r_sald (z := sc (7 * c + 1)) (pc2 := 151) dL_law_150 rfl hk (7 * c + 1) rfl (by omega) (by rw [hz]) ?_
  refine r_i2l (pc2 := 152) dL_law_151 rfl (hr _) ?_
  refine r_bipush (pc2 := 154) dL_law_152 rfl (by decide) (by decide) ?_
  refine r_lshl (pc2 := 155) dL_law_154 rfl ?_
  refine r_aload0 (pc2 := 156) dL_law_155 rfl ?_
  refine r_iload4 (pc2 := 158) dL_law_156 rfl ?_
  refine r_iconst (pc2 := 159) dL_law_158 rfl ?_
  refine r_iadd (c := ((7 * c + 2 : Nat) : Int)) (pc2 := 160) dL_law_159 rfl (by omega) ?_
  refine r_sald (z := sc (7 * c + 2)) (pc2 := 161) dL_law_160 rfl hk (7 * c + 2) rfl (by omega) (by rw [hz]) ?_
  refine r_i2l (pc2 := 162) dL_law_161 rfl (hr _) ?_
  refine r_ldc2 (x := 4294967295) (pc2 := 165) dL_law_162 rfl lL_23 ?_
  refine r_land (pc2 := 166) dL_law_165 rfl ?_
  refine r_lor (pc2 := 167) dL_law_166 rfl ?_
  refine r_aload0 (pc2 := 168) dL_law_167 rfl ?_
  refine r_iload4 (pc2 := 170) dL_law_168 rfl ?_
  refine r_iconst (pc2 := 171) dL_law_170 rfl ?_
  refine r_iadd (c := ((7 * c + 3 : Nat) : Int)) (pc2 := 172) dL_law_171 rfl (by omega) ?_
  refine r_sald (z := sc (7 * c + 3)) (pc2 := 173) dL_law_172 rfl hk (7 * c + 3) rfl (by omega) (by rw [hz]) ?_
  refine r_i2l (pc2 := 174) dL_law_173 rfl (hr _) ?_
  refine r_bipush (pc2 := 176) dL_law_174 rfl (by decide) (by decide) ?_
  refine r_lshl (pc2 := 177) dL_law_176 rfl ?_
  refine r_aload0 (pc2 := 178) dL_law_177 rfl ?_
  refine r_iload4 (pc2 := 180) dL_law_178 rfl ?_
  refine r_iconst (pc2 := 181) dL_law_180 rfl ?_
  refine r_iadd (c := ((7 * c + 4 : Nat) : Int)) (pc2 := 182) dL_law_181 rfl (by omega) ?_
  refine r_sald (z := sc (7 * c + 4)) (pc2 := 183) dL_law_182 rfl hk (7 * c + 4) rfl (by omega) (by rw [hz]) ?_
  refine r_i2l (pc2 := 184) dL_law_183 rfl (hr _) ?_
  refine r_ldc2 (x := 4294967295) (pc2 := 187) dL_law_184 rfl lL_23 ?_
  refine r_land (pc2 := 188) dL_law_187 rfl ?_
  refine r_lor (pc2 := 189) dL_law_188 rfl ?_
  refine r_aload0 (pc2 := 190) dL_law_189 rfl ?_
  refine r_iload4 (pc2 := 192) dL_law_190 rfl ?_
  refine r_iconst (pc2 := 193) dL_law_192 rfl ?_
  refine r_iadd (c := ((7 * c + 5 : Nat) : Int)) (pc2 := 194) dL_law_193 rfl (by omega) ?_
  refine r_sald (z := sc (7 * c + 5)) (pc2 := 195) dL_law_194 rfl hk (7 * c + 5) rfl (by omega) (by rw [hz]) ?_
  refine r_i2l (pc2 := 196) dL_law_195 rfl (hr _) ?_
  refine r_bipush (pc2 := 198) dL_law_196 rfl (by decide) (by decide) ?_
  refine r_lshl (pc2 := 199) dL_law_198 rfl ?_
  refine r_aload0 (pc2 := 200) dL_law_199 rfl ?_
  refine r_iload4 (pc2 := 202) dL_law_200 rfl ?_
  refine r_bipush (pc2 := 204) dL_law_202 rfl (by decide) (by decide) ?_
  refine r_iadd (c := ((7 * c + 6 : Nat) : Int)) (pc2 := 205) dL_law_204 rfl (by omega) ?_
  refine r_sald (z := sc (7 * c + 6)) (pc2 := 206) dL_law_205 rfl hk (7 * c + 6) rfl (by omega) (by rw [hz]) ?_
  refine r_i2l (pc2 := 207) dL_law_206 rfl (hr _) ?_
  refine r_ldc2 (x := 4294967295) (pc2 := 210) dL_law_207 rfl lL_23 ?_
  refine r_land (pc2 := 211) dL_law_210 rfl ?_
  refine r_lor (pc2 := 212) dL_law_211 rfl ?_
  refine r_cv3 (pc2 := 215) dL_law_212 rfl vL_25 (hK_2 hS) (Nat.le_of_ble_eq_true rfl) (hC _ _ _ _ _ _ (pr_feed hi)) ?_
  rintro _ M2 ⟨z, rfl, s2, hm⟩
  have hS2 : sOk M2.1 := by rw [s2.1]; exact hS
  have hk2 : M2.1.2.1 0 = (8, L) := by rw [s2.1]; exact hk
  have hz2 : M2.2.1 0 = sc := s2.2.trans hz
  show Go C Q yL_law cL_law (some .boolean) (m + 1) (6 * m + 6) 215 [some (.ref 0), some (.ref 2), some (.ref 317), some (.ref 351), some (.int (iI ((7 * c : Nat) : Int))), l5, l6] [.int (iI z)] M2
  refine r_aload2 (pc2 := 216) dL_law_215 rfl ?_
  refine r_aload0 (pc2 := 217) dL_law_216 rfl ?_
  refine r_iload4 (pc2 := 219) dL_law_217 rfl ?_
  refine r_iconst (pc2 := 220) dL_law_219 rfl ?_
  refine r_iadd (c := ((7 * c + 1 : Nat) : Int)) (pc2 := 221) dL_law_220 rfl (by omega) ?_
  refine r_sald (z := sc (7 * c + 1)) (pc2 := 222) dL_law_221 rfl hk2 (7 * c + 1) rfl (by omega) (by rw [hz2]) ?_
  refine r_i2l (pc2 := 223) dL_law_222 rfl (hr _) ?_
  refine r_bipush (pc2 := 225) dL_law_223 rfl (by decide) (by decide) ?_
  refine r_lshl (pc2 := 226) dL_law_225 rfl ?_
  refine r_aload0 (pc2 := 227) dL_law_226 rfl ?_
  refine r_iload4 (pc2 := 229) dL_law_227 rfl ?_
  refine r_iconst (pc2 := 230) dL_law_229 rfl ?_
  refine r_iadd (c := ((7 * c + 2 : Nat) : Int)) (pc2 := 231) dL_law_230 rfl (by omega) ?_
  refine r_sald (z := sc (7 * c + 2)) (pc2 := 232) dL_law_231 rfl hk2 (7 * c + 2) rfl (by omega) (by rw [hz2]) ?_
  refine r_i2l (pc2 := 233) dL_law_232 rfl (hr _) ?_
  refine r_ldc2 (x := 4294967295) (pc2 := 236) dL_law_233 rfl lL_23 ?_
  refine r_land (pc2 := 237) dL_law_236 rfl ?_
  refine r_lor (pc2 := 238) dL_law_237 rfl ?_
  refine r_aload0 (pc2 := 239) dL_law_238 rfl ?_
  refine r_iload4 (pc2 := 241) dL_law_239 rfl ?_
  refine r_iconst (pc2 := 242) dL_law_241 rfl ?_
  refine r_iadd (c := ((7 * c + 3 : Nat) : Int)) (pc2 := 243) dL_law_242 rfl (by omega) ?_
  refine r_sald (z := sc (7 * c + 3)) (pc2 := 244) dL_law_243 rfl hk2 (7 * c + 3) rfl (by omega) (by rw [hz2]) ?_
  refine r_i2l (pc2 := 245) dL_law_244 rfl (hr _) ?_
  refine r_bipush (pc2 := 247) dL_law_245 rfl (by decide) (by decide) ?_
  refine r_lshl (pc2 := 248) dL_law_247 rfl ?_
  refine r_aload0 (pc2 := 249) dL_law_248 rfl ?_
  refine r_iload4 (pc2 := 251) dL_law_249 rfl ?_
  refine r_iconst (pc2 := 252) dL_law_251 rfl ?_
  refine r_iadd (c := ((7 * c + 4 : Nat) : Int)) (pc2 := 253) dL_law_252 rfl (by omega) ?_
  refine r_sald (z := sc (7 * c + 4)) (pc2 := 254) dL_law_253 rfl hk2 (7 * c + 4) rfl (by omega) (by rw [hz2]) ?_
  refine r_i2l (pc2 := 255) dL_law_254 rfl (hr _) ?_
  refine r_ldc2 (x := 4294967295) (pc2 := 258) dL_law_255 rfl lL_23 ?_
  refine r_land (pc2 := 259) dL_law_258 rfl ?_
  refine r_lor (pc2 := 260) dL_law_259 rfl ?_
  refine r_aload0 (pc2 := 261) dL_law_260 rfl ?_
  refine r_iload4 (pc2 := 263) dL_law_261 rfl ?_
  refine r_iconst (pc2 := 264) dL_law_263 rfl ?_
  refine r_iadd (c := ((7 * c + 5 : Nat) : Int)) (pc2 := 265) dL_law_264 rfl (by omega) ?_
  refine r_sald (z := sc (7 * c + 5)) (pc2 := 266) dL_law_265 rfl hk2 (7 * c + 5) rfl (by omega) (by rw [hz2]) ?_
  refine r_i2l (pc2 := 267) dL_law_266 rfl (hr _) ?_
  refine r_bipush (pc2 := 269) dL_law_267 rfl (by decide) (by decide) ?_
  refine r_lshl (pc2 := 270) dL_law_269 rfl ?_
  refine r_aload0 (pc2 := 271) dL_law_270 rfl ?_
  refine r_iload4 (pc2 := 273) dL_law_271 rfl ?_
  refine r_bipush (pc2 := 275) dL_law_273 rfl (by decide) (by decide) ?_
  refine r_iadd (c := ((7 * c + 6 : Nat) : Int)) (pc2 := 276) dL_law_275 rfl (by omega) ?_
  refine r_sald (z := sc (7 * c + 6)) (pc2 := 277) dL_law_276 rfl hk2 (7 * c + 6) rfl (by omega) (by rw [hz2]) ?_
  refine r_i2l (pc2 := 278) dL_law_277 rfl (hr _) ?_
  refine r_ldc2 (x := 4294967295) (pc2 := 281) dL_law_278 rfl lL_23 ?_
  refine r_land (pc2 := 282) dL_law_281 rfl ?_
  refine r_lor (pc2 := 283) dL_law_282 rfl ?_
  refine r_cv3 (pc2 := 286) dL_law_283 rfl vL_29 (hK_317 hS2) (Nat.le_of_ble_eq_true rfl) (hC _ _ _ _ _ _ hm) ?_
  rintro _ M3 ⟨rfl, i3, s3⟩
  refine go_if2 (tgt := 1026) dL_law_286 (by decide) (fun _ => ?_) (fun q => absurd rfl q)
  exact tail.a i3 s3 hk hz
set_option maxHeartbeats 4000000 in
theorem lc_draw {C : pCt} {Q : pQ} {M : pM} {c m L : Nat} {l5 l6 : Option Value} {sc : Nat → Int} (hC : ∀ kc ks z as M Q, Ct 340 kc ks z as M Q → C kc ks z as M Q) (hb : lwB sc c L M) (tail : lwT C Q sc c m L) : Go C Q yL_law cL_law (some .boolean) (m + 1) (6 * m + 6) 291 [some (.ref 0), some (.ref 2), some (.ref 317), some (.ref 351), some (.int (iI ((7 * c : Nat) : Int))), l5, l6] [] M := by
  obtain ⟨hi, hc, hk, hz, hr, hL, hL2⟩ := hb
  have hS := hi.1
  refine r_aload1 (pc2 := 292) dL_law_291 rfl ?_
  refine r_cv0 (pc2 := 295) dL_law_292 rfl vL_30 (hK_2 hS) (Nat.le_of_ble_eq_true rfl) (hC _ _ _ _ _ _ (pr_draw hi)) ?_
  rintro _ M2 ⟨z, rfl, s2, hm⟩
  have hS2 : sOk M2.1 := by rw [s2.1]; exact hS
  have hk2 : M2.1.2.1 0 = (8, L) := by rw [s2.1]; exact hk
  have hz2 : M2.2.1 0 = sc := s2.2.trans hz
  show Go C Q yL_law cL_law (some .boolean) (m + 1) (6 * m + 6) 295 [some (.ref 0), some (.ref 2), some (.ref 317), some (.ref 351), some (.int (iI ((7 * c : Nat) : Int))), l5, l6] [.int (iI z)] M2
  refine r_aload2 (pc2 := 296) dL_law_295 rfl ?_
  refine r_cv0 (pc2 := 299) dL_law_296 rfl vL_34 (hK_317 hS2) (Nat.le_of_ble_eq_true rfl) (hC _ _ _ _ _ _ hm) ?_
  rintro _ M3 ⟨rfl, i3, s3⟩
  refine go_if2 (tgt := 1026) dL_law_299 (by decide) (fun _ => ?_) (fun q => absurd rfl q)
  exact tail.a i3 s3 hk hz
set_option maxHeartbeats 4000000 in
theorem lc_takeBack {C : pCt} {Q : pQ} {M : pM} {c m L : Nat} {l5 l6 : Option Value} {sc : Nat → Int} (hC : ∀ kc ks z as M Q, Ct 340 kc ks z as M Q → C kc ks z as M Q) (hb : lwB sc c L M) (tail : lwT C Q sc c m L) : Go C Q yL_law cL_law (some .boolean) (m + 1) (6 * m + 6) 304 [some (.ref 0), some (.ref 2), some (.ref 317), some (.ref 351), some (.int (iI ((7 * c : Nat) : Int))), l5, l6] [] M := by
  obtain ⟨hi, hc, hk, hz, hr, hL, hL2⟩ := hb
  have hS := hi.1
  refine r_aload1 (pc2 := 305) dL_law_304 rfl ?_
  refine r_cv0 (pc2 := 308) dL_law_305 rfl vL_35 (hK_2 hS) (Nat.le_of_ble_eq_true rfl) (hC _ _ _ _ _ _ (pr_takeBack hi)) ?_
  rintro _ M2 ⟨z, rfl, s2, hm⟩
  have hS2 : sOk M2.1 := by rw [s2.1]; exact hS
  have hk2 : M2.1.2.1 0 = (8, L) := by rw [s2.1]; exact hk
  have hz2 : M2.2.1 0 = sc := s2.2.trans hz
  show Go C Q yL_law cL_law (some .boolean) (m + 1) (6 * m + 6) 308 [some (.ref 0), some (.ref 2), some (.ref 317), some (.ref 351), some (.int (iI ((7 * c : Nat) : Int))), l5, l6] [.int (iI z)] M2
  refine r_aload2 (pc2 := 309) dL_law_308 rfl ?_
  refine r_cv0 (pc2 := 312) dL_law_309 rfl vL_39 (hK_317 hS2) (Nat.le_of_ble_eq_true rfl) (hC _ _ _ _ _ _ hm) ?_
  rintro _ M3 ⟨rfl, i3, s3⟩
  refine go_if2 (tgt := 1026) dL_law_312 (by decide) (fun _ => ?_) (fun q => absurd rfl q)
  exact tail.a i3 s3 hk hz
set_option maxHeartbeats 4000000 in
theorem lc_piece {C : pCt} {Q : pQ} {M : pM} {c m L : Nat} {l5 l6 : Option Value} {sc : Nat → Int} (hC : ∀ kc ks z as M Q, Ct 340 kc ks z as M Q → C kc ks z as M Q) (hb : lwB sc c L M) (tail : lwT C Q sc c m L) : Go C Q yL_law cL_law (some .boolean) (m + 1) (6 * m + 6) 317 [some (.ref 0), some (.ref 2), some (.ref 317), some (.ref 351), some (.int (iI ((7 * c : Nat) : Int))), l5, l6] [] M := by
  obtain ⟨hi, hc, hk, hz, hr, hL, hL2⟩ := hb
  have hS := hi.1
  refine r_aload1 (pc2 := 318) dL_law_317 rfl ?_
  refine r_aload0 (pc2 := 319) dL_law_318 rfl ?_
  refine r_iload4 (pc2 := 321) dL_law_319 rfl ?_
  refine r_iconst (pc2 := 322) dL_law_321 rfl ?_
  refine r_iadd (c := ((7 * c + 1 : Nat) : Int)) (pc2 := 323) dL_law_322 rfl (by omega) ?_
  refine r_sald (z := sc (7 * c + 1)) (pc2 := 324) dL_law_323 rfl hk (7 * c + 1) rfl (by omega) (by rw [hz]) ?_
  refine r_aload0 (pc2 := 325) dL_law_324 rfl ?_
  refine r_iload4 (pc2 := 327) dL_law_325 rfl ?_
  refine r_iconst (pc2 := 328) dL_law_327 rfl ?_
  refine r_iadd (c := ((7 * c + 2 : Nat) : Int)) (pc2 := 329) dL_law_328 rfl (by omega) ?_
  refine r_sald (z := sc (7 * c + 2)) (pc2 := 330) dL_law_329 rfl hk (7 * c + 2) rfl (by omega) (by rw [hz]) ?_
  refine r_cv2 (pc2 := 333) dL_law_330 rfl vL_40 (hK_2 hS) (Nat.le_of_ble_eq_true rfl) (hC _ _ _ _ _ _ (pr_piece hi (hr _) (hr _))) ?_
  rintro _ M2 ⟨z, rfl, s2, hm⟩
  have hS2 : sOk M2.1 := by rw [s2.1]; exact hS
  have hk2 : M2.1.2.1 0 = (8, L) := by rw [s2.1]; exact hk
  have hz2 : M2.2.1 0 = sc := s2.2.trans hz
  show Go C Q yL_law cL_law (some .boolean) (m + 1) (6 * m + 6) 333 [some (.ref 0), some (.ref 2), some (.ref 317), some (.ref 351), some (.int (iI ((7 * c : Nat) : Int))), l5, l6] [.int (iI z)] M2
  refine r_aload2 (pc2 := 334) dL_law_333 rfl ?_
  refine r_aload0 (pc2 := 335) dL_law_334 rfl ?_
  refine r_iload4 (pc2 := 337) dL_law_335 rfl ?_
  refine r_iconst (pc2 := 338) dL_law_337 rfl ?_
  refine r_iadd (c := ((7 * c + 1 : Nat) : Int)) (pc2 := 339) dL_law_338 rfl (by omega) ?_
  refine r_sald (z := sc (7 * c + 1)) (pc2 := 340) dL_law_339 rfl hk2 (7 * c + 1) rfl (by omega) (by rw [hz2]) ?_
  refine r_aload0 (pc2 := 341) dL_law_340 rfl ?_
  refine r_iload4 (pc2 := 343) dL_law_341 rfl ?_
  refine r_iconst (pc2 := 344) dL_law_343 rfl ?_
  refine r_iadd (c := ((7 * c + 2 : Nat) : Int)) (pc2 := 345) dL_law_344 rfl (by omega) ?_
  refine r_sald (z := sc (7 * c + 2)) (pc2 := 346) dL_law_345 rfl hk2 (7 * c + 2) rfl (by omega) (by rw [hz2]) ?_
  refine r_cv2 (pc2 := 349) dL_law_346 rfl vL_43 (hK_317 hS2) (Nat.le_of_ble_eq_true rfl) (hC _ _ _ _ _ _ hm) ?_
  rintro _ M3 ⟨rfl, i3, s3⟩
  refine go_if2 (tgt := 1026) dL_law_349 (by decide) (fun _ => ?_) (fun q => absurd rfl q)
  exact tail.a i3 s3 hk hz
set_option maxHeartbeats 4000000 in
theorem lc_shows {C : pCt} {Q : pQ} {M : pM} {c m L : Nat} {l5 l6 : Option Value} {sc : Nat → Int} (hC : ∀ kc ks z as M Q, Ct 340 kc ks z as M Q → C kc ks z as M Q) (hb : lwB sc c L M) (tail : lwT C Q sc c m L) : Go C Q yL_law cL_law (some .boolean) (m + 1) (6 * m + 6) 354 [some (.ref 0), some (.ref 2), some (.ref 317), some (.ref 351), some (.int (iI ((7 * c : Nat) : Int))), l5, l6] [] M := by
  obtain ⟨hi, hc, hk, hz, hr, hL, hL2⟩ := hb
  have hS := hi.1
  refine r_aload1 (pc2 := 355) dL_law_354 rfl ?_
  refine r_aload0 (pc2 := 356) dL_law_355 rfl ?_
  refine r_iload4 (pc2 := 358) dL_law_356 rfl ?_
  refine r_iconst (pc2 := 359) dL_law_358 rfl ?_
  refine r_iadd (c := ((7 * c + 1 : Nat) : Int)) (pc2 := 360) dL_law_359 rfl (by omega) ?_
  refine r_sald (z := sc (7 * c + 1)) (pc2 := 361) dL_law_360 rfl hk (7 * c + 1) rfl (by omega) (by rw [hz]) ?_
  refine r_aload0 (pc2 := 362) dL_law_361 rfl ?_
  refine r_iload4 (pc2 := 364) dL_law_362 rfl ?_
  refine r_iconst (pc2 := 365) dL_law_364 rfl ?_
  refine r_iadd (c := ((7 * c + 2 : Nat) : Int)) (pc2 := 366) dL_law_365 rfl (by omega) ?_
  refine r_sald (z := sc (7 * c + 2)) (pc2 := 367) dL_law_366 rfl hk (7 * c + 2) rfl (by omega) (by rw [hz]) ?_
  refine r_cv2 (pc2 := 370) dL_law_367 rfl vL_44 (hK_2 hS) (Nat.le_of_ble_eq_true rfl) (hC _ _ _ _ _ _ (pr_shows hi (hr _) (hr _))) ?_
  rintro _ M2 ⟨z, rfl, s2, hm⟩
  have hS2 : sOk M2.1 := by rw [s2.1]; exact hS
  have hk2 : M2.1.2.1 0 = (8, L) := by rw [s2.1]; exact hk
  have hz2 : M2.2.1 0 = sc := s2.2.trans hz
  show Go C Q yL_law cL_law (some .boolean) (m + 1) (6 * m + 6) 370 [some (.ref 0), some (.ref 2), some (.ref 317), some (.ref 351), some (.int (iI ((7 * c : Nat) : Int))), l5, l6] [.int (iI z)] M2
  refine r_aload2 (pc2 := 371) dL_law_370 rfl ?_
  refine r_aload0 (pc2 := 372) dL_law_371 rfl ?_
  refine r_iload4 (pc2 := 374) dL_law_372 rfl ?_
  refine r_iconst (pc2 := 375) dL_law_374 rfl ?_
  refine r_iadd (c := ((7 * c + 1 : Nat) : Int)) (pc2 := 376) dL_law_375 rfl (by omega) ?_
  refine r_sald (z := sc (7 * c + 1)) (pc2 := 377) dL_law_376 rfl hk2 (7 * c + 1) rfl (by omega) (by rw [hz2]) ?_
  refine r_aload0 (pc2 := 378) dL_law_377 rfl ?_
  refine r_iload4 (pc2 := 380) dL_law_378 rfl ?_
  refine r_iconst (pc2 := 381) dL_law_380 rfl ?_
  refine r_iadd (c := ((7 * c + 2 : Nat) : Int)) (pc2 := 382) dL_law_381 rfl (by omega) ?_
  refine r_sald (z := sc (7 * c + 2)) (pc2 := 383) dL_law_382 rfl hk2 (7 * c + 2) rfl (by omega) (by rw [hz2]) ?_
  refine r_cv2 (pc2 := 386) dL_law_383 rfl vL_47 (hK_317 hS2) (Nat.le_of_ble_eq_true rfl) (hC _ _ _ _ _ _ hm) ?_
  rintro _ M3 ⟨rfl, i3, s3⟩
  refine go_if2 (tgt := 1026) dL_law_386 (by decide) (fun _ => ?_) (fun q => absurd rfl q)
  exact tail.a i3 s3 hk hz
set_option maxHeartbeats 4000000 in
theorem lc_train {C : pCt} {Q : pQ} {M : pM} {c m L : Nat} {l5 l6 : Option Value} {sc : Nat → Int} (hC : ∀ kc ks z as M Q, Ct 340 kc ks z as M Q → C kc ks z as M Q) (hb : lwB sc c L M) (tail : lwT C Q sc c m L) : Go C Q yL_law cL_law (some .boolean) (m + 1) (6 * m + 6) 391 [some (.ref 0), some (.ref 2), some (.ref 317), some (.ref 351), some (.int (iI ((7 * c : Nat) : Int))), l5, l6] [] M := by
  obtain ⟨hi, hc, hk, hz, hr, hL, hL2⟩ := hb
  have hS := hi.1
  refine r_aload1 (pc2 := 392) dL_law_391 rfl ?_
  refine r_aload0 (pc2 := 393) dL_law_392 rfl ?_
  refine r_iload4 (pc2 := 395) dL_law_393 rfl ?_
  refine r_iconst (pc2 := 396) dL_law_395 rfl ?_
  refine r_iadd (c := ((7 * c + 1 : Nat) : Int)) (pc2 := 397) dL_law_396 rfl (by omega) ?_
  refine r_sald (z := sc (7 * c + 1)) (pc2 := 398) dL_law_397 rfl hk (7 * c + 1) rfl (by omega) (by rw [hz]) ?_
  refine r_aload0 (pc2 := 399) dL_law_398 rfl ?_
  refine r_iload4 (pc2 := 401) dL_law_399 rfl ?_
  refine r_iconst (pc2 := 402) dL_law_401 rfl ?_
  refine r_iadd (c := ((7 * c + 2 : Nat) : Int)) (pc2 := 403) dL_law_402 rfl (by omega) ?_
  refine r_sald (z := sc (7 * c + 2)) (pc2 := 404) dL_law_403 rfl hk (7 * c + 2) rfl (by omega) (by rw [hz]) ?_
  refine r_cv2 (pc2 := 407) dL_law_404 rfl vL_48 (hK_2 hS) (Nat.le_of_ble_eq_true rfl) (hC _ _ _ _ _ _ (pr_train hi (hr _) (hr _))) ?_
  rintro _ M2 ⟨z, rfl, s2, hm⟩
  have hS2 : sOk M2.1 := by rw [s2.1]; exact hS
  have hk2 : M2.1.2.1 0 = (8, L) := by rw [s2.1]; exact hk
  have hz2 : M2.2.1 0 = sc := s2.2.trans hz
  show Go C Q yL_law cL_law (some .boolean) (m + 1) (6 * m + 6) 407 [some (.ref 0), some (.ref 2), some (.ref 317), some (.ref 351), some (.int (iI ((7 * c : Nat) : Int))), l5, l6] [.int (iI z)] M2
  refine r_aload2 (pc2 := 408) dL_law_407 rfl ?_
  refine r_aload0 (pc2 := 409) dL_law_408 rfl ?_
  refine r_iload4 (pc2 := 411) dL_law_409 rfl ?_
  refine r_iconst (pc2 := 412) dL_law_411 rfl ?_
  refine r_iadd (c := ((7 * c + 1 : Nat) : Int)) (pc2 := 413) dL_law_412 rfl (by omega) ?_
  refine r_sald (z := sc (7 * c + 1)) (pc2 := 414) dL_law_413 rfl hk2 (7 * c + 1) rfl (by omega) (by rw [hz2]) ?_
  refine r_aload0 (pc2 := 415) dL_law_414 rfl ?_
  refine r_iload4 (pc2 := 417) dL_law_415 rfl ?_
  refine r_iconst (pc2 := 418) dL_law_417 rfl ?_
  refine r_iadd (c := ((7 * c + 2 : Nat) : Int)) (pc2 := 419) dL_law_418 rfl (by omega) ?_
  refine r_sald (z := sc (7 * c + 2)) (pc2 := 420) dL_law_419 rfl hk2 (7 * c + 2) rfl (by omega) (by rw [hz2]) ?_
  refine r_cv2 (pc2 := 423) dL_law_420 rfl vL_51 (hK_317 hS2) (Nat.le_of_ble_eq_true rfl) (hC _ _ _ _ _ _ hm) ?_
  rintro _ M3 ⟨rfl, i3, s3⟩
  refine go_if2 (tgt := 1026) dL_law_423 (by decide) (fun _ => ?_) (fun q => absurd rfl q)
  exact tail.a i3 s3 hk hz
set_option maxHeartbeats 4000000 in
theorem lc_lever {C : pCt} {Q : pQ} {M : pM} {c m L : Nat} {l5 l6 : Option Value} {sc : Nat → Int} (hC : ∀ kc ks z as M Q, Ct 340 kc ks z as M Q → C kc ks z as M Q) (hb : lwB sc c L M) (tail : lwT C Q sc c m L) : Go C Q yL_law cL_law (some .boolean) (m + 1) (6 * m + 6) 428 [some (.ref 0), some (.ref 2), some (.ref 317), some (.ref 351), some (.int (iI ((7 * c : Nat) : Int))), l5, l6] [] M := by
  obtain ⟨hi, hc, hk, hz, hr, hL, hL2⟩ := hb
  have hS := hi.1
  refine r_aload1 (pc2 := 429) dL_law_428 rfl ?_
  refine r_aload0 (pc2 := 430) dL_law_429 rfl ?_
  refine r_iload4 (pc2 := 432) dL_law_430 rfl ?_
  refine r_iconst (pc2 := 433) dL_law_432 rfl ?_
  refine r_iadd (c := ((7 * c + 1 : Nat) : Int)) (pc2 := 434) dL_law_433 rfl (by omega) ?_
  refine r_sald (z := sc (7 * c + 1)) (pc2 := 435) dL_law_434 rfl hk (7 * c + 1) rfl (by omega) (by rw [hz]) ?_
  refine r_cv1 (pc2 := 438) dL_law_435 rfl vL_52 (hK_2 hS) (Nat.le_of_ble_eq_true rfl) (hC _ _ _ _ _ _ (pr_lever hi (hr _))) ?_
  rintro _ M2 ⟨z, rfl, s2, hm⟩
  have hS2 : sOk M2.1 := by rw [s2.1]; exact hS
  have hk2 : M2.1.2.1 0 = (8, L) := by rw [s2.1]; exact hk
  have hz2 : M2.2.1 0 = sc := s2.2.trans hz
  show Go C Q yL_law cL_law (some .boolean) (m + 1) (6 * m + 6) 438 [some (.ref 0), some (.ref 2), some (.ref 317), some (.ref 351), some (.int (iI ((7 * c : Nat) : Int))), l5, l6] [.int (iI z)] M2
  refine r_aload2 (pc2 := 439) dL_law_438 rfl ?_
  refine r_aload0 (pc2 := 440) dL_law_439 rfl ?_
  refine r_iload4 (pc2 := 442) dL_law_440 rfl ?_
  refine r_iconst (pc2 := 443) dL_law_442 rfl ?_
  refine r_iadd (c := ((7 * c + 1 : Nat) : Int)) (pc2 := 444) dL_law_443 rfl (by omega) ?_
  refine r_sald (z := sc (7 * c + 1)) (pc2 := 445) dL_law_444 rfl hk2 (7 * c + 1) rfl (by omega) (by rw [hz2]) ?_
  refine r_cv1 (pc2 := 448) dL_law_445 rfl vL_55 (hK_317 hS2) (Nat.le_of_ble_eq_true rfl) (hC _ _ _ _ _ _ hm) ?_
  rintro _ M3 ⟨rfl, i3, s3⟩
  refine go_if2 (tgt := 1026) dL_law_448 (by decide) (fun _ => ?_) (fun q => absurd rfl q)
  exact tail.a i3 s3 hk hz
set_option maxHeartbeats 4000000 in
theorem lc_logged {C : pCt} {Q : pQ} {M : pM} {c m L : Nat} {l5 l6 : Option Value} {sc : Nat → Int} (hC : ∀ kc ks z as M Q, Ct 340 kc ks z as M Q → C kc ks z as M Q) (hb : lwB sc c L M) (tail : lwT C Q sc c m L) : Go C Q yL_law cL_law (some .boolean) (m + 1) (6 * m + 6) 558 [some (.ref 0), some (.ref 2), some (.ref 317), some (.ref 351), some (.int (iI ((7 * c : Nat) : Int))), l5, l6] [] M := by
  obtain ⟨hi, hc, hk, hz, hr, hL, hL2⟩ := hb
  have hS := hi.1
  refine r_aload1 (pc2 := 559) dL_law_558 rfl ?_
  refine r_aload0 (pc2 := 560) dL_law_559 rfl ?_
  refine r_iload4 (pc2 := 562) dL_law_560 rfl ?_
  refine r_iconst (pc2 := 563) dL_law_562 rfl ?_
  refine r_iadd (c := ((7 * c + 1 : Nat) : Int)) (pc2 := 564) dL_law_563 rfl (by omega) ?_
  refine r_sald (z := sc (7 * c + 1)) (pc2 := 565) dL_law_564 rfl hk (7 * c + 1) rfl (by omega) (by rw [hz]) ?_
  refine r_cv1 (pc2 := 568) dL_law_565 rfl vL_69 (hK_2 hS) (Nat.le_of_ble_eq_true rfl) (hC _ _ _ _ _ _ (pr_logged hi (hr _))) ?_
  rintro _ M2 ⟨z, rfl, s2, hm⟩
  have hS2 : sOk M2.1 := by rw [s2.1]; exact hS
  have hk2 : M2.1.2.1 0 = (8, L) := by rw [s2.1]; exact hk
  have hz2 : M2.2.1 0 = sc := s2.2.trans hz
  show Go C Q yL_law cL_law (some .boolean) (m + 1) (6 * m + 6) 568 [some (.ref 0), some (.ref 2), some (.ref 317), some (.ref 351), some (.int (iI ((7 * c : Nat) : Int))), l5, l6] [.int (iI z)] M2
  refine r_aload2 (pc2 := 569) dL_law_568 rfl ?_
  refine r_aload0 (pc2 := 570) dL_law_569 rfl ?_
  refine r_iload4 (pc2 := 572) dL_law_570 rfl ?_
  refine r_iconst (pc2 := 573) dL_law_572 rfl ?_
  refine r_iadd (c := ((7 * c + 1 : Nat) : Int)) (pc2 := 574) dL_law_573 rfl (by omega) ?_
  refine r_sald (z := sc (7 * c + 1)) (pc2 := 575) dL_law_574 rfl hk2 (7 * c + 1) rfl (by omega) (by rw [hz2]) ?_
  refine r_cv1 (pc2 := 578) dL_law_575 rfl vL_72 (hK_317 hS2) (Nat.le_of_ble_eq_true rfl) (hC _ _ _ _ _ _ hm) ?_
  rintro _ M3 ⟨rfl, i3, s3⟩
  refine go_if2 (tgt := 1026) dL_law_578 (by decide) (fun _ => ?_) (fun q => absurd rfl q)
  exact tail.a i3 s3 hk hz
set_option maxHeartbeats 4000000 in
theorem lc_round {C : pCt} {Q : pQ} {M : pM} {c m L : Nat} {l5 l6 : Option Value} {sc : Nat → Int} (hC : ∀ kc ks z as M Q, Ct 340 kc ks z as M Q → C kc ks z as M Q) (hb : lwB sc c L M) (tail : lwT C Q sc c m L) : Go C Q yL_law cL_law (some .boolean) (m + 1) (6 * m + 6) 583 [some (.ref 0), some (.ref 2), some (.ref 317), some (.ref 351), some (.int (iI ((7 * c : Nat) : Int))), l5, l6] [] M := by
  obtain ⟨hi, hc, hk, hz, hr, hL, hL2⟩ := hb
  have hS := hi.1
  refine r_aload1 (pc2 := 584) dL_law_583 rfl ?_
  refine r_aload0 (pc2 := 585) dL_law_584 rfl ?_
  refine r_iload4 (pc2 := 587) dL_law_585 rfl ?_
  refine r_iconst (pc2 := 588) dL_law_587 rfl ?_
  refine r_iadd (c := ((7 * c + 1 : Nat) : Int)) (pc2 := 589) dL_law_588 rfl (by omega) ?_
  refine r_sald (z := sc (7 * c + 1)) (pc2 := 590) dL_law_589 rfl hk (7 * c + 1) rfl (by omega) (by rw [hz]) ?_
  refine r_aload0 (pc2 := 591) dL_law_590 rfl ?_
  refine r_iload4 (pc2 := 593) dL_law_591 rfl ?_
  refine r_iconst (pc2 := 594) dL_law_593 rfl ?_
  refine r_iadd (c := ((7 * c + 2 : Nat) : Int)) (pc2 := 595) dL_law_594 rfl (by omega) ?_
  refine r_sald (z := sc (7 * c + 2)) (pc2 := 596) dL_law_595 rfl hk (7 * c + 2) rfl (by omega) (by rw [hz]) ?_
  refine r_cv2 (pc2 := 599) dL_law_596 rfl vL_73 (hK_2 hS) (Nat.le_of_ble_eq_true rfl) (hC _ _ _ _ _ _ (pr_round hi (hr _) (hr _))) ?_
  rintro _ M2 ⟨z, rfl, s2, hm⟩
  have hS2 : sOk M2.1 := by rw [s2.1]; exact hS
  have hk2 : M2.1.2.1 0 = (8, L) := by rw [s2.1]; exact hk
  have hz2 : M2.2.1 0 = sc := s2.2.trans hz
  show Go C Q yL_law cL_law (some .boolean) (m + 1) (6 * m + 6) 599 [some (.ref 0), some (.ref 2), some (.ref 317), some (.ref 351), some (.int (iI ((7 * c : Nat) : Int))), l5, l6] [.int (iI z)] M2
  refine r_aload2 (pc2 := 600) dL_law_599 rfl ?_
  refine r_aload0 (pc2 := 601) dL_law_600 rfl ?_
  refine r_iload4 (pc2 := 603) dL_law_601 rfl ?_
  refine r_iconst (pc2 := 604) dL_law_603 rfl ?_
  refine r_iadd (c := ((7 * c + 1 : Nat) : Int)) (pc2 := 605) dL_law_604 rfl (by omega) ?_
  refine r_sald (z := sc (7 * c + 1)) (pc2 := 606) dL_law_605 rfl hk2 (7 * c + 1) rfl (by omega) (by rw [hz2]) ?_
  refine r_aload0 (pc2 := 607) dL_law_606 rfl ?_
  refine r_iload4 (pc2 := 609) dL_law_607 rfl ?_
  refine r_iconst (pc2 := 610) dL_law_609 rfl ?_
  refine r_iadd (c := ((7 * c + 2 : Nat) : Int)) (pc2 := 611) dL_law_610 rfl (by omega) ?_
  refine r_sald (z := sc (7 * c + 2)) (pc2 := 612) dL_law_611 rfl hk2 (7 * c + 2) rfl (by omega) (by rw [hz2]) ?_
  refine r_cv2 (pc2 := 615) dL_law_612 rfl vL_76 (hK_317 hS2) (Nat.le_of_ble_eq_true rfl) (hC _ _ _ _ _ _ hm) ?_
  rintro _ M3 ⟨rfl, i3, s3⟩
  refine go_if2 (tgt := 1026) dL_law_615 (by decide) (fun _ => ?_) (fun q => absurd rfl q)
  exact tail.a i3 s3 hk hz
set_option maxHeartbeats 4000000 in
theorem lc_alike {C : pCt} {Q : pQ} {M : pM} {c m L : Nat} {l5 l6 : Option Value} {sc : Nat → Int} (hC : ∀ kc ks z as M Q, Ct 340 kc ks z as M Q → C kc ks z as M Q) (hb : lwB sc c L M) (tail : lwT C Q sc c m L) : Go C Q yL_law cL_law (some .boolean) (m + 1) (6 * m + 6) 673 [some (.ref 0), some (.ref 2), some (.ref 317), some (.ref 351), some (.int (iI ((7 * c : Nat) : Int))), l5, l6] [] M := by
  obtain ⟨hi, hc, hk, hz, hr, hL, hL2⟩ := hb
  have hS := hi.1
  refine r_aload1 (pc2 := 674) dL_law_673 rfl ?_
  refine r_aload0 (pc2 := 675) dL_law_674 rfl ?_
  refine r_iload4 (pc2 := 677) dL_law_675 rfl ?_
  refine r_iconst (pc2 := 678) dL_law_677 rfl ?_
  refine r_iadd (c := ((7 * c + 1 : Nat) : Int)) (pc2 := 679) dL_law_678 rfl (by omega) ?_
  refine r_sald (z := sc (7 * c + 1)) (pc2 := 680) dL_law_679 rfl hk (7 * c + 1) rfl (by omega) (by rw [hz]) ?_
  refine r_aload0 (pc2 := 681) dL_law_680 rfl ?_
  refine r_iload4 (pc2 := 683) dL_law_681 rfl ?_
  refine r_iconst (pc2 := 684) dL_law_683 rfl ?_
  refine r_iadd (c := ((7 * c + 2 : Nat) : Int)) (pc2 := 685) dL_law_684 rfl (by omega) ?_
  refine r_sald (z := sc (7 * c + 2)) (pc2 := 686) dL_law_685 rfl hk (7 * c + 2) rfl (by omega) (by rw [hz]) ?_
  refine r_cv2 (pc2 := 689) dL_law_686 rfl vL_82 (hK_2 hS) (Nat.le_of_ble_eq_true rfl) (hC _ _ _ _ _ _ (pr_alike hi (hr _) (hr _))) ?_
  rintro _ M2 ⟨z, rfl, s2, hm⟩
  have hS2 : sOk M2.1 := by rw [s2.1]; exact hS
  have hk2 : M2.1.2.1 0 = (8, L) := by rw [s2.1]; exact hk
  have hz2 : M2.2.1 0 = sc := s2.2.trans hz
  show Go C Q yL_law cL_law (some .boolean) (m + 1) (6 * m + 6) 689 [some (.ref 0), some (.ref 2), some (.ref 317), some (.ref 351), some (.int (iI ((7 * c : Nat) : Int))), l5, l6] [.int (iI z)] M2
  refine r_aload2 (pc2 := 690) dL_law_689 rfl ?_
  refine r_aload0 (pc2 := 691) dL_law_690 rfl ?_
  refine r_iload4 (pc2 := 693) dL_law_691 rfl ?_
  refine r_iconst (pc2 := 694) dL_law_693 rfl ?_
  refine r_iadd (c := ((7 * c + 1 : Nat) : Int)) (pc2 := 695) dL_law_694 rfl (by omega) ?_
  refine r_sald (z := sc (7 * c + 1)) (pc2 := 696) dL_law_695 rfl hk2 (7 * c + 1) rfl (by omega) (by rw [hz2]) ?_
  refine r_aload0 (pc2 := 697) dL_law_696 rfl ?_
  refine r_iload4 (pc2 := 699) dL_law_697 rfl ?_
  refine r_iconst (pc2 := 700) dL_law_699 rfl ?_
  refine r_iadd (c := ((7 * c + 2 : Nat) : Int)) (pc2 := 701) dL_law_700 rfl (by omega) ?_
  refine r_sald (z := sc (7 * c + 2)) (pc2 := 702) dL_law_701 rfl hk2 (7 * c + 2) rfl (by omega) (by rw [hz2]) ?_
  refine r_cv2 (pc2 := 705) dL_law_702 rfl vL_85 (hK_317 hS2) (Nat.le_of_ble_eq_true rfl) (hC _ _ _ _ _ _ hm) ?_
  rintro _ M3 ⟨rfl, i3, s3⟩
  refine go_if2 (tgt := 1026) dL_law_705 (by decide) (fun _ => ?_) (fun q => absurd rfl q)
  exact tail.a i3 s3 hk hz
set_option maxHeartbeats 4000000 in
theorem lc_telling {C : pCt} {Q : pQ} {M : pM} {c m L : Nat} {l5 l6 : Option Value} {sc : Nat → Int} (hC : ∀ kc ks z as M Q, Ct 340 kc ks z as M Q → C kc ks z as M Q) (hb : lwB sc c L M) (tail : lwT C Q sc c m L) : Go C Q yL_law cL_law (some .boolean) (m + 1) (6 * m + 6) 710 [some (.ref 0), some (.ref 2), some (.ref 317), some (.ref 351), some (.int (iI ((7 * c : Nat) : Int))), l5, l6] [] M := by
  obtain ⟨hi, hc, hk, hz, hr, hL, hL2⟩ := hb
  have hS := hi.1
  refine r_aload1 (pc2 := 711) dL_law_710 rfl ?_
  refine r_aload0 (pc2 := 712) dL_law_711 rfl ?_
  refine r_iload4 (pc2 := 714) dL_law_712 rfl ?_
  refine r_iconst (pc2 := 715) dL_law_714 rfl ?_
  refine r_iadd (c := ((7 * c + 1 : Nat) : Int)) (pc2 := 716) dL_law_715 rfl (by omega) ?_
  refine r_sald (z := sc (7 * c + 1)) (pc2 := 717) dL_law_716 rfl hk (7 * c + 1) rfl (by omega) (by rw [hz]) ?_
  refine r_aload0 (pc2 := 718) dL_law_717 rfl ?_
  refine r_iload4 (pc2 := 720) dL_law_718 rfl ?_
  refine r_iconst (pc2 := 721) dL_law_720 rfl ?_
  refine r_iadd (c := ((7 * c + 2 : Nat) : Int)) (pc2 := 722) dL_law_721 rfl (by omega) ?_
  refine r_sald (z := sc (7 * c + 2)) (pc2 := 723) dL_law_722 rfl hk (7 * c + 2) rfl (by omega) (by rw [hz]) ?_
  refine r_aload0 (pc2 := 724) dL_law_723 rfl ?_
  refine r_iload4 (pc2 := 726) dL_law_724 rfl ?_
  refine r_iconst (pc2 := 727) dL_law_726 rfl ?_
  refine r_iadd (c := ((7 * c + 3 : Nat) : Int)) (pc2 := 728) dL_law_727 rfl (by omega) ?_
  refine r_sald (z := sc (7 * c + 3)) (pc2 := 729) dL_law_728 rfl hk (7 * c + 3) rfl (by omega) (by rw [hz]) ?_
  refine r_cv3 (pc2 := 732) dL_law_729 rfl vL_86 (hK_2 hS) (Nat.le_of_ble_eq_true rfl) (hC _ _ _ _ _ _ (pr_telling hi (hr _) (hr _) (hr _))) ?_
  rintro _ M2 ⟨z, rfl, s2, hm⟩
  have hS2 : sOk M2.1 := by rw [s2.1]; exact hS
  have hk2 : M2.1.2.1 0 = (8, L) := by rw [s2.1]; exact hk
  have hz2 : M2.2.1 0 = sc := s2.2.trans hz
  show Go C Q yL_law cL_law (some .boolean) (m + 1) (6 * m + 6) 732 [some (.ref 0), some (.ref 2), some (.ref 317), some (.ref 351), some (.int (iI ((7 * c : Nat) : Int))), l5, l6] [.int (iI z)] M2
  refine r_aload2 (pc2 := 733) dL_law_732 rfl ?_
  refine r_aload0 (pc2 := 734) dL_law_733 rfl ?_
  refine r_iload4 (pc2 := 736) dL_law_734 rfl ?_
  refine r_iconst (pc2 := 737) dL_law_736 rfl ?_
  refine r_iadd (c := ((7 * c + 1 : Nat) : Int)) (pc2 := 738) dL_law_737 rfl (by omega) ?_
  refine r_sald (z := sc (7 * c + 1)) (pc2 := 739) dL_law_738 rfl hk2 (7 * c + 1) rfl (by omega) (by rw [hz2]) ?_
  refine r_aload0 (pc2 := 740) dL_law_739 rfl ?_
  refine r_iload4 (pc2 := 742) dL_law_740 rfl ?_
  refine r_iconst (pc2 := 743) dL_law_742 rfl ?_
  refine r_iadd (c := ((7 * c + 2 : Nat) : Int)) (pc2 := 744) dL_law_743 rfl (by omega) ?_
  refine r_sald (z := sc (7 * c + 2)) (pc2 := 745) dL_law_744 rfl hk2 (7 * c + 2) rfl (by omega) (by rw [hz2]) ?_
  refine r_aload0 (pc2 := 746) dL_law_745 rfl ?_
  refine r_iload4 (pc2 := 748) dL_law_746 rfl ?_
  refine r_iconst (pc2 := 749) dL_law_748 rfl ?_
  refine r_iadd (c := ((7 * c + 3 : Nat) : Int)) (pc2 := 750) dL_law_749 rfl (by omega) ?_
  refine r_sald (z := sc (7 * c + 3)) (pc2 := 751) dL_law_750 rfl hk2 (7 * c + 3) rfl (by omega) (by rw [hz2]) ?_
  refine r_cv3 (pc2 := 754) dL_law_751 rfl vL_90 (hK_317 hS2) (Nat.le_of_ble_eq_true rfl) (hC _ _ _ _ _ _ hm) ?_
  rintro _ M3 ⟨rfl, i3, s3⟩
  refine go_if2 (tgt := 1026) dL_law_754 (by decide) (fun _ => ?_) (fun q => absurd rfl q)
  exact tail.a i3 s3 hk hz
set_option maxHeartbeats 4000000 in
theorem lc_wish {C : pCt} {Q : pQ} {M : pM} {c m L : Nat} {l5 l6 : Option Value} {sc : Nat → Int} (hC : ∀ kc ks z as M Q, Ct 340 kc ks z as M Q → C kc ks z as M Q) (hb : lwB sc c L M) (tail : lwT C Q sc c m L) : Go C Q yL_law cL_law (some .boolean) (m + 1) (6 * m + 6) 759 [some (.ref 0), some (.ref 2), some (.ref 317), some (.ref 351), some (.int (iI ((7 * c : Nat) : Int))), l5, l6] [] M := by
  obtain ⟨hi, hc, hk, hz, hr, hL, hL2⟩ := hb
  have hS := hi.1
  refine r_aload1 (pc2 := 760) dL_law_759 rfl ?_
  refine r_aload0 (pc2 := 761) dL_law_760 rfl ?_
  refine r_iload4 (pc2 := 763) dL_law_761 rfl ?_
  refine r_iconst (pc2 := 764) dL_law_763 rfl ?_
  refine r_iadd (c := ((7 * c + 1 : Nat) : Int)) (pc2 := 765) dL_law_764 rfl (by omega) ?_
  refine r_sald (z := sc (7 * c + 1)) (pc2 := 766) dL_law_765 rfl hk (7 * c + 1) rfl (by omega) (by rw [hz]) ?_
  refine r_aload0 (pc2 := 767) dL_law_766 rfl ?_
  refine r_iload4 (pc2 := 769) dL_law_767 rfl ?_
  refine r_iconst (pc2 := 770) dL_law_769 rfl ?_
  refine r_iadd (c := ((7 * c + 2 : Nat) : Int)) (pc2 := 771) dL_law_770 rfl (by omega) ?_
  refine r_sald (z := sc (7 * c + 2)) (pc2 := 772) dL_law_771 rfl hk (7 * c + 2) rfl (by omega) (by rw [hz]) ?_
  refine r_aload0 (pc2 := 773) dL_law_772 rfl ?_
  refine r_iload4 (pc2 := 775) dL_law_773 rfl ?_
  refine r_iconst (pc2 := 776) dL_law_775 rfl ?_
  refine r_iadd (c := ((7 * c + 3 : Nat) : Int)) (pc2 := 777) dL_law_776 rfl (by omega) ?_
  refine r_sald (z := sc (7 * c + 3)) (pc2 := 778) dL_law_777 rfl hk (7 * c + 3) rfl (by omega) (by rw [hz]) ?_
  refine r_cv3 (pc2 := 781) dL_law_778 rfl vL_91 (hK_2 hS) (Nat.le_of_ble_eq_true rfl) (hC _ _ _ _ _ _ (pr_wish hi (hr _) (hr _) (hr _))) ?_
  rintro _ M2 ⟨z, rfl, s2, hm⟩
  have hS2 : sOk M2.1 := by rw [s2.1]; exact hS
  have hk2 : M2.1.2.1 0 = (8, L) := by rw [s2.1]; exact hk
  have hz2 : M2.2.1 0 = sc := s2.2.trans hz
  show Go C Q yL_law cL_law (some .boolean) (m + 1) (6 * m + 6) 781 [some (.ref 0), some (.ref 2), some (.ref 317), some (.ref 351), some (.int (iI ((7 * c : Nat) : Int))), l5, l6] [.int (iI z)] M2
  refine r_aload2 (pc2 := 782) dL_law_781 rfl ?_
  refine r_aload0 (pc2 := 783) dL_law_782 rfl ?_
  refine r_iload4 (pc2 := 785) dL_law_783 rfl ?_
  refine r_iconst (pc2 := 786) dL_law_785 rfl ?_
  refine r_iadd (c := ((7 * c + 1 : Nat) : Int)) (pc2 := 787) dL_law_786 rfl (by omega) ?_
  refine r_sald (z := sc (7 * c + 1)) (pc2 := 788) dL_law_787 rfl hk2 (7 * c + 1) rfl (by omega) (by rw [hz2]) ?_
  refine r_aload0 (pc2 := 789) dL_law_788 rfl ?_
  refine r_iload4 (pc2 := 791) dL_law_789 rfl ?_
  refine r_iconst (pc2 := 792) dL_law_791 rfl ?_
  refine r_iadd (c := ((7 * c + 2 : Nat) : Int)) (pc2 := 793) dL_law_792 rfl (by omega) ?_
  refine r_sald (z := sc (7 * c + 2)) (pc2 := 794) dL_law_793 rfl hk2 (7 * c + 2) rfl (by omega) (by rw [hz2]) ?_
  refine r_aload0 (pc2 := 795) dL_law_794 rfl ?_
  refine r_iload4 (pc2 := 797) dL_law_795 rfl ?_
  refine r_iconst (pc2 := 798) dL_law_797 rfl ?_
  refine r_iadd (c := ((7 * c + 3 : Nat) : Int)) (pc2 := 799) dL_law_798 rfl (by omega) ?_
  refine r_sald (z := sc (7 * c + 3)) (pc2 := 800) dL_law_799 rfl hk2 (7 * c + 3) rfl (by omega) (by rw [hz2]) ?_
  refine r_cv3 (pc2 := 803) dL_law_800 rfl vL_95 (hK_317 hS2) (Nat.le_of_ble_eq_true rfl) (hC _ _ _ _ _ _ hm) ?_
  rintro _ M3 ⟨rfl, i3, s3⟩
  refine go_if2 (tgt := 1026) dL_law_803 (by decide) (fun _ => ?_) (fun q => absurd rfl q)
  exact tail.a i3 s3 hk hz
set_option maxHeartbeats 4000000 in
theorem lc_way {C : pCt} {Q : pQ} {M : pM} {c m L : Nat} {l5 l6 : Option Value} {sc : Nat → Int} (hC : ∀ kc ks z as M Q, Ct 340 kc ks z as M Q → C kc ks z as M Q) (hb : lwB sc c L M) (tail : lwT C Q sc c m L) : Go C Q yL_law cL_law (some .boolean) (m + 1) (6 * m + 6) 808 [some (.ref 0), some (.ref 2), some (.ref 317), some (.ref 351), some (.int (iI ((7 * c : Nat) : Int))), l5, l6] [] M := by
  obtain ⟨hi, hc, hk, hz, hr, hL, hL2⟩ := hb
  have hS := hi.1
  refine r_aload1 (pc2 := 809) dL_law_808 rfl ?_
  refine r_cv0 (pc2 := 812) dL_law_809 rfl vL_96 (hK_2 hS) (Nat.le_of_ble_eq_true rfl) (hC _ _ _ _ _ _ (pr_way hi)) ?_
  rintro _ M2 ⟨z, rfl, s2, hm⟩
  have hS2 : sOk M2.1 := by rw [s2.1]; exact hS
  have hk2 : M2.1.2.1 0 = (8, L) := by rw [s2.1]; exact hk
  have hz2 : M2.2.1 0 = sc := s2.2.trans hz
  show Go C Q yL_law cL_law (some .boolean) (m + 1) (6 * m + 6) 812 [some (.ref 0), some (.ref 2), some (.ref 317), some (.ref 351), some (.int (iI ((7 * c : Nat) : Int))), l5, l6] [.int (iI z)] M2
  refine r_aload2 (pc2 := 813) dL_law_812 rfl ?_
  refine r_cv0 (pc2 := 816) dL_law_813 rfl vL_99 (hK_317 hS2) (Nat.le_of_ble_eq_true rfl) (hC _ _ _ _ _ _ hm) ?_
  rintro _ M3 ⟨rfl, i3, s3⟩
  refine go_if2 (tgt := 1026) dL_law_816 (by decide) (fun _ => ?_) (fun q => absurd rfl q)
  exact tail.a i3 s3 hk hz
set_option maxHeartbeats 4000000 in
theorem lc_step {C : pCt} {Q : pQ} {M : pM} {c m L : Nat} {l5 l6 : Option Value} {sc : Nat → Int} (hC : ∀ kc ks z as M Q, Ct 340 kc ks z as M Q → C kc ks z as M Q) (hb : lwB sc c L M) (tail : lwT C Q sc c m L) : Go C Q yL_law cL_law (some .boolean) (m + 1) (6 * m + 6) 821 [some (.ref 0), some (.ref 2), some (.ref 317), some (.ref 351), some (.int (iI ((7 * c : Nat) : Int))), l5, l6] [] M := by
  obtain ⟨hi, hc, hk, hz, hr, hL, hL2⟩ := hb
  have hS := hi.1
  refine r_aload1 (pc2 := 822) dL_law_821 rfl ?_
  refine r_aload0 (pc2 := 823) dL_law_822 rfl ?_
  refine r_iload4 (pc2 := 825) dL_law_823 rfl ?_
  refine r_iconst (pc2 := 826) dL_law_825 rfl ?_
  refine r_iadd (c := ((7 * c + 1 : Nat) : Int)) (pc2 := 827) dL_law_826 rfl (by omega) ?_
  refine r_sald (z := sc (7 * c + 1)) (pc2 := 828) dL_law_827 rfl hk (7 * c + 1) rfl (by omega) (by rw [hz]) ?_
  refine r_cv1 (pc2 := 831) dL_law_828 rfl vL_100 (hK_2 hS) (Nat.le_of_ble_eq_true rfl) (hC _ _ _ _ _ _ (pr_step hi (hr _))) ?_
  rintro _ M2 ⟨z, rfl, s2, hm⟩
  have hS2 : sOk M2.1 := by rw [s2.1]; exact hS
  have hk2 : M2.1.2.1 0 = (8, L) := by rw [s2.1]; exact hk
  have hz2 : M2.2.1 0 = sc := s2.2.trans hz
  show Go C Q yL_law cL_law (some .boolean) (m + 1) (6 * m + 6) 831 [some (.ref 0), some (.ref 2), some (.ref 317), some (.ref 351), some (.int (iI ((7 * c : Nat) : Int))), l5, l6] [.int (iI z)] M2
  refine r_aload2 (pc2 := 832) dL_law_831 rfl ?_
  refine r_aload0 (pc2 := 833) dL_law_832 rfl ?_
  refine r_iload4 (pc2 := 835) dL_law_833 rfl ?_
  refine r_iconst (pc2 := 836) dL_law_835 rfl ?_
  refine r_iadd (c := ((7 * c + 1 : Nat) : Int)) (pc2 := 837) dL_law_836 rfl (by omega) ?_
  refine r_sald (z := sc (7 * c + 1)) (pc2 := 838) dL_law_837 rfl hk2 (7 * c + 1) rfl (by omega) (by rw [hz2]) ?_
  refine r_cv1 (pc2 := 841) dL_law_838 rfl vL_103 (hK_317 hS2) (Nat.le_of_ble_eq_true rfl) (hC _ _ _ _ _ _ hm) ?_
  rintro _ M3 ⟨rfl, i3, s3⟩
  refine go_if2 (tgt := 1026) dL_law_841 (by decide) (fun _ => ?_) (fun q => absurd rfl q)
  exact tail.a i3 s3 hk hz
set_option maxHeartbeats 4000000 in
theorem lc_sight {C : pCt} {Q : pQ} {M : pM} {c m L : Nat} {l5 l6 : Option Value} {sc : Nat → Int} (hC : ∀ kc ks z as M Q, Ct 340 kc ks z as M Q → C kc ks z as M Q) (hb : lwB sc c L M) (tail : lwT C Q sc c m L) : Go C Q yL_law cL_law (some .boolean) (m + 1) (6 * m + 6) 846 [some (.ref 0), some (.ref 2), some (.ref 317), some (.ref 351), some (.int (iI ((7 * c : Nat) : Int))), l5, l6] [] M := by
  obtain ⟨hi, hc, hk, hz, hr, hL, hL2⟩ := hb
  have hS := hi.1
  refine r_aload1 (pc2 := 847) dL_law_846 rfl ?_
  refine r_aload0 (pc2 := 848) dL_law_847 rfl ?_
  refine r_iload4 (pc2 := 850) dL_law_848 rfl ?_
  refine r_iconst (pc2 := 851) dL_law_850 rfl ?_
  refine r_iadd (c := ((7 * c + 1 : Nat) : Int)) (pc2 := 852) dL_law_851 rfl (by omega) ?_
  refine r_sald (z := sc (7 * c + 1)) (pc2 := 853) dL_law_852 rfl hk (7 * c + 1) rfl (by omega) (by rw [hz]) ?_
  refine r_aload0 (pc2 := 854) dL_law_853 rfl ?_
  refine r_iload4 (pc2 := 856) dL_law_854 rfl ?_
  refine r_iconst (pc2 := 857) dL_law_856 rfl ?_
  refine r_iadd (c := ((7 * c + 2 : Nat) : Int)) (pc2 := 858) dL_law_857 rfl (by omega) ?_
  refine r_sald (z := sc (7 * c + 2)) (pc2 := 859) dL_law_858 rfl hk (7 * c + 2) rfl (by omega) (by rw [hz]) ?_
  refine r_cv2 (pc2 := 862) dL_law_859 rfl vL_104 (hK_2 hS) (Nat.le_of_ble_eq_true rfl) (hC _ _ _ _ _ _ (pr_sight hi (hr _) (hr _))) ?_
  rintro _ M2 ⟨z, rfl, s2, hm⟩
  have hS2 : sOk M2.1 := by rw [s2.1]; exact hS
  have hk2 : M2.1.2.1 0 = (8, L) := by rw [s2.1]; exact hk
  have hz2 : M2.2.1 0 = sc := s2.2.trans hz
  show Go C Q yL_law cL_law (some .boolean) (m + 1) (6 * m + 6) 862 [some (.ref 0), some (.ref 2), some (.ref 317), some (.ref 351), some (.int (iI ((7 * c : Nat) : Int))), l5, l6] [.int (iI z)] M2
  refine r_aload2 (pc2 := 863) dL_law_862 rfl ?_
  refine r_aload0 (pc2 := 864) dL_law_863 rfl ?_
  refine r_iload4 (pc2 := 866) dL_law_864 rfl ?_
  refine r_iconst (pc2 := 867) dL_law_866 rfl ?_
  refine r_iadd (c := ((7 * c + 1 : Nat) : Int)) (pc2 := 868) dL_law_867 rfl (by omega) ?_
  refine r_sald (z := sc (7 * c + 1)) (pc2 := 869) dL_law_868 rfl hk2 (7 * c + 1) rfl (by omega) (by rw [hz2]) ?_
  refine r_aload0 (pc2 := 870) dL_law_869 rfl ?_
  refine r_iload4 (pc2 := 872) dL_law_870 rfl ?_
  refine r_iconst (pc2 := 873) dL_law_872 rfl ?_
  refine r_iadd (c := ((7 * c + 2 : Nat) : Int)) (pc2 := 874) dL_law_873 rfl (by omega) ?_
  refine r_sald (z := sc (7 * c + 2)) (pc2 := 875) dL_law_874 rfl hk2 (7 * c + 2) rfl (by omega) (by rw [hz2]) ?_
  refine r_cv2 (pc2 := 878) dL_law_875 rfl vL_107 (hK_317 hS2) (Nat.le_of_ble_eq_true rfl) (hC _ _ _ _ _ _ hm) ?_
  rintro _ M3 ⟨rfl, i3, s3⟩
  refine go_if2 (tgt := 1026) dL_law_878 (by decide) (fun _ => ?_) (fun q => absurd rfl q)
  exact tail.a i3 s3 hk hz
set_option maxHeartbeats 4000000 in
theorem lc_suspect {C : pCt} {Q : pQ} {M : pM} {c m L : Nat} {l5 l6 : Option Value} {sc : Nat → Int} (hC : ∀ kc ks z as M Q, Ct 340 kc ks z as M Q → C kc ks z as M Q) (hb : lwB sc c L M) (tail : lwT C Q sc c m L) : Go C Q yL_law cL_law (some .boolean) (m + 1) (6 * m + 6) 883 [some (.ref 0), some (.ref 2), some (.ref 317), some (.ref 351), some (.int (iI ((7 * c : Nat) : Int))), l5, l6] [] M := by
  obtain ⟨hi, hc, hk, hz, hr, hL, hL2⟩ := hb
  have hS := hi.1
  refine r_aload1 (pc2 := 884) dL_law_883 rfl ?_
  refine r_aload0 (pc2 := 885) dL_law_884 rfl ?_
  refine r_iload4 (pc2 := 887) dL_law_885 rfl ?_
  refine r_iconst (pc2 := 888) dL_law_887 rfl ?_
  refine r_iadd (c := ((7 * c + 1 : Nat) : Int)) (pc2 := 889) dL_law_888 rfl (by omega) ?_
  refine r_sald (z := sc (7 * c + 1)) (pc2 := 890) dL_law_889 rfl hk (7 * c + 1) rfl (by omega) (by rw [hz]) ?_
  refine r_aload0 (pc2 := 891) dL_law_890 rfl ?_
  refine r_iload4 (pc2 := 893) dL_law_891 rfl ?_
  refine r_iconst (pc2 := 894) dL_law_893 rfl ?_
  refine r_iadd (c := ((7 * c + 2 : Nat) : Int)) (pc2 := 895) dL_law_894 rfl (by omega) ?_
  refine r_sald (z := sc (7 * c + 2)) (pc2 := 896) dL_law_895 rfl hk (7 * c + 2) rfl (by omega) (by rw [hz]) ?_
  refine r_cv2 (pc2 := 899) dL_law_896 rfl vL_108 (hK_2 hS) (Nat.le_of_ble_eq_true rfl) (hC _ _ _ _ _ _ (pr_suspect hi (hr _) (hr _))) ?_
  rintro _ M2 ⟨z, rfl, s2, hm⟩
  have hS2 : sOk M2.1 := by rw [s2.1]; exact hS
  have hk2 : M2.1.2.1 0 = (8, L) := by rw [s2.1]; exact hk
  have hz2 : M2.2.1 0 = sc := s2.2.trans hz
  show Go C Q yL_law cL_law (some .boolean) (m + 1) (6 * m + 6) 899 [some (.ref 0), some (.ref 2), some (.ref 317), some (.ref 351), some (.int (iI ((7 * c : Nat) : Int))), l5, l6] [.int (iI z)] M2
  refine r_aload2 (pc2 := 900) dL_law_899 rfl ?_
  refine r_aload0 (pc2 := 901) dL_law_900 rfl ?_
  refine r_iload4 (pc2 := 903) dL_law_901 rfl ?_
  refine r_iconst (pc2 := 904) dL_law_903 rfl ?_
  refine r_iadd (c := ((7 * c + 1 : Nat) : Int)) (pc2 := 905) dL_law_904 rfl (by omega) ?_
  refine r_sald (z := sc (7 * c + 1)) (pc2 := 906) dL_law_905 rfl hk2 (7 * c + 1) rfl (by omega) (by rw [hz2]) ?_
  refine r_aload0 (pc2 := 907) dL_law_906 rfl ?_
  refine r_iload4 (pc2 := 909) dL_law_907 rfl ?_
  refine r_iconst (pc2 := 910) dL_law_909 rfl ?_
  refine r_iadd (c := ((7 * c + 2 : Nat) : Int)) (pc2 := 911) dL_law_910 rfl (by omega) ?_
  refine r_sald (z := sc (7 * c + 2)) (pc2 := 912) dL_law_911 rfl hk2 (7 * c + 2) rfl (by omega) (by rw [hz2]) ?_
  refine r_cv2 (pc2 := 915) dL_law_912 rfl vL_111 (hK_317 hS2) (Nat.le_of_ble_eq_true rfl) (hC _ _ _ _ _ _ hm) ?_
  rintro _ M3 ⟨rfl, i3, s3⟩
  refine go_if2 (tgt := 1026) dL_law_915 (by decide) (fun _ => ?_) (fun q => absurd rfl q)
  exact tail.a i3 s3 hk hz
set_option maxHeartbeats 4000000 in
theorem lc_test {C : pCt} {Q : pQ} {M : pM} {c m L : Nat} {l5 l6 : Option Value} {sc : Nat → Int} (hC : ∀ kc ks z as M Q, Ct 340 kc ks z as M Q → C kc ks z as M Q) (hb : lwB sc c L M) (tail : lwT C Q sc c m L) : Go C Q yL_law cL_law (some .boolean) (m + 1) (6 * m + 6) 920 [some (.ref 0), some (.ref 2), some (.ref 317), some (.ref 351), some (.int (iI ((7 * c : Nat) : Int))), l5, l6] [] M := by
  obtain ⟨hi, hc, hk, hz, hr, hL, hL2⟩ := hb
  have hS := hi.1
  refine r_aload1 (pc2 := 921) dL_law_920 rfl ?_
  refine r_aload0 (pc2 := 922) dL_law_921 rfl ?_
  refine r_iload4 (pc2 := 924) dL_law_922 rfl ?_
  refine r_iconst (pc2 := 925) dL_law_924 rfl ?_
  refine r_iadd (c := ((7 * c + 1 : Nat) : Int)) (pc2 := 926) dL_law_925 rfl (by omega) ?_
  refine r_sald (z := sc (7 * c + 1)) (pc2 := 927) dL_law_926 rfl hk (7 * c + 1) rfl (by omega) (by rw [hz]) ?_
  refine r_cv1 (pc2 := 930) dL_law_927 rfl vL_112 (hK_2 hS) (Nat.le_of_ble_eq_true rfl) (hC _ _ _ _ _ _ (pr_test hi (hr _))) ?_
  rintro _ M2 ⟨z, rfl, s2, hm⟩
  have hS2 : sOk M2.1 := by rw [s2.1]; exact hS
  have hk2 : M2.1.2.1 0 = (8, L) := by rw [s2.1]; exact hk
  have hz2 : M2.2.1 0 = sc := s2.2.trans hz
  show Go C Q yL_law cL_law (some .boolean) (m + 1) (6 * m + 6) 930 [some (.ref 0), some (.ref 2), some (.ref 317), some (.ref 351), some (.int (iI ((7 * c : Nat) : Int))), l5, l6] [.int (iI z)] M2
  refine r_aload2 (pc2 := 931) dL_law_930 rfl ?_
  refine r_aload0 (pc2 := 932) dL_law_931 rfl ?_
  refine r_iload4 (pc2 := 934) dL_law_932 rfl ?_
  refine r_iconst (pc2 := 935) dL_law_934 rfl ?_
  refine r_iadd (c := ((7 * c + 1 : Nat) : Int)) (pc2 := 936) dL_law_935 rfl (by omega) ?_
  refine r_sald (z := sc (7 * c + 1)) (pc2 := 937) dL_law_936 rfl hk2 (7 * c + 1) rfl (by omega) (by rw [hz2]) ?_
  refine r_cv1 (pc2 := 940) dL_law_937 rfl vL_115 (hK_317 hS2) (Nat.le_of_ble_eq_true rfl) (hC _ _ _ _ _ _ hm) ?_
  rintro _ M3 ⟨rfl, i3, s3⟩
  refine go_if2 (tgt := 1026) dL_law_940 (by decide) (fun _ => ?_) (fun q => absurd rfl q)
  exact tail.a i3 s3 hk hz
set_option maxHeartbeats 4000000 in
theorem lc_count {C : pCt} {Q : pQ} {M : pM} {c m L : Nat} {l5 l6 : Option Value} {sc : Nat → Int} (hC : ∀ kc ks z as M Q, Ct 340 kc ks z as M Q → C kc ks z as M Q) (hb : lwB sc c L M) (tail : lwT C Q sc c m L) : Go C Q yL_law cL_law (some .boolean) (m + 1) (6 * m + 6) 1001 [some (.ref 0), some (.ref 2), some (.ref 317), some (.ref 351), some (.int (iI ((7 * c : Nat) : Int))), l5, l6] [] M := by
  obtain ⟨hi, hc, hk, hz, hr, hL, hL2⟩ := hb
  have hS := hi.1
  refine r_aload1 (pc2 := 1002) dL_law_1001 rfl ?_
  refine r_aload0 (pc2 := 1003) dL_law_1002 rfl ?_
  refine r_iload4 (pc2 := 1005) dL_law_1003 rfl ?_
  refine r_iconst (pc2 := 1006) dL_law_1005 rfl ?_
  refine r_iadd (c := ((7 * c + 1 : Nat) : Int)) (pc2 := 1007) dL_law_1006 rfl (by omega) ?_
  refine r_sald (z := sc (7 * c + 1)) (pc2 := 1008) dL_law_1007 rfl hk (7 * c + 1) rfl (by omega) (by rw [hz]) ?_
  refine r_cv1 (pc2 := 1011) dL_law_1008 rfl vL_120 (hK_2 hS) (Nat.le_of_ble_eq_true rfl) (hC _ _ _ _ _ _ (pr_count hi (hr _))) ?_
  rintro _ M2 ⟨z, rfl, s2, hm⟩
  have hS2 : sOk M2.1 := by rw [s2.1]; exact hS
  have hk2 : M2.1.2.1 0 = (8, L) := by rw [s2.1]; exact hk
  have hz2 : M2.2.1 0 = sc := s2.2.trans hz
  show Go C Q yL_law cL_law (some .boolean) (m + 1) (6 * m + 6) 1011 [some (.ref 0), some (.ref 2), some (.ref 317), some (.ref 351), some (.int (iI ((7 * c : Nat) : Int))), l5, l6] [.int (iI z)] M2
  refine r_aload2 (pc2 := 1012) dL_law_1011 rfl ?_
  refine r_aload0 (pc2 := 1013) dL_law_1012 rfl ?_
  refine r_iload4 (pc2 := 1015) dL_law_1013 rfl ?_
  refine r_iconst (pc2 := 1016) dL_law_1015 rfl ?_
  refine r_iadd (c := ((7 * c + 1 : Nat) : Int)) (pc2 := 1017) dL_law_1016 rfl (by omega) ?_
  refine r_sald (z := sc (7 * c + 1)) (pc2 := 1018) dL_law_1017 rfl hk2 (7 * c + 1) rfl (by omega) (by rw [hz2]) ?_
  refine r_cv1 (pc2 := 1021) dL_law_1018 rfl vL_123 (hK_317 hS2) (Nat.le_of_ble_eq_true rfl) (hC _ _ _ _ _ _ hm) ?_
  rintro _ M3 ⟨rfl, i3, s3⟩
  refine go_if2 (tgt := 1026) dL_law_1021 (by decide) (fun _ => ?_) (fun q => absurd rfl q)
  exact tail.a i3 s3 hk hz
set_option maxHeartbeats 4000000 in
theorem lc_run {C : pCt} {Q : pQ} {M : pM} {c m L : Nat} {l5 l6 : Option Value} {sc : Nat → Int} (hC : ∀ kc ks z as M Q, Ct 340 kc ks z as M Q → C kc ks z as M Q) (hb : lwB sc c L M) (tail : lwT C Q sc c m L) : Go C Q yL_law cL_law (some .boolean) (m + 1) (6 * m + 6) 521 [some (.ref 0), some (.ref 2), some (.ref 317), some (.ref 351), some (.int (iI ((7 * c : Nat) : Int))), l5, l6] [] M := by
  obtain ⟨hi, hc, hk, hz, hr, hL, hL2⟩ := hb
  have hS := hi.1
  refine r_aload1 (pc2 := 522) dL_law_521 rfl ?_
  refine r_aload0 (pc2 := 523) dL_law_522 rfl ?_
  refine r_iload4 (pc2 := 525) dL_law_523 rfl ?_
  refine r_iconst (pc2 := 526) dL_law_525 rfl ?_
  refine r_iadd (c := ((7 * c + 1 : Nat) : Int)) (pc2 := 527) dL_law_526 rfl (by omega) ?_
  refine r_sald (z := sc (7 * c + 1)) (pc2 := 528) dL_law_527 rfl hk (7 * c + 1) rfl (by omega) (by rw [hz]) ?_
  refine r_aload0 (pc2 := 529) dL_law_528 rfl ?_
  refine r_iload4 (pc2 := 531) dL_law_529 rfl ?_
  refine r_iconst (pc2 := 532) dL_law_531 rfl ?_
  refine r_iadd (c := ((7 * c + 2 : Nat) : Int)) (pc2 := 533) dL_law_532 rfl (by omega) ?_
  refine r_sald (z := sc (7 * c + 2)) (pc2 := 534) dL_law_533 rfl hk (7 * c + 2) rfl (by omega) (by rw [hz]) ?_
  refine r_cv2 (pc2 := 537) dL_law_534 rfl vL_65 (hK_2 hS) (Nat.le_of_ble_eq_true rfl) (hC _ _ _ _ _ _ (pr_run hi hc (hr _) (hr _))) ?_
  rintro _ M2 ⟨z, rfl, s2, hm⟩
  have hS2 : sOk M2.1 := by rw [s2.1]; exact hS
  have hk2 : M2.1.2.1 0 = (8, L) := by rw [s2.1]; exact hk
  have hz2 : M2.2.1 0 = sc := s2.2.trans hz
  show Go C Q yL_law cL_law (some .boolean) (m + 1) (6 * m + 6) 537 [some (.ref 0), some (.ref 2), some (.ref 317), some (.ref 351), some (.int (iI ((7 * c : Nat) : Int))), l5, l6] [.int (iI z)] M2
  refine r_aload2 (pc2 := 538) dL_law_537 rfl ?_
  refine r_aload0 (pc2 := 539) dL_law_538 rfl ?_
  refine r_iload4 (pc2 := 541) dL_law_539 rfl ?_
  refine r_iconst (pc2 := 542) dL_law_541 rfl ?_
  refine r_iadd (c := ((7 * c + 1 : Nat) : Int)) (pc2 := 543) dL_law_542 rfl (by omega) ?_
  refine r_sald (z := sc (7 * c + 1)) (pc2 := 544) dL_law_543 rfl hk2 (7 * c + 1) rfl (by omega) (by rw [hz2]) ?_
  refine r_aload0 (pc2 := 545) dL_law_544 rfl ?_
  refine r_iload4 (pc2 := 547) dL_law_545 rfl ?_
  refine r_iconst (pc2 := 548) dL_law_547 rfl ?_
  refine r_iadd (c := ((7 * c + 2 : Nat) : Int)) (pc2 := 549) dL_law_548 rfl (by omega) ?_
  refine r_sald (z := sc (7 * c + 2)) (pc2 := 550) dL_law_549 rfl hk2 (7 * c + 2) rfl (by omega) (by rw [hz2]) ?_
  refine r_cv2 (pc2 := 553) dL_law_550 rfl vL_68 (hK_317 hS2) (Nat.le_of_ble_eq_true rfl) (hC _ _ _ _ _ _ hm) ?_
  rintro _ M3 ⟨rfl, i3, s3⟩
  refine go_if2 (tgt := 1026) dL_law_553 (by decide) (fun _ => ?_) (fun q => absurd rfl q)
  exact tail.a i3 s3 hk hz
set_option maxHeartbeats 4000000 in
theorem lc_shelf {C : pCt} {Q : pQ} {M : pM} {c m L : Nat} {l5 l6 : Option Value} {sc : Nat → Int} (hC : ∀ kc ks z as M Q, Ct 340 kc ks z as M Q → C kc ks z as M Q) (hb : lwB sc c L M) (tail : lwT C Q sc c m L) : Go C Q yL_law cL_law (some .boolean) (m + 1) (6 * m + 6) 620 [some (.ref 0), some (.ref 2), some (.ref 317), some (.ref 351), some (.int (iI ((7 * c : Nat) : Int))), l5, l6] [] M := by
  obtain ⟨hi, hc, hk, hz, hr, hL, hL2⟩ := hb
  have hS := hi.1
  obtain ⟨y, hy, hy0⟩ : ∃ y : Int, (y = 0 ∨ y = 1) ∧ ((sc (7 * c + 2) = 0 ∧ y = 0) ∨ (¬ sc (7 * c + 2) = 0 ∧ y = 1)) := by
    by_cases u : sc (7 * c + 2) = 0
    · exact ⟨0, Or.inl rfl, Or.inl ⟨u, rfl⟩⟩
    · exact ⟨1, Or.inr rfl, Or.inr ⟨u, rfl⟩⟩
  rcases hy0 with ⟨u, rfl⟩ | ⟨u, rfl⟩
  · skip
    refine r_aload1 (pc2 := 621) dL_law_620 rfl ?_
    refine r_aload0 (pc2 := 622) dL_law_621 rfl ?_
    refine r_iload4 (pc2 := 624) dL_law_622 rfl ?_
    refine r_iconst (pc2 := 625) dL_law_624 rfl ?_
    refine r_iadd (c := ((7 * c + 1 : Nat) : Int)) (pc2 := 626) dL_law_625 rfl (by omega) ?_
    refine r_sald (z := sc (7 * c + 1)) (pc2 := 627) dL_law_626 rfl hk (7 * c + 1) rfl (by omega) (by rw [hz]) ?_
    refine r_aload0 (pc2 := 628) dL_law_627 rfl ?_
    refine r_iload4 (pc2 := 630) dL_law_628 rfl ?_
    refine r_iconst (pc2 := 631) dL_law_630 rfl ?_
    refine r_iadd (c := ((7 * c + 2 : Nat) : Int)) (pc2 := 632) dL_law_631 rfl (by omega) ?_
    refine r_sald (z := sc (7 * c + 2)) (pc2 := 633) dL_law_632 rfl hk (7 * c + 2) rfl (by omega) (by rw [hz]) ?_
    refine r_ifeq (tgt := 640) (pc2 := 636) dL_law_633 rfl (by decide) (hr _) (fun _ => ?_) (fun h => absurd u h)
    refine r_iconst (pc2 := 641) dL_law_640 rfl ?_
    refine r_cv2 (pc2 := 644) dL_law_641 rfl vL_77 (hK_2 hS) (Nat.le_of_ble_eq_true rfl) (hC _ _ _ _ _ _ (pr_shelf hi (hr _) hy)) ?_
    rintro _ M2 ⟨z, rfl, s2, hm⟩
    have hS2 : sOk M2.1 := by rw [s2.1]; exact hS
    have hk2 : M2.1.2.1 0 = (8, L) := by rw [s2.1]; exact hk
    have hz2 : M2.2.1 0 = sc := s2.2.trans hz
    show Go C Q yL_law cL_law (some .boolean) (m + 1) (6 * m + 6) 644 [some (.ref 0), some (.ref 2), some (.ref 317), some (.ref 351), some (.int (iI ((7 * c : Nat) : Int))), l5, l6] [.int (iI z)] M2
    refine r_aload2 (pc2 := 645) dL_law_644 rfl ?_
    refine r_aload0 (pc2 := 646) dL_law_645 rfl ?_
    refine r_iload4 (pc2 := 648) dL_law_646 rfl ?_
    refine r_iconst (pc2 := 649) dL_law_648 rfl ?_
    refine r_iadd (c := ((7 * c + 1 : Nat) : Int)) (pc2 := 650) dL_law_649 rfl (by omega) ?_
    refine r_sald (z := sc (7 * c + 1)) (pc2 := 651) dL_law_650 rfl hk2 (7 * c + 1) rfl (by omega) (by rw [hz2]) ?_
    refine r_aload0 (pc2 := 652) dL_law_651 rfl ?_
    refine r_iload4 (pc2 := 654) dL_law_652 rfl ?_
    refine r_iconst (pc2 := 655) dL_law_654 rfl ?_
    refine r_iadd (c := ((7 * c + 2 : Nat) : Int)) (pc2 := 656) dL_law_655 rfl (by omega) ?_
    refine r_sald (z := sc (7 * c + 2)) (pc2 := 657) dL_law_656 rfl hk2 (7 * c + 2) rfl (by omega) (by rw [hz2]) ?_
    refine r_ifeq (tgt := 664) (pc2 := 660) dL_law_657 rfl (by decide) (hr _) (fun _ => ?_) (fun h => absurd u h)
    refine r_iconst (pc2 := 665) dL_law_664 rfl ?_
    refine r_cv2 (pc2 := 668) dL_law_665 rfl vL_81 (hK_317 hS2) (Nat.le_of_ble_eq_true rfl) (hC _ _ _ _ _ _ hm) ?_
    rintro _ M3 ⟨rfl, i3, s3⟩
    refine go_if2 (tgt := 1026) dL_law_668 (by decide) (fun _ => ?_) (fun q => absurd rfl q)
    exact tail.a i3 s3 hk hz
  · skip
    refine r_aload1 (pc2 := 621) dL_law_620 rfl ?_
    refine r_aload0 (pc2 := 622) dL_law_621 rfl ?_
    refine r_iload4 (pc2 := 624) dL_law_622 rfl ?_
    refine r_iconst (pc2 := 625) dL_law_624 rfl ?_
    refine r_iadd (c := ((7 * c + 1 : Nat) : Int)) (pc2 := 626) dL_law_625 rfl (by omega) ?_
    refine r_sald (z := sc (7 * c + 1)) (pc2 := 627) dL_law_626 rfl hk (7 * c + 1) rfl (by omega) (by rw [hz]) ?_
    refine r_aload0 (pc2 := 628) dL_law_627 rfl ?_
    refine r_iload4 (pc2 := 630) dL_law_628 rfl ?_
    refine r_iconst (pc2 := 631) dL_law_630 rfl ?_
    refine r_iadd (c := ((7 * c + 2 : Nat) : Int)) (pc2 := 632) dL_law_631 rfl (by omega) ?_
    refine r_sald (z := sc (7 * c + 2)) (pc2 := 633) dL_law_632 rfl hk (7 * c + 2) rfl (by omega) (by rw [hz]) ?_
    refine r_ifeq (tgt := 640) (pc2 := 636) dL_law_633 rfl (by decide) (hr _) (fun h => absurd h u) (fun _ => ?_)
    refine r_iconst (pc2 := 637) dL_law_636 rfl ?_
    refine r_goto (tgt := 641) dL_law_637 (by decide) ?_
    refine r_cv2 (pc2 := 644) dL_law_641 rfl vL_77 (hK_2 hS) (Nat.le_of_ble_eq_true rfl) (hC _ _ _ _ _ _ (pr_shelf hi (hr _) hy)) ?_
    rintro _ M2 ⟨z, rfl, s2, hm⟩
    have hS2 : sOk M2.1 := by rw [s2.1]; exact hS
    have hk2 : M2.1.2.1 0 = (8, L) := by rw [s2.1]; exact hk
    have hz2 : M2.2.1 0 = sc := s2.2.trans hz
    show Go C Q yL_law cL_law (some .boolean) (m + 1) (6 * m + 6) 644 [some (.ref 0), some (.ref 2), some (.ref 317), some (.ref 351), some (.int (iI ((7 * c : Nat) : Int))), l5, l6] [.int (iI z)] M2
    refine r_aload2 (pc2 := 645) dL_law_644 rfl ?_
    refine r_aload0 (pc2 := 646) dL_law_645 rfl ?_
    refine r_iload4 (pc2 := 648) dL_law_646 rfl ?_
    refine r_iconst (pc2 := 649) dL_law_648 rfl ?_
    refine r_iadd (c := ((7 * c + 1 : Nat) : Int)) (pc2 := 650) dL_law_649 rfl (by omega) ?_
    refine r_sald (z := sc (7 * c + 1)) (pc2 := 651) dL_law_650 rfl hk2 (7 * c + 1) rfl (by omega) (by rw [hz2]) ?_
    refine r_aload0 (pc2 := 652) dL_law_651 rfl ?_
    refine r_iload4 (pc2 := 654) dL_law_652 rfl ?_
    refine r_iconst (pc2 := 655) dL_law_654 rfl ?_
    refine r_iadd (c := ((7 * c + 2 : Nat) : Int)) (pc2 := 656) dL_law_655 rfl (by omega) ?_
    refine r_sald (z := sc (7 * c + 2)) (pc2 := 657) dL_law_656 rfl hk2 (7 * c + 2) rfl (by omega) (by rw [hz2]) ?_
    refine r_ifeq (tgt := 664) (pc2 := 660) dL_law_657 rfl (by decide) (hr _) (fun h => absurd h u) (fun _ => ?_)
    refine r_iconst (pc2 := 661) dL_law_660 rfl ?_
    refine r_goto (tgt := 665) dL_law_661 (by decide) ?_
    refine r_cv2 (pc2 := 668) dL_law_665 rfl vL_81 (hK_317 hS2) (Nat.le_of_ble_eq_true rfl) (hC _ _ _ _ _ _ hm) ?_
    rintro _ M3 ⟨rfl, i3, s3⟩
    refine go_if2 (tgt := 1026) dL_law_668 (by decide) (fun _ => ?_) (fun q => absurd rfl q)
    exact tail.a i3 s3 hk hz
