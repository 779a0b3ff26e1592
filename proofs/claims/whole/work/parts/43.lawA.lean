section
variable {E : jE} {C : jC} {Q : State → Prop} {k n b L0 : Nat} {xs : Nat → Int32} {ad qh : Nat → Nat → Nat} {q : Nat → Nat} {i c : Int} {S H : Nat → Nat → Int → Int} {P : Nat → Int → Int} {v : Int → Int} {F : Nat → Int → Int}
theorem kL_X7_lay : jKv mL 13 yX7_lay wsX7_lay rmX7_lay 3 := ⟨gL_law_X7_lay, ⟨_, _, _, _, rfl, by decide⟩, by decide +kernel, rfl, rfl, by decide⟩
theorem kL_X8_lay : jKv mL 17 yX8_lay wsX8_lay rmX8_lay 3 := ⟨gL_law_X8_lay, ⟨_, _, _, _, rfl, by decide⟩, by decide +kernel, rfl, rfl, by decide⟩
set_option maxRecDepth 100000 in
set_option maxHeartbeats 4000000 in
theorem law_lay (ok : lOk C b L0 xs i) (hk : k ≤ 600000 ∧ n ≤ 7302250) (hc : c ≤ 511) (go : lGo E C Q k n b ad qh q i (c + 1)) (h : Inv c S H P v F) : jG mL E C Q k n 148 [(3, .int (jI i)), (2, .ref (q 0)), (1, .ref (ad 7 0)), (0, .ref b)] [] (jFl [wEye E ad qh S H P v, wModel E q F]) := by
  obtain ⟨hX, hbl, hbA, hL0, hi0, hi6⟩ := ok
  have hL : L0 < 2147483648 := by omega
  have hc2 : c ≤ 512 := by omega
  obtain ⟨hx, hr, hi5, hiv, hn, h2⟩ := Inv_x h hc2
  have h4 : ∀ i, 0 ≤ F 4 i ∧ F 4 i < 1000 := h.2.2.2.2.2.2.2
  refine j_aload_n 2 149 dL_law_148 rfl rfl ?_
  refine j_aload_n 3 150 dL_law_149 rfl rfl ?_
  refine j_iload_n 0 151 dL_law_150 rfl rfl ?_
  refine j_iconst 152 dL_law_151 rfl ?_
  refine j_iadd 153 dL_law_152 rfl ?_
  refine j_sld 154 hX hbl hbA hL (by omega) dL_law_153 rfl ?_
  refine j_aload_n 3 155 dL_law_154 rfl rfl ?_
  refine j_iload_n 0 156 dL_law_155 rfl rfl ?_
  refine j_iconst 157 dL_law_156 rfl ?_
  refine j_iadd 158 dL_law_157 rfl ?_
  refine j_sld 159 hX hbl hbA hL (by omega) dL_law_158 rfl ?_
  refine j_aload_n 3 160 dL_law_159 rfl rfl ?_
  refine j_iload_n 0 161 dL_law_160 rfl rfl ?_
  refine j_iconst 162 dL_law_161 rfl ?_
  refine j_iadd 163 dL_law_162 rfl ?_
  refine j_sld 164 hX hbl hbA hL (by omega) dL_law_163 rfl ?_
  refine j_callViB (wcs := [_]) (cs := [_]) 0 0 [0] 167 [_, _] (c_X7_lay E ad qh S H P v _ _ _ h.1 (sX_rng _ _) (sX_rng _ _) (sX_rng _ _) ) (jFl_1 _) (jFl_1 _) rfl kL_X7_lay rfl rfl rfl rfl rfl rfl rfl (Nat.le_of_ble_eq_true rfl) hk dL_law_164 rfl ?_
  refine j_aload_n 1 168 dL_law_167 rfl rfl ?_
  refine j_aload_n 3 169 dL_law_168 rfl rfl ?_
  refine j_iload_n 0 170 dL_law_169 rfl rfl ?_
  refine j_iconst 171 dL_law_170 rfl ?_
  refine j_iadd 172 dL_law_171 rfl ?_
  refine j_sld 173 hX hbl hbA hL (by omega) dL_law_172 rfl ?_
  refine j_aload_n 3 174 dL_law_173 rfl rfl ?_
  refine j_iload_n 0 175 dL_law_174 rfl rfl ?_
  refine j_iconst 176 dL_law_175 rfl ?_
  refine j_iadd 177 dL_law_176 rfl ?_
  refine j_sld 178 hX hbl hbA hL (by omega) dL_law_177 rfl ?_
  refine j_aload_n 3 179 dL_law_178 rfl rfl ?_
  refine j_iload_n 0 180 dL_law_179 rfl rfl ?_
  refine j_iconst 181 dL_law_180 rfl ?_
  refine j_iadd 182 dL_law_181 rfl ?_
  refine j_sld 183 hX hbl hbA hL (by omega) dL_law_182 rfl ?_
  refine j_callViB (wcs := [_]) (cs := [_]) 1 0 [1] 186 [_, _] (c_X8_lay E q F (S 0) _ _ _ hn hx hr (sX_rng _ _) (sX_rng _ _) (sX_rng _ _)) (jFl_1 _) (jFl_1 _) rfl kL_X8_lay rfl rfl rfl rfl rfl rfl rfl (Nat.le_of_ble_eq_true rfl) hk dL_law_183 rfl ?_
  refine j_same 881 dL_law_186 (by decide) (Inv_lay h _ _ _).1 ?_
  exact law_nextC go (Inv_lay h _ _ _).2
theorem kL_X7_pass : jKv mL 18 yX7_pass wsX7_pass rmX7_pass 1 := ⟨gL_law_X7_pass, ⟨_, _, _, _, rfl, by decide⟩, by decide +kernel, rfl, rfl, by decide⟩
theorem kL_X8_pass : jKv mL 22 yX8_pass wsX8_pass rmX8_pass 1 := ⟨gL_law_X8_pass, ⟨_, _, _, _, rfl, by decide⟩, by decide +kernel, rfl, rfl, by decide⟩
set_option maxRecDepth 100000 in
set_option maxHeartbeats 4000000 in
theorem law_pass (ok : lOk C b L0 xs i) (hk : k ≤ 600000 ∧ n ≤ 7302250) (hc : c ≤ 511) (go : lGo E C Q k n b ad qh q i (c + 1)) (h : Inv c S H P v F) : jG mL E C Q k n 191 [(3, .int (jI i)), (2, .ref (q 0)), (1, .ref (ad 7 0)), (0, .ref b)] [] (jFl [wEye E ad qh S H P v, wModel E q F]) := by
  obtain ⟨hX, hbl, hbA, hL0, hi0, hi6⟩ := ok
  have hL : L0 < 2147483648 := by omega
  have hc2 : c ≤ 512 := by omega
  obtain ⟨hx, hr, hi5, hiv, hn, h2⟩ := Inv_x h hc2
  have h4 : ∀ i, 0 ≤ F 4 i ∧ F 4 i < 1000 := h.2.2.2.2.2.2.2
  refine j_aload_n 2 192 dL_law_191 rfl rfl ?_
  refine j_aload_n 3 193 dL_law_192 rfl rfl ?_
  refine j_iload_n 0 194 dL_law_193 rfl rfl ?_
  refine j_iconst 195 dL_law_194 rfl ?_
  refine j_iadd 196 dL_law_195 rfl ?_
  refine j_sld 197 hX hbl hbA hL (by omega) dL_law_196 rfl ?_
  refine j_callViB (wcs := [_]) (cs := [_]) 0 0 [0] 200 [_, _] (c_X7_pass E ad qh S H P v _ h.1 (sX_rng _ _) hi5) (jFl_1 _) (jFl_1 _) rfl kL_X7_pass rfl rfl rfl rfl rfl rfl rfl (Nat.le_of_ble_eq_true rfl) hk dL_law_197 rfl ?_
  refine j_aload_n 1 201 dL_law_200 rfl rfl ?_
  refine j_aload_n 3 202 dL_law_201 rfl rfl ?_
  refine j_iload_n 0 203 dL_law_202 rfl rfl ?_
  refine j_iconst 204 dL_law_203 rfl ?_
  refine j_iadd 205 dL_law_204 rfl ?_
  refine j_sld 206 hX hbl hbA hL (by omega) dL_law_205 rfl ?_
  refine j_callViB (wcs := [_]) (cs := [_]) 1 0 [1] 209 [_, _] (c_X8_pass E q F (S 0) _ hn hx hr hi5 (sX_rng _ _)) (jFl_1 _) (jFl_1 _) rfl kL_X8_pass rfl rfl rfl rfl rfl rfl rfl (Nat.le_of_ble_eq_true rfl) hk dL_law_206 rfl ?_
  refine j_same 881 dL_law_209 (by decide) (Inv_pass h hc2 _).1 ?_
  exact law_nextC go (Inv_pass h hc2 _).2
theorem kL_X7_rule : jKv mL 23 yX7_rule wsX7_rule rmX7_rule 5 := ⟨gL_law_X7_rule, ⟨_, _, _, _, rfl, by decide⟩, by decide +kernel, rfl, rfl, by decide⟩
theorem kL_X8_rule : jKv mL 27 yX8_rule wsX8_rule rmX8_rule 5 := ⟨gL_law_X8_rule, ⟨_, _, _, _, rfl, by decide⟩, by decide +kernel, rfl, rfl, by decide⟩
set_option maxRecDepth 100000 in
set_option maxHeartbeats 4000000 in
theorem law_rule (ok : lOk C b L0 xs i) (hk : k ≤ 600000 ∧ n ≤ 7302250) (hc : c ≤ 511) (go : lGo E C Q k n b ad qh q i (c + 1)) (h : Inv c S H P v F) : jG mL E C Q k n 214 [(3, .int (jI i)), (2, .ref (q 0)), (1, .ref (ad 7 0)), (0, .ref b)] [] (jFl [wEye E ad qh S H P v, wModel E q F]) := by
  obtain ⟨hX, hbl, hbA, hL0, hi0, hi6⟩ := ok
  have hL : L0 < 2147483648 := by omega
  have hc2 : c ≤ 512 := by omega
  obtain ⟨hx, hr, hi5, hiv, hn, h2⟩ := Inv_x h hc2
  have h4 : ∀ i, 0 ≤ F 4 i ∧ F 4 i < 1000 := h.2.2.2.2.2.2.2
  refine j_aload_n 2 215 dL_law_214 rfl rfl ?_
  refine j_aload_n 3 216 dL_law_215 rfl rfl ?_
  refine j_iload_n 0 217 dL_law_216 rfl rfl ?_
  refine j_iconst 218 dL_law_217 rfl ?_
  refine j_iadd 219 dL_law_218 rfl ?_
  refine j_sld 220 hX hbl hbA hL (by omega) dL_law_219 rfl ?_
  refine j_aload_n 3 221 dL_law_220 rfl rfl ?_
  refine j_iload_n 0 222 dL_law_221 rfl rfl ?_
  refine j_iconst 223 dL_law_222 rfl ?_
  refine j_iadd 224 dL_law_223 rfl ?_
  refine j_sld 225 hX hbl hbA hL (by omega) dL_law_224 rfl ?_
  refine j_aload_n 3 226 dL_law_225 rfl rfl ?_
  refine j_iload_n 0 227 dL_law_226 rfl rfl ?_
  refine j_iconst 228 dL_law_227 rfl ?_
  refine j_iadd 229 dL_law_228 rfl ?_
  refine j_sld 230 hX hbl hbA hL (by omega) dL_law_229 rfl ?_
  refine j_aload_n 3 231 dL_law_230 rfl rfl ?_
  refine j_iload_n 0 232 dL_law_231 rfl rfl ?_
  refine j_iconst 233 dL_law_232 rfl ?_
  refine j_iadd 234 dL_law_233 rfl ?_
  refine j_sld 235 hX hbl hbA hL (by omega) dL_law_234 rfl ?_
  refine j_aload_n 3 236 dL_law_235 rfl rfl ?_
  refine j_iload_n 0 237 dL_law_236 rfl rfl ?_
  refine j_iconst 238 dL_law_237 rfl ?_
  refine j_iadd 239 dL_law_238 rfl ?_
  refine j_sld 240 hX hbl hbA hL (by omega) dL_law_239 rfl ?_
  refine j_callViB (wcs := [_]) (cs := [_]) 0 0 [0] 243 [_, _] (c_X7_rule E ad qh S H P v _ _ _ _ _ h.1 (sX_rng _ _) (sX_rng _ _) (sX_rng _ _) (sX_rng _ _) (sX_rng _ _) ) (jFl_1 _) (jFl_1 _) rfl kL_X7_rule rfl rfl rfl rfl rfl rfl rfl (Nat.le_of_ble_eq_true rfl) hk dL_law_240 rfl ?_
  refine j_aload_n 1 244 dL_law_243 rfl rfl ?_
  refine j_aload_n 3 245 dL_law_244 rfl rfl ?_
  refine j_iload_n 0 246 dL_law_245 rfl rfl ?_
  refine j_iconst 247 dL_law_246 rfl ?_
  refine j_iadd 248 dL_law_247 rfl ?_
  refine j_sld 249 hX hbl hbA hL (by omega) dL_law_248 rfl ?_
  refine j_aload_n 3 250 dL_law_249 rfl rfl ?_
  refine j_iload_n 0 251 dL_law_250 rfl rfl ?_
  refine j_iconst 252 dL_law_251 rfl ?_
  refine j_iadd 253 dL_law_252 rfl ?_
  refine j_sld 254 hX hbl hbA hL (by omega) dL_law_253 rfl ?_
  refine j_aload_n 3 255 dL_law_254 rfl rfl ?_
  refine j_iload_n 0 256 dL_law_255 rfl rfl ?_
  refine j_iconst 257 dL_law_256 rfl ?_
  refine j_iadd 258 dL_law_257 rfl ?_
  refine j_sld 259 hX hbl hbA hL (by omega) dL_law_258 rfl ?_
  refine j_aload_n 3 260 dL_law_259 rfl rfl ?_
  refine j_iload_n 0 261 dL_law_260 rfl rfl ?_
  refine j_iconst 262 dL_law_261 rfl ?_
  refine j_iadd 263 dL_law_262 rfl ?_
  refine j_sld 264 hX hbl hbA hL (by omega) dL_law_263 rfl ?_
  refine j_aload_n 3 265 dL_law_264 rfl rfl ?_
  refine j_iload_n 0 266 dL_law_265 rfl rfl ?_
  refine j_iconst 267 dL_law_266 rfl ?_
  refine j_iadd 268 dL_law_267 rfl ?_
  refine j_sld 269 hX hbl hbA hL (by omega) dL_law_268 rfl ?_
  refine j_callViB (wcs := [_]) (cs := [_]) 1 0 [1] 272 [_, _] (c_X8_rule E q F (S 0) _ _ _ _ _ hn hx hr (sX_rng _ _) (sX_rng _ _) (sX_rng _ _) (sX_rng _ _) (sX_rng _ _)) (jFl_1 _) (jFl_1 _) rfl kL_X8_rule rfl rfl rfl rfl rfl rfl rfl (Nat.le_of_ble_eq_true rfl) hk dL_law_269 rfl ?_
  refine j_same 881 dL_law_272 (by decide) (Inv_rule h _ _ _ _ _).1 ?_
  exact law_nextC go (Inv_rule h _ _ _ _ _).2
theorem kL_X7_drop : jKv mL 28 yX7_drop wsX7_drop rmX7_drop 1 := ⟨gL_law_X7_drop, ⟨_, _, _, _, rfl, by decide⟩, by decide +kernel, rfl, rfl, by decide⟩
theorem kL_X8_drop : jKv mL 31 yX8_drop wsX8_drop rmX8_drop 1 := ⟨gL_law_X8_drop, ⟨_, _, _, _, rfl, by decide⟩, by decide +kernel, rfl, rfl, by decide⟩
set_option maxRecDepth 100000 in
set_option maxHeartbeats 4000000 in
theorem law_drop (ok : lOk C b L0 xs i) (hk : k ≤ 600000 ∧ n ≤ 7302250) (hc : c ≤ 511) (go : lGo E C Q k n b ad qh q i (c + 1)) (h : Inv c S H P v F) : jG mL E C Q k n 277 [(3, .int (jI i)), (2, .ref (q 0)), (1, .ref (ad 7 0)), (0, .ref b)] [] (jFl [wEye E ad qh S H P v, wModel E q F]) := by
  obtain ⟨hX, hbl, hbA, hL0, hi0, hi6⟩ := ok
  have hL : L0 < 2147483648 := by omega
  have hc2 : c ≤ 512 := by omega
  obtain ⟨hx, hr, hi5, hiv, hn, h2⟩ := Inv_x h hc2
  have h4 : ∀ i, 0 ≤ F 4 i ∧ F 4 i < 1000 := h.2.2.2.2.2.2.2
  refine j_aload_n 2 278 dL_law_277 rfl rfl ?_
  refine j_aload_n 3 279 dL_law_278 rfl rfl ?_
  refine j_iload_n 0 280 dL_law_279 rfl rfl ?_
  refine j_iconst 281 dL_law_280 rfl ?_
  refine j_iadd 282 dL_law_281 rfl ?_
  refine j_sld 283 hX hbl hbA hL (by omega) dL_law_282 rfl ?_
  refine j_callViB (wcs := [_]) (cs := [_]) 0 0 [0] 286 [_, _] (c_X7_drop E ad qh S H P v _ h.1 (sX_rng _ _) ) (jFl_1 _) (jFl_1 _) rfl kL_X7_drop rfl rfl rfl rfl rfl rfl rfl (Nat.le_of_ble_eq_true rfl) hk dL_law_283 rfl ?_
  refine j_aload_n 1 287 dL_law_286 rfl rfl ?_
  refine j_aload_n 3 288 dL_law_287 rfl rfl ?_
  refine j_iload_n 0 289 dL_law_288 rfl rfl ?_
  refine j_iconst 290 dL_law_289 rfl ?_
  refine j_iadd 291 dL_law_290 rfl ?_
  refine j_sld 292 hX hbl hbA hL (by omega) dL_law_291 rfl ?_
  refine j_callViB (wcs := [_]) (cs := [_]) 1 0 [1] 295 [_, _] (c_X8_drop E q F (S 0) _ hn hx hr (sX_rng _ _)) (jFl_1 _) (jFl_1 _) rfl kL_X8_drop rfl rfl rfl rfl rfl rfl rfl (Nat.le_of_ble_eq_true rfl) hk dL_law_292 rfl ?_
  refine j_same 881 dL_law_295 (by decide) (Inv_drop h _).1 ?_
  exact law_nextC go (Inv_drop h _).2
theorem kL_X7_water : jKv mL 32 yX7_water wsX7_water rmX7_water 1 := ⟨gL_law_X7_water, ⟨_, _, _, _, rfl, by decide⟩, by decide +kernel, rfl, rfl, by decide⟩
theorem kL_X8_water : jKv mL 35 yX8_water wsX8_water rmX8_water 1 := ⟨gL_law_X8_water, ⟨_, _, _, _, rfl, by decide⟩, by decide +kernel, rfl, rfl, by decide⟩
set_option maxRecDepth 100000 in
set_option maxHeartbeats 4000000 in
theorem law_water (ok : lOk C b L0 xs i) (hk : k ≤ 600000 ∧ n ≤ 7302250) (hc : c ≤ 511) (go : lGo E C Q k n b ad qh q i (c + 1)) (h : Inv c S H P v F) : jG mL E C Q k n 300 [(3, .int (jI i)), (2, .ref (q 0)), (1, .ref (ad 7 0)), (0, .ref b)] [] (jFl [wEye E ad qh S H P v, wModel E q F]) := by
  obtain ⟨hX, hbl, hbA, hL0, hi0, hi6⟩ := ok
  have hL : L0 < 2147483648 := by omega
  have hc2 : c ≤ 512 := by omega
  obtain ⟨hx, hr, hi5, hiv, hn, h2⟩ := Inv_x h hc2
  have h4 : ∀ i, 0 ≤ F 4 i ∧ F 4 i < 1000 := h.2.2.2.2.2.2.2
  refine j_aload_n 2 301 dL_law_300 rfl rfl ?_
  refine j_aload_n 3 302 dL_law_301 rfl rfl ?_
  refine j_iload_n 0 303 dL_law_302 rfl rfl ?_
  refine j_iconst 304 dL_law_303 rfl ?_
  refine j_iadd 305 dL_law_304 rfl ?_
  refine j_sld 306 hX hbl hbA hL (by omega) dL_law_305 rfl ?_
  refine j_callViB (wcs := [_]) (cs := [_]) 0 0 [0] 309 [_, _] (c_X7_water E ad qh S H P v _ h.1 (sX_rng _ _) ) (jFl_1 _) (jFl_1 _) rfl kL_X7_water rfl rfl rfl rfl rfl rfl rfl (Nat.le_of_ble_eq_true rfl) hk dL_law_306 rfl ?_
  refine j_aload_n 1 310 dL_law_309 rfl rfl ?_
  refine j_aload_n 3 311 dL_law_310 rfl rfl ?_
  refine j_iload_n 0 312 dL_law_311 rfl rfl ?_
  refine j_iconst 313 dL_law_312 rfl ?_
  refine j_iadd 314 dL_law_313 rfl ?_
  refine j_sld 315 hX hbl hbA hL (by omega) dL_law_314 rfl ?_
  refine j_callViB (wcs := [_]) (cs := [_]) 1 0 [1] 318 [_, _] (c_X8_water E q F (S 0) _ hn hx hr (sX_rng _ _)) (jFl_1 _) (jFl_1 _) rfl kL_X8_water rfl rfl rfl rfl rfl rfl rfl (Nat.le_of_ble_eq_true rfl) hk dL_law_315 rfl ?_
  refine j_same 881 dL_law_318 (by decide) (Inv_water h _).1 ?_
  exact law_nextC go (Inv_water h _).2
theorem kL_X7_empty : jKv mL 36 yX7_empty wsX7_empty rmX7_empty 1 := ⟨gL_law_X7_empty, ⟨_, _, _, _, rfl, by decide⟩, by decide +kernel, rfl, rfl, by decide⟩
theorem kL_X8_empty : jKv mL 39 yX8_empty wsX8_empty rmX8_empty 1 := ⟨gL_law_X8_empty, ⟨_, _, _, _, rfl, by decide⟩, by decide +kernel, rfl, rfl, by decide⟩
set_option maxRecDepth 100000 in
set_option maxHeartbeats 4000000 in
theorem law_empty (ok : lOk C b L0 xs i) (hk : k ≤ 600000 ∧ n ≤ 7302250) (hc : c ≤ 511) (go : lGo E C Q k n b ad qh q i (c + 1)) (h : Inv c S H P v F) : jG mL E C Q k n 323 [(3, .int (jI i)), (2, .ref (q 0)), (1, .ref (ad 7 0)), (0, .ref b)] [] (jFl [wEye E ad qh S H P v, wModel E q F]) := by
  obtain ⟨hX, hbl, hbA, hL0, hi0, hi6⟩ := ok
  have hL : L0 < 2147483648 := by omega
  have hc2 : c ≤ 512 := by omega
  obtain ⟨hx, hr, hi5, hiv, hn, h2⟩ := Inv_x h hc2
  have h4 : ∀ i, 0 ≤ F 4 i ∧ F 4 i < 1000 := h.2.2.2.2.2.2.2
  refine j_aload_n 2 324 dL_law_323 rfl rfl ?_
  refine j_aload_n 3 325 dL_law_324 rfl rfl ?_
  refine j_iload_n 0 326 dL_law_325 rfl rfl ?_
  refine j_iconst 327 dL_law_326 rfl ?_
  refine j_iadd 328 dL_law_327 rfl ?_
  refine j_sld 329 hX hbl hbA hL (by omega) dL_law_328 rfl ?_
  refine j_callViB (wcs := [_]) (cs := [_]) 0 0 [0] 332 [_, _] (c_X7_empty E ad qh S H P v _ h.1 (sX_rng _ _) ) (jFl_1 _) (jFl_1 _) rfl kL_X7_empty rfl rfl rfl rfl rfl rfl rfl (Nat.le_of_ble_eq_true rfl) hk dL_law_329 rfl ?_
  refine j_aload_n 1 333 dL_law_332 rfl rfl ?_
  refine j_aload_n 3 334 dL_law_333 rfl rfl ?_
  refine j_iload_n 0 335 dL_law_334 rfl rfl ?_
  refine j_iconst 336 dL_law_335 rfl ?_
  refine j_iadd 337 dL_law_336 rfl ?_
  refine j_sld 338 hX hbl hbA hL (by omega) dL_law_337 rfl ?_
  refine j_callViB (wcs := [_]) (cs := [_]) 1 0 [1] 341 [_, _] (c_X8_empty E q F (S 0) _ hn hx hr (sX_rng _ _)) (jFl_1 _) (jFl_1 _) rfl kL_X8_empty rfl rfl rfl rfl rfl rfl rfl (Nat.le_of_ble_eq_true rfl) hk dL_law_338 rfl ?_
  refine j_same 881 dL_law_341 (by decide) (Inv_empty h _).1 ?_
  exact law_nextC go (Inv_empty h _).2
theorem kL_X7_set : jKv mL 40 yX7_set wsX7_set rmX7_set 2 := ⟨gL_law_X7_set, ⟨_, _, _, _, rfl, by decide⟩, by decide +kernel, rfl, rfl, by decide⟩
theorem kL_X8_set : jKv mL 44 yX8_set wsX8_set rmX8_set 2 := ⟨gL_law_X8_set, ⟨_, _, _, _, rfl, by decide⟩, by decide +kernel, rfl, rfl, by decide⟩
set_option maxRecDepth 100000 in
set_option maxHeartbeats 4000000 in
theorem law_set (hT2 : jT2 (jcA C) (jcS C)) (ok : lOk C b L0 xs i) (hk : k ≤ 600000 ∧ n ≤ 7302250) (hc : c ≤ 511) (go : lGo E C Q k n b ad qh q i (c + 1)) (h : Inv c S H P v F) : jG mL E C Q k n 346 [(3, .int (jI i)), (2, .ref (q 0)), (1, .ref (ad 7 0)), (0, .ref b)] [] (jFl [wEye E ad qh S H P v, wModel E q F]) := by
  obtain ⟨hX, hbl, hbA, hL0, hi0, hi6⟩ := ok
  have hL : L0 < 2147483648 := by omega
  have hc2 : c ≤ 512 := by omega
  obtain ⟨hx, hr, hi5, hiv, hn, h2⟩ := Inv_x h hc2
  have h4 : ∀ i, 0 ≤ F 4 i ∧ F 4 i < 1000 := h.2.2.2.2.2.2.2
  refine j_aload_n 2 347 dL_law_346 rfl rfl ?_
  refine j_aload_n 3 348 dL_law_347 rfl rfl ?_
  refine j_iload_n 0 349 dL_law_348 rfl rfl ?_
  refine j_iconst 350 dL_law_349 rfl ?_
  refine j_iadd 351 dL_law_350 rfl ?_
  refine j_sld 352 hX hbl hbA hL (by omega) dL_law_351 rfl ?_
  refine j_aload_n 3 353 dL_law_352 rfl rfl ?_
  refine j_iload_n 0 354 dL_law_353 rfl rfl ?_
  refine j_iconst 355 dL_law_354 rfl ?_
  refine j_iadd 356 dL_law_355 rfl ?_
  refine j_sld 357 hX hbl hbA hL (by omega) dL_law_356 rfl ?_
  refine j_callSetB (wcs := [_]) (cs := [_]) 0 0 [0] 360 [_, _] hT2 (c_X7_set E ad qh S H P v _ _ h.1 (sX_rng _ _) (sX_rng _ _) ) (jFl_1 _) (jFl_1 _) rfl kL_X7_set rfl rfl rfl rfl rfl rfl rfl (Nat.le_of_ble_eq_true rfl) hk dL_law_357 rfl ?_
  refine j_aload_n 1 361 dL_law_360 rfl rfl ?_
  refine j_aload_n 3 362 dL_law_361 rfl rfl ?_
  refine j_iload_n 0 363 dL_law_362 rfl rfl ?_
  refine j_iconst 364 dL_law_363 rfl ?_
  refine j_iadd 365 dL_law_364 rfl ?_
  refine j_sld 366 hX hbl hbA hL (by omega) dL_law_365 rfl ?_
  refine j_aload_n 3 367 dL_law_366 rfl rfl ?_
  refine j_iload_n 0 368 dL_law_367 rfl rfl ?_
  refine j_iconst 369 dL_law_368 rfl ?_
  refine j_iadd 370 dL_law_369 rfl ?_
  refine j_sld 371 hX hbl hbA hL (by omega) dL_law_370 rfl ?_
  refine j_callViB (wcs := [_]) (cs := [_]) 1 0 [1] 374 [_, _] (c_X8_set E q F (S 0) _ _ hn hx hr (sX_rng _ _) (sX_rng _ _)) (jFl_1 _) (jFl_1 _) rfl kL_X8_set rfl rfl rfl rfl rfl rfl rfl (Nat.le_of_ble_eq_true rfl) hk dL_law_371 rfl ?_
  refine j_same 881 dL_law_374 (by decide) (Inv_set h _ _).1 ?_
  exact law_nextC go (Inv_set h _ _).2
theorem kL_X7_append : jKv mL 45 yX7_append wsX7_append rmX7_append 1 := ⟨gL_law_X7_append, ⟨_, _, _, _, rfl, by decide⟩, by decide +kernel, rfl, rfl, by decide⟩
theorem kL_X8_append : jKv mL 48 yX8_append wsX8_append rmX8_append 1 := ⟨gL_law_X8_append, ⟨_, _, _, _, rfl, by decide⟩, by decide +kernel, rfl, rfl, by decide⟩
set_option maxRecDepth 100000 in
set_option maxHeartbeats 4000000 in
theorem law_append (ok : lOk C b L0 xs i) (hk : k ≤ 600000 ∧ n ≤ 7302250) (hc : c ≤ 511) (go : lGo E C Q k n b ad qh q i (c + 1)) (h : Inv c S H P v F) : jG mL E C Q k n 379 [(3, .int (jI i)), (2, .ref (q 0)), (1, .ref (ad 7 0)), (0, .ref b)] [] (jFl [wEye E ad qh S H P v, wModel E q F]) := by
  obtain ⟨hX, hbl, hbA, hL0, hi0, hi6⟩ := ok
  have hL : L0 < 2147483648 := by omega
  have hc2 : c ≤ 512 := by omega
  obtain ⟨hx, hr, hi5, hiv, hn, h2⟩ := Inv_x h hc2
  have h4 : ∀ i, 0 ≤ F 4 i ∧ F 4 i < 1000 := h.2.2.2.2.2.2.2
  refine j_aload_n 2 380 dL_law_379 rfl rfl ?_
  refine j_aload_n 3 381 dL_law_380 rfl rfl ?_
  refine j_iload_n 0 382 dL_law_381 rfl rfl ?_
  refine j_iconst 383 dL_law_382 rfl ?_
  refine j_iadd 384 dL_law_383 rfl ?_
  refine j_sld 385 hX hbl hbA hL (by omega) dL_law_384 rfl ?_
  refine j_callViB (wcs := [_]) (cs := [_]) 0 0 [0] 388 [_, _] (c_X7_append E ad qh S H P v _ h.1 (sX_rng _ _)) (jFl_1 _) (jFl_1 _) rfl kL_X7_append rfl rfl rfl rfl rfl rfl rfl (Nat.le_of_ble_eq_true rfl) hk dL_law_385 rfl ?_
  refine j_aload_n 1 389 dL_law_388 rfl rfl ?_
  refine j_aload_n 3 390 dL_law_389 rfl rfl ?_
  refine j_iload_n 0 391 dL_law_390 rfl rfl ?_
  refine j_iconst 392 dL_law_391 rfl ?_
  refine j_iadd 393 dL_law_392 rfl ?_
  refine j_sld 394 hX hbl hbA hL (by omega) dL_law_393 rfl ?_
  refine j_callViB (wcs := [_]) (cs := [_]) 1 0 [1] 397 [_, _] (c_X8_append E q F _ h2 (sX_rng _ _)) (jFl_1 _) (jFl_1 _) rfl kL_X8_append rfl rfl rfl rfl rfl rfl rfl (Nat.le_of_ble_eq_true rfl) hk dL_law_394 rfl ?_
  refine j_same 881 dL_law_397 (by decide) (Inv_append h _).1 ?_
  exact law_nextC go (Inv_append h _).2
theorem kL_X7_clear : jKv mL 49 yX7_clear wsX7_clear rmX7_clear 0 := ⟨gL_law_X7_clear, ⟨_, _, _, _, rfl, by decide⟩, by decide +kernel, rfl, rfl, by decide⟩
theorem kL_X8_clear : jKv mL 53 yX8_clear wsX8_clear rmX8_clear 0 := ⟨gL_law_X8_clear, ⟨_, _, _, _, rfl, by decide⟩, by decide +kernel, rfl, rfl, by decide⟩
set_option maxRecDepth 100000 in
set_option maxHeartbeats 4000000 in
theorem law_clear (ok : lOk C b L0 xs i) (hk : k ≤ 600000 ∧ n ≤ 7302250) (hc : c ≤ 511) (go : lGo E C Q k n b ad qh q i (c + 1)) (h : Inv c S H P v F) : jG mL E C Q k n 402 [(3, .int (jI i)), (2, .ref (q 0)), (1, .ref (ad 7 0)), (0, .ref b)] [] (jFl [wEye E ad qh S H P v, wModel E q F]) := by
  obtain ⟨hX, hbl, hbA, hL0, hi0, hi6⟩ := ok
  have hL : L0 < 2147483648 := by omega
  have hc2 : c ≤ 512 := by omega
  obtain ⟨hx, hr, hi5, hiv, hn, h2⟩ := Inv_x h hc2
  have h4 : ∀ i, 0 ≤ F 4 i ∧ F 4 i < 1000 := h.2.2.2.2.2.2.2
  refine j_aload_n 2 403 dL_law_402 rfl rfl ?_
  refine j_callViB (wcs := [_]) (cs := [_]) 0 0 [0] 406 [_, _] (c_X7_clear E ad qh S H P v h.1) (jFl_1 _) (jFl_1 _) rfl kL_X7_clear rfl rfl rfl rfl rfl rfl rfl (Nat.le_of_ble_eq_true rfl) hk dL_law_403 rfl ?_
  refine j_aload_n 1 407 dL_law_406 rfl rfl ?_
  refine j_callViB (wcs := [_]) (cs := [_]) 1 0 [1] 410 [_, _] (c_X8_clear E q F) (jFl_1 _) (jFl_1 _) rfl kL_X8_clear rfl rfl rfl rfl rfl rfl rfl (Nat.le_of_ble_eq_true rfl) hk dL_law_407 rfl ?_
  refine j_same 881 dL_law_410 (by decide) (Inv_clear h).1 ?_
  exact law_nextC (t := (S, H, P, jU v 3 0)) go (Inv_clear h).2
theorem kL_X7_fault : jKv mL 54 yX7_fault wsX7_fault rmX7_fault 1 := ⟨gL_law_X7_fault, ⟨_, _, _, _, rfl, by decide⟩, by decide +kernel, rfl, rfl, by decide⟩
theorem kL_X8_fault : jKv mL 57 yX8_fault wsX8_fault rmX8_fault 1 := ⟨gL_law_X8_fault, ⟨_, _, _, _, rfl, by decide⟩, by decide +kernel, rfl, rfl, by decide⟩
set_option maxRecDepth 100000 in
set_option maxHeartbeats 4000000 in
theorem law_fault (ok : lOk C b L0 xs i) (hk : k ≤ 600000 ∧ n ≤ 7302250) (hc : c ≤ 511) (go : lGo E C Q k n b ad qh q i (c + 1)) (h : Inv c S H P v F) : jG mL E C Q k n 415 [(3, .int (jI i)), (2, .ref (q 0)), (1, .ref (ad 7 0)), (0, .ref b)] [] (jFl [wEye E ad qh S H P v, wModel E q F]) := by
  obtain ⟨hX, hbl, hbA, hL0, hi0, hi6⟩ := ok
  have hL : L0 < 2147483648 := by omega
  have hc2 : c ≤ 512 := by omega
  obtain ⟨hx, hr, hi5, hiv, hn, h2⟩ := Inv_x h hc2
  have h4 : ∀ i, 0 ≤ F 4 i ∧ F 4 i < 1000 := h.2.2.2.2.2.2.2
  refine j_aload_n 2 416 dL_law_415 rfl rfl ?_
  refine j_aload_n 3 417 dL_law_416 rfl rfl ?_
  refine j_iload_n 0 418 dL_law_417 rfl rfl ?_
  refine j_iconst 419 dL_law_418 rfl ?_
  refine j_iadd 420 dL_law_419 rfl ?_
  refine j_sld 421 hX hbl hbA hL (by omega) dL_law_420 rfl ?_
  refine j_callViB (wcs := [_]) (cs := [_]) 0 0 [0] 424 [_, _] (c_X7_fault E ad qh S H P v _ h.1 (sX_rng _ _)) (jFl_1 _) (jFl_1 _) rfl kL_X7_fault rfl rfl rfl rfl rfl rfl rfl (Nat.le_of_ble_eq_true rfl) hk dL_law_421 rfl ?_
  refine j_aload_n 1 425 dL_law_424 rfl rfl ?_
  refine j_aload_n 3 426 dL_law_425 rfl rfl ?_
  refine j_iload_n 0 427 dL_law_426 rfl rfl ?_
  refine j_iconst 428 dL_law_427 rfl ?_
  refine j_iadd 429 dL_law_428 rfl ?_
  refine j_sld 430 hX hbl hbA hL (by omega) dL_law_429 rfl ?_
  refine j_callViP 1 0 [0, 5, 6] 433 [_, _, _, _, _, _, _] [_, _] (c_X8_fault E _ _ _ _ _ _ _ _ _ (F 6 2) _ _ (F 4) (F 5) _ h2 h4 (sX_rng _ _)) rfl kL_X8_fault rfl rfl rfl rfl rfl rfl rfl rfl rfl (Nat.le_of_ble_eq_true rfl) hk dL_law_430 rfl ?_
  refine j_same 881 dL_law_433 (by decide) (Inv_fault h _).1 ?_
  exact law_nextC go (Inv_fault h _).2
theorem kL_X7_rules : jKv mL 58 yX7_rules wsX7_rules rmX7_rules 0 := ⟨gL_law_X7_rules, ⟨_, _, _, _, rfl, by decide⟩, by decide +kernel, rfl, rfl, by decide⟩
theorem kL_X8_rules : jKv mL 61 yX8_rules wsX8_rules rmX8_rules 0 := ⟨gL_law_X8_rules, ⟨_, _, _, _, rfl, by decide⟩, by decide +kernel, rfl, rfl, by decide⟩
set_option maxRecDepth 100000 in
set_option maxHeartbeats 4000000 in
theorem law_rules (ok : lOk C b L0 xs i) (hk : k ≤ 600000 ∧ n ≤ 7302250) (hc : c ≤ 511) (go : lGo E C Q k n b ad qh q i (c + 1)) (h : Inv c S H P v F) : jG mL E C Q k n 438 [(3, .int (jI i)), (2, .ref (q 0)), (1, .ref (ad 7 0)), (0, .ref b)] [] (jFl [wEye E ad qh S H P v, wModel E q F]) := by
  obtain ⟨hX, hbl, hbA, hL0, hi0, hi6⟩ := ok
  have hL : L0 < 2147483648 := by omega
  have hc2 : c ≤ 512 := by omega
  obtain ⟨hx, hr, hi5, hiv, hn, h2⟩ := Inv_x h hc2
  have h4 : ∀ i, 0 ≤ F 4 i ∧ F 4 i < 1000 := h.2.2.2.2.2.2.2
  refine j_aload_n 2 439 dL_law_438 rfl rfl ?_
  refine j_callViB (wcs := [_]) (cs := [_]) 0 0 [0] 442 [_, _] (c_X7_rules E ad qh S H P v h.1) (jFl_1 _) (jFl_1 _) rfl kL_X7_rules rfl rfl rfl rfl rfl rfl rfl (Nat.le_of_ble_eq_true rfl) hk dL_law_439 rfl ?_
  refine j_aload_n 1 443 dL_law_442 rfl rfl ?_
  refine j_callViB (wcs := [_]) (cs := [_]) 1 0 [1] 446 [_, _] (c_X8_rules E q F _ hn h2 h4 rfl (Inv_rules h rfl rfl).2.2) (jFl_1 _) (jFl_1 _) rfl kL_X8_rules rfl rfl rfl rfl rfl rfl rfl (Nat.le_of_ble_eq_true rfl) hk dL_law_443 rfl ?_
  refine j_same 881 dL_law_446 (by decide) (Inv_rules h rfl rfl).1 ?_
  exact law_nextC go (Inv_rules h rfl rfl).2.1
theorem kL_X7_run : jKv mL 62 yX7_run wsX7_run rmX7_run 0 := ⟨gL_law_X7_run, ⟨_, _, _, _, rfl, by decide⟩, by decide +kernel, rfl, rfl, by decide⟩
theorem kL_X8_run : jKv mL 65 yX8_run wsX8_run rmX8_run 0 := ⟨gL_law_X8_run, ⟨_, _, _, _, rfl, by decide⟩, by decide +kernel, rfl, rfl, by decide⟩
set_option maxRecDepth 100000 in
set_option maxHeartbeats 4000000 in
theorem law_run (ok : lOk C b L0 xs i) (hk : k ≤ 600000 ∧ n ≤ 7302250) (hc : c ≤ 511) (go : lGo E C Q k n b ad qh q i (c + 1)) (h : Inv c S H P v F) : jG mL E C Q k n 451 [(3, .int (jI i)), (2, .ref (q 0)), (1, .ref (ad 7 0)), (0, .ref b)] [] (jFl [wEye E ad qh S H P v, wModel E q F]) := by
  obtain ⟨hX, hbl, hbA, hL0, hi0, hi6⟩ := ok
  have hL : L0 < 2147483648 := by omega
  have hc2 : c ≤ 512 := by omega
  obtain ⟨hx, hr, hi5, hiv, hn, h2⟩ := Inv_x h hc2
  have h4 : ∀ i, 0 ≤ F 4 i ∧ F 4 i < 1000 := h.2.2.2.2.2.2.2
  obtain ⟨T, hT⟩ : ∃ T, T = fX 0 (F 4) (F 6 2) 60 0 0 0 (F 5) := ⟨_, rfl⟩
  have ru := Inv_run h hc2 rfl hT
  refine j_aload_n 2 452 dL_law_451 rfl rfl ?_
  refine j_callViB (wcs := [_]) (cs := [_]) 0 0 [0] 455 [_, _] (c_X7_run E ad qh S H P v h.1 hiv) (jFl_1 _) (jFl_1 _) rfl kL_X7_run rfl rfl rfl rfl rfl rfl rfl (Nat.le_of_ble_eq_true rfl) hk dL_law_452 rfl ?_
  refine j_aload_n 1 456 dL_law_455 rfl rfl ?_
  refine j_callViB (wcs := [_]) (cs := [_]) 1 0 [1] 459 [_, _] (c_X8_run E q F T (S 0) _ _ (512 - T.2.2.1) hn h2 h4 hT (Inv_few h hc hT) (by omega) hr ru.1.1 ru.1.2.1 (fun e => (ru.1.2.2 e).1)) (jFl_1 _) (jFl_1 _) rfl kL_X8_run rfl rfl rfl rfl rfl rfl rfl (Nat.le_of_ble_eq_true rfl) hk dL_law_456 rfl ?_
  refine j_same 881 dL_law_459 (by decide) ru.2.1 ?_
  exact law_nextC go ru.2.2
end
