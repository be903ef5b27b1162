section LAWCASES
variable {p : Program} {l : Launch} {e : Env} {s : State} {m : MethodId} {below : List Frame} {meth : Method} {c : Code} {D : va_G} {cI cZ : ClassId} {ad bd : Nat → Nat} {b L : Nat} {xs : Nat → Int32} {Q : State → Prop}
theorem law_k0 (C : LC p s m c D cI cZ ad bd b L xs) {i : Nat} (hi : i + 8 ≤ L) (hL : L < 2 ^ 31) (K : ∀ P T N U, okX P → rel P (cX N) → LW p l e s m below meth c D cI cZ ad bd b Q 1168 [(0, .ref b), (1, .ref (ad 0)), (2, .ref (bd 0)), (3, .int (nI i))] [] P T N U) {P T N U : St} (ok : okX P) (h : rel P (cX N)) : LW p l e s m below meth c D cI cZ ad bd b Q 160 [(0, .ref b), (1, .ref (ad 0)), (2, .ref (bd 0)), (3, .int (nI i))] [] P T N U := by
  have okn := okN_rel h ok
  refine l_aload_n (q := 161) C dL_law_160 rfl 1 rfl rfl ?_
  refine l_aload_n (q := 162) C dL_law_161 rfl 0 rfl rfl ?_
  refine l_iload_n (q := 163) C dL_law_162 rfl 3 rfl rfl ?_
  refine l_iconst (q := 164) (v := nI 1) C dL_law_163 (by decide) rfl ?_
  refine l_iadd (q := 165) C dL_law_164 rfl ?_
  refine l_sld (q := 166) C (by omega) hL dL_law_165 rfl ?_
  refine l_X (q := 169) (As := [.int (xs (i + 1))]) (rest := []) C (c_X7_knob C.2.1 ok (xs (i + 1))) xs_X7_knob tim_X7_knob tsel_X7_knob tml_L_13 (by decide) rfl rfl (Nat.le_of_ble_eq_true rfl) dL_law_166 rfl (fun r P1 T1 hp => ?_)
  refine l_aload_n (q := 170) C dL_law_169 rfl 2 rfl rfl ?_
  refine l_aload_n (q := 171) C dL_law_170 rfl 0 rfl rfl ?_
  refine l_iload_n (q := 172) C dL_law_171 rfl 3 rfl rfl ?_
  refine l_iconst (q := 173) (v := nI 1) C dL_law_172 (by decide) rfl ?_
  refine l_iadd (q := 174) C dL_law_173 rfl ?_
  refine l_sld (q := 175) C (by omega) hL dL_law_174 rfl ?_
  refine l_N (q := 178) (As := [.int (xs (i + 1))]) (rest := [.int r]) C (c_X8_knob C.2.2.1 okn (xs (i + 1))) xs_X8_knob tim_X8_knob tsel_X8_knob tml_L_17 (by decide) rfl rfl (Nat.le_of_ble_eq_true rfl) dL_law_175 rfl (fun r2 N1 U1 hn => ?_)
  have J := j_knob ok h hp hn
  exact l_icmp_eq (tgt := 1168) C dL_law_178 (by decide) J.1 (K P1 T1 N1 U1 J.2.1 J.2.2)
theorem law_k1 (C : LC p s m c D cI cZ ad bd b L xs) {i : Nat} (hi : i + 8 ≤ L) (hL : L < 2 ^ 31) (K : ∀ P T N U, okX P → rel P (cX N) → LW p l e s m below meth c D cI cZ ad bd b Q 1168 [(0, .ref b), (1, .ref (ad 0)), (2, .ref (bd 0)), (3, .int (nI i))] [] P T N U) {P T N U : St} (ok : okX P) (h : rel P (cX N)) : LW p l e s m below meth c D cI cZ ad bd b Q 183 [(0, .ref b), (1, .ref (ad 0)), (2, .ref (bd 0)), (3, .int (nI i))] [] P T N U := by
  have okn := okN_rel h ok
  refine l_aload_n (q := 184) C dL_law_183 rfl 1 rfl rfl ?_
  refine l_aload_n (q := 185) C dL_law_184 rfl 0 rfl rfl ?_
  refine l_iload_n (q := 186) C dL_law_185 rfl 3 rfl rfl ?_
  refine l_iconst (q := 187) (v := nI 1) C dL_law_186 (by decide) rfl ?_
  refine l_iadd (q := 188) C dL_law_187 rfl ?_
  refine l_sld (q := 189) C (by omega) hL dL_law_188 rfl ?_
  refine l_aload_n (q := 190) C dL_law_189 rfl 0 rfl rfl ?_
  refine l_iload_n (q := 191) C dL_law_190 rfl 3 rfl rfl ?_
  refine l_iconst (q := 192) (v := nI 2) C dL_law_191 (by decide) rfl ?_
  refine l_iadd (q := 193) C dL_law_192 rfl ?_
  refine l_sld (q := 194) C (by omega) hL dL_law_193 rfl ?_
  refine l_aload_n (q := 195) C dL_law_194 rfl 0 rfl rfl ?_
  refine l_iload_n (q := 196) C dL_law_195 rfl 3 rfl rfl ?_
  refine l_iconst (q := 197) (v := nI 3) C dL_law_196 (by decide) rfl ?_
  refine l_iadd (q := 198) C dL_law_197 rfl ?_
  refine l_sld (q := 199) C (by omega) hL dL_law_198 rfl ?_
  refine l_X (q := 202) (As := [.int (xs (i + 1)), .int (xs (i + 2)), .int (xs (i + 3))]) (rest := []) C (c_X7_place C.2.1 ok (xs (i + 1)) (xs (i + 2)) (xs (i + 3))) xs_X7_place tim_X7_place tsel_X7_place tml_L_18 (by decide) rfl rfl (Nat.le_of_ble_eq_true rfl) dL_law_199 rfl (fun r P1 T1 hp => ?_)
  refine l_aload_n (q := 203) C dL_law_202 rfl 2 rfl rfl ?_
  refine l_aload_n (q := 204) C dL_law_203 rfl 0 rfl rfl ?_
  refine l_iload_n (q := 205) C dL_law_204 rfl 3 rfl rfl ?_
  refine l_iconst (q := 206) (v := nI 1) C dL_law_205 (by decide) rfl ?_
  refine l_iadd (q := 207) C dL_law_206 rfl ?_
  refine l_sld (q := 208) C (by omega) hL dL_law_207 rfl ?_
  refine l_aload_n (q := 209) C dL_law_208 rfl 0 rfl rfl ?_
  refine l_iload_n (q := 210) C dL_law_209 rfl 3 rfl rfl ?_
  refine l_iconst (q := 211) (v := nI 2) C dL_law_210 (by decide) rfl ?_
  refine l_iadd (q := 212) C dL_law_211 rfl ?_
  refine l_sld (q := 213) C (by omega) hL dL_law_212 rfl ?_
  refine l_aload_n (q := 214) C dL_law_213 rfl 0 rfl rfl ?_
  refine l_iload_n (q := 215) C dL_law_214 rfl 3 rfl rfl ?_
  refine l_iconst (q := 216) (v := nI 3) C dL_law_215 (by decide) rfl ?_
  refine l_iadd (q := 217) C dL_law_216 rfl ?_
  refine l_sld (q := 218) C (by omega) hL dL_law_217 rfl ?_
  refine l_N (q := 221) (As := [.int (xs (i + 1)), .int (xs (i + 2)), .int (xs (i + 3))]) (rest := [.int r]) C (c_X8_place C.2.2.1 okn (xs (i + 1)) (xs (i + 2)) (xs (i + 3))) xs_X8_place tim_X8_place tsel_X8_place tml_L_22 (by decide) rfl rfl (Nat.le_of_ble_eq_true rfl) dL_law_218 rfl (fun r2 N1 U1 hn => ?_)
  have J := jmk hp hn (s_place ok h (xs (i + 1)) (xs (i + 2)) (xs (i + 3)))
  exact l_icmp_eq (tgt := 1168) C dL_law_221 (by decide) J.1 (K P1 T1 N1 U1 J.2.1 J.2.2)
theorem law_k2 (C : LC p s m c D cI cZ ad bd b L xs) {i : Nat} (hi : i + 8 ≤ L) (hL : L < 2 ^ 31) (K : ∀ P T N U, okX P → rel P (cX N) → LW p l e s m below meth c D cI cZ ad bd b Q 1168 [(0, .ref b), (1, .ref (ad 0)), (2, .ref (bd 0)), (3, .int (nI i))] [] P T N U) {P T N U : St} (ok : okX P) (h : rel P (cX N)) : LW p l e s m below meth c D cI cZ ad bd b Q 226 [(0, .ref b), (1, .ref (ad 0)), (2, .ref (bd 0)), (3, .int (nI i))] [] P T N U := by
  have okn := okN_rel h ok
  refine l_aload_n (q := 227) C dL_law_226 rfl 1 rfl rfl ?_
  refine l_aload_n (q := 228) C dL_law_227 rfl 0 rfl rfl ?_
  refine l_iload_n (q := 229) C dL_law_228 rfl 3 rfl rfl ?_
  refine l_iconst (q := 230) (v := nI 1) C dL_law_229 (by decide) rfl ?_
  refine l_iadd (q := 231) C dL_law_230 rfl ?_
  refine l_sld (q := 232) C (by omega) hL dL_law_231 rfl ?_
  refine l_aload_n (q := 233) C dL_law_232 rfl 0 rfl rfl ?_
  refine l_iload_n (q := 234) C dL_law_233 rfl 3 rfl rfl ?_
  refine l_iconst (q := 235) (v := nI 2) C dL_law_234 (by decide) rfl ?_
  refine l_iadd (q := 236) C dL_law_235 rfl ?_
  refine l_sld (q := 237) C (by omega) hL dL_law_236 rfl ?_
  refine l_X (q := 240) (As := [.int (xs (i + 1)), .int (xs (i + 2))]) (rest := []) C (c_X7_steep C.2.1 ok (xs (i + 1)) (xs (i + 2))) xs_X7_steep tim_X7_steep tsel_X7_steep tml_L_23 (by decide) rfl rfl (Nat.le_of_ble_eq_true rfl) dL_law_237 rfl (fun r P1 T1 hp => ?_)
  refine l_aload_n (q := 241) C dL_law_240 rfl 2 rfl rfl ?_
  refine l_aload_n (q := 242) C dL_law_241 rfl 0 rfl rfl ?_
  refine l_iload_n (q := 243) C dL_law_242 rfl 3 rfl rfl ?_
  refine l_iconst (q := 244) (v := nI 1) C dL_law_243 (by decide) rfl ?_
  refine l_iadd (q := 245) C dL_law_244 rfl ?_
  refine l_sld (q := 246) C (by omega) hL dL_law_245 rfl ?_
  refine l_aload_n (q := 247) C dL_law_246 rfl 0 rfl rfl ?_
  refine l_iload_n (q := 248) C dL_law_247 rfl 3 rfl rfl ?_
  refine l_iconst (q := 249) (v := nI 2) C dL_law_248 (by decide) rfl ?_
  refine l_iadd (q := 250) C dL_law_249 rfl ?_
  refine l_sld (q := 251) C (by omega) hL dL_law_250 rfl ?_
  refine l_N (q := 254) (As := [.int (xs (i + 1)), .int (xs (i + 2))]) (rest := [.int r]) C (c_X8_steep C.2.2.1 okn (xs (i + 1)) (xs (i + 2))) xs_X8_steep tim_X8_steep tsel_X8_steep tml_L_27 (by decide) rfl rfl (Nat.le_of_ble_eq_true rfl) dL_law_251 rfl (fun r2 N1 U1 hn => ?_)
  have J := jmk hp hn (s_steep ok h (xs (i + 1)) (xs (i + 2)))
  exact l_icmp_eq (tgt := 1168) C dL_law_254 (by decide) J.1 (K P1 T1 N1 U1 J.2.1 J.2.2)
theorem law_k3 (C : LC p s m c D cI cZ ad bd b L xs) {i : Nat} (hi : i + 8 ≤ L) (hL : L < 2 ^ 31) (K : ∀ P T N U, okX P → rel P (cX N) → LW p l e s m below meth c D cI cZ ad bd b Q 1168 [(0, .ref b), (1, .ref (ad 0)), (2, .ref (bd 0)), (3, .int (nI i))] [] P T N U) {P T N U : St} (ok : okX P) (h : rel P (cX N)) : LW p l e s m below meth c D cI cZ ad bd b Q 259 [(0, .ref b), (1, .ref (ad 0)), (2, .ref (bd 0)), (3, .int (nI i))] [] P T N U := by
  have okn := okN_rel h ok
  by_cases z : xs (i + 1) = 0
  · have hnb : nI 0 = 0 ∨ nI 0 = 1 := Or.inl (by decide)
    refine l_aload_n (q := 260) C dL_law_259 rfl 1 rfl rfl ?_
    refine l_aload_n (q := 261) C dL_law_260 rfl 0 rfl rfl ?_
    refine l_iload_n (q := 262) C dL_law_261 rfl 3 rfl rfl ?_
    refine l_iconst (q := 263) (v := nI 1) C dL_law_262 (by decide) rfl ?_
    refine l_iadd (q := 264) C dL_law_263 rfl ?_
    refine l_sld (q := 265) C (by omega) hL dL_law_264 rfl ?_
    refine l_if_eq (q := 268) (tgt := 272) C dL_law_265 (by decide) rfl (fun _ => ?_) (fun z2 => absurd z z2)
    refine l_iconst (q := 273) (v := nI 0) C dL_law_272 (by decide) rfl ?_
    refine l_aload_n (q := 274) C dL_law_273 rfl 0 rfl rfl ?_
    refine l_iload_n (q := 275) C dL_law_274 rfl 3 rfl rfl ?_
    refine l_iconst (q := 276) (v := nI 2) C dL_law_275 (by decide) rfl ?_
    refine l_iadd (q := 277) C dL_law_276 rfl ?_
    refine l_sld (q := 278) C (by omega) hL dL_law_277 rfl ?_
    refine l_aload_n (q := 279) C dL_law_278 rfl 0 rfl rfl ?_
    refine l_iload_n (q := 280) C dL_law_279 rfl 3 rfl rfl ?_
    refine l_iconst (q := 281) (v := nI 3) C dL_law_280 (by decide) rfl ?_
    refine l_iadd (q := 282) C dL_law_281 rfl ?_
    refine l_sld (q := 283) C (by omega) hL dL_law_282 rfl ?_
    refine l_aload_n (q := 284) C dL_law_283 rfl 0 rfl rfl ?_
    refine l_iload_n (q := 285) C dL_law_284 rfl 3 rfl rfl ?_
    refine l_iconst (q := 286) (v := nI 4) C dL_law_285 (by decide) rfl ?_
    refine l_iadd (q := 287) C dL_law_286 rfl ?_
    refine l_sld (q := 288) C (by omega) hL dL_law_287 rfl ?_
    refine l_aload_n (q := 289) C dL_law_288 rfl 0 rfl rfl ?_
    refine l_iload_n (q := 290) C dL_law_289 rfl 3 rfl rfl ?_
    refine l_iconst (q := 291) (v := nI 5) C dL_law_290 (by decide) rfl ?_
    refine l_iadd (q := 292) C dL_law_291 rfl ?_
    refine l_sld (q := 293) C (by omega) hL dL_law_292 rfl ?_
    refine l_X (q := 296) (As := [.int (nI 0), .int (xs (i + 2)), .int (xs (i + 3)), .int (xs (i + 4)), .int (xs (i + 5))]) (rest := []) C (c_X7_rule C.2.1 ok (nI 0) (xs (i + 2)) (xs (i + 3)) (xs (i + 4)) (xs (i + 5)) (by decide)) xs_X7_rule tim_X7_rule tsel_X7_rule tml_L_28 (by decide) rfl rfl (Nat.le_of_ble_eq_true rfl) dL_law_293 rfl (fun r P1 T1 hp => ?_)
    refine l_aload_n (q := 297) C dL_law_296 rfl 2 rfl rfl ?_
    refine l_aload_n (q := 298) C dL_law_297 rfl 0 rfl rfl ?_
    refine l_iload_n (q := 299) C dL_law_298 rfl 3 rfl rfl ?_
    refine l_iconst (q := 300) (v := nI 1) C dL_law_299 (by decide) rfl ?_
    refine l_iadd (q := 301) C dL_law_300 rfl ?_
    refine l_sld (q := 302) C (by omega) hL dL_law_301 rfl ?_
    refine l_if_eq (q := 305) (tgt := 309) C dL_law_302 (by decide) rfl (fun _ => ?_) (fun z2 => absurd z z2)
    refine l_iconst (q := 310) (v := nI 0) C dL_law_309 (by decide) rfl ?_
    refine l_aload_n (q := 311) C dL_law_310 rfl 0 rfl rfl ?_
    refine l_iload_n (q := 312) C dL_law_311 rfl 3 rfl rfl ?_
    refine l_iconst (q := 313) (v := nI 2) C dL_law_312 (by decide) rfl ?_
    refine l_iadd (q := 314) C dL_law_313 rfl ?_
    refine l_sld (q := 315) C (by omega) hL dL_law_314 rfl ?_
    refine l_aload_n (q := 316) C dL_law_315 rfl 0 rfl rfl ?_
    refine l_iload_n (q := 317) C dL_law_316 rfl 3 rfl rfl ?_
    refine l_iconst (q := 318) (v := nI 3) C dL_law_317 (by decide) rfl ?_
    refine l_iadd (q := 319) C dL_law_318 rfl ?_
    refine l_sld (q := 320) C (by omega) hL dL_law_319 rfl ?_
    refine l_aload_n (q := 321) C dL_law_320 rfl 0 rfl rfl ?_
    refine l_iload_n (q := 322) C dL_law_321 rfl 3 rfl rfl ?_
    refine l_iconst (q := 323) (v := nI 4) C dL_law_322 (by decide) rfl ?_
    refine l_iadd (q := 324) C dL_law_323 rfl ?_
    refine l_sld (q := 325) C (by omega) hL dL_law_324 rfl ?_
    refine l_aload_n (q := 326) C dL_law_325 rfl 0 rfl rfl ?_
    refine l_iload_n (q := 327) C dL_law_326 rfl 3 rfl rfl ?_
    refine l_iconst (q := 328) (v := nI 5) C dL_law_327 (by decide) rfl ?_
    refine l_iadd (q := 329) C dL_law_328 rfl ?_
    refine l_sld (q := 330) C (by omega) hL dL_law_329 rfl ?_
    refine l_N (q := 333) (As := [.int (nI 0), .int (xs (i + 2)), .int (xs (i + 3)), .int (xs (i + 4)), .int (xs (i + 5))]) (rest := [.int r]) C (c_X8_rule C.2.2.1 okn (nI 0) (xs (i + 2)) (xs (i + 3)) (xs (i + 4)) (xs (i + 5)) hnb) xs_X8_rule tim_X8_rule tsel_X8_rule tml_L_32 (by decide) rfl rfl (Nat.le_of_ble_eq_true rfl) dL_law_330 rfl (fun r2 N1 U1 hn => ?_)
    have J := jmk hp hn (s_rule ok h hnb (xs (i + 2)) (xs (i + 3)) (xs (i + 4)) (xs (i + 5)))
    exact l_icmp_eq (tgt := 1168) C dL_law_333 (by decide) J.1 (K P1 T1 N1 U1 J.2.1 J.2.2)
  · have hnb : nI 1 = 0 ∨ nI 1 = 1 := Or.inr (by decide)
    refine l_aload_n (q := 260) C dL_law_259 rfl 1 rfl rfl ?_
    refine l_aload_n (q := 261) C dL_law_260 rfl 0 rfl rfl ?_
    refine l_iload_n (q := 262) C dL_law_261 rfl 3 rfl rfl ?_
    refine l_iconst (q := 263) (v := nI 1) C dL_law_262 (by decide) rfl ?_
    refine l_iadd (q := 264) C dL_law_263 rfl ?_
    refine l_sld (q := 265) C (by omega) hL dL_law_264 rfl ?_
    refine l_if_eq (q := 268) (tgt := 272) C dL_law_265 (by decide) rfl (fun z2 => absurd z2 z) (fun _ => ?_)
    refine l_iconst (q := 269) (v := nI 1) C dL_law_268 (by decide) rfl ?_
    refine l_goto (tgt := 273) C dL_law_269 (by decide) ?_
    refine l_aload_n (q := 274) C dL_law_273 rfl 0 rfl rfl ?_
    refine l_iload_n (q := 275) C dL_law_274 rfl 3 rfl rfl ?_
    refine l_iconst (q := 276) (v := nI 2) C dL_law_275 (by decide) rfl ?_
    refine l_iadd (q := 277) C dL_law_276 rfl ?_
    refine l_sld (q := 278) C (by omega) hL dL_law_277 rfl ?_
    refine l_aload_n (q := 279) C dL_law_278 rfl 0 rfl rfl ?_
    refine l_iload_n (q := 280) C dL_law_279 rfl 3 rfl rfl ?_
    refine l_iconst (q := 281) (v := nI 3) C dL_law_280 (by decide) rfl ?_
    refine l_iadd (q := 282) C dL_law_281 rfl ?_
    refine l_sld (q := 283) C (by omega) hL dL_law_282 rfl ?_
    refine l_aload_n (q := 284) C dL_law_283 rfl 0 rfl rfl ?_
    refine l_iload_n (q := 285) C dL_law_284 rfl 3 rfl rfl ?_
    refine l_iconst (q := 286) (v := nI 4) C dL_law_285 (by decide) rfl ?_
    refine l_iadd (q := 287) C dL_law_286 rfl ?_
    refine l_sld (q := 288) C (by omega) hL dL_law_287 rfl ?_
    refine l_aload_n (q := 289) C dL_law_288 rfl 0 rfl rfl ?_
    refine l_iload_n (q := 290) C dL_law_289 rfl 3 rfl rfl ?_
    refine l_iconst (q := 291) (v := nI 5) C dL_law_290 (by decide) rfl ?_
    refine l_iadd (q := 292) C dL_law_291 rfl ?_
    refine l_sld (q := 293) C (by omega) hL dL_law_292 rfl ?_
    refine l_X (q := 296) (As := [.int (nI 1), .int (xs (i + 2)), .int (xs (i + 3)), .int (xs (i + 4)), .int (xs (i + 5))]) (rest := []) C (c_X7_rule C.2.1 ok (nI 1) (xs (i + 2)) (xs (i + 3)) (xs (i + 4)) (xs (i + 5)) (by decide)) xs_X7_rule tim_X7_rule tsel_X7_rule tml_L_28 (by decide) rfl rfl (Nat.le_of_ble_eq_true rfl) dL_law_293 rfl (fun r P1 T1 hp => ?_)
    refine l_aload_n (q := 297) C dL_law_296 rfl 2 rfl rfl ?_
    refine l_aload_n (q := 298) C dL_law_297 rfl 0 rfl rfl ?_
    refine l_iload_n (q := 299) C dL_law_298 rfl 3 rfl rfl ?_
    refine l_iconst (q := 300) (v := nI 1) C dL_law_299 (by decide) rfl ?_
    refine l_iadd (q := 301) C dL_law_300 rfl ?_
    refine l_sld (q := 302) C (by omega) hL dL_law_301 rfl ?_
    refine l_if_eq (q := 305) (tgt := 309) C dL_law_302 (by decide) rfl (fun z2 => absurd z2 z) (fun _ => ?_)
    refine l_iconst (q := 306) (v := nI 1) C dL_law_305 (by decide) rfl ?_
    refine l_goto (tgt := 310) C dL_law_306 (by decide) ?_
    refine l_aload_n (q := 311) C dL_law_310 rfl 0 rfl rfl ?_
    refine l_iload_n (q := 312) C dL_law_311 rfl 3 rfl rfl ?_
    refine l_iconst (q := 313) (v := nI 2) C dL_law_312 (by decide) rfl ?_
    refine l_iadd (q := 314) C dL_law_313 rfl ?_
    refine l_sld (q := 315) C (by omega) hL dL_law_314 rfl ?_
    refine l_aload_n (q := 316) C dL_law_315 rfl 0 rfl rfl ?_
    refine l_iload_n (q := 317) C dL_law_316 rfl 3 rfl rfl ?_
    refine l_iconst (q := 318) (v := nI 3) C dL_law_317 (by decide) rfl ?_
    refine l_iadd (q := 319) C dL_law_318 rfl ?_
    refine l_sld (q := 320) C (by omega) hL dL_law_319 rfl ?_
    refine l_aload_n (q := 321) C dL_law_320 rfl 0 rfl rfl ?_
    refine l_iload_n (q := 322) C dL_law_321 rfl 3 rfl rfl ?_
    refine l_iconst (q := 323) (v := nI 4) C dL_law_322 (by decide) rfl ?_
    refine l_iadd (q := 324) C dL_law_323 rfl ?_
    refine l_sld (q := 325) C (by omega) hL dL_law_324 rfl ?_
    refine l_aload_n (q := 326) C dL_law_325 rfl 0 rfl rfl ?_
    refine l_iload_n (q := 327) C dL_law_326 rfl 3 rfl rfl ?_
    refine l_iconst (q := 328) (v := nI 5) C dL_law_327 (by decide) rfl ?_
    refine l_iadd (q := 329) C dL_law_328 rfl ?_
    refine l_sld (q := 330) C (by omega) hL dL_law_329 rfl ?_
    refine l_N (q := 333) (As := [.int (nI 1), .int (xs (i + 2)), .int (xs (i + 3)), .int (xs (i + 4)), .int (xs (i + 5))]) (rest := [.int r]) C (c_X8_rule C.2.2.1 okn (nI 1) (xs (i + 2)) (xs (i + 3)) (xs (i + 4)) (xs (i + 5)) hnb) xs_X8_rule tim_X8_rule tsel_X8_rule tml_L_32 (by decide) rfl rfl (Nat.le_of_ble_eq_true rfl) dL_law_330 rfl (fun r2 N1 U1 hn => ?_)
    have J := jmk hp hn (s_rule ok h hnb (xs (i + 2)) (xs (i + 3)) (xs (i + 4)) (xs (i + 5)))
    exact l_icmp_eq (tgt := 1168) C dL_law_333 (by decide) J.1 (K P1 T1 N1 U1 J.2.1 J.2.2)
theorem law_k4 (C : LC p s m c D cI cZ ad bd b L xs) {i : Nat} (hi : i + 8 ≤ L) (hL : L < 2 ^ 31) (K : ∀ P T N U, okX P → rel P (cX N) → LW p l e s m below meth c D cI cZ ad bd b Q 1168 [(0, .ref b), (1, .ref (ad 0)), (2, .ref (bd 0)), (3, .int (nI i))] [] P T N U) {P T N U : St} (ok : okX P) (h : rel P (cX N)) : LW p l e s m below meth c D cI cZ ad bd b Q 338 [(0, .ref b), (1, .ref (ad 0)), (2, .ref (bd 0)), (3, .int (nI i))] [] P T N U := by
  have okn := okN_rel h ok
  refine l_aload_n (q := 339) C dL_law_338 rfl 1 rfl rfl ?_
  refine l_X (q := 342) (As := []) (rest := []) C (c_X7_noRule C.2.1 ok ) xs_X7_noRule tim_X7_noRule tsel_X7_noRule tml_L_33 (by decide) rfl rfl (Nat.le_of_ble_eq_true rfl) dL_law_339 rfl (fun r P1 T1 hp => ?_)
  refine l_aload_n (q := 343) C dL_law_342 rfl 2 rfl rfl ?_
  refine l_N (q := 346) (As := []) (rest := [.int r]) C (c_X8_noRule C.2.2.1 okn ) xs_X8_noRule tim_X8_noRule tsel_X8_noRule tml_L_37 (by decide) rfl rfl (Nat.le_of_ble_eq_true rfl) dL_law_343 rfl (fun r2 N1 U1 hn => ?_)
  have J := jmk hp hn (s_noRule ok h)
  exact l_icmp_eq (tgt := 1168) C dL_law_346 (by decide) J.1 (K P1 T1 N1 U1 J.2.1 J.2.2)
theorem law_k5 (C : LC p s m c D cI cZ ad bd b L xs) {i : Nat} (hi : i + 8 ≤ L) (hL : L < 2 ^ 31) (K : ∀ P T N U, okX P → rel P (cX N) → LW p l e s m below meth c D cI cZ ad bd b Q 1168 [(0, .ref b), (1, .ref (ad 0)), (2, .ref (bd 0)), (3, .int (nI i))] [] P T N U) {P T N U : St} (ok : okX P) (h : rel P (cX N)) : LW p l e s m below meth c D cI cZ ad bd b Q 351 [(0, .ref b), (1, .ref (ad 0)), (2, .ref (bd 0)), (3, .int (nI i))] [] P T N U := by
  have okn := okN_rel h ok
  refine l_aload_n (q := 352) C dL_law_351 rfl 1 rfl rfl ?_
  refine l_aload_n (q := 353) C dL_law_352 rfl 0 rfl rfl ?_
  refine l_iload_n (q := 354) C dL_law_353 rfl 3 rfl rfl ?_
  refine l_iconst (q := 355) (v := nI 1) C dL_law_354 (by decide) rfl ?_
  refine l_iadd (q := 356) C dL_law_355 rfl ?_
  refine l_sld (q := 357) C (by omega) hL dL_law_356 rfl ?_
  refine l_aload_n (q := 358) C dL_law_357 rfl 0 rfl rfl ?_
  refine l_iload_n (q := 359) C dL_law_358 rfl 3 rfl rfl ?_
  refine l_iconst (q := 360) (v := nI 2) C dL_law_359 (by decide) rfl ?_
  refine l_iadd (q := 361) C dL_law_360 rfl ?_
  refine l_sld (q := 362) C (by omega) hL dL_law_361 rfl ?_
  refine l_aload_n (q := 363) C dL_law_362 rfl 0 rfl rfl ?_
  refine l_iload_n (q := 364) C dL_law_363 rfl 3 rfl rfl ?_
  refine l_iconst (q := 365) (v := nI 3) C dL_law_364 (by decide) rfl ?_
  refine l_iadd (q := 366) C dL_law_365 rfl ?_
  refine l_sld (q := 367) C (by omega) hL dL_law_366 rfl ?_
  refine l_aload_n (q := 368) C dL_law_367 rfl 0 rfl rfl ?_
  refine l_iload_n (q := 369) C dL_law_368 rfl 3 rfl rfl ?_
  refine l_iconst (q := 370) (v := nI 4) C dL_law_369 (by decide) rfl ?_
  refine l_iadd (q := 371) C dL_law_370 rfl ?_
  refine l_sld (q := 372) C (by omega) hL dL_law_371 rfl ?_
  refine l_aload_n (q := 373) C dL_law_372 rfl 0 rfl rfl ?_
  refine l_iload_n (q := 374) C dL_law_373 rfl 3 rfl rfl ?_
  refine l_iconst (q := 375) (v := nI 5) C dL_law_374 (by decide) rfl ?_
  refine l_iadd (q := 376) C dL_law_375 rfl ?_
  refine l_sld (q := 377) C (by omega) hL dL_law_376 rfl ?_
  refine l_X (q := 380) (As := [.int (xs (i + 1)), .int (xs (i + 2)), .int (xs (i + 3)), .int (xs (i + 4)), .int (xs (i + 5))]) (rest := []) C (c_X7_effect C.2.1 ok (xs (i + 1)) (xs (i + 2)) (xs (i + 3)) (xs (i + 4)) (xs (i + 5))) xs_X7_effect tim_X7_effect tsel_X7_effect tml_L_38 (by decide) rfl rfl (Nat.le_of_ble_eq_true rfl) dL_law_377 rfl (fun r P1 T1 hp => ?_)
  refine l_aload_n (q := 381) C dL_law_380 rfl 2 rfl rfl ?_
  refine l_aload_n (q := 382) C dL_law_381 rfl 0 rfl rfl ?_
  refine l_iload_n (q := 383) C dL_law_382 rfl 3 rfl rfl ?_
  refine l_iconst (q := 384) (v := nI 1) C dL_law_383 (by decide) rfl ?_
  refine l_iadd (q := 385) C dL_law_384 rfl ?_
  refine l_sld (q := 386) C (by omega) hL dL_law_385 rfl ?_
  refine l_aload_n (q := 387) C dL_law_386 rfl 0 rfl rfl ?_
  refine l_iload_n (q := 388) C dL_law_387 rfl 3 rfl rfl ?_
  refine l_iconst (q := 389) (v := nI 2) C dL_law_388 (by decide) rfl ?_
  refine l_iadd (q := 390) C dL_law_389 rfl ?_
  refine l_sld (q := 391) C (by omega) hL dL_law_390 rfl ?_
  refine l_aload_n (q := 392) C dL_law_391 rfl 0 rfl rfl ?_
  refine l_iload_n (q := 393) C dL_law_392 rfl 3 rfl rfl ?_
  refine l_iconst (q := 394) (v := nI 3) C dL_law_393 (by decide) rfl ?_
  refine l_iadd (q := 395) C dL_law_394 rfl ?_
  refine l_sld (q := 396) C (by omega) hL dL_law_395 rfl ?_
  refine l_aload_n (q := 397) C dL_law_396 rfl 0 rfl rfl ?_
  refine l_iload_n (q := 398) C dL_law_397 rfl 3 rfl rfl ?_
  refine l_iconst (q := 399) (v := nI 4) C dL_law_398 (by decide) rfl ?_
  refine l_iadd (q := 400) C dL_law_399 rfl ?_
  refine l_sld (q := 401) C (by omega) hL dL_law_400 rfl ?_
  refine l_aload_n (q := 402) C dL_law_401 rfl 0 rfl rfl ?_
  refine l_iload_n (q := 403) C dL_law_402 rfl 3 rfl rfl ?_
  refine l_iconst (q := 404) (v := nI 5) C dL_law_403 (by decide) rfl ?_
  refine l_iadd (q := 405) C dL_law_404 rfl ?_
  refine l_sld (q := 406) C (by omega) hL dL_law_405 rfl ?_
  refine l_N (q := 409) (As := [.int (xs (i + 1)), .int (xs (i + 2)), .int (xs (i + 3)), .int (xs (i + 4)), .int (xs (i + 5))]) (rest := [.int r]) C (c_X8_effect C.2.2.1 okn (xs (i + 1)) (xs (i + 2)) (xs (i + 3)) (xs (i + 4)) (xs (i + 5))) xs_X8_effect tim_X8_effect tsel_X8_effect tml_L_42 (by decide) rfl rfl (Nat.le_of_ble_eq_true rfl) dL_law_406 rfl (fun r2 N1 U1 hn => ?_)
  have J := jmk hp hn (s_eff ok h (xs (i + 1)) (xs (i + 2)) (xs (i + 3)) (xs (i + 4)) (xs (i + 5)))
  exact l_icmp_eq (tgt := 1168) C dL_law_409 (by decide) J.1 (K P1 T1 N1 U1 J.2.1 J.2.2)
theorem law_k6 (C : LC p s m c D cI cZ ad bd b L xs) {i : Nat} (hi : i + 8 ≤ L) (hL : L < 2 ^ 31) (K : ∀ P T N U, okX P → rel P (cX N) → LW p l e s m below meth c D cI cZ ad bd b Q 1168 [(0, .ref b), (1, .ref (ad 0)), (2, .ref (bd 0)), (3, .int (nI i))] [] P T N U) {P T N U : St} (ok : okX P) (h : rel P (cX N)) : LW p l e s m below meth c D cI cZ ad bd b Q 414 [(0, .ref b), (1, .ref (ad 0)), (2, .ref (bd 0)), (3, .int (nI i))] [] P T N U := by
  have okn := okN_rel h ok
  refine l_aload_n (q := 415) C dL_law_414 rfl 1 rfl rfl ?_
  refine l_aload_n (q := 416) C dL_law_415 rfl 0 rfl rfl ?_
  refine l_iload_n (q := 417) C dL_law_416 rfl 3 rfl rfl ?_
  refine l_iconst (q := 418) (v := nI 1) C dL_law_417 (by decide) rfl ?_
  refine l_iadd (q := 419) C dL_law_418 rfl ?_
  refine l_sld (q := 420) C (by omega) hL dL_law_419 rfl ?_
  refine l_X (q := 423) (As := [.int (xs (i + 1))]) (rest := []) C (c_X7_base C.2.1 (xs (i + 1))) xs_X7_base tim_X7_base tsel_X7_base tml_L_43 (by decide) rfl rfl (Nat.le_of_ble_eq_true rfl) dL_law_420 rfl (fun r P1 T1 hp => ?_)
  refine l_aload_n (q := 424) C dL_law_423 rfl 2 rfl rfl ?_
  refine l_aload_n (q := 425) C dL_law_424 rfl 0 rfl rfl ?_
  refine l_iload_n (q := 426) C dL_law_425 rfl 3 rfl rfl ?_
  refine l_iconst (q := 427) (v := nI 1) C dL_law_426 (by decide) rfl ?_
  refine l_iadd (q := 428) C dL_law_427 rfl ?_
  refine l_sld (q := 429) C (by omega) hL dL_law_428 rfl ?_
  refine l_N (q := 432) (As := [.int (xs (i + 1))]) (rest := [.int r]) C (c_X8_base C.2.2.1 (xs (i + 1))) xs_X8_base tim_X8_base tsel_X8_base tml_L_46 (by decide) rfl rfl (Nat.le_of_ble_eq_true rfl) dL_law_429 rfl (fun r2 N1 U1 hn => ?_)
  have J := jmk hp hn (s_base ok h (xs (i + 1)))
  exact l_icmp_eq (tgt := 1168) C dL_law_432 (by decide) J.1 (K P1 T1 N1 U1 J.2.1 J.2.2)
theorem law_k7 (C : LC p s m c D cI cZ ad bd b L xs) {i : Nat} (hi : i + 8 ≤ L) (hL : L < 2 ^ 31) (K : ∀ P T N U, okX P → rel P (cX N) → LW p l e s m below meth c D cI cZ ad bd b Q 1168 [(0, .ref b), (1, .ref (ad 0)), (2, .ref (bd 0)), (3, .int (nI i))] [] P T N U) {P T N U : St} (ok : okX P) (h : rel P (cX N)) : LW p l e s m below meth c D cI cZ ad bd b Q 437 [(0, .ref b), (1, .ref (ad 0)), (2, .ref (bd 0)), (3, .int (nI i))] [] P T N U := by
  have okn := okN_rel h ok
  refine l_aload_n (q := 438) C dL_law_437 rfl 1 rfl rfl ?_
  refine l_aload_n (q := 439) C dL_law_438 rfl 0 rfl rfl ?_
  refine l_iload_n (q := 440) C dL_law_439 rfl 3 rfl rfl ?_
  refine l_iconst (q := 441) (v := nI 1) C dL_law_440 (by decide) rfl ?_
  refine l_iadd (q := 442) C dL_law_441 rfl ?_
  refine l_sld (q := 443) C (by omega) hL dL_law_442 rfl ?_
  refine l_X (q := 446) (As := [.int (xs (i + 1))]) (rest := []) C (c_X7_noise C.2.1 (xs (i + 1))) xs_X7_noise tim_X7_noise tsel_X7_noise tml_L_47 (by decide) rfl rfl (Nat.le_of_ble_eq_true rfl) dL_law_443 rfl (fun r P1 T1 hp => ?_)
  refine l_aload_n (q := 447) C dL_law_446 rfl 2 rfl rfl ?_
  refine l_aload_n (q := 448) C dL_law_447 rfl 0 rfl rfl ?_
  refine l_iload_n (q := 449) C dL_law_448 rfl 3 rfl rfl ?_
  refine l_iconst (q := 450) (v := nI 1) C dL_law_449 (by decide) rfl ?_
  refine l_iadd (q := 451) C dL_law_450 rfl ?_
  refine l_sld (q := 452) C (by omega) hL dL_law_451 rfl ?_
  refine l_N (q := 455) (As := [.int (xs (i + 1))]) (rest := [.int r]) C (c_X8_noise C.2.2.1 (xs (i + 1))) xs_X8_noise tim_X8_noise tsel_X8_noise tml_L_50 (by decide) rfl rfl (Nat.le_of_ble_eq_true rfl) dL_law_452 rfl (fun r2 N1 U1 hn => ?_)
  have J := jmk hp hn (s_noise ok h (xs (i + 1)))
  exact l_icmp_eq (tgt := 1168) C dL_law_455 (by decide) J.1 (K P1 T1 N1 U1 J.2.1 J.2.2)
theorem law_k8 (C : LC p s m c D cI cZ ad bd b L xs) {i : Nat} (hi : i + 8 ≤ L) (hL : L < 2 ^ 31) (K : ∀ P T N U, okX P → rel P (cX N) → LW p l e s m below meth c D cI cZ ad bd b Q 1168 [(0, .ref b), (1, .ref (ad 0)), (2, .ref (bd 0)), (3, .int (nI i))] [] P T N U) {P T N U : St} (ok : okX P) (h : rel P (cX N)) : LW p l e s m below meth c D cI cZ ad bd b Q 460 [(0, .ref b), (1, .ref (ad 0)), (2, .ref (bd 0)), (3, .int (nI i))] [] P T N U := by
  have okn := okN_rel h ok
  refine l_aload_n (q := 461) C dL_law_460 rfl 1 rfl rfl ?_
  refine l_aload_n (q := 462) C dL_law_461 rfl 0 rfl rfl ?_
  refine l_iload_n (q := 463) C dL_law_462 rfl 3 rfl rfl ?_
  refine l_iconst (q := 464) (v := nI 1) C dL_law_463 (by decide) rfl ?_
  refine l_iadd (q := 465) C dL_law_464 rfl ?_
  refine l_sld (q := 466) C (by omega) hL dL_law_465 rfl ?_
  refine l_X (q := 469) (As := [.int (xs (i + 1))]) (rest := []) C (c_X7_seed C.2.1 (xs (i + 1))) xs_X7_seed tim_X7_seed tsel_X7_seed tml_L_51 (by decide) rfl rfl (Nat.le_of_ble_eq_true rfl) dL_law_466 rfl (fun r P1 T1 hp => ?_)
  refine l_aload_n (q := 470) C dL_law_469 rfl 2 rfl rfl ?_
  refine l_aload_n (q := 471) C dL_law_470 rfl 0 rfl rfl ?_
  refine l_iload_n (q := 472) C dL_law_471 rfl 3 rfl rfl ?_
  refine l_iconst (q := 473) (v := nI 1) C dL_law_472 (by decide) rfl ?_
  refine l_iadd (q := 474) C dL_law_473 rfl ?_
  refine l_sld (q := 475) C (by omega) hL dL_law_474 rfl ?_
  refine l_N (q := 478) (As := [.int (xs (i + 1))]) (rest := [.int r]) C (c_X8_seed C.2.2.1 (xs (i + 1))) xs_X8_seed tim_X8_seed tsel_X8_seed tml_L_54 (by decide) rfl rfl (Nat.le_of_ble_eq_true rfl) dL_law_475 rfl (fun r2 N1 U1 hn => ?_)
  have J := jmk hp hn ⟨rfl, s_seed ok h (xs (i + 1))⟩
  exact l_icmp_eq (tgt := 1168) C dL_law_478 (by decide) J.1 (K P1 T1 N1 U1 J.2.1 J.2.2)
theorem law_k9 (C : LC p s m c D cI cZ ad bd b L xs) {i : Nat} (hi : i + 8 ≤ L) (hL : L < 2 ^ 31) (K : ∀ P T N U, okX P → rel P (cX N) → LW p l e s m below meth c D cI cZ ad bd b Q 1168 [(0, .ref b), (1, .ref (ad 0)), (2, .ref (bd 0)), (3, .int (nI i))] [] P T N U) {P T N U : St} (ok : okX P) (h : rel P (cX N)) : LW p l e s m below meth c D cI cZ ad bd b Q 483 [(0, .ref b), (1, .ref (ad 0)), (2, .ref (bd 0)), (3, .int (nI i))] [] P T N U := by
  have okn := okN_rel h ok
  refine l_aload_n (q := 484) C dL_law_483 rfl 1 rfl rfl ?_
  refine l_aload_n (q := 485) C dL_law_484 rfl 0 rfl rfl ?_
  refine l_iload_n (q := 486) C dL_law_485 rfl 3 rfl rfl ?_
  refine l_iconst (q := 487) (v := nI 1) C dL_law_486 (by decide) rfl ?_
  refine l_iadd (q := 488) C dL_law_487 rfl ?_
  refine l_sld (q := 489) C (by omega) hL dL_law_488 rfl ?_
  refine l_aload_n (q := 490) C dL_law_489 rfl 0 rfl rfl ?_
  refine l_iload_n (q := 491) C dL_law_490 rfl 3 rfl rfl ?_
  refine l_iconst (q := 492) (v := nI 2) C dL_law_491 (by decide) rfl ?_
  refine l_iadd (q := 493) C dL_law_492 rfl ?_
  refine l_sld (q := 494) C (by omega) hL dL_law_493 rfl ?_
  refine l_aload_n (q := 495) C dL_law_494 rfl 0 rfl rfl ?_
  refine l_iload_n (q := 496) C dL_law_495 rfl 3 rfl rfl ?_
  refine l_iconst (q := 497) (v := nI 3) C dL_law_496 (by decide) rfl ?_
  refine l_iadd (q := 498) C dL_law_497 rfl ?_
  refine l_sld (q := 499) C (by omega) hL dL_law_498 rfl ?_
  refine l_X (q := 502) (As := [.int (xs (i + 1)), .int (xs (i + 2)), .int (xs (i + 3))]) (rest := []) C (c_X7_with C.2.1 ok (xs (i + 1)) (xs (i + 2)) (xs (i + 3))) xs_X7_with tim_X7_with tsel_X7_with tml_L_55 (by decide) rfl rfl (Nat.le_of_ble_eq_true rfl) dL_law_499 rfl (fun r P1 T1 hp => ?_)
  refine l_aload_n (q := 503) C dL_law_502 rfl 2 rfl rfl ?_
  refine l_aload_n (q := 504) C dL_law_503 rfl 0 rfl rfl ?_
  refine l_iload_n (q := 505) C dL_law_504 rfl 3 rfl rfl ?_
  refine l_iconst (q := 506) (v := nI 1) C dL_law_505 (by decide) rfl ?_
  refine l_iadd (q := 507) C dL_law_506 rfl ?_
  refine l_sld (q := 508) C (by omega) hL dL_law_507 rfl ?_
  refine l_aload_n (q := 509) C dL_law_508 rfl 0 rfl rfl ?_
  refine l_iload_n (q := 510) C dL_law_509 rfl 3 rfl rfl ?_
  refine l_iconst (q := 511) (v := nI 2) C dL_law_510 (by decide) rfl ?_
  refine l_iadd (q := 512) C dL_law_511 rfl ?_
  refine l_sld (q := 513) C (by omega) hL dL_law_512 rfl ?_
  refine l_aload_n (q := 514) C dL_law_513 rfl 0 rfl rfl ?_
  refine l_iload_n (q := 515) C dL_law_514 rfl 3 rfl rfl ?_
  refine l_iconst (q := 516) (v := nI 3) C dL_law_515 (by decide) rfl ?_
  refine l_iadd (q := 517) C dL_law_516 rfl ?_
  refine l_sld (q := 518) C (by omega) hL dL_law_517 rfl ?_
  refine l_N (q := 521) (As := [.int (xs (i + 1)), .int (xs (i + 2)), .int (xs (i + 3))]) (rest := [.int r]) C (c_X8_with C.2.2.1 okn (xs (i + 1)) (xs (i + 2)) (xs (i + 3))) xs_X8_with tim_X8_with tsel_X8_with tml_L_58 (by decide) rfl rfl (Nat.le_of_ble_eq_true rfl) dL_law_518 rfl (fun r2 N1 U1 hn => ?_)
  have J := jrd ok h hp hn ((s_with ok.1 h (xs (i + 1)) (xs (i + 2)) (xs (i + 3))).trans (e_with N (xs (i + 1)) (xs (i + 2)) (xs (i + 3))))
  exact l_icmp_eq (tgt := 1168) C dL_law_521 (by decide) J.1 (K P1 T1 N1 U1 J.2.1 J.2.2)
end LAWCASES
