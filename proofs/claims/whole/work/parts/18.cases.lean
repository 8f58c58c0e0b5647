theorem kbipush_31 : (Int8.ofInt 31).toInt32 = (31 : Int32) := by decide
def f_case0 (L : Nat) (xs : Nat → Int32) (x m ot : Nat) (i : Int32) (h : Hp) : Option Hp :=
  (sR L xs (i + (1 : Int32))).bind fun v1 =>
  bind2 (f_L_begin x v1 ot h) fun v2 h3 =>
  (sR L xs (i + (1 : Int32))).bind fun v4 =>
  bind2 (f_X4_begin m v4 h3) fun v5 h6 =>
  (f_X4_thrown m h6).bind fun v7 =>
  if v7 = v2 then (
    if v2 = 0 then (
      (aJ h6 ot (0 : Int32)).bind fun v10 =>
      if (lg_cmp v10 (v5).toInt64) = 0 then (
        some h6
      ) else (
        none
      )
    ) else (
      some h6
    )
  ) else (
    none
  )
set_option maxHeartbeats 2000000 in
set_option maxRecDepth 20000 in
theorem K_case0 {nm : String} {g : GT} {Γ : CT} {Q : State → Prop} {L : Nat} {xs : Nat → Int32} {x m ot : Nat} {i : Int32} {h h2 : Hp} {ce sl : Nat} (C : Cx g Γ code RL nm 8 ret 2036 601024 7293034) (hX : Scr g Γ L xs) (hc : ce + 1 ≤ 601024) (hs : sl + 6 ≤ 7293034) (hf : f_case0 L xs x m ot i h = some h2) (J : U g Γ 8 Q (ce + 1) (sl + 6) 1662 [(0, .retAddr 0), (1, .ref x), (2, .ref m), (3, .ref ot), (4, .int i)] [] h2) : U g Γ 8 Q ce sl 172 [(0, .retAddr 0), (1, .ref x), (2, .ref m), (3, .ref ot), (4, .int i)] [] h := by
  unfold f_case0 at hf
  refine U_aload_n (n := 173) 1 C dL_law_172 rfl rfl rfl ?_
  refine U_aload_n (n := 174) 0 C dL_law_173 rfl rfl rfl ?_
  refine U_iload (n := 176) 4 C dL_law_174 rfl rfl ?_
  refine U_iconst (n := 177) (1 : Int32) C dL_law_176 kiconst_1 rfl ?_
  refine U_iadd (n := 178) C dL_law_177 rfl ?_
  refine U_sld (n := 179) C hX dL_law_178 hf rfl (fun v1 hf => ?_)
  refine U_aload_n (n := 180) 3 C dL_law_179 rfl rfl rfl ?_
  obtain ⟨v2, h3, ev2, hf⟩ := bsome2 hf
  refine U_callSW (n := 183) C dL_law_180 (av := [.ref x, .int v1, .ref ot]) ml_RL_90 mt_L_begin in_RL mc_L_begin yn_L_begin (by decide) (M_L_begin ev2) (by decide) hc hs (Nat.le_of_ble_eq_true rfl) rfl ?_
  refine U_istore (n := 185) (lv2 := [(5, .int v2), (0, .retAddr 0), (1, .ref x), (2, .ref m), (3, .ref ot), (4, .int i)]) C dL_law_183 (by decide) rfl rfl ?_
  refine U_aload_n (n := 186) 3 C dL_law_185 rfl rfl rfl ?_
  refine U_aload_n (n := 187) 1 C dL_law_186 rfl rfl rfl ?_
  refine U_iload (n := 189) 5 C dL_law_187 rfl rfl ?_
  refine U_iconst (n := 190) (1 : Int32) C dL_law_189 kiconst_1 rfl ?_
  refine U_iadd (n := 191) C dL_law_190 rfl ?_
  refine U_sld (n := 192) C hX dL_law_191 hf rfl (fun v4 hf => ?_)
  obtain ⟨v5, h6, ev5, hf⟩ := bsome2 hf
  refine cv_RL_95 (n := 195) C dL_law_192 (av := [.int v4]) rfl (rc_X4_begin ev5) (M_X4_begin ev5) (by decide) (by omega) (by omega) (Nat.le_of_ble_eq_true rfl) rfl ?_
  refine U_istore (n := 197) (lv2 := [(6, .int v5), (5, .int v2), (0, .retAddr 0), (1, .ref x), (2, .ref m), (3, .ref ot), (4, .int i)]) C dL_law_195 (by decide) rfl rfl ?_
  refine U_aload_n (n := 198) 4 C dL_law_197 rfl rfl rfl ?_
  obtain ⟨v7, ev7, hf⟩ := bsome hf
  refine cv_RL_96 (n := 201) C dL_law_198 (av := []) rfl (rc_X4_thrown ev7) (M_X4_thrown ev7) (by decide) (by omega) (by omega) (Nat.le_of_ble_eq_true rfl) rfl ?_
  refine U_iload (n := 203) 1 C dL_law_201 rfl rfl ?_
  refine U_iceq (tgt := 208) (n := 206) C dL_law_203 (by decide) rfl (fun c8 => ?_) (fun c8 => ?_)
  · replace hf := (if_pos c8).symm.trans hf
    refine U_iload (n := 210) 1 C dL_law_208 rfl rfl ?_
    refine U_ifne (tgt := 225) (n := 213) C dL_law_210 (by decide) rfl (fun c9 => ?_) (fun c9 => ?_)
    · replace hf := (if_pos c9).symm.trans hf
      refine U_aload_n (n := 214) 5 C dL_law_213 rfl rfl rfl ?_
      refine U_iconst (n := 215) (0 : Int32) C dL_law_214 kiconst_0 rfl ?_
      refine U_lald (n := 216) C dL_law_215 hf rfl (fun v10 hf => ?_)
      refine U_iload (n := 218) 0 C dL_law_216 rfl rfl ?_
      refine U_i2l (n := 219) C dL_law_218 rfl ?_
      refine U_lcmp (n := 220) C dL_law_219 rfl ?_
      refine U_ifeq (tgt := 225) (n := 223) C dL_law_220 (by decide) rfl (fun c11 => ?_) (fun c11 => ?_)
      · replace hf := (if_pos c11).symm.trans hf
        refine U_goto (n := 0) (tgt := 1662) C dL_law_225 (by decide) ?_
        have hr := Option.some.inj hf
        subst hr
        exact U_wide (by omega) (by omega) (U_lv [2, 3, 4, 5, 6] rfl J)
      · replace hf := (if_neg c11).symm.trans hf
        refine U_iconst (n := 224) (0 : Int32) C dL_law_223 kiconst_0 rfl ?_
        cases hf
    · replace hf := (if_neg c9).symm.trans hf
      refine U_goto (n := 0) (tgt := 1662) C dL_law_225 (by decide) ?_
      have hr := Option.some.inj hf
      subst hr
      exact U_wide (by omega) (by omega) (U_lv [2, 3, 4, 5, 6] rfl J)
  · replace hf := (if_neg c8).symm.trans hf
    refine U_iconst (n := 207) (0 : Int32) C dL_law_206 kiconst_0 rfl ?_
    cases hf
def f_case1 (L : Nat) (xs : Nat → Int32) (x m ot : Nat) (i : Int32) (h : Hp) : Option Hp :=
  (sR L xs (i + (1 : Int32))).bind fun v1 =>
  (sR L xs (i + (2 : Int32))).bind fun v2 =>
  (sR L xs (i + (3 : Int32))).bind fun v3 =>
  (sR L xs (i + (4 : Int32))).bind fun v4 =>
  bind2 (f_L_give x v1 v2 v3 v4 ot h) fun v5 h6 =>
  (sR L xs (i + (1 : Int32))).bind fun v7 =>
  (sR L xs (i + (2 : Int32))).bind fun v8 =>
  (sR L xs (i + (3 : Int32))).bind fun v9 =>
  (sR L xs (i + (4 : Int32))).bind fun v10 =>
  bind2 (f_X4_give m v7 v8 v9 v10 h6) fun v11 h12 =>
  (f_X4_thrown m h12).bind fun v13 =>
  if v13 = v5 then (
    if v5 = 0 then (
      (aJ h12 ot (0 : Int32)).bind fun v16 =>
      if (lg_cmp v16 (v11).toInt64) = 0 then (
        some h12
      ) else (
        none
      )
    ) else (
      some h12
    )
  ) else (
    none
  )
set_option maxHeartbeats 2000000 in
set_option maxRecDepth 20000 in
theorem K_case1 {nm : String} {g : GT} {Γ : CT} {Q : State → Prop} {L : Nat} {xs : Nat → Int32} {x m ot : Nat} {i : Int32} {h h2 : Hp} {ce sl : Nat} (C : Cx g Γ code RL nm 8 ret 2036 601024 7293034) (hX : Scr g Γ L xs) (hc : ce + 1 ≤ 601024) (hs : sl + 6 ≤ 7293034) (hf : f_case1 L xs x m ot i h = some h2) (J : U g Γ 8 Q (ce + 1) (sl + 6) 1662 [(0, .retAddr 0), (1, .ref x), (2, .ref m), (3, .ref ot), (4, .int i)] [] h2) : U g Γ 8 Q ce sl 228 [(0, .retAddr 0), (1, .ref x), (2, .ref m), (3, .ref ot), (4, .int i)] [] h := by
  unfold f_case1 at hf
  refine U_aload_n (n := 229) 1 C dL_law_228 rfl rfl rfl ?_
  refine U_aload_n (n := 230) 0 C dL_law_229 rfl rfl rfl ?_
  refine U_iload (n := 232) 4 C dL_law_230 rfl rfl ?_
  refine U_iconst (n := 233) (1 : Int32) C dL_law_232 kiconst_1 rfl ?_
  refine U_iadd (n := 234) C dL_law_233 rfl ?_
  refine U_sld (n := 235) C hX dL_law_234 hf rfl (fun v1 hf => ?_)
  refine U_aload_n (n := 236) 0 C dL_law_235 rfl rfl rfl ?_
  refine U_iload (n := 238) 4 C dL_law_236 rfl rfl ?_
  refine U_iconst (n := 239) (2 : Int32) C dL_law_238 kiconst_2 rfl ?_
  refine U_iadd (n := 240) C dL_law_239 rfl ?_
  refine U_sld (n := 241) C hX dL_law_240 hf rfl (fun v2 hf => ?_)
  refine U_aload_n (n := 242) 0 C dL_law_241 rfl rfl rfl ?_
  refine U_iload (n := 244) 4 C dL_law_242 rfl rfl ?_
  refine U_iconst (n := 245) (3 : Int32) C dL_law_244 kiconst_3 rfl ?_
  refine U_iadd (n := 246) C dL_law_245 rfl ?_
  refine U_sld (n := 247) C hX dL_law_246 hf rfl (fun v3 hf => ?_)
  refine U_aload_n (n := 248) 0 C dL_law_247 rfl rfl rfl ?_
  refine U_iload (n := 250) 4 C dL_law_248 rfl rfl ?_
  refine U_iconst (n := 251) (4 : Int32) C dL_law_250 kiconst_4 rfl ?_
  refine U_iadd (n := 252) C dL_law_251 rfl ?_
  refine U_sld (n := 253) C hX dL_law_252 hf rfl (fun v4 hf => ?_)
  refine U_aload_n (n := 254) 3 C dL_law_253 rfl rfl rfl ?_
  obtain ⟨v5, h6, ev5, hf⟩ := bsome2 hf
  refine U_callSW (n := 257) C dL_law_254 (av := [.ref x, .int v1, .int v2, .int v3, .int v4, .ref ot]) ml_RL_99 mt_L_give in_RL mc_L_give yn_L_give (by decide) (M_L_give ev5) (by decide) hc hs (Nat.le_of_ble_eq_true rfl) rfl ?_
  refine U_istore (n := 259) (lv2 := [(5, .int v5), (0, .retAddr 0), (1, .ref x), (2, .ref m), (3, .ref ot), (4, .int i)]) C dL_law_257 (by decide) rfl rfl ?_
  refine U_aload_n (n := 260) 3 C dL_law_259 rfl rfl rfl ?_
  refine U_aload_n (n := 261) 1 C dL_law_260 rfl rfl rfl ?_
  refine U_iload (n := 263) 5 C dL_law_261 rfl rfl ?_
  refine U_iconst (n := 264) (1 : Int32) C dL_law_263 kiconst_1 rfl ?_
  refine U_iadd (n := 265) C dL_law_264 rfl ?_
  refine U_sld (n := 266) C hX dL_law_265 hf rfl (fun v7 hf => ?_)
  refine U_aload_n (n := 267) 1 C dL_law_266 rfl rfl rfl ?_
  refine U_iload (n := 269) 5 C dL_law_267 rfl rfl ?_
  refine U_iconst (n := 270) (2 : Int32) C dL_law_269 kiconst_2 rfl ?_
  refine U_iadd (n := 271) C dL_law_270 rfl ?_
  refine U_sld (n := 272) C hX dL_law_271 hf rfl (fun v8 hf => ?_)
  refine U_aload_n (n := 273) 1 C dL_law_272 rfl rfl rfl ?_
  refine U_iload (n := 275) 5 C dL_law_273 rfl rfl ?_
  refine U_iconst (n := 276) (3 : Int32) C dL_law_275 kiconst_3 rfl ?_
  refine U_iadd (n := 277) C dL_law_276 rfl ?_
  refine U_sld (n := 278) C hX dL_law_277 hf rfl (fun v9 hf => ?_)
  refine U_aload_n (n := 279) 1 C dL_law_278 rfl rfl rfl ?_
  refine U_iload (n := 281) 5 C dL_law_279 rfl rfl ?_
  refine U_iconst (n := 282) (4 : Int32) C dL_law_281 kiconst_4 rfl ?_
  refine U_iadd (n := 283) C dL_law_282 rfl ?_
  refine U_sld (n := 284) C hX dL_law_283 hf rfl (fun v10 hf => ?_)
  obtain ⟨v11, h12, ev11, hf⟩ := bsome2 hf
  refine cv_RL_102 (n := 287) C dL_law_284 (av := [.int v7, .int v8, .int v9, .int v10]) rfl (rc_X4_give ev11) (M_X4_give ev11) (by decide) (by omega) (by omega) (Nat.le_of_ble_eq_true rfl) rfl ?_
  refine U_istore (n := 289) (lv2 := [(6, .int v11), (5, .int v5), (0, .retAddr 0), (1, .ref x), (2, .ref m), (3, .ref ot), (4, .int i)]) C dL_law_287 (by decide) rfl rfl ?_
  refine U_aload_n (n := 290) 4 C dL_law_289 rfl rfl rfl ?_
  obtain ⟨v13, ev13, hf⟩ := bsome hf
  refine cv_RL_96 (n := 293) C dL_law_290 (av := []) rfl (rc_X4_thrown ev13) (M_X4_thrown ev13) (by decide) (by omega) (by omega) (Nat.le_of_ble_eq_true rfl) rfl ?_
  refine U_iload (n := 295) 1 C dL_law_293 rfl rfl ?_
  refine U_iceq (tgt := 300) (n := 298) C dL_law_295 (by decide) rfl (fun c14 => ?_) (fun c14 => ?_)
  · replace hf := (if_pos c14).symm.trans hf
    refine U_iload (n := 302) 1 C dL_law_300 rfl rfl ?_
    refine U_ifne (tgt := 317) (n := 305) C dL_law_302 (by decide) rfl (fun c15 => ?_) (fun c15 => ?_)
    · replace hf := (if_pos c15).symm.trans hf
      refine U_aload_n (n := 306) 5 C dL_law_305 rfl rfl rfl ?_
      refine U_iconst (n := 307) (0 : Int32) C dL_law_306 kiconst_0 rfl ?_
      refine U_lald (n := 308) C dL_law_307 hf rfl (fun v16 hf => ?_)
      refine U_iload (n := 310) 0 C dL_law_308 rfl rfl ?_
      refine U_i2l (n := 311) C dL_law_310 rfl ?_
      refine U_lcmp (n := 312) C dL_law_311 rfl ?_
      refine U_ifeq (tgt := 317) (n := 315) C dL_law_312 (by decide) rfl (fun c17 => ?_) (fun c17 => ?_)
      · replace hf := (if_pos c17).symm.trans hf
        refine U_goto (n := 0) (tgt := 1662) C dL_law_317 (by decide) ?_
        have hr := Option.some.inj hf
        subst hr
        exact U_wide (by omega) (by omega) (U_lv [2, 3, 4, 5, 6] rfl J)
      · replace hf := (if_neg c17).symm.trans hf
        refine U_iconst (n := 316) (0 : Int32) C dL_law_315 kiconst_0 rfl ?_
        cases hf
    · replace hf := (if_neg c15).symm.trans hf
      refine U_goto (n := 0) (tgt := 1662) C dL_law_317 (by decide) ?_
      have hr := Option.some.inj hf
      subst hr
      exact U_wide (by omega) (by omega) (U_lv [2, 3, 4, 5, 6] rfl J)
  · replace hf := (if_neg c14).symm.trans hf
    refine U_iconst (n := 299) (0 : Int32) C dL_law_298 kiconst_0 rfl ?_
    cases hf
def f_case2 (L : Nat) (xs : Nat → Int32) (x m ot : Nat) (i : Int32) (h : Hp) : Option Hp :=
  (sR L xs (i + (1 : Int32))).bind fun v1 =>
  (sR L xs (i + (2 : Int32))).bind fun v2 =>
  (sR L xs (i + (3 : Int32))).bind fun v3 =>
  bind2 (f_L_drop x v1 v2 v3 ot h) fun v4 h5 =>
  (sR L xs (i + (1 : Int32))).bind fun v6 =>
  (sR L xs (i + (2 : Int32))).bind fun v7 =>
  (sR L xs (i + (3 : Int32))).bind fun v8 =>
  bind2 (f_X4_drop m v6 v7 v8 h5) fun v9 h10 =>
  (f_X4_thrown m h10).bind fun v11 =>
  if v11 = v4 then (
    if v4 = 0 then (
      (aJ h10 ot (0 : Int32)).bind fun v14 =>
      if (lg_cmp v14 (v9).toInt64) = 0 then (
        some h10
      ) else (
        none
      )
    ) else (
      some h10
    )
  ) else (
    none
  )
set_option maxHeartbeats 2000000 in
set_option maxRecDepth 20000 in
theorem K_case2 {nm : String} {g : GT} {Γ : CT} {Q : State → Prop} {L : Nat} {xs : Nat → Int32} {x m ot : Nat} {i : Int32} {h h2 : Hp} {ce sl : Nat} (C : Cx g Γ code RL nm 8 ret 2036 601024 7293034) (hX : Scr g Γ L xs) (hc : ce + 1 ≤ 601024) (hs : sl + 6 ≤ 7293034) (hf : f_case2 L xs x m ot i h = some h2) (J : U g Γ 8 Q (ce + 1) (sl + 6) 1662 [(0, .retAddr 0), (1, .ref x), (2, .ref m), (3, .ref ot), (4, .int i)] [] h2) : U g Γ 8 Q ce sl 320 [(0, .retAddr 0), (1, .ref x), (2, .ref m), (3, .ref ot), (4, .int i)] [] h := by
  unfold f_case2 at hf
  refine U_aload_n (n := 321) 1 C dL_law_320 rfl rfl rfl ?_
  refine U_aload_n (n := 322) 0 C dL_law_321 rfl rfl rfl ?_
  refine U_iload (n := 324) 4 C dL_law_322 rfl rfl ?_
  refine U_iconst (n := 325) (1 : Int32) C dL_law_324 kiconst_1 rfl ?_
  refine U_iadd (n := 326) C dL_law_325 rfl ?_
  refine U_sld (n := 327) C hX dL_law_326 hf rfl (fun v1 hf => ?_)
  refine U_aload_n (n := 328) 0 C dL_law_327 rfl rfl rfl ?_
  refine U_iload (n := 330) 4 C dL_law_328 rfl rfl ?_
  refine U_iconst (n := 331) (2 : Int32) C dL_law_330 kiconst_2 rfl ?_
  refine U_iadd (n := 332) C dL_law_331 rfl ?_
  refine U_sld (n := 333) C hX dL_law_332 hf rfl (fun v2 hf => ?_)
  refine U_aload_n (n := 334) 0 C dL_law_333 rfl rfl rfl ?_
  refine U_iload (n := 336) 4 C dL_law_334 rfl rfl ?_
  refine U_iconst (n := 337) (3 : Int32) C dL_law_336 kiconst_3 rfl ?_
  refine U_iadd (n := 338) C dL_law_337 rfl ?_
  refine U_sld (n := 339) C hX dL_law_338 hf rfl (fun v3 hf => ?_)
  refine U_aload_n (n := 340) 3 C dL_law_339 rfl rfl rfl ?_
  obtain ⟨v4, h5, ev4, hf⟩ := bsome2 hf
  refine U_callSW (n := 343) C dL_law_340 (av := [.ref x, .int v1, .int v2, .int v3, .ref ot]) ml_RL_103 mt_L_drop in_RL mc_L_drop yn_L_drop (by decide) (M_L_drop ev4) (by decide) hc hs (Nat.le_of_ble_eq_true rfl) rfl ?_
  refine U_istore (n := 345) (lv2 := [(5, .int v4), (0, .retAddr 0), (1, .ref x), (2, .ref m), (3, .ref ot), (4, .int i)]) C dL_law_343 (by decide) rfl rfl ?_
  refine U_aload_n (n := 346) 3 C dL_law_345 rfl rfl rfl ?_
  refine U_aload_n (n := 347) 1 C dL_law_346 rfl rfl rfl ?_
  refine U_iload (n := 349) 5 C dL_law_347 rfl rfl ?_
  refine U_iconst (n := 350) (1 : Int32) C dL_law_349 kiconst_1 rfl ?_
  refine U_iadd (n := 351) C dL_law_350 rfl ?_
  refine U_sld (n := 352) C hX dL_law_351 hf rfl (fun v6 hf => ?_)
  refine U_aload_n (n := 353) 1 C dL_law_352 rfl rfl rfl ?_
  refine U_iload (n := 355) 5 C dL_law_353 rfl rfl ?_
  refine U_iconst (n := 356) (2 : Int32) C dL_law_355 kiconst_2 rfl ?_
  refine U_iadd (n := 357) C dL_law_356 rfl ?_
  refine U_sld (n := 358) C hX dL_law_357 hf rfl (fun v7 hf => ?_)
  refine U_aload_n (n := 359) 1 C dL_law_358 rfl rfl rfl ?_
  refine U_iload (n := 361) 5 C dL_law_359 rfl rfl ?_
  refine U_iconst (n := 362) (3 : Int32) C dL_law_361 kiconst_3 rfl ?_
  refine U_iadd (n := 363) C dL_law_362 rfl ?_
  refine U_sld (n := 364) C hX dL_law_363 hf rfl (fun v8 hf => ?_)
  obtain ⟨v9, h10, ev9, hf⟩ := bsome2 hf
  refine cv_RL_106 (n := 367) C dL_law_364 (av := [.int v6, .int v7, .int v8]) rfl (rc_X4_drop ev9) (M_X4_drop ev9) (by decide) (by omega) (by omega) (Nat.le_of_ble_eq_true rfl) rfl ?_
  refine U_istore (n := 369) (lv2 := [(6, .int v9), (5, .int v4), (0, .retAddr 0), (1, .ref x), (2, .ref m), (3, .ref ot), (4, .int i)]) C dL_law_367 (by decide) rfl rfl ?_
  refine U_aload_n (n := 370) 4 C dL_law_369 rfl rfl rfl ?_
  obtain ⟨v11, ev11, hf⟩ := bsome hf
  refine cv_RL_96 (n := 373) C dL_law_370 (av := []) rfl (rc_X4_thrown ev11) (M_X4_thrown ev11) (by decide) (by omega) (by omega) (Nat.le_of_ble_eq_true rfl) rfl ?_
  refine U_iload (n := 375) 1 C dL_law_373 rfl rfl ?_
  refine U_iceq (tgt := 380) (n := 378) C dL_law_375 (by decide) rfl (fun c12 => ?_) (fun c12 => ?_)
  · replace hf := (if_pos c12).symm.trans hf
    refine U_iload (n := 382) 1 C dL_law_380 rfl rfl ?_
    refine U_ifne (tgt := 397) (n := 385) C dL_law_382 (by decide) rfl (fun c13 => ?_) (fun c13 => ?_)
    · replace hf := (if_pos c13).symm.trans hf
      refine U_aload_n (n := 386) 5 C dL_law_385 rfl rfl rfl ?_
      refine U_iconst (n := 387) (0 : Int32) C dL_law_386 kiconst_0 rfl ?_
      refine U_lald (n := 388) C dL_law_387 hf rfl (fun v14 hf => ?_)
      refine U_iload (n := 390) 0 C dL_law_388 rfl rfl ?_
      refine U_i2l (n := 391) C dL_law_390 rfl ?_
      refine U_lcmp (n := 392) C dL_law_391 rfl ?_
      refine U_ifeq (tgt := 397) (n := 395) C dL_law_392 (by decide) rfl (fun c15 => ?_) (fun c15 => ?_)
      · replace hf := (if_pos c15).symm.trans hf
        refine U_goto (n := 0) (tgt := 1662) C dL_law_397 (by decide) ?_
        have hr := Option.some.inj hf
        subst hr
        exact U_wide (by omega) (by omega) (U_lv [2, 3, 4, 5, 6] rfl J)
      · replace hf := (if_neg c15).symm.trans hf
        refine U_iconst (n := 396) (0 : Int32) C dL_law_395 kiconst_0 rfl ?_
        cases hf
    · replace hf := (if_neg c13).symm.trans hf
      refine U_goto (n := 0) (tgt := 1662) C dL_law_397 (by decide) ?_
      have hr := Option.some.inj hf
      subst hr
      exact U_wide (by omega) (by omega) (U_lv [2, 3, 4, 5, 6] rfl J)
  · replace hf := (if_neg c12).symm.trans hf
    refine U_iconst (n := 379) (0 : Int32) C dL_law_378 kiconst_0 rfl ?_
    cases hf
def f_case3 (L : Nat) (xs : Nat → Int32) (x m ot : Nat) (i : Int32) (h : Hp) : Option Hp :=
  (sR L xs (i + (1 : Int32))).bind fun v1 =>
  if v1 = 0 then (
    bind2 (f_X3_setUniform x (0 : Int32) h) fun v3 h4 =>
    (sR L xs (i + (1 : Int32))).bind fun v5 =>
    if v5 = 0 then (
      bind2 (f_X4_setUniform m (0 : Int32) h4) fun v7 h8 =>
      if v3 = v7 then (
        some h8
      ) else (
        none
      )
    ) else (
      bind2 (f_X4_setUniform m (1 : Int32) h4) fun v10 h11 =>
      if v3 = v10 then (
        some h11
      ) else (
        none
      )
    )
  ) else (
    bind2 (f_X3_setUniform x (1 : Int32) h) fun v13 h14 =>
    (sR L xs (i + (1 : Int32))).bind fun v15 =>
    if v15 = 0 then (
      bind2 (f_X4_setUniform m (0 : Int32) h14) fun v17 h18 =>
      if v13 = v17 then (
        some h18
      ) else (
        none
      )
    ) else (
      bind2 (f_X4_setUniform m (1 : Int32) h14) fun v20 h21 =>
      if v13 = v20 then (
        some h21
      ) else (
        none
      )
    )
  )
set_option maxHeartbeats 2000000 in
set_option maxRecDepth 20000 in
theorem K_case3 {nm : String} {g : GT} {Γ : CT} {Q : State → Prop} {L : Nat} {xs : Nat → Int32} {x m ot : Nat} {i : Int32} {h h2 : Hp} {ce sl : Nat} (C : Cx g Γ code RL nm 8 ret 2036 601024 7293034) (hX : Scr g Γ L xs) (hc : ce + 1 ≤ 601024) (hs : sl + 6 ≤ 7293034) (hf : f_case3 L xs x m ot i h = some h2) (J : U g Γ 8 Q (ce + 1) (sl + 6) 1662 [(0, .retAddr 0), (1, .ref x), (2, .ref m), (3, .ref ot), (4, .int i)] [] h2) : U g Γ 8 Q ce sl 400 [(0, .retAddr 0), (1, .ref x), (2, .ref m), (3, .ref ot), (4, .int i)] [] h := by
  unfold f_case3 at hf
  refine U_aload_n (n := 401) 1 C dL_law_400 rfl rfl rfl ?_
  refine U_aload_n (n := 402) 0 C dL_law_401 rfl rfl rfl ?_
  refine U_iload (n := 404) 4 C dL_law_402 rfl rfl ?_
  refine U_iconst (n := 405) (1 : Int32) C dL_law_404 kiconst_1 rfl ?_
  refine U_iadd (n := 406) C dL_law_405 rfl ?_
  refine U_sld (n := 407) C hX dL_law_406 hf rfl (fun v1 hf => ?_)
  refine U_ifeq (tgt := 414) (n := 410) C dL_law_407 (by decide) rfl (fun c2 => ?_) (fun c2 => ?_)
  · replace hf := (if_pos c2).symm.trans hf
    refine U_iconst (n := 415) (0 : Int32) C dL_law_414 kiconst_0 rfl ?_
    obtain ⟨v3, h4, ev3, hf⟩ := bsome2 hf
    refine cv_RL_107 (n := 418) C dL_law_415 (av := [.int (0 : Int32)]) rfl (rc_X3_setUniform ev3) (M_X3_setUniform ev3) (by decide) (by omega) (by omega) (Nat.le_of_ble_eq_true rfl) rfl ?_
    refine U_aload_n (n := 419) 2 C dL_law_418 rfl rfl rfl ?_
    refine U_aload_n (n := 420) 0 C dL_law_419 rfl rfl rfl ?_
    refine U_iload (n := 422) 4 C dL_law_420 rfl rfl ?_
    refine U_iconst (n := 423) (1 : Int32) C dL_law_422 kiconst_1 rfl ?_
    refine U_iadd (n := 424) C dL_law_423 rfl ?_
    refine U_sld (n := 425) C hX dL_law_424 hf rfl (fun v5 hf => ?_)
    refine U_ifeq (tgt := 432) (n := 428) C dL_law_425 (by decide) rfl (fun c6 => ?_) (fun c6 => ?_)
    · replace hf := (if_pos c6).symm.trans hf
      refine U_iconst (n := 433) (0 : Int32) C dL_law_432 kiconst_0 rfl ?_
      obtain ⟨v7, h8, ev7, hf⟩ := bsome2 hf
      refine cv_RL_111 (n := 436) C dL_law_433 (av := [.int (0 : Int32)]) rfl (rc_X4_setUniform ev7) (M_X4_setUniform ev7) (by decide) (by omega) (by omega) (Nat.le_of_ble_eq_true rfl) rfl ?_
      refine U_iceq (tgt := 1662) (n := 439) C dL_law_436 (by decide) rfl (fun c9 => ?_) (fun c9 => ?_)
      · replace hf := (if_pos c9).symm.trans hf
        have hr := Option.some.inj hf
        subst hr
        exact U_wide (by omega) (by omega) (U_lv [0, 1, 2, 3, 4] rfl J)
      · replace hf := (if_neg c9).symm.trans hf
        refine U_iconst (n := 440) (0 : Int32) C dL_law_439 kiconst_0 rfl ?_
        cases hf
    · replace hf := (if_neg c6).symm.trans hf
      refine U_iconst (n := 429) (1 : Int32) C dL_law_428 kiconst_1 rfl ?_
      refine U_goto (n := 0) (tgt := 433) C dL_law_429 (by decide) ?_
      obtain ⟨v10, h11, ev10, hf⟩ := bsome2 hf
      refine cv_RL_111 (n := 436) C dL_law_433 (av := [.int (1 : Int32)]) rfl (rc_X4_setUniform ev10) (M_X4_setUniform ev10) (by decide) (by omega) (by omega) (Nat.le_of_ble_eq_true rfl) rfl ?_
      refine U_iceq (tgt := 1662) (n := 439) C dL_law_436 (by decide) rfl (fun c12 => ?_) (fun c12 => ?_)
      · replace hf := (if_pos c12).symm.trans hf
        have hr := Option.some.inj hf
        subst hr
        exact U_wide (by omega) (by omega) (U_lv [0, 1, 2, 3, 4] rfl J)
      · replace hf := (if_neg c12).symm.trans hf
        refine U_iconst (n := 440) (0 : Int32) C dL_law_439 kiconst_0 rfl ?_
        cases hf
  · replace hf := (if_neg c2).symm.trans hf
    refine U_iconst (n := 411) (1 : Int32) C dL_law_410 kiconst_1 rfl ?_
    refine U_goto (n := 0) (tgt := 415) C dL_law_411 (by decide) ?_
    obtain ⟨v13, h14, ev13, hf⟩ := bsome2 hf
    refine cv_RL_107 (n := 418) C dL_law_415 (av := [.int (1 : Int32)]) rfl (rc_X3_setUniform ev13) (M_X3_setUniform ev13) (by decide) (by omega) (by omega) (Nat.le_of_ble_eq_true rfl) rfl ?_
    refine U_aload_n (n := 419) 2 C dL_law_418 rfl rfl rfl ?_
    refine U_aload_n (n := 420) 0 C dL_law_419 rfl rfl rfl ?_
    refine U_iload (n := 422) 4 C dL_law_420 rfl rfl ?_
    refine U_iconst (n := 423) (1 : Int32) C dL_law_422 kiconst_1 rfl ?_
    refine U_iadd (n := 424) C dL_law_423 rfl ?_
    refine U_sld (n := 425) C hX dL_law_424 hf rfl (fun v15 hf => ?_)
    refine U_ifeq (tgt := 432) (n := 428) C dL_law_425 (by decide) rfl (fun c16 => ?_) (fun c16 => ?_)
    · replace hf := (if_pos c16).symm.trans hf
      refine U_iconst (n := 433) (0 : Int32) C dL_law_432 kiconst_0 rfl ?_
      obtain ⟨v17, h18, ev17, hf⟩ := bsome2 hf
      refine cv_RL_111 (n := 436) C dL_law_433 (av := [.int (0 : Int32)]) rfl (rc_X4_setUniform ev17) (M_X4_setUniform ev17) (by decide) (by omega) (by omega) (Nat.le_of_ble_eq_true rfl) rfl ?_
      refine U_iceq (tgt := 1662) (n := 439) C dL_law_436 (by decide) rfl (fun c19 => ?_) (fun c19 => ?_)
      · replace hf := (if_pos c19).symm.trans hf
        have hr := Option.some.inj hf
        subst hr
        exact U_wide (by omega) (by omega) (U_lv [0, 1, 2, 3, 4] rfl J)
      · replace hf := (if_neg c19).symm.trans hf
        refine U_iconst (n := 440) (0 : Int32) C dL_law_439 kiconst_0 rfl ?_
        cases hf
    · replace hf := (if_neg c16).symm.trans hf
      refine U_iconst (n := 429) (1 : Int32) C dL_law_428 kiconst_1 rfl ?_
      refine U_goto (n := 0) (tgt := 433) C dL_law_429 (by decide) ?_
      obtain ⟨v20, h21, ev20, hf⟩ := bsome2 hf
      refine cv_RL_111 (n := 436) C dL_law_433 (av := [.int (1 : Int32)]) rfl (rc_X4_setUniform ev20) (M_X4_setUniform ev20) (by decide) (by omega) (by omega) (Nat.le_of_ble_eq_true rfl) rfl ?_
      refine U_iceq (tgt := 1662) (n := 439) C dL_law_436 (by decide) rfl (fun c22 => ?_) (fun c22 => ?_)
      · replace hf := (if_pos c22).symm.trans hf
        have hr := Option.some.inj hf
        subst hr
        exact U_wide (by omega) (by omega) (U_lv [0, 1, 2, 3, 4] rfl J)
      · replace hf := (if_neg c22).symm.trans hf
        refine U_iconst (n := 440) (0 : Int32) C dL_law_439 kiconst_0 rfl ?_
        cases hf
def f_case4 (L : Nat) (xs : Nat → Int32) (x m ot : Nat) (i : Int32) (h : Hp) : Option Hp :=
  bind2 (f_X3_derive x h) fun v1 h2 =>
  bind2 (f_X4_derive m h2) fun v3 h4 =>
  if v1 = v3 then (
    some h4
  ) else (
    none
  )
set_option maxHeartbeats 2000000 in
set_option maxRecDepth 20000 in
theorem K_case4 {nm : String} {g : GT} {Γ : CT} {Q : State → Prop} {L : Nat} {xs : Nat → Int32} {x m ot : Nat} {i : Int32} {h h2 : Hp} {ce sl : Nat} (C : Cx g Γ code RL nm 8 ret 2036 601024 7293034) (hX : Scr g Γ L xs) (hc : ce + 1 ≤ 601024) (hs : sl + 6 ≤ 7293034) (hf : f_case4 L xs x m ot i h = some h2) (J : U g Γ 8 Q (ce + 1) (sl + 6) 1662 [(0, .retAddr 0), (1, .ref x), (2, .ref m), (3, .ref ot), (4, .int i)] [] h2) : U g Γ 8 Q ce sl 441 [(0, .retAddr 0), (1, .ref x), (2, .ref m), (3, .ref ot), (4, .int i)] [] h := by
  unfold f_case4 at hf
  refine U_aload_n (n := 442) 1 C dL_law_441 rfl rfl rfl ?_
  obtain ⟨v1, h2, ev1, hf⟩ := bsome2 hf
  refine cv_RL_112 (n := 445) C dL_law_442 (av := []) rfl (rc_X3_derive ev1) (M_X3_derive ev1) (by decide) (by omega) (by omega) (Nat.le_of_ble_eq_true rfl) rfl ?_
  refine U_aload_n (n := 446) 2 C dL_law_445 rfl rfl rfl ?_
  obtain ⟨v3, h4, ev3, hf⟩ := bsome2 hf
  refine cv_RL_115 (n := 449) C dL_law_446 (av := []) rfl (rc_X4_derive ev3) (M_X4_derive ev3) (by decide) (by omega) (by omega) (Nat.le_of_ble_eq_true rfl) rfl ?_
  refine U_iceq (tgt := 1662) (n := 452) C dL_law_449 (by decide) rfl (fun c5 => ?_) (fun c5 => ?_)
  · replace hf := (if_pos c5).symm.trans hf
    have hr := Option.some.inj hf
    subst hr
    exact U_wide (by omega) (by omega) (U_lv [0, 1, 2, 3, 4] rfl J)
  · replace hf := (if_neg c5).symm.trans hf
    refine U_iconst (n := 453) (0 : Int32) C dL_law_452 kiconst_0 rfl ?_
    cases hf
def f_case5 (L : Nat) (xs : Nat → Int32) (x m ot : Nat) (i : Int32) (h : Hp) : Option Hp :=
  bind2 (f_X3_forget x h) fun v1 h2 =>
  bind2 (f_X4_forget m h2) fun v3 h4 =>
  if v1 = v3 then (
    some h4
  ) else (
    none
  )
set_option maxHeartbeats 2000000 in
set_option maxRecDepth 20000 in
theorem K_case5 {nm : String} {g : GT} {Γ : CT} {Q : State → Prop} {L : Nat} {xs : Nat → Int32} {x m ot : Nat} {i : Int32} {h h2 : Hp} {ce sl : Nat} (C : Cx g Γ code RL nm 8 ret 2036 601024 7293034) (hX : Scr g Γ L xs) (hc : ce + 1 ≤ 601024) (hs : sl + 6 ≤ 7293034) (hf : f_case5 L xs x m ot i h = some h2) (J : U g Γ 8 Q (ce + 1) (sl + 6) 1662 [(0, .retAddr 0), (1, .ref x), (2, .ref m), (3, .ref ot), (4, .int i)] [] h2) : U g Γ 8 Q ce sl 454 [(0, .retAddr 0), (1, .ref x), (2, .ref m), (3, .ref ot), (4, .int i)] [] h := by
  unfold f_case5 at hf
  refine U_aload_n (n := 455) 1 C dL_law_454 rfl rfl rfl ?_
  obtain ⟨v1, h2, ev1, hf⟩ := bsome2 hf
  refine cv_RL_116 (n := 458) C dL_law_455 (av := []) rfl (rc_X3_forget ev1) (M_X3_forget ev1) (by decide) (by omega) (by omega) (Nat.le_of_ble_eq_true rfl) rfl ?_
  refine U_aload_n (n := 459) 2 C dL_law_458 rfl rfl rfl ?_
  obtain ⟨v3, h4, ev3, hf⟩ := bsome2 hf
  refine cv_RL_119 (n := 462) C dL_law_459 (av := []) rfl (rc_X4_forget ev3) (M_X4_forget ev3) (by decide) (by omega) (by omega) (Nat.le_of_ble_eq_true rfl) rfl ?_
  refine U_iceq (tgt := 1662) (n := 465) C dL_law_462 (by decide) rfl (fun c5 => ?_) (fun c5 => ?_)
  · replace hf := (if_pos c5).symm.trans hf
    have hr := Option.some.inj hf
    subst hr
    exact U_wide (by omega) (by omega) (U_lv [0, 1, 2, 3, 4] rfl J)
  · replace hf := (if_neg c5).symm.trans hf
    refine U_iconst (n := 466) (0 : Int32) C dL_law_465 kiconst_0 rfl ?_
    cases hf
def f_case6 (L : Nat) (xs : Nat → Int32) (x m ot : Nat) (i : Int32) (h : Hp) : Option Hp :=
  bind2 (f_X3_mirror x h) fun v1 h2 =>
  bind2 (f_X4_mirror m h2) fun v3 h4 =>
  if v1 = v3 then (
    some h4
  ) else (
    none
  )
set_option maxHeartbeats 2000000 in
set_option maxRecDepth 20000 in
theorem K_case6 {nm : String} {g : GT} {Γ : CT} {Q : State → Prop} {L : Nat} {xs : Nat → Int32} {x m ot : Nat} {i : Int32} {h h2 : Hp} {ce sl : Nat} (C : Cx g Γ code RL nm 8 ret 2036 601024 7293034) (hX : Scr g Γ L xs) (hc : ce + 1 ≤ 601024) (hs : sl + 6 ≤ 7293034) (hf : f_case6 L xs x m ot i h = some h2) (J : U g Γ 8 Q (ce + 1) (sl + 6) 1662 [(0, .retAddr 0), (1, .ref x), (2, .ref m), (3, .ref ot), (4, .int i)] [] h2) : U g Γ 8 Q ce sl 467 [(0, .retAddr 0), (1, .ref x), (2, .ref m), (3, .ref ot), (4, .int i)] [] h := by
  unfold f_case6 at hf
  refine U_aload_n (n := 468) 1 C dL_law_467 rfl rfl rfl ?_
  obtain ⟨v1, h2, ev1, hf⟩ := bsome2 hf
  refine cv_RL_120 (n := 471) C dL_law_468 (av := []) rfl (rc_X3_mirror ev1) (M_X3_mirror ev1) (by decide) (by omega) (by omega) (Nat.le_of_ble_eq_true rfl) rfl ?_
  refine U_aload_n (n := 472) 2 C dL_law_471 rfl rfl rfl ?_
  obtain ⟨v3, h4, ev3, hf⟩ := bsome2 hf
  refine cv_RL_123 (n := 475) C dL_law_472 (av := []) rfl (rc_X4_mirror ev3) (M_X4_mirror ev3) (by decide) (by omega) (by omega) (Nat.le_of_ble_eq_true rfl) rfl ?_
  refine U_iceq (tgt := 1662) (n := 478) C dL_law_475 (by decide) rfl (fun c5 => ?_) (fun c5 => ?_)
  · replace hf := (if_pos c5).symm.trans hf
    have hr := Option.some.inj hf
    subst hr
    exact U_wide (by omega) (by omega) (U_lv [0, 1, 2, 3, 4] rfl J)
  · replace hf := (if_neg c5).symm.trans hf
    refine U_iconst (n := 479) (0 : Int32) C dL_law_478 kiconst_0 rfl ?_
    cases hf
def f_case7 (L : Nat) (xs : Nat → Int32) (x m ot : Nat) (i : Int32) (h : Hp) : Option Hp :=
  (sR L xs (i + (1 : Int32))).bind fun v1 =>
  bind2 (f_L_turn x v1 ot h) fun v2 h3 =>
  (sR L xs (i + (1 : Int32))).bind fun v4 =>
  bind2 (f_X4_turn m v4 h3) fun v5 h6 =>
  (f_X4_thrown m h6).bind fun v7 =>
  if v7 = v2 then (
    if v2 = 0 then (
      (aJ h6 ot (0 : Int32)).bind fun v10 =>
      if (lg_cmp v10 (v5).toInt64) = 0 then (
        some h6
      ) else (
        none
      )
    ) else (
      some h6
    )
  ) else (
    none
  )
set_option maxHeartbeats 2000000 in
set_option maxRecDepth 20000 in
theorem K_case7 {nm : String} {g : GT} {Γ : CT} {Q : State → Prop} {L : Nat} {xs : Nat → Int32} {x m ot : Nat} {i : Int32} {h h2 : Hp} {ce sl : Nat} (C : Cx g Γ code RL nm 8 ret 2036 601024 7293034) (hX : Scr g Γ L xs) (hc : ce + 1 ≤ 601024) (hs : sl + 6 ≤ 7293034) (hf : f_case7 L xs x m ot i h = some h2) (J : U g Γ 8 Q (ce + 1) (sl + 6) 1662 [(0, .retAddr 0), (1, .ref x), (2, .ref m), (3, .ref ot), (4, .int i)] [] h2) : U g Γ 8 Q ce sl 480 [(0, .retAddr 0), (1, .ref x), (2, .ref m), (3, .ref ot), (4, .int i)] [] h := by
  unfold f_case7 at hf
  refine U_aload_n (n := 481) 1 C dL_law_480 rfl rfl rfl ?_
  refine U_aload_n (n := 482) 0 C dL_law_481 rfl rfl rfl ?_
  refine U_iload (n := 484) 4 C dL_law_482 rfl rfl ?_
  refine U_iconst (n := 485) (1 : Int32) C dL_law_484 kiconst_1 rfl ?_
  refine U_iadd (n := 486) C dL_law_485 rfl ?_
  refine U_sld (n := 487) C hX dL_law_486 hf rfl (fun v1 hf => ?_)
  refine U_aload_n (n := 488) 3 C dL_law_487 rfl rfl rfl ?_
  obtain ⟨v2, h3, ev2, hf⟩ := bsome2 hf
  refine U_callSW (n := 491) C dL_law_488 (av := [.ref x, .int v1, .ref ot]) ml_RL_124 mt_L_turn in_RL mc_L_turn yn_L_turn (by decide) (M_L_turn ev2) (by decide) hc hs (Nat.le_of_ble_eq_true rfl) rfl ?_
  refine U_istore (n := 493) (lv2 := [(5, .int v2), (0, .retAddr 0), (1, .ref x), (2, .ref m), (3, .ref ot), (4, .int i)]) C dL_law_491 (by decide) rfl rfl ?_
  refine U_aload_n (n := 494) 3 C dL_law_493 rfl rfl rfl ?_
  refine U_aload_n (n := 495) 1 C dL_law_494 rfl rfl rfl ?_
  refine U_iload (n := 497) 5 C dL_law_495 rfl rfl ?_
  refine U_iconst (n := 498) (1 : Int32) C dL_law_497 kiconst_1 rfl ?_
  refine U_iadd (n := 499) C dL_law_498 rfl ?_
  refine U_sld (n := 500) C hX dL_law_499 hf rfl (fun v4 hf => ?_)
  obtain ⟨v5, h6, ev5, hf⟩ := bsome2 hf
  refine cv_RL_126 (n := 503) C dL_law_500 (av := [.int v4]) rfl (rc_X4_turn ev5) (M_X4_turn ev5) (by decide) (by omega) (by omega) (Nat.le_of_ble_eq_true rfl) rfl ?_
  refine U_istore (n := 505) (lv2 := [(6, .int v5), (5, .int v2), (0, .retAddr 0), (1, .ref x), (2, .ref m), (3, .ref ot), (4, .int i)]) C dL_law_503 (by decide) rfl rfl ?_
  refine U_aload_n (n := 506) 4 C dL_law_505 rfl rfl rfl ?_
  obtain ⟨v7, ev7, hf⟩ := bsome hf
  refine cv_RL_96 (n := 509) C dL_law_506 (av := []) rfl (rc_X4_thrown ev7) (M_X4_thrown ev7) (by decide) (by omega) (by omega) (Nat.le_of_ble_eq_true rfl) rfl ?_
  refine U_iload (n := 511) 1 C dL_law_509 rfl rfl ?_
  refine U_iceq (tgt := 516) (n := 514) C dL_law_511 (by decide) rfl (fun c8 => ?_) (fun c8 => ?_)
  · replace hf := (if_pos c8).symm.trans hf
    refine U_iload (n := 518) 1 C dL_law_516 rfl rfl ?_
    refine U_ifne (tgt := 533) (n := 521) C dL_law_518 (by decide) rfl (fun c9 => ?_) (fun c9 => ?_)
    · replace hf := (if_pos c9).symm.trans hf
      refine U_aload_n (n := 522) 5 C dL_law_521 rfl rfl rfl ?_
      refine U_iconst (n := 523) (0 : Int32) C dL_law_522 kiconst_0 rfl ?_
      refine U_lald (n := 524) C dL_law_523 hf rfl (fun v10 hf => ?_)
      refine U_iload (n := 526) 0 C dL_law_524 rfl rfl ?_
      refine U_i2l (n := 527) C dL_law_526 rfl ?_
      refine U_lcmp (n := 528) C dL_law_527 rfl ?_
      refine U_ifeq (tgt := 533) (n := 531) C dL_law_528 (by decide) rfl (fun c11 => ?_) (fun c11 => ?_)
      · replace hf := (if_pos c11).symm.trans hf
        refine U_goto (n := 0) (tgt := 1662) C dL_law_533 (by decide) ?_
        have hr := Option.some.inj hf
        subst hr
        exact U_wide (by omega) (by omega) (U_lv [2, 3, 4, 5, 6] rfl J)
      · replace hf := (if_neg c11).symm.trans hf
        refine U_iconst (n := 532) (0 : Int32) C dL_law_531 kiconst_0 rfl ?_
        cases hf
    · replace hf := (if_neg c9).symm.trans hf
      refine U_goto (n := 0) (tgt := 1662) C dL_law_533 (by decide) ?_
      have hr := Option.some.inj hf
      subst hr
      exact U_wide (by omega) (by omega) (U_lv [2, 3, 4, 5, 6] rfl J)
  · replace hf := (if_neg c8).symm.trans hf
    refine U_iconst (n := 515) (0 : Int32) C dL_law_514 kiconst_0 rfl ?_
    cases hf
def f_case8 (L : Nat) (xs : Nat → Int32) (x m ot : Nat) (i : Int32) (h : Hp) : Option Hp :=
  (sR L xs (i + (1 : Int32))).bind fun v1 =>
  (sR L xs (i + (2 : Int32))).bind fun v2 =>
  bind2 (f_L_exchange x v1 v2 ot h) fun v3 h4 =>
  (sR L xs (i + (1 : Int32))).bind fun v5 =>
  (sR L xs (i + (2 : Int32))).bind fun v6 =>
  bind2 (f_X4_exchange m v5 v6 h4) fun v7 h8 =>
  (f_X4_thrown m h8).bind fun v9 =>
  if v9 = v3 then (
    if v3 = 0 then (
      (aJ h8 ot (0 : Int32)).bind fun v12 =>
      if (lg_cmp v12 (v7).toInt64) = 0 then (
        some h8
      ) else (
        none
      )
    ) else (
      some h8
    )
  ) else (
    none
  )
set_option maxHeartbeats 2000000 in
set_option maxRecDepth 20000 in
theorem K_case8 {nm : String} {g : GT} {Γ : CT} {Q : State → Prop} {L : Nat} {xs : Nat → Int32} {x m ot : Nat} {i : Int32} {h h2 : Hp} {ce sl : Nat} (C : Cx g Γ code RL nm 8 ret 2036 601024 7293034) (hX : Scr g Γ L xs) (hc : ce + 1 ≤ 601024) (hs : sl + 6 ≤ 7293034) (hf : f_case8 L xs x m ot i h = some h2) (J : U g Γ 8 Q (ce + 1) (sl + 6) 1662 [(0, .retAddr 0), (1, .ref x), (2, .ref m), (3, .ref ot), (4, .int i)] [] h2) : U g Γ 8 Q ce sl 536 [(0, .retAddr 0), (1, .ref x), (2, .ref m), (3, .ref ot), (4, .int i)] [] h := by
  unfold f_case8 at hf
  refine U_aload_n (n := 537) 1 C dL_law_536 rfl rfl rfl ?_
  refine U_aload_n (n := 538) 0 C dL_law_537 rfl rfl rfl ?_
  refine U_iload (n := 540) 4 C dL_law_538 rfl rfl ?_
  refine U_iconst (n := 541) (1 : Int32) C dL_law_540 kiconst_1 rfl ?_
  refine U_iadd (n := 542) C dL_law_541 rfl ?_
  refine U_sld (n := 543) C hX dL_law_542 hf rfl (fun v1 hf => ?_)
  refine U_aload_n (n := 544) 0 C dL_law_543 rfl rfl rfl ?_
  refine U_iload (n := 546) 4 C dL_law_544 rfl rfl ?_
  refine U_iconst (n := 547) (2 : Int32) C dL_law_546 kiconst_2 rfl ?_
  refine U_iadd (n := 548) C dL_law_547 rfl ?_
  refine U_sld (n := 549) C hX dL_law_548 hf rfl (fun v2 hf => ?_)
  refine U_aload_n (n := 550) 3 C dL_law_549 rfl rfl rfl ?_
  obtain ⟨v3, h4, ev3, hf⟩ := bsome2 hf
  refine U_callSW (n := 553) C dL_law_550 (av := [.ref x, .int v1, .int v2, .ref ot]) ml_RL_127 mt_L_exchange in_RL mc_L_exchange yn_L_exchange (by decide) (M_L_exchange ev3) (by decide) hc hs (Nat.le_of_ble_eq_true rfl) rfl ?_
  refine U_istore (n := 555) (lv2 := [(5, .int v3), (0, .retAddr 0), (1, .ref x), (2, .ref m), (3, .ref ot), (4, .int i)]) C dL_law_553 (by decide) rfl rfl ?_
  refine U_aload_n (n := 556) 3 C dL_law_555 rfl rfl rfl ?_
  refine U_aload_n (n := 557) 1 C dL_law_556 rfl rfl rfl ?_
  refine U_iload (n := 559) 5 C dL_law_557 rfl rfl ?_
  refine U_iconst (n := 560) (1 : Int32) C dL_law_559 kiconst_1 rfl ?_
  refine U_iadd (n := 561) C dL_law_560 rfl ?_
  refine U_sld (n := 562) C hX dL_law_561 hf rfl (fun v5 hf => ?_)
  refine U_aload_n (n := 563) 1 C dL_law_562 rfl rfl rfl ?_
  refine U_iload (n := 565) 5 C dL_law_563 rfl rfl ?_
  refine U_iconst (n := 566) (2 : Int32) C dL_law_565 kiconst_2 rfl ?_
  refine U_iadd (n := 567) C dL_law_566 rfl ?_
  refine U_sld (n := 568) C hX dL_law_567 hf rfl (fun v6 hf => ?_)
  obtain ⟨v7, h8, ev7, hf⟩ := bsome2 hf
  refine cv_RL_130 (n := 571) C dL_law_568 (av := [.int v5, .int v6]) rfl (rc_X4_exchange ev7) (M_X4_exchange ev7) (by decide) (by omega) (by omega) (Nat.le_of_ble_eq_true rfl) rfl ?_
  refine U_istore (n := 573) (lv2 := [(6, .int v7), (5, .int v3), (0, .retAddr 0), (1, .ref x), (2, .ref m), (3, .ref ot), (4, .int i)]) C dL_law_571 (by decide) rfl rfl ?_
  refine U_aload_n (n := 574) 4 C dL_law_573 rfl rfl rfl ?_
  obtain ⟨v9, ev9, hf⟩ := bsome hf
  refine cv_RL_96 (n := 577) C dL_law_574 (av := []) rfl (rc_X4_thrown ev9) (M_X4_thrown ev9) (by decide) (by omega) (by omega) (Nat.le_of_ble_eq_true rfl) rfl ?_
  refine U_iload (n := 579) 1 C dL_law_577 rfl rfl ?_
  refine U_iceq (tgt := 584) (n := 582) C dL_law_579 (by decide) rfl (fun c10 => ?_) (fun c10 => ?_)
  · replace hf := (if_pos c10).symm.trans hf
    refine U_iload (n := 586) 1 C dL_law_584 rfl rfl ?_
    refine U_ifne (tgt := 601) (n := 589) C dL_law_586 (by decide) rfl (fun c11 => ?_) (fun c11 => ?_)
    · replace hf := (if_pos c11).symm.trans hf
      refine U_aload_n (n := 590) 5 C dL_law_589 rfl rfl rfl ?_
      refine U_iconst (n := 591) (0 : Int32) C dL_law_590 kiconst_0 rfl ?_
      refine U_lald (n := 592) C dL_law_591 hf rfl (fun v12 hf => ?_)
      refine U_iload (n := 594) 0 C dL_law_592 rfl rfl ?_
      refine U_i2l (n := 595) C dL_law_594 rfl ?_
      refine U_lcmp (n := 596) C dL_law_595 rfl ?_
      refine U_ifeq (tgt := 601) (n := 599) C dL_law_596 (by decide) rfl (fun c13 => ?_) (fun c13 => ?_)
      · replace hf := (if_pos c13).symm.trans hf
        refine U_goto (n := 0) (tgt := 1662) C dL_law_601 (by decide) ?_
        have hr := Option.some.inj hf
        subst hr
        exact U_wide (by omega) (by omega) (U_lv [2, 3, 4, 5, 6] rfl J)
      · replace hf := (if_neg c13).symm.trans hf
        refine U_iconst (n := 600) (0 : Int32) C dL_law_599 kiconst_0 rfl ?_
        cases hf
    · replace hf := (if_neg c11).symm.trans hf
      refine U_goto (n := 0) (tgt := 1662) C dL_law_601 (by decide) ?_
      have hr := Option.some.inj hf
      subst hr
      exact U_wide (by omega) (by omega) (U_lv [2, 3, 4, 5, 6] rfl J)
  · replace hf := (if_neg c10).symm.trans hf
    refine U_iconst (n := 583) (0 : Int32) C dL_law_582 kiconst_0 rfl ?_
    cases hf
def f_case9 (L : Nat) (xs : Nat → Int32) (x m ot : Nat) (i : Int32) (h : Hp) : Option Hp :=
  (sR L xs (i + (1 : Int32))).bind fun v1 =>
  (sR L xs (i + (2 : Int32))).bind fun v2 =>
  (sR L xs (i + (3 : Int32))).bind fun v3 =>
  bind2 (f_L_sign x v1 v2 v3 ot h) fun v4 h5 =>
  (sR L xs (i + (1 : Int32))).bind fun v6 =>
  (sR L xs (i + (2 : Int32))).bind fun v7 =>
  (sR L xs (i + (3 : Int32))).bind fun v8 =>
  bind2 (f_X4_sign m v6 v7 v8 h5) fun v9 h10 =>
  (f_X4_thrown m h10).bind fun v11 =>
  if v11 = v4 then (
    if v4 = 0 then (
      (aJ h10 ot (0 : Int32)).bind fun v14 =>
      if (lg_cmp v14 (v9).toInt64) = 0 then (
        some h10
      ) else (
        none
      )
    ) else (
      some h10
    )
  ) else (
    none
  )
set_option maxHeartbeats 2000000 in
set_option maxRecDepth 20000 in
theorem K_case9 {nm : String} {g : GT} {Γ : CT} {Q : State → Prop} {L : Nat} {xs : Nat → Int32} {x m ot : Nat} {i : Int32} {h h2 : Hp} {ce sl : Nat} (C : Cx g Γ code RL nm 8 ret 2036 601024 7293034) (hX : Scr g Γ L xs) (hc : ce + 1 ≤ 601024) (hs : sl + 6 ≤ 7293034) (hf : f_case9 L xs x m ot i h = some h2) (J : U g Γ 8 Q (ce + 1) (sl + 6) 1662 [(0, .retAddr 0), (1, .ref x), (2, .ref m), (3, .ref ot), (4, .int i)] [] h2) : U g Γ 8 Q ce sl 604 [(0, .retAddr 0), (1, .ref x), (2, .ref m), (3, .ref ot), (4, .int i)] [] h := by
  unfold f_case9 at hf
  refine U_aload_n (n := 605) 1 C dL_law_604 rfl rfl rfl ?_
  refine U_aload_n (n := 606) 0 C dL_law_605 rfl rfl rfl ?_
  refine U_iload (n := 608) 4 C dL_law_606 rfl rfl ?_
  refine U_iconst (n := 609) (1 : Int32) C dL_law_608 kiconst_1 rfl ?_
  refine U_iadd (n := 610) C dL_law_609 rfl ?_
  refine U_sld (n := 611) C hX dL_law_610 hf rfl (fun v1 hf => ?_)
  refine U_aload_n (n := 612) 0 C dL_law_611 rfl rfl rfl ?_
  refine U_iload (n := 614) 4 C dL_law_612 rfl rfl ?_
  refine U_iconst (n := 615) (2 : Int32) C dL_law_614 kiconst_2 rfl ?_
  refine U_iadd (n := 616) C dL_law_615 rfl ?_
  refine U_sld (n := 617) C hX dL_law_616 hf rfl (fun v2 hf => ?_)
  refine U_aload_n (n := 618) 0 C dL_law_617 rfl rfl rfl ?_
  refine U_iload (n := 620) 4 C dL_law_618 rfl rfl ?_
  refine U_iconst (n := 621) (3 : Int32) C dL_law_620 kiconst_3 rfl ?_
  refine U_iadd (n := 622) C dL_law_621 rfl ?_
  refine U_sld (n := 623) C hX dL_law_622 hf rfl (fun v3 hf => ?_)
  refine U_aload_n (n := 624) 3 C dL_law_623 rfl rfl rfl ?_
  obtain ⟨v4, h5, ev4, hf⟩ := bsome2 hf
  refine U_callSW (n := 627) C dL_law_624 (av := [.ref x, .int v1, .int v2, .int v3, .ref ot]) ml_RL_131 mt_L_sign in_RL mc_L_sign yn_L_sign (by decide) (M_L_sign ev4) (by decide) hc hs (Nat.le_of_ble_eq_true rfl) rfl ?_
  refine U_istore (n := 629) (lv2 := [(5, .int v4), (0, .retAddr 0), (1, .ref x), (2, .ref m), (3, .ref ot), (4, .int i)]) C dL_law_627 (by decide) rfl rfl ?_
  refine U_aload_n (n := 630) 3 C dL_law_629 rfl rfl rfl ?_
  refine U_aload_n (n := 631) 1 C dL_law_630 rfl rfl rfl ?_
  refine U_iload (n := 633) 5 C dL_law_631 rfl rfl ?_
  refine U_iconst (n := 634) (1 : Int32) C dL_law_633 kiconst_1 rfl ?_
  refine U_iadd (n := 635) C dL_law_634 rfl ?_
  refine U_sld (n := 636) C hX dL_law_635 hf rfl (fun v6 hf => ?_)
  refine U_aload_n (n := 637) 1 C dL_law_636 rfl rfl rfl ?_
  refine U_iload (n := 639) 5 C dL_law_637 rfl rfl ?_
  refine U_iconst (n := 640) (2 : Int32) C dL_law_639 kiconst_2 rfl ?_
  refine U_iadd (n := 641) C dL_law_640 rfl ?_
  refine U_sld (n := 642) C hX dL_law_641 hf rfl (fun v7 hf => ?_)
  refine U_aload_n (n := 643) 1 C dL_law_642 rfl rfl rfl ?_
  refine U_iload (n := 645) 5 C dL_law_643 rfl rfl ?_
  refine U_iconst (n := 646) (3 : Int32) C dL_law_645 kiconst_3 rfl ?_
  refine U_iadd (n := 647) C dL_law_646 rfl ?_
  refine U_sld (n := 648) C hX dL_law_647 hf rfl (fun v8 hf => ?_)
  obtain ⟨v9, h10, ev9, hf⟩ := bsome2 hf
  refine cv_RL_133 (n := 651) C dL_law_648 (av := [.int v6, .int v7, .int v8]) rfl (rc_X4_sign ev9) (M_X4_sign ev9) (by decide) (by omega) (by omega) (Nat.le_of_ble_eq_true rfl) rfl ?_
  refine U_istore (n := 653) (lv2 := [(6, .int v9), (5, .int v4), (0, .retAddr 0), (1, .ref x), (2, .ref m), (3, .ref ot), (4, .int i)]) C dL_law_651 (by decide) rfl rfl ?_
  refine U_aload_n (n := 654) 4 C dL_law_653 rfl rfl rfl ?_
  obtain ⟨v11, ev11, hf⟩ := bsome hf
  refine cv_RL_96 (n := 657) C dL_law_654 (av := []) rfl (rc_X4_thrown ev11) (M_X4_thrown ev11) (by decide) (by omega) (by omega) (Nat.le_of_ble_eq_true rfl) rfl ?_
  refine U_iload (n := 659) 1 C dL_law_657 rfl rfl ?_
  refine U_iceq (tgt := 664) (n := 662) C dL_law_659 (by decide) rfl (fun c12 => ?_) (fun c12 => ?_)
  · replace hf := (if_pos c12).symm.trans hf
    refine U_iload (n := 666) 1 C dL_law_664 rfl rfl ?_
    refine U_ifne (tgt := 681) (n := 669) C dL_law_666 (by decide) rfl (fun c13 => ?_) (fun c13 => ?_)
    · replace hf := (if_pos c13).symm.trans hf
      refine U_aload_n (n := 670) 5 C dL_law_669 rfl rfl rfl ?_
      refine U_iconst (n := 671) (0 : Int32) C dL_law_670 kiconst_0 rfl ?_
      refine U_lald (n := 672) C dL_law_671 hf rfl (fun v14 hf => ?_)
      refine U_iload (n := 674) 0 C dL_law_672 rfl rfl ?_
      refine U_i2l (n := 675) C dL_law_674 rfl ?_
      refine U_lcmp (n := 676) C dL_law_675 rfl ?_
      refine U_ifeq (tgt := 681) (n := 679) C dL_law_676 (by decide) rfl (fun c15 => ?_) (fun c15 => ?_)
      · replace hf := (if_pos c15).symm.trans hf
        refine U_goto (n := 0) (tgt := 1662) C dL_law_681 (by decide) ?_
        have hr := Option.some.inj hf
        subst hr
        exact U_wide (by omega) (by omega) (U_lv [2, 3, 4, 5, 6] rfl J)
      · replace hf := (if_neg c15).symm.trans hf
        refine U_iconst (n := 680) (0 : Int32) C dL_law_679 kiconst_0 rfl ?_
        cases hf
    · replace hf := (if_neg c13).symm.trans hf
      refine U_goto (n := 0) (tgt := 1662) C dL_law_681 (by decide) ?_
      have hr := Option.some.inj hf
      subst hr
      exact U_wide (by omega) (by omega) (U_lv [2, 3, 4, 5, 6] rfl J)
  · replace hf := (if_neg c12).symm.trans hf
    refine U_iconst (n := 663) (0 : Int32) C dL_law_662 kiconst_0 rfl ?_
    cases hf
def f_case10 (L : Nat) (xs : Nat → Int32) (x m ot : Nat) (i : Int32) (h : Hp) : Option Hp :=
  (sR L xs (i + (1 : Int32))).bind fun v1 =>
  (sR L xs (i + (2 : Int32))).bind fun v2 =>
  bind2 (f_L_triple x v1 v2 ot h) fun v3 h4 =>
  (sR L xs (i + (1 : Int32))).bind fun v5 =>
  (sR L xs (i + (2 : Int32))).bind fun v6 =>
  bind2 (f_X4_triple m v5 v6 h4) fun v7 h8 =>
  (f_X4_thrown m h8).bind fun v9 =>
  if v9 = v3 then (
    if v3 = 0 then (
      (aJ h8 ot (0 : Int32)).bind fun v12 =>
      if (lg_cmp v12 (v7).toInt64) = 0 then (
        some h8
      ) else (
        none
      )
    ) else (
      some h8
    )
  ) else (
    none
  )
set_option maxHeartbeats 2000000 in
set_option maxRecDepth 20000 in
theorem K_case10 {nm : String} {g : GT} {Γ : CT} {Q : State → Prop} {L : Nat} {xs : Nat → Int32} {x m ot : Nat} {i : Int32} {h h2 : Hp} {ce sl : Nat} (C : Cx g Γ code RL nm 8 ret 2036 601024 7293034) (hX : Scr g Γ L xs) (hc : ce + 1 ≤ 601024) (hs : sl + 6 ≤ 7293034) (hf : f_case10 L xs x m ot i h = some h2) (J : U g Γ 8 Q (ce + 1) (sl + 6) 1662 [(0, .retAddr 0), (1, .ref x), (2, .ref m), (3, .ref ot), (4, .int i)] [] h2) : U g Γ 8 Q ce sl 684 [(0, .retAddr 0), (1, .ref x), (2, .ref m), (3, .ref ot), (4, .int i)] [] h := by
  unfold f_case10 at hf
  refine U_aload_n (n := 685) 1 C dL_law_684 rfl rfl rfl ?_
  refine U_aload_n (n := 686) 0 C dL_law_685 rfl rfl rfl ?_
  refine U_iload (n := 688) 4 C dL_law_686 rfl rfl ?_
  refine U_iconst (n := 689) (1 : Int32) C dL_law_688 kiconst_1 rfl ?_
  refine U_iadd (n := 690) C dL_law_689 rfl ?_
  refine U_sld (n := 691) C hX dL_law_690 hf rfl (fun v1 hf => ?_)
  refine U_aload_n (n := 692) 0 C dL_law_691 rfl rfl rfl ?_
  refine U_iload (n := 694) 4 C dL_law_692 rfl rfl ?_
  refine U_iconst (n := 695) (2 : Int32) C dL_law_694 kiconst_2 rfl ?_
  refine U_iadd (n := 696) C dL_law_695 rfl ?_
  refine U_sld (n := 697) C hX dL_law_696 hf rfl (fun v2 hf => ?_)
  refine U_aload_n (n := 698) 3 C dL_law_697 rfl rfl rfl ?_
  obtain ⟨v3, h4, ev3, hf⟩ := bsome2 hf
  refine U_callSW (n := 701) C dL_law_698 (av := [.ref x, .int v1, .int v2, .ref ot]) ml_RL_134 mt_L_triple in_RL mc_L_triple yn_L_triple (by decide) (M_L_triple ev3) (by decide) hc hs (Nat.le_of_ble_eq_true rfl) rfl ?_
  refine U_istore (n := 703) (lv2 := [(5, .int v3), (0, .retAddr 0), (1, .ref x), (2, .ref m), (3, .ref ot), (4, .int i)]) C dL_law_701 (by decide) rfl rfl ?_
  refine U_aload_n (n := 704) 3 C dL_law_703 rfl rfl rfl ?_
  refine U_aload_n (n := 705) 1 C dL_law_704 rfl rfl rfl ?_
  refine U_iload (n := 707) 5 C dL_law_705 rfl rfl ?_
  refine U_iconst (n := 708) (1 : Int32) C dL_law_707 kiconst_1 rfl ?_
  refine U_iadd (n := 709) C dL_law_708 rfl ?_
  refine U_sld (n := 710) C hX dL_law_709 hf rfl (fun v5 hf => ?_)
  refine U_aload_n (n := 711) 1 C dL_law_710 rfl rfl rfl ?_
  refine U_iload (n := 713) 5 C dL_law_711 rfl rfl ?_
  refine U_iconst (n := 714) (2 : Int32) C dL_law_713 kiconst_2 rfl ?_
  refine U_iadd (n := 715) C dL_law_714 rfl ?_
  refine U_sld (n := 716) C hX dL_law_715 hf rfl (fun v6 hf => ?_)
  obtain ⟨v7, h8, ev7, hf⟩ := bsome2 hf
  refine cv_RL_136 (n := 719) C dL_law_716 (av := [.int v5, .int v6]) rfl (rc_X4_triple ev7) (M_X4_triple ev7) (by decide) (by omega) (by omega) (Nat.le_of_ble_eq_true rfl) rfl ?_
  refine U_istore (n := 721) (lv2 := [(6, .int v7), (5, .int v3), (0, .retAddr 0), (1, .ref x), (2, .ref m), (3, .ref ot), (4, .int i)]) C dL_law_719 (by decide) rfl rfl ?_
  refine U_aload_n (n := 722) 4 C dL_law_721 rfl rfl rfl ?_
  obtain ⟨v9, ev9, hf⟩ := bsome hf
  refine cv_RL_96 (n := 725) C dL_law_722 (av := []) rfl (rc_X4_thrown ev9) (M_X4_thrown ev9) (by decide) (by omega) (by omega) (Nat.le_of_ble_eq_true rfl) rfl ?_
  refine U_iload (n := 727) 1 C dL_law_725 rfl rfl ?_
  refine U_iceq (tgt := 732) (n := 730) C dL_law_727 (by decide) rfl (fun c10 => ?_) (fun c10 => ?_)
  · replace hf := (if_pos c10).symm.trans hf
    refine U_iload (n := 734) 1 C dL_law_732 rfl rfl ?_
    refine U_ifne (tgt := 749) (n := 737) C dL_law_734 (by decide) rfl (fun c11 => ?_) (fun c11 => ?_)
    · replace hf := (if_pos c11).symm.trans hf
      refine U_aload_n (n := 738) 5 C dL_law_737 rfl rfl rfl ?_
      refine U_iconst (n := 739) (0 : Int32) C dL_law_738 kiconst_0 rfl ?_
      refine U_lald (n := 740) C dL_law_739 hf rfl (fun v12 hf => ?_)
      refine U_iload (n := 742) 0 C dL_law_740 rfl rfl ?_
      refine U_i2l (n := 743) C dL_law_742 rfl ?_
      refine U_lcmp (n := 744) C dL_law_743 rfl ?_
      refine U_ifeq (tgt := 749) (n := 747) C dL_law_744 (by decide) rfl (fun c13 => ?_) (fun c13 => ?_)
      · replace hf := (if_pos c13).symm.trans hf
        refine U_goto (n := 0) (tgt := 1662) C dL_law_749 (by decide) ?_
        have hr := Option.some.inj hf
        subst hr
        exact U_wide (by omega) (by omega) (U_lv [2, 3, 4, 5, 6] rfl J)
      · replace hf := (if_neg c13).symm.trans hf
        refine U_iconst (n := 748) (0 : Int32) C dL_law_747 kiconst_0 rfl ?_
        cases hf
    · replace hf := (if_neg c11).symm.trans hf
      refine U_goto (n := 0) (tgt := 1662) C dL_law_749 (by decide) ?_
      have hr := Option.some.inj hf
      subst hr
      exact U_wide (by omega) (by omega) (U_lv [2, 3, 4, 5, 6] rfl J)
  · replace hf := (if_neg c10).symm.trans hf
    refine U_iconst (n := 731) (0 : Int32) C dL_law_730 kiconst_0 rfl ?_
    cases hf
def f_case11 (L : Nat) (xs : Nat → Int32) (x m ot : Nat) (i : Int32) (h : Hp) : Option Hp :=
  (sR L xs (i + (1 : Int32))).bind fun v1 =>
  bind2 (f_L_reasons x v1 ot h) fun v2 h3 =>
  (sR L xs (i + (1 : Int32))).bind fun v4 =>
  bind2 (f_X4_reasons m v4 h3) fun v5 h6 =>
  (f_X4_thrown m h6).bind fun v7 =>
  if v7 = v2 then (
    if v2 = 0 then (
      (aJ h6 ot (0 : Int32)).bind fun v10 =>
      if (lg_cmp v10 v5) = 0 then (
        some h6
      ) else (
        none
      )
    ) else (
      some h6
    )
  ) else (
    none
  )
set_option maxHeartbeats 2000000 in
set_option maxRecDepth 20000 in
theorem K_case11 {nm : String} {g : GT} {Γ : CT} {Q : State → Prop} {L : Nat} {xs : Nat → Int32} {x m ot : Nat} {i : Int32} {h h2 : Hp} {ce sl : Nat} (C : Cx g Γ code RL nm 8 ret 2036 601024 7293034) (hX : Scr g Γ L xs) (hc : ce + 1 ≤ 601024) (hs : sl + 6 ≤ 7293034) (hf : f_case11 L xs x m ot i h = some h2) (J : U g Γ 8 Q (ce + 1) (sl + 6) 1662 [(0, .retAddr 0), (1, .ref x), (2, .ref m), (3, .ref ot), (4, .int i)] [] h2) : U g Γ 8 Q ce sl 752 [(0, .retAddr 0), (1, .ref x), (2, .ref m), (3, .ref ot), (4, .int i)] [] h := by
  unfold f_case11 at hf
  refine U_aload_n (n := 753) 1 C dL_law_752 rfl rfl rfl ?_
  refine U_aload_n (n := 754) 0 C dL_law_753 rfl rfl rfl ?_
  refine U_iload (n := 756) 4 C dL_law_754 rfl rfl ?_
  refine U_iconst (n := 757) (1 : Int32) C dL_law_756 kiconst_1 rfl ?_
  refine U_iadd (n := 758) C dL_law_757 rfl ?_
  refine U_sld (n := 759) C hX dL_law_758 hf rfl (fun v1 hf => ?_)
  refine U_aload_n (n := 760) 3 C dL_law_759 rfl rfl rfl ?_
  obtain ⟨v2, h3, ev2, hf⟩ := bsome2 hf
  refine U_callSW (n := 763) C dL_law_760 (av := [.ref x, .int v1, .ref ot]) ml_RL_137 mt_L_reasons in_RL mc_L_reasons yn_L_reasons (by decide) (M_L_reasons ev2) (by decide) hc hs (Nat.le_of_ble_eq_true rfl) rfl ?_
  refine U_istore (n := 765) (lv2 := [(5, .int v2), (0, .retAddr 0), (1, .ref x), (2, .ref m), (3, .ref ot), (4, .int i)]) C dL_law_763 (by decide) rfl rfl ?_
  refine U_aload_n (n := 766) 3 C dL_law_765 rfl rfl rfl ?_
  refine U_aload_n (n := 767) 1 C dL_law_766 rfl rfl rfl ?_
  refine U_iload (n := 769) 5 C dL_law_767 rfl rfl ?_
  refine U_iconst (n := 770) (1 : Int32) C dL_law_769 kiconst_1 rfl ?_
  refine U_iadd (n := 771) C dL_law_770 rfl ?_
  refine U_sld (n := 772) C hX dL_law_771 hf rfl (fun v4 hf => ?_)
  obtain ⟨v5, h6, ev5, hf⟩ := bsome2 hf
  refine cv_RL_139 (n := 775) C dL_law_772 (av := [.int v4]) rfl (rc_X4_reasons ev5) (M_X4_reasons ev5) (by decide) (by omega) (by omega) (Nat.le_of_ble_eq_true rfl) rfl ?_
  refine U_lstore (n := 777) (lv2 := [(6, .long v5), (5, .int v2), (0, .retAddr 0), (1, .ref x), (2, .ref m), (3, .ref ot), (4, .int i)]) C dL_law_775 (by decide) rfl rfl ?_
  refine U_aload_n (n := 778) 4 C dL_law_777 rfl rfl rfl ?_
  obtain ⟨v7, ev7, hf⟩ := bsome hf
  refine cv_RL_96 (n := 781) C dL_law_778 (av := []) rfl (rc_X4_thrown ev7) (M_X4_thrown ev7) (by decide) (by omega) (by omega) (Nat.le_of_ble_eq_true rfl) rfl ?_
  refine U_iload (n := 783) 1 C dL_law_781 rfl rfl ?_
  refine U_iceq (tgt := 788) (n := 786) C dL_law_783 (by decide) rfl (fun c8 => ?_) (fun c8 => ?_)
  · replace hf := (if_pos c8).symm.trans hf
    refine U_iload (n := 790) 1 C dL_law_788 rfl rfl ?_
    refine U_ifne (tgt := 804) (n := 793) C dL_law_790 (by decide) rfl (fun c9 => ?_) (fun c9 => ?_)
    · replace hf := (if_pos c9).symm.trans hf
      refine U_aload_n (n := 794) 5 C dL_law_793 rfl rfl rfl ?_
      refine U_iconst (n := 795) (0 : Int32) C dL_law_794 kiconst_0 rfl ?_
      refine U_lald (n := 796) C dL_law_795 hf rfl (fun v10 hf => ?_)
      refine U_lload (n := 798) 0 C dL_law_796 rfl rfl ?_
      refine U_lcmp (n := 799) C dL_law_798 rfl ?_
      refine U_ifeq (tgt := 804) (n := 802) C dL_law_799 (by decide) rfl (fun c11 => ?_) (fun c11 => ?_)
      · replace hf := (if_pos c11).symm.trans hf
        refine U_goto (n := 0) (tgt := 1662) C dL_law_804 (by decide) ?_
        have hr := Option.some.inj hf
        subst hr
        exact U_wide (by omega) (by omega) (U_lv [2, 3, 4, 5, 6] rfl J)
      · replace hf := (if_neg c11).symm.trans hf
        refine U_iconst (n := 803) (0 : Int32) C dL_law_802 kiconst_0 rfl ?_
        cases hf
    · replace hf := (if_neg c9).symm.trans hf
      refine U_goto (n := 0) (tgt := 1662) C dL_law_804 (by decide) ?_
      have hr := Option.some.inj hf
      subst hr
      exact U_wide (by omega) (by omega) (U_lv [2, 3, 4, 5, 6] rfl J)
  · replace hf := (if_neg c8).symm.trans hf
    refine U_iconst (n := 787) (0 : Int32) C dL_law_786 kiconst_0 rfl ?_
    cases hf
def f_case12 (L : Nat) (xs : Nat → Int32) (x m ot : Nat) (i : Int32) (h : Hp) : Option Hp :=
  (sR L xs (i + (1 : Int32))).bind fun v1 =>
  bind2 (f_L_count x v1 ot h) fun v2 h3 =>
  (sR L xs (i + (1 : Int32))).bind fun v4 =>
  bind2 (f_X4_count m v4 h3) fun v5 h6 =>
  (f_X4_thrown m h6).bind fun v7 =>
  if v7 = v2 then (
    if v2 = 0 then (
      (aJ h6 ot (0 : Int32)).bind fun v10 =>
      if (lg_cmp v10 (v5).toInt64) = 0 then (
        some h6
      ) else (
        none
      )
    ) else (
      some h6
    )
  ) else (
    none
  )
set_option maxHeartbeats 2000000 in
set_option maxRecDepth 20000 in
theorem K_case12 {nm : String} {g : GT} {Γ : CT} {Q : State → Prop} {L : Nat} {xs : Nat → Int32} {x m ot : Nat} {i : Int32} {h h2 : Hp} {ce sl : Nat} (C : Cx g Γ code RL nm 8 ret 2036 601024 7293034) (hX : Scr g Γ L xs) (hc : ce + 1 ≤ 601024) (hs : sl + 6 ≤ 7293034) (hf : f_case12 L xs x m ot i h = some h2) (J : U g Γ 8 Q (ce + 1) (sl + 6) 1662 [(0, .retAddr 0), (1, .ref x), (2, .ref m), (3, .ref ot), (4, .int i)] [] h2) : U g Γ 8 Q ce sl 807 [(0, .retAddr 0), (1, .ref x), (2, .ref m), (3, .ref ot), (4, .int i)] [] h := by
  unfold f_case12 at hf
  refine U_aload_n (n := 808) 1 C dL_law_807 rfl rfl rfl ?_
  refine U_aload_n (n := 809) 0 C dL_law_808 rfl rfl rfl ?_
  refine U_iload (n := 811) 4 C dL_law_809 rfl rfl ?_
  refine U_iconst (n := 812) (1 : Int32) C dL_law_811 kiconst_1 rfl ?_
  refine U_iadd (n := 813) C dL_law_812 rfl ?_
  refine U_sld (n := 814) C hX dL_law_813 hf rfl (fun v1 hf => ?_)
  refine U_aload_n (n := 815) 3 C dL_law_814 rfl rfl rfl ?_
  obtain ⟨v2, h3, ev2, hf⟩ := bsome2 hf
  refine U_callSW (n := 818) C dL_law_815 (av := [.ref x, .int v1, .ref ot]) ml_RL_140 mt_L_count in_RL mc_L_count yn_L_count (by decide) (M_L_count ev2) (by decide) hc hs (Nat.le_of_ble_eq_true rfl) rfl ?_
  refine U_istore (n := 820) (lv2 := [(5, .int v2), (0, .retAddr 0), (1, .ref x), (2, .ref m), (3, .ref ot), (4, .int i)]) C dL_law_818 (by decide) rfl rfl ?_
  refine U_aload_n (n := 821) 3 C dL_law_820 rfl rfl rfl ?_
  refine U_aload_n (n := 822) 1 C dL_law_821 rfl rfl rfl ?_
  refine U_iload (n := 824) 5 C dL_law_822 rfl rfl ?_
  refine U_iconst (n := 825) (1 : Int32) C dL_law_824 kiconst_1 rfl ?_
  refine U_iadd (n := 826) C dL_law_825 rfl ?_
  refine U_sld (n := 827) C hX dL_law_826 hf rfl (fun v4 hf => ?_)
  obtain ⟨v5, h6, ev5, hf⟩ := bsome2 hf
  refine cv_RL_142 (n := 830) C dL_law_827 (av := [.int v4]) rfl (rc_X4_count ev5) (M_X4_count ev5) (by decide) (by omega) (by omega) (Nat.le_of_ble_eq_true rfl) rfl ?_
  refine U_istore (n := 832) (lv2 := [(6, .int v5), (5, .int v2), (0, .retAddr 0), (1, .ref x), (2, .ref m), (3, .ref ot), (4, .int i)]) C dL_law_830 (by decide) rfl rfl ?_
  refine U_aload_n (n := 833) 4 C dL_law_832 rfl rfl rfl ?_
  obtain ⟨v7, ev7, hf⟩ := bsome hf
  refine cv_RL_96 (n := 836) C dL_law_833 (av := []) rfl (rc_X4_thrown ev7) (M_X4_thrown ev7) (by decide) (by omega) (by omega) (Nat.le_of_ble_eq_true rfl) rfl ?_
  refine U_iload (n := 838) 1 C dL_law_836 rfl rfl ?_
  refine U_iceq (tgt := 843) (n := 841) C dL_law_838 (by decide) rfl (fun c8 => ?_) (fun c8 => ?_)
  · replace hf := (if_pos c8).symm.trans hf
    refine U_iload (n := 845) 1 C dL_law_843 rfl rfl ?_
    refine U_ifne (tgt := 860) (n := 848) C dL_law_845 (by decide) rfl (fun c9 => ?_) (fun c9 => ?_)
    · replace hf := (if_pos c9).symm.trans hf
      refine U_aload_n (n := 849) 5 C dL_law_848 rfl rfl rfl ?_
      refine U_iconst (n := 850) (0 : Int32) C dL_law_849 kiconst_0 rfl ?_
      refine U_lald (n := 851) C dL_law_850 hf rfl (fun v10 hf => ?_)
      refine U_iload (n := 853) 0 C dL_law_851 rfl rfl ?_
      refine U_i2l (n := 854) C dL_law_853 rfl ?_
      refine U_lcmp (n := 855) C dL_law_854 rfl ?_
      refine U_ifeq (tgt := 860) (n := 858) C dL_law_855 (by decide) rfl (fun c11 => ?_) (fun c11 => ?_)
      · replace hf := (if_pos c11).symm.trans hf
        refine U_goto (n := 0) (tgt := 1662) C dL_law_860 (by decide) ?_
        have hr := Option.some.inj hf
        subst hr
        exact U_wide (by omega) (by omega) (U_lv [2, 3, 4, 5, 6] rfl J)
      · replace hf := (if_neg c11).symm.trans hf
        refine U_iconst (n := 859) (0 : Int32) C dL_law_858 kiconst_0 rfl ?_
        cases hf
    · replace hf := (if_neg c9).symm.trans hf
      refine U_goto (n := 0) (tgt := 1662) C dL_law_860 (by decide) ?_
      have hr := Option.some.inj hf
      subst hr
      exact U_wide (by omega) (by omega) (U_lv [2, 3, 4, 5, 6] rfl J)
  · replace hf := (if_neg c8).symm.trans hf
    refine U_iconst (n := 842) (0 : Int32) C dL_law_841 kiconst_0 rfl ?_
    cases hf
def f_case13 (L : Nat) (xs : Nat → Int32) (x m ot : Nat) (i : Int32) (h : Hp) : Option Hp :=
  (sR L xs (i + (1 : Int32))).bind fun v1 =>
  (sR L xs (i + (2 : Int32))).bind fun v2 =>
  bind2 (f_L_relation x v1 v2 ot h) fun v3 h4 =>
  (sR L xs (i + (1 : Int32))).bind fun v5 =>
  (sR L xs (i + (2 : Int32))).bind fun v6 =>
  bind2 (f_X4_relation m v5 v6 h4) fun v7 h8 =>
  (f_X4_thrown m h8).bind fun v9 =>
  if v9 = v3 then (
    if v3 = 0 then (
      (aJ h8 ot (0 : Int32)).bind fun v12 =>
      if (lg_cmp v12 (v7).toInt64) = 0 then (
        some h8
      ) else (
        none
      )
    ) else (
      some h8
    )
  ) else (
    none
  )
set_option maxHeartbeats 2000000 in
set_option maxRecDepth 20000 in
theorem K_case13 {nm : String} {g : GT} {Γ : CT} {Q : State → Prop} {L : Nat} {xs : Nat → Int32} {x m ot : Nat} {i : Int32} {h h2 : Hp} {ce sl : Nat} (C : Cx g Γ code RL nm 8 ret 2036 601024 7293034) (hX : Scr g Γ L xs) (hc : ce + 1 ≤ 601024) (hs : sl + 6 ≤ 7293034) (hf : f_case13 L xs x m ot i h = some h2) (J : U g Γ 8 Q (ce + 1) (sl + 6) 1662 [(0, .retAddr 0), (1, .ref x), (2, .ref m), (3, .ref ot), (4, .int i)] [] h2) : U g Γ 8 Q ce sl 863 [(0, .retAddr 0), (1, .ref x), (2, .ref m), (3, .ref ot), (4, .int i)] [] h := by
  unfold f_case13 at hf
  refine U_aload_n (n := 864) 1 C dL_law_863 rfl rfl rfl ?_
  refine U_aload_n (n := 865) 0 C dL_law_864 rfl rfl rfl ?_
  refine U_iload (n := 867) 4 C dL_law_865 rfl rfl ?_
  refine U_iconst (n := 868) (1 : Int32) C dL_law_867 kiconst_1 rfl ?_
  refine U_iadd (n := 869) C dL_law_868 rfl ?_
  refine U_sld (n := 870) C hX dL_law_869 hf rfl (fun v1 hf => ?_)
  refine U_aload_n (n := 871) 0 C dL_law_870 rfl rfl rfl ?_
  refine U_iload (n := 873) 4 C dL_law_871 rfl rfl ?_
  refine U_iconst (n := 874) (2 : Int32) C dL_law_873 kiconst_2 rfl ?_
  refine U_iadd (n := 875) C dL_law_874 rfl ?_
  refine U_sld (n := 876) C hX dL_law_875 hf rfl (fun v2 hf => ?_)
  refine U_aload_n (n := 877) 3 C dL_law_876 rfl rfl rfl ?_
  obtain ⟨v3, h4, ev3, hf⟩ := bsome2 hf
  refine U_callSW (n := 880) C dL_law_877 (av := [.ref x, .int v1, .int v2, .ref ot]) ml_RL_143 mt_L_relation in_RL mc_L_relation yn_L_relation (by decide) (M_L_relation ev3) (by decide) hc hs (Nat.le_of_ble_eq_true rfl) rfl ?_
  refine U_istore (n := 882) (lv2 := [(5, .int v3), (0, .retAddr 0), (1, .ref x), (2, .ref m), (3, .ref ot), (4, .int i)]) C dL_law_880 (by decide) rfl rfl ?_
  refine U_aload_n (n := 883) 3 C dL_law_882 rfl rfl rfl ?_
  refine U_aload_n (n := 884) 1 C dL_law_883 rfl rfl rfl ?_
  refine U_iload (n := 886) 5 C dL_law_884 rfl rfl ?_
  refine U_iconst (n := 887) (1 : Int32) C dL_law_886 kiconst_1 rfl ?_
  refine U_iadd (n := 888) C dL_law_887 rfl ?_
  refine U_sld (n := 889) C hX dL_law_888 hf rfl (fun v5 hf => ?_)
  refine U_aload_n (n := 890) 1 C dL_law_889 rfl rfl rfl ?_
  refine U_iload (n := 892) 5 C dL_law_890 rfl rfl ?_
  refine U_iconst (n := 893) (2 : Int32) C dL_law_892 kiconst_2 rfl ?_
  refine U_iadd (n := 894) C dL_law_893 rfl ?_
  refine U_sld (n := 895) C hX dL_law_894 hf rfl (fun v6 hf => ?_)
  obtain ⟨v7, h8, ev7, hf⟩ := bsome2 hf
  refine cv_RL_145 (n := 898) C dL_law_895 (av := [.int v5, .int v6]) rfl (rc_X4_relation ev7) (M_X4_relation ev7) (by decide) (by omega) (by omega) (Nat.le_of_ble_eq_true rfl) rfl ?_
  refine U_istore (n := 900) (lv2 := [(6, .int v7), (5, .int v3), (0, .retAddr 0), (1, .ref x), (2, .ref m), (3, .ref ot), (4, .int i)]) C dL_law_898 (by decide) rfl rfl ?_
  refine U_aload_n (n := 901) 4 C dL_law_900 rfl rfl rfl ?_
  obtain ⟨v9, ev9, hf⟩ := bsome hf
  refine cv_RL_96 (n := 904) C dL_law_901 (av := []) rfl (rc_X4_thrown ev9) (M_X4_thrown ev9) (by decide) (by omega) (by omega) (Nat.le_of_ble_eq_true rfl) rfl ?_
  refine U_iload (n := 906) 1 C dL_law_904 rfl rfl ?_
  refine U_iceq (tgt := 911) (n := 909) C dL_law_906 (by decide) rfl (fun c10 => ?_) (fun c10 => ?_)
  · replace hf := (if_pos c10).symm.trans hf
    refine U_iload (n := 913) 1 C dL_law_911 rfl rfl ?_
    refine U_ifne (tgt := 928) (n := 916) C dL_law_913 (by decide) rfl (fun c11 => ?_) (fun c11 => ?_)
    · replace hf := (if_pos c11).symm.trans hf
      refine U_aload_n (n := 917) 5 C dL_law_916 rfl rfl rfl ?_
      refine U_iconst (n := 918) (0 : Int32) C dL_law_917 kiconst_0 rfl ?_
      refine U_lald (n := 919) C dL_law_918 hf rfl (fun v12 hf => ?_)
      refine U_iload (n := 921) 0 C dL_law_919 rfl rfl ?_
      refine U_i2l (n := 922) C dL_law_921 rfl ?_
      refine U_lcmp (n := 923) C dL_law_922 rfl ?_
      refine U_ifeq (tgt := 928) (n := 926) C dL_law_923 (by decide) rfl (fun c13 => ?_) (fun c13 => ?_)
      · replace hf := (if_pos c13).symm.trans hf
        refine U_goto (n := 0) (tgt := 1662) C dL_law_928 (by decide) ?_
        have hr := Option.some.inj hf
        subst hr
        exact U_wide (by omega) (by omega) (U_lv [2, 3, 4, 5, 6] rfl J)
      · replace hf := (if_neg c13).symm.trans hf
        refine U_iconst (n := 927) (0 : Int32) C dL_law_926 kiconst_0 rfl ?_
        cases hf
    · replace hf := (if_neg c11).symm.trans hf
      refine U_goto (n := 0) (tgt := 1662) C dL_law_928 (by decide) ?_
      have hr := Option.some.inj hf
      subst hr
      exact U_wide (by omega) (by omega) (U_lv [2, 3, 4, 5, 6] rfl J)
  · replace hf := (if_neg c10).symm.trans hf
    refine U_iconst (n := 910) (0 : Int32) C dL_law_909 kiconst_0 rfl ?_
    cases hf
def f_case14 (L : Nat) (xs : Nat → Int32) (x m ot : Nat) (i : Int32) (h : Hp) : Option Hp :=
  (sR L xs (i + (1 : Int32))).bind fun v1 =>
  bind2 (f_L_behind x v1 ot h) fun v2 h3 =>
  (sR L xs (i + (1 : Int32))).bind fun v4 =>
  bind2 (f_X4_behind m v4 h3) fun v5 h6 =>
  (f_X4_thrown m h6).bind fun v7 =>
  if v7 = v2 then (
    if v2 = 0 then (
      (aJ h6 ot (0 : Int32)).bind fun v10 =>
      if (lg_cmp v10 v5) = 0 then (
        some h6
      ) else (
        none
      )
    ) else (
      some h6
    )
  ) else (
    none
  )
set_option maxHeartbeats 2000000 in
set_option maxRecDepth 20000 in
theorem K_case14 {nm : String} {g : GT} {Γ : CT} {Q : State → Prop} {L : Nat} {xs : Nat → Int32} {x m ot : Nat} {i : Int32} {h h2 : Hp} {ce sl : Nat} (C : Cx g Γ code RL nm 8 ret 2036 601024 7293034) (hX : Scr g Γ L xs) (hc : ce + 1 ≤ 601024) (hs : sl + 6 ≤ 7293034) (hf : f_case14 L xs x m ot i h = some h2) (J : U g Γ 8 Q (ce + 1) (sl + 6) 1662 [(0, .retAddr 0), (1, .ref x), (2, .ref m), (3, .ref ot), (4, .int i)] [] h2) : U g Γ 8 Q ce sl 931 [(0, .retAddr 0), (1, .ref x), (2, .ref m), (3, .ref ot), (4, .int i)] [] h := by
  unfold f_case14 at hf
  refine U_aload_n (n := 932) 1 C dL_law_931 rfl rfl rfl ?_
  refine U_aload_n (n := 933) 0 C dL_law_932 rfl rfl rfl ?_
  refine U_iload (n := 935) 4 C dL_law_933 rfl rfl ?_
  refine U_iconst (n := 936) (1 : Int32) C dL_law_935 kiconst_1 rfl ?_
  refine U_iadd (n := 937) C dL_law_936 rfl ?_
  refine U_sld (n := 938) C hX dL_law_937 hf rfl (fun v1 hf => ?_)
  refine U_aload_n (n := 939) 3 C dL_law_938 rfl rfl rfl ?_
  obtain ⟨v2, h3, ev2, hf⟩ := bsome2 hf
  refine U_callSW (n := 942) C dL_law_939 (av := [.ref x, .int v1, .ref ot]) ml_RL_146 mt_L_behind in_RL mc_L_behind yn_L_behind (by decide) (M_L_behind ev2) (by decide) hc hs (Nat.le_of_ble_eq_true rfl) rfl ?_
  refine U_istore (n := 944) (lv2 := [(5, .int v2), (0, .retAddr 0), (1, .ref x), (2, .ref m), (3, .ref ot), (4, .int i)]) C dL_law_942 (by decide) rfl rfl ?_
  refine U_aload_n (n := 945) 3 C dL_law_944 rfl rfl rfl ?_
  refine U_aload_n (n := 946) 1 C dL_law_945 rfl rfl rfl ?_
  refine U_iload (n := 948) 5 C dL_law_946 rfl rfl ?_
  refine U_iconst (n := 949) (1 : Int32) C dL_law_948 kiconst_1 rfl ?_
  refine U_iadd (n := 950) C dL_law_949 rfl ?_
  refine U_sld (n := 951) C hX dL_law_950 hf rfl (fun v4 hf => ?_)
  obtain ⟨v5, h6, ev5, hf⟩ := bsome2 hf
  refine cv_RL_148 (n := 954) C dL_law_951 (av := [.int v4]) rfl (rc_X4_behind ev5) (M_X4_behind ev5) (by decide) (by omega) (by omega) (Nat.le_of_ble_eq_true rfl) rfl ?_
  refine U_lstore (n := 956) (lv2 := [(6, .long v5), (5, .int v2), (0, .retAddr 0), (1, .ref x), (2, .ref m), (3, .ref ot), (4, .int i)]) C dL_law_954 (by decide) rfl rfl ?_
  refine U_aload_n (n := 957) 4 C dL_law_956 rfl rfl rfl ?_
  obtain ⟨v7, ev7, hf⟩ := bsome hf
  refine cv_RL_96 (n := 960) C dL_law_957 (av := []) rfl (rc_X4_thrown ev7) (M_X4_thrown ev7) (by decide) (by omega) (by omega) (Nat.le_of_ble_eq_true rfl) rfl ?_
  refine U_iload (n := 962) 1 C dL_law_960 rfl rfl ?_
  refine U_iceq (tgt := 967) (n := 965) C dL_law_962 (by decide) rfl (fun c8 => ?_) (fun c8 => ?_)
  · replace hf := (if_pos c8).symm.trans hf
    refine U_iload (n := 969) 1 C dL_law_967 rfl rfl ?_
    refine U_ifne (tgt := 983) (n := 972) C dL_law_969 (by decide) rfl (fun c9 => ?_) (fun c9 => ?_)
    · replace hf := (if_pos c9).symm.trans hf
      refine U_aload_n (n := 973) 5 C dL_law_972 rfl rfl rfl ?_
      refine U_iconst (n := 974) (0 : Int32) C dL_law_973 kiconst_0 rfl ?_
      refine U_lald (n := 975) C dL_law_974 hf rfl (fun v10 hf => ?_)
      refine U_lload (n := 977) 0 C dL_law_975 rfl rfl ?_
      refine U_lcmp (n := 978) C dL_law_977 rfl ?_
      refine U_ifeq (tgt := 983) (n := 981) C dL_law_978 (by decide) rfl (fun c11 => ?_) (fun c11 => ?_)
      · replace hf := (if_pos c11).symm.trans hf
        refine U_goto (n := 0) (tgt := 1662) C dL_law_983 (by decide) ?_
        have hr := Option.some.inj hf
        subst hr
        exact U_wide (by omega) (by omega) (U_lv [2, 3, 4, 5, 6] rfl J)
      · replace hf := (if_neg c11).symm.trans hf
        refine U_iconst (n := 982) (0 : Int32) C dL_law_981 kiconst_0 rfl ?_
        cases hf
    · replace hf := (if_neg c9).symm.trans hf
      refine U_goto (n := 0) (tgt := 1662) C dL_law_983 (by decide) ?_
      have hr := Option.some.inj hf
      subst hr
      exact U_wide (by omega) (by omega) (U_lv [2, 3, 4, 5, 6] rfl J)
  · replace hf := (if_neg c8).symm.trans hf
    refine U_iconst (n := 966) (0 : Int32) C dL_law_965 kiconst_0 rfl ?_
    cases hf
def f_case15 (L : Nat) (xs : Nat → Int32) (x m ot : Nat) (i : Int32) (h : Hp) : Option Hp :=
  bind2 (f_L_completions x ot h) fun v1 h2 =>
  bind2 (f_X4_completions m h2) fun v3 h4 =>
  (f_X4_thrown m h4).bind fun v5 =>
  if v5 = v1 then (
    if v1 = 0 then (
      (aJ h4 ot (0 : Int32)).bind fun v8 =>
      if (lg_cmp v8 (v3).toInt64) = 0 then (
        some h4
      ) else (
        none
      )
    ) else (
      some h4
    )
  ) else (
    none
  )
set_option maxHeartbeats 2000000 in
set_option maxRecDepth 20000 in
theorem K_case15 {nm : String} {g : GT} {Γ : CT} {Q : State → Prop} {L : Nat} {xs : Nat → Int32} {x m ot : Nat} {i : Int32} {h h2 : Hp} {ce sl : Nat} (C : Cx g Γ code RL nm 8 ret 2036 601024 7293034) (hX : Scr g Γ L xs) (hc : ce + 1 ≤ 601024) (hs : sl + 6 ≤ 7293034) (hf : f_case15 L xs x m ot i h = some h2) (J : U g Γ 8 Q (ce + 1) (sl + 6) 1662 [(0, .retAddr 0), (1, .ref x), (2, .ref m), (3, .ref ot), (4, .int i)] [] h2) : U g Γ 8 Q ce sl 986 [(0, .retAddr 0), (1, .ref x), (2, .ref m), (3, .ref ot), (4, .int i)] [] h := by
  unfold f_case15 at hf
  refine U_aload_n (n := 987) 1 C dL_law_986 rfl rfl rfl ?_
  refine U_aload_n (n := 988) 3 C dL_law_987 rfl rfl rfl ?_
  obtain ⟨v1, h2, ev1, hf⟩ := bsome2 hf
  refine U_callSW (n := 991) C dL_law_988 (av := [.ref x, .ref ot]) ml_RL_149 mt_L_completions in_RL mc_L_completions yn_L_completions (by decide) (M_L_completions ev1) (by decide) hc hs (Nat.le_of_ble_eq_true rfl) rfl ?_
  refine U_istore (n := 993) (lv2 := [(5, .int v1), (0, .retAddr 0), (1, .ref x), (2, .ref m), (3, .ref ot), (4, .int i)]) C dL_law_991 (by decide) rfl rfl ?_
  refine U_aload_n (n := 994) 3 C dL_law_993 rfl rfl rfl ?_
  obtain ⟨v3, h4, ev3, hf⟩ := bsome2 hf
  refine cv_RL_152 (n := 997) C dL_law_994 (av := []) rfl (rc_X4_completions ev3) (M_X4_completions ev3) (by decide) (by omega) (by omega) (Nat.le_of_ble_eq_true rfl) rfl ?_
  refine U_istore (n := 999) (lv2 := [(6, .int v3), (5, .int v1), (0, .retAddr 0), (1, .ref x), (2, .ref m), (3, .ref ot), (4, .int i)]) C dL_law_997 (by decide) rfl rfl ?_
  refine U_aload_n (n := 1000) 4 C dL_law_999 rfl rfl rfl ?_
  obtain ⟨v5, ev5, hf⟩ := bsome hf
  refine cv_RL_96 (n := 1003) C dL_law_1000 (av := []) rfl (rc_X4_thrown ev5) (M_X4_thrown ev5) (by decide) (by omega) (by omega) (Nat.le_of_ble_eq_true rfl) rfl ?_
  refine U_iload (n := 1005) 1 C dL_law_1003 rfl rfl ?_
  refine U_iceq (tgt := 1010) (n := 1008) C dL_law_1005 (by decide) rfl (fun c6 => ?_) (fun c6 => ?_)
  · replace hf := (if_pos c6).symm.trans hf
    refine U_iload (n := 1012) 1 C dL_law_1010 rfl rfl ?_
    refine U_ifne (tgt := 1027) (n := 1015) C dL_law_1012 (by decide) rfl (fun c7 => ?_) (fun c7 => ?_)
    · replace hf := (if_pos c7).symm.trans hf
      refine U_aload_n (n := 1016) 5 C dL_law_1015 rfl rfl rfl ?_
      refine U_iconst (n := 1017) (0 : Int32) C dL_law_1016 kiconst_0 rfl ?_
      refine U_lald (n := 1018) C dL_law_1017 hf rfl (fun v8 hf => ?_)
      refine U_iload (n := 1020) 0 C dL_law_1018 rfl rfl ?_
      refine U_i2l (n := 1021) C dL_law_1020 rfl ?_
      refine U_lcmp (n := 1022) C dL_law_1021 rfl ?_
      refine U_ifeq (tgt := 1027) (n := 1025) C dL_law_1022 (by decide) rfl (fun c9 => ?_) (fun c9 => ?_)
      · replace hf := (if_pos c9).symm.trans hf
        refine U_goto (n := 0) (tgt := 1662) C dL_law_1027 (by decide) ?_
        have hr := Option.some.inj hf
        subst hr
        exact U_wide (by omega) (by omega) (U_lv [2, 3, 4, 5, 6] rfl J)
      · replace hf := (if_neg c9).symm.trans hf
        refine U_iconst (n := 1026) (0 : Int32) C dL_law_1025 kiconst_0 rfl ?_
        cases hf
    · replace hf := (if_neg c7).symm.trans hf
      refine U_goto (n := 0) (tgt := 1662) C dL_law_1027 (by decide) ?_
      have hr := Option.some.inj hf
      subst hr
      exact U_wide (by omega) (by omega) (U_lv [2, 3, 4, 5, 6] rfl J)
  · replace hf := (if_neg c6).symm.trans hf
    refine U_iconst (n := 1009) (0 : Int32) C dL_law_1008 kiconst_0 rfl ?_
    cases hf
def f_case16 (L : Nat) (xs : Nat → Int32) (x m ot : Nat) (i : Int32) (h : Hp) : Option Hp :=
  (sR L xs (i + (1 : Int32))).bind fun v1 =>
  (sR L xs (i + (2 : Int32))).bind fun v2 =>
  bind2 (f_L_cocircuit x v1 v2 ot h) fun v3 h4 =>
  (sR L xs (i + (1 : Int32))).bind fun v5 =>
  (sR L xs (i + (2 : Int32))).bind fun v6 =>
  bind2 (f_X4_cocircuit m v5 v6 h4) fun v7 h8 =>
  (f_X4_thrown m h8).bind fun v9 =>
  if v9 = v3 then (
    if v3 = 0 then (
      (aJ h8 ot (0 : Int32)).bind fun v12 =>
      if (lg_cmp v12 (v7).toInt64) = 0 then (
        some h8
      ) else (
        none
      )
    ) else (
      some h8
    )
  ) else (
    none
  )
set_option maxHeartbeats 2000000 in
set_option maxRecDepth 20000 in
theorem K_case16 {nm : String} {g : GT} {Γ : CT} {Q : State → Prop} {L : Nat} {xs : Nat → Int32} {x m ot : Nat} {i : Int32} {h h2 : Hp} {ce sl : Nat} (C : Cx g Γ code RL nm 8 ret 2036 601024 7293034) (hX : Scr g Γ L xs) (hc : ce + 1 ≤ 601024) (hs : sl + 6 ≤ 7293034) (hf : f_case16 L xs x m ot i h = some h2) (J : U g Γ 8 Q (ce + 1) (sl + 6) 1662 [(0, .retAddr 0), (1, .ref x), (2, .ref m), (3, .ref ot), (4, .int i)] [] h2) : U g Γ 8 Q ce sl 1030 [(0, .retAddr 0), (1, .ref x), (2, .ref m), (3, .ref ot), (4, .int i)] [] h := by
  unfold f_case16 at hf
  refine U_aload_n (n := 1031) 1 C dL_law_1030 rfl rfl rfl ?_
  refine U_aload_n (n := 1032) 0 C dL_law_1031 rfl rfl rfl ?_
  refine U_iload (n := 1034) 4 C dL_law_1032 rfl rfl ?_
  refine U_iconst (n := 1035) (1 : Int32) C dL_law_1034 kiconst_1 rfl ?_
  refine U_iadd (n := 1036) C dL_law_1035 rfl ?_
  refine U_sld (n := 1037) C hX dL_law_1036 hf rfl (fun v1 hf => ?_)
  refine U_aload_n (n := 1038) 0 C dL_law_1037 rfl rfl rfl ?_
  refine U_iload (n := 1040) 4 C dL_law_1038 rfl rfl ?_
  refine U_iconst (n := 1041) (2 : Int32) C dL_law_1040 kiconst_2 rfl ?_
  refine U_iadd (n := 1042) C dL_law_1041 rfl ?_
  refine U_sld (n := 1043) C hX dL_law_1042 hf rfl (fun v2 hf => ?_)
  refine U_aload_n (n := 1044) 3 C dL_law_1043 rfl rfl rfl ?_
  obtain ⟨v3, h4, ev3, hf⟩ := bsome2 hf
  refine U_callSW (n := 1047) C dL_law_1044 (av := [.ref x, .int v1, .int v2, .ref ot]) ml_RL_153 mt_L_cocircuit in_RL mc_L_cocircuit yn_L_cocircuit (by decide) (M_L_cocircuit ev3) (by decide) hc hs (Nat.le_of_ble_eq_true rfl) rfl ?_
  refine U_istore (n := 1049) (lv2 := [(5, .int v3), (0, .retAddr 0), (1, .ref x), (2, .ref m), (3, .ref ot), (4, .int i)]) C dL_law_1047 (by decide) rfl rfl ?_
  refine U_aload_n (n := 1050) 3 C dL_law_1049 rfl rfl rfl ?_
  refine U_aload_n (n := 1051) 1 C dL_law_1050 rfl rfl rfl ?_
  refine U_iload (n := 1053) 5 C dL_law_1051 rfl rfl ?_
  refine U_iconst (n := 1054) (1 : Int32) C dL_law_1053 kiconst_1 rfl ?_
  refine U_iadd (n := 1055) C dL_law_1054 rfl ?_
  refine U_sld (n := 1056) C hX dL_law_1055 hf rfl (fun v5 hf => ?_)
  refine U_aload_n (n := 1057) 1 C dL_law_1056 rfl rfl rfl ?_
  refine U_iload (n := 1059) 5 C dL_law_1057 rfl rfl ?_
  refine U_iconst (n := 1060) (2 : Int32) C dL_law_1059 kiconst_2 rfl ?_
  refine U_iadd (n := 1061) C dL_law_1060 rfl ?_
  refine U_sld (n := 1062) C hX dL_law_1061 hf rfl (fun v6 hf => ?_)
  obtain ⟨v7, h8, ev7, hf⟩ := bsome2 hf
  refine cv_RL_155 (n := 1065) C dL_law_1062 (av := [.int v5, .int v6]) rfl (rc_X4_cocircuit ev7) (M_X4_cocircuit ev7) (by decide) (by omega) (by omega) (Nat.le_of_ble_eq_true rfl) rfl ?_
  refine U_istore (n := 1067) (lv2 := [(6, .int v7), (5, .int v3), (0, .retAddr 0), (1, .ref x), (2, .ref m), (3, .ref ot), (4, .int i)]) C dL_law_1065 (by decide) rfl rfl ?_
  refine U_aload_n (n := 1068) 4 C dL_law_1067 rfl rfl rfl ?_
  obtain ⟨v9, ev9, hf⟩ := bsome hf
  refine cv_RL_96 (n := 1071) C dL_law_1068 (av := []) rfl (rc_X4_thrown ev9) (M_X4_thrown ev9) (by decide) (by omega) (by omega) (Nat.le_of_ble_eq_true rfl) rfl ?_
  refine U_iload (n := 1073) 1 C dL_law_1071 rfl rfl ?_
  refine U_iceq (tgt := 1078) (n := 1076) C dL_law_1073 (by decide) rfl (fun c10 => ?_) (fun c10 => ?_)
  · replace hf := (if_pos c10).symm.trans hf
    refine U_iload (n := 1080) 1 C dL_law_1078 rfl rfl ?_
    refine U_ifne (tgt := 1095) (n := 1083) C dL_law_1080 (by decide) rfl (fun c11 => ?_) (fun c11 => ?_)
    · replace hf := (if_pos c11).symm.trans hf
      refine U_aload_n (n := 1084) 5 C dL_law_1083 rfl rfl rfl ?_
      refine U_iconst (n := 1085) (0 : Int32) C dL_law_1084 kiconst_0 rfl ?_
      refine U_lald (n := 1086) C dL_law_1085 hf rfl (fun v12 hf => ?_)
      refine U_iload (n := 1088) 0 C dL_law_1086 rfl rfl ?_
      refine U_i2l (n := 1089) C dL_law_1088 rfl ?_
      refine U_lcmp (n := 1090) C dL_law_1089 rfl ?_
      refine U_ifeq (tgt := 1095) (n := 1093) C dL_law_1090 (by decide) rfl (fun c13 => ?_) (fun c13 => ?_)
      · replace hf := (if_pos c13).symm.trans hf
        refine U_goto (n := 0) (tgt := 1662) C dL_law_1095 (by decide) ?_
        have hr := Option.some.inj hf
        subst hr
        exact U_wide (by omega) (by omega) (U_lv [2, 3, 4, 5, 6] rfl J)
      · replace hf := (if_neg c13).symm.trans hf
        refine U_iconst (n := 1094) (0 : Int32) C dL_law_1093 kiconst_0 rfl ?_
        cases hf
    · replace hf := (if_neg c11).symm.trans hf
      refine U_goto (n := 0) (tgt := 1662) C dL_law_1095 (by decide) ?_
      have hr := Option.some.inj hf
      subst hr
      exact U_wide (by omega) (by omega) (U_lv [2, 3, 4, 5, 6] rfl J)
  · replace hf := (if_neg c10).symm.trans hf
    refine U_iconst (n := 1077) (0 : Int32) C dL_law_1076 kiconst_0 rfl ?_
    cases hf
def f_case17 (L : Nat) (xs : Nat → Int32) (x m ot : Nat) (i : Int32) (h : Hp) : Option Hp :=
  (sR L xs (i + (1 : Int32))).bind fun v1 =>
  bind2 (f_L_isExtreme x v1 ot h) fun v2 h3 =>
  (sR L xs (i + (1 : Int32))).bind fun v4 =>
  bind2 (f_X4_isExtreme m v4 h3) fun v5 h6 =>
  (f_X4_thrown m h6).bind fun v7 =>
  if v7 = v2 then (
    if v2 = 0 then (
      (aJ h6 ot (0 : Int32)).bind fun v10 =>
      if v5 = 0 then (
        if (lg_cmp v10 (0 : Int64)) = 0 then (
          some h6
        ) else (
          none
        )
      ) else (
        if (lg_cmp v10 (1 : Int64)) = 0 then (
          some h6
        ) else (
          none
        )
      )
    ) else (
      some h6
    )
  ) else (
    none
  )
set_option maxHeartbeats 2000000 in
set_option maxRecDepth 20000 in
theorem K_case17 {nm : String} {g : GT} {Γ : CT} {Q : State → Prop} {L : Nat} {xs : Nat → Int32} {x m ot : Nat} {i : Int32} {h h2 : Hp} {ce sl : Nat} (C : Cx g Γ code RL nm 8 ret 2036 601024 7293034) (hX : Scr g Γ L xs) (hc : ce + 1 ≤ 601024) (hs : sl + 6 ≤ 7293034) (hf : f_case17 L xs x m ot i h = some h2) (J : U g Γ 8 Q (ce + 1) (sl + 6) 1662 [(0, .retAddr 0), (1, .ref x), (2, .ref m), (3, .ref ot), (4, .int i)] [] h2) : U g Γ 8 Q ce sl 1098 [(0, .retAddr 0), (1, .ref x), (2, .ref m), (3, .ref ot), (4, .int i)] [] h := by
  unfold f_case17 at hf
  refine U_aload_n (n := 1099) 1 C dL_law_1098 rfl rfl rfl ?_
  refine U_aload_n (n := 1100) 0 C dL_law_1099 rfl rfl rfl ?_
  refine U_iload (n := 1102) 4 C dL_law_1100 rfl rfl ?_
  refine U_iconst (n := 1103) (1 : Int32) C dL_law_1102 kiconst_1 rfl ?_
  refine U_iadd (n := 1104) C dL_law_1103 rfl ?_
  refine U_sld (n := 1105) C hX dL_law_1104 hf rfl (fun v1 hf => ?_)
  refine U_aload_n (n := 1106) 3 C dL_law_1105 rfl rfl rfl ?_
  obtain ⟨v2, h3, ev2, hf⟩ := bsome2 hf
  refine U_callSW (n := 1109) C dL_law_1106 (av := [.ref x, .int v1, .ref ot]) ml_RL_156 mt_L_isExtreme in_RL mc_L_isExtreme yn_L_isExtreme (by decide) (M_L_isExtreme ev2) (by decide) hc hs (Nat.le_of_ble_eq_true rfl) rfl ?_
  refine U_istore (n := 1111) (lv2 := [(5, .int v2), (0, .retAddr 0), (1, .ref x), (2, .ref m), (3, .ref ot), (4, .int i)]) C dL_law_1109 (by decide) rfl rfl ?_
  refine U_aload_n (n := 1112) 3 C dL_law_1111 rfl rfl rfl ?_
  refine U_aload_n (n := 1113) 1 C dL_law_1112 rfl rfl rfl ?_
  refine U_iload (n := 1115) 5 C dL_law_1113 rfl rfl ?_
  refine U_iconst (n := 1116) (1 : Int32) C dL_law_1115 kiconst_1 rfl ?_
  refine U_iadd (n := 1117) C dL_law_1116 rfl ?_
  refine U_sld (n := 1118) C hX dL_law_1117 hf rfl (fun v4 hf => ?_)
  obtain ⟨v5, h6, ev5, hf⟩ := bsome2 hf
  refine cv_RL_158 (n := 1121) C dL_law_1118 (av := [.int v4]) rfl (rc_X4_isExtreme ev5) (M_X4_isExtreme ev5) (by decide) (by omega) (by omega) (Nat.le_of_ble_eq_true rfl) rfl ?_
  refine U_istore (n := 1123) (lv2 := [(6, .int v5), (5, .int v2), (0, .retAddr 0), (1, .ref x), (2, .ref m), (3, .ref ot), (4, .int i)]) C dL_law_1121 (by decide) rfl rfl ?_
  refine U_aload_n (n := 1124) 4 C dL_law_1123 rfl rfl rfl ?_
  obtain ⟨v7, ev7, hf⟩ := bsome hf
  refine cv_RL_96 (n := 1127) C dL_law_1124 (av := []) rfl (rc_X4_thrown ev7) (M_X4_thrown ev7) (by decide) (by omega) (by omega) (Nat.le_of_ble_eq_true rfl) rfl ?_
  refine U_iload (n := 1129) 1 C dL_law_1127 rfl rfl ?_
  refine U_iceq (tgt := 1134) (n := 1132) C dL_law_1129 (by decide) rfl (fun c8 => ?_) (fun c8 => ?_)
  · replace hf := (if_pos c8).symm.trans hf
    refine U_iload (n := 1136) 1 C dL_law_1134 rfl rfl ?_
    refine U_ifne (tgt := 1158) (n := 1139) C dL_law_1136 (by decide) rfl (fun c9 => ?_) (fun c9 => ?_)
    · replace hf := (if_pos c9).symm.trans hf
      refine U_aload_n (n := 1140) 5 C dL_law_1139 rfl rfl rfl ?_
      refine U_iconst (n := 1141) (0 : Int32) C dL_law_1140 kiconst_0 rfl ?_
      refine U_lald (n := 1142) C dL_law_1141 hf rfl (fun v10 hf => ?_)
      refine U_iload (n := 1144) 0 C dL_law_1142 rfl rfl ?_
      refine U_ifeq (tgt := 1151) (n := 1147) C dL_law_1144 (by decide) rfl (fun c11 => ?_) (fun c11 => ?_)
      · replace hf := (if_pos c11).symm.trans hf
        refine U_lconst (n := 1152) (0 : Int64) C dL_law_1151 klconst_0 rfl ?_
        refine U_lcmp (n := 1153) C dL_law_1152 rfl ?_
        refine U_ifeq (tgt := 1158) (n := 1156) C dL_law_1153 (by decide) rfl (fun c12 => ?_) (fun c12 => ?_)
        · replace hf := (if_pos c12).symm.trans hf
          refine U_goto (n := 0) (tgt := 1662) C dL_law_1158 (by decide) ?_
          have hr := Option.some.inj hf
          subst hr
          exact U_wide (by omega) (by omega) (U_lv [2, 3, 4, 5, 6] rfl J)
        · replace hf := (if_neg c12).symm.trans hf
          refine U_iconst (n := 1157) (0 : Int32) C dL_law_1156 kiconst_0 rfl ?_
          cases hf
      · replace hf := (if_neg c11).symm.trans hf
        refine U_lconst (n := 1148) (1 : Int64) C dL_law_1147 klconst_1 rfl ?_
        refine U_goto (n := 0) (tgt := 1152) C dL_law_1148 (by decide) ?_
        refine U_lcmp (n := 1153) C dL_law_1152 rfl ?_
        refine U_ifeq (tgt := 1158) (n := 1156) C dL_law_1153 (by decide) rfl (fun c13 => ?_) (fun c13 => ?_)
        · replace hf := (if_pos c13).symm.trans hf
          refine U_goto (n := 0) (tgt := 1662) C dL_law_1158 (by decide) ?_
          have hr := Option.some.inj hf
          subst hr
          exact U_wide (by omega) (by omega) (U_lv [2, 3, 4, 5, 6] rfl J)
        · replace hf := (if_neg c13).symm.trans hf
          refine U_iconst (n := 1157) (0 : Int32) C dL_law_1156 kiconst_0 rfl ?_
          cases hf
    · replace hf := (if_neg c9).symm.trans hf
      refine U_goto (n := 0) (tgt := 1662) C dL_law_1158 (by decide) ?_
      have hr := Option.some.inj hf
      subst hr
      exact U_wide (by omega) (by omega) (U_lv [2, 3, 4, 5, 6] rfl J)
  · replace hf := (if_neg c8).symm.trans hf
    refine U_iconst (n := 1133) (0 : Int32) C dL_law_1132 kiconst_0 rfl ?_
    cases hf
def f_case18 (L : Nat) (xs : Nat → Int32) (x m ot : Nat) (i : Int32) (h : Hp) : Option Hp :=
  bind2 (f_L_lines x ot h) fun v1 h2 =>
  bind2 (f_X4_lines m h2) fun v3 h4 =>
  (f_X4_thrown m h4).bind fun v5 =>
  if v5 = v1 then (
    if v1 = 0 then (
      (aJ h4 ot (0 : Int32)).bind fun v8 =>
      if (lg_cmp v8 (v3).toInt64) = 0 then (
        some h4
      ) else (
        none
      )
    ) else (
      some h4
    )
  ) else (
    none
  )
set_option maxHeartbeats 2000000 in
set_option maxRecDepth 20000 in
theorem K_case18 {nm : String} {g : GT} {Γ : CT} {Q : State → Prop} {L : Nat} {xs : Nat → Int32} {x m ot : Nat} {i : Int32} {h h2 : Hp} {ce sl : Nat} (C : Cx g Γ code RL nm 8 ret 2036 601024 7293034) (hX : Scr g Γ L xs) (hc : ce + 1 ≤ 601024) (hs : sl + 6 ≤ 7293034) (hf : f_case18 L xs x m ot i h = some h2) (J : U g Γ 8 Q (ce + 1) (sl + 6) 1662 [(0, .retAddr 0), (1, .ref x), (2, .ref m), (3, .ref ot), (4, .int i)] [] h2) : U g Γ 8 Q ce sl 1161 [(0, .retAddr 0), (1, .ref x), (2, .ref m), (3, .ref ot), (4, .int i)] [] h := by
  unfold f_case18 at hf
  refine U_aload_n (n := 1162) 1 C dL_law_1161 rfl rfl rfl ?_
  refine U_aload_n (n := 1163) 3 C dL_law_1162 rfl rfl rfl ?_
  obtain ⟨v1, h2, ev1, hf⟩ := bsome2 hf
  refine U_callSW (n := 1166) C dL_law_1163 (av := [.ref x, .ref ot]) ml_RL_159 mt_L_lines in_RL mc_L_lines yn_L_lines (by decide) (M_L_lines ev1) (by decide) hc hs (Nat.le_of_ble_eq_true rfl) rfl ?_
  refine U_istore (n := 1168) (lv2 := [(5, .int v1), (0, .retAddr 0), (1, .ref x), (2, .ref m), (3, .ref ot), (4, .int i)]) C dL_law_1166 (by decide) rfl rfl ?_
  refine U_aload_n (n := 1169) 3 C dL_law_1168 rfl rfl rfl ?_
  obtain ⟨v3, h4, ev3, hf⟩ := bsome2 hf
  refine cv_RL_161 (n := 1172) C dL_law_1169 (av := []) rfl (rc_X4_lines ev3) (M_X4_lines ev3) (by decide) (by omega) (by omega) (Nat.le_of_ble_eq_true rfl) rfl ?_
  refine U_istore (n := 1174) (lv2 := [(6, .int v3), (5, .int v1), (0, .retAddr 0), (1, .ref x), (2, .ref m), (3, .ref ot), (4, .int i)]) C dL_law_1172 (by decide) rfl rfl ?_
  refine U_aload_n (n := 1175) 4 C dL_law_1174 rfl rfl rfl ?_
  obtain ⟨v5, ev5, hf⟩ := bsome hf
  refine cv_RL_96 (n := 1178) C dL_law_1175 (av := []) rfl (rc_X4_thrown ev5) (M_X4_thrown ev5) (by decide) (by omega) (by omega) (Nat.le_of_ble_eq_true rfl) rfl ?_
  refine U_iload (n := 1180) 1 C dL_law_1178 rfl rfl ?_
  refine U_iceq (tgt := 1185) (n := 1183) C dL_law_1180 (by decide) rfl (fun c6 => ?_) (fun c6 => ?_)
  · replace hf := (if_pos c6).symm.trans hf
    refine U_iload (n := 1187) 1 C dL_law_1185 rfl rfl ?_
    refine U_ifne (tgt := 1202) (n := 1190) C dL_law_1187 (by decide) rfl (fun c7 => ?_) (fun c7 => ?_)
    · replace hf := (if_pos c7).symm.trans hf
      refine U_aload_n (n := 1191) 5 C dL_law_1190 rfl rfl rfl ?_
      refine U_iconst (n := 1192) (0 : Int32) C dL_law_1191 kiconst_0 rfl ?_
      refine U_lald (n := 1193) C dL_law_1192 hf rfl (fun v8 hf => ?_)
      refine U_iload (n := 1195) 0 C dL_law_1193 rfl rfl ?_
      refine U_i2l (n := 1196) C dL_law_1195 rfl ?_
      refine U_lcmp (n := 1197) C dL_law_1196 rfl ?_
      refine U_ifeq (tgt := 1202) (n := 1200) C dL_law_1197 (by decide) rfl (fun c9 => ?_) (fun c9 => ?_)
      · replace hf := (if_pos c9).symm.trans hf
        refine U_goto (n := 0) (tgt := 1662) C dL_law_1202 (by decide) ?_
        have hr := Option.some.inj hf
        subst hr
        exact U_wide (by omega) (by omega) (U_lv [2, 3, 4, 5, 6] rfl J)
      · replace hf := (if_neg c9).symm.trans hf
        refine U_iconst (n := 1201) (0 : Int32) C dL_law_1200 kiconst_0 rfl ?_
        cases hf
    · replace hf := (if_neg c7).symm.trans hf
      refine U_goto (n := 0) (tgt := 1662) C dL_law_1202 (by decide) ?_
      have hr := Option.some.inj hf
      subst hr
      exact U_wide (by omega) (by omega) (U_lv [2, 3, 4, 5, 6] rfl J)
  · replace hf := (if_neg c6).symm.trans hf
    refine U_iconst (n := 1184) (0 : Int32) C dL_law_1183 kiconst_0 rfl ?_
    cases hf
def f_case19 (L : Nat) (xs : Nat → Int32) (x m ot : Nat) (i : Int32) (h : Hp) : Option Hp :=
  (sR L xs (i + (1 : Int32))).bind fun v1 =>
  (sR L xs (i + (2 : Int32))).bind fun v2 =>
  (sR L xs (i + (3 : Int32))).bind fun v3 =>
  bind2 (f_L_place x v1 v2 v3 ot h) fun v4 h5 =>
  (sR L xs (i + (1 : Int32))).bind fun v6 =>
  (sR L xs (i + (2 : Int32))).bind fun v7 =>
  (sR L xs (i + (3 : Int32))).bind fun v8 =>
  bind2 (f_X4_place m v6 v7 v8 h5) fun v9 h10 =>
  (f_X4_thrown m h10).bind fun v11 =>
  if v11 = v4 then (
    if v4 = 0 then (
      (aJ h10 ot (0 : Int32)).bind fun v14 =>
      if v9 = 0 then (
        if (lg_cmp v14 (0 : Int64)) = 0 then (
          some h10
        ) else (
          none
        )
      ) else (
        if (lg_cmp v14 (1 : Int64)) = 0 then (
          some h10
        ) else (
          none
        )
      )
    ) else (
      some h10
    )
  ) else (
    none
  )
set_option maxHeartbeats 2000000 in
set_option maxRecDepth 20000 in
theorem K_case19 {nm : String} {g : GT} {Γ : CT} {Q : State → Prop} {L : Nat} {xs : Nat → Int32} {x m ot : Nat} {i : Int32} {h h2 : Hp} {ce sl : Nat} (C : Cx g Γ code RL nm 8 ret 2036 601024 7293034) (hX : Scr g Γ L xs) (hc : ce + 1 ≤ 601024) (hs : sl + 6 ≤ 7293034) (hf : f_case19 L xs x m ot i h = some h2) (J : U g Γ 8 Q (ce + 1) (sl + 6) 1662 [(0, .retAddr 0), (1, .ref x), (2, .ref m), (3, .ref ot), (4, .int i)] [] h2) : U g Γ 8 Q ce sl 1205 [(0, .retAddr 0), (1, .ref x), (2, .ref m), (3, .ref ot), (4, .int i)] [] h := by
  unfold f_case19 at hf
  refine U_aload_n (n := 1206) 1 C dL_law_1205 rfl rfl rfl ?_
  refine U_aload_n (n := 1207) 0 C dL_law_1206 rfl rfl rfl ?_
  refine U_iload (n := 1209) 4 C dL_law_1207 rfl rfl ?_
  refine U_iconst (n := 1210) (1 : Int32) C dL_law_1209 kiconst_1 rfl ?_
  refine U_iadd (n := 1211) C dL_law_1210 rfl ?_
  refine U_sld (n := 1212) C hX dL_law_1211 hf rfl (fun v1 hf => ?_)
  refine U_aload_n (n := 1213) 0 C dL_law_1212 rfl rfl rfl ?_
  refine U_iload (n := 1215) 4 C dL_law_1213 rfl rfl ?_
  refine U_iconst (n := 1216) (2 : Int32) C dL_law_1215 kiconst_2 rfl ?_
  refine U_iadd (n := 1217) C dL_law_1216 rfl ?_
  refine U_sld (n := 1218) C hX dL_law_1217 hf rfl (fun v2 hf => ?_)
  refine U_aload_n (n := 1219) 0 C dL_law_1218 rfl rfl rfl ?_
  refine U_iload (n := 1221) 4 C dL_law_1219 rfl rfl ?_
  refine U_iconst (n := 1222) (3 : Int32) C dL_law_1221 kiconst_3 rfl ?_
  refine U_iadd (n := 1223) C dL_law_1222 rfl ?_
  refine U_sld (n := 1224) C hX dL_law_1223 hf rfl (fun v3 hf => ?_)
  refine U_aload_n (n := 1225) 3 C dL_law_1224 rfl rfl rfl ?_
  obtain ⟨v4, h5, ev4, hf⟩ := bsome2 hf
  refine U_callSW (n := 1228) C dL_law_1225 (av := [.ref x, .int v1, .int v2, .int v3, .ref ot]) ml_RL_162 mt_L_place in_RL mc_L_place yn_L_place (by decide) (M_L_place ev4) (by decide) hc hs (Nat.le_of_ble_eq_true rfl) rfl ?_
  refine U_istore (n := 1230) (lv2 := [(5, .int v4), (0, .retAddr 0), (1, .ref x), (2, .ref m), (3, .ref ot), (4, .int i)]) C dL_law_1228 (by decide) rfl rfl ?_
  refine U_aload_n (n := 1231) 3 C dL_law_1230 rfl rfl rfl ?_
  refine U_aload_n (n := 1232) 1 C dL_law_1231 rfl rfl rfl ?_
  refine U_iload (n := 1234) 5 C dL_law_1232 rfl rfl ?_
  refine U_iconst (n := 1235) (1 : Int32) C dL_law_1234 kiconst_1 rfl ?_
  refine U_iadd (n := 1236) C dL_law_1235 rfl ?_
  refine U_sld (n := 1237) C hX dL_law_1236 hf rfl (fun v6 hf => ?_)
  refine U_aload_n (n := 1238) 1 C dL_law_1237 rfl rfl rfl ?_
  refine U_iload (n := 1240) 5 C dL_law_1238 rfl rfl ?_
  refine U_iconst (n := 1241) (2 : Int32) C dL_law_1240 kiconst_2 rfl ?_
  refine U_iadd (n := 1242) C dL_law_1241 rfl ?_
  refine U_sld (n := 1243) C hX dL_law_1242 hf rfl (fun v7 hf => ?_)
  refine U_aload_n (n := 1244) 1 C dL_law_1243 rfl rfl rfl ?_
  refine U_iload (n := 1246) 5 C dL_law_1244 rfl rfl ?_
  refine U_iconst (n := 1247) (3 : Int32) C dL_law_1246 kiconst_3 rfl ?_
  refine U_iadd (n := 1248) C dL_law_1247 rfl ?_
  refine U_sld (n := 1249) C hX dL_law_1248 hf rfl (fun v8 hf => ?_)
  obtain ⟨v9, h10, ev9, hf⟩ := bsome2 hf
  refine cv_RL_164 (n := 1252) C dL_law_1249 (av := [.int v6, .int v7, .int v8]) rfl (rc_X4_place ev9) (M_X4_place ev9) (by decide) (by omega) (by omega) (Nat.le_of_ble_eq_true rfl) rfl ?_
  refine U_istore (n := 1254) (lv2 := [(6, .int v9), (5, .int v4), (0, .retAddr 0), (1, .ref x), (2, .ref m), (3, .ref ot), (4, .int i)]) C dL_law_1252 (by decide) rfl rfl ?_
  refine U_aload_n (n := 1255) 4 C dL_law_1254 rfl rfl rfl ?_
  obtain ⟨v11, ev11, hf⟩ := bsome hf
  refine cv_RL_96 (n := 1258) C dL_law_1255 (av := []) rfl (rc_X4_thrown ev11) (M_X4_thrown ev11) (by decide) (by omega) (by omega) (Nat.le_of_ble_eq_true rfl) rfl ?_
  refine U_iload (n := 1260) 1 C dL_law_1258 rfl rfl ?_
  refine U_iceq (tgt := 1265) (n := 1263) C dL_law_1260 (by decide) rfl (fun c12 => ?_) (fun c12 => ?_)
  · replace hf := (if_pos c12).symm.trans hf
    refine U_iload (n := 1267) 1 C dL_law_1265 rfl rfl ?_
    refine U_ifne (tgt := 1289) (n := 1270) C dL_law_1267 (by decide) rfl (fun c13 => ?_) (fun c13 => ?_)
    · replace hf := (if_pos c13).symm.trans hf
      refine U_aload_n (n := 1271) 5 C dL_law_1270 rfl rfl rfl ?_
      refine U_iconst (n := 1272) (0 : Int32) C dL_law_1271 kiconst_0 rfl ?_
      refine U_lald (n := 1273) C dL_law_1272 hf rfl (fun v14 hf => ?_)
      refine U_iload (n := 1275) 0 C dL_law_1273 rfl rfl ?_
      refine U_ifeq (tgt := 1282) (n := 1278) C dL_law_1275 (by decide) rfl (fun c15 => ?_) (fun c15 => ?_)
      · replace hf := (if_pos c15).symm.trans hf
        refine U_lconst (n := 1283) (0 : Int64) C dL_law_1282 klconst_0 rfl ?_
        refine U_lcmp (n := 1284) C dL_law_1283 rfl ?_
        refine U_ifeq (tgt := 1289) (n := 1287) C dL_law_1284 (by decide) rfl (fun c16 => ?_) (fun c16 => ?_)
        · replace hf := (if_pos c16).symm.trans hf
          refine U_goto (n := 0) (tgt := 1662) C dL_law_1289 (by decide) ?_
          have hr := Option.some.inj hf
          subst hr
          exact U_wide (by omega) (by omega) (U_lv [2, 3, 4, 5, 6] rfl J)
        · replace hf := (if_neg c16).symm.trans hf
          refine U_iconst (n := 1288) (0 : Int32) C dL_law_1287 kiconst_0 rfl ?_
          cases hf
      · replace hf := (if_neg c15).symm.trans hf
        refine U_lconst (n := 1279) (1 : Int64) C dL_law_1278 klconst_1 rfl ?_
        refine U_goto (n := 0) (tgt := 1283) C dL_law_1279 (by decide) ?_
        refine U_lcmp (n := 1284) C dL_law_1283 rfl ?_
        refine U_ifeq (tgt := 1289) (n := 1287) C dL_law_1284 (by decide) rfl (fun c17 => ?_) (fun c17 => ?_)
        · replace hf := (if_pos c17).symm.trans hf
          refine U_goto (n := 0) (tgt := 1662) C dL_law_1289 (by decide) ?_
          have hr := Option.some.inj hf
          subst hr
          exact U_wide (by omega) (by omega) (U_lv [2, 3, 4, 5, 6] rfl J)
        · replace hf := (if_neg c17).symm.trans hf
          refine U_iconst (n := 1288) (0 : Int32) C dL_law_1287 kiconst_0 rfl ?_
          cases hf
    · replace hf := (if_neg c13).symm.trans hf
      refine U_goto (n := 0) (tgt := 1662) C dL_law_1289 (by decide) ?_
      have hr := Option.some.inj hf
      subst hr
      exact U_wide (by omega) (by omega) (U_lv [2, 3, 4, 5, 6] rfl J)
  · replace hf := (if_neg c12).symm.trans hf
    refine U_iconst (n := 1264) (0 : Int32) C dL_law_1263 kiconst_0 rfl ?_
    cases hf
def f_case20 (L : Nat) (xs : Nat → Int32) (x m ot : Nat) (i : Int32) (h : Hp) : Option Hp :=
  (sR L xs (i + (1 : Int32))).bind fun v1 =>
  (sR L xs (i + (2 : Int32))).bind fun v2 =>
  bind2 (f_L_coordinate x v1 v2 ot h) fun v3 h4 =>
  (sR L xs (i + (1 : Int32))).bind fun v5 =>
  (sR L xs (i + (2 : Int32))).bind fun v6 =>
  bind2 (f_X4_coordinate m v5 v6 h4) fun v7 h8 =>
  (f_X4_thrown m h8).bind fun v9 =>
  if v9 = v3 then (
    if v3 = 0 then (
      (aJ h8 ot (0 : Int32)).bind fun v12 =>
      if (lg_cmp v12 (v7).toInt64) = 0 then (
        some h8
      ) else (
        none
      )
    ) else (
      some h8
    )
  ) else (
    none
  )
set_option maxHeartbeats 2000000 in
set_option maxRecDepth 20000 in
theorem K_case20 {nm : String} {g : GT} {Γ : CT} {Q : State → Prop} {L : Nat} {xs : Nat → Int32} {x m ot : Nat} {i : Int32} {h h2 : Hp} {ce sl : Nat} (C : Cx g Γ code RL nm 8 ret 2036 601024 7293034) (hX : Scr g Γ L xs) (hc : ce + 1 ≤ 601024) (hs : sl + 6 ≤ 7293034) (hf : f_case20 L xs x m ot i h = some h2) (J : U g Γ 8 Q (ce + 1) (sl + 6) 1662 [(0, .retAddr 0), (1, .ref x), (2, .ref m), (3, .ref ot), (4, .int i)] [] h2) : U g Γ 8 Q ce sl 1292 [(0, .retAddr 0), (1, .ref x), (2, .ref m), (3, .ref ot), (4, .int i)] [] h := by
  unfold f_case20 at hf
  refine U_aload_n (n := 1293) 1 C dL_law_1292 rfl rfl rfl ?_
  refine U_aload_n (n := 1294) 0 C dL_law_1293 rfl rfl rfl ?_
  refine U_iload (n := 1296) 4 C dL_law_1294 rfl rfl ?_
  refine U_iconst (n := 1297) (1 : Int32) C dL_law_1296 kiconst_1 rfl ?_
  refine U_iadd (n := 1298) C dL_law_1297 rfl ?_
  refine U_sld (n := 1299) C hX dL_law_1298 hf rfl (fun v1 hf => ?_)
  refine U_aload_n (n := 1300) 0 C dL_law_1299 rfl rfl rfl ?_
  refine U_iload (n := 1302) 4 C dL_law_1300 rfl rfl ?_
  refine U_iconst (n := 1303) (2 : Int32) C dL_law_1302 kiconst_2 rfl ?_
  refine U_iadd (n := 1304) C dL_law_1303 rfl ?_
  refine U_sld (n := 1305) C hX dL_law_1304 hf rfl (fun v2 hf => ?_)
  refine U_aload_n (n := 1306) 3 C dL_law_1305 rfl rfl rfl ?_
  obtain ⟨v3, h4, ev3, hf⟩ := bsome2 hf
  refine U_callSW (n := 1309) C dL_law_1306 (av := [.ref x, .int v1, .int v2, .ref ot]) ml_RL_165 mt_L_coordinate in_RL mc_L_coordinate yn_L_coordinate (by decide) (M_L_coordinate ev3) (by decide) hc hs (Nat.le_of_ble_eq_true rfl) rfl ?_
  refine U_istore (n := 1311) (lv2 := [(5, .int v3), (0, .retAddr 0), (1, .ref x), (2, .ref m), (3, .ref ot), (4, .int i)]) C dL_law_1309 (by decide) rfl rfl ?_
  refine U_aload_n (n := 1312) 3 C dL_law_1311 rfl rfl rfl ?_
  refine U_aload_n (n := 1313) 1 C dL_law_1312 rfl rfl rfl ?_
  refine U_iload (n := 1315) 5 C dL_law_1313 rfl rfl ?_
  refine U_iconst (n := 1316) (1 : Int32) C dL_law_1315 kiconst_1 rfl ?_
  refine U_iadd (n := 1317) C dL_law_1316 rfl ?_
  refine U_sld (n := 1318) C hX dL_law_1317 hf rfl (fun v5 hf => ?_)
  refine U_aload_n (n := 1319) 1 C dL_law_1318 rfl rfl rfl ?_
  refine U_iload (n := 1321) 5 C dL_law_1319 rfl rfl ?_
  refine U_iconst (n := 1322) (2 : Int32) C dL_law_1321 kiconst_2 rfl ?_
  refine U_iadd (n := 1323) C dL_law_1322 rfl ?_
  refine U_sld (n := 1324) C hX dL_law_1323 hf rfl (fun v6 hf => ?_)
  obtain ⟨v7, h8, ev7, hf⟩ := bsome2 hf
  refine cv_RL_167 (n := 1327) C dL_law_1324 (av := [.int v5, .int v6]) rfl (rc_X4_coordinate ev7) (M_X4_coordinate ev7) (by decide) (by omega) (by omega) (Nat.le_of_ble_eq_true rfl) rfl ?_
  refine U_istore (n := 1329) (lv2 := [(6, .int v7), (5, .int v3), (0, .retAddr 0), (1, .ref x), (2, .ref m), (3, .ref ot), (4, .int i)]) C dL_law_1327 (by decide) rfl rfl ?_
  refine U_aload_n (n := 1330) 4 C dL_law_1329 rfl rfl rfl ?_
  obtain ⟨v9, ev9, hf⟩ := bsome hf
  refine cv_RL_96 (n := 1333) C dL_law_1330 (av := []) rfl (rc_X4_thrown ev9) (M_X4_thrown ev9) (by decide) (by omega) (by omega) (Nat.le_of_ble_eq_true rfl) rfl ?_
  refine U_iload (n := 1335) 1 C dL_law_1333 rfl rfl ?_
  refine U_iceq (tgt := 1340) (n := 1338) C dL_law_1335 (by decide) rfl (fun c10 => ?_) (fun c10 => ?_)
  · replace hf := (if_pos c10).symm.trans hf
    refine U_iload (n := 1342) 1 C dL_law_1340 rfl rfl ?_
    refine U_ifne (tgt := 1357) (n := 1345) C dL_law_1342 (by decide) rfl (fun c11 => ?_) (fun c11 => ?_)
    · replace hf := (if_pos c11).symm.trans hf
      refine U_aload_n (n := 1346) 5 C dL_law_1345 rfl rfl rfl ?_
      refine U_iconst (n := 1347) (0 : Int32) C dL_law_1346 kiconst_0 rfl ?_
      refine U_lald (n := 1348) C dL_law_1347 hf rfl (fun v12 hf => ?_)
      refine U_iload (n := 1350) 0 C dL_law_1348 rfl rfl ?_
      refine U_i2l (n := 1351) C dL_law_1350 rfl ?_
      refine U_lcmp (n := 1352) C dL_law_1351 rfl ?_
      refine U_ifeq (tgt := 1357) (n := 1355) C dL_law_1352 (by decide) rfl (fun c13 => ?_) (fun c13 => ?_)
      · replace hf := (if_pos c13).symm.trans hf
        refine U_goto (n := 0) (tgt := 1662) C dL_law_1357 (by decide) ?_
        have hr := Option.some.inj hf
        subst hr
        exact U_wide (by omega) (by omega) (U_lv [2, 3, 4, 5, 6] rfl J)
      · replace hf := (if_neg c13).symm.trans hf
        refine U_iconst (n := 1356) (0 : Int32) C dL_law_1355 kiconst_0 rfl ?_
        cases hf
    · replace hf := (if_neg c11).symm.trans hf
      refine U_goto (n := 0) (tgt := 1662) C dL_law_1357 (by decide) ?_
      have hr := Option.some.inj hf
      subst hr
      exact U_wide (by omega) (by omega) (U_lv [2, 3, 4, 5, 6] rfl J)
  · replace hf := (if_neg c10).symm.trans hf
    refine U_iconst (n := 1339) (0 : Int32) C dL_law_1338 kiconst_0 rfl ?_
    cases hf
def f_case21 (L : Nat) (xs : Nat → Int32) (x m ot : Nat) (i : Int32) (h : Hp) : Option Hp :=
  bind2 (f_X3_read x h) fun v1 h2 =>
  bind2 (f_X4_read m h2) fun v3 h4 =>
  if v1 = v3 then (
    some h4
  ) else (
    none
  )
set_option maxHeartbeats 2000000 in
set_option maxRecDepth 20000 in
theorem K_case21 {nm : String} {g : GT} {Γ : CT} {Q : State → Prop} {L : Nat} {xs : Nat → Int32} {x m ot : Nat} {i : Int32} {h h2 : Hp} {ce sl : Nat} (C : Cx g Γ code RL nm 8 ret 2036 601024 7293034) (hX : Scr g Γ L xs) (hc : ce + 1 ≤ 601024) (hs : sl + 6 ≤ 7293034) (hf : f_case21 L xs x m ot i h = some h2) (J : U g Γ 8 Q (ce + 1) (sl + 6) 1662 [(0, .retAddr 0), (1, .ref x), (2, .ref m), (3, .ref ot), (4, .int i)] [] h2) : U g Γ 8 Q ce sl 1360 [(0, .retAddr 0), (1, .ref x), (2, .ref m), (3, .ref ot), (4, .int i)] [] h := by
  unfold f_case21 at hf
  refine U_aload_n (n := 1361) 1 C dL_law_1360 rfl rfl rfl ?_
  obtain ⟨v1, h2, ev1, hf⟩ := bsome2 hf
  refine cv_RL_168 (n := 1364) C dL_law_1361 (av := []) rfl (rc_X3_read ev1) (M_X3_read ev1) (by decide) (by omega) (by omega) (Nat.le_of_ble_eq_true rfl) rfl ?_
  refine U_aload_n (n := 1365) 2 C dL_law_1364 rfl rfl rfl ?_
  obtain ⟨v3, h4, ev3, hf⟩ := bsome2 hf
  refine cv_RL_171 (n := 1368) C dL_law_1365 (av := []) rfl (rc_X4_read ev3) (M_X4_read ev3) (by decide) (by omega) (by omega) (Nat.le_of_ble_eq_true rfl) rfl ?_
  refine U_iceq (tgt := 1662) (n := 1371) C dL_law_1368 (by decide) rfl (fun c5 => ?_) (fun c5 => ?_)
  · replace hf := (if_pos c5).symm.trans hf
    have hr := Option.some.inj hf
    subst hr
    exact U_wide (by omega) (by omega) (U_lv [0, 1, 2, 3, 4] rfl J)
  · replace hf := (if_neg c5).symm.trans hf
    refine U_iconst (n := 1372) (0 : Int32) C dL_law_1371 kiconst_0 rfl ?_
    cases hf
def f_case22 (L : Nat) (xs : Nat → Int32) (x m ot : Nat) (i : Int32) (h : Hp) : Option Hp :=
  (f_X3_mismatches x h).bind fun v1 =>
  bind2 (f_X4_mismatches m h) fun v2 h3 =>
  if v1 = v2 then (
    some h3
  ) else (
    none
  )
set_option maxHeartbeats 2000000 in
set_option maxRecDepth 20000 in
theorem K_case22 {nm : String} {g : GT} {Γ : CT} {Q : State → Prop} {L : Nat} {xs : Nat → Int32} {x m ot : Nat} {i : Int32} {h h2 : Hp} {ce sl : Nat} (C : Cx g Γ code RL nm 8 ret 2036 601024 7293034) (hX : Scr g Γ L xs) (hc : ce + 1 ≤ 601024) (hs : sl + 6 ≤ 7293034) (hf : f_case22 L xs x m ot i h = some h2) (J : U g Γ 8 Q (ce + 1) (sl + 6) 1662 [(0, .retAddr 0), (1, .ref x), (2, .ref m), (3, .ref ot), (4, .int i)] [] h2) : U g Γ 8 Q ce sl 1373 [(0, .retAddr 0), (1, .ref x), (2, .ref m), (3, .ref ot), (4, .int i)] [] h := by
  unfold f_case22 at hf
  refine U_aload_n (n := 1374) 1 C dL_law_1373 rfl rfl rfl ?_
  obtain ⟨v1, ev1, hf⟩ := bsome hf
  refine cv_RL_172 (n := 1377) C dL_law_1374 (av := []) rfl (rc_X3_mismatches ev1) (M_X3_mismatches ev1) (by decide) (by omega) (by omega) (Nat.le_of_ble_eq_true rfl) rfl ?_
  refine U_aload_n (n := 1378) 2 C dL_law_1377 rfl rfl rfl ?_
  obtain ⟨v2, h3, ev2, hf⟩ := bsome2 hf
  refine cv_RL_175 (n := 1381) C dL_law_1378 (av := []) rfl (rc_X4_mismatches ev2) (M_X4_mismatches ev2) (by decide) (by omega) (by omega) (Nat.le_of_ble_eq_true rfl) rfl ?_
  refine U_iceq (tgt := 1662) (n := 1384) C dL_law_1381 (by decide) rfl (fun c4 => ?_) (fun c4 => ?_)
  · replace hf := (if_pos c4).symm.trans hf
    have hr := Option.some.inj hf
    subst hr
    exact U_wide (by omega) (by omega) (U_lv [0, 1, 2, 3, 4] rfl J)
  · replace hf := (if_neg c4).symm.trans hf
    refine U_iconst (n := 1385) (0 : Int32) C dL_law_1384 kiconst_0 rfl ?_
    cases hf
def f_case23 (L : Nat) (xs : Nat → Int32) (x m ot : Nat) (i : Int32) (h : Hp) : Option Hp :=
  (sR L xs (i + (1 : Int32))).bind fun v1 =>
  (sR L xs (i + (2 : Int32))).bind fun v2 =>
  (sR L xs (i + (3 : Int32))).bind fun v3 =>
  bind2 (f_L_scatter x v1 v2 v3 ot h) fun v4 h5 =>
  (sR L xs (i + (1 : Int32))).bind fun v6 =>
  (sR L xs (i + (2 : Int32))).bind fun v7 =>
  (sR L xs (i + (3 : Int32))).bind fun v8 =>
  bind2 (f_X4_scatter m v6 v7 v8 h5) fun v9 h10 =>
  (f_X4_thrown m h10).bind fun v11 =>
  if v11 = v4 then (
    if v4 = 0 then (
      (aJ h10 ot (0 : Int32)).bind fun v14 =>
      if (lg_cmp v14 (v9).toInt64) = 0 then (
        some h10
      ) else (
        none
      )
    ) else (
      some h10
    )
  ) else (
    none
  )
set_option maxHeartbeats 2000000 in
set_option maxRecDepth 20000 in
theorem K_case23 {nm : String} {g : GT} {Γ : CT} {Q : State → Prop} {L : Nat} {xs : Nat → Int32} {x m ot : Nat} {i : Int32} {h h2 : Hp} {ce sl : Nat} (C : Cx g Γ code RL nm 8 ret 2036 601024 7293034) (hX : Scr g Γ L xs) (hc : ce + 1 ≤ 601024) (hs : sl + 6 ≤ 7293034) (hf : f_case23 L xs x m ot i h = some h2) (J : U g Γ 8 Q (ce + 1) (sl + 6) 1662 [(0, .retAddr 0), (1, .ref x), (2, .ref m), (3, .ref ot), (4, .int i)] [] h2) : U g Γ 8 Q ce sl 1386 [(0, .retAddr 0), (1, .ref x), (2, .ref m), (3, .ref ot), (4, .int i)] [] h := by
  unfold f_case23 at hf
  refine U_aload_n (n := 1387) 1 C dL_law_1386 rfl rfl rfl ?_
  refine U_aload_n (n := 1388) 0 C dL_law_1387 rfl rfl rfl ?_
  refine U_iload (n := 1390) 4 C dL_law_1388 rfl rfl ?_
  refine U_iconst (n := 1391) (1 : Int32) C dL_law_1390 kiconst_1 rfl ?_
  refine U_iadd (n := 1392) C dL_law_1391 rfl ?_
  refine U_sld (n := 1393) C hX dL_law_1392 hf rfl (fun v1 hf => ?_)
  refine U_aload_n (n := 1394) 0 C dL_law_1393 rfl rfl rfl ?_
  refine U_iload (n := 1396) 4 C dL_law_1394 rfl rfl ?_
  refine U_iconst (n := 1397) (2 : Int32) C dL_law_1396 kiconst_2 rfl ?_
  refine U_iadd (n := 1398) C dL_law_1397 rfl ?_
  refine U_sld (n := 1399) C hX dL_law_1398 hf rfl (fun v2 hf => ?_)
  refine U_aload_n (n := 1400) 0 C dL_law_1399 rfl rfl rfl ?_
  refine U_iload (n := 1402) 4 C dL_law_1400 rfl rfl ?_
  refine U_iconst (n := 1403) (3 : Int32) C dL_law_1402 kiconst_3 rfl ?_
  refine U_iadd (n := 1404) C dL_law_1403 rfl ?_
  refine U_sld (n := 1405) C hX dL_law_1404 hf rfl (fun v3 hf => ?_)
  refine U_aload_n (n := 1406) 3 C dL_law_1405 rfl rfl rfl ?_
  obtain ⟨v4, h5, ev4, hf⟩ := bsome2 hf
  refine U_callSW (n := 1409) C dL_law_1406 (av := [.ref x, .int v1, .int v2, .int v3, .ref ot]) ml_RL_176 mt_L_scatter in_RL mc_L_scatter yn_L_scatter (by decide) (M_L_scatter ev4) (by decide) hc hs (Nat.le_of_ble_eq_true rfl) rfl ?_
  refine U_istore (n := 1411) (lv2 := [(5, .int v4), (0, .retAddr 0), (1, .ref x), (2, .ref m), (3, .ref ot), (4, .int i)]) C dL_law_1409 (by decide) rfl rfl ?_
  refine U_aload_n (n := 1412) 3 C dL_law_1411 rfl rfl rfl ?_
  refine U_aload_n (n := 1413) 1 C dL_law_1412 rfl rfl rfl ?_
  refine U_iload (n := 1415) 5 C dL_law_1413 rfl rfl ?_
  refine U_iconst (n := 1416) (1 : Int32) C dL_law_1415 kiconst_1 rfl ?_
  refine U_iadd (n := 1417) C dL_law_1416 rfl ?_
  refine U_sld (n := 1418) C hX dL_law_1417 hf rfl (fun v6 hf => ?_)
  refine U_aload_n (n := 1419) 1 C dL_law_1418 rfl rfl rfl ?_
  refine U_iload (n := 1421) 5 C dL_law_1419 rfl rfl ?_
  refine U_iconst (n := 1422) (2 : Int32) C dL_law_1421 kiconst_2 rfl ?_
  refine U_iadd (n := 1423) C dL_law_1422 rfl ?_
  refine U_sld (n := 1424) C hX dL_law_1423 hf rfl (fun v7 hf => ?_)
  refine U_aload_n (n := 1425) 1 C dL_law_1424 rfl rfl rfl ?_
  refine U_iload (n := 1427) 5 C dL_law_1425 rfl rfl ?_
  refine U_iconst (n := 1428) (3 : Int32) C dL_law_1427 kiconst_3 rfl ?_
  refine U_iadd (n := 1429) C dL_law_1428 rfl ?_
  refine U_sld (n := 1430) C hX dL_law_1429 hf rfl (fun v8 hf => ?_)
  obtain ⟨v9, h10, ev9, hf⟩ := bsome2 hf
  refine cv_RL_178 (n := 1433) C dL_law_1430 (av := [.int v6, .int v7, .int v8]) rfl (rc_X4_scatter ev9) (M_X4_scatter ev9) (by decide) (by omega) (by omega) (Nat.le_of_ble_eq_true rfl) rfl ?_
  refine U_istore (n := 1435) (lv2 := [(6, .int v9), (5, .int v4), (0, .retAddr 0), (1, .ref x), (2, .ref m), (3, .ref ot), (4, .int i)]) C dL_law_1433 (by decide) rfl rfl ?_
  refine U_aload_n (n := 1436) 4 C dL_law_1435 rfl rfl rfl ?_
  obtain ⟨v11, ev11, hf⟩ := bsome hf
  refine cv_RL_96 (n := 1439) C dL_law_1436 (av := []) rfl (rc_X4_thrown ev11) (M_X4_thrown ev11) (by decide) (by omega) (by omega) (Nat.le_of_ble_eq_true rfl) rfl ?_
  refine U_iload (n := 1441) 1 C dL_law_1439 rfl rfl ?_
  refine U_iceq (tgt := 1446) (n := 1444) C dL_law_1441 (by decide) rfl (fun c12 => ?_) (fun c12 => ?_)
  · replace hf := (if_pos c12).symm.trans hf
    refine U_iload (n := 1448) 1 C dL_law_1446 rfl rfl ?_
    refine U_ifne (tgt := 1463) (n := 1451) C dL_law_1448 (by decide) rfl (fun c13 => ?_) (fun c13 => ?_)
    · replace hf := (if_pos c13).symm.trans hf
      refine U_aload_n (n := 1452) 5 C dL_law_1451 rfl rfl rfl ?_
      refine U_iconst (n := 1453) (0 : Int32) C dL_law_1452 kiconst_0 rfl ?_
      refine U_lald (n := 1454) C dL_law_1453 hf rfl (fun v14 hf => ?_)
      refine U_iload (n := 1456) 0 C dL_law_1454 rfl rfl ?_
      refine U_i2l (n := 1457) C dL_law_1456 rfl ?_
      refine U_lcmp (n := 1458) C dL_law_1457 rfl ?_
      refine U_ifeq (tgt := 1463) (n := 1461) C dL_law_1458 (by decide) rfl (fun c15 => ?_) (fun c15 => ?_)
      · replace hf := (if_pos c15).symm.trans hf
        refine U_goto (n := 0) (tgt := 1662) C dL_law_1463 (by decide) ?_
        have hr := Option.some.inj hf
        subst hr
        exact U_wide (by omega) (by omega) (U_lv [2, 3, 4, 5, 6] rfl J)
      · replace hf := (if_neg c15).symm.trans hf
        refine U_iconst (n := 1462) (0 : Int32) C dL_law_1461 kiconst_0 rfl ?_
        cases hf
    · replace hf := (if_neg c13).symm.trans hf
      refine U_goto (n := 0) (tgt := 1662) C dL_law_1463 (by decide) ?_
      have hr := Option.some.inj hf
      subst hr
      exact U_wide (by omega) (by omega) (U_lv [2, 3, 4, 5, 6] rfl J)
  · replace hf := (if_neg c12).symm.trans hf
    refine U_iconst (n := 1445) (0 : Int32) C dL_law_1444 kiconst_0 rfl ?_
    cases hf
def f_case24 (L : Nat) (xs : Nat → Int32) (x m ot : Nat) (i : Int32) (h : Hp) : Option Hp :=
  (sR L xs (i + (1 : Int32))).bind fun v1 =>
  bind2 (f_L_type x v1 ot h) fun v2 h3 =>
  (sR L xs (i + (1 : Int32))).bind fun v4 =>
  bind2 (f_X4_type m v4 h3) fun v5 h6 =>
  (f_X4_thrown m h6).bind fun v7 =>
  if v7 = v2 then (
    if v2 = 0 then (
      (aJ h6 ot (0 : Int32)).bind fun v10 =>
      if (lg_cmp v10 (v5).toInt64) = 0 then (
        some h6
      ) else (
        none
      )
    ) else (
      some h6
    )
  ) else (
    none
  )
set_option maxHeartbeats 2000000 in
set_option maxRecDepth 20000 in
theorem K_case24 {nm : String} {g : GT} {Γ : CT} {Q : State → Prop} {L : Nat} {xs : Nat → Int32} {x m ot : Nat} {i : Int32} {h h2 : Hp} {ce sl : Nat} (C : Cx g Γ code RL nm 8 ret 2036 601024 7293034) (hX : Scr g Γ L xs) (hc : ce + 1 ≤ 601024) (hs : sl + 6 ≤ 7293034) (hf : f_case24 L xs x m ot i h = some h2) (J : U g Γ 8 Q (ce + 1) (sl + 6) 1662 [(0, .retAddr 0), (1, .ref x), (2, .ref m), (3, .ref ot), (4, .int i)] [] h2) : U g Γ 8 Q ce sl 1466 [(0, .retAddr 0), (1, .ref x), (2, .ref m), (3, .ref ot), (4, .int i)] [] h := by
  unfold f_case24 at hf
  refine U_aload_n (n := 1467) 1 C dL_law_1466 rfl rfl rfl ?_
  refine U_aload_n (n := 1468) 0 C dL_law_1467 rfl rfl rfl ?_
  refine U_iload (n := 1470) 4 C dL_law_1468 rfl rfl ?_
  refine U_iconst (n := 1471) (1 : Int32) C dL_law_1470 kiconst_1 rfl ?_
  refine U_iadd (n := 1472) C dL_law_1471 rfl ?_
  refine U_sld (n := 1473) C hX dL_law_1472 hf rfl (fun v1 hf => ?_)
  refine U_aload_n (n := 1474) 3 C dL_law_1473 rfl rfl rfl ?_
  obtain ⟨v2, h3, ev2, hf⟩ := bsome2 hf
  refine U_callSW (n := 1477) C dL_law_1474 (av := [.ref x, .int v1, .ref ot]) ml_RL_179 mt_L_type in_RL mc_L_type yn_L_type (by decide) (M_L_type ev2) (by decide) hc hs (Nat.le_of_ble_eq_true rfl) rfl ?_
  refine U_istore (n := 1479) (lv2 := [(5, .int v2), (0, .retAddr 0), (1, .ref x), (2, .ref m), (3, .ref ot), (4, .int i)]) C dL_law_1477 (by decide) rfl rfl ?_
  refine U_aload_n (n := 1480) 3 C dL_law_1479 rfl rfl rfl ?_
  refine U_aload_n (n := 1481) 1 C dL_law_1480 rfl rfl rfl ?_
  refine U_iload (n := 1483) 5 C dL_law_1481 rfl rfl ?_
  refine U_iconst (n := 1484) (1 : Int32) C dL_law_1483 kiconst_1 rfl ?_
  refine U_iadd (n := 1485) C dL_law_1484 rfl ?_
  refine U_sld (n := 1486) C hX dL_law_1485 hf rfl (fun v4 hf => ?_)
  obtain ⟨v5, h6, ev5, hf⟩ := bsome2 hf
  refine cv_RL_181 (n := 1489) C dL_law_1486 (av := [.int v4]) rfl (rc_X4_type ev5) (M_X4_type ev5) (by decide) (by omega) (by omega) (Nat.le_of_ble_eq_true rfl) rfl ?_
  refine U_istore (n := 1491) (lv2 := [(6, .int v5), (5, .int v2), (0, .retAddr 0), (1, .ref x), (2, .ref m), (3, .ref ot), (4, .int i)]) C dL_law_1489 (by decide) rfl rfl ?_
  refine U_aload_n (n := 1492) 4 C dL_law_1491 rfl rfl rfl ?_
  obtain ⟨v7, ev7, hf⟩ := bsome hf
  refine cv_RL_96 (n := 1495) C dL_law_1492 (av := []) rfl (rc_X4_thrown ev7) (M_X4_thrown ev7) (by decide) (by omega) (by omega) (Nat.le_of_ble_eq_true rfl) rfl ?_
  refine U_iload (n := 1497) 1 C dL_law_1495 rfl rfl ?_
  refine U_iceq (tgt := 1502) (n := 1500) C dL_law_1497 (by decide) rfl (fun c8 => ?_) (fun c8 => ?_)
  · replace hf := (if_pos c8).symm.trans hf
    refine U_iload (n := 1504) 1 C dL_law_1502 rfl rfl ?_
    refine U_ifne (tgt := 1519) (n := 1507) C dL_law_1504 (by decide) rfl (fun c9 => ?_) (fun c9 => ?_)
    · replace hf := (if_pos c9).symm.trans hf
      refine U_aload_n (n := 1508) 5 C dL_law_1507 rfl rfl rfl ?_
      refine U_iconst (n := 1509) (0 : Int32) C dL_law_1508 kiconst_0 rfl ?_
      refine U_lald (n := 1510) C dL_law_1509 hf rfl (fun v10 hf => ?_)
      refine U_iload (n := 1512) 0 C dL_law_1510 rfl rfl ?_
      refine U_i2l (n := 1513) C dL_law_1512 rfl ?_
      refine U_lcmp (n := 1514) C dL_law_1513 rfl ?_
      refine U_ifeq (tgt := 1519) (n := 1517) C dL_law_1514 (by decide) rfl (fun c11 => ?_) (fun c11 => ?_)
      · replace hf := (if_pos c11).symm.trans hf
        refine U_goto (n := 0) (tgt := 1662) C dL_law_1519 (by decide) ?_
        have hr := Option.some.inj hf
        subst hr
        exact U_wide (by omega) (by omega) (U_lv [2, 3, 4, 5, 6] rfl J)
      · replace hf := (if_neg c11).symm.trans hf
        refine U_iconst (n := 1518) (0 : Int32) C dL_law_1517 kiconst_0 rfl ?_
        cases hf
    · replace hf := (if_neg c9).symm.trans hf
      refine U_goto (n := 0) (tgt := 1662) C dL_law_1519 (by decide) ?_
      have hr := Option.some.inj hf
      subst hr
      exact U_wide (by omega) (by omega) (U_lv [2, 3, 4, 5, 6] rfl J)
  · replace hf := (if_neg c8).symm.trans hf
    refine U_iconst (n := 1501) (0 : Int32) C dL_law_1500 kiconst_0 rfl ?_
    cases hf
def f_case25 (L : Nat) (xs : Nat → Int32) (x m ot : Nat) (i : Int32) (h : Hp) : Option Hp :=
  bind2 (f_X3_clearScript x h) fun v1 h2 =>
  bind2 (f_X4_clearScript m h2) fun v3 h4 =>
  if v1 = v3 then (
    some h4
  ) else (
    none
  )
set_option maxHeartbeats 2000000 in
set_option maxRecDepth 20000 in
theorem K_case25 {nm : String} {g : GT} {Γ : CT} {Q : State → Prop} {L : Nat} {xs : Nat → Int32} {x m ot : Nat} {i : Int32} {h h2 : Hp} {ce sl : Nat} (C : Cx g Γ code RL nm 8 ret 2036 601024 7293034) (hX : Scr g Γ L xs) (hc : ce + 1 ≤ 601024) (hs : sl + 6 ≤ 7293034) (hf : f_case25 L xs x m ot i h = some h2) (J : U g Γ 8 Q (ce + 1) (sl + 6) 1662 [(0, .retAddr 0), (1, .ref x), (2, .ref m), (3, .ref ot), (4, .int i)] [] h2) : U g Γ 8 Q ce sl 1522 [(0, .retAddr 0), (1, .ref x), (2, .ref m), (3, .ref ot), (4, .int i)] [] h := by
  unfold f_case25 at hf
  refine U_aload_n (n := 1523) 1 C dL_law_1522 rfl rfl rfl ?_
  obtain ⟨v1, h2, ev1, hf⟩ := bsome2 hf
  refine cv_RL_182 (n := 1526) C dL_law_1523 (av := []) rfl (rc_X3_clearScript ev1) (M_X3_clearScript ev1) (by decide) (by omega) (by omega) (Nat.le_of_ble_eq_true rfl) rfl ?_
  refine U_aload_n (n := 1527) 2 C dL_law_1526 rfl rfl rfl ?_
  obtain ⟨v3, h4, ev3, hf⟩ := bsome2 hf
  refine cv_RL_185 (n := 1530) C dL_law_1527 (av := []) rfl (rc_X4_clearScript ev3) (M_X4_clearScript ev3) (by decide) (by omega) (by omega) (Nat.le_of_ble_eq_true rfl) rfl ?_
  refine U_iceq (tgt := 1662) (n := 1533) C dL_law_1530 (by decide) rfl (fun c5 => ?_) (fun c5 => ?_)
  · replace hf := (if_pos c5).symm.trans hf
    have hr := Option.some.inj hf
    subst hr
    exact U_wide (by omega) (by omega) (U_lv [0, 1, 2, 3, 4] rfl J)
  · replace hf := (if_neg c5).symm.trans hf
    refine U_iconst (n := 1534) (0 : Int32) C dL_law_1533 kiconst_0 rfl ?_
    cases hf
def f_case26 (L : Nat) (xs : Nat → Int32) (x m ot : Nat) (i : Int32) (h : Hp) : Option Hp :=
  bind2 (f_X3_run x h) fun v1 h2 =>
  bind2 (f_X4_run m h2) fun v3 h4 =>
  if v1 = v3 then (
    some h4
  ) else (
    none
  )
set_option maxHeartbeats 2000000 in
set_option maxRecDepth 20000 in
theorem K_case26 {nm : String} {g : GT} {Γ : CT} {Q : State → Prop} {L : Nat} {xs : Nat → Int32} {x m ot : Nat} {i : Int32} {h h2 : Hp} {ce sl : Nat} (C : Cx g Γ code RL nm 8 ret 2036 601024 7293034) (hX : Scr g Γ L xs) (hc : ce + 1 ≤ 601024) (hs : sl + 6 ≤ 7293034) (hf : f_case26 L xs x m ot i h = some h2) (J : U g Γ 8 Q (ce + 1) (sl + 6) 1662 [(0, .retAddr 0), (1, .ref x), (2, .ref m), (3, .ref ot), (4, .int i)] [] h2) : U g Γ 8 Q ce sl 1535 [(0, .retAddr 0), (1, .ref x), (2, .ref m), (3, .ref ot), (4, .int i)] [] h := by
  unfold f_case26 at hf
  refine U_aload_n (n := 1536) 1 C dL_law_1535 rfl rfl rfl ?_
  obtain ⟨v1, h2, ev1, hf⟩ := bsome2 hf
  refine cv_RL_186 (n := 1539) C dL_law_1536 (av := []) rfl (rc_X3_run ev1) (M_X3_run ev1) (by decide) (by omega) (by omega) (Nat.le_of_ble_eq_true rfl) rfl ?_
  refine U_aload_n (n := 1540) 2 C dL_law_1539 rfl rfl rfl ?_
  obtain ⟨v3, h4, ev3, hf⟩ := bsome2 hf
  refine cv_RL_189 (n := 1543) C dL_law_1540 (av := []) rfl (rc_X4_run ev3) (M_X4_run ev3) (by decide) (by omega) (by omega) (Nat.le_of_ble_eq_true rfl) rfl ?_
  refine U_iceq (tgt := 1662) (n := 1546) C dL_law_1543 (by decide) rfl (fun c5 => ?_) (fun c5 => ?_)
  · replace hf := (if_pos c5).symm.trans hf
    have hr := Option.some.inj hf
    subst hr
    exact U_wide (by omega) (by omega) (U_lv [0, 1, 2, 3, 4] rfl J)
  · replace hf := (if_neg c5).symm.trans hf
    refine U_iconst (n := 1547) (0 : Int32) C dL_law_1546 kiconst_0 rfl ?_
    cases hf
def f_case27 (L : Nat) (xs : Nat → Int32) (x m ot : Nat) (i : Int32) (h : Hp) : Option Hp :=
  (sR L xs (i + (1 : Int32))).bind fun v1 =>
  bind2 (f_L_written x v1 ot h) fun v2 h3 =>
  (sR L xs (i + (1 : Int32))).bind fun v4 =>
  bind2 (f_X4_written m v4 h3) fun v5 h6 =>
  (f_X4_thrown m h6).bind fun v7 =>
  if v7 = v2 then (
    if v2 = 0 then (
      (aJ h6 ot (0 : Int32)).bind fun v10 =>
      if (lg_cmp v10 (v5).toInt64) = 0 then (
        some h6
      ) else (
        none
      )
    ) else (
      some h6
    )
  ) else (
    none
  )
set_option maxHeartbeats 2000000 in
set_option maxRecDepth 20000 in
theorem K_case27 {nm : String} {g : GT} {Γ : CT} {Q : State → Prop} {L : Nat} {xs : Nat → Int32} {x m ot : Nat} {i : Int32} {h h2 : Hp} {ce sl : Nat} (C : Cx g Γ code RL nm 8 ret 2036 601024 7293034) (hX : Scr g Γ L xs) (hc : ce + 1 ≤ 601024) (hs : sl + 6 ≤ 7293034) (hf : f_case27 L xs x m ot i h = some h2) (J : U g Γ 8 Q (ce + 1) (sl + 6) 1662 [(0, .retAddr 0), (1, .ref x), (2, .ref m), (3, .ref ot), (4, .int i)] [] h2) : U g Γ 8 Q ce sl 1548 [(0, .retAddr 0), (1, .ref x), (2, .ref m), (3, .ref ot), (4, .int i)] [] h := by
  unfold f_case27 at hf
  refine U_aload_n (n := 1549) 1 C dL_law_1548 rfl rfl rfl ?_
  refine U_aload_n (n := 1550) 0 C dL_law_1549 rfl rfl rfl ?_
  refine U_iload (n := 1552) 4 C dL_law_1550 rfl rfl ?_
  refine U_iconst (n := 1553) (1 : Int32) C dL_law_1552 kiconst_1 rfl ?_
  refine U_iadd (n := 1554) C dL_law_1553 rfl ?_
  refine U_sld (n := 1555) C hX dL_law_1554 hf rfl (fun v1 hf => ?_)
  refine U_aload_n (n := 1556) 3 C dL_law_1555 rfl rfl rfl ?_
  obtain ⟨v2, h3, ev2, hf⟩ := bsome2 hf
  refine U_callSW (n := 1559) C dL_law_1556 (av := [.ref x, .int v1, .ref ot]) ml_RL_190 mt_L_written in_RL mc_L_written yn_L_written (by decide) (M_L_written ev2) (by decide) hc hs (Nat.le_of_ble_eq_true rfl) rfl ?_
  refine U_istore (n := 1561) (lv2 := [(5, .int v2), (0, .retAddr 0), (1, .ref x), (2, .ref m), (3, .ref ot), (4, .int i)]) C dL_law_1559 (by decide) rfl rfl ?_
  refine U_aload_n (n := 1562) 3 C dL_law_1561 rfl rfl rfl ?_
  refine U_aload_n (n := 1563) 1 C dL_law_1562 rfl rfl rfl ?_
  refine U_iload (n := 1565) 5 C dL_law_1563 rfl rfl ?_
  refine U_iconst (n := 1566) (1 : Int32) C dL_law_1565 kiconst_1 rfl ?_
  refine U_iadd (n := 1567) C dL_law_1566 rfl ?_
  refine U_sld (n := 1568) C hX dL_law_1567 hf rfl (fun v4 hf => ?_)
  obtain ⟨v5, h6, ev5, hf⟩ := bsome2 hf
  refine cv_RL_192 (n := 1571) C dL_law_1568 (av := [.int v4]) rfl (rc_X4_written ev5) (M_X4_written ev5) (by decide) (by omega) (by omega) (Nat.le_of_ble_eq_true rfl) rfl ?_
  refine U_istore (n := 1573) (lv2 := [(6, .int v5), (5, .int v2), (0, .retAddr 0), (1, .ref x), (2, .ref m), (3, .ref ot), (4, .int i)]) C dL_law_1571 (by decide) rfl rfl ?_
  refine U_aload_n (n := 1574) 4 C dL_law_1573 rfl rfl rfl ?_
  obtain ⟨v7, ev7, hf⟩ := bsome hf
  refine cv_RL_96 (n := 1577) C dL_law_1574 (av := []) rfl (rc_X4_thrown ev7) (M_X4_thrown ev7) (by decide) (by omega) (by omega) (Nat.le_of_ble_eq_true rfl) rfl ?_
  refine U_iload (n := 1579) 1 C dL_law_1577 rfl rfl ?_
  refine U_iceq (tgt := 1584) (n := 1582) C dL_law_1579 (by decide) rfl (fun c8 => ?_) (fun c8 => ?_)
  · replace hf := (if_pos c8).symm.trans hf
    refine U_iload (n := 1586) 1 C dL_law_1584 rfl rfl ?_
    refine U_ifne (tgt := 1601) (n := 1589) C dL_law_1586 (by decide) rfl (fun c9 => ?_) (fun c9 => ?_)
    · replace hf := (if_pos c9).symm.trans hf
      refine U_aload_n (n := 1590) 5 C dL_law_1589 rfl rfl rfl ?_
      refine U_iconst (n := 1591) (0 : Int32) C dL_law_1590 kiconst_0 rfl ?_
      refine U_lald (n := 1592) C dL_law_1591 hf rfl (fun v10 hf => ?_)
      refine U_iload (n := 1594) 0 C dL_law_1592 rfl rfl ?_
      refine U_i2l (n := 1595) C dL_law_1594 rfl ?_
      refine U_lcmp (n := 1596) C dL_law_1595 rfl ?_
      refine U_ifeq (tgt := 1601) (n := 1599) C dL_law_1596 (by decide) rfl (fun c11 => ?_) (fun c11 => ?_)
      · replace hf := (if_pos c11).symm.trans hf
        refine U_goto (n := 0) (tgt := 1662) C dL_law_1601 (by decide) ?_
        have hr := Option.some.inj hf
        subst hr
        exact U_wide (by omega) (by omega) (U_lv [2, 3, 4, 5, 6] rfl J)
      · replace hf := (if_neg c11).symm.trans hf
        refine U_iconst (n := 1600) (0 : Int32) C dL_law_1599 kiconst_0 rfl ?_
        cases hf
    · replace hf := (if_neg c9).symm.trans hf
      refine U_goto (n := 0) (tgt := 1662) C dL_law_1601 (by decide) ?_
      have hr := Option.some.inj hf
      subst hr
      exact U_wide (by omega) (by omega) (U_lv [2, 3, 4, 5, 6] rfl J)
  · replace hf := (if_neg c8).symm.trans hf
    refine U_iconst (n := 1583) (0 : Int32) C dL_law_1582 kiconst_0 rfl ?_
    cases hf
def f_case28 (L : Nat) (xs : Nat → Int32) (x m ot : Nat) (i : Int32) (h : Hp) : Option Hp :=
  bind2 (f_L_undo x ot h) fun v1 h2 =>
  bind2 (f_X4_undo m h2) fun v3 h4 =>
  (f_X4_thrown m h4).bind fun v5 =>
  if v5 = v1 then (
    if v1 = 0 then (
      (aJ h4 ot (0 : Int32)).bind fun v8 =>
      if (lg_cmp v8 (v3).toInt64) = 0 then (
        some h4
      ) else (
        none
      )
    ) else (
      some h4
    )
  ) else (
    none
  )
set_option maxHeartbeats 2000000 in
set_option maxRecDepth 20000 in
theorem K_case28 {nm : String} {g : GT} {Γ : CT} {Q : State → Prop} {L : Nat} {xs : Nat → Int32} {x m ot : Nat} {i : Int32} {h h2 : Hp} {ce sl : Nat} (C : Cx g Γ code RL nm 8 ret 2036 601024 7293034) (hX : Scr g Γ L xs) (hc : ce + 1 ≤ 601024) (hs : sl + 6 ≤ 7293034) (hf : f_case28 L xs x m ot i h = some h2) (J : U g Γ 8 Q (ce + 1) (sl + 6) 1662 [(0, .retAddr 0), (1, .ref x), (2, .ref m), (3, .ref ot), (4, .int i)] [] h2) : U g Γ 8 Q ce sl 1604 [(0, .retAddr 0), (1, .ref x), (2, .ref m), (3, .ref ot), (4, .int i)] [] h := by
  unfold f_case28 at hf
  refine U_aload_n (n := 1605) 1 C dL_law_1604 rfl rfl rfl ?_
  refine U_aload_n (n := 1606) 3 C dL_law_1605 rfl rfl rfl ?_
  obtain ⟨v1, h2, ev1, hf⟩ := bsome2 hf
  refine U_callSW (n := 1609) C dL_law_1606 (av := [.ref x, .ref ot]) ml_RL_193 mt_L_undo in_RL mc_L_undo yn_L_undo (by decide) (M_L_undo ev1) (by decide) hc hs (Nat.le_of_ble_eq_true rfl) rfl ?_
  refine U_istore (n := 1611) (lv2 := [(5, .int v1), (0, .retAddr 0), (1, .ref x), (2, .ref m), (3, .ref ot), (4, .int i)]) C dL_law_1609 (by decide) rfl rfl ?_
  refine U_aload_n (n := 1612) 3 C dL_law_1611 rfl rfl rfl ?_
  obtain ⟨v3, h4, ev3, hf⟩ := bsome2 hf
  refine cv_RL_195 (n := 1615) C dL_law_1612 (av := []) rfl (rc_X4_undo ev3) (M_X4_undo ev3) (by decide) (by omega) (by omega) (Nat.le_of_ble_eq_true rfl) rfl ?_
  refine U_istore (n := 1617) (lv2 := [(6, .int v3), (5, .int v1), (0, .retAddr 0), (1, .ref x), (2, .ref m), (3, .ref ot), (4, .int i)]) C dL_law_1615 (by decide) rfl rfl ?_
  refine U_aload_n (n := 1618) 4 C dL_law_1617 rfl rfl rfl ?_
  obtain ⟨v5, ev5, hf⟩ := bsome hf
  refine cv_RL_96 (n := 1621) C dL_law_1618 (av := []) rfl (rc_X4_thrown ev5) (M_X4_thrown ev5) (by decide) (by omega) (by omega) (Nat.le_of_ble_eq_true rfl) rfl ?_
  refine U_iload (n := 1623) 1 C dL_law_1621 rfl rfl ?_
  refine U_iceq (tgt := 1628) (n := 1626) C dL_law_1623 (by decide) rfl (fun c6 => ?_) (fun c6 => ?_)
  · replace hf := (if_pos c6).symm.trans hf
    refine U_iload (n := 1630) 1 C dL_law_1628 rfl rfl ?_
    refine U_ifne (tgt := 1645) (n := 1633) C dL_law_1630 (by decide) rfl (fun c7 => ?_) (fun c7 => ?_)
    · replace hf := (if_pos c7).symm.trans hf
      refine U_aload_n (n := 1634) 5 C dL_law_1633 rfl rfl rfl ?_
      refine U_iconst (n := 1635) (0 : Int32) C dL_law_1634 kiconst_0 rfl ?_
      refine U_lald (n := 1636) C dL_law_1635 hf rfl (fun v8 hf => ?_)
      refine U_iload (n := 1638) 0 C dL_law_1636 rfl rfl ?_
      refine U_i2l (n := 1639) C dL_law_1638 rfl ?_
      refine U_lcmp (n := 1640) C dL_law_1639 rfl ?_
      refine U_ifeq (tgt := 1645) (n := 1643) C dL_law_1640 (by decide) rfl (fun c9 => ?_) (fun c9 => ?_)
      · replace hf := (if_pos c9).symm.trans hf
        refine U_goto (n := 0) (tgt := 1662) C dL_law_1645 (by decide) ?_
        have hr := Option.some.inj hf
        subst hr
        exact U_wide (by omega) (by omega) (U_lv [2, 3, 4, 5, 6] rfl J)
      · replace hf := (if_neg c9).symm.trans hf
        refine U_iconst (n := 1644) (0 : Int32) C dL_law_1643 kiconst_0 rfl ?_
        cases hf
    · replace hf := (if_neg c7).symm.trans hf
      refine U_goto (n := 0) (tgt := 1662) C dL_law_1645 (by decide) ?_
      have hr := Option.some.inj hf
      subst hr
      exact U_wide (by omega) (by omega) (U_lv [2, 3, 4, 5, 6] rfl J)
  · replace hf := (if_neg c6).symm.trans hf
    refine U_iconst (n := 1627) (0 : Int32) C dL_law_1626 kiconst_0 rfl ?_
    cases hf
def f_case29 (L : Nat) (xs : Nat → Int32) (x m ot : Nat) (i : Int32) (h : Hp) : Option Hp :=
  bindT (f_X3_digest x h) (fun _ => none) fun v1 =>
  bind2 (f_X4_digest m h) fun v2 h3 =>
  if (lg_cmp v1 v2) = 0 then (
    some h3
  ) else (
    none
  )
set_option maxHeartbeats 2000000 in
set_option maxRecDepth 20000 in
theorem K_case29 {nm : String} {g : GT} {Γ : CT} {Q : State → Prop} {L : Nat} {xs : Nat → Int32} {x m ot : Nat} {i : Int32} {h h2 : Hp} {ce sl : Nat} (C : Cx g Γ code RL nm 8 ret 2036 601024 7293034) (hX : Scr g Γ L xs) (hc : ce + 1 ≤ 601024) (hs : sl + 6 ≤ 7293034) (hf : f_case29 L xs x m ot i h = some h2) (J : U g Γ 8 Q (ce + 1) (sl + 6) 1662 [(0, .retAddr 0), (1, .ref x), (2, .ref m), (3, .ref ot), (4, .int i)] [] h2) : U g Γ 8 Q ce sl 1648 [(0, .retAddr 0), (1, .ref x), (2, .ref m), (3, .ref ot), (4, .int i)] [] h := by
  unfold f_case29 at hf
  refine U_aload_n (n := 1649) 1 C dL_law_1648 rfl rfl rfl ?_
  rcases bsomeT hf with ⟨_, _, hf⟩ | ⟨v1, ev1, hf⟩
  · cases hf
  refine cv_RL_196 (n := 1652) C dL_law_1649 (av := []) rfl (rc_X3_digest ev1) (M_X3_digest ev1) (by decide) (by omega) (by omega) (Nat.le_of_ble_eq_true rfl) rfl ?_
  refine U_aload_n (n := 1653) 2 C dL_law_1652 rfl rfl rfl ?_
  obtain ⟨v2, h3, ev2, hf⟩ := bsome2 hf
  refine cv_RL_200 (n := 1656) C dL_law_1653 (av := []) rfl (rc_X4_digest ev2) (M_X4_digest ev2) (by decide) (by omega) (by omega) (Nat.le_of_ble_eq_true rfl) rfl ?_
  refine U_lcmp (n := 1657) C dL_law_1656 rfl ?_
  refine U_ifeq (tgt := 1662) (n := 1660) C dL_law_1657 (by decide) rfl (fun c4 => ?_) (fun c4 => ?_)
  · replace hf := (if_pos c4).symm.trans hf
    have hr := Option.some.inj hf
    subst hr
    exact U_wide (by omega) (by omega) (U_lv [0, 1, 2, 3, 4] rfl J)
  · replace hf := (if_neg c4).symm.trans hf
    refine U_iconst (n := 1661) (0 : Int32) C dL_law_1660 kiconst_0 rfl ?_
    cases hf
def f_body (L : Nat) (xs : Nat → Int32) (x m ot : Nat) (i : Int32) (h : Hp) : Option Hp :=
  (sR L xs i).bind fun v1 =>
  if (v1 &&& (31 : Int32)) = 0 then (
    f_case0 L xs x m ot i h
  ) else (
  if (v1 &&& (31 : Int32)) = 1 then (
    f_case1 L xs x m ot i h
  ) else (
  if (v1 &&& (31 : Int32)) = 2 then (
    f_case2 L xs x m ot i h
  ) else (
  if (v1 &&& (31 : Int32)) = 3 then (
    f_case3 L xs x m ot i h
  ) else (
  if (v1 &&& (31 : Int32)) = 4 then (
    f_case4 L xs x m ot i h
  ) else (
  if (v1 &&& (31 : Int32)) = 5 then (
    f_case5 L xs x m ot i h
  ) else (
  if (v1 &&& (31 : Int32)) = 6 then (
    f_case6 L xs x m ot i h
  ) else (
  if (v1 &&& (31 : Int32)) = 7 then (
    f_case7 L xs x m ot i h
  ) else (
  if (v1 &&& (31 : Int32)) = 8 then (
    f_case8 L xs x m ot i h
  ) else (
  if (v1 &&& (31 : Int32)) = 9 then (
    f_case9 L xs x m ot i h
  ) else (
  if (v1 &&& (31 : Int32)) = 10 then (
    f_case10 L xs x m ot i h
  ) else (
  if (v1 &&& (31 : Int32)) = 11 then (
    f_case11 L xs x m ot i h
  ) else (
  if (v1 &&& (31 : Int32)) = 12 then (
    f_case12 L xs x m ot i h
  ) else (
  if (v1 &&& (31 : Int32)) = 13 then (
    f_case13 L xs x m ot i h
  ) else (
  if (v1 &&& (31 : Int32)) = 14 then (
    f_case14 L xs x m ot i h
  ) else (
  if (v1 &&& (31 : Int32)) = 15 then (
    f_case15 L xs x m ot i h
  ) else (
  if (v1 &&& (31 : Int32)) = 16 then (
    f_case16 L xs x m ot i h
  ) else (
  if (v1 &&& (31 : Int32)) = 17 then (
    f_case17 L xs x m ot i h
  ) else (
  if (v1 &&& (31 : Int32)) = 18 then (
    f_case18 L xs x m ot i h
  ) else (
  if (v1 &&& (31 : Int32)) = 19 then (
    f_case19 L xs x m ot i h
  ) else (
  if (v1 &&& (31 : Int32)) = 20 then (
    f_case20 L xs x m ot i h
  ) else (
  if (v1 &&& (31 : Int32)) = 21 then (
    f_case21 L xs x m ot i h
  ) else (
  if (v1 &&& (31 : Int32)) = 22 then (
    f_case22 L xs x m ot i h
  ) else (
  if (v1 &&& (31 : Int32)) = 23 then (
    f_case23 L xs x m ot i h
  ) else (
  if (v1 &&& (31 : Int32)) = 24 then (
    f_case24 L xs x m ot i h
  ) else (
  if (v1 &&& (31 : Int32)) = 25 then (
    f_case25 L xs x m ot i h
  ) else (
  if (v1 &&& (31 : Int32)) = 26 then (
    f_case26 L xs x m ot i h
  ) else (
  if (v1 &&& (31 : Int32)) = 27 then (
    f_case27 L xs x m ot i h
  ) else (
  if (v1 &&& (31 : Int32)) = 28 then (
    f_case28 L xs x m ot i h
  ) else (
  if (v1 &&& (31 : Int32)) = 29 then (
    f_case29 L xs x m ot i h
  ) else (
    some h
  ))))))))))))))))))))))))))))))
set_option maxHeartbeats 2000000 in
set_option maxRecDepth 20000 in
theorem K_body {nm : String} {g : GT} {Γ : CT} {Q : State → Prop} {L : Nat} {xs : Nat → Int32} {x m ot : Nat} {i : Int32} {h h2 : Hp} {ce sl : Nat} (C : Cx g Γ code RL nm 8 ret 2036 601024 7293034) (hX : Scr g Γ L xs) (hc : ce + 1 ≤ 601024) (hs : sl + 6 ≤ 7293034) (hf : f_body L xs x m ot i h = some h2) (J : U g Γ 8 Q (ce + 1) (sl + 6) 1662 [(0, .retAddr 0), (1, .ref x), (2, .ref m), (3, .ref ot), (4, .int i)] [] h2) : U g Γ 8 Q ce sl 32 [(0, .retAddr 0), (1, .ref x), (2, .ref m), (3, .ref ot), (4, .int i)] [] h := by
  unfold f_body at hf
  refine U_aload_n (n := 33) 0 C dL_law_32 rfl rfl rfl ?_
  refine U_iload (n := 35) 4 C dL_law_33 rfl rfl ?_
  refine U_sld (n := 36) C hX dL_law_35 hf rfl (fun v1 hf => ?_)
  refine U_bipush (n := 38) (31 : Int32) C dL_law_36 kbipush_31 rfl ?_
  refine U_iand (n := 39) C dL_law_38 rfl ?_
  by_cases c2 : (v1 &&& (31 : Int32)) = 0
  · replace hf := (if_pos c2).symm.trans hf
    refine U_tblIn (tgt := 172) C dL_law_39 (by rw [c2]; decide) (by rw [c2]; decide) (by rw [c2]; rfl) (by decide) ?_
    exact U_lv [0, 1, 2, 3, 4] rfl (K_case0 C hX hc hs hf J)
  replace hf := (if_neg c2).symm.trans hf
  by_cases c3 : (v1 &&& (31 : Int32)) = 1
  · replace hf := (if_pos c3).symm.trans hf
    refine U_tblIn (tgt := 228) C dL_law_39 (by rw [c3]; decide) (by rw [c3]; decide) (by rw [c3]; rfl) (by decide) ?_
    exact U_lv [0, 1, 2, 3, 4] rfl (K_case1 C hX hc hs hf J)
  replace hf := (if_neg c3).symm.trans hf
  by_cases c4 : (v1 &&& (31 : Int32)) = 2
  · replace hf := (if_pos c4).symm.trans hf
    refine U_tblIn (tgt := 320) C dL_law_39 (by rw [c4]; decide) (by rw [c4]; decide) (by rw [c4]; rfl) (by decide) ?_
    exact U_lv [0, 1, 2, 3, 4] rfl (K_case2 C hX hc hs hf J)
  replace hf := (if_neg c4).symm.trans hf
  by_cases c5 : (v1 &&& (31 : Int32)) = 3
  · replace hf := (if_pos c5).symm.trans hf
    refine U_tblIn (tgt := 400) C dL_law_39 (by rw [c5]; decide) (by rw [c5]; decide) (by rw [c5]; rfl) (by decide) ?_
    exact U_lv [0, 1, 2, 3, 4] rfl (K_case3 C hX hc hs hf J)
  replace hf := (if_neg c5).symm.trans hf
  by_cases c6 : (v1 &&& (31 : Int32)) = 4
  · replace hf := (if_pos c6).symm.trans hf
    refine U_tblIn (tgt := 441) C dL_law_39 (by rw [c6]; decide) (by rw [c6]; decide) (by rw [c6]; rfl) (by decide) ?_
    exact U_lv [0, 1, 2, 3, 4] rfl (K_case4 C hX hc hs hf J)
  replace hf := (if_neg c6).symm.trans hf
  by_cases c7 : (v1 &&& (31 : Int32)) = 5
  · replace hf := (if_pos c7).symm.trans hf
    refine U_tblIn (tgt := 454) C dL_law_39 (by rw [c7]; decide) (by rw [c7]; decide) (by rw [c7]; rfl) (by decide) ?_
    exact U_lv [0, 1, 2, 3, 4] rfl (K_case5 C hX hc hs hf J)
  replace hf := (if_neg c7).symm.trans hf
  by_cases c8 : (v1 &&& (31 : Int32)) = 6
  · replace hf := (if_pos c8).symm.trans hf
    refine U_tblIn (tgt := 467) C dL_law_39 (by rw [c8]; decide) (by rw [c8]; decide) (by rw [c8]; rfl) (by decide) ?_
    exact U_lv [0, 1, 2, 3, 4] rfl (K_case6 C hX hc hs hf J)
  replace hf := (if_neg c8).symm.trans hf
  by_cases c9 : (v1 &&& (31 : Int32)) = 7
  · replace hf := (if_pos c9).symm.trans hf
    refine U_tblIn (tgt := 480) C dL_law_39 (by rw [c9]; decide) (by rw [c9]; decide) (by rw [c9]; rfl) (by decide) ?_
    exact U_lv [0, 1, 2, 3, 4] rfl (K_case7 C hX hc hs hf J)
  replace hf := (if_neg c9).symm.trans hf
  by_cases c10 : (v1 &&& (31 : Int32)) = 8
  · replace hf := (if_pos c10).symm.trans hf
    refine U_tblIn (tgt := 536) C dL_law_39 (by rw [c10]; decide) (by rw [c10]; decide) (by rw [c10]; rfl) (by decide) ?_
    exact U_lv [0, 1, 2, 3, 4] rfl (K_case8 C hX hc hs hf J)
  replace hf := (if_neg c10).symm.trans hf
  by_cases c11 : (v1 &&& (31 : Int32)) = 9
  · replace hf := (if_pos c11).symm.trans hf
    refine U_tblIn (tgt := 604) C dL_law_39 (by rw [c11]; decide) (by rw [c11]; decide) (by rw [c11]; rfl) (by decide) ?_
    exact U_lv [0, 1, 2, 3, 4] rfl (K_case9 C hX hc hs hf J)
  replace hf := (if_neg c11).symm.trans hf
  by_cases c12 : (v1 &&& (31 : Int32)) = 10
  · replace hf := (if_pos c12).symm.trans hf
    refine U_tblIn (tgt := 684) C dL_law_39 (by rw [c12]; decide) (by rw [c12]; decide) (by rw [c12]; rfl) (by decide) ?_
    exact U_lv [0, 1, 2, 3, 4] rfl (K_case10 C hX hc hs hf J)
  replace hf := (if_neg c12).symm.trans hf
  by_cases c13 : (v1 &&& (31 : Int32)) = 11
  · replace hf := (if_pos c13).symm.trans hf
    refine U_tblIn (tgt := 752) C dL_law_39 (by rw [c13]; decide) (by rw [c13]; decide) (by rw [c13]; rfl) (by decide) ?_
    exact U_lv [0, 1, 2, 3, 4] rfl (K_case11 C hX hc hs hf J)
  replace hf := (if_neg c13).symm.trans hf
  by_cases c14 : (v1 &&& (31 : Int32)) = 12
  · replace hf := (if_pos c14).symm.trans hf
    refine U_tblIn (tgt := 807) C dL_law_39 (by rw [c14]; decide) (by rw [c14]; decide) (by rw [c14]; rfl) (by decide) ?_
    exact U_lv [0, 1, 2, 3, 4] rfl (K_case12 C hX hc hs hf J)
  replace hf := (if_neg c14).symm.trans hf
  by_cases c15 : (v1 &&& (31 : Int32)) = 13
  · replace hf := (if_pos c15).symm.trans hf
    refine U_tblIn (tgt := 863) C dL_law_39 (by rw [c15]; decide) (by rw [c15]; decide) (by rw [c15]; rfl) (by decide) ?_
    exact U_lv [0, 1, 2, 3, 4] rfl (K_case13 C hX hc hs hf J)
  replace hf := (if_neg c15).symm.trans hf
  by_cases c16 : (v1 &&& (31 : Int32)) = 14
  · replace hf := (if_pos c16).symm.trans hf
    refine U_tblIn (tgt := 931) C dL_law_39 (by rw [c16]; decide) (by rw [c16]; decide) (by rw [c16]; rfl) (by decide) ?_
    exact U_lv [0, 1, 2, 3, 4] rfl (K_case14 C hX hc hs hf J)
  replace hf := (if_neg c16).symm.trans hf
  by_cases c17 : (v1 &&& (31 : Int32)) = 15
  · replace hf := (if_pos c17).symm.trans hf
    refine U_tblIn (tgt := 986) C dL_law_39 (by rw [c17]; decide) (by rw [c17]; decide) (by rw [c17]; rfl) (by decide) ?_
    exact U_lv [0, 1, 2, 3, 4] rfl (K_case15 C hX hc hs hf J)
  replace hf := (if_neg c17).symm.trans hf
  by_cases c18 : (v1 &&& (31 : Int32)) = 16
  · replace hf := (if_pos c18).symm.trans hf
    refine U_tblIn (tgt := 1030) C dL_law_39 (by rw [c18]; decide) (by rw [c18]; decide) (by rw [c18]; rfl) (by decide) ?_
    exact U_lv [0, 1, 2, 3, 4] rfl (K_case16 C hX hc hs hf J)
  replace hf := (if_neg c18).symm.trans hf
  by_cases c19 : (v1 &&& (31 : Int32)) = 17
  · replace hf := (if_pos c19).symm.trans hf
    refine U_tblIn (tgt := 1098) C dL_law_39 (by rw [c19]; decide) (by rw [c19]; decide) (by rw [c19]; rfl) (by decide) ?_
    exact U_lv [0, 1, 2, 3, 4] rfl (K_case17 C hX hc hs hf J)
  replace hf := (if_neg c19).symm.trans hf
  by_cases c20 : (v1 &&& (31 : Int32)) = 18
  · replace hf := (if_pos c20).symm.trans hf
    refine U_tblIn (tgt := 1161) C dL_law_39 (by rw [c20]; decide) (by rw [c20]; decide) (by rw [c20]; rfl) (by decide) ?_
    exact U_lv [0, 1, 2, 3, 4] rfl (K_case18 C hX hc hs hf J)
  replace hf := (if_neg c20).symm.trans hf
  by_cases c21 : (v1 &&& (31 : Int32)) = 19
  · replace hf := (if_pos c21).symm.trans hf
    refine U_tblIn (tgt := 1205) C dL_law_39 (by rw [c21]; decide) (by rw [c21]; decide) (by rw [c21]; rfl) (by decide) ?_
    exact U_lv [0, 1, 2, 3, 4] rfl (K_case19 C hX hc hs hf J)
  replace hf := (if_neg c21).symm.trans hf
  by_cases c22 : (v1 &&& (31 : Int32)) = 20
  · replace hf := (if_pos c22).symm.trans hf
    refine U_tblIn (tgt := 1292) C dL_law_39 (by rw [c22]; decide) (by rw [c22]; decide) (by rw [c22]; rfl) (by decide) ?_
    exact U_lv [0, 1, 2, 3, 4] rfl (K_case20 C hX hc hs hf J)
  replace hf := (if_neg c22).symm.trans hf
  by_cases c23 : (v1 &&& (31 : Int32)) = 21
  · replace hf := (if_pos c23).symm.trans hf
    refine U_tblIn (tgt := 1360) C dL_law_39 (by rw [c23]; decide) (by rw [c23]; decide) (by rw [c23]; rfl) (by decide) ?_
    exact U_lv [0, 1, 2, 3, 4] rfl (K_case21 C hX hc hs hf J)
  replace hf := (if_neg c23).symm.trans hf
  by_cases c24 : (v1 &&& (31 : Int32)) = 22
  · replace hf := (if_pos c24).symm.trans hf
    refine U_tblIn (tgt := 1373) C dL_law_39 (by rw [c24]; decide) (by rw [c24]; decide) (by rw [c24]; rfl) (by decide) ?_
    exact U_lv [0, 1, 2, 3, 4] rfl (K_case22 C hX hc hs hf J)
  replace hf := (if_neg c24).symm.trans hf
  by_cases c25 : (v1 &&& (31 : Int32)) = 23
  · replace hf := (if_pos c25).symm.trans hf
    refine U_tblIn (tgt := 1386) C dL_law_39 (by rw [c25]; decide) (by rw [c25]; decide) (by rw [c25]; rfl) (by decide) ?_
    exact U_lv [0, 1, 2, 3, 4] rfl (K_case23 C hX hc hs hf J)
  replace hf := (if_neg c25).symm.trans hf
  by_cases c26 : (v1 &&& (31 : Int32)) = 24
  · replace hf := (if_pos c26).symm.trans hf
    refine U_tblIn (tgt := 1466) C dL_law_39 (by rw [c26]; decide) (by rw [c26]; decide) (by rw [c26]; rfl) (by decide) ?_
    exact U_lv [0, 1, 2, 3, 4] rfl (K_case24 C hX hc hs hf J)
  replace hf := (if_neg c26).symm.trans hf
  by_cases c27 : (v1 &&& (31 : Int32)) = 25
  · replace hf := (if_pos c27).symm.trans hf
    refine U_tblIn (tgt := 1522) C dL_law_39 (by rw [c27]; decide) (by rw [c27]; decide) (by rw [c27]; rfl) (by decide) ?_
    exact U_lv [0, 1, 2, 3, 4] rfl (K_case25 C hX hc hs hf J)
  replace hf := (if_neg c27).symm.trans hf
  by_cases c28 : (v1 &&& (31 : Int32)) = 26
  · replace hf := (if_pos c28).symm.trans hf
    refine U_tblIn (tgt := 1535) C dL_law_39 (by rw [c28]; decide) (by rw [c28]; decide) (by rw [c28]; rfl) (by decide) ?_
    exact U_lv [0, 1, 2, 3, 4] rfl (K_case26 C hX hc hs hf J)
  replace hf := (if_neg c28).symm.trans hf
  by_cases c29 : (v1 &&& (31 : Int32)) = 27
  · replace hf := (if_pos c29).symm.trans hf
    refine U_tblIn (tgt := 1548) C dL_law_39 (by rw [c29]; decide) (by rw [c29]; decide) (by rw [c29]; rfl) (by decide) ?_
    exact U_lv [0, 1, 2, 3, 4] rfl (K_case27 C hX hc hs hf J)
  replace hf := (if_neg c29).symm.trans hf
  by_cases c30 : (v1 &&& (31 : Int32)) = 28
  · replace hf := (if_pos c30).symm.trans hf
    refine U_tblIn (tgt := 1604) C dL_law_39 (by rw [c30]; decide) (by rw [c30]; decide) (by rw [c30]; rfl) (by decide) ?_
    exact U_lv [0, 1, 2, 3, 4] rfl (K_case28 C hX hc hs hf J)
  replace hf := (if_neg c30).symm.trans hf
  by_cases c31 : (v1 &&& (31 : Int32)) = 29
  · replace hf := (if_pos c31).symm.trans hf
    refine U_tblIn (tgt := 1648) C dL_law_39 (by rw [c31]; decide) (by rw [c31]; decide) (by rw [c31]; rfl) (by decide) ?_
    exact U_lv [0, 1, 2, 3, 4] rfl (K_case29 C hX hc hs hf J)
  replace hf := (if_neg c31).symm.trans hf
  have hn32 : ((v1 &&& (31 : Int32))).toInt < 0 ∨ 29 < ((v1 &&& (31 : Int32))).toInt := by
    have := i32_ne c2
    have := i32_ne c3
    have := i32_ne c4
    have := i32_ne c5
    have := i32_ne c6
    have := i32_ne c7
    have := i32_ne c8
    have := i32_ne c9
    have := i32_ne c10
    have := i32_ne c11
    have := i32_ne c12
    have := i32_ne c13
    have := i32_ne c14
    have := i32_ne c15
    have := i32_ne c16
    have := i32_ne c17
    have := i32_ne c18
    have := i32_ne c19
    have := i32_ne c20
    have := i32_ne c21
    have := i32_ne c22
    have := i32_ne c23
    have := i32_ne c24
    have := i32_ne c25
    have := i32_ne c26
    have := i32_ne c27
    have := i32_ne c28
    have := i32_ne c29
    have := i32_ne c30
    have := i32_ne c31
    simp only [Int32.reduceToInt] at *
    omega
  refine U_tblOut (tgt := 1662) C dL_law_39 hn32 (by decide) ?_
  have hr := Option.some.inj hf
  subst hr
  exact U_wide (by omega) (by omega) (U_lv [0, 1, 2, 3, 4] rfl J)
def f_start : Option (Nat × Nat × Nat × Hp) :=
  bind2 (some ((([] : Hp)).length, ([] : Hp) ++ [.inr (3, [.null, .null, .null, .null, .int 0, .null, .null, .null, .null, .null, .null, .null])])) fun q1 h2 =>
  (f_X3_init q1 h2).bind fun h4 =>
  bind2 (some ((h4).length, h4 ++ [.inr (4, [.null, .null, .null, .int 0, .null, .int 0, .int 0, .null, .null, .int 0, .null, .int 0, .int 0, .null, .null, .null, .null, .null, .null, .null, .int 0, .int 0, .null, .long 0])])) fun q5 h6 =>
  (f_X4_init q5 h6).bind fun h8 =>
  bind2 (some ((h8).length, h8 ++ [.inl (1, (1, .inr (.inl fun _ => 0)))])) fun q9 h10 =>
  some (q1, q5, q9, h10)
set_option maxHeartbeats 2000000 in
set_option maxRecDepth 20000 in
theorem K_start {nm : String} {g : GT} {Γ : CT} {Q : State → Prop} {x m ot : Nat} {h : Hp} (C : Cx g Γ code RL nm 8 ret 2036 601024 7293034) (hf : f_start = some (x, m, ot, h)) (J : U g Γ 8 Q 78 11543 23 [(0, .retAddr 0), (1, .ref x), (2, .ref m), (3, .ref ot), (4, .int (0 : Int32))] [] h) : U g Γ 8 Q 0 0 0 [(0, .retAddr 0)] [] [] := by
  unfold f_start at hf
  refine U_bnew (fun k => U_new (n := 3) 3 (fs := [.null, .null, .null, .null, .int 0, .null, .null, .null, .null, .null, .null, .null]) C dL_law_0 rfl inB_3 tyX3_ok cl_RL_8 is_RX3 in_RX3 ndf_3 rfl (Nat.le_of_ble_eq_true rfl) (Nat.le_of_ble_eq_true rfl) rfl k) hf (fun q1 h2 hf => ?_)
  refine U_dup (n := 4) C dL_law_3 rfl rfl ?_
  obtain ⟨h4, ev3, hf⟩ := bsome hf
  refine cv_RL_86 (n := 7) C dL_law_4 (av := []) rfl (M_X3_init ev3) (by decide) (Nat.le_of_ble_eq_true rfl) (Nat.le_of_ble_eq_true rfl) (Nat.le_of_ble_eq_true rfl) rfl ?_
  refine U_astore_n (n := 8) (lv2 := [(1, .ref q1), (0, .retAddr 0)]) C dL_law_7 rfl (by decide) rfl rfl ?_
  refine U_bnew (fun k => U_new (n := 11) 4 (fs := [.null, .null, .null, .int 0, .null, .int 0, .int 0, .null, .null, .int 0, .null, .int 0, .int 0, .null, .null, .null, .null, .null, .null, .null, .int 0, .int 0, .null, .long 0]) C dL_law_8 rfl inB_4 tyX4_ok cl_RL_87 is_RX4 in_RX4 ndf_4 rfl (Nat.le_of_ble_eq_true rfl) (Nat.le_of_ble_eq_true rfl) rfl k) hf (fun q5 h6 hf => ?_)
  refine U_dup (n := 12) C dL_law_11 rfl rfl ?_
  obtain ⟨h8, ev7, hf⟩ := bsome hf
  refine cv_RL_89 (n := 15) C dL_law_12 (av := []) rfl (M_X4_init ev7) (by decide) (Nat.le_of_ble_eq_true rfl) (Nat.le_of_ble_eq_true rfl) (Nat.le_of_ble_eq_true rfl) rfl ?_
  refine U_astore_n (n := 16) (lv2 := [(2, .ref q5), (1, .ref q1), (0, .retAddr 0)]) C dL_law_15 rfl (by decide) rfl rfl ?_
  refine U_iconst (n := 17) (1 : Int32) C dL_law_16 kiconst_1 rfl ?_
  refine U_bnew (fun k => U_newJ (n := 19) (N := 1) C dL_law_17 (by decide) (by decide) (Nat.le_of_ble_eq_true rfl) (Nat.le_of_ble_eq_true rfl) (Nat.le_of_ble_eq_true rfl) rfl k) hf (fun q9 h10 hf => ?_)
  refine U_astore_n (n := 20) (lv2 := [(3, .ref q9), (2, .ref q5), (1, .ref q1), (0, .retAddr 0)]) C dL_law_19 rfl (by decide) rfl rfl ?_
  refine U_iconst (n := 21) (0 : Int32) C dL_law_20 kiconst_0 rfl ?_
  refine U_istore (n := 23) (lv2 := [(4, .int (0 : Int32)), (3, .ref q9), (2, .ref q5), (1, .ref q1), (0, .retAddr 0)]) C dL_law_21 (by decide) rfl rfl ?_
  obtain ⟨hr0, hs0⟩ := Prod.mk.inj (Option.some.inj hf)
  obtain ⟨hr1, hs1⟩ := Prod.mk.inj hs0
  obtain ⟨hr2, hs2⟩ := Prod.mk.inj hs1
  subst hr0
  subst hr1
  subst hr2
  subst hs2
  exact U_lv [4, 3, 2, 1, 0] rfl J
