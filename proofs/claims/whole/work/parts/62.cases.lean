def mL : ev_M := (yL_law, cL_law, 4, ret, 1, 12, 426, 600000, 7302250)

def qL : Option Value → Nat → ev_W → Prop := fun a _ _ => a = some (.int 1)
set_option maxRecDepth 100000 in
set_option maxHeartbeats 4000000 in
theorem lc_feed {E : ev_E} {i : Nat} (hi : i + 5 ≤ E.2.2.2.1) (hL : E.2.2.2.1 ≤ 320) {w : ev_W} (h : LW w) (kk : ∀ w', LW w' → Ev E mL 1504 [some (.ref 1010), some (.ref 0), some (.ref 70), some (.int (nI i))] [] 82 w' (82, 2968) qL) : Ev E mL 216 [some (.ref 1010), some (.ref 0), some (.ref 70), some (.int (nI i))] [] 82 w (82, 2968) qL := by
  obtain ⟨X, Tn, Ti, Tp, Sg, Sh, S, f, nh, nt, dd, tl, sz, hX, hM, hG⟩ := h
  refine st_aload_n (q := 217) dL_law_216 rfl rfl rfl ?_
  refine st_aload_n (q := 218) dL_law_217 rfl rfl rfl ?_
  refine st_iload_n (q := 219) dL_law_218 rfl rfl rfl ?_
  refine st_iconst (q := 220) dL_law_219 rfl ic_1 ?_
  refine st_iadd (q := 221) dL_law_220 rfl ?_
  refine st_ialoadX (q := 222) dL_law_221 rfl (List.mem_of_getElem? (i := 10) rfl) (by decide) (ix2 (a := i) (b := 1) (by omega) (by omega)) rfl ?_
  refine sm_V1 (q := 225) (M' := mX6_feed) dL_law_222 rfl ok_X6_feed mk_X6_feed ml_L_13 ⟨Nat.le_of_ble_eq_true rfl, Nat.le_of_ble_eq_true rfl⟩ rfl (Nat.le_of_ble_eq_true rfl) (g_rv hX.x rfl) ⟨rfl, rfl⟩ (c_X6_feed hX hG.2.2.1.1 hG.2.2.1.2.2.1) ?_
  intro _ n w h9 _
  obtain ⟨rfl, rfl, hX, hF_⟩ := h9
  replace hM := GR.fr gkX7 hM (fun k h1 h2 => hF_ k (by omega))
  refine st_aload_n (q := 226) dL_law_225 rfl rfl rfl ?_
  refine st_aload_n (q := 227) dL_law_226 rfl rfl rfl ?_
  refine st_iload_n (q := 228) dL_law_227 rfl rfl rfl ?_
  refine st_iconst (q := 229) dL_law_228 rfl ic_1 ?_
  refine st_iadd (q := 230) dL_law_229 rfl ?_
  refine st_ialoadX (q := 231) dL_law_230 rfl (List.mem_of_getElem? (i := 10) rfl) (by decide) (ix2 (a := i) (b := 1) (by omega) (by omega)) rfl ?_
  refine sm_V1 (q := 234) (M' := mX7_feed) dL_law_231 rfl ok_X7_feed mk_X7_feed ml_L_17 ⟨Nat.le_of_ble_eq_true rfl, Nat.le_of_ble_eq_true rfl⟩ rfl (Nat.le_of_ble_eq_true rfl) (g_rv hM rfl) ⟨rfl, rfl⟩ (c_X7_feed Fr.rf hM hG.2.2.1.2.1 hG.2.2.1.2.2.1) ?_
  intro _ n w h9 _
  obtain ⟨rfl, rfl, hM, hF_⟩ := h9
  replace hX := hX.keep (fun k hk => hF_ k (by omega))
  obtain ⟨tl1, hG⟩ := hG.feed (E.2.2.2.2 (i + 1))
  refine st_icmp_eq (q := 237) (tgt := 1504) dL_law_234 rfl rfl (fun c_234 => ?_) (fun c_234 => False.elim (c_234 rfl))
  exact kk w ⟨_, _, _, _, _, _, _, _, _, _, _, _, _, hX, hM, hG⟩
set_option maxRecDepth 100000 in
set_option maxHeartbeats 4000000 in
theorem lc_end {E : ev_E} {i : Nat} (hi : i + 5 ≤ E.2.2.2.1) (hL : E.2.2.2.1 ≤ 320) {w : ev_W} (h : LW w) (kk : ∀ w', LW w' → Ev E mL 1504 [some (.ref 1010), some (.ref 0), some (.ref 70), some (.int (nI i))] [] 82 w' (82, 2968) qL) : Ev E mL 239 [some (.ref 1010), some (.ref 0), some (.ref 70), some (.int (nI i))] [] 82 w (82, 2968) qL := by
  obtain ⟨X, Tn, Ti, Tp, Sg, Sh, S, f, nh, nt, dd, tl, sz, hX, hM, hG⟩ := h
  refine st_aload_n (q := 240) dL_law_239 rfl rfl rfl ?_
  refine st_aload_n (q := 241) dL_law_240 rfl rfl rfl ?_
  refine st_iload_n (q := 242) dL_law_241 rfl rfl rfl ?_
  refine st_iconst (q := 243) dL_law_242 rfl ic_1 ?_
  refine st_iadd (q := 244) dL_law_243 rfl ?_
  refine st_ialoadX (q := 245) dL_law_244 rfl (List.mem_of_getElem? (i := 10) rfl) (by decide) (ix2 (a := i) (b := 1) (by omega) (by omega)) rfl ?_
  refine sm_V1 (q := 248) (M' := mX6_end) dL_law_245 rfl ok_X6_end mk_X6_end ml_L_18 ⟨Nat.le_of_ble_eq_true rfl, Nat.le_of_ble_eq_true rfl⟩ rfl (Nat.le_of_ble_eq_true rfl) (g_rv hX.x rfl) ⟨rfl, rfl⟩ (c_X6_end hX hG.2.2.1.1 hG.2.2.1.2.2.1) ?_
  intro _ n w h9 _
  obtain ⟨rfl, rfl, hX, hF_⟩ := h9
  replace hM := GR.fr gkX7 hM (fun k h1 h2 => hF_ k (by omega))
  refine st_aload_n (q := 249) dL_law_248 rfl rfl rfl ?_
  refine st_aload_n (q := 250) dL_law_249 rfl rfl rfl ?_
  refine st_iload_n (q := 251) dL_law_250 rfl rfl rfl ?_
  refine st_iconst (q := 252) dL_law_251 rfl ic_1 ?_
  refine st_iadd (q := 253) dL_law_252 rfl ?_
  refine st_ialoadX (q := 254) dL_law_253 rfl (List.mem_of_getElem? (i := 10) rfl) (by decide) (ix2 (a := i) (b := 1) (by omega) (by omega)) rfl ?_
  refine sm_V1 (q := 257) (M' := mX7_end) dL_law_254 rfl ok_X7_end mk_X7_end ml_L_21 ⟨Nat.le_of_ble_eq_true rfl, Nat.le_of_ble_eq_true rfl⟩ rfl (Nat.le_of_ble_eq_true rfl) (g_rv hM rfl) ⟨rfl, rfl⟩ (c_X7_end Fr.rf hM hG.2.2.1.2.1 hG.2.2.1.2.2.1) ?_
  intro _ n w h9 _
  obtain ⟨rfl, rfl, hM, hF_⟩ := h9
  replace hX := hX.keep (fun k hk => hF_ k (by omega))
  obtain ⟨tl1, hG⟩ := hG.fin (E.2.2.2.2 (i + 1))
  refine st_icmp_eq (q := 260) (tgt := 1504) dL_law_257 rfl rfl (fun c_257 => ?_) (fun c_257 => False.elim (c_257 rfl))
  exact kk w ⟨_, _, _, _, _, _, _, _, _, _, _, _, _, hX, hM, hG⟩
set_option maxRecDepth 100000 in
set_option maxHeartbeats 4000000 in
theorem lc_fault {E : ev_E} {i : Nat} (hi : i + 5 ≤ E.2.2.2.1) (hL : E.2.2.2.1 ≤ 320) {w : ev_W} (h : LW w) (kk : ∀ w', LW w' → Ev E mL 1504 [some (.ref 1010), some (.ref 0), some (.ref 70), some (.int (nI i))] [] 82 w' (82, 2968) qL) : Ev E mL 275 [some (.ref 1010), some (.ref 0), some (.ref 70), some (.int (nI i))] [] 82 w (82, 2968) qL := by
  obtain ⟨X, Tn, Ti, Tp, Sg, Sh, S, f, nh, nt, dd, tl, sz, hX, hM, hG⟩ := h
  have heq : X 5 0 = S 11 0 := hG.2.2.2.1
  refine st_aload_n (q := 276) dL_law_275 rfl rfl rfl ?_
  refine sm_V0 (q := 279) (M' := mX6_fault) dL_law_276 rfl ok_X6_fault mk_X6_fault ml_L_27 ⟨Nat.le_of_ble_eq_true rfl, Nat.le_of_ble_eq_true rfl⟩ rfl (Nat.le_of_ble_eq_true rfl) (g_rv hX.x rfl) ⟨rfl, rfl⟩ (c_X6_fault hX) ?_
  intro _ n w h9 _
  obtain ⟨rfl, rfl, hX, hF_⟩ := h9
  replace hM := GR.fr gkX7 hM (fun k h1 h2 => hF_ k (by omega))
  refine st_aload_n (q := 280) dL_law_279 rfl rfl rfl ?_
  refine sm_V0 (q := 283) (M' := mX7_fault) dL_law_280 rfl ok_X7_fault mk_X7_fault ml_L_30 ⟨Nat.le_of_ble_eq_true rfl, Nat.le_of_ble_eq_true rfl⟩ rfl (Nat.le_of_ble_eq_true rfl) (g_rv hM rfl) ⟨rfl, rfl⟩ (c_X7_fault Fr.rf hM) ?_
  intro _ n w h9 _
  obtain ⟨rfl, rfl, hM, hF_⟩ := h9
  replace hX := hX.keep (fun k hk => hF_ k (by omega))
  refine st_icmp_eq (q := 286) (tgt := 1504) dL_law_283 rfl rfl (fun c_283 => ?_) (fun c_283 => False.elim (c_283 heq))
  exact kk w ⟨_, _, _, _, _, _, _, _, _, _, _, _, _, hX, hM, hG⟩
set_option maxRecDepth 100000 in
set_option maxHeartbeats 4000000 in
theorem lc_rule {E : ev_E} {i : Nat} (hi : i + 5 ≤ E.2.2.2.1) (hL : E.2.2.2.1 ≤ 320) {w : ev_W} (h : LW w) (kk : ∀ w', LW w' → Ev E mL 1504 [some (.ref 1010), some (.ref 0), some (.ref 70), some (.int (nI i))] [] 82 w' (82, 2968) qL) : Ev E mL 288 [some (.ref 1010), some (.ref 0), some (.ref 70), some (.int (nI i))] [] 82 w (82, 2968) qL := by
  obtain ⟨X, Tn, Ti, Tp, Sg, Sh, S, f, nh, nt, dd, tl, sz, hX, hM, hG⟩ := h
  refine st_aload_n (q := 289) dL_law_288 rfl rfl rfl ?_
  refine st_aload_n (q := 290) dL_law_289 rfl rfl rfl ?_
  refine st_iload_n (q := 291) dL_law_290 rfl rfl rfl ?_
  refine st_iconst (q := 292) dL_law_291 rfl ic_1 ?_
  refine st_iadd (q := 293) dL_law_292 rfl ?_
  refine st_ialoadX (q := 294) dL_law_293 rfl (List.mem_of_getElem? (i := 10) rfl) (by decide) (ix2 (a := i) (b := 1) (by omega) (by omega)) rfl ?_
  refine sm_V1 (q := 297) (M' := mX6_rule) dL_law_294 rfl ok_X6_rule mk_X6_rule ml_L_31 ⟨Nat.le_of_ble_eq_true rfl, Nat.le_of_ble_eq_true rfl⟩ rfl (Nat.le_of_ble_eq_true rfl) (g_rv hX.x rfl) ⟨rfl, rfl⟩ (c_X6_rule hX) ?_
  intro _ n w h9 _
  obtain ⟨rfl, rfl, hX, hF_⟩ := h9
  replace hM := GR.fr gkX7 hM (fun k h1 h2 => hF_ k (by omega))
  refine st_aload_n (q := 298) dL_law_297 rfl rfl rfl ?_
  refine st_aload_n (q := 299) dL_law_298 rfl rfl rfl ?_
  refine st_iload_n (q := 300) dL_law_299 rfl rfl rfl ?_
  refine st_iconst (q := 301) dL_law_300 rfl ic_1 ?_
  refine st_iadd (q := 302) dL_law_301 rfl ?_
  refine st_ialoadX (q := 303) dL_law_302 rfl (List.mem_of_getElem? (i := 10) rfl) (by decide) (ix2 (a := i) (b := 1) (by omega) (by omega)) rfl ?_
  refine sm_V1 (q := 306) (M' := mX7_rule) dL_law_303 rfl ok_X7_rule mk_X7_rule ml_L_34 ⟨Nat.le_of_ble_eq_true rfl, Nat.le_of_ble_eq_true rfl⟩ rfl (Nat.le_of_ble_eq_true rfl) (g_rv hM rfl) ⟨rfl, rfl⟩ (c_X7_rule Fr.rf hM hG.q.1 hG.q.2.1 hG.q.2.2.1) ?_
  intro _ n w h9 _
  obtain ⟨rfl, rfl, hM, hF_⟩ := h9
  replace hX := hX.keep (fun k hk => hF_ k (by omega))
  refine st_icmp_eq (q := 309) (tgt := 1504) dL_law_306 rfl rfl (fun c_306 => ?_) (fun c_306 => False.elim (c_306 rfl))
  exact kk w ⟨_, _, _, _, _, _, _, _, _, _, _, _, _, hX, hM, hG⟩
set_option maxRecDepth 100000 in
set_option maxHeartbeats 4000000 in
theorem lc_house {E : ev_E} {i : Nat} (hi : i + 5 ≤ E.2.2.2.1) (hL : E.2.2.2.1 ≤ 320) {w : ev_W} (h : LW w) (kk : ∀ w', LW w' → Ev E mL 1504 [some (.ref 1010), some (.ref 0), some (.ref 70), some (.int (nI i))] [] 82 w' (82, 2968) qL) : Ev E mL 311 [some (.ref 1010), some (.ref 0), some (.ref 70), some (.int (nI i))] [] 82 w (82, 2968) qL := by
  obtain ⟨X, Tn, Ti, Tp, Sg, Sh, S, f, nh, nt, dd, tl, sz, hX, hM, hG⟩ := h
  refine st_aload_n (q := 312) dL_law_311 rfl rfl rfl ?_
  refine st_aload_n (q := 313) dL_law_312 rfl rfl rfl ?_
  refine st_iload_n (q := 314) dL_law_313 rfl rfl rfl ?_
  refine st_iconst (q := 315) dL_law_314 rfl ic_1 ?_
  refine st_iadd (q := 316) dL_law_315 rfl ?_
  refine st_ialoadX (q := 317) dL_law_316 rfl (List.mem_of_getElem? (i := 10) rfl) (by decide) (ix2 (a := i) (b := 1) (by omega) (by omega)) rfl ?_
  refine st_aload_n (q := 318) dL_law_317 rfl rfl rfl ?_
  refine st_iload_n (q := 319) dL_law_318 rfl rfl rfl ?_
  refine st_iconst (q := 320) dL_law_319 rfl ic_2 ?_
  refine st_iadd (q := 321) dL_law_320 rfl ?_
  refine st_ialoadX (q := 322) dL_law_321 rfl (List.mem_of_getElem? (i := 10) rfl) (by decide) (ix2 (a := i) (b := 2) (by omega) (by omega)) rfl ?_
  refine sm_V2 (q := 325) (M' := mX6_house) dL_law_322 rfl ok_X6_house mk_X6_house ml_L_35 ⟨Nat.le_of_ble_eq_true rfl, Nat.le_of_ble_eq_true rfl⟩ rfl (Nat.le_of_ble_eq_true rfl) (g_rv hX.x rfl) ⟨rfl, rfl⟩ (c_X6_house hX hG.tk) ?_
  intro _ n w h9 _
  obtain ⟨rfl, rfl, hX, hF_⟩ := h9
  replace hM := GR.fr gkX7 hM (fun k h1 h2 => hF_ k (by omega))
  refine st_aload_n (q := 326) dL_law_325 rfl rfl rfl ?_
  refine st_aload_n (q := 327) dL_law_326 rfl rfl rfl ?_
  refine st_iload_n (q := 328) dL_law_327 rfl rfl rfl ?_
  refine st_iconst (q := 329) dL_law_328 rfl ic_1 ?_
  refine st_iadd (q := 330) dL_law_329 rfl ?_
  refine st_ialoadX (q := 331) dL_law_330 rfl (List.mem_of_getElem? (i := 10) rfl) (by decide) (ix2 (a := i) (b := 1) (by omega) (by omega)) rfl ?_
  refine st_aload_n (q := 332) dL_law_331 rfl rfl rfl ?_
  refine st_iload_n (q := 333) dL_law_332 rfl rfl rfl ?_
  refine st_iconst (q := 334) dL_law_333 rfl ic_2 ?_
  refine st_iadd (q := 335) dL_law_334 rfl ?_
  refine st_ialoadX (q := 336) dL_law_335 rfl (List.mem_of_getElem? (i := 10) rfl) (by decide) (ix2 (a := i) (b := 2) (by omega) (by omega)) rfl ?_
  refine sm_V2 (q := 339) (M' := mX7_house) dL_law_336 rfl ok_X7_house mk_X7_house ml_L_39 ⟨Nat.le_of_ble_eq_true rfl, Nat.le_of_ble_eq_true rfl⟩ rfl (Nat.le_of_ble_eq_true rfl) (g_rv hM rfl) ⟨rfl, rfl⟩ (c_X7_house Fr.rf hM hG.q.1 hG.q.2.1 hG.q.2.2.1) ?_
  intro _ n w h9 _
  obtain ⟨rfl, rfl, hM, hF_⟩ := h9
  replace hX := hX.keep (fun k hk => hF_ k (by omega))
  refine st_icmp_eq (q := 342) (tgt := 1504) dL_law_339 rfl rfl (fun c_339 => ?_) (fun c_339 => False.elim (c_339 rfl))
  exact kk w ⟨_, _, _, _, _, _, _, _, _, _, _, _, _, hX, hM, hG⟩
set_option maxRecDepth 100000 in
set_option maxHeartbeats 4000000 in
theorem lc_thing {E : ev_E} {i : Nat} (hi : i + 5 ≤ E.2.2.2.1) (hL : E.2.2.2.1 ≤ 320) {w : ev_W} (h : LW w) (kk : ∀ w', LW w' → Ev E mL 1504 [some (.ref 1010), some (.ref 0), some (.ref 70), some (.int (nI i))] [] 82 w' (82, 2968) qL) : Ev E mL 344 [some (.ref 1010), some (.ref 0), some (.ref 70), some (.int (nI i))] [] 82 w (82, 2968) qL := by
  obtain ⟨X, Tn, Ti, Tp, Sg, Sh, S, f, nh, nt, dd, tl, sz, hX, hM, hG⟩ := h
  refine st_aload_n (q := 345) dL_law_344 rfl rfl rfl ?_
  refine st_aload_n (q := 346) dL_law_345 rfl rfl rfl ?_
  refine st_iload_n (q := 347) dL_law_346 rfl rfl rfl ?_
  refine st_iconst (q := 348) dL_law_347 rfl ic_1 ?_
  refine st_iadd (q := 349) dL_law_348 rfl ?_
  refine st_ialoadX (q := 350) dL_law_349 rfl (List.mem_of_getElem? (i := 10) rfl) (by decide) (ix2 (a := i) (b := 1) (by omega) (by omega)) rfl ?_
  refine st_aload_n (q := 351) dL_law_350 rfl rfl rfl ?_
  refine st_iload_n (q := 352) dL_law_351 rfl rfl rfl ?_
  refine st_iconst (q := 353) dL_law_352 rfl ic_2 ?_
  refine st_iadd (q := 354) dL_law_353 rfl ?_
  refine st_ialoadX (q := 355) dL_law_354 rfl (List.mem_of_getElem? (i := 10) rfl) (by decide) (ix2 (a := i) (b := 2) (by omega) (by omega)) rfl ?_
  refine sm_V2 (q := 358) (M' := mX6_thing) dL_law_355 rfl ok_X6_thing mk_X6_thing ml_L_40 ⟨Nat.le_of_ble_eq_true rfl, Nat.le_of_ble_eq_true rfl⟩ rfl (Nat.le_of_ble_eq_true rfl) (g_rv hX.x rfl) ⟨rfl, rfl⟩ (c_X6_thing hX hG.tk) ?_
  intro _ n w h9 _
  obtain ⟨rfl, rfl, hX, hF_⟩ := h9
  replace hM := GR.fr gkX7 hM (fun k h1 h2 => hF_ k (by omega))
  refine st_aload_n (q := 359) dL_law_358 rfl rfl rfl ?_
  refine st_aload_n (q := 360) dL_law_359 rfl rfl rfl ?_
  refine st_iload_n (q := 361) dL_law_360 rfl rfl rfl ?_
  refine st_iconst (q := 362) dL_law_361 rfl ic_1 ?_
  refine st_iadd (q := 363) dL_law_362 rfl ?_
  refine st_ialoadX (q := 364) dL_law_363 rfl (List.mem_of_getElem? (i := 10) rfl) (by decide) (ix2 (a := i) (b := 1) (by omega) (by omega)) rfl ?_
  refine st_aload_n (q := 365) dL_law_364 rfl rfl rfl ?_
  refine st_iload_n (q := 366) dL_law_365 rfl rfl rfl ?_
  refine st_iconst (q := 367) dL_law_366 rfl ic_2 ?_
  refine st_iadd (q := 368) dL_law_367 rfl ?_
  refine st_ialoadX (q := 369) dL_law_368 rfl (List.mem_of_getElem? (i := 10) rfl) (by decide) (ix2 (a := i) (b := 2) (by omega) (by omega)) rfl ?_
  refine sm_V2 (q := 372) (M' := mX7_thing) dL_law_369 rfl ok_X7_thing mk_X7_thing ml_L_43 ⟨Nat.le_of_ble_eq_true rfl, Nat.le_of_ble_eq_true rfl⟩ rfl (Nat.le_of_ble_eq_true rfl) (g_rv hM rfl) ⟨rfl, rfl⟩ (c_X7_thing Fr.rf hM hG.q.1 hG.q.2.1 hG.q.2.2.1) ?_
  intro _ n w h9 _
  obtain ⟨rfl, rfl, hM, hF_⟩ := h9
  replace hX := hX.keep (fun k hk => hF_ k (by omega))
  refine st_icmp_eq (q := 375) (tgt := 1504) dL_law_372 rfl rfl (fun c_372 => ?_) (fun c_372 => False.elim (c_372 rfl))
  exact kk w ⟨_, _, _, _, _, _, _, _, _, _, _, _, _, hX, hM, hG⟩
set_option maxRecDepth 100000 in
set_option maxHeartbeats 4000000 in
theorem lc_rise {E : ev_E} {i : Nat} (hi : i + 5 ≤ E.2.2.2.1) (hL : E.2.2.2.1 ≤ 320) {w : ev_W} (h : LW w) (kk : ∀ w', LW w' → Ev E mL 1504 [some (.ref 1010), some (.ref 0), some (.ref 70), some (.int (nI i))] [] 82 w' (82, 2968) qL) : Ev E mL 377 [some (.ref 1010), some (.ref 0), some (.ref 70), some (.int (nI i))] [] 82 w (82, 2968) qL := by
  obtain ⟨X, Tn, Ti, Tp, Sg, Sh, S, f, nh, nt, dd, tl, sz, hX, hM, hG⟩ := h
  refine st_aload_n (q := 378) dL_law_377 rfl rfl rfl ?_
  refine st_aload_n (q := 379) dL_law_378 rfl rfl rfl ?_
  refine st_iload_n (q := 380) dL_law_379 rfl rfl rfl ?_
  refine st_iconst (q := 381) dL_law_380 rfl ic_1 ?_
  refine st_iadd (q := 382) dL_law_381 rfl ?_
  refine st_ialoadX (q := 383) dL_law_382 rfl (List.mem_of_getElem? (i := 10) rfl) (by decide) (ix2 (a := i) (b := 1) (by omega) (by omega)) rfl ?_
  refine sm_V1 (q := 386) (M' := mX6_rise) dL_law_383 rfl ok_X6_rise mk_X6_rise ml_L_44 ⟨Nat.le_of_ble_eq_true rfl, Nat.le_of_ble_eq_true rfl⟩ rfl (Nat.le_of_ble_eq_true rfl) (g_rv hX.x rfl) ⟨rfl, rfl⟩ (c_X6_rise hX) ?_
  intro _ n w h9 _
  obtain ⟨rfl, rfl, hX, hF_⟩ := h9
  replace hM := GR.fr gkX7 hM (fun k h1 h2 => hF_ k (by omega))
  refine st_aload_n (q := 387) dL_law_386 rfl rfl rfl ?_
  refine st_aload_n (q := 388) dL_law_387 rfl rfl rfl ?_
  refine st_iload_n (q := 389) dL_law_388 rfl rfl rfl ?_
  refine st_iconst (q := 390) dL_law_389 rfl ic_1 ?_
  refine st_iadd (q := 391) dL_law_390 rfl ?_
  refine st_ialoadX (q := 392) dL_law_391 rfl (List.mem_of_getElem? (i := 10) rfl) (by decide) (ix2 (a := i) (b := 1) (by omega) (by omega)) rfl ?_
  refine sm_V1 (q := 395) (M' := mX7_rise) dL_law_392 rfl ok_X7_rise mk_X7_rise ml_L_47 ⟨Nat.le_of_ble_eq_true rfl, Nat.le_of_ble_eq_true rfl⟩ rfl (Nat.le_of_ble_eq_true rfl) (g_rv hM rfl) ⟨rfl, rfl⟩ (c_X7_rise Fr.rf hM hG.q.1 hG.q.2.1 hG.q.2.2.1) ?_
  intro _ n w h9 _
  obtain ⟨rfl, rfl, hM, hF_⟩ := h9
  replace hX := hX.keep (fun k hk => hF_ k (by omega))
  refine st_icmp_eq (q := 398) (tgt := 1504) dL_law_395 rfl rfl (fun c_395 => ?_) (fun c_395 => False.elim (c_395 rfl))
  exact kk w ⟨_, _, _, _, _, _, _, _, _, _, _, _, _, hX, hM, hG⟩
set_option maxRecDepth 100000 in
set_option maxHeartbeats 4000000 in
theorem lc_build {E : ev_E} {i : Nat} (hi : i + 5 ≤ E.2.2.2.1) (hL : E.2.2.2.1 ≤ 320) {w : ev_W} (h : LW w) (kk : ∀ w', LW w' → Ev E mL 1504 [some (.ref 1010), some (.ref 0), some (.ref 70), some (.int (nI i))] [] 82 w' (82, 2968) qL) : Ev E mL 400 [some (.ref 1010), some (.ref 0), some (.ref 70), some (.int (nI i))] [] 82 w (82, 2968) qL := by
  obtain ⟨X, Tn, Ti, Tp, Sg, Sh, S, f, nh, nt, dd, tl, sz, hX, hM, hG⟩ := h
  refine st_aload_n (q := 401) dL_law_400 rfl rfl rfl ?_
  refine st_aload_n (q := 402) dL_law_401 rfl rfl rfl ?_
  refine st_iload_n (q := 403) dL_law_402 rfl rfl rfl ?_
  refine st_iconst (q := 404) dL_law_403 rfl ic_1 ?_
  refine st_iadd (q := 405) dL_law_404 rfl ?_
  refine st_ialoadX (q := 406) dL_law_405 rfl (List.mem_of_getElem? (i := 10) rfl) (by decide) (ix2 (a := i) (b := 1) (by omega) (by omega)) rfl ?_
  refine st_aload_n (q := 407) dL_law_406 rfl rfl rfl ?_
  refine st_iload_n (q := 408) dL_law_407 rfl rfl rfl ?_
  refine st_iconst (q := 409) dL_law_408 rfl ic_2 ?_
  refine st_iadd (q := 410) dL_law_409 rfl ?_
  refine st_ialoadX (q := 411) dL_law_410 rfl (List.mem_of_getElem? (i := 10) rfl) (by decide) (ix2 (a := i) (b := 2) (by omega) (by omega)) rfl ?_
  refine st_aload_n (q := 412) dL_law_411 rfl rfl rfl ?_
  refine st_iload_n (q := 413) dL_law_412 rfl rfl rfl ?_
  refine st_iconst (q := 414) dL_law_413 rfl ic_3 ?_
  refine st_iadd (q := 415) dL_law_414 rfl ?_
  refine st_ialoadX (q := 416) dL_law_415 rfl (List.mem_of_getElem? (i := 10) rfl) (by decide) (ix2 (a := i) (b := 3) (by omega) (by omega)) rfl ?_
  refine sm_V3 (q := 419) (M' := mX6_build) dL_law_416 rfl ok_X6_build mk_X6_build ml_L_48 ⟨Nat.le_of_ble_eq_true rfl, Nat.le_of_ble_eq_true rfl⟩ rfl (Nat.le_of_ble_eq_true rfl) (g_rv hX.x rfl) ⟨rfl, rfl⟩ (c_X6_build hX hG.tk) ?_
  intro _ n w h9 _
  obtain ⟨rfl, rfl, hX, hF_⟩ := h9
  replace hM := GR.fr gkX7 hM (fun k h1 h2 => hF_ k (by omega))
  refine st_aload_n (q := 420) dL_law_419 rfl rfl rfl ?_
  refine st_aload_n (q := 421) dL_law_420 rfl rfl rfl ?_
  refine st_iload_n (q := 422) dL_law_421 rfl rfl rfl ?_
  refine st_iconst (q := 423) dL_law_422 rfl ic_1 ?_
  refine st_iadd (q := 424) dL_law_423 rfl ?_
  refine st_ialoadX (q := 425) dL_law_424 rfl (List.mem_of_getElem? (i := 10) rfl) (by decide) (ix2 (a := i) (b := 1) (by omega) (by omega)) rfl ?_
  refine st_aload_n (q := 426) dL_law_425 rfl rfl rfl ?_
  refine st_iload_n (q := 427) dL_law_426 rfl rfl rfl ?_
  refine st_iconst (q := 428) dL_law_427 rfl ic_2 ?_
  refine st_iadd (q := 429) dL_law_428 rfl ?_
  refine st_ialoadX (q := 430) dL_law_429 rfl (List.mem_of_getElem? (i := 10) rfl) (by decide) (ix2 (a := i) (b := 2) (by omega) (by omega)) rfl ?_
  refine st_aload_n (q := 431) dL_law_430 rfl rfl rfl ?_
  refine st_iload_n (q := 432) dL_law_431 rfl rfl rfl ?_
  refine st_iconst (q := 433) dL_law_432 rfl ic_3 ?_
  refine st_iadd (q := 434) dL_law_433 rfl ?_
  refine st_ialoadX (q := 435) dL_law_434 rfl (List.mem_of_getElem? (i := 10) rfl) (by decide) (ix2 (a := i) (b := 3) (by omega) (by omega)) rfl ?_
  refine sm_V3 (q := 438) (M' := mX7_build) dL_law_435 rfl ok_X7_build mk_X7_build ml_L_52 ⟨Nat.le_of_ble_eq_true rfl, Nat.le_of_ble_eq_true rfl⟩ rfl (Nat.le_of_ble_eq_true rfl) (g_rv hM rfl) ⟨rfl, rfl⟩ (c_X7_build Fr.rf hM hG.q) ?_
  intro _ n w h9 _
  obtain ⟨rfl, rfl, ⟨f1, d1, hM, hr1, hd1, ho1⟩, hF_⟩ := h9
  replace hX := hX.keep (fun k hk => hF_ k (by omega))
  replace hG := hG.cr hr1 hd1 ho1
  refine st_icmp_eq (q := 441) (tgt := 1504) dL_law_438 rfl rfl (fun c_438 => ?_) (fun c_438 => False.elim (c_438 rfl))
  exact kk w ⟨_, _, _, _, _, _, _, _, _, _, _, _, _, hX, hM, hG⟩
set_option maxRecDepth 100000 in
set_option maxHeartbeats 4000000 in
theorem lc_alter {E : ev_E} {i : Nat} (hi : i + 5 ≤ E.2.2.2.1) (hL : E.2.2.2.1 ≤ 320) {w : ev_W} (h : LW w) (kk : ∀ w', LW w' → Ev E mL 1504 [some (.ref 1010), some (.ref 0), some (.ref 70), some (.int (nI i))] [] 82 w' (82, 2968) qL) : Ev E mL 443 [some (.ref 1010), some (.ref 0), some (.ref 70), some (.int (nI i))] [] 82 w (82, 2968) qL := by
  obtain ⟨X, Tn, Ti, Tp, Sg, Sh, S, f, nh, nt, dd, tl, sz, hX, hM, hG⟩ := h
  refine st_aload_n (q := 444) dL_law_443 rfl rfl rfl ?_
  refine st_aload_n (q := 445) dL_law_444 rfl rfl rfl ?_
  refine st_iload_n (q := 446) dL_law_445 rfl rfl rfl ?_
  refine st_iconst (q := 447) dL_law_446 rfl ic_1 ?_
  refine st_iadd (q := 448) dL_law_447 rfl ?_
  refine st_ialoadX (q := 449) dL_law_448 rfl (List.mem_of_getElem? (i := 10) rfl) (by decide) (ix2 (a := i) (b := 1) (by omega) (by omega)) rfl ?_
  refine st_aload_n (q := 450) dL_law_449 rfl rfl rfl ?_
  refine st_iload_n (q := 451) dL_law_450 rfl rfl rfl ?_
  refine st_iconst (q := 452) dL_law_451 rfl ic_2 ?_
  refine st_iadd (q := 453) dL_law_452 rfl ?_
  refine st_ialoadX (q := 454) dL_law_453 rfl (List.mem_of_getElem? (i := 10) rfl) (by decide) (ix2 (a := i) (b := 2) (by omega) (by omega)) rfl ?_
  refine st_aload_n (q := 455) dL_law_454 rfl rfl rfl ?_
  refine st_iload_n (q := 456) dL_law_455 rfl rfl rfl ?_
  refine st_iconst (q := 457) dL_law_456 rfl ic_3 ?_
  refine st_iadd (q := 458) dL_law_457 rfl ?_
  refine st_ialoadX (q := 459) dL_law_458 rfl (List.mem_of_getElem? (i := 10) rfl) (by decide) (ix2 (a := i) (b := 3) (by omega) (by omega)) rfl ?_
  refine sm_V3 (q := 462) (M' := mX6_alter) dL_law_459 rfl ok_X6_alter mk_X6_alter ml_L_53 ⟨Nat.le_of_ble_eq_true rfl, Nat.le_of_ble_eq_true rfl⟩ rfl (Nat.le_of_ble_eq_true rfl) (g_rv hX.x rfl) ⟨rfl, rfl⟩ (c_X6_alter hX hG.tk) ?_
  intro _ n w h9 _
  obtain ⟨rfl, rfl, hX, hF_⟩ := h9
  replace hM := GR.fr gkX7 hM (fun k h1 h2 => hF_ k (by omega))
  refine st_aload_n (q := 463) dL_law_462 rfl rfl rfl ?_
  refine st_aload_n (q := 464) dL_law_463 rfl rfl rfl ?_
  refine st_iload_n (q := 465) dL_law_464 rfl rfl rfl ?_
  refine st_iconst (q := 466) dL_law_465 rfl ic_1 ?_
  refine st_iadd (q := 467) dL_law_466 rfl ?_
  refine st_ialoadX (q := 468) dL_law_467 rfl (List.mem_of_getElem? (i := 10) rfl) (by decide) (ix2 (a := i) (b := 1) (by omega) (by omega)) rfl ?_
  refine st_aload_n (q := 469) dL_law_468 rfl rfl rfl ?_
  refine st_iload_n (q := 470) dL_law_469 rfl rfl rfl ?_
  refine st_iconst (q := 471) dL_law_470 rfl ic_2 ?_
  refine st_iadd (q := 472) dL_law_471 rfl ?_
  refine st_ialoadX (q := 473) dL_law_472 rfl (List.mem_of_getElem? (i := 10) rfl) (by decide) (ix2 (a := i) (b := 2) (by omega) (by omega)) rfl ?_
  refine st_aload_n (q := 474) dL_law_473 rfl rfl rfl ?_
  refine st_iload_n (q := 475) dL_law_474 rfl rfl rfl ?_
  refine st_iconst (q := 476) dL_law_475 rfl ic_3 ?_
  refine st_iadd (q := 477) dL_law_476 rfl ?_
  refine st_ialoadX (q := 478) dL_law_477 rfl (List.mem_of_getElem? (i := 10) rfl) (by decide) (ix2 (a := i) (b := 3) (by omega) (by omega)) rfl ?_
  refine sm_V3 (q := 481) (M' := mX7_alter) dL_law_478 rfl ok_X7_alter mk_X7_alter ml_L_56 ⟨Nat.le_of_ble_eq_true rfl, Nat.le_of_ble_eq_true rfl⟩ rfl (Nat.le_of_ble_eq_true rfl) (g_rv hM rfl) ⟨rfl, rfl⟩ (c_X7_alter Fr.rf hM hG.q) ?_
  intro _ n w h9 _
  obtain ⟨rfl, rfl, ⟨f1, d1, hM, hr1, hd1, ho1⟩, hF_⟩ := h9
  replace hX := hX.keep (fun k hk => hF_ k (by omega))
  replace hG := hG.cr hr1 hd1 ho1
  refine st_icmp_eq (q := 484) (tgt := 1504) dL_law_481 rfl rfl (fun c_481 => ?_) (fun c_481 => False.elim (c_481 rfl))
  exact kk w ⟨_, _, _, _, _, _, _, _, _, _, _, _, _, hX, hM, hG⟩
set_option maxRecDepth 100000 in
set_option maxHeartbeats 4000000 in
theorem lc_tide {E : ev_E} {i : Nat} (hi : i + 5 ≤ E.2.2.2.1) (hL : E.2.2.2.1 ≤ 320) {w : ev_W} (h : LW w) (kk : ∀ w', LW w' → Ev E mL 1504 [some (.ref 1010), some (.ref 0), some (.ref 70), some (.int (nI i))] [] 82 w' (82, 2968) qL) : Ev E mL 486 [some (.ref 1010), some (.ref 0), some (.ref 70), some (.int (nI i))] [] 82 w (82, 2968) qL := by
  obtain ⟨X, Tn, Ti, Tp, Sg, Sh, S, f, nh, nt, dd, tl, sz, hX, hM, hG⟩ := h
  refine st_aload_n (q := 487) dL_law_486 rfl rfl rfl ?_
  refine st_aload_n (q := 488) dL_law_487 rfl rfl rfl ?_
  refine st_iload_n (q := 489) dL_law_488 rfl rfl rfl ?_
  refine st_iconst (q := 490) dL_law_489 rfl ic_1 ?_
  refine st_iadd (q := 491) dL_law_490 rfl ?_
  refine st_ialoadX (q := 492) dL_law_491 rfl (List.mem_of_getElem? (i := 10) rfl) (by decide) (ix2 (a := i) (b := 1) (by omega) (by omega)) rfl ?_
  refine st_aload_n (q := 493) dL_law_492 rfl rfl rfl ?_
  refine st_iload_n (q := 494) dL_law_493 rfl rfl rfl ?_
  refine st_iconst (q := 495) dL_law_494 rfl ic_2 ?_
  refine st_iadd (q := 496) dL_law_495 rfl ?_
  refine st_ialoadX (q := 497) dL_law_496 rfl (List.mem_of_getElem? (i := 10) rfl) (by decide) (ix2 (a := i) (b := 2) (by omega) (by omega)) rfl ?_
  refine sm_V2 (q := 500) (M' := mX6_tide) dL_law_497 rfl ok_X6_tide mk_X6_tide ml_L_57 ⟨Nat.le_of_ble_eq_true rfl, Nat.le_of_ble_eq_true rfl⟩ rfl (Nat.le_of_ble_eq_true rfl) (g_rv hX.x rfl) ⟨rfl, rfl⟩ (c_X6_tide hX) ?_
  intro _ n w h9 _
  obtain ⟨rfl, rfl, hX, hF_⟩ := h9
  replace hM := GR.fr gkX7 hM (fun k h1 h2 => hF_ k (by omega))
  refine st_aload_n (q := 501) dL_law_500 rfl rfl rfl ?_
  refine st_aload_n (q := 502) dL_law_501 rfl rfl rfl ?_
  refine st_iload_n (q := 503) dL_law_502 rfl rfl rfl ?_
  refine st_iconst (q := 504) dL_law_503 rfl ic_1 ?_
  refine st_iadd (q := 505) dL_law_504 rfl ?_
  refine st_ialoadX (q := 506) dL_law_505 rfl (List.mem_of_getElem? (i := 10) rfl) (by decide) (ix2 (a := i) (b := 1) (by omega) (by omega)) rfl ?_
  refine st_aload_n (q := 507) dL_law_506 rfl rfl rfl ?_
  refine st_iload_n (q := 508) dL_law_507 rfl rfl rfl ?_
  refine st_iconst (q := 509) dL_law_508 rfl ic_2 ?_
  refine st_iadd (q := 510) dL_law_509 rfl ?_
  refine st_ialoadX (q := 511) dL_law_510 rfl (List.mem_of_getElem? (i := 10) rfl) (by decide) (ix2 (a := i) (b := 2) (by omega) (by omega)) rfl ?_
  refine sm_V2 (q := 514) (M' := mX7_tide) dL_law_511 rfl ok_X7_tide mk_X7_tide ml_L_60 ⟨Nat.le_of_ble_eq_true rfl, Nat.le_of_ble_eq_true rfl⟩ rfl (Nat.le_of_ble_eq_true rfl) (g_rv hM rfl) ⟨rfl, rfl⟩ (c_X7_tide Fr.rf hM hG.q.1 hG.q.2.1 hG.q.2.2.1) ?_
  intro _ n w h9 _
  obtain ⟨rfl, rfl, hM, hF_⟩ := h9
  replace hX := hX.keep (fun k hk => hF_ k (by omega))
  replace hG := hG.tide (E.2.2.2.2 (i + 1)) (E.2.2.2.2 (i + 2))
  refine st_icmp_eq (q := 517) (tgt := 1504) dL_law_514 rfl rfl (fun c_514 => ?_) (fun c_514 => False.elim (c_514 rfl))
  exact kk w ⟨_, _, _, _, _, _, _, _, _, _, _, _, _, hX, hM, hG⟩
set_option maxRecDepth 100000 in
set_option maxHeartbeats 4000000 in
theorem lc_blow {E : ev_E} {i : Nat} (hi : i + 5 ≤ E.2.2.2.1) (hL : E.2.2.2.1 ≤ 320) {w : ev_W} (h : LW w) (kk : ∀ w', LW w' → Ev E mL 1504 [some (.ref 1010), some (.ref 0), some (.ref 70), some (.int (nI i))] [] 82 w' (82, 2968) qL) : Ev E mL 519 [some (.ref 1010), some (.ref 0), some (.ref 70), some (.int (nI i))] [] 82 w (82, 2968) qL := by
  obtain ⟨X, Tn, Ti, Tp, Sg, Sh, S, f, nh, nt, dd, tl, sz, hX, hM, hG⟩ := h
  refine st_aload_n (q := 520) dL_law_519 rfl rfl rfl ?_
  refine st_aload_n (q := 521) dL_law_520 rfl rfl rfl ?_
  refine st_iload_n (q := 522) dL_law_521 rfl rfl rfl ?_
  refine st_iconst (q := 523) dL_law_522 rfl ic_1 ?_
  refine st_iadd (q := 524) dL_law_523 rfl ?_
  refine st_ialoadX (q := 525) dL_law_524 rfl (List.mem_of_getElem? (i := 10) rfl) (by decide) (ix2 (a := i) (b := 1) (by omega) (by omega)) rfl ?_
  refine sm_V1 (q := 528) (M' := mX6_blow) dL_law_525 rfl ok_X6_blow mk_X6_blow ml_L_61 ⟨Nat.le_of_ble_eq_true rfl, Nat.le_of_ble_eq_true rfl⟩ rfl (Nat.le_of_ble_eq_true rfl) (g_rv hX.x rfl) ⟨rfl, rfl⟩ (c_X6_blow hX) ?_
  intro _ n w h9 _
  obtain ⟨rfl, rfl, hX, hF_⟩ := h9
  replace hM := GR.fr gkX7 hM (fun k h1 h2 => hF_ k (by omega))
  refine st_aload_n (q := 529) dL_law_528 rfl rfl rfl ?_
  refine st_aload_n (q := 530) dL_law_529 rfl rfl rfl ?_
  refine st_iload_n (q := 531) dL_law_530 rfl rfl rfl ?_
  refine st_iconst (q := 532) dL_law_531 rfl ic_1 ?_
  refine st_iadd (q := 533) dL_law_532 rfl ?_
  refine st_ialoadX (q := 534) dL_law_533 rfl (List.mem_of_getElem? (i := 10) rfl) (by decide) (ix2 (a := i) (b := 1) (by omega) (by omega)) rfl ?_
  refine sm_V1 (q := 537) (M' := mX7_blow) dL_law_534 rfl ok_X7_blow mk_X7_blow ml_L_64 ⟨Nat.le_of_ble_eq_true rfl, Nat.le_of_ble_eq_true rfl⟩ rfl (Nat.le_of_ble_eq_true rfl) (g_rv hM rfl) ⟨rfl, rfl⟩ (c_X7_blow Fr.rf hM hG.q.1 hG.q.2.1 hG.q.2.2.1) ?_
  intro _ n w h9 _
  obtain ⟨rfl, rfl, hM, hF_⟩ := h9
  replace hX := hX.keep (fun k hk => hF_ k (by omega))
  replace hG := hG.blow (E.2.2.2.2 (i + 1))
  refine st_icmp_eq (q := 540) (tgt := 1504) dL_law_537 rfl rfl (fun c_537 => ?_) (fun c_537 => False.elim (c_537 rfl))
  exact kk w ⟨_, _, _, _, _, _, _, _, _, _, _, _, _, hX, hM, hG⟩
set_option maxRecDepth 100000 in
set_option maxHeartbeats 4000000 in
theorem lc_stow {E : ev_E} {i : Nat} (hi : i + 5 ≤ E.2.2.2.1) (hL : E.2.2.2.1 ≤ 320) {w : ev_W} (h : LW w) (kk : ∀ w', LW w' → Ev E mL 1504 [some (.ref 1010), some (.ref 0), some (.ref 70), some (.int (nI i))] [] 82 w' (82, 2968) qL) : Ev E mL 542 [some (.ref 1010), some (.ref 0), some (.ref 70), some (.int (nI i))] [] 82 w (82, 2968) qL := by
  obtain ⟨X, Tn, Ti, Tp, Sg, Sh, S, f, nh, nt, dd, tl, sz, hX, hM, hG⟩ := h
  refine st_aload_n (q := 543) dL_law_542 rfl rfl rfl ?_
  refine st_aload_n (q := 544) dL_law_543 rfl rfl rfl ?_
  refine st_iload_n (q := 545) dL_law_544 rfl rfl rfl ?_
  refine st_iconst (q := 546) dL_law_545 rfl ic_1 ?_
  refine st_iadd (q := 547) dL_law_546 rfl ?_
  refine st_ialoadX (q := 548) dL_law_547 rfl (List.mem_of_getElem? (i := 10) rfl) (by decide) (ix2 (a := i) (b := 1) (by omega) (by omega)) rfl ?_
  refine sm_V1 (q := 551) (M' := mX6_stow) dL_law_548 rfl ok_X6_stow mk_X6_stow ml_L_65 ⟨Nat.le_of_ble_eq_true rfl, Nat.le_of_ble_eq_true rfl⟩ rfl (Nat.le_of_ble_eq_true rfl) (g_rv hX.x rfl) ⟨rfl, rfl⟩ (c_X6_stow hX hG.tk) ?_
  intro _ n w h9 _
  obtain ⟨rfl, rfl, hX, hF_⟩ := h9
  replace hM := GR.fr gkX7 hM (fun k h1 h2 => hF_ k (by omega))
  refine st_aload_n (q := 552) dL_law_551 rfl rfl rfl ?_
  refine st_aload_n (q := 553) dL_law_552 rfl rfl rfl ?_
  refine st_iload_n (q := 554) dL_law_553 rfl rfl rfl ?_
  refine st_iconst (q := 555) dL_law_554 rfl ic_1 ?_
  refine st_iadd (q := 556) dL_law_555 rfl ?_
  refine st_ialoadX (q := 557) dL_law_556 rfl (List.mem_of_getElem? (i := 10) rfl) (by decide) (ix2 (a := i) (b := 1) (by omega) (by omega)) rfl ?_
  refine sm_V1 (q := 560) (M' := mX7_stow) dL_law_557 rfl ok_X7_stow mk_X7_stow ml_L_68 ⟨Nat.le_of_ble_eq_true rfl, Nat.le_of_ble_eq_true rfl⟩ rfl (Nat.le_of_ble_eq_true rfl) (g_rv hM rfl) ⟨rfl, rfl⟩ (c_X7_stow Fr.rf hM hG.q) ?_
  intro _ n w h9 _
  obtain ⟨rfl, rfl, ⟨f1, d1, hM, hr1, hd1, ho1⟩, hF_⟩ := h9
  replace hX := hX.keep (fun k hk => hF_ k (by omega))
  replace hG := hG.cr hr1 hd1 ho1
  refine st_icmp_eq (q := 563) (tgt := 1504) dL_law_560 rfl rfl (fun c_560 => ?_) (fun c_560 => False.elim (c_560 rfl))
  exact kk w ⟨_, _, _, _, _, _, _, _, _, _, _, _, _, hX, hM, hG⟩
set_option maxRecDepth 100000 in
set_option maxHeartbeats 4000000 in
theorem lc_fetch {E : ev_E} {i : Nat} (hi : i + 5 ≤ E.2.2.2.1) (hL : E.2.2.2.1 ≤ 320) {w : ev_W} (h : LW w) (kk : ∀ w', LW w' → Ev E mL 1504 [some (.ref 1010), some (.ref 0), some (.ref 70), some (.int (nI i))] [] 82 w' (82, 2968) qL) : Ev E mL 565 [some (.ref 1010), some (.ref 0), some (.ref 70), some (.int (nI i))] [] 82 w (82, 2968) qL := by
  obtain ⟨X, Tn, Ti, Tp, Sg, Sh, S, f, nh, nt, dd, tl, sz, hX, hM, hG⟩ := h
  refine st_aload_n (q := 566) dL_law_565 rfl rfl rfl ?_
  refine st_aload_n (q := 567) dL_law_566 rfl rfl rfl ?_
  refine st_iload_n (q := 568) dL_law_567 rfl rfl rfl ?_
  refine st_iconst (q := 569) dL_law_568 rfl ic_1 ?_
  refine st_iadd (q := 570) dL_law_569 rfl ?_
  refine st_ialoadX (q := 571) dL_law_570 rfl (List.mem_of_getElem? (i := 10) rfl) (by decide) (ix2 (a := i) (b := 1) (by omega) (by omega)) rfl ?_
  refine sm_V1 (q := 574) (M' := mX6_fetch) dL_law_571 rfl ok_X6_fetch mk_X6_fetch ml_L_69 ⟨Nat.le_of_ble_eq_true rfl, Nat.le_of_ble_eq_true rfl⟩ rfl (Nat.le_of_ble_eq_true rfl) (g_rv hX.x rfl) ⟨rfl, rfl⟩ (c_X6_fetch hX hG.tk) ?_
  intro _ n w h9 _
  obtain ⟨rfl, rfl, hX, hF_⟩ := h9
  replace hM := GR.fr gkX7 hM (fun k h1 h2 => hF_ k (by omega))
  refine st_aload_n (q := 575) dL_law_574 rfl rfl rfl ?_
  refine st_aload_n (q := 576) dL_law_575 rfl rfl rfl ?_
  refine st_iload_n (q := 577) dL_law_576 rfl rfl rfl ?_
  refine st_iconst (q := 578) dL_law_577 rfl ic_1 ?_
  refine st_iadd (q := 579) dL_law_578 rfl ?_
  refine st_ialoadX (q := 580) dL_law_579 rfl (List.mem_of_getElem? (i := 10) rfl) (by decide) (ix2 (a := i) (b := 1) (by omega) (by omega)) rfl ?_
  refine sm_V1 (q := 583) (M' := mX7_fetch) dL_law_580 rfl ok_X7_fetch mk_X7_fetch ml_L_72 ⟨Nat.le_of_ble_eq_true rfl, Nat.le_of_ble_eq_true rfl⟩ rfl (Nat.le_of_ble_eq_true rfl) (g_rv hM rfl) ⟨rfl, rfl⟩ (c_X7_fetch Fr.rf hM hG.q) ?_
  intro _ n w h9 _
  obtain ⟨rfl, rfl, ⟨f1, d1, hM, hr1, hd1, ho1⟩, hF_⟩ := h9
  replace hX := hX.keep (fun k hk => hF_ k (by omega))
  replace hG := hG.cr hr1 hd1 ho1
  refine st_icmp_eq (q := 586) (tgt := 1504) dL_law_583 rfl rfl (fun c_583 => ?_) (fun c_583 => False.elim (c_583 rfl))
  exact kk w ⟨_, _, _, _, _, _, _, _, _, _, _, _, _, hX, hM, hG⟩
set_option maxRecDepth 100000 in
set_option maxHeartbeats 4000000 in
theorem lc_days {E : ev_E} {i : Nat} (hi : i + 5 ≤ E.2.2.2.1) (hL : E.2.2.2.1 ≤ 320) {w : ev_W} (h : LW w) (kk : ∀ w', LW w' → Ev E mL 1504 [some (.ref 1010), some (.ref 0), some (.ref 70), some (.int (nI i))] [] 82 w' (82, 2968) qL) : Ev E mL 588 [some (.ref 1010), some (.ref 0), some (.ref 70), some (.int (nI i))] [] 82 w (82, 2968) qL := by
  obtain ⟨X, Tn, Ti, Tp, Sg, Sh, S, f, nh, nt, dd, tl, sz, hX, hM, hG⟩ := h
  refine st_aload_n (q := 589) dL_law_588 rfl rfl rfl ?_
  refine st_aload_n (q := 590) dL_law_589 rfl rfl rfl ?_
  refine st_iload_n (q := 591) dL_law_590 rfl rfl rfl ?_
  refine st_iconst (q := 592) dL_law_591 rfl ic_1 ?_
  refine st_iadd (q := 593) dL_law_592 rfl ?_
  refine st_ialoadX (q := 594) dL_law_593 rfl (List.mem_of_getElem? (i := 10) rfl) (by decide) (ix2 (a := i) (b := 1) (by omega) (by omega)) rfl ?_
  refine sm_V1 (q := 597) (M' := mX6_days) dL_law_594 rfl ok_X6_days mk_X6_days ml_L_73 ⟨Nat.le_of_ble_eq_true rfl, Nat.le_of_ble_eq_true rfl⟩ rfl (Nat.le_of_ble_eq_true rfl) (g_rv hX.x rfl) ⟨rfl, rfl⟩ (c_X6_days hX hG.tk) ?_
  intro _ n w h9 _
  obtain ⟨rfl, rfl, hX, hF_⟩ := h9
  replace hM := GR.fr gkX7 hM (fun k h1 h2 => hF_ k (by omega))
  refine st_aload_n (q := 598) dL_law_597 rfl rfl rfl ?_
  refine st_aload_n (q := 599) dL_law_598 rfl rfl rfl ?_
  refine st_iload_n (q := 600) dL_law_599 rfl rfl rfl ?_
  refine st_iconst (q := 601) dL_law_600 rfl ic_1 ?_
  refine st_iadd (q := 602) dL_law_601 rfl ?_
  refine st_ialoadX (q := 603) dL_law_602 rfl (List.mem_of_getElem? (i := 10) rfl) (by decide) (ix2 (a := i) (b := 1) (by omega) (by omega)) rfl ?_
  refine sm_V1 (q := 606) (M' := mX7_days) dL_law_603 rfl ok_X7_days mk_X7_days ml_L_76 ⟨Nat.le_of_ble_eq_true rfl, Nat.le_of_ble_eq_true rfl⟩ rfl (Nat.le_of_ble_eq_true rfl) (g_rv hM rfl) ⟨rfl, rfl⟩ (c_X7_days Fr.rf hM hG.q) ?_
  intro _ n w h9 _
  obtain ⟨rfl, rfl, ⟨f1, d1, hM, hr1, hd1, ho1⟩, hF_⟩ := h9
  replace hX := hX.keep (fun k hk => hF_ k (by omega))
  replace hG := hG.cr hr1 hd1 ho1
  refine st_icmp_eq (q := 609) (tgt := 1504) dL_law_606 rfl rfl (fun c_606 => ?_) (fun c_606 => False.elim (c_606 rfl))
  exact kk w ⟨_, _, _, _, _, _, _, _, _, _, _, _, _, hX, hM, hG⟩
set_option maxRecDepth 100000 in
set_option maxHeartbeats 4000000 in
theorem lc_runs {E : ev_E} {i : Nat} (hi : i + 5 ≤ E.2.2.2.1) (hL : E.2.2.2.1 ≤ 320) {w : ev_W} (h : LW w) (kk : ∀ w', LW w' → Ev E mL 1504 [some (.ref 1010), some (.ref 0), some (.ref 70), some (.int (nI i))] [] 82 w' (82, 2968) qL) : Ev E mL 611 [some (.ref 1010), some (.ref 0), some (.ref 70), some (.int (nI i))] [] 82 w (82, 2968) qL := by
  obtain ⟨X, Tn, Ti, Tp, Sg, Sh, S, f, nh, nt, dd, tl, sz, hX, hM, hG⟩ := h
  refine st_aload_n (q := 612) dL_law_611 rfl rfl rfl ?_
  refine st_aload_n (q := 613) dL_law_612 rfl rfl rfl ?_
  refine st_iload_n (q := 614) dL_law_613 rfl rfl rfl ?_
  refine st_iconst (q := 615) dL_law_614 rfl ic_1 ?_
  refine st_iadd (q := 616) dL_law_615 rfl ?_
  refine st_ialoadX (q := 617) dL_law_616 rfl (List.mem_of_getElem? (i := 10) rfl) (by decide) (ix2 (a := i) (b := 1) (by omega) (by omega)) rfl ?_
  refine st_aload_n (q := 618) dL_law_617 rfl rfl rfl ?_
  refine st_iload_n (q := 619) dL_law_618 rfl rfl rfl ?_
  refine st_iconst (q := 620) dL_law_619 rfl ic_2 ?_
  refine st_iadd (q := 621) dL_law_620 rfl ?_
  refine st_ialoadX (q := 622) dL_law_621 rfl (List.mem_of_getElem? (i := 10) rfl) (by decide) (ix2 (a := i) (b := 2) (by omega) (by omega)) rfl ?_
  refine sm_V2 (q := 625) (M' := mX6_runs) dL_law_622 rfl ok_X6_runs mk_X6_runs ml_L_77 ⟨Nat.le_of_ble_eq_true rfl, Nat.le_of_ble_eq_true rfl⟩ rfl (Nat.le_of_ble_eq_true rfl) (g_rv hX.x rfl) ⟨rfl, rfl⟩ (c_X6_runs Fr.rf hX hG.tk) ?_
  intro _ n w h9 _
  obtain ⟨rfl, rfl, hX, hF_⟩ := h9
  replace hM := GR.fr gkX7 hM (fun k h1 h2 => hF_ k (by omega))
  refine st_aload_n (q := 626) dL_law_625 rfl rfl rfl ?_
  refine st_aload_n (q := 627) dL_law_626 rfl rfl rfl ?_
  refine st_iload_n (q := 628) dL_law_627 rfl rfl rfl ?_
  refine st_iconst (q := 629) dL_law_628 rfl ic_1 ?_
  refine st_iadd (q := 630) dL_law_629 rfl ?_
  refine st_ialoadX (q := 631) dL_law_630 rfl (List.mem_of_getElem? (i := 10) rfl) (by decide) (ix2 (a := i) (b := 1) (by omega) (by omega)) rfl ?_
  refine st_aload_n (q := 632) dL_law_631 rfl rfl rfl ?_
  refine st_iload_n (q := 633) dL_law_632 rfl rfl rfl ?_
  refine st_iconst (q := 634) dL_law_633 rfl ic_2 ?_
  refine st_iadd (q := 635) dL_law_634 rfl ?_
  refine st_ialoadX (q := 636) dL_law_635 rfl (List.mem_of_getElem? (i := 10) rfl) (by decide) (ix2 (a := i) (b := 2) (by omega) (by omega)) rfl ?_
  refine sm_V2 (q := 639) (M' := mX7_runs) dL_law_636 rfl ok_X7_runs mk_X7_runs ml_L_80 ⟨Nat.le_of_ble_eq_true rfl, Nat.le_of_ble_eq_true rfl⟩ rfl (Nat.le_of_ble_eq_true rfl) (g_rv hM rfl) ⟨rfl, rfl⟩ (c_X7_runs Fr.rf hM QA.rf hG.q) ?_
  intro _ n w h9 _
  obtain ⟨rfl, rfl, ⟨S, f, hM, hA⟩, hF_⟩ := h9
  replace hX := hX.keep (fun k hk => hF_ k (by omega))
  replace hG := hG.qa hA
  refine st_icmp_eq (q := 642) (tgt := 1504) dL_law_639 rfl rfl (fun c_639 => ?_) (fun c_639 => False.elim (c_639 rfl))
  exact kk w ⟨_, _, _, _, _, _, _, _, _, _, _, _, _, hX, hM, hG⟩
set_option maxRecDepth 100000 in
set_option maxHeartbeats 4000000 in
theorem lc_ahead {E : ev_E} {i : Nat} (hi : i + 5 ≤ E.2.2.2.1) (hL : E.2.2.2.1 ≤ 320) {w : ev_W} (h : LW w) (kk : ∀ w', LW w' → Ev E mL 1504 [some (.ref 1010), some (.ref 0), some (.ref 70), some (.int (nI i))] [] 82 w' (82, 2968) qL) : Ev E mL 644 [some (.ref 1010), some (.ref 0), some (.ref 70), some (.int (nI i))] [] 82 w (82, 2968) qL := by
  obtain ⟨X, Tn, Ti, Tp, Sg, Sh, S, f, nh, nt, dd, tl, sz, hX, hM, hG⟩ := h
  refine st_aload_n (q := 645) dL_law_644 rfl rfl rfl ?_
  refine st_aload_n (q := 646) dL_law_645 rfl rfl rfl ?_
  refine st_iload_n (q := 647) dL_law_646 rfl rfl rfl ?_
  refine st_iconst (q := 648) dL_law_647 rfl ic_1 ?_
  refine st_iadd (q := 649) dL_law_648 rfl ?_
  refine st_ialoadX (q := 650) dL_law_649 rfl (List.mem_of_getElem? (i := 10) rfl) (by decide) (ix2 (a := i) (b := 1) (by omega) (by omega)) rfl ?_
  refine st_aload_n (q := 651) dL_law_650 rfl rfl rfl ?_
  refine st_iload_n (q := 652) dL_law_651 rfl rfl rfl ?_
  refine st_iconst (q := 653) dL_law_652 rfl ic_2 ?_
  refine st_iadd (q := 654) dL_law_653 rfl ?_
  refine st_ialoadX (q := 655) dL_law_654 rfl (List.mem_of_getElem? (i := 10) rfl) (by decide) (ix2 (a := i) (b := 2) (by omega) (by omega)) rfl ?_
  refine st_aload_n (q := 656) dL_law_655 rfl rfl rfl ?_
  refine st_iload_n (q := 657) dL_law_656 rfl rfl rfl ?_
  refine st_iconst (q := 658) dL_law_657 rfl ic_3 ?_
  refine st_iadd (q := 659) dL_law_658 rfl ?_
  refine st_ialoadX (q := 660) dL_law_659 rfl (List.mem_of_getElem? (i := 10) rfl) (by decide) (ix2 (a := i) (b := 3) (by omega) (by omega)) rfl ?_
  refine sm_V3 (q := 663) (M' := mX6_ahead) dL_law_660 rfl ok_X6_ahead mk_X6_ahead ml_L_81 ⟨Nat.le_of_ble_eq_true rfl, Nat.le_of_ble_eq_true rfl⟩ rfl (Nat.le_of_ble_eq_true rfl) (g_rv hX.x rfl) ⟨rfl, rfl⟩ (c_X6_ahead Fr.rf hX hG.tk) ?_
  intro _ n w h9 _
  obtain ⟨rfl, rfl, hX, hF_⟩ := h9
  replace hM := GR.fr gkX7 hM (fun k h1 h2 => hF_ k (by omega))
  refine st_aload_n (q := 664) dL_law_663 rfl rfl rfl ?_
  refine st_aload_n (q := 665) dL_law_664 rfl rfl rfl ?_
  refine st_iload_n (q := 666) dL_law_665 rfl rfl rfl ?_
  refine st_iconst (q := 667) dL_law_666 rfl ic_1 ?_
  refine st_iadd (q := 668) dL_law_667 rfl ?_
  refine st_ialoadX (q := 669) dL_law_668 rfl (List.mem_of_getElem? (i := 10) rfl) (by decide) (ix2 (a := i) (b := 1) (by omega) (by omega)) rfl ?_
  refine st_aload_n (q := 670) dL_law_669 rfl rfl rfl ?_
  refine st_iload_n (q := 671) dL_law_670 rfl rfl rfl ?_
  refine st_iconst (q := 672) dL_law_671 rfl ic_2 ?_
  refine st_iadd (q := 673) dL_law_672 rfl ?_
  refine st_ialoadX (q := 674) dL_law_673 rfl (List.mem_of_getElem? (i := 10) rfl) (by decide) (ix2 (a := i) (b := 2) (by omega) (by omega)) rfl ?_
  refine st_aload_n (q := 675) dL_law_674 rfl rfl rfl ?_
  refine st_iload_n (q := 676) dL_law_675 rfl rfl rfl ?_
  refine st_iconst (q := 677) dL_law_676 rfl ic_3 ?_
  refine st_iadd (q := 678) dL_law_677 rfl ?_
  refine st_ialoadX (q := 679) dL_law_678 rfl (List.mem_of_getElem? (i := 10) rfl) (by decide) (ix2 (a := i) (b := 3) (by omega) (by omega)) rfl ?_
  refine sm_V3 (q := 682) (M' := mX7_ahead) dL_law_679 rfl ok_X7_ahead mk_X7_ahead ml_L_84 ⟨Nat.le_of_ble_eq_true rfl, Nat.le_of_ble_eq_true rfl⟩ rfl (Nat.le_of_ble_eq_true rfl) (g_rv hM rfl) ⟨rfl, rfl⟩ (c_X7_ahead Fr.rf hM QA.rf hG.q) ?_
  intro _ n w h9 _
  obtain ⟨rfl, rfl, ⟨S, f, hM, hA⟩, hF_⟩ := h9
  replace hX := hX.keep (fun k hk => hF_ k (by omega))
  replace hG := hG.qa hA
  refine st_icmp_eq (q := 685) (tgt := 1504) dL_law_682 rfl rfl (fun c_682 => ?_) (fun c_682 => False.elim (c_682 rfl))
  exact kk w ⟨_, _, _, _, _, _, _, _, _, _, _, _, _, hX, hM, hG⟩
set_option maxRecDepth 100000 in
set_option maxHeartbeats 4000000 in
theorem lc_lost {E : ev_E} {i : Nat} (hi : i + 5 ≤ E.2.2.2.1) (hL : E.2.2.2.1 ≤ 320) {w : ev_W} (h : LW w) (kk : ∀ w', LW w' → Ev E mL 1504 [some (.ref 1010), some (.ref 0), some (.ref 70), some (.int (nI i))] [] 82 w' (82, 2968) qL) : Ev E mL 687 [some (.ref 1010), some (.ref 0), some (.ref 70), some (.int (nI i))] [] 82 w (82, 2968) qL := by
  obtain ⟨X, Tn, Ti, Tp, Sg, Sh, S, f, nh, nt, dd, tl, sz, hX, hM, hG⟩ := h
  refine st_aload_n (q := 688) dL_law_687 rfl rfl rfl ?_
  refine st_aload_n (q := 689) dL_law_688 rfl rfl rfl ?_
  refine st_iload_n (q := 690) dL_law_689 rfl rfl rfl ?_
  refine st_iconst (q := 691) dL_law_690 rfl ic_1 ?_
  refine st_iadd (q := 692) dL_law_691 rfl ?_
  refine st_ialoadX (q := 693) dL_law_692 rfl (List.mem_of_getElem? (i := 10) rfl) (by decide) (ix2 (a := i) (b := 1) (by omega) (by omega)) rfl ?_
  refine sm_V1 (q := 696) (M' := mX6_lost) dL_law_693 rfl ok_X6_lost mk_X6_lost ml_L_85 ⟨Nat.le_of_ble_eq_true rfl, Nat.le_of_ble_eq_true rfl⟩ rfl (Nat.le_of_ble_eq_true rfl) (g_rv hX.x rfl) ⟨rfl, rfl⟩ (c_X6_lost Fr.rf hX hG.tk) ?_
  intro _ n w h9 _
  obtain ⟨rfl, rfl, hX, hF_⟩ := h9
  replace hM := GR.fr gkX7 hM (fun k h1 h2 => hF_ k (by omega))
  refine st_aload_n (q := 697) dL_law_696 rfl rfl rfl ?_
  refine st_aload_n (q := 698) dL_law_697 rfl rfl rfl ?_
  refine st_iload_n (q := 699) dL_law_698 rfl rfl rfl ?_
  refine st_iconst (q := 700) dL_law_699 rfl ic_1 ?_
  refine st_iadd (q := 701) dL_law_700 rfl ?_
  refine st_ialoadX (q := 702) dL_law_701 rfl (List.mem_of_getElem? (i := 10) rfl) (by decide) (ix2 (a := i) (b := 1) (by omega) (by omega)) rfl ?_
  refine sm_V1 (q := 705) (M' := mX7_lost) dL_law_702 rfl ok_X7_lost mk_X7_lost ml_L_88 ⟨Nat.le_of_ble_eq_true rfl, Nat.le_of_ble_eq_true rfl⟩ rfl (Nat.le_of_ble_eq_true rfl) (g_rv hM rfl) ⟨rfl, rfl⟩ (c_X7_lost Fr.rf hM QA.rf hG.q) ?_
  intro _ n w h9 _
  obtain ⟨rfl, rfl, ⟨S, f, hM, hA⟩, hF_⟩ := h9
  replace hX := hX.keep (fun k hk => hF_ k (by omega))
  replace hG := hG.qa hA
  refine st_icmp_eq (q := 708) (tgt := 1504) dL_law_705 rfl rfl (fun c_705 => ?_) (fun c_705 => False.elim (c_705 rfl))
  exact kk w ⟨_, _, _, _, _, _, _, _, _, _, _, _, _, hX, hM, hG⟩
set_option maxRecDepth 100000 in
set_option maxHeartbeats 4000000 in
theorem lc_meet {E : ev_E} {i : Nat} (hi : i + 5 ≤ E.2.2.2.1) (hL : E.2.2.2.1 ≤ 320) {w : ev_W} (h : LW w) (kk : ∀ w', LW w' → Ev E mL 1504 [some (.ref 1010), some (.ref 0), some (.ref 70), some (.int (nI i))] [] 82 w' (82, 2968) qL) : Ev E mL 710 [some (.ref 1010), some (.ref 0), some (.ref 70), some (.int (nI i))] [] 82 w (82, 2968) qL := by
  obtain ⟨X, Tn, Ti, Tp, Sg, Sh, S, f, nh, nt, dd, tl, sz, hX, hM, hG⟩ := h
  refine st_aload_n (q := 711) dL_law_710 rfl rfl rfl ?_
  refine st_aload_n (q := 712) dL_law_711 rfl rfl rfl ?_
  refine st_iload_n (q := 713) dL_law_712 rfl rfl rfl ?_
  refine st_iconst (q := 714) dL_law_713 rfl ic_1 ?_
  refine st_iadd (q := 715) dL_law_714 rfl ?_
  refine st_ialoadX (q := 716) dL_law_715 rfl (List.mem_of_getElem? (i := 10) rfl) (by decide) (ix2 (a := i) (b := 1) (by omega) (by omega)) rfl ?_
  refine st_aload_n (q := 717) dL_law_716 rfl rfl rfl ?_
  refine st_iload_n (q := 718) dL_law_717 rfl rfl rfl ?_
  refine st_iconst (q := 719) dL_law_718 rfl ic_2 ?_
  refine st_iadd (q := 720) dL_law_719 rfl ?_
  refine st_ialoadX (q := 721) dL_law_720 rfl (List.mem_of_getElem? (i := 10) rfl) (by decide) (ix2 (a := i) (b := 2) (by omega) (by omega)) rfl ?_
  refine sm_V2 (q := 724) (M' := mX6_meet) dL_law_721 rfl ok_X6_meet mk_X6_meet ml_L_89 ⟨Nat.le_of_ble_eq_true rfl, Nat.le_of_ble_eq_true rfl⟩ rfl (Nat.le_of_ble_eq_true rfl) (g_rv hX.x rfl) ⟨rfl, rfl⟩ (c_X6_meet Fr.rf hX hG.tk) ?_
  intro _ n w h9 _
  obtain ⟨rfl, rfl, hX, hF_⟩ := h9
  replace hM := GR.fr gkX7 hM (fun k h1 h2 => hF_ k (by omega))
  refine st_aload_n (q := 725) dL_law_724 rfl rfl rfl ?_
  refine st_aload_n (q := 726) dL_law_725 rfl rfl rfl ?_
  refine st_iload_n (q := 727) dL_law_726 rfl rfl rfl ?_
  refine st_iconst (q := 728) dL_law_727 rfl ic_1 ?_
  refine st_iadd (q := 729) dL_law_728 rfl ?_
  refine st_ialoadX (q := 730) dL_law_729 rfl (List.mem_of_getElem? (i := 10) rfl) (by decide) (ix2 (a := i) (b := 1) (by omega) (by omega)) rfl ?_
  refine st_aload_n (q := 731) dL_law_730 rfl rfl rfl ?_
  refine st_iload_n (q := 732) dL_law_731 rfl rfl rfl ?_
  refine st_iconst (q := 733) dL_law_732 rfl ic_2 ?_
  refine st_iadd (q := 734) dL_law_733 rfl ?_
  refine st_ialoadX (q := 735) dL_law_734 rfl (List.mem_of_getElem? (i := 10) rfl) (by decide) (ix2 (a := i) (b := 2) (by omega) (by omega)) rfl ?_
  refine sm_V2 (q := 738) (M' := mX7_meet) dL_law_735 rfl ok_X7_meet mk_X7_meet ml_L_92 ⟨Nat.le_of_ble_eq_true rfl, Nat.le_of_ble_eq_true rfl⟩ rfl (Nat.le_of_ble_eq_true rfl) (g_rv hM rfl) ⟨rfl, rfl⟩ (c_X7_meet Fr.rf hM QA.rf hG.q) ?_
  intro _ n w h9 _
  obtain ⟨rfl, rfl, ⟨S, f, hM, hA⟩, hF_⟩ := h9
  replace hX := hX.keep (fun k hk => hF_ k (by omega))
  replace hG := hG.qa hA
  refine st_icmp_eq (q := 741) (tgt := 1504) dL_law_738 rfl rfl (fun c_738 => ?_) (fun c_738 => False.elim (c_738 rfl))
  exact kk w ⟨_, _, _, _, _, _, _, _, _, _, _, _, _, hX, hM, hG⟩
set_option maxRecDepth 100000 in
set_option maxHeartbeats 4000000 in
theorem lc_pack {E : ev_E} {i : Nat} (hi : i + 5 ≤ E.2.2.2.1) (hL : E.2.2.2.1 ≤ 320) {w : ev_W} (h : LW w) (kk : ∀ w', LW w' → Ev E mL 1504 [some (.ref 1010), some (.ref 0), some (.ref 70), some (.int (nI i))] [] 82 w' (82, 2968) qL) : Ev E mL 743 [some (.ref 1010), some (.ref 0), some (.ref 70), some (.int (nI i))] [] 82 w (82, 2968) qL := by
  obtain ⟨X, Tn, Ti, Tp, Sg, Sh, S, f, nh, nt, dd, tl, sz, hX, hM, hG⟩ := h
  refine st_aload_n (q := 744) dL_law_743 rfl rfl rfl ?_
  refine st_aload_n (q := 745) dL_law_744 rfl rfl rfl ?_
  refine st_iload_n (q := 746) dL_law_745 rfl rfl rfl ?_
  refine st_iconst (q := 747) dL_law_746 rfl ic_1 ?_
  refine st_iadd (q := 748) dL_law_747 rfl ?_
  refine st_ialoadX (q := 749) dL_law_748 rfl (List.mem_of_getElem? (i := 10) rfl) (by decide) (ix2 (a := i) (b := 1) (by omega) (by omega)) rfl ?_
  refine st_aload_n (q := 750) dL_law_749 rfl rfl rfl ?_
  refine st_iload_n (q := 751) dL_law_750 rfl rfl rfl ?_
  refine st_iconst (q := 752) dL_law_751 rfl ic_2 ?_
  refine st_iadd (q := 753) dL_law_752 rfl ?_
  refine st_ialoadX (q := 754) dL_law_753 rfl (List.mem_of_getElem? (i := 10) rfl) (by decide) (ix2 (a := i) (b := 2) (by omega) (by omega)) rfl ?_
  refine sm_V2 (q := 757) (M' := mX6_pack) dL_law_754 rfl ok_X6_pack mk_X6_pack ml_L_93 ⟨Nat.le_of_ble_eq_true rfl, Nat.le_of_ble_eq_true rfl⟩ rfl (Nat.le_of_ble_eq_true rfl) (g_rv hX.x rfl) ⟨rfl, rfl⟩ (c_X6_pack Fr.rf hX hG.tk) ?_
  intro _ n w h9 _
  obtain ⟨rfl, rfl, hX, hF_⟩ := h9
  replace hM := GR.fr gkX7 hM (fun k h1 h2 => hF_ k (by omega))
  refine st_aload_n (q := 758) dL_law_757 rfl rfl rfl ?_
  refine st_aload_n (q := 759) dL_law_758 rfl rfl rfl ?_
  refine st_iload_n (q := 760) dL_law_759 rfl rfl rfl ?_
  refine st_iconst (q := 761) dL_law_760 rfl ic_1 ?_
  refine st_iadd (q := 762) dL_law_761 rfl ?_
  refine st_ialoadX (q := 763) dL_law_762 rfl (List.mem_of_getElem? (i := 10) rfl) (by decide) (ix2 (a := i) (b := 1) (by omega) (by omega)) rfl ?_
  refine st_aload_n (q := 764) dL_law_763 rfl rfl rfl ?_
  refine st_iload_n (q := 765) dL_law_764 rfl rfl rfl ?_
  refine st_iconst (q := 766) dL_law_765 rfl ic_2 ?_
  refine st_iadd (q := 767) dL_law_766 rfl ?_
  refine st_ialoadX (q := 768) dL_law_767 rfl (List.mem_of_getElem? (i := 10) rfl) (by decide) (ix2 (a := i) (b := 2) (by omega) (by omega)) rfl ?_
  refine sm_V2 (q := 771) (M' := mX7_pack) dL_law_768 rfl ok_X7_pack mk_X7_pack ml_L_96 ⟨Nat.le_of_ble_eq_true rfl, Nat.le_of_ble_eq_true rfl⟩ rfl (Nat.le_of_ble_eq_true rfl) (g_rv hM rfl) ⟨rfl, rfl⟩ (c_X7_pack Fr.rf hM QA.rf hG.q) ?_
  intro _ n w h9 _
  obtain ⟨rfl, rfl, ⟨S, f, hM, hA⟩, hF_⟩ := h9
  replace hX := hX.keep (fun k hk => hF_ k (by omega))
  replace hG := hG.qa hA
  refine st_icmp_eq (q := 774) (tgt := 1504) dL_law_771 rfl rfl (fun c_771 => ?_) (fun c_771 => False.elim (c_771 rfl))
  exact kk w ⟨_, _, _, _, _, _, _, _, _, _, _, _, _, hX, hM, hG⟩
set_option maxRecDepth 100000 in
set_option maxHeartbeats 4000000 in
theorem lc_need {E : ev_E} {i : Nat} (hi : i + 5 ≤ E.2.2.2.1) (hL : E.2.2.2.1 ≤ 320) {w : ev_W} (h : LW w) (kk : ∀ w', LW w' → Ev E mL 1504 [some (.ref 1010), some (.ref 0), some (.ref 70), some (.int (nI i))] [] 82 w' (82, 2968) qL) : Ev E mL 776 [some (.ref 1010), some (.ref 0), some (.ref 70), some (.int (nI i))] [] 82 w (82, 2968) qL := by
  obtain ⟨X, Tn, Ti, Tp, Sg, Sh, S, f, nh, nt, dd, tl, sz, hX, hM, hG⟩ := h
  refine st_aload_n (q := 777) dL_law_776 rfl rfl rfl ?_
  refine st_aload_n (q := 778) dL_law_777 rfl rfl rfl ?_
  refine st_iload_n (q := 779) dL_law_778 rfl rfl rfl ?_
  refine st_iconst (q := 780) dL_law_779 rfl ic_1 ?_
  refine st_iadd (q := 781) dL_law_780 rfl ?_
  refine st_ialoadX (q := 782) dL_law_781 rfl (List.mem_of_getElem? (i := 10) rfl) (by decide) (ix2 (a := i) (b := 1) (by omega) (by omega)) rfl ?_
  refine st_aload_n (q := 783) dL_law_782 rfl rfl rfl ?_
  refine st_iload_n (q := 784) dL_law_783 rfl rfl rfl ?_
  refine st_iconst (q := 785) dL_law_784 rfl ic_2 ?_
  refine st_iadd (q := 786) dL_law_785 rfl ?_
  refine st_ialoadX (q := 787) dL_law_786 rfl (List.mem_of_getElem? (i := 10) rfl) (by decide) (ix2 (a := i) (b := 2) (by omega) (by omega)) rfl ?_
  refine sm_V2 (q := 790) (M' := mX6_need) dL_law_787 rfl ok_X6_need mk_X6_need ml_L_97 ⟨Nat.le_of_ble_eq_true rfl, Nat.le_of_ble_eq_true rfl⟩ rfl (Nat.le_of_ble_eq_true rfl) (g_rv hX.x rfl) ⟨rfl, rfl⟩ (c_X6_need Fr.rf hX hG.tk) ?_
  intro _ n w h9 _
  obtain ⟨rfl, rfl, hX, hF_⟩ := h9
  replace hM := GR.fr gkX7 hM (fun k h1 h2 => hF_ k (by omega))
  refine st_aload_n (q := 791) dL_law_790 rfl rfl rfl ?_
  refine st_aload_n (q := 792) dL_law_791 rfl rfl rfl ?_
  refine st_iload_n (q := 793) dL_law_792 rfl rfl rfl ?_
  refine st_iconst (q := 794) dL_law_793 rfl ic_1 ?_
  refine st_iadd (q := 795) dL_law_794 rfl ?_
  refine st_ialoadX (q := 796) dL_law_795 rfl (List.mem_of_getElem? (i := 10) rfl) (by decide) (ix2 (a := i) (b := 1) (by omega) (by omega)) rfl ?_
  refine st_aload_n (q := 797) dL_law_796 rfl rfl rfl ?_
  refine st_iload_n (q := 798) dL_law_797 rfl rfl rfl ?_
  refine st_iconst (q := 799) dL_law_798 rfl ic_2 ?_
  refine st_iadd (q := 800) dL_law_799 rfl ?_
  refine st_ialoadX (q := 801) dL_law_800 rfl (List.mem_of_getElem? (i := 10) rfl) (by decide) (ix2 (a := i) (b := 2) (by omega) (by omega)) rfl ?_
  refine sm_V2 (q := 804) (M' := mX7_need) dL_law_801 rfl ok_X7_need mk_X7_need ml_L_100 ⟨Nat.le_of_ble_eq_true rfl, Nat.le_of_ble_eq_true rfl⟩ rfl (Nat.le_of_ble_eq_true rfl) (g_rv hM rfl) ⟨rfl, rfl⟩ (c_X7_need Fr.rf hM QA.rf hG.q) ?_
  intro _ n w h9 _
  obtain ⟨rfl, rfl, ⟨S, f, hM, hA⟩, hF_⟩ := h9
  replace hX := hX.keep (fun k hk => hF_ k (by omega))
  replace hG := hG.qa hA
  refine st_icmp_eq (q := 807) (tgt := 1504) dL_law_804 rfl rfl (fun c_804 => ?_) (fun c_804 => False.elim (c_804 rfl))
  exact kk w ⟨_, _, _, _, _, _, _, _, _, _, _, _, _, hX, hM, hG⟩
set_option maxRecDepth 100000 in
set_option maxHeartbeats 4000000 in
theorem lc_high {E : ev_E} {i : Nat} (hi : i + 5 ≤ E.2.2.2.1) (hL : E.2.2.2.1 ≤ 320) {w : ev_W} (h : LW w) (kk : ∀ w', LW w' → Ev E mL 1504 [some (.ref 1010), some (.ref 0), some (.ref 70), some (.int (nI i))] [] 82 w' (82, 2968) qL) : Ev E mL 809 [some (.ref 1010), some (.ref 0), some (.ref 70), some (.int (nI i))] [] 82 w (82, 2968) qL := by
  obtain ⟨X, Tn, Ti, Tp, Sg, Sh, S, f, nh, nt, dd, tl, sz, hX, hM, hG⟩ := h
  refine st_aload_n (q := 810) dL_law_809 rfl rfl rfl ?_
  refine st_aload_n (q := 811) dL_law_810 rfl rfl rfl ?_
  refine st_iload_n (q := 812) dL_law_811 rfl rfl rfl ?_
  refine st_iconst (q := 813) dL_law_812 rfl ic_1 ?_
  refine st_iadd (q := 814) dL_law_813 rfl ?_
  refine st_ialoadX (q := 815) dL_law_814 rfl (List.mem_of_getElem? (i := 10) rfl) (by decide) (ix2 (a := i) (b := 1) (by omega) (by omega)) rfl ?_
  refine st_aload_n (q := 816) dL_law_815 rfl rfl rfl ?_
  refine st_iload_n (q := 817) dL_law_816 rfl rfl rfl ?_
  refine st_iconst (q := 818) dL_law_817 rfl ic_2 ?_
  refine st_iadd (q := 819) dL_law_818 rfl ?_
  refine st_ialoadX (q := 820) dL_law_819 rfl (List.mem_of_getElem? (i := 10) rfl) (by decide) (ix2 (a := i) (b := 2) (by omega) (by omega)) rfl ?_
  refine sm_V2 (q := 823) (M' := mX6_high) dL_law_820 rfl ok_X6_high mk_X6_high ml_L_101 ⟨Nat.le_of_ble_eq_true rfl, Nat.le_of_ble_eq_true rfl⟩ rfl (Nat.le_of_ble_eq_true rfl) (g_rv hX.x rfl) ⟨rfl, rfl⟩ (c_X6_high Fr.rf hX hG.tk) ?_
  intro _ n w h9 _
  obtain ⟨rfl, rfl, hX, hF_⟩ := h9
  replace hM := GR.fr gkX7 hM (fun k h1 h2 => hF_ k (by omega))
  refine st_aload_n (q := 824) dL_law_823 rfl rfl rfl ?_
  refine st_aload_n (q := 825) dL_law_824 rfl rfl rfl ?_
  refine st_iload_n (q := 826) dL_law_825 rfl rfl rfl ?_
  refine st_iconst (q := 827) dL_law_826 rfl ic_1 ?_
  refine st_iadd (q := 828) dL_law_827 rfl ?_
  refine st_ialoadX (q := 829) dL_law_828 rfl (List.mem_of_getElem? (i := 10) rfl) (by decide) (ix2 (a := i) (b := 1) (by omega) (by omega)) rfl ?_
  refine st_aload_n (q := 830) dL_law_829 rfl rfl rfl ?_
  refine st_iload_n (q := 831) dL_law_830 rfl rfl rfl ?_
  refine st_iconst (q := 832) dL_law_831 rfl ic_2 ?_
  refine st_iadd (q := 833) dL_law_832 rfl ?_
  refine st_ialoadX (q := 834) dL_law_833 rfl (List.mem_of_getElem? (i := 10) rfl) (by decide) (ix2 (a := i) (b := 2) (by omega) (by omega)) rfl ?_
  refine sm_V2 (q := 837) (M' := mX7_high) dL_law_834 rfl ok_X7_high mk_X7_high ml_L_104 ⟨Nat.le_of_ble_eq_true rfl, Nat.le_of_ble_eq_true rfl⟩ rfl (Nat.le_of_ble_eq_true rfl) (g_rv hM rfl) ⟨rfl, rfl⟩ (c_X7_high Fr.rf hM QA.rf hG.q) ?_
  intro _ n w h9 _
  obtain ⟨rfl, rfl, ⟨S, f, hM, hA⟩, hF_⟩ := h9
  replace hX := hX.keep (fun k hk => hF_ k (by omega))
  replace hG := hG.qa hA
  refine st_icmp_eq (q := 840) (tgt := 1504) dL_law_837 rfl rfl (fun c_837 => ?_) (fun c_837 => False.elim (c_837 rfl))
  exact kk w ⟨_, _, _, _, _, _, _, _, _, _, _, _, _, hX, hM, hG⟩
set_option maxRecDepth 100000 in
set_option maxHeartbeats 4000000 in
theorem lc_leak {E : ev_E} {i : Nat} (hi : i + 5 ≤ E.2.2.2.1) (hL : E.2.2.2.1 ≤ 320) {w : ev_W} (h : LW w) (kk : ∀ w', LW w' → Ev E mL 1504 [some (.ref 1010), some (.ref 0), some (.ref 70), some (.int (nI i))] [] 82 w' (82, 2968) qL) : Ev E mL 842 [some (.ref 1010), some (.ref 0), some (.ref 70), some (.int (nI i))] [] 82 w (82, 2968) qL := by
  obtain ⟨X, Tn, Ti, Tp, Sg, Sh, S, f, nh, nt, dd, tl, sz, hX, hM, hG⟩ := h
  refine st_aload_n (q := 843) dL_law_842 rfl rfl rfl ?_
  refine st_aload_n (q := 844) dL_law_843 rfl rfl rfl ?_
  refine st_iload_n (q := 845) dL_law_844 rfl rfl rfl ?_
  refine st_iconst (q := 846) dL_law_845 rfl ic_1 ?_
  refine st_iadd (q := 847) dL_law_846 rfl ?_
  refine st_ialoadX (q := 848) dL_law_847 rfl (List.mem_of_getElem? (i := 10) rfl) (by decide) (ix2 (a := i) (b := 1) (by omega) (by omega)) rfl ?_
  refine st_aload_n (q := 849) dL_law_848 rfl rfl rfl ?_
  refine st_iload_n (q := 850) dL_law_849 rfl rfl rfl ?_
  refine st_iconst (q := 851) dL_law_850 rfl ic_2 ?_
  refine st_iadd (q := 852) dL_law_851 rfl ?_
  refine st_ialoadX (q := 853) dL_law_852 rfl (List.mem_of_getElem? (i := 10) rfl) (by decide) (ix2 (a := i) (b := 2) (by omega) (by omega)) rfl ?_
  refine sm_V2 (q := 856) (M' := mX6_leak) dL_law_853 rfl ok_X6_leak mk_X6_leak ml_L_105 ⟨Nat.le_of_ble_eq_true rfl, Nat.le_of_ble_eq_true rfl⟩ rfl (Nat.le_of_ble_eq_true rfl) (g_rv hX.x rfl) ⟨rfl, rfl⟩ (c_X6_leak Fr.rf hX hG.tk hG.lk) ?_
  intro _ n w h9 _
  obtain ⟨rfl, rfl, hX, hF_⟩ := h9
  replace hM := GR.fr gkX7 hM (fun k h1 h2 => hF_ k (by omega))
  refine st_aload_n (q := 857) dL_law_856 rfl rfl rfl ?_
  refine st_aload_n (q := 858) dL_law_857 rfl rfl rfl ?_
  refine st_iload_n (q := 859) dL_law_858 rfl rfl rfl ?_
  refine st_iconst (q := 860) dL_law_859 rfl ic_1 ?_
  refine st_iadd (q := 861) dL_law_860 rfl ?_
  refine st_ialoadX (q := 862) dL_law_861 rfl (List.mem_of_getElem? (i := 10) rfl) (by decide) (ix2 (a := i) (b := 1) (by omega) (by omega)) rfl ?_
  refine st_aload_n (q := 863) dL_law_862 rfl rfl rfl ?_
  refine st_iload_n (q := 864) dL_law_863 rfl rfl rfl ?_
  refine st_iconst (q := 865) dL_law_864 rfl ic_2 ?_
  refine st_iadd (q := 866) dL_law_865 rfl ?_
  refine st_ialoadX (q := 867) dL_law_866 rfl (List.mem_of_getElem? (i := 10) rfl) (by decide) (ix2 (a := i) (b := 2) (by omega) (by omega)) rfl ?_
  refine sm_V2 (q := 870) (M' := mX7_leak) dL_law_867 rfl ok_X7_leak mk_X7_leak ml_L_108 ⟨Nat.le_of_ble_eq_true rfl, Nat.le_of_ble_eq_true rfl⟩ rfl (Nat.le_of_ble_eq_true rfl) (g_rv hM rfl) ⟨rfl, rfl⟩ (c_X7_leak Fr.rf hM QA.rf hG.q) ?_
  intro _ n w h9 _
  obtain ⟨rfl, rfl, ⟨S, f, hM, hA⟩, hF_⟩ := h9
  replace hX := hX.keep (fun k hk => hF_ k (by omega))
  replace hG := hG.qa hA
  refine st_icmp_eq (q := 873) (tgt := 1504) dL_law_870 rfl rfl (fun c_870 => ?_) (fun c_870 => False.elim (c_870 rfl))
  exact kk w ⟨_, _, _, _, _, _, _, _, _, _, _, _, _, hX, hM, hG⟩
set_option maxRecDepth 100000 in
set_option maxHeartbeats 4000000 in
theorem lc_swap {E : ev_E} {i : Nat} (hi : i + 5 ≤ E.2.2.2.1) (hL : E.2.2.2.1 ≤ 320) {w : ev_W} (h : LW w) (kk : ∀ w', LW w' → Ev E mL 1504 [some (.ref 1010), some (.ref 0), some (.ref 70), some (.int (nI i))] [] 82 w' (82, 2968) qL) : Ev E mL 875 [some (.ref 1010), some (.ref 0), some (.ref 70), some (.int (nI i))] [] 82 w (82, 2968) qL := by
  obtain ⟨X, Tn, Ti, Tp, Sg, Sh, S, f, nh, nt, dd, tl, sz, hX, hM, hG⟩ := h
  refine st_aload_n (q := 876) dL_law_875 rfl rfl rfl ?_
  refine st_aload_n (q := 877) dL_law_876 rfl rfl rfl ?_
  refine st_iload_n (q := 878) dL_law_877 rfl rfl rfl ?_
  refine st_iconst (q := 879) dL_law_878 rfl ic_1 ?_
  refine st_iadd (q := 880) dL_law_879 rfl ?_
  refine st_ialoadX (q := 881) dL_law_880 rfl (List.mem_of_getElem? (i := 10) rfl) (by decide) (ix2 (a := i) (b := 1) (by omega) (by omega)) rfl ?_
  refine st_aload_n (q := 882) dL_law_881 rfl rfl rfl ?_
  refine st_iload_n (q := 883) dL_law_882 rfl rfl rfl ?_
  refine st_iconst (q := 884) dL_law_883 rfl ic_2 ?_
  refine st_iadd (q := 885) dL_law_884 rfl ?_
  refine st_ialoadX (q := 886) dL_law_885 rfl (List.mem_of_getElem? (i := 10) rfl) (by decide) (ix2 (a := i) (b := 2) (by omega) (by omega)) rfl ?_
  refine sm_V2 (q := 889) (M' := mX6_swap) dL_law_886 rfl ok_X6_swap mk_X6_swap ml_L_109 ⟨Nat.le_of_ble_eq_true rfl, Nat.le_of_ble_eq_true rfl⟩ rfl (Nat.le_of_ble_eq_true rfl) (g_rv hX.x rfl) ⟨rfl, rfl⟩ (c_X6_swap Fr.rf hX hG.tk) ?_
  intro _ n w h9 _
  obtain ⟨rfl, rfl, hX, hF_⟩ := h9
  replace hM := GR.fr gkX7 hM (fun k h1 h2 => hF_ k (by omega))
  refine st_aload_n (q := 890) dL_law_889 rfl rfl rfl ?_
  refine st_aload_n (q := 891) dL_law_890 rfl rfl rfl ?_
  refine st_iload_n (q := 892) dL_law_891 rfl rfl rfl ?_
  refine st_iconst (q := 893) dL_law_892 rfl ic_1 ?_
  refine st_iadd (q := 894) dL_law_893 rfl ?_
  refine st_ialoadX (q := 895) dL_law_894 rfl (List.mem_of_getElem? (i := 10) rfl) (by decide) (ix2 (a := i) (b := 1) (by omega) (by omega)) rfl ?_
  refine st_aload_n (q := 896) dL_law_895 rfl rfl rfl ?_
  refine st_iload_n (q := 897) dL_law_896 rfl rfl rfl ?_
  refine st_iconst (q := 898) dL_law_897 rfl ic_2 ?_
  refine st_iadd (q := 899) dL_law_898 rfl ?_
  refine st_ialoadX (q := 900) dL_law_899 rfl (List.mem_of_getElem? (i := 10) rfl) (by decide) (ix2 (a := i) (b := 2) (by omega) (by omega)) rfl ?_
  refine sm_V2 (q := 903) (M' := mX7_swap) dL_law_900 rfl ok_X7_swap mk_X7_swap ml_L_112 ⟨Nat.le_of_ble_eq_true rfl, Nat.le_of_ble_eq_true rfl⟩ rfl (Nat.le_of_ble_eq_true rfl) (g_rv hM rfl) ⟨rfl, rfl⟩ (c_X7_swap Fr.rf hM QA.rf hG.q) ?_
  intro _ n w h9 _
  obtain ⟨rfl, rfl, ⟨S, f, hM, hA⟩, hF_⟩ := h9
  replace hX := hX.keep (fun k hk => hF_ k (by omega))
  replace hG := hG.qa hA
  refine st_icmp_eq (q := 906) (tgt := 1504) dL_law_903 rfl rfl (fun c_903 => ?_) (fun c_903 => False.elim (c_903 rfl))
  exact kk w ⟨_, _, _, _, _, _, _, _, _, _, _, _, _, hX, hM, hG⟩
set_option maxRecDepth 100000 in
set_option maxHeartbeats 4000000 in
theorem lc_save {E : ev_E} {i : Nat} (hi : i + 5 ≤ E.2.2.2.1) (hL : E.2.2.2.1 ≤ 320) {w : ev_W} (h : LW w) (kk : ∀ w', LW w' → Ev E mL 1504 [some (.ref 1010), some (.ref 0), some (.ref 70), some (.int (nI i))] [] 82 w' (82, 2968) qL) : Ev E mL 908 [some (.ref 1010), some (.ref 0), some (.ref 70), some (.int (nI i))] [] 82 w (82, 2968) qL := by
  obtain ⟨X, Tn, Ti, Tp, Sg, Sh, S, f, nh, nt, dd, tl, sz, hX, hM, hG⟩ := h
  refine st_aload_n (q := 909) dL_law_908 rfl rfl rfl ?_
  refine st_aload_n (q := 910) dL_law_909 rfl rfl rfl ?_
  refine st_iload_n (q := 911) dL_law_910 rfl rfl rfl ?_
  refine st_iconst (q := 912) dL_law_911 rfl ic_1 ?_
  refine st_iadd (q := 913) dL_law_912 rfl ?_
  refine st_ialoadX (q := 914) dL_law_913 rfl (List.mem_of_getElem? (i := 10) rfl) (by decide) (ix2 (a := i) (b := 1) (by omega) (by omega)) rfl ?_
  refine st_aload_n (q := 915) dL_law_914 rfl rfl rfl ?_
  refine st_iload_n (q := 916) dL_law_915 rfl rfl rfl ?_
  refine st_iconst (q := 917) dL_law_916 rfl ic_2 ?_
  refine st_iadd (q := 918) dL_law_917 rfl ?_
  refine st_ialoadX (q := 919) dL_law_918 rfl (List.mem_of_getElem? (i := 10) rfl) (by decide) (ix2 (a := i) (b := 2) (by omega) (by omega)) rfl ?_
  refine sm_V2 (q := 922) (M' := mX6_save) dL_law_919 rfl ok_X6_save mk_X6_save ml_L_113 ⟨Nat.le_of_ble_eq_true rfl, Nat.le_of_ble_eq_true rfl⟩ rfl (Nat.le_of_ble_eq_true rfl) (g_rv hX.x rfl) ⟨rfl, rfl⟩ (c_X6_save Fr.rf hX hG.tk) ?_
  intro _ n w h9 _
  obtain ⟨rfl, rfl, hX, hF_⟩ := h9
  replace hM := GR.fr gkX7 hM (fun k h1 h2 => hF_ k (by omega))
  refine st_aload_n (q := 923) dL_law_922 rfl rfl rfl ?_
  refine st_aload_n (q := 924) dL_law_923 rfl rfl rfl ?_
  refine st_iload_n (q := 925) dL_law_924 rfl rfl rfl ?_
  refine st_iconst (q := 926) dL_law_925 rfl ic_1 ?_
  refine st_iadd (q := 927) dL_law_926 rfl ?_
  refine st_ialoadX (q := 928) dL_law_927 rfl (List.mem_of_getElem? (i := 10) rfl) (by decide) (ix2 (a := i) (b := 1) (by omega) (by omega)) rfl ?_
  refine st_aload_n (q := 929) dL_law_928 rfl rfl rfl ?_
  refine st_iload_n (q := 930) dL_law_929 rfl rfl rfl ?_
  refine st_iconst (q := 931) dL_law_930 rfl ic_2 ?_
  refine st_iadd (q := 932) dL_law_931 rfl ?_
  refine st_ialoadX (q := 933) dL_law_932 rfl (List.mem_of_getElem? (i := 10) rfl) (by decide) (ix2 (a := i) (b := 2) (by omega) (by omega)) rfl ?_
  refine sm_V2 (q := 936) (M' := mX7_save) dL_law_933 rfl ok_X7_save mk_X7_save ml_L_116 ⟨Nat.le_of_ble_eq_true rfl, Nat.le_of_ble_eq_true rfl⟩ rfl (Nat.le_of_ble_eq_true rfl) (g_rv hM rfl) ⟨rfl, rfl⟩ (c_X7_save Fr.rf hM QA.rf hG.q) ?_
  intro _ n w h9 _
  obtain ⟨rfl, rfl, ⟨S, f, hM, hA⟩, hF_⟩ := h9
  replace hX := hX.keep (fun k hk => hF_ k (by omega))
  replace hG := hG.qa hA
  refine st_icmp_eq (q := 939) (tgt := 1504) dL_law_936 rfl rfl (fun c_936 => ?_) (fun c_936 => False.elim (c_936 rfl))
  exact kk w ⟨_, _, _, _, _, _, _, _, _, _, _, _, _, hX, hM, hG⟩
set_option maxRecDepth 100000 in
set_option maxHeartbeats 4000000 in
theorem lc_kind {E : ev_E} {i : Nat} (hi : i + 5 ≤ E.2.2.2.1) (hL : E.2.2.2.1 ≤ 320) {w : ev_W} (h : LW w) (kk : ∀ w', LW w' → Ev E mL 1504 [some (.ref 1010), some (.ref 0), some (.ref 70), some (.int (nI i))] [] 82 w' (82, 2968) qL) : Ev E mL 941 [some (.ref 1010), some (.ref 0), some (.ref 70), some (.int (nI i))] [] 82 w (82, 2968) qL := by
  obtain ⟨X, Tn, Ti, Tp, Sg, Sh, S, f, nh, nt, dd, tl, sz, hX, hM, hG⟩ := h
  refine st_aload_n (q := 942) dL_law_941 rfl rfl rfl ?_
  refine st_aload_n (q := 943) dL_law_942 rfl rfl rfl ?_
  refine st_iload_n (q := 944) dL_law_943 rfl rfl rfl ?_
  refine st_iconst (q := 945) dL_law_944 rfl ic_1 ?_
  refine st_iadd (q := 946) dL_law_945 rfl ?_
  refine st_ialoadX (q := 947) dL_law_946 rfl (List.mem_of_getElem? (i := 10) rfl) (by decide) (ix2 (a := i) (b := 1) (by omega) (by omega)) rfl ?_
  refine st_aload_n (q := 948) dL_law_947 rfl rfl rfl ?_
  refine st_iload_n (q := 949) dL_law_948 rfl rfl rfl ?_
  refine st_iconst (q := 950) dL_law_949 rfl ic_2 ?_
  refine st_iadd (q := 951) dL_law_950 rfl ?_
  refine st_ialoadX (q := 952) dL_law_951 rfl (List.mem_of_getElem? (i := 10) rfl) (by decide) (ix2 (a := i) (b := 2) (by omega) (by omega)) rfl ?_
  refine st_aload_n (q := 953) dL_law_952 rfl rfl rfl ?_
  refine st_iload_n (q := 954) dL_law_953 rfl rfl rfl ?_
  refine st_iconst (q := 955) dL_law_954 rfl ic_3 ?_
  refine st_iadd (q := 956) dL_law_955 rfl ?_
  refine st_ialoadX (q := 957) dL_law_956 rfl (List.mem_of_getElem? (i := 10) rfl) (by decide) (ix2 (a := i) (b := 3) (by omega) (by omega)) rfl ?_
  refine sm_V3 (q := 960) (M' := mX6_kind) dL_law_957 rfl ok_X6_kind mk_X6_kind ml_L_117 ⟨Nat.le_of_ble_eq_true rfl, Nat.le_of_ble_eq_true rfl⟩ rfl (Nat.le_of_ble_eq_true rfl) (g_rv hX.x rfl) ⟨rfl, rfl⟩ (c_X6_kind Fr.rf hX hG.tk) ?_
  intro _ n w h9 _
  obtain ⟨rfl, rfl, hX, hF_⟩ := h9
  replace hM := GR.fr gkX7 hM (fun k h1 h2 => hF_ k (by omega))
  refine st_aload_n (q := 961) dL_law_960 rfl rfl rfl ?_
  refine st_aload_n (q := 962) dL_law_961 rfl rfl rfl ?_
  refine st_iload_n (q := 963) dL_law_962 rfl rfl rfl ?_
  refine st_iconst (q := 964) dL_law_963 rfl ic_1 ?_
  refine st_iadd (q := 965) dL_law_964 rfl ?_
  refine st_ialoadX (q := 966) dL_law_965 rfl (List.mem_of_getElem? (i := 10) rfl) (by decide) (ix2 (a := i) (b := 1) (by omega) (by omega)) rfl ?_
  refine st_aload_n (q := 967) dL_law_966 rfl rfl rfl ?_
  refine st_iload_n (q := 968) dL_law_967 rfl rfl rfl ?_
  refine st_iconst (q := 969) dL_law_968 rfl ic_2 ?_
  refine st_iadd (q := 970) dL_law_969 rfl ?_
  refine st_ialoadX (q := 971) dL_law_970 rfl (List.mem_of_getElem? (i := 10) rfl) (by decide) (ix2 (a := i) (b := 2) (by omega) (by omega)) rfl ?_
  refine st_aload_n (q := 972) dL_law_971 rfl rfl rfl ?_
  refine st_iload_n (q := 973) dL_law_972 rfl rfl rfl ?_
  refine st_iconst (q := 974) dL_law_973 rfl ic_3 ?_
  refine st_iadd (q := 975) dL_law_974 rfl ?_
  refine st_ialoadX (q := 976) dL_law_975 rfl (List.mem_of_getElem? (i := 10) rfl) (by decide) (ix2 (a := i) (b := 3) (by omega) (by omega)) rfl ?_
  refine sm_V3 (q := 979) (M' := mX7_kind) dL_law_976 rfl ok_X7_kind mk_X7_kind ml_L_120 ⟨Nat.le_of_ble_eq_true rfl, Nat.le_of_ble_eq_true rfl⟩ rfl (Nat.le_of_ble_eq_true rfl) (g_rv hM rfl) ⟨rfl, rfl⟩ (c_X7_kind Fr.rf hM QA.rf hG.q) ?_
  intro _ n w h9 _
  obtain ⟨rfl, rfl, ⟨S, f, hM, hA⟩, hF_⟩ := h9
  replace hX := hX.keep (fun k hk => hF_ k (by omega))
  replace hG := hG.qa hA
  refine st_icmp_eq (q := 982) (tgt := 1504) dL_law_979 rfl rfl (fun c_979 => ?_) (fun c_979 => False.elim (c_979 rfl))
  exact kk w ⟨_, _, _, _, _, _, _, _, _, _, _, _, _, hX, hM, hG⟩
set_option maxRecDepth 100000 in
set_option maxHeartbeats 4000000 in
theorem lc_luck {E : ev_E} {i : Nat} (hi : i + 5 ≤ E.2.2.2.1) (hL : E.2.2.2.1 ≤ 320) {w : ev_W} (h : LW w) (kk : ∀ w', LW w' → Ev E mL 1504 [some (.ref 1010), some (.ref 0), some (.ref 70), some (.int (nI i))] [] 82 w' (82, 2968) qL) : Ev E mL 984 [some (.ref 1010), some (.ref 0), some (.ref 70), some (.int (nI i))] [] 82 w (82, 2968) qL := by
  obtain ⟨X, Tn, Ti, Tp, Sg, Sh, S, f, nh, nt, dd, tl, sz, hX, hM, hG⟩ := h
  refine st_aload_n (q := 985) dL_law_984 rfl rfl rfl ?_
  refine st_aload_n (q := 986) dL_law_985 rfl rfl rfl ?_
  refine st_iload_n (q := 987) dL_law_986 rfl rfl rfl ?_
  refine st_iconst (q := 988) dL_law_987 rfl ic_1 ?_
  refine st_iadd (q := 989) dL_law_988 rfl ?_
  refine st_ialoadX (q := 990) dL_law_989 rfl (List.mem_of_getElem? (i := 10) rfl) (by decide) (ix2 (a := i) (b := 1) (by omega) (by omega)) rfl ?_
  refine st_aload_n (q := 991) dL_law_990 rfl rfl rfl ?_
  refine st_iload_n (q := 992) dL_law_991 rfl rfl rfl ?_
  refine st_iconst (q := 993) dL_law_992 rfl ic_2 ?_
  refine st_iadd (q := 994) dL_law_993 rfl ?_
  refine st_ialoadX (q := 995) dL_law_994 rfl (List.mem_of_getElem? (i := 10) rfl) (by decide) (ix2 (a := i) (b := 2) (by omega) (by omega)) rfl ?_
  refine st_aload_n (q := 996) dL_law_995 rfl rfl rfl ?_
  refine st_iload_n (q := 997) dL_law_996 rfl rfl rfl ?_
  refine st_iconst (q := 998) dL_law_997 rfl ic_3 ?_
  refine st_iadd (q := 999) dL_law_998 rfl ?_
  refine st_ialoadX (q := 1000) dL_law_999 rfl (List.mem_of_getElem? (i := 10) rfl) (by decide) (ix2 (a := i) (b := 3) (by omega) (by omega)) rfl ?_
  refine st_aload_n (q := 1001) dL_law_1000 rfl rfl rfl ?_
  refine st_iload_n (q := 1002) dL_law_1001 rfl rfl rfl ?_
  refine st_iconst (q := 1003) dL_law_1002 rfl ic_4 ?_
  refine st_iadd (q := 1004) dL_law_1003 rfl ?_
  refine st_ialoadX (q := 1005) dL_law_1004 rfl (List.mem_of_getElem? (i := 10) rfl) (by decide) (ix2 (a := i) (b := 4) (by omega) (by omega)) rfl ?_
  refine sm_V4 (q := 1008) (M' := mX6_luck) dL_law_1005 rfl ok_X6_luck mk_X6_luck ml_L_121 ⟨Nat.le_of_ble_eq_true rfl, Nat.le_of_ble_eq_true rfl⟩ rfl (Nat.le_of_ble_eq_true rfl) (g_rv hX.x rfl) ⟨rfl, rfl⟩ (c_X6_luck Fr.rf hX hG.tk) ?_
  intro _ n w h9 _
  obtain ⟨rfl, rfl, hX, hF_⟩ := h9
  replace hM := GR.fr gkX7 hM (fun k h1 h2 => hF_ k (by omega))
  refine st_aload_n (q := 1009) dL_law_1008 rfl rfl rfl ?_
  refine st_aload_n (q := 1010) dL_law_1009 rfl rfl rfl ?_
  refine st_iload_n (q := 1011) dL_law_1010 rfl rfl rfl ?_
  refine st_iconst (q := 1012) dL_law_1011 rfl ic_1 ?_
  refine st_iadd (q := 1013) dL_law_1012 rfl ?_
  refine st_ialoadX (q := 1014) dL_law_1013 rfl (List.mem_of_getElem? (i := 10) rfl) (by decide) (ix2 (a := i) (b := 1) (by omega) (by omega)) rfl ?_
  refine st_aload_n (q := 1015) dL_law_1014 rfl rfl rfl ?_
  refine st_iload_n (q := 1016) dL_law_1015 rfl rfl rfl ?_
  refine st_iconst (q := 1017) dL_law_1016 rfl ic_2 ?_
  refine st_iadd (q := 1018) dL_law_1017 rfl ?_
  refine st_ialoadX (q := 1019) dL_law_1018 rfl (List.mem_of_getElem? (i := 10) rfl) (by decide) (ix2 (a := i) (b := 2) (by omega) (by omega)) rfl ?_
  refine st_aload_n (q := 1020) dL_law_1019 rfl rfl rfl ?_
  refine st_iload_n (q := 1021) dL_law_1020 rfl rfl rfl ?_
  refine st_iconst (q := 1022) dL_law_1021 rfl ic_3 ?_
  refine st_iadd (q := 1023) dL_law_1022 rfl ?_
  refine st_ialoadX (q := 1024) dL_law_1023 rfl (List.mem_of_getElem? (i := 10) rfl) (by decide) (ix2 (a := i) (b := 3) (by omega) (by omega)) rfl ?_
  refine st_aload_n (q := 1025) dL_law_1024 rfl rfl rfl ?_
  refine st_iload_n (q := 1026) dL_law_1025 rfl rfl rfl ?_
  refine st_iconst (q := 1027) dL_law_1026 rfl ic_4 ?_
  refine st_iadd (q := 1028) dL_law_1027 rfl ?_
  refine st_ialoadX (q := 1029) dL_law_1028 rfl (List.mem_of_getElem? (i := 10) rfl) (by decide) (ix2 (a := i) (b := 4) (by omega) (by omega)) rfl ?_
  refine sm_V4 (q := 1032) (M' := mX7_luck) dL_law_1029 rfl ok_X7_luck mk_X7_luck ml_L_125 ⟨Nat.le_of_ble_eq_true rfl, Nat.le_of_ble_eq_true rfl⟩ rfl (Nat.le_of_ble_eq_true rfl) (g_rv hM rfl) ⟨rfl, rfl⟩ (c_X7_luck Fr.rf hM QA.rf hG.q) ?_
  intro _ n w h9 _
  obtain ⟨rfl, rfl, ⟨S, f, hM, hA⟩, hF_⟩ := h9
  replace hX := hX.keep (fun k hk => hF_ k (by omega))
  replace hG := hG.qa hA
  refine st_lcmp (q := 1033) dL_law_1032 rfl ?_
  refine st_if_eq (q := 1036) (tgt := 1504) dL_law_1033 rfl rfl (fun c_1033 => ?_) (fun c_1033 => False.elim (c_1033 ((lg_cmp_eq _ _).mpr rfl)))
  exact kk w ⟨_, _, _, _, _, _, _, _, _, _, _, _, _, hX, hM, hG⟩
set_option maxRecDepth 100000 in
set_option maxHeartbeats 4000000 in
theorem lc_mean {E : ev_E} {i : Nat} (hi : i + 5 ≤ E.2.2.2.1) (hL : E.2.2.2.1 ≤ 320) {w : ev_W} (h : LW w) (kk : ∀ w', LW w' → Ev E mL 1504 [some (.ref 1010), some (.ref 0), some (.ref 70), some (.int (nI i))] [] 82 w' (82, 2968) qL) : Ev E mL 1038 [some (.ref 1010), some (.ref 0), some (.ref 70), some (.int (nI i))] [] 82 w (82, 2968) qL := by
  obtain ⟨X, Tn, Ti, Tp, Sg, Sh, S, f, nh, nt, dd, tl, sz, hX, hM, hG⟩ := h
  refine st_aload_n (q := 1039) dL_law_1038 rfl rfl rfl ?_
  refine st_aload_n (q := 1040) dL_law_1039 rfl rfl rfl ?_
  refine st_iload_n (q := 1041) dL_law_1040 rfl rfl rfl ?_
  refine st_iconst (q := 1042) dL_law_1041 rfl ic_1 ?_
  refine st_iadd (q := 1043) dL_law_1042 rfl ?_
  refine st_ialoadX (q := 1044) dL_law_1043 rfl (List.mem_of_getElem? (i := 10) rfl) (by decide) (ix2 (a := i) (b := 1) (by omega) (by omega)) rfl ?_
  refine st_aload_n (q := 1045) dL_law_1044 rfl rfl rfl ?_
  refine st_iload_n (q := 1046) dL_law_1045 rfl rfl rfl ?_
  refine st_iconst (q := 1047) dL_law_1046 rfl ic_2 ?_
  refine st_iadd (q := 1048) dL_law_1047 rfl ?_
  refine st_ialoadX (q := 1049) dL_law_1048 rfl (List.mem_of_getElem? (i := 10) rfl) (by decide) (ix2 (a := i) (b := 2) (by omega) (by omega)) rfl ?_
  refine st_aload_n (q := 1050) dL_law_1049 rfl rfl rfl ?_
  refine st_iload_n (q := 1051) dL_law_1050 rfl rfl rfl ?_
  refine st_iconst (q := 1052) dL_law_1051 rfl ic_3 ?_
  refine st_iadd (q := 1053) dL_law_1052 rfl ?_
  refine st_ialoadX (q := 1054) dL_law_1053 rfl (List.mem_of_getElem? (i := 10) rfl) (by decide) (ix2 (a := i) (b := 3) (by omega) (by omega)) rfl ?_
  refine sm_V3 (q := 1057) (M' := mX6_mean) dL_law_1054 rfl ok_X6_mean mk_X6_mean ml_L_126 ⟨Nat.le_of_ble_eq_true rfl, Nat.le_of_ble_eq_true rfl⟩ rfl (Nat.le_of_ble_eq_true rfl) (g_rv hX.x rfl) ⟨rfl, rfl⟩ (c_X6_mean Fr.rf hX hG.tk) ?_
  intro _ n w h9 _
  obtain ⟨rfl, rfl, hX, hF_⟩ := h9
  replace hM := GR.fr gkX7 hM (fun k h1 h2 => hF_ k (by omega))
  refine st_aload_n (q := 1058) dL_law_1057 rfl rfl rfl ?_
  refine st_aload_n (q := 1059) dL_law_1058 rfl rfl rfl ?_
  refine st_iload_n (q := 1060) dL_law_1059 rfl rfl rfl ?_
  refine st_iconst (q := 1061) dL_law_1060 rfl ic_1 ?_
  refine st_iadd (q := 1062) dL_law_1061 rfl ?_
  refine st_ialoadX (q := 1063) dL_law_1062 rfl (List.mem_of_getElem? (i := 10) rfl) (by decide) (ix2 (a := i) (b := 1) (by omega) (by omega)) rfl ?_
  refine st_aload_n (q := 1064) dL_law_1063 rfl rfl rfl ?_
  refine st_iload_n (q := 1065) dL_law_1064 rfl rfl rfl ?_
  refine st_iconst (q := 1066) dL_law_1065 rfl ic_2 ?_
  refine st_iadd (q := 1067) dL_law_1066 rfl ?_
  refine st_ialoadX (q := 1068) dL_law_1067 rfl (List.mem_of_getElem? (i := 10) rfl) (by decide) (ix2 (a := i) (b := 2) (by omega) (by omega)) rfl ?_
  refine st_aload_n (q := 1069) dL_law_1068 rfl rfl rfl ?_
  refine st_iload_n (q := 1070) dL_law_1069 rfl rfl rfl ?_
  refine st_iconst (q := 1071) dL_law_1070 rfl ic_3 ?_
  refine st_iadd (q := 1072) dL_law_1071 rfl ?_
  refine st_ialoadX (q := 1073) dL_law_1072 rfl (List.mem_of_getElem? (i := 10) rfl) (by decide) (ix2 (a := i) (b := 3) (by omega) (by omega)) rfl ?_
  refine sm_V3 (q := 1076) (M' := mX7_mean) dL_law_1073 rfl ok_X7_mean mk_X7_mean ml_L_130 ⟨Nat.le_of_ble_eq_true rfl, Nat.le_of_ble_eq_true rfl⟩ rfl (Nat.le_of_ble_eq_true rfl) (g_rv hM rfl) ⟨rfl, rfl⟩ (c_X7_mean Fr.rf hM QA.rf hG.q) ?_
  intro _ n w h9 _
  obtain ⟨rfl, rfl, ⟨S, f, hM, hA⟩, hF_⟩ := h9
  replace hX := hX.keep (fun k hk => hF_ k (by omega))
  replace hG := hG.qa hA
  refine st_lcmp (q := 1077) dL_law_1076 rfl ?_
  refine st_if_eq (q := 1080) (tgt := 1504) dL_law_1077 rfl rfl (fun c_1077 => ?_) (fun c_1077 => False.elim (c_1077 ((lg_cmp_eq _ _).mpr rfl)))
  exact kk w ⟨_, _, _, _, _, _, _, _, _, _, _, _, _, hX, hM, hG⟩
set_option maxRecDepth 100000 in
set_option maxHeartbeats 4000000 in
theorem lc_see {E : ev_E} {i : Nat} (hi : i + 5 ≤ E.2.2.2.1) (hL : E.2.2.2.1 ≤ 320) {w : ev_W} (h : LW w) (kk : ∀ w', LW w' → Ev E mL 1504 [some (.ref 1010), some (.ref 0), some (.ref 70), some (.int (nI i))] [] 82 w' (82, 2968) qL) : Ev E mL 1082 [some (.ref 1010), some (.ref 0), some (.ref 70), some (.int (nI i))] [] 82 w (82, 2968) qL := by
  obtain ⟨X, Tn, Ti, Tp, Sg, Sh, S, f, nh, nt, dd, tl, sz, hX, hM, hG⟩ := h
  refine st_aload_n (q := 1083) dL_law_1082 rfl rfl rfl ?_
  refine st_aload_n (q := 1084) dL_law_1083 rfl rfl rfl ?_
  refine st_iload_n (q := 1085) dL_law_1084 rfl rfl rfl ?_
  refine st_iconst (q := 1086) dL_law_1085 rfl ic_1 ?_
  refine st_iadd (q := 1087) dL_law_1086 rfl ?_
  refine st_ialoadX (q := 1088) dL_law_1087 rfl (List.mem_of_getElem? (i := 10) rfl) (by decide) (ix2 (a := i) (b := 1) (by omega) (by omega)) rfl ?_
  refine st_aload_n (q := 1089) dL_law_1088 rfl rfl rfl ?_
  refine st_iload_n (q := 1090) dL_law_1089 rfl rfl rfl ?_
  refine st_iconst (q := 1091) dL_law_1090 rfl ic_2 ?_
  refine st_iadd (q := 1092) dL_law_1091 rfl ?_
  refine st_ialoadX (q := 1093) dL_law_1092 rfl (List.mem_of_getElem? (i := 10) rfl) (by decide) (ix2 (a := i) (b := 2) (by omega) (by omega)) rfl ?_
  refine sm_V2 (q := 1096) (M' := mX6_see) dL_law_1093 rfl ok_X6_see mk_X6_see ml_L_131 ⟨Nat.le_of_ble_eq_true rfl, Nat.le_of_ble_eq_true rfl⟩ rfl (Nat.le_of_ble_eq_true rfl) (g_rv hX.x rfl) ⟨rfl, rfl⟩ (c_X6_see Fr.rf hX hG.2.2.2.2.2.1.1.1 hG.2.2.2.2.2.1.1.2.1) ?_
  intro _ n w h9 _
  obtain ⟨rfl, rfl, hX, hF_⟩ := h9
  replace hM := GR.fr gkX7 hM (fun k h1 h2 => hF_ k (by omega))
  refine st_aload_n (q := 1097) dL_law_1096 rfl rfl rfl ?_
  refine st_aload_n (q := 1098) dL_law_1097 rfl rfl rfl ?_
  refine st_iload_n (q := 1099) dL_law_1098 rfl rfl rfl ?_
  refine st_iconst (q := 1100) dL_law_1099 rfl ic_1 ?_
  refine st_iadd (q := 1101) dL_law_1100 rfl ?_
  refine st_ialoadX (q := 1102) dL_law_1101 rfl (List.mem_of_getElem? (i := 10) rfl) (by decide) (ix2 (a := i) (b := 1) (by omega) (by omega)) rfl ?_
  refine st_aload_n (q := 1103) dL_law_1102 rfl rfl rfl ?_
  refine st_iload_n (q := 1104) dL_law_1103 rfl rfl rfl ?_
  refine st_iconst (q := 1105) dL_law_1104 rfl ic_2 ?_
  refine st_iadd (q := 1106) dL_law_1105 rfl ?_
  refine st_ialoadX (q := 1107) dL_law_1106 rfl (List.mem_of_getElem? (i := 10) rfl) (by decide) (ix2 (a := i) (b := 2) (by omega) (by omega)) rfl ?_
  refine sm_V2 (q := 1110) (M' := mX7_see) dL_law_1107 rfl ok_X7_see mk_X7_see ml_L_134 ⟨Nat.le_of_ble_eq_true rfl, Nat.le_of_ble_eq_true rfl⟩ rfl (Nat.le_of_ble_eq_true rfl) (g_rv hM rfl) ⟨rfl, rfl⟩ (c_X7_see Fr.rf hM hG.2.2.2.2.2.1.2.1 hG.2.2.2.2.2.1.1.2.1) ?_
  intro _ n w h9 _
  obtain ⟨rfl, rfl, hM, hF_⟩ := h9
  replace hX := hX.keep (fun k hk => hF_ k (by omega))
  obtain ⟨sz1, hG⟩ := hG.see (E.2.2.2.2 (i + 1)) (E.2.2.2.2 (i + 2))
  refine st_icmp_eq (q := 1113) (tgt := 1504) dL_law_1110 rfl rfl (fun c_1110 => ?_) (fun c_1110 => False.elim (c_1110 rfl))
  exact kk w ⟨_, _, _, _, _, _, _, _, _, _, _, _, _, hX, hM, hG⟩
set_option maxRecDepth 100000 in
set_option maxHeartbeats 4000000 in
theorem lc_forget {E : ev_E} {i : Nat} (hi : i + 5 ≤ E.2.2.2.1) (hL : E.2.2.2.1 ≤ 320) {w : ev_W} (h : LW w) (kk : ∀ w', LW w' → Ev E mL 1504 [some (.ref 1010), some (.ref 0), some (.ref 70), some (.int (nI i))] [] 82 w' (82, 2968) qL) : Ev E mL 1115 [some (.ref 1010), some (.ref 0), some (.ref 70), some (.int (nI i))] [] 82 w (82, 2968) qL := by
  obtain ⟨X, Tn, Ti, Tp, Sg, Sh, S, f, nh, nt, dd, tl, sz, hX, hM, hG⟩ := h
  refine st_aload_n (q := 1116) dL_law_1115 rfl rfl rfl ?_
  refine st_aload_n (q := 1117) dL_law_1116 rfl rfl rfl ?_
  refine st_iload_n (q := 1118) dL_law_1117 rfl rfl rfl ?_
  refine st_iconst (q := 1119) dL_law_1118 rfl ic_1 ?_
  refine st_iadd (q := 1120) dL_law_1119 rfl ?_
  refine st_ialoadX (q := 1121) dL_law_1120 rfl (List.mem_of_getElem? (i := 10) rfl) (by decide) (ix2 (a := i) (b := 1) (by omega) (by omega)) rfl ?_
  refine sm_V1 (q := 1124) (M' := mX6_forget) dL_law_1121 rfl ok_X6_forget mk_X6_forget ml_L_135 ⟨Nat.le_of_ble_eq_true rfl, Nat.le_of_ble_eq_true rfl⟩ rfl (Nat.le_of_ble_eq_true rfl) (g_rv hX.x rfl) ⟨rfl, rfl⟩ (c_X6_forget Fr.rf hX hG.2.2.2.2.2.1.1.1 hG.2.2.2.2.2.1.1.2.1) ?_
  intro _ n w h9 _
  obtain ⟨rfl, rfl, hX, hF_⟩ := h9
  replace hM := GR.fr gkX7 hM (fun k h1 h2 => hF_ k (by omega))
  refine st_aload_n (q := 1125) dL_law_1124 rfl rfl rfl ?_
  refine st_aload_n (q := 1126) dL_law_1125 rfl rfl rfl ?_
  refine st_iload_n (q := 1127) dL_law_1126 rfl rfl rfl ?_
  refine st_iconst (q := 1128) dL_law_1127 rfl ic_1 ?_
  refine st_iadd (q := 1129) dL_law_1128 rfl ?_
  refine st_ialoadX (q := 1130) dL_law_1129 rfl (List.mem_of_getElem? (i := 10) rfl) (by decide) (ix2 (a := i) (b := 1) (by omega) (by omega)) rfl ?_
  refine sm_V1 (q := 1133) (M' := mX7_forget) dL_law_1130 rfl ok_X7_forget mk_X7_forget ml_L_138 ⟨Nat.le_of_ble_eq_true rfl, Nat.le_of_ble_eq_true rfl⟩ rfl (Nat.le_of_ble_eq_true rfl) (g_rv hM rfl) ⟨rfl, rfl⟩ (c_X7_forget Fr.rf hM hG.2.2.2.2.2.1.2.1 hG.2.2.2.2.2.1.1.2.1) ?_
  intro _ n w h9 _
  obtain ⟨rfl, rfl, hM, hF_⟩ := h9
  replace hX := hX.keep (fun k hk => hF_ k (by omega))
  obtain ⟨sz1, hG⟩ := hG.fog (E.2.2.2.2 (i + 1))
  refine st_icmp_eq (q := 1136) (tgt := 1504) dL_law_1133 rfl rfl (fun c_1133 => ?_) (fun c_1133 => False.elim (c_1133 rfl))
  exact kk w ⟨_, _, _, _, _, _, _, _, _, _, _, _, _, hX, hM, hG⟩
set_option maxRecDepth 100000 in
set_option maxHeartbeats 4000000 in
theorem lc_kinds {E : ev_E} {i : Nat} (hi : i + 5 ≤ E.2.2.2.1) (hL : E.2.2.2.1 ≤ 320) {w : ev_W} (h : LW w) (kk : ∀ w', LW w' → Ev E mL 1504 [some (.ref 1010), some (.ref 0), some (.ref 70), some (.int (nI i))] [] 82 w' (82, 2968) qL) : Ev E mL 1138 [some (.ref 1010), some (.ref 0), some (.ref 70), some (.int (nI i))] [] 82 w (82, 2968) qL := by
  obtain ⟨X, Tn, Ti, Tp, Sg, Sh, S, f, nh, nt, dd, tl, sz, hX, hM, hG⟩ := h
  refine st_aload_n (q := 1139) dL_law_1138 rfl rfl rfl ?_
  refine st_aload_n (q := 1140) dL_law_1139 rfl rfl rfl ?_
  refine st_iload_n (q := 1141) dL_law_1140 rfl rfl rfl ?_
  refine st_iconst (q := 1142) dL_law_1141 rfl ic_1 ?_
  refine st_iadd (q := 1143) dL_law_1142 rfl ?_
  refine st_ialoadX (q := 1144) dL_law_1143 rfl (List.mem_of_getElem? (i := 10) rfl) (by decide) (ix2 (a := i) (b := 1) (by omega) (by omega)) rfl ?_
  refine sm_V1 (q := 1147) (M' := mX6_kinds) dL_law_1144 rfl ok_X6_kinds mk_X6_kinds ml_L_139 ⟨Nat.le_of_ble_eq_true rfl, Nat.le_of_ble_eq_true rfl⟩ rfl (Nat.le_of_ble_eq_true rfl) (g_rv hX.x rfl) ⟨rfl, rfl⟩ (c_X6_kinds Fr.rf hX hG.tk hG.2.2.2.2.2.1.1) ?_
  intro _ n w h9 _
  obtain ⟨rfl, rfl, hX, hF_⟩ := h9
  replace hM := GR.fr gkX7 hM (fun k h1 h2 => hF_ k (by omega))
  refine st_aload_n (q := 1148) dL_law_1147 rfl rfl rfl ?_
  refine st_aload_n (q := 1149) dL_law_1148 rfl rfl rfl ?_
  refine st_iload_n (q := 1150) dL_law_1149 rfl rfl rfl ?_
  refine st_iconst (q := 1151) dL_law_1150 rfl ic_1 ?_
  refine st_iadd (q := 1152) dL_law_1151 rfl ?_
  refine st_ialoadX (q := 1153) dL_law_1152 rfl (List.mem_of_getElem? (i := 10) rfl) (by decide) (ix2 (a := i) (b := 1) (by omega) (by omega)) rfl ?_
  refine sm_V1 (q := 1156) (M' := mX7_kinds) dL_law_1153 rfl ok_X7_kinds mk_X7_kinds ml_L_142 ⟨Nat.le_of_ble_eq_true rfl, Nat.le_of_ble_eq_true rfl⟩ rfl (Nat.le_of_ble_eq_true rfl) (g_rv hM rfl) ⟨rfl, rfl⟩ (c_X7_kinds Fr.rf hM QA.rf hG.q hG.2.2.2.2.2.1) ?_
  intro _ n w h9 _
  obtain ⟨rfl, rfl, ⟨S, f, hM, hA⟩, hF_⟩ := h9
  replace hX := hX.keep (fun k hk => hF_ k (by omega))
  replace hG := hG.qa hA
  refine st_icmp_eq (q := 1159) (tgt := 1504) dL_law_1156 rfl rfl (fun c_1156 => ?_) (fun c_1156 => False.elim (c_1156 rfl))
  exact kk w ⟨_, _, _, _, _, _, _, _, _, _, _, _, _, hX, hM, hG⟩
set_option maxRecDepth 100000 in
set_option maxHeartbeats 4000000 in
theorem lc_leaks {E : ev_E} {i : Nat} (hi : i + 5 ≤ E.2.2.2.1) (hL : E.2.2.2.1 ≤ 320) {w : ev_W} (h : LW w) (kk : ∀ w', LW w' → Ev E mL 1504 [some (.ref 1010), some (.ref 0), some (.ref 70), some (.int (nI i))] [] 82 w' (82, 2968) qL) : Ev E mL 1161 [some (.ref 1010), some (.ref 0), some (.ref 70), some (.int (nI i))] [] 82 w (82, 2968) qL := by
  obtain ⟨X, Tn, Ti, Tp, Sg, Sh, S, f, nh, nt, dd, tl, sz, hX, hM, hG⟩ := h
  refine st_aload_n (q := 1162) dL_law_1161 rfl rfl rfl ?_
  refine st_aload_n (q := 1163) dL_law_1162 rfl rfl rfl ?_
  refine st_iload_n (q := 1164) dL_law_1163 rfl rfl rfl ?_
  refine st_iconst (q := 1165) dL_law_1164 rfl ic_1 ?_
  refine st_iadd (q := 1166) dL_law_1165 rfl ?_
  refine st_ialoadX (q := 1167) dL_law_1166 rfl (List.mem_of_getElem? (i := 10) rfl) (by decide) (ix2 (a := i) (b := 1) (by omega) (by omega)) rfl ?_
  refine sm_V1 (q := 1170) (M' := mX6_leaks) dL_law_1167 rfl ok_X6_leaks mk_X6_leaks ml_L_143 ⟨Nat.le_of_ble_eq_true rfl, Nat.le_of_ble_eq_true rfl⟩ rfl (Nat.le_of_ble_eq_true rfl) (g_rv hX.x rfl) ⟨rfl, rfl⟩ (c_X6_leaks Fr.rf hX hG.tk hG.2.2.2.2.2.1.1) ?_
  intro _ n w h9 _
  obtain ⟨rfl, rfl, hX, hF_⟩ := h9
  replace hM := GR.fr gkX7 hM (fun k h1 h2 => hF_ k (by omega))
  refine st_aload_n (q := 1171) dL_law_1170 rfl rfl rfl ?_
  refine st_aload_n (q := 1172) dL_law_1171 rfl rfl rfl ?_
  refine st_iload_n (q := 1173) dL_law_1172 rfl rfl rfl ?_
  refine st_iconst (q := 1174) dL_law_1173 rfl ic_1 ?_
  refine st_iadd (q := 1175) dL_law_1174 rfl ?_
  refine st_ialoadX (q := 1176) dL_law_1175 rfl (List.mem_of_getElem? (i := 10) rfl) (by decide) (ix2 (a := i) (b := 1) (by omega) (by omega)) rfl ?_
  refine sm_V1 (q := 1179) (M' := mX7_leaks) dL_law_1176 rfl ok_X7_leaks mk_X7_leaks ml_L_146 ⟨Nat.le_of_ble_eq_true rfl, Nat.le_of_ble_eq_true rfl⟩ rfl (Nat.le_of_ble_eq_true rfl) (g_rv hM rfl) ⟨rfl, rfl⟩ (c_X7_leaks Fr.rf hM QA.rf hG.q hG.2.2.2.2.2.1) ?_
  intro _ n w h9 _
  obtain ⟨rfl, rfl, ⟨S, f, hM, hA⟩, hF_⟩ := h9
  replace hX := hX.keep (fun k hk => hF_ k (by omega))
  replace hG := hG.qa hA
  refine st_icmp_eq (q := 1182) (tgt := 1504) dL_law_1179 rfl rfl (fun c_1179 => ?_) (fun c_1179 => False.elim (c_1179 rfl))
  exact kk w ⟨_, _, _, _, _, _, _, _, _, _, _, _, _, hX, hM, hG⟩
set_option maxRecDepth 100000 in
set_option maxHeartbeats 4000000 in
theorem lc_rooms {E : ev_E} {i : Nat} (hi : i + 5 ≤ E.2.2.2.1) (hL : E.2.2.2.1 ≤ 320) {w : ev_W} (h : LW w) (kk : ∀ w', LW w' → Ev E mL 1504 [some (.ref 1010), some (.ref 0), some (.ref 70), some (.int (nI i))] [] 82 w' (82, 2968) qL) : Ev E mL 1184 [some (.ref 1010), some (.ref 0), some (.ref 70), some (.int (nI i))] [] 82 w (82, 2968) qL := by
  obtain ⟨X, Tn, Ti, Tp, Sg, Sh, S, f, nh, nt, dd, tl, sz, hX, hM, hG⟩ := h
  refine st_aload_n (q := 1185) dL_law_1184 rfl rfl rfl ?_
  refine st_aload_n (q := 1186) dL_law_1185 rfl rfl rfl ?_
  refine st_iload_n (q := 1187) dL_law_1186 rfl rfl rfl ?_
  refine st_iconst (q := 1188) dL_law_1187 rfl ic_1 ?_
  refine st_iadd (q := 1189) dL_law_1188 rfl ?_
  refine st_ialoadX (q := 1190) dL_law_1189 rfl (List.mem_of_getElem? (i := 10) rfl) (by decide) (ix2 (a := i) (b := 1) (by omega) (by omega)) rfl ?_
  refine sm_V1 (q := 1193) (M' := mX6_rooms) dL_law_1190 rfl ok_X6_rooms mk_X6_rooms ml_L_147 ⟨Nat.le_of_ble_eq_true rfl, Nat.le_of_ble_eq_true rfl⟩ rfl (Nat.le_of_ble_eq_true rfl) (g_rv hX.x rfl) ⟨rfl, rfl⟩ (c_X6_rooms Fr.rf hX hG.tk hG.2.2.2.2.2.1.1) ?_
  intro _ n w h9 _
  obtain ⟨rfl, rfl, hX, hF_⟩ := h9
  replace hM := GR.fr gkX7 hM (fun k h1 h2 => hF_ k (by omega))
  refine st_aload_n (q := 1194) dL_law_1193 rfl rfl rfl ?_
  refine st_aload_n (q := 1195) dL_law_1194 rfl rfl rfl ?_
  refine st_iload_n (q := 1196) dL_law_1195 rfl rfl rfl ?_
  refine st_iconst (q := 1197) dL_law_1196 rfl ic_1 ?_
  refine st_iadd (q := 1198) dL_law_1197 rfl ?_
  refine st_ialoadX (q := 1199) dL_law_1198 rfl (List.mem_of_getElem? (i := 10) rfl) (by decide) (ix2 (a := i) (b := 1) (by omega) (by omega)) rfl ?_
  refine sm_V1 (q := 1202) (M' := mX7_rooms) dL_law_1199 rfl ok_X7_rooms mk_X7_rooms ml_L_150 ⟨Nat.le_of_ble_eq_true rfl, Nat.le_of_ble_eq_true rfl⟩ rfl (Nat.le_of_ble_eq_true rfl) (g_rv hM rfl) ⟨rfl, rfl⟩ (c_X7_rooms Fr.rf hM QA.rf hG.q hG.2.2.2.2.2.1) ?_
  intro _ n w h9 _
  obtain ⟨rfl, rfl, ⟨S, f, hM, hA⟩, hF_⟩ := h9
  replace hX := hX.keep (fun k hk => hF_ k (by omega))
  replace hG := hG.qa hA
  refine st_icmp_eq (q := 1205) (tgt := 1504) dL_law_1202 rfl rfl (fun c_1202 => ?_) (fun c_1202 => False.elim (c_1202 rfl))
  exact kk w ⟨_, _, _, _, _, _, _, _, _, _, _, _, _, hX, hM, hG⟩
set_option maxRecDepth 100000 in
set_option maxHeartbeats 4000000 in
theorem lc_ask {E : ev_E} {i : Nat} (hi : i + 5 ≤ E.2.2.2.1) (hL : E.2.2.2.1 ≤ 320) {w : ev_W} (h : LW w) (kk : ∀ w', LW w' → Ev E mL 1504 [some (.ref 1010), some (.ref 0), some (.ref 70), some (.int (nI i))] [] 82 w' (82, 2968) qL) : Ev E mL 1207 [some (.ref 1010), some (.ref 0), some (.ref 70), some (.int (nI i))] [] 82 w (82, 2968) qL := by
  obtain ⟨X, Tn, Ti, Tp, Sg, Sh, S, f, nh, nt, dd, tl, sz, hX, hM, hG⟩ := h
  refine st_aload_n (q := 1208) dL_law_1207 rfl rfl rfl ?_
  refine st_aload_n (q := 1209) dL_law_1208 rfl rfl rfl ?_
  refine st_iload_n (q := 1210) dL_law_1209 rfl rfl rfl ?_
  refine st_iconst (q := 1211) dL_law_1210 rfl ic_1 ?_
  refine st_iadd (q := 1212) dL_law_1211 rfl ?_
  refine st_ialoadX (q := 1213) dL_law_1212 rfl (List.mem_of_getElem? (i := 10) rfl) (by decide) (ix2 (a := i) (b := 1) (by omega) (by omega)) rfl ?_
  refine st_aload_n (q := 1214) dL_law_1213 rfl rfl rfl ?_
  refine st_iload_n (q := 1215) dL_law_1214 rfl rfl rfl ?_
  refine st_iconst (q := 1216) dL_law_1215 rfl ic_2 ?_
  refine st_iadd (q := 1217) dL_law_1216 rfl ?_
  refine st_ialoadX (q := 1218) dL_law_1217 rfl (List.mem_of_getElem? (i := 10) rfl) (by decide) (ix2 (a := i) (b := 2) (by omega) (by omega)) rfl ?_
  refine sm_V2 (q := 1221) (M' := mX6_ask) dL_law_1218 rfl ok_X6_ask mk_X6_ask ml_L_151 ⟨Nat.le_of_ble_eq_true rfl, Nat.le_of_ble_eq_true rfl⟩ rfl (Nat.le_of_ble_eq_true rfl) (g_rv hX.x rfl) ⟨rfl, rfl⟩ (c_X6_ask Fr.rf hX hG.tk hG.2.2.2.2.2.1.1) ?_
  intro _ n w h9 _
  obtain ⟨rfl, rfl, hX, hF_⟩ := h9
  replace hM := GR.fr gkX7 hM (fun k h1 h2 => hF_ k (by omega))
  refine st_aload_n (q := 1222) dL_law_1221 rfl rfl rfl ?_
  refine st_aload_n (q := 1223) dL_law_1222 rfl rfl rfl ?_
  refine st_iload_n (q := 1224) dL_law_1223 rfl rfl rfl ?_
  refine st_iconst (q := 1225) dL_law_1224 rfl ic_1 ?_
  refine st_iadd (q := 1226) dL_law_1225 rfl ?_
  refine st_ialoadX (q := 1227) dL_law_1226 rfl (List.mem_of_getElem? (i := 10) rfl) (by decide) (ix2 (a := i) (b := 1) (by omega) (by omega)) rfl ?_
  refine st_aload_n (q := 1228) dL_law_1227 rfl rfl rfl ?_
  refine st_iload_n (q := 1229) dL_law_1228 rfl rfl rfl ?_
  refine st_iconst (q := 1230) dL_law_1229 rfl ic_2 ?_
  refine st_iadd (q := 1231) dL_law_1230 rfl ?_
  refine st_ialoadX (q := 1232) dL_law_1231 rfl (List.mem_of_getElem? (i := 10) rfl) (by decide) (ix2 (a := i) (b := 2) (by omega) (by omega)) rfl ?_
  refine sm_V2 (q := 1235) (M' := mX7_ask) dL_law_1232 rfl ok_X7_ask mk_X7_ask ml_L_154 ⟨Nat.le_of_ble_eq_true rfl, Nat.le_of_ble_eq_true rfl⟩ rfl (Nat.le_of_ble_eq_true rfl) (g_rv hM rfl) ⟨rfl, rfl⟩ (c_X7_ask Fr.rf hM QA.rf hG.q hG.2.2.2.2.2.1) ?_
  intro _ n w h9 _
  obtain ⟨rfl, rfl, ⟨S, f, hM, hA⟩, hF_⟩ := h9
  replace hX := hX.keep (fun k hk => hF_ k (by omega))
  replace hG := hG.qa hA
  refine st_icmp_eq (q := 1238) (tgt := 1504) dL_law_1235 rfl rfl (fun c_1235 => ?_) (fun c_1235 => False.elim (c_1235 rfl))
  exact kk w ⟨_, _, _, _, _, _, _, _, _, _, _, _, _, hX, hM, hG⟩
set_option maxRecDepth 100000 in
set_option maxHeartbeats 4000000 in
theorem lc_drift {E : ev_E} {i : Nat} (hi : i + 5 ≤ E.2.2.2.1) (hL : E.2.2.2.1 ≤ 320) {w : ev_W} (h : LW w) (kk : ∀ w', LW w' → Ev E mL 1504 [some (.ref 1010), some (.ref 0), some (.ref 70), some (.int (nI i))] [] 82 w' (82, 2968) qL) : Ev E mL 1240 [some (.ref 1010), some (.ref 0), some (.ref 70), some (.int (nI i))] [] 82 w (82, 2968) qL := by
  obtain ⟨X, Tn, Ti, Tp, Sg, Sh, S, f, nh, nt, dd, tl, sz, hX, hM, hG⟩ := h
  refine st_aload_n (q := 1241) dL_law_1240 rfl rfl rfl ?_
  refine st_aload_n (q := 1242) dL_law_1241 rfl rfl rfl ?_
  refine st_iload_n (q := 1243) dL_law_1242 rfl rfl rfl ?_
  refine st_iconst (q := 1244) dL_law_1243 rfl ic_1 ?_
  refine st_iadd (q := 1245) dL_law_1244 rfl ?_
  refine st_ialoadX (q := 1246) dL_law_1245 rfl (List.mem_of_getElem? (i := 10) rfl) (by decide) (ix2 (a := i) (b := 1) (by omega) (by omega)) rfl ?_
  refine st_aload_n (q := 1247) dL_law_1246 rfl rfl rfl ?_
  refine st_iload_n (q := 1248) dL_law_1247 rfl rfl rfl ?_
  refine st_iconst (q := 1249) dL_law_1248 rfl ic_2 ?_
  refine st_iadd (q := 1250) dL_law_1249 rfl ?_
  refine st_ialoadX (q := 1251) dL_law_1250 rfl (List.mem_of_getElem? (i := 10) rfl) (by decide) (ix2 (a := i) (b := 2) (by omega) (by omega)) rfl ?_
  refine st_aload_n (q := 1252) dL_law_1251 rfl rfl rfl ?_
  refine st_iload_n (q := 1253) dL_law_1252 rfl rfl rfl ?_
  refine st_iconst (q := 1254) dL_law_1253 rfl ic_3 ?_
  refine st_iadd (q := 1255) dL_law_1254 rfl ?_
  refine st_ialoadX (q := 1256) dL_law_1255 rfl (List.mem_of_getElem? (i := 10) rfl) (by decide) (ix2 (a := i) (b := 3) (by omega) (by omega)) rfl ?_
  refine sm_V3 (q := 1259) (M' := mX6_drift) dL_law_1256 rfl ok_X6_drift mk_X6_drift ml_L_155 ⟨Nat.le_of_ble_eq_true rfl, Nat.le_of_ble_eq_true rfl⟩ rfl (Nat.le_of_ble_eq_true rfl) (g_rv hX.x rfl) ⟨rfl, rfl⟩ (c_X6_drift Fr.rf hX hG.tk) ?_
  intro _ n w h9 _
  obtain ⟨rfl, rfl, hX, hF_⟩ := h9
  replace hM := GR.fr gkX7 hM (fun k h1 h2 => hF_ k (by omega))
  refine st_aload_n (q := 1260) dL_law_1259 rfl rfl rfl ?_
  refine st_aload_n (q := 1261) dL_law_1260 rfl rfl rfl ?_
  refine st_iload_n (q := 1262) dL_law_1261 rfl rfl rfl ?_
  refine st_iconst (q := 1263) dL_law_1262 rfl ic_1 ?_
  refine st_iadd (q := 1264) dL_law_1263 rfl ?_
  refine st_ialoadX (q := 1265) dL_law_1264 rfl (List.mem_of_getElem? (i := 10) rfl) (by decide) (ix2 (a := i) (b := 1) (by omega) (by omega)) rfl ?_
  refine st_aload_n (q := 1266) dL_law_1265 rfl rfl rfl ?_
  refine st_iload_n (q := 1267) dL_law_1266 rfl rfl rfl ?_
  refine st_iconst (q := 1268) dL_law_1267 rfl ic_2 ?_
  refine st_iadd (q := 1269) dL_law_1268 rfl ?_
  refine st_ialoadX (q := 1270) dL_law_1269 rfl (List.mem_of_getElem? (i := 10) rfl) (by decide) (ix2 (a := i) (b := 2) (by omega) (by omega)) rfl ?_
  refine st_aload_n (q := 1271) dL_law_1270 rfl rfl rfl ?_
  refine st_iload_n (q := 1272) dL_law_1271 rfl rfl rfl ?_
  refine st_iconst (q := 1273) dL_law_1272 rfl ic_3 ?_
  refine st_iadd (q := 1274) dL_law_1273 rfl ?_
  refine st_ialoadX (q := 1275) dL_law_1274 rfl (List.mem_of_getElem? (i := 10) rfl) (by decide) (ix2 (a := i) (b := 3) (by omega) (by omega)) rfl ?_
  refine sm_V3 (q := 1278) (M' := mX7_drift) dL_law_1275 rfl ok_X7_drift mk_X7_drift ml_L_158 ⟨Nat.le_of_ble_eq_true rfl, Nat.le_of_ble_eq_true rfl⟩ rfl (Nat.le_of_ble_eq_true rfl) (g_rv hM rfl) ⟨rfl, rfl⟩ (c_X7_drift Fr.rf hM QA.rf hG.q) ?_
  intro _ n w h9 _
  obtain ⟨rfl, rfl, ⟨S, f, hM, hA⟩, hF_⟩ := h9
  replace hX := hX.keep (fun k hk => hF_ k (by omega))
  replace hG := hG.qa hA
  refine st_icmp_eq (q := 1281) (tgt := 1504) dL_law_1278 rfl rfl (fun c_1278 => ?_) (fun c_1278 => False.elim (c_1278 rfl))
  exact kk w ⟨_, _, _, _, _, _, _, _, _, _, _, _, _, hX, hM, hG⟩
set_option maxRecDepth 100000 in
set_option maxHeartbeats 4000000 in
theorem lc_keep {E : ev_E} {i : Nat} (hi : i + 5 ≤ E.2.2.2.1) (hL : E.2.2.2.1 ≤ 320) {w : ev_W} (h : LW w) (kk : ∀ w', LW w' → Ev E mL 1504 [some (.ref 1010), some (.ref 0), some (.ref 70), some (.int (nI i))] [] 82 w' (82, 2968) qL) : Ev E mL 1283 [some (.ref 1010), some (.ref 0), some (.ref 70), some (.int (nI i))] [] 82 w (82, 2968) qL := by
  obtain ⟨X, Tn, Ti, Tp, Sg, Sh, S, f, nh, nt, dd, tl, sz, hX, hM, hG⟩ := h
  have heq := hG.keepA (E.2.2.2.2 (i + 1))
  refine st_aload_n (q := 1284) dL_law_1283 rfl rfl rfl ?_
  refine st_aload_n (q := 1285) dL_law_1284 rfl rfl rfl ?_
  refine st_iload_n (q := 1286) dL_law_1285 rfl rfl rfl ?_
  refine st_iconst (q := 1287) dL_law_1286 rfl ic_1 ?_
  refine st_iadd (q := 1288) dL_law_1287 rfl ?_
  refine st_ialoadX (q := 1289) dL_law_1288 rfl (List.mem_of_getElem? (i := 10) rfl) (by decide) (ix2 (a := i) (b := 1) (by omega) (by omega)) rfl ?_
  refine sm_V1 (q := 1292) (M' := mX6_keep) dL_law_1289 rfl ok_X6_keep mk_X6_keep ml_L_159 ⟨Nat.le_of_ble_eq_true rfl, Nat.le_of_ble_eq_true rfl⟩ rfl (Nat.le_of_ble_eq_true rfl) (g_rv hX.x rfl) ⟨rfl, rfl⟩ (c_X6_keep Fr.rf hX) ?_
  intro _ n w h9 _
  obtain ⟨rfl, rfl, hX, hF_⟩ := h9
  replace hM := GR.fr gkX7 hM (fun k h1 h2 => hF_ k (by omega))
  refine st_aload_n (q := 1293) dL_law_1292 rfl rfl rfl ?_
  refine st_aload_n (q := 1294) dL_law_1293 rfl rfl rfl ?_
  refine st_iload_n (q := 1295) dL_law_1294 rfl rfl rfl ?_
  refine st_iconst (q := 1296) dL_law_1295 rfl ic_1 ?_
  refine st_iadd (q := 1297) dL_law_1296 rfl ?_
  refine st_ialoadX (q := 1298) dL_law_1297 rfl (List.mem_of_getElem? (i := 10) rfl) (by decide) (ix2 (a := i) (b := 1) (by omega) (by omega)) rfl ?_
  refine sm_V1 (q := 1301) (M' := mX7_keep) dL_law_1298 rfl ok_X7_keep mk_X7_keep ml_L_162 ⟨Nat.le_of_ble_eq_true rfl, Nat.le_of_ble_eq_true rfl⟩ rfl (Nat.le_of_ble_eq_true rfl) (g_rv hM rfl) ⟨rfl, rfl⟩ (c_X7_keep Fr.rf hM) ?_
  intro _ n w h9 _
  obtain ⟨rfl, rfl, hM, hF_⟩ := h9
  replace hX := hX.keep (fun k hk => hF_ k (by omega))
  replace hG := hG.keep (E.2.2.2.2 (i + 1))
  refine st_icmp_eq (q := 1304) (tgt := 1504) dL_law_1301 rfl rfl (fun c_1301 => ?_) (fun c_1301 => False.elim (c_1301 heq))
  exact kk w ⟨_, _, _, _, _, _, _, _, _, _, _, _, _, hX, hM, hG⟩
set_option maxRecDepth 100000 in
set_option maxHeartbeats 4000000 in
theorem lc_back {E : ev_E} {i : Nat} (hi : i + 5 ≤ E.2.2.2.1) (hL : E.2.2.2.1 ≤ 320) {w : ev_W} (h : LW w) (kk : ∀ w', LW w' → Ev E mL 1504 [some (.ref 1010), some (.ref 0), some (.ref 70), some (.int (nI i))] [] 82 w' (82, 2968) qL) : Ev E mL 1306 [some (.ref 1010), some (.ref 0), some (.ref 70), some (.int (nI i))] [] 82 w (82, 2968) qL := by
  obtain ⟨X, Tn, Ti, Tp, Sg, Sh, S, f, nh, nt, dd, tl, sz, hX, hM, hG⟩ := h
  have heq := hG.backA (E.2.2.2.2 (i + 1))
  refine st_aload_n (q := 1307) dL_law_1306 rfl rfl rfl ?_
  refine st_aload_n (q := 1308) dL_law_1307 rfl rfl rfl ?_
  refine st_iload_n (q := 1309) dL_law_1308 rfl rfl rfl ?_
  refine st_iconst (q := 1310) dL_law_1309 rfl ic_1 ?_
  refine st_iadd (q := 1311) dL_law_1310 rfl ?_
  refine st_ialoadX (q := 1312) dL_law_1311 rfl (List.mem_of_getElem? (i := 10) rfl) (by decide) (ix2 (a := i) (b := 1) (by omega) (by omega)) rfl ?_
  refine sm_V1 (q := 1315) (M' := mX6_back) dL_law_1312 rfl ok_X6_back mk_X6_back ml_L_163 ⟨Nat.le_of_ble_eq_true rfl, Nat.le_of_ble_eq_true rfl⟩ rfl (Nat.le_of_ble_eq_true rfl) (g_rv hX.x rfl) ⟨rfl, rfl⟩ (c_X6_back Fr.rf hX) ?_
  intro _ n w h9 _
  obtain ⟨rfl, rfl, hX, hF_⟩ := h9
  replace hM := GR.fr gkX7 hM (fun k h1 h2 => hF_ k (by omega))
  refine st_aload_n (q := 1316) dL_law_1315 rfl rfl rfl ?_
  refine st_aload_n (q := 1317) dL_law_1316 rfl rfl rfl ?_
  refine st_iload_n (q := 1318) dL_law_1317 rfl rfl rfl ?_
  refine st_iconst (q := 1319) dL_law_1318 rfl ic_1 ?_
  refine st_iadd (q := 1320) dL_law_1319 rfl ?_
  refine st_ialoadX (q := 1321) dL_law_1320 rfl (List.mem_of_getElem? (i := 10) rfl) (by decide) (ix2 (a := i) (b := 1) (by omega) (by omega)) rfl ?_
  refine sm_V1 (q := 1324) (M' := mX7_back) dL_law_1321 rfl ok_X7_back mk_X7_back ml_L_166 ⟨Nat.le_of_ble_eq_true rfl, Nat.le_of_ble_eq_true rfl⟩ rfl (Nat.le_of_ble_eq_true rfl) (g_rv hM rfl) ⟨rfl, rfl⟩ (c_X7_back Fr.rf hM) ?_
  intro _ n w h9 _
  obtain ⟨rfl, rfl, hM, hF_⟩ := h9
  replace hX := hX.keep (fun k hk => hF_ k (by omega))
  obtain ⟨d1, hG⟩ := hG.back (E.2.2.2.2 (i + 1))
  refine st_icmp_eq (q := 1327) (tgt := 1504) dL_law_1324 rfl rfl (fun c_1324 => ?_) (fun c_1324 => False.elim (c_1324 heq))
  exact kk w ⟨_, _, _, _, _, _, _, _, _, _, _, _, _, hX, hM, hG⟩
set_option maxRecDepth 100000 in
set_option maxHeartbeats 4000000 in
theorem lc_sheet {E : ev_E} {i : Nat} (hi : i + 5 ≤ E.2.2.2.1) (hL : E.2.2.2.1 ≤ 320) {w : ev_W} (h : LW w) (kk : ∀ w', LW w' → Ev E mL 1504 [some (.ref 1010), some (.ref 0), some (.ref 70), some (.int (nI i))] [] 82 w' (82, 2968) qL) : Ev E mL 1329 [some (.ref 1010), some (.ref 0), some (.ref 70), some (.int (nI i))] [] 82 w (82, 2968) qL := by
  obtain ⟨X, Tn, Ti, Tp, Sg, Sh, S, f, nh, nt, dd, tl, sz, hX, hM, hG⟩ := h
  refine st_aload_n (q := 1330) dL_law_1329 rfl rfl rfl ?_
  refine st_aload_n (q := 1331) dL_law_1330 rfl rfl rfl ?_
  refine st_iload_n (q := 1332) dL_law_1331 rfl rfl rfl ?_
  refine st_iconst (q := 1333) dL_law_1332 rfl ic_1 ?_
  refine st_iadd (q := 1334) dL_law_1333 rfl ?_
  refine st_ialoadX (q := 1335) dL_law_1334 rfl (List.mem_of_getElem? (i := 10) rfl) (by decide) (ix2 (a := i) (b := 1) (by omega) (by omega)) rfl ?_
  refine st_aload_n (q := 1336) dL_law_1335 rfl rfl rfl ?_
  refine st_iload_n (q := 1337) dL_law_1336 rfl rfl rfl ?_
  refine st_iconst (q := 1338) dL_law_1337 rfl ic_2 ?_
  refine st_iadd (q := 1339) dL_law_1338 rfl ?_
  refine st_ialoadX (q := 1340) dL_law_1339 rfl (List.mem_of_getElem? (i := 10) rfl) (by decide) (ix2 (a := i) (b := 2) (by omega) (by omega)) rfl ?_
  refine st_aload_n (q := 1341) dL_law_1340 rfl rfl rfl ?_
  refine st_iload_n (q := 1342) dL_law_1341 rfl rfl rfl ?_
  refine st_iconst (q := 1343) dL_law_1342 rfl ic_3 ?_
  refine st_iadd (q := 1344) dL_law_1343 rfl ?_
  refine st_ialoadX (q := 1345) dL_law_1344 rfl (List.mem_of_getElem? (i := 10) rfl) (by decide) (ix2 (a := i) (b := 3) (by omega) (by omega)) rfl ?_
  refine sm_V3 (q := 1348) (M' := mX6_sheet) dL_law_1345 rfl ok_X6_sheet mk_X6_sheet ml_L_167 ⟨Nat.le_of_ble_eq_true rfl, Nat.le_of_ble_eq_true rfl⟩ rfl (Nat.le_of_ble_eq_true rfl) (g_rv hX.x rfl) ⟨rfl, rfl⟩ (c_X6_sheet Fr.rf hX) ?_
  intro _ n w h9 _
  obtain ⟨rfl, rfl, hX, hF_⟩ := h9
  replace hM := GR.fr gkX7 hM (fun k h1 h2 => hF_ k (by omega))
  refine st_aload_n (q := 1349) dL_law_1348 rfl rfl rfl ?_
  refine st_aload_n (q := 1350) dL_law_1349 rfl rfl rfl ?_
  refine st_iload_n (q := 1351) dL_law_1350 rfl rfl rfl ?_
  refine st_iconst (q := 1352) dL_law_1351 rfl ic_1 ?_
  refine st_iadd (q := 1353) dL_law_1352 rfl ?_
  refine st_ialoadX (q := 1354) dL_law_1353 rfl (List.mem_of_getElem? (i := 10) rfl) (by decide) (ix2 (a := i) (b := 1) (by omega) (by omega)) rfl ?_
  refine st_aload_n (q := 1355) dL_law_1354 rfl rfl rfl ?_
  refine st_iload_n (q := 1356) dL_law_1355 rfl rfl rfl ?_
  refine st_iconst (q := 1357) dL_law_1356 rfl ic_2 ?_
  refine st_iadd (q := 1358) dL_law_1357 rfl ?_
  refine st_ialoadX (q := 1359) dL_law_1358 rfl (List.mem_of_getElem? (i := 10) rfl) (by decide) (ix2 (a := i) (b := 2) (by omega) (by omega)) rfl ?_
  refine st_aload_n (q := 1360) dL_law_1359 rfl rfl rfl ?_
  refine st_iload_n (q := 1361) dL_law_1360 rfl rfl rfl ?_
  refine st_iconst (q := 1362) dL_law_1361 rfl ic_3 ?_
  refine st_iadd (q := 1363) dL_law_1362 rfl ?_
  refine st_ialoadX (q := 1364) dL_law_1363 rfl (List.mem_of_getElem? (i := 10) rfl) (by decide) (ix2 (a := i) (b := 3) (by omega) (by omega)) rfl ?_
  refine sm_V3 (q := 1367) (M' := mX7_sheet) dL_law_1364 rfl ok_X7_sheet mk_X7_sheet ml_L_170 ⟨Nat.le_of_ble_eq_true rfl, Nat.le_of_ble_eq_true rfl⟩ rfl (Nat.le_of_ble_eq_true rfl) (g_rv hM rfl) ⟨rfl, rfl⟩ (c_X7_sheet Fr.rf hM hG.2.2.2.2.2.2.1) ?_
  intro _ n w h9 _
  obtain ⟨rfl, rfl, ⟨S1, hM, hs1, hg1⟩, hF_⟩ := h9
  replace hX := hX.keep (fun k hk => hF_ k (by omega))
  replace hG := hG.sh hs1 hg1
  refine st_icmp_eq (q := 1370) (tgt := 1504) dL_law_1367 rfl rfl (fun c_1367 => ?_) (fun c_1367 => False.elim (c_1367 rfl))
  exact kk w ⟨_, _, _, _, _, _, _, _, _, _, _, _, _, hX, hM, hG⟩
set_option maxRecDepth 100000 in
set_option maxHeartbeats 4000000 in
theorem lc_lay {E : ev_E} {i : Nat} (hi : i + 5 ≤ E.2.2.2.1) (hL : E.2.2.2.1 ≤ 320) {w : ev_W} (h : LW w) (kk : ∀ w', LW w' → Ev E mL 1504 [some (.ref 1010), some (.ref 0), some (.ref 70), some (.int (nI i))] [] 82 w' (82, 2968) qL) : Ev E mL 1372 [some (.ref 1010), some (.ref 0), some (.ref 70), some (.int (nI i))] [] 82 w (82, 2968) qL := by
  obtain ⟨X, Tn, Ti, Tp, Sg, Sh, S, f, nh, nt, dd, tl, sz, hX, hM, hG⟩ := h
  refine st_aload_n (q := 1373) dL_law_1372 rfl rfl rfl ?_
  refine st_aload_n (q := 1374) dL_law_1373 rfl rfl rfl ?_
  refine st_iload_n (q := 1375) dL_law_1374 rfl rfl rfl ?_
  refine st_iconst (q := 1376) dL_law_1375 rfl ic_1 ?_
  refine st_iadd (q := 1377) dL_law_1376 rfl ?_
  refine st_ialoadX (q := 1378) dL_law_1377 rfl (List.mem_of_getElem? (i := 10) rfl) (by decide) (ix2 (a := i) (b := 1) (by omega) (by omega)) rfl ?_
  refine st_aload_n (q := 1379) dL_law_1378 rfl rfl rfl ?_
  refine st_iload_n (q := 1380) dL_law_1379 rfl rfl rfl ?_
  refine st_iconst (q := 1381) dL_law_1380 rfl ic_2 ?_
  refine st_iadd (q := 1382) dL_law_1381 rfl ?_
  refine st_ialoadX (q := 1383) dL_law_1382 rfl (List.mem_of_getElem? (i := 10) rfl) (by decide) (ix2 (a := i) (b := 2) (by omega) (by omega)) rfl ?_
  refine st_aload_n (q := 1384) dL_law_1383 rfl rfl rfl ?_
  refine st_iload_n (q := 1385) dL_law_1384 rfl rfl rfl ?_
  refine st_iconst (q := 1386) dL_law_1385 rfl ic_3 ?_
  refine st_iadd (q := 1387) dL_law_1386 rfl ?_
  refine st_ialoadX (q := 1388) dL_law_1387 rfl (List.mem_of_getElem? (i := 10) rfl) (by decide) (ix2 (a := i) (b := 3) (by omega) (by omega)) rfl ?_
  refine sm_V3 (q := 1391) (M' := mX6_lay) dL_law_1388 rfl ok_X6_lay mk_X6_lay ml_L_171 ⟨Nat.le_of_ble_eq_true rfl, Nat.le_of_ble_eq_true rfl⟩ rfl (Nat.le_of_ble_eq_true rfl) (g_rv hX.x rfl) ⟨rfl, rfl⟩ (c_X6_lay Fr.rf hX hG.2.2.2.2.2.2.1.hk) ?_
  intro _ n w h9 _
  obtain ⟨rfl, rfl, hX, hF_⟩ := h9
  replace hM := GR.fr gkX7 hM (fun k h1 h2 => hF_ k (by omega))
  refine st_aload_n (q := 1392) dL_law_1391 rfl rfl rfl ?_
  refine st_aload_n (q := 1393) dL_law_1392 rfl rfl rfl ?_
  refine st_iload_n (q := 1394) dL_law_1393 rfl rfl rfl ?_
  refine st_iconst (q := 1395) dL_law_1394 rfl ic_1 ?_
  refine st_iadd (q := 1396) dL_law_1395 rfl ?_
  refine st_ialoadX (q := 1397) dL_law_1396 rfl (List.mem_of_getElem? (i := 10) rfl) (by decide) (ix2 (a := i) (b := 1) (by omega) (by omega)) rfl ?_
  refine st_aload_n (q := 1398) dL_law_1397 rfl rfl rfl ?_
  refine st_iload_n (q := 1399) dL_law_1398 rfl rfl rfl ?_
  refine st_iconst (q := 1400) dL_law_1399 rfl ic_2 ?_
  refine st_iadd (q := 1401) dL_law_1400 rfl ?_
  refine st_ialoadX (q := 1402) dL_law_1401 rfl (List.mem_of_getElem? (i := 10) rfl) (by decide) (ix2 (a := i) (b := 2) (by omega) (by omega)) rfl ?_
  refine st_aload_n (q := 1403) dL_law_1402 rfl rfl rfl ?_
  refine st_iload_n (q := 1404) dL_law_1403 rfl rfl rfl ?_
  refine st_iconst (q := 1405) dL_law_1404 rfl ic_3 ?_
  refine st_iadd (q := 1406) dL_law_1405 rfl ?_
  refine st_ialoadX (q := 1407) dL_law_1406 rfl (List.mem_of_getElem? (i := 10) rfl) (by decide) (ix2 (a := i) (b := 3) (by omega) (by omega)) rfl ?_
  refine sm_V3 (q := 1410) (M' := mX7_lay) dL_law_1407 rfl ok_X7_lay mk_X7_lay ml_L_174 ⟨Nat.le_of_ble_eq_true rfl, Nat.le_of_ble_eq_true rfl⟩ rfl (Nat.le_of_ble_eq_true rfl) (g_rv hM rfl) ⟨rfl, rfl⟩ (c_X7_lay Fr.rf hM hG.2.2.2.2.2.2.1) ?_
  intro _ n w h9 _
  obtain ⟨rfl, rfl, ⟨S1, hM, hs1, hg1⟩, hF_⟩ := h9
  replace hX := hX.keep (fun k hk => hF_ k (by omega))
  replace hG := hG.sh hs1 hg1
  refine st_icmp_eq (q := 1413) (tgt := 1504) dL_law_1410 rfl rfl (fun c_1410 => ?_) (fun c_1410 => False.elim (c_1410 rfl))
  exact kk w ⟨_, _, _, _, _, _, _, _, _, _, _, _, _, hX, hM, hG⟩
set_option maxRecDepth 100000 in
set_option maxHeartbeats 4000000 in
theorem lc_read {E : ev_E} {i : Nat} (hi : i + 5 ≤ E.2.2.2.1) (hL : E.2.2.2.1 ≤ 320) {w : ev_W} (h : LW w) (kk : ∀ w', LW w' → Ev E mL 1504 [some (.ref 1010), some (.ref 0), some (.ref 70), some (.int (nI i))] [] 82 w' (82, 2968) qL) : Ev E mL 1415 [some (.ref 1010), some (.ref 0), some (.ref 70), some (.int (nI i))] [] 82 w (82, 2968) qL := by
  obtain ⟨X, Tn, Ti, Tp, Sg, Sh, S, f, nh, nt, dd, tl, sz, hX, hM, hG⟩ := h
  refine st_aload_n (q := 1416) dL_law_1415 rfl rfl rfl ?_
  refine st_aload_n (q := 1417) dL_law_1416 rfl rfl rfl ?_
  refine st_iload_n (q := 1418) dL_law_1417 rfl rfl rfl ?_
  refine st_iconst (q := 1419) dL_law_1418 rfl ic_1 ?_
  refine st_iadd (q := 1420) dL_law_1419 rfl ?_
  refine st_ialoadX (q := 1421) dL_law_1420 rfl (List.mem_of_getElem? (i := 10) rfl) (by decide) (ix2 (a := i) (b := 1) (by omega) (by omega)) rfl ?_
  refine st_aload_n (q := 1422) dL_law_1421 rfl rfl rfl ?_
  refine st_iload_n (q := 1423) dL_law_1422 rfl rfl rfl ?_
  refine st_iconst (q := 1424) dL_law_1423 rfl ic_2 ?_
  refine st_iadd (q := 1425) dL_law_1424 rfl ?_
  refine st_ialoadX (q := 1426) dL_law_1425 rfl (List.mem_of_getElem? (i := 10) rfl) (by decide) (ix2 (a := i) (b := 2) (by omega) (by omega)) rfl ?_
  refine st_aload_n (q := 1427) dL_law_1426 rfl rfl rfl ?_
  refine st_iload_n (q := 1428) dL_law_1427 rfl rfl rfl ?_
  refine st_iconst (q := 1429) dL_law_1428 rfl ic_3 ?_
  refine st_iadd (q := 1430) dL_law_1429 rfl ?_
  refine st_ialoadX (q := 1431) dL_law_1430 rfl (List.mem_of_getElem? (i := 10) rfl) (by decide) (ix2 (a := i) (b := 3) (by omega) (by omega)) rfl ?_
  refine st_aload_n (q := 1432) dL_law_1431 rfl rfl rfl ?_
  refine st_iload_n (q := 1433) dL_law_1432 rfl rfl rfl ?_
  refine st_iconst (q := 1434) dL_law_1433 rfl ic_4 ?_
  refine st_iadd (q := 1435) dL_law_1434 rfl ?_
  refine st_ialoadX (q := 1436) dL_law_1435 rfl (List.mem_of_getElem? (i := 10) rfl) (by decide) (ix2 (a := i) (b := 4) (by omega) (by omega)) rfl ?_
  refine sm_V4 (q := 1439) (M' := mX6_read) dL_law_1436 rfl ok_X6_read mk_X6_read ml_L_175 ⟨Nat.le_of_ble_eq_true rfl, Nat.le_of_ble_eq_true rfl⟩ rfl (Nat.le_of_ble_eq_true rfl) (g_rv hX.x rfl) ⟨rfl, rfl⟩ (c_X6_read Fr.rf hX hG.tk hG.2.2.2.2.2.2.1.hk) ?_
  intro _ n w h9 _
  obtain ⟨rfl, rfl, hX, hF_⟩ := h9
  replace hM := GR.fr gkX7 hM (fun k h1 h2 => hF_ k (by omega))
  refine st_aload_n (q := 1440) dL_law_1439 rfl rfl rfl ?_
  refine st_aload_n (q := 1441) dL_law_1440 rfl rfl rfl ?_
  refine st_iload_n (q := 1442) dL_law_1441 rfl rfl rfl ?_
  refine st_iconst (q := 1443) dL_law_1442 rfl ic_1 ?_
  refine st_iadd (q := 1444) dL_law_1443 rfl ?_
  refine st_ialoadX (q := 1445) dL_law_1444 rfl (List.mem_of_getElem? (i := 10) rfl) (by decide) (ix2 (a := i) (b := 1) (by omega) (by omega)) rfl ?_
  refine st_aload_n (q := 1446) dL_law_1445 rfl rfl rfl ?_
  refine st_iload_n (q := 1447) dL_law_1446 rfl rfl rfl ?_
  refine st_iconst (q := 1448) dL_law_1447 rfl ic_2 ?_
  refine st_iadd (q := 1449) dL_law_1448 rfl ?_
  refine st_ialoadX (q := 1450) dL_law_1449 rfl (List.mem_of_getElem? (i := 10) rfl) (by decide) (ix2 (a := i) (b := 2) (by omega) (by omega)) rfl ?_
  refine st_aload_n (q := 1451) dL_law_1450 rfl rfl rfl ?_
  refine st_iload_n (q := 1452) dL_law_1451 rfl rfl rfl ?_
  refine st_iconst (q := 1453) dL_law_1452 rfl ic_3 ?_
  refine st_iadd (q := 1454) dL_law_1453 rfl ?_
  refine st_ialoadX (q := 1455) dL_law_1454 rfl (List.mem_of_getElem? (i := 10) rfl) (by decide) (ix2 (a := i) (b := 3) (by omega) (by omega)) rfl ?_
  refine st_aload_n (q := 1456) dL_law_1455 rfl rfl rfl ?_
  refine st_iload_n (q := 1457) dL_law_1456 rfl rfl rfl ?_
  refine st_iconst (q := 1458) dL_law_1457 rfl ic_4 ?_
  refine st_iadd (q := 1459) dL_law_1458 rfl ?_
  refine st_ialoadX (q := 1460) dL_law_1459 rfl (List.mem_of_getElem? (i := 10) rfl) (by decide) (ix2 (a := i) (b := 4) (by omega) (by omega)) rfl ?_
  refine sm_V4 (q := 1463) (M' := mX7_read) dL_law_1460 rfl ok_X7_read mk_X7_read ml_L_179 ⟨Nat.le_of_ble_eq_true rfl, Nat.le_of_ble_eq_true rfl⟩ rfl (Nat.le_of_ble_eq_true rfl) (g_rv hM rfl) ⟨rfl, rfl⟩ (c_X7_read Fr.rf hM hG.q hG.2.2.2.2.2.2.1) ?_
  intro _ n w h9 _
  obtain ⟨rfl, rfl, ⟨f1, hM, hr1, ho1⟩, hF_⟩ := h9
  replace hX := hX.keep (fun k hk => hF_ k (by omega))
  replace hG := hG.rd _ hr1 ho1
  refine st_icmp_eq (q := 1466) (tgt := 1504) dL_law_1463 rfl rfl (fun c_1463 => ?_) (fun c_1463 => False.elim (c_1463 rfl))
  exact kk w ⟨_, _, _, _, _, _, _, _, _, _, _, _, _, hX, hM, hG⟩
set_option maxRecDepth 100000 in
set_option maxHeartbeats 4000000 in
theorem lc_torn {E : ev_E} {i : Nat} (hi : i + 5 ≤ E.2.2.2.1) (hL : E.2.2.2.1 ≤ 320) {w : ev_W} (h : LW w) (kk : ∀ w', LW w' → Ev E mL 1504 [some (.ref 1010), some (.ref 0), some (.ref 70), some (.int (nI i))] [] 82 w' (82, 2968) qL) : Ev E mL 1468 [some (.ref 1010), some (.ref 0), some (.ref 70), some (.int (nI i))] [] 82 w (82, 2968) qL := by
  obtain ⟨X, Tn, Ti, Tp, Sg, Sh, S, f, nh, nt, dd, tl, sz, hX, hM, hG⟩ := h
  have heq : X 9 0 = S 28 0 := hG.2.2.2.2.1
  refine st_aload_n (q := 1469) dL_law_1468 rfl rfl rfl ?_
  refine sm_V0 (q := 1472) (M' := mX6_torn) dL_law_1469 rfl ok_X6_torn mk_X6_torn ml_L_180 ⟨Nat.le_of_ble_eq_true rfl, Nat.le_of_ble_eq_true rfl⟩ rfl (Nat.le_of_ble_eq_true rfl) (g_rv hX.x rfl) ⟨rfl, rfl⟩ (c_X6_torn hX) ?_
  intro _ n w h9 _
  obtain ⟨rfl, rfl, hX, hF_⟩ := h9
  replace hM := GR.fr gkX7 hM (fun k h1 h2 => hF_ k (by omega))
  refine st_aload_n (q := 1473) dL_law_1472 rfl rfl rfl ?_
  refine sm_V0 (q := 1476) (M' := mX7_torn) dL_law_1473 rfl ok_X7_torn mk_X7_torn ml_L_183 ⟨Nat.le_of_ble_eq_true rfl, Nat.le_of_ble_eq_true rfl⟩ rfl (Nat.le_of_ble_eq_true rfl) (g_rv hM rfl) ⟨rfl, rfl⟩ (c_X7_torn Fr.rf hM) ?_
  intro _ n w h9 _
  obtain ⟨rfl, rfl, hM, hF_⟩ := h9
  replace hX := hX.keep (fun k hk => hF_ k (by omega))
  refine st_icmp_eq (q := 1479) (tgt := 1504) dL_law_1476 rfl rfl (fun c_1476 => ?_) (fun c_1476 => False.elim (c_1476 heq))
  exact kk w ⟨_, _, _, _, _, _, _, _, _, _, _, _, _, hX, hM, hG⟩
set_option maxRecDepth 100000 in
set_option maxHeartbeats 4000000 in
theorem lc_count {E : ev_E} {i : Nat} (hi : i + 5 ≤ E.2.2.2.1) (hL : E.2.2.2.1 ≤ 320) {w : ev_W} (h : LW w) (kk : ∀ w', LW w' → Ev E mL 1504 [some (.ref 1010), some (.ref 0), some (.ref 70), some (.int (nI i))] [] 82 w' (82, 2968) qL) : Ev E mL 1481 [some (.ref 1010), some (.ref 0), some (.ref 70), some (.int (nI i))] [] 82 w (82, 2968) qL := by
  obtain ⟨X, Tn, Ti, Tp, Sg, Sh, S, f, nh, nt, dd, tl, sz, hX, hM, hG⟩ := h
  have heq := hG.cnt (E.2.2.2.2 (i + 1))
  refine st_aload_n (q := 1482) dL_law_1481 rfl rfl rfl ?_
  refine st_aload_n (q := 1483) dL_law_1482 rfl rfl rfl ?_
  refine st_iload_n (q := 1484) dL_law_1483 rfl rfl rfl ?_
  refine st_iconst (q := 1485) dL_law_1484 rfl ic_1 ?_
  refine st_iadd (q := 1486) dL_law_1485 rfl ?_
  refine st_ialoadX (q := 1487) dL_law_1486 rfl (List.mem_of_getElem? (i := 10) rfl) (by decide) (ix2 (a := i) (b := 1) (by omega) (by omega)) rfl ?_
  refine sm_V1 (q := 1490) (M' := mX6_count) dL_law_1487 rfl ok_X6_count mk_X6_count ml_L_184 ⟨Nat.le_of_ble_eq_true rfl, Nat.le_of_ble_eq_true rfl⟩ rfl (Nat.le_of_ble_eq_true rfl) (g_rv hX.x rfl) ⟨rfl, rfl⟩ (c_X6_count Fr.rf hX hG.tk) ?_
  intro _ n w h9 _
  obtain ⟨rfl, rfl, hX, hF_⟩ := h9
  replace hM := GR.fr gkX7 hM (fun k h1 h2 => hF_ k (by omega))
  refine st_aload_n (q := 1491) dL_law_1490 rfl rfl rfl ?_
  refine st_aload_n (q := 1492) dL_law_1491 rfl rfl rfl ?_
  refine st_iload_n (q := 1493) dL_law_1492 rfl rfl rfl ?_
  refine st_iconst (q := 1494) dL_law_1493 rfl ic_1 ?_
  refine st_iadd (q := 1495) dL_law_1494 rfl ?_
  refine st_ialoadX (q := 1496) dL_law_1495 rfl (List.mem_of_getElem? (i := 10) rfl) (by decide) (ix2 (a := i) (b := 1) (by omega) (by omega)) rfl ?_
  refine sm_V1 (q := 1499) (M' := mX7_count) dL_law_1496 rfl ok_X7_count mk_X7_count ml_L_187 ⟨Nat.le_of_ble_eq_true rfl, Nat.le_of_ble_eq_true rfl⟩ rfl (Nat.le_of_ble_eq_true rfl) (g_rv hM rfl) ⟨rfl, rfl⟩ (c_X7_count Fr.rf hM hG.q) ?_
  intro _ n w h9 _
  obtain ⟨rfl, rfl, hM, hF_⟩ := h9
  replace hX := hX.keep (fun k hk => hF_ k (by omega))
  refine st_icmp_eq (q := 1502) (tgt := 1504) dL_law_1499 rfl rfl (fun c_1499 => ?_) (fun c_1499 => False.elim (c_1499 heq))
  exact kk w ⟨_, _, _, _, _, _, _, _, _, _, _, _, _, hX, hM, hG⟩
set_option maxRecDepth 100000 in
set_option maxHeartbeats 4000000 in
theorem lc_text {E : ev_E} {i : Nat} (hi : i + 5 ≤ E.2.2.2.1) (hL : E.2.2.2.1 ≤ 320) {w : ev_W} (h : LW w) (kk : ∀ w', LW w' → Ev E mL 1504 [some (.ref 1010), some (.ref 0), some (.ref 70), some (.int (nI i))] [] 82 w' (82, 2968) qL) : Ev E mL 262 [some (.ref 1010), some (.ref 0), some (.ref 70), some (.int (nI i))] [] 82 w (82, 2968) qL := by
  obtain ⟨X, Tn, Ti, Tp, Sg, Sh, S, f, nh, nt, dd, tl, sz, hX, hM, hG⟩ := h
  refine st_aload_n (q := 263) dL_law_262 rfl rfl rfl ?_
  refine sm_V0 (q := 266) (M' := mX6_text) dL_law_263 rfl ok_X6_text mk_X6_text ml_L_22 ⟨Nat.le_of_ble_eq_true rfl, Nat.le_of_ble_eq_true rfl⟩ rfl (Nat.le_of_ble_eq_true rfl) (g_rv hX.x rfl) ⟨rfl, rfl⟩ (c_X6_text Fr.rf hX hG.2.2.1.1 hG.2.2.1.2.2.1) ?_
  intro _ n w h9 _
  obtain ⟨D, rfl, hF_, h9⟩ := h9
  replace hM := GR.fr gkX7 hM (fun k h1 h2 => hF_ k (by omega))
  replace hM := MR.row9 hM (fun k hk => (hG.2.2.1.2.2.2 k hk).1)
  replace hG := hG.row9
  cases ht : textF (Tp 0) tl (tl + 1) 0 (s0 D) with
  | inl e =>
    rw [ht] at h9
    obtain ⟨rfl, hX, -, -⟩ := h9
    refine st_aload_n (q := 267) dL_law_266 rfl rfl rfl ?_
    refine sm_V0 (q := 270) (M' := mX7_text) dL_law_267 rfl ok_X7_text mk_X7_text ml_L_26 ⟨Nat.le_of_ble_eq_true rfl, Nat.le_of_ble_eq_true rfl⟩ rfl (Nat.le_of_ble_eq_true rfl) (g_rv hM rfl) ⟨rfl, rfl⟩ (c_X7_text Fr.rf hM (hG.kx rfl) hG.2.2.2.2.2.2.2 (D := D)) ?_
    intro _ n w h9 _
    obtain ⟨rfl, h9, hF_⟩ := h9
    rw [ht] at h9
    obtain ⟨rfl, S1, hM, s10, s11, hs⟩ := h9
    replace hX := hX.keep (fun k hk => hF_ k (by omega))
    replace hG := hG.txE rfl s10 s11 hs
    refine st_icmp_eq (q := 273) (tgt := 1504) dL_law_270 rfl rfl (fun c_270 => ?_) (fun c_270 => False.elim (c_270 rfl))
    exact kk w ⟨_, _, _, _, _, _, _, _, _, _, _, _, _, hX, hM, hG⟩
  | inr y =>
    rw [ht] at h9
    obtain ⟨rfl, hX, -⟩ := h9
    refine st_aload_n (q := 267) dL_law_266 rfl rfl rfl ?_
    refine sm_V0 (q := 270) (M' := mX7_text) dL_law_267 rfl ok_X7_text mk_X7_text ml_L_26 ⟨Nat.le_of_ble_eq_true rfl, Nat.le_of_ble_eq_true rfl⟩ rfl (Nat.le_of_ble_eq_true rfl) (g_rv hM rfl) ⟨rfl, rfl⟩ (c_X7_text Fr.rf hM (hG.kx rfl) hG.2.2.2.2.2.2.2 (D := D)) ?_
    intro _ n w h9 _
    obtain ⟨rfl, h9, hF_⟩ := h9
    rw [ht] at h9
    obtain ⟨rfl, S1, f1, hM, hr1, s1, s2, s10, s11, s22, s24, s241, hs⟩ := h9
    replace hX := hX.keep (fun k hk => hF_ k (by omega))
    replace hG := hG.txS hr1 s1 s2 s10 s11 s22 s24 s241 hs
    refine st_icmp_eq (q := 273) (tgt := 1504) dL_law_270 rfl rfl (fun c_270 => ?_) (fun c_270 => False.elim (c_270 rfl))
    exact kk w ⟨_, _, _, _, _, _, _, _, _, _, _, _, _, hX, hM, hG⟩
