theorem gl_same {L : List Nat} {f : Nat → Bool} (hn : L.Nodup) {i j : Nat} (hi : i < L.length) (hf : f L[i] = true) (hj : j < (L.filter f).length) (he : L[i] = (L.filter f)[j]) : (L.take i).countP f = j := by
  have h1 := gl_nth hi hf
  rw [he, ← List.getElem?_eq_getElem hj] at h1
  have hnd : (L.filter f).Nodup := List.Pairwise.filter _ hn
  obtain ⟨h2, h3⟩ := List.getElem?_eq_some_iff.mp (h1.trans (List.getElem?_eq_getElem hj))
  rcases Nat.lt_trichotomy ((L.take i).countP f) j with g | g | g
  · unfold List.Nodup at hnd
    rw [List.pairwise_iff_getElem] at hnd
    exact absurd h3 (hnd _ _ h2 hj g)
  · exact g
  · unfold List.Nodup at hnd
    rw [List.pairwise_iff_getElem] at hnd
    exact absurd h3.symm (hnd _ _ hj h2 g)
theorem gl_all {L : List Nat} {f g : Nat → Bool} : L.all (fun x => f x == g x) = decide (L.filter f = L.filter g) := by
  rw [Bool.eq_iff_iff, List.all_eq_true, decide_eq_true_eq, gm_filter_eq]
  exact ⟨fun h x hx => beq_iff_eq.mp (h x hx), fun h x hx => beq_iff_eq.mpr (h x hx)⟩
theorem w_250 : Cond.methodLink RL 74 y_L_give ∈ WL := jwl 250 rfl rfl
theorem w_251 : Cond.static y_L_give ∈ WL := jwl 251 rfl rfl
theorem w_252 : Cond.codeWith y_L_give b_L_give 4 (some .int) [(0, 6, 9, 13), (0, 6, 12, 15), (0, 6, 15, 17)] ∈ WL := jwl 252 rfl rfl
theorem w_423 : Cond.methodLink RL 77 y_M_give ∈ WL := jwl 423 rfl rfl
theorem w_424 : Cond.instanceMethod y_M_give ∈ WL := jwl 424 rfl rfl
theorem w_425 : Cond.selects RM y_M_give y_M_give ∈ WL := jwl 425 rfl rfl
theorem w_426 : Cond.code y_M_give b_M_give 3 none ∈ WL := jwl 426 rfl rfl
theorem w_262 : Cond.methodLink RL 78 y_L_tell ∈ WL := jwl 262 rfl rfl
theorem w_263 : Cond.static y_L_tell ∈ WL := jwl 263 rfl rfl
theorem w_264 : Cond.codeWith y_L_tell b_L_tell 5 (some .int) [(0, 10, 13, 13)] ∈ WL := jwl 264 rfl rfl
theorem w_427 : Cond.methodLink RL 80 y_M_tell ∈ WL := jwl 427 rfl rfl
theorem w_428 : Cond.instanceMethod y_M_tell ∈ WL := jwl 428 rfl rfl
theorem w_429 : Cond.selects RM y_M_tell y_M_tell ∈ WL := jwl 429 rfl rfl
theorem w_430 : Cond.code y_M_tell b_M_tell 5 (some .int) ∈ WL := jwl 430 rfl rfl
theorem w_269 : Cond.methodLink RL 81 y_L_holds ∈ WL := jwl 269 rfl rfl
theorem w_270 : Cond.static y_L_holds ∈ WL := jwl 270 rfl rfl
theorem w_271 : Cond.codeWith y_L_holds b_L_holds 5 (some .int) [(0, 17, 20, 13), (0, 17, 24, 15)] ∈ WL := jwl 271 rfl rfl
theorem w_431 : Cond.methodLink RL 83 y_M_holds ∈ WL := jwl 431 rfl rfl
theorem w_432 : Cond.instanceMethod y_M_holds ∈ WL := jwl 432 rfl rfl
theorem w_433 : Cond.selects RM y_M_holds y_M_holds ∈ WL := jwl 433 rfl rfl
theorem w_434 : Cond.code y_M_holds b_M_holds 3 (some .boolean) ∈ WL := jwl 434 rfl rfl
theorem w_276 : Cond.methodLink RL 84 y_L_at ∈ WL := jwl 276 rfl rfl
theorem w_277 : Cond.static y_L_at ∈ WL := jwl 277 rfl rfl
theorem w_278 : Cond.codeWith y_L_at b_L_at 5 (some .int) [(0, 10, 13, 13)] ∈ WL := jwl 278 rfl rfl
theorem w_435 : Cond.methodLink RL 86 y_M_at ∈ WL := jwl 435 rfl rfl
theorem w_436 : Cond.instanceMethod y_M_at ∈ WL := jwl 436 rfl rfl
theorem w_437 : Cond.selects RM y_M_at y_M_at ∈ WL := jwl 437 rfl rfl
theorem w_438 : Cond.code y_M_at b_M_at 3 (some .int) ∈ WL := jwl 438 rfl rfl
theorem w_287 : Cond.methodLink RL 87 y_L_place ∈ WL := jwl 287 rfl rfl
theorem w_288 : Cond.static y_L_place ∈ WL := jwl 288 rfl rfl
theorem w_289 : Cond.codeWith y_L_place b_L_place 5 (some .int) [(0, 10, 13, 13), (0, 10, 17, 15), (0, 10, 21, 17)] ∈ WL := jwl 289 rfl rfl
theorem w_459 : Cond.methodLink RL 89 y_M_place ∈ WL := jwl 459 rfl rfl
theorem w_460 : Cond.instanceMethod y_M_place ∈ WL := jwl 460 rfl rfl
theorem w_461 : Cond.selects RM y_M_place y_M_place ∈ WL := jwl 461 rfl rfl
theorem w_462 : Cond.code y_M_place b_M_place 4 (some .int) ∈ WL := jwl 462 rfl rfl
theorem w_294 : Cond.methodLink RL 90 y_L_value ∈ WL := jwl 294 rfl rfl
theorem w_295 : Cond.static y_L_value ∈ WL := jwl 295 rfl rfl
theorem w_296 : Cond.codeWith y_L_value b_L_value 4 (some .int) [(0, 8, 11, 15)] ∈ WL := jwl 296 rfl rfl
theorem w_463 : Cond.methodLink RL 93 y_M_value ∈ WL := jwl 463 rfl rfl
theorem w_464 : Cond.instanceMethod y_M_value ∈ WL := jwl 464 rfl rfl
theorem w_465 : Cond.selects RM y_M_value y_M_value ∈ WL := jwl 465 rfl rfl
theorem w_466 : Cond.code y_M_value b_M_value 2 (some .long) ∈ WL := jwl 466 rfl rfl
theorem w_302 : Cond.methodLink RL 94 y_L_stamp ∈ WL := jwl 302 rfl rfl
theorem w_303 : Cond.static y_L_stamp ∈ WL := jwl 303 rfl rfl
theorem w_304 : Cond.codeWith y_L_stamp b_L_stamp 4 (some .int) [(0, 9, 12, 15)] ∈ WL := jwl 304 rfl rfl
theorem w_467 : Cond.methodLink RL 96 y_M_stamp ∈ WL := jwl 467 rfl rfl
theorem w_468 : Cond.instanceMethod y_M_stamp ∈ WL := jwl 468 rfl rfl
theorem w_469 : Cond.selects RM y_M_stamp y_M_stamp ∈ WL := jwl 469 rfl rfl
theorem w_470 : Cond.code y_M_stamp b_M_stamp 2 (some .int) ∈ WL := jwl 470 rfl rfl
theorem w_309 : Cond.methodLink RL 97 y_L_count ∈ WL := jwl 309 rfl rfl
theorem w_310 : Cond.static y_L_count ∈ WL := jwl 310 rfl rfl
theorem w_311 : Cond.codeWith y_L_count b_L_count 5 (some .int) [(0, 10, 13, 13)] ∈ WL := jwl 311 rfl rfl
theorem w_471 : Cond.methodLink RL 99 y_M_count ∈ WL := jwl 471 rfl rfl
theorem w_472 : Cond.instanceMethod y_M_count ∈ WL := jwl 472 rfl rfl
theorem w_473 : Cond.selects RM y_M_count y_M_count ∈ WL := jwl 473 rfl rfl
theorem w_474 : Cond.code y_M_count b_M_count 5 (some .int) ∈ WL := jwl 474 rfl rfl
theorem w_329 : Cond.methodLink RL 100 y_L_same ∈ WL := jwl 329 rfl rfl
theorem w_330 : Cond.static y_L_same ∈ WL := jwl 330 rfl rfl
theorem w_331 : Cond.codeWith y_L_same b_L_same 5 (some .int) [(0, 17, 20, 13)] ∈ WL := jwl 331 rfl rfl
theorem w_475 : Cond.methodLink RL 102 y_M_same ∈ WL := jwl 475 rfl rfl
theorem w_476 : Cond.instanceMethod y_M_same ∈ WL := jwl 476 rfl rfl
theorem w_477 : Cond.selects RM y_M_same y_M_same ∈ WL := jwl 477 rfl rfl
theorem w_478 : Cond.code y_M_same b_M_same 5 (some .boolean) ∈ WL := jwl 478 rfl rfl
set_option maxHeartbeats 4000000 in
set_option maxRecDepth 100000 in
theorem lawc_give {p : Program} {e : Env} {s : State} {m : MethodId} {below : List Frame} {meth : Method} {c : Code} (l : Launch) (D : va_G) (ad am : Nat → Nat) (ao : Nat) (cB cI cL : ClassId) {b LL : Nat} {xs : Nat → Int32} {Q : State → Prop} {A : Nat → Prop} (hl : l.stackTraces = false) (F : jw_F p s m #[Value.ref b] meth c D vCl (vTy cB cI cL) A 8 b_L_law RL (Cond.initialized RL :: WL) ret) (hZ : jz_Y A s) (hX : va_X b LL xs s s.heap) (hbl : b < s.heap.size) (hbA : ¬ A b) (hLL : LL ≤ 2560) (i nc ns : Nat) (hi : i + 5 ≤ LL) (hnc : nc + 1 ≤ 1051) (hns : ns + 6 ≤ 11457) (a : AS) (L : List Nat) (f0 f1 f2 f3 f4 f5 f6 f7 : Nat → Int32) (v : Nat → Int64) (md ln : Int32) (go gc gb gd gh gr gt gk : Nat → Int32) (gn : Nat → Int64) (er op sz : Int32) (o : Nat → Int64) (hQ : cx_R a L f0 f1 f2 f3 f4 f5 f6 f7 v md ln) (hQm : mx_R a go gc gb gd gh gn op) (kk : ∀ (a : AS) (L : List Nat) (f0 f1 f2 f3 f4 f5 f6 f7 : Nat → Int32) (v : Nat → Int64) (md ln : Int32) (go gc gb gd gh gr gt gk : Nat → Int32) (gn : Nat → Int64) (er op sz : Int32) (o : Nat → Int64), cx_R a L f0 f1 f2 f3 f4 f5 f6 f7 v md ln → mx_R a go gc gb gd gh gn op → jw_J p l e room_1 s m #[Value.ref b] below meth c D vCl A 8 Q (nc + 1) (ns + 6) 857 [(0, .ref b), (1, .ref (ad 0)), (2, .ref (am 0)), (3, .ref ao), (4, .int (nI i))] [] (wM am cB cI cL go gc gb gd gh gr gt gk gn er op sz ++ wX ad cB cI cL f0 f1 f2 f3 f4 f5 f6 f7 v md ln ++ wO ao cL o)) : jw_J p l e room_1 s m #[Value.ref b] below meth c D vCl A 8 Q (nc) (ns) 276 [(0, .ref b), (1, .ref (ad 0)), (2, .ref (am 0)), (3, .ref ao), (4, .int (nI i))] [] (wM am cB cI cL go gc gb gd gh gr gt gk gn er op sz ++ wX ad cB cI cL f0 f1 f2 f3 f4 f5 f6 f7 v md ln ++ wO ao cL o) := by
  have hn := hQ.1.1
  cases hr1 : a_isrep (xs (i + 1))
  · refine jw_aload_n (pc := 276) F 1 d_L_law_276 rfl rfl ?_
    refine jw_aload_n (pc := 277) F 0 d_L_law_277 rfl rfl ?_
    refine jw_iload (pc := 278) F 4 d_L_law_278 rfl ?_
    refine jw_iconst (pc := 280) (v := nI 1) F d_L_law_280 (by decide) ?_
    refine jw_iadd (pc := 281) F d_L_law_281 ?_
    rw [nI_add]
    refine jw_sld (pc := 282) F hX hbl hbA (i + 1) rfl (by omega) (by omega) d_L_law_282 ?_
    refine jw_aload_n (pc := 283) F 0 d_L_law_283 rfl rfl ?_
    refine jw_iload (pc := 284) F 4 d_L_law_284 rfl ?_
    refine jw_iconst (pc := 286) (v := nI 2) F d_L_law_286 (by decide) ?_
    refine jw_iadd (pc := 287) F d_L_law_287 ?_
    rw [nI_add]
    refine jw_sld (pc := 288) F hX hbl hbA (i + 2) rfl (by omega) (by omega) d_L_law_288 ?_
    refine jw_callSW_N (pc := 289) (As := [.ref (ad 0), .int (xs (i + 1)), .int (xs (i + 2))]) (rest := []) F jz_okY hZ (wM am cB cI cL go gc gb gd gh gr gt gk gn er op sz) (wO ao cL o) (w_give_1 l D ad cB cI cL f0 f1 f2 f3 f4 f5 f6 f7 v md ln a L hQ (xs (i + 1)) hr1 (xs (i + 2)) hl) (jw_cwSW F.1.2.2.2.2 wl_good w_250 w_251 w_28 w_252 hd_L_give.2 ⟨by decide, by decide⟩) rfl rfl rfl (Nat.le_of_ble_eq_true rfl) d_L_law_289 ⟨by show nc + 1 ≤ 1051; omega, by show ns + 6 ≤ 11457; omega⟩ (fun r w hw => ?_)
    obtain ⟨rfl, rfl⟩ := hw
    refine jw_at (lv' := [(0, .ref b), (1, .ref (ad 0)), (2, .ref (am 0)), (3, .ref ao), (4, .int (nI i))]) (st' := [.int 1]) (ws' := wM am cB cI cL go gc gb gd gh gr gt gk gn er op sz ++ wX ad cB cI cL f0 f1 f2 f3 f4 f5 f6 f7 v md ln ++ wO ao cL o) rfl rfl rfl ?_
    refine jw_istore (pc := 292) (lv' := [(0, .ref b), (1, .ref (ad 0)), (2, .ref (am 0)), (3, .ref ao), (4, .int (nI i)), (5, .int 1)]) F d_L_law_292 (by decide) rfl ?_
    refine jw_aload_n (pc := 294) F 2 d_L_law_294 rfl rfl ?_
    refine jw_aload_n (pc := 295) F 0 d_L_law_295 rfl rfl ?_
    refine jw_iload (pc := 296) F 4 d_L_law_296 rfl ?_
    refine jw_iconst (pc := 298) (v := nI 1) F d_L_law_298 (by decide) ?_
    refine jw_iadd (pc := 299) F d_L_law_299 ?_
    rw [nI_add]
    refine jw_sld (pc := 300) F hX hbl hbA (i + 1) rfl (by omega) (by omega) d_L_law_300 ?_
    refine jw_aload_n (pc := 301) F 0 d_L_law_301 rfl rfl ?_
    refine jw_iload (pc := 302) F 4 d_L_law_302 rfl ?_
    refine jw_iconst (pc := 304) (v := nI 2) F d_L_law_304 (by decide) ?_
    refine jw_iadd (pc := 305) F d_L_law_305 ?_
    rw [nI_add]
    refine jw_sld (pc := 306) F hX hbl hbA (i + 2) rfl (by omega) (by omega) d_L_law_306 ?_
    refine jw_callV_Gv (pc := 307) (As := [.int (xs (i + 1)), .int (xs (i + 2))]) (rest := []) F ([]) (wX ad cB cI cL f0 f1 f2 f3 f4 f5 f6 f7 v md ln ++ wO ao cL o) (m_give_1 l D am cB cI cL go gc gb gd gh gr gt gk gn er op sz a hQm (xs (i + 1)) hr1 (xs (i + 2))) (jw_cwV F.1.2.2.2.2 wl_good w_423 w_424 w_425 w_30 w_426 hd_M_give ⟨by decide, by decide⟩) 0 1 rfl rfl rfl (List.append_assoc _ _ _) rfl rfl (Nat.le_of_ble_eq_true rfl) d_L_law_307 ⟨rfl, rfl⟩ ⟨by show nc + 1 ≤ 1051; omega, by show ns + 6 ≤ 11457; omega⟩ (fun w hw => ?_)
    obtain rfl := hw
    refine jw_at (lv' := [(0, .ref b), (1, .ref (ad 0)), (2, .ref (am 0)), (3, .ref ao), (4, .int (nI i)), (5, .int 1)]) (st' := []) (ws' := wM am cB cI cL go gc gb gd gh gr gt gk gn 1 op sz ++ wX ad cB cI cL f0 f1 f2 f3 f4 f5 f6 f7 v md ln ++ wO ao cL o) rfl rfl (by rw [List.nil_append, List.append_assoc]) ?_
    refine jw_aload_n (pc := 310) F 2 d_L_law_310 rfl rfl ?_
    refine jw_callV_Ei (pc := 311) (As := []) (rest := []) F ([]) (wX ad cB cI cL f0 f1 f2 f3 f4 f5 f6 f7 v md ln ++ wO ao cL o) (m_thrown l D am cB cI cL go gc gb gd gh gr gt gk gn 1 op sz) (jw_cwV F.1.2.2.2.2 wl_good w_379 w_380 w_381 w_30 w_382 hd_M_thrown ⟨by decide, by decide⟩) 0 1 rfl rfl rfl (List.append_assoc _ _ _) rfl rfl (Nat.le_of_ble_eq_true rfl) d_L_law_311 ⟨rfl, rfl⟩ ⟨by show nc + 1 ≤ 1051; omega, by show ns + 6 ≤ 11457; omega⟩ ?_
    refine jw_iload (pc := 314) F 5 d_L_law_314 rfl ?_
    refine jw_icmp_eq (pc := 316) F 321 d_L_law_316 (by decide) (fun hz1 => ?_) (fun hz1 => False.elim (hz1 rfl))
    refine jw_goto (pc := 321) F 857 d_L_law_321 (by decide) ?_
    refine jw_loc (lv' := [(0, .ref b), (1, .ref (ad 0)), (2, .ref (am 0)), (3, .ref ao), (4, .int (nI i))]) [0, 1, 2, 3, 4] rfl ?_
    refine jw_widen (k := nc + 1) (n := ns + 6) (by show nc + 1 ≤ nc + 1; omega) (by show ns + 6 ≤ ns + 6; omega) ?_
    exact kk a L f0 f1 f2 f3 f4 f5 f6 f7 v md ln go gc gb gd gh gr gt gk gn 1 op sz o hQ hQm
  · obtain ⟨r, hr, hr2⟩ := a_isrep_t hr1
    cases hk1 : a_isop (a_n a) (xs (i + 2))
    · refine jw_aload_n (pc := 276) F 1 d_L_law_276 rfl rfl ?_
      refine jw_aload_n (pc := 277) F 0 d_L_law_277 rfl rfl ?_
      refine jw_iload (pc := 278) F 4 d_L_law_278 rfl ?_
      refine jw_iconst (pc := 280) (v := nI 1) F d_L_law_280 (by decide) ?_
      refine jw_iadd (pc := 281) F d_L_law_281 ?_
      rw [nI_add]
      refine jw_sld (pc := 282) F hX hbl hbA (i + 1) rfl (by omega) (by omega) d_L_law_282 ?_
      rw [hr2]
      refine jw_aload_n (pc := 283) F 0 d_L_law_283 rfl rfl ?_
      refine jw_iload (pc := 284) F 4 d_L_law_284 rfl ?_
      refine jw_iconst (pc := 286) (v := nI 2) F d_L_law_286 (by decide) ?_
      refine jw_iadd (pc := 287) F d_L_law_287 ?_
      rw [nI_add]
      refine jw_sld (pc := 288) F hX hbl hbA (i + 2) rfl (by omega) (by omega) d_L_law_288 ?_
      refine jw_callSW_N (pc := 289) (As := [.ref (ad 0), .int (nI r), .int (xs (i + 2))]) (rest := []) F jz_okY hZ (wM am cB cI cL go gc gb gd gh gr gt gk gn er op sz) (wO ao cL o) (w_give_2 l D ad cB cI cL f0 f1 f2 f3 f4 f5 f6 f7 v md ln a L hQ r hr (xs (i + 2)) hk1 hl) (jw_cwSW F.1.2.2.2.2 wl_good w_250 w_251 w_28 w_252 hd_L_give.2 ⟨by decide, by decide⟩) rfl rfl rfl (Nat.le_of_ble_eq_true rfl) d_L_law_289 ⟨by show nc + 1 ≤ 1051; omega, by show ns + 6 ≤ 11457; omega⟩ (fun r w hw => ?_)
      obtain ⟨rfl, rfl⟩ := hw
      refine jw_at (lv' := [(0, .ref b), (1, .ref (ad 0)), (2, .ref (am 0)), (3, .ref ao), (4, .int (nI i))]) (st' := [.int 2]) (ws' := wM am cB cI cL go gc gb gd gh gr gt gk gn er op sz ++ wX ad cB cI cL f0 f1 f2 f3 f4 f5 f6 f7 v md ln ++ wO ao cL o) rfl rfl rfl ?_
      refine jw_istore (pc := 292) (lv' := [(0, .ref b), (1, .ref (ad 0)), (2, .ref (am 0)), (3, .ref ao), (4, .int (nI i)), (5, .int 2)]) F d_L_law_292 (by decide) rfl ?_
      refine jw_aload_n (pc := 294) F 2 d_L_law_294 rfl rfl ?_
      refine jw_aload_n (pc := 295) F 0 d_L_law_295 rfl rfl ?_
      refine jw_iload (pc := 296) F 4 d_L_law_296 rfl ?_
      refine jw_iconst (pc := 298) (v := nI 1) F d_L_law_298 (by decide) ?_
      refine jw_iadd (pc := 299) F d_L_law_299 ?_
      rw [nI_add]
      refine jw_sld (pc := 300) F hX hbl hbA (i + 1) rfl (by omega) (by omega) d_L_law_300 ?_
      rw [hr2]
      refine jw_aload_n (pc := 301) F 0 d_L_law_301 rfl rfl ?_
      refine jw_iload (pc := 302) F 4 d_L_law_302 rfl ?_
      refine jw_iconst (pc := 304) (v := nI 2) F d_L_law_304 (by decide) ?_
      refine jw_iadd (pc := 305) F d_L_law_305 ?_
      rw [nI_add]
      refine jw_sld (pc := 306) F hX hbl hbA (i + 2) rfl (by omega) (by omega) d_L_law_306 ?_
      refine jw_callV_Gv (pc := 307) (As := [.int (nI r), .int (xs (i + 2))]) (rest := []) F ([]) (wX ad cB cI cL f0 f1 f2 f3 f4 f5 f6 f7 v md ln ++ wO ao cL o) (m_give_2 l D am cB cI cL go gc gb gd gh gr gt gk gn er op sz a hQm r hr (xs (i + 2)) hk1) (jw_cwV F.1.2.2.2.2 wl_good w_423 w_424 w_425 w_30 w_426 hd_M_give ⟨by decide, by decide⟩) 0 1 rfl rfl rfl (List.append_assoc _ _ _) rfl rfl (Nat.le_of_ble_eq_true rfl) d_L_law_307 ⟨rfl, rfl⟩ ⟨by show nc + 1 ≤ 1051; omega, by show ns + 6 ≤ 11457; omega⟩ (fun w hw => ?_)
      obtain rfl := hw
      refine jw_at (lv' := [(0, .ref b), (1, .ref (ad 0)), (2, .ref (am 0)), (3, .ref ao), (4, .int (nI i)), (5, .int 2)]) (st' := []) (ws' := wM am cB cI cL go gc gb gd gh gr gt gk gn 2 op sz ++ wX ad cB cI cL f0 f1 f2 f3 f4 f5 f6 f7 v md ln ++ wO ao cL o) rfl rfl (by rw [List.nil_append, List.append_assoc]) ?_
      refine jw_aload_n (pc := 310) F 2 d_L_law_310 rfl rfl ?_
      refine jw_callV_Ei (pc := 311) (As := []) (rest := []) F ([]) (wX ad cB cI cL f0 f1 f2 f3 f4 f5 f6 f7 v md ln ++ wO ao cL o) (m_thrown l D am cB cI cL go gc gb gd gh gr gt gk gn 2 op sz) (jw_cwV F.1.2.2.2.2 wl_good w_379 w_380 w_381 w_30 w_382 hd_M_thrown ⟨by decide, by decide⟩) 0 1 rfl rfl rfl (List.append_assoc _ _ _) rfl rfl (Nat.le_of_ble_eq_true rfl) d_L_law_311 ⟨rfl, rfl⟩ ⟨by show nc + 1 ≤ 1051; omega, by show ns + 6 ≤ 11457; omega⟩ ?_
      refine jw_iload (pc := 314) F 5 d_L_law_314 rfl ?_
      refine jw_icmp_eq (pc := 316) F 321 d_L_law_316 (by decide) (fun hz2 => ?_) (fun hz2 => False.elim (hz2 rfl))
      refine jw_goto (pc := 321) F 857 d_L_law_321 (by decide) ?_
      refine jw_loc (lv' := [(0, .ref b), (1, .ref (ad 0)), (2, .ref (am 0)), (3, .ref ao), (4, .int (nI i))]) [0, 1, 2, 3, 4] rfl ?_
      refine jw_widen (k := nc + 1) (n := ns + 6) (by show nc + 1 ≤ nc + 1; omega) (by show ns + 6 ≤ ns + 6; omega) ?_
      exact kk a L f0 f1 f2 f3 f4 f5 f6 f7 v md ln go gc gb gd gh gr gt gk gn 2 op sz o hQ hQm
    · obtain ⟨k, hk, hk2⟩ := a_isop_t (by omega) hk1
      by_cases ht1 : a_tg a k = -1
      · refine jw_aload_n (pc := 276) F 1 d_L_law_276 rfl rfl ?_
        refine jw_aload_n (pc := 277) F 0 d_L_law_277 rfl rfl ?_
        refine jw_iload (pc := 278) F 4 d_L_law_278 rfl ?_
        refine jw_iconst (pc := 280) (v := nI 1) F d_L_law_280 (by decide) ?_
        refine jw_iadd (pc := 281) F d_L_law_281 ?_
        rw [nI_add]
        refine jw_sld (pc := 282) F hX hbl hbA (i + 1) rfl (by omega) (by omega) d_L_law_282 ?_
        rw [hr2]
        refine jw_aload_n (pc := 283) F 0 d_L_law_283 rfl rfl ?_
        refine jw_iload (pc := 284) F 4 d_L_law_284 rfl ?_
        refine jw_iconst (pc := 286) (v := nI 2) F d_L_law_286 (by decide) ?_
        refine jw_iadd (pc := 287) F d_L_law_287 ?_
        rw [nI_add]
        refine jw_sld (pc := 288) F hX hbl hbA (i + 2) rfl (by omega) (by omega) d_L_law_288 ?_
        rw [hk2]
        refine jw_callSW_M (pc := 289) (As := [.ref (ad 0), .int (nI r), .int (nI k)]) (rest := []) F (wM am cB cI cL go gc gb gd gh gr gt gk gn er op sz) (wO ao cL o) (w_give_0 l D ad cB cI cL f0 f1 f2 f3 f4 f5 f6 f7 v md ln a L hQ r hr k hk (Or.inl ht1)) (jw_cwSW F.1.2.2.2.2 wl_good w_250 w_251 w_28 w_252 hd_L_give.2 ⟨by decide, by decide⟩) rfl rfl rfl (Nat.le_of_ble_eq_true rfl) d_L_law_289 ⟨by show nc + 0 ≤ 1051; omega, by show ns + 0 ≤ 11457; omega⟩ (fun r w hw => ?_)
        obtain ⟨rfl, g0, g1, g2, g3, g4, g5, g6, g7, gv, gm, gl, rfl, hQ2⟩ := hw
        refine jw_at (lv' := [(0, .ref b), (1, .ref (ad 0)), (2, .ref (am 0)), (3, .ref ao), (4, .int (nI i))]) (st' := [.int 0]) (ws' := wM am cB cI cL go gc gb gd gh gr gt gk gn er op sz ++ wX ad cB cI cL g0 g1 g2 g3 g4 g5 g6 g7 gv gm gl ++ wO ao cL o) rfl rfl rfl ?_
        refine jw_istore (pc := 292) (lv' := [(0, .ref b), (1, .ref (ad 0)), (2, .ref (am 0)), (3, .ref ao), (4, .int (nI i)), (5, .int 0)]) F d_L_law_292 (by decide) rfl ?_
        refine jw_aload_n (pc := 294) F 2 d_L_law_294 rfl rfl ?_
        refine jw_aload_n (pc := 295) F 0 d_L_law_295 rfl rfl ?_
        refine jw_iload (pc := 296) F 4 d_L_law_296 rfl ?_
        refine jw_iconst (pc := 298) (v := nI 1) F d_L_law_298 (by decide) ?_
        refine jw_iadd (pc := 299) F d_L_law_299 ?_
        rw [nI_add]
        refine jw_sld (pc := 300) F hX hbl hbA (i + 1) rfl (by omega) (by omega) d_L_law_300 ?_
        rw [hr2]
        refine jw_aload_n (pc := 301) F 0 d_L_law_301 rfl rfl ?_
        refine jw_iload (pc := 302) F 4 d_L_law_302 rfl ?_
        refine jw_iconst (pc := 304) (v := nI 2) F d_L_law_304 (by decide) ?_
        refine jw_iadd (pc := 305) F d_L_law_305 ?_
        rw [nI_add]
        refine jw_sld (pc := 306) F hX hbl hbA (i + 2) rfl (by omega) (by omega) d_L_law_306 ?_
        rw [hk2]
        refine jw_callV_Gv (pc := 307) (As := [.int (nI r), .int (nI k)]) (rest := []) F ([]) (wX ad cB cI cL g0 g1 g2 g3 g4 g5 g6 g7 gv gm gl ++ wO ao cL o) (m_give_0 l D am cB cI cL go gc gb gd gh gr gt gk gn er op sz a hQm r hr k hk (Or.inl ht1)) (jw_cwV F.1.2.2.2.2 wl_good w_423 w_424 w_425 w_30 w_426 hd_M_give ⟨by decide, by decide⟩) 0 1 rfl rfl rfl (List.append_assoc _ _ _) rfl rfl (Nat.le_of_ble_eq_true rfl) d_L_law_307 ⟨rfl, rfl⟩ ⟨by show nc + 0 ≤ 1051; omega, by show ns + 0 ≤ 11457; omega⟩ (fun w hw => ?_)
        obtain ⟨ko, kc, kb, kd, kh, kn, ko2, rfl, hQm2⟩ := hw
        refine jw_at (lv' := [(0, .ref b), (1, .ref (ad 0)), (2, .ref (am 0)), (3, .ref ao), (4, .int (nI i)), (5, .int 0)]) (st' := []) (ws' := wM am cB cI cL ko kc kb kd kh gr gt gk kn 0 ko2 sz ++ wX ad cB cI cL g0 g1 g2 g3 g4 g5 g6 g7 gv gm gl ++ wO ao cL o) rfl rfl (by rw [List.nil_append, List.append_assoc]) ?_
        refine jw_aload_n (pc := 310) F 2 d_L_law_310 rfl rfl ?_
        refine jw_callV_Ei (pc := 311) (As := []) (rest := []) F ([]) (wX ad cB cI cL g0 g1 g2 g3 g4 g5 g6 g7 gv gm gl ++ wO ao cL o) (m_thrown l D am cB cI cL ko kc kb kd kh gr gt gk kn 0 ko2 sz) (jw_cwV F.1.2.2.2.2 wl_good w_379 w_380 w_381 w_30 w_382 hd_M_thrown ⟨by decide, by decide⟩) 0 1 rfl rfl rfl (List.append_assoc _ _ _) rfl rfl (Nat.le_of_ble_eq_true rfl) d_L_law_311 ⟨rfl, rfl⟩ ⟨by show nc + 0 ≤ 1051; omega, by show ns + 0 ≤ 11457; omega⟩ ?_
        refine jw_iload (pc := 314) F 5 d_L_law_314 rfl ?_
        refine jw_icmp_eq (pc := 316) F 321 d_L_law_316 (by decide) (fun hz3 => ?_) (fun hz3 => False.elim (hz3 rfl))
        refine jw_goto (pc := 321) F 857 d_L_law_321 (by decide) ?_
        refine jw_loc (lv' := [(0, .ref b), (1, .ref (ad 0)), (2, .ref (am 0)), (3, .ref ao), (4, .int (nI i))]) [0, 1, 2, 3, 4] rfl ?_
        refine jw_widen (k := nc + 1) (n := ns + 6) (by show nc + 0 ≤ nc + 1; omega) (by show ns + 0 ≤ ns + 6; omega) ?_
        exact kk (ab_take a r k) L g0 g1 g2 g3 g4 g5 g6 g7 gv gm gl ko kc kb kd kh gr gt gk kn 0 ko2 sz o hQ2 hQm2
      · cases hh : a_haseB a r (a_tg a k)
        · refine jw_aload_n (pc := 276) F 1 d_L_law_276 rfl rfl ?_
          refine jw_aload_n (pc := 277) F 0 d_L_law_277 rfl rfl ?_
          refine jw_iload (pc := 278) F 4 d_L_law_278 rfl ?_
          refine jw_iconst (pc := 280) (v := nI 1) F d_L_law_280 (by decide) ?_
          refine jw_iadd (pc := 281) F d_L_law_281 ?_
          rw [nI_add]
          refine jw_sld (pc := 282) F hX hbl hbA (i + 1) rfl (by omega) (by omega) d_L_law_282 ?_
          rw [hr2]
          refine jw_aload_n (pc := 283) F 0 d_L_law_283 rfl rfl ?_
          refine jw_iload (pc := 284) F 4 d_L_law_284 rfl ?_
          refine jw_iconst (pc := 286) (v := nI 2) F d_L_law_286 (by decide) ?_
          refine jw_iadd (pc := 287) F d_L_law_287 ?_
          rw [nI_add]
          refine jw_sld (pc := 288) F hX hbl hbA (i + 2) rfl (by omega) (by omega) d_L_law_288 ?_
          rw [hk2]
          refine jw_callSW_N (pc := 289) (As := [.ref (ad 0), .int (nI r), .int (nI k)]) (rest := []) F jz_okY hZ (wM am cB cI cL go gc gb gd gh gr gt gk gn er op sz) (wO ao cL o) (w_give_3 l D ad cB cI cL f0 f1 f2 f3 f4 f5 f6 f7 v md ln a L hQ r hr k hk ht1 hh hl) (jw_cwSW F.1.2.2.2.2 wl_good w_250 w_251 w_28 w_252 hd_L_give.2 ⟨by decide, by decide⟩) rfl rfl rfl (Nat.le_of_ble_eq_true rfl) d_L_law_289 ⟨by show nc + 1 ≤ 1051; omega, by show ns + 6 ≤ 11457; omega⟩ (fun r w hw => ?_)
          obtain ⟨rfl, rfl⟩ := hw
          refine jw_at (lv' := [(0, .ref b), (1, .ref (ad 0)), (2, .ref (am 0)), (3, .ref ao), (4, .int (nI i))]) (st' := [.int 3]) (ws' := wM am cB cI cL go gc gb gd gh gr gt gk gn er op sz ++ wX ad cB cI cL f0 f1 f2 f3 f4 f5 f6 f7 v md ln ++ wO ao cL o) rfl rfl rfl ?_
          refine jw_istore (pc := 292) (lv' := [(0, .ref b), (1, .ref (ad 0)), (2, .ref (am 0)), (3, .ref ao), (4, .int (nI i)), (5, .int 3)]) F d_L_law_292 (by decide) rfl ?_
          refine jw_aload_n (pc := 294) F 2 d_L_law_294 rfl rfl ?_
          refine jw_aload_n (pc := 295) F 0 d_L_law_295 rfl rfl ?_
          refine jw_iload (pc := 296) F 4 d_L_law_296 rfl ?_
          refine jw_iconst (pc := 298) (v := nI 1) F d_L_law_298 (by decide) ?_
          refine jw_iadd (pc := 299) F d_L_law_299 ?_
          rw [nI_add]
          refine jw_sld (pc := 300) F hX hbl hbA (i + 1) rfl (by omega) (by omega) d_L_law_300 ?_
          rw [hr2]
          refine jw_aload_n (pc := 301) F 0 d_L_law_301 rfl rfl ?_
          refine jw_iload (pc := 302) F 4 d_L_law_302 rfl ?_
          refine jw_iconst (pc := 304) (v := nI 2) F d_L_law_304 (by decide) ?_
          refine jw_iadd (pc := 305) F d_L_law_305 ?_
          rw [nI_add]
          refine jw_sld (pc := 306) F hX hbl hbA (i + 2) rfl (by omega) (by omega) d_L_law_306 ?_
          rw [hk2]
          refine jw_callV_Gv (pc := 307) (As := [.int (nI r), .int (nI k)]) (rest := []) F ([]) (wX ad cB cI cL f0 f1 f2 f3 f4 f5 f6 f7 v md ln ++ wO ao cL o) (m_give_3 l D am cB cI cL go gc gb gd gh gr gt gk gn er op sz a hQm r hr k hk ht1 hh) (jw_cwV F.1.2.2.2.2 wl_good w_423 w_424 w_425 w_30 w_426 hd_M_give ⟨by decide, by decide⟩) 0 1 rfl rfl rfl (List.append_assoc _ _ _) rfl rfl (Nat.le_of_ble_eq_true rfl) d_L_law_307 ⟨rfl, rfl⟩ ⟨by show nc + 1 ≤ 1051; omega, by show ns + 6 ≤ 11457; omega⟩ (fun w hw => ?_)
          obtain rfl := hw
          refine jw_at (lv' := [(0, .ref b), (1, .ref (ad 0)), (2, .ref (am 0)), (3, .ref ao), (4, .int (nI i)), (5, .int 3)]) (st' := []) (ws' := wM am cB cI cL go gc gb gd gh gr gt gk gn 3 op sz ++ wX ad cB cI cL f0 f1 f2 f3 f4 f5 f6 f7 v md ln ++ wO ao cL o) rfl rfl (by rw [List.nil_append, List.append_assoc]) ?_
          refine jw_aload_n (pc := 310) F 2 d_L_law_310 rfl rfl ?_
          refine jw_callV_Ei (pc := 311) (As := []) (rest := []) F ([]) (wX ad cB cI cL f0 f1 f2 f3 f4 f5 f6 f7 v md ln ++ wO ao cL o) (m_thrown l D am cB cI cL go gc gb gd gh gr gt gk gn 3 op sz) (jw_cwV F.1.2.2.2.2 wl_good w_379 w_380 w_381 w_30 w_382 hd_M_thrown ⟨by decide, by decide⟩) 0 1 rfl rfl rfl (List.append_assoc _ _ _) rfl rfl (Nat.le_of_ble_eq_true rfl) d_L_law_311 ⟨rfl, rfl⟩ ⟨by show nc + 1 ≤ 1051; omega, by show ns + 6 ≤ 11457; omega⟩ ?_
          refine jw_iload (pc := 314) F 5 d_L_law_314 rfl ?_
          refine jw_icmp_eq (pc := 316) F 321 d_L_law_316 (by decide) (fun hz4 => ?_) (fun hz4 => False.elim (hz4 rfl))
          refine jw_goto (pc := 321) F 857 d_L_law_321 (by decide) ?_
          refine jw_loc (lv' := [(0, .ref b), (1, .ref (ad 0)), (2, .ref (am 0)), (3, .ref ao), (4, .int (nI i))]) [0, 1, 2, 3, 4] rfl ?_
          refine jw_widen (k := nc + 1) (n := ns + 6) (by show nc + 1 ≤ nc + 1; omega) (by show ns + 6 ≤ ns + 6; omega) ?_
          exact kk a L f0 f1 f2 f3 f4 f5 f6 f7 v md ln go gc gb gd gh gr gt gk gn 3 op sz o hQ hQm
        · refine jw_aload_n (pc := 276) F 1 d_L_law_276 rfl rfl ?_
          refine jw_aload_n (pc := 277) F 0 d_L_law_277 rfl rfl ?_
          refine jw_iload (pc := 278) F 4 d_L_law_278 rfl ?_
          refine jw_iconst (pc := 280) (v := nI 1) F d_L_law_280 (by decide) ?_
          refine jw_iadd (pc := 281) F d_L_law_281 ?_
          rw [nI_add]
          refine jw_sld (pc := 282) F hX hbl hbA (i + 1) rfl (by omega) (by omega) d_L_law_282 ?_
          rw [hr2]
          refine jw_aload_n (pc := 283) F 0 d_L_law_283 rfl rfl ?_
          refine jw_iload (pc := 284) F 4 d_L_law_284 rfl ?_
          refine jw_iconst (pc := 286) (v := nI 2) F d_L_law_286 (by decide) ?_
          refine jw_iadd (pc := 287) F d_L_law_287 ?_
          rw [nI_add]
          refine jw_sld (pc := 288) F hX hbl hbA (i + 2) rfl (by omega) (by omega) d_L_law_288 ?_
          rw [hk2]
          refine jw_callSW_M (pc := 289) (As := [.ref (ad 0), .int (nI r), .int (nI k)]) (rest := []) F (wM am cB cI cL go gc gb gd gh gr gt gk gn er op sz) (wO ao cL o) (w_give_0 l D ad cB cI cL f0 f1 f2 f3 f4 f5 f6 f7 v md ln a L hQ r hr k hk (Or.inr hh)) (jw_cwSW F.1.2.2.2.2 wl_good w_250 w_251 w_28 w_252 hd_L_give.2 ⟨by decide, by decide⟩) rfl rfl rfl (Nat.le_of_ble_eq_true rfl) d_L_law_289 ⟨by show nc + 0 ≤ 1051; omega, by show ns + 0 ≤ 11457; omega⟩ (fun r w hw => ?_)
          obtain ⟨rfl, g0, g1, g2, g3, g4, g5, g6, g7, gv, gm, gl, rfl, hQ2⟩ := hw
          refine jw_at (lv' := [(0, .ref b), (1, .ref (ad 0)), (2, .ref (am 0)), (3, .ref ao), (4, .int (nI i))]) (st' := [.int 0]) (ws' := wM am cB cI cL go gc gb gd gh gr gt gk gn er op sz ++ wX ad cB cI cL g0 g1 g2 g3 g4 g5 g6 g7 gv gm gl ++ wO ao cL o) rfl rfl rfl ?_
          refine jw_istore (pc := 292) (lv' := [(0, .ref b), (1, .ref (ad 0)), (2, .ref (am 0)), (3, .ref ao), (4, .int (nI i)), (5, .int 0)]) F d_L_law_292 (by decide) rfl ?_
          refine jw_aload_n (pc := 294) F 2 d_L_law_294 rfl rfl ?_
          refine jw_aload_n (pc := 295) F 0 d_L_law_295 rfl rfl ?_
          refine jw_iload (pc := 296) F 4 d_L_law_296 rfl ?_
          refine jw_iconst (pc := 298) (v := nI 1) F d_L_law_298 (by decide) ?_
          refine jw_iadd (pc := 299) F d_L_law_299 ?_
          rw [nI_add]
          refine jw_sld (pc := 300) F hX hbl hbA (i + 1) rfl (by omega) (by omega) d_L_law_300 ?_
          rw [hr2]
          refine jw_aload_n (pc := 301) F 0 d_L_law_301 rfl rfl ?_
          refine jw_iload (pc := 302) F 4 d_L_law_302 rfl ?_
          refine jw_iconst (pc := 304) (v := nI 2) F d_L_law_304 (by decide) ?_
          refine jw_iadd (pc := 305) F d_L_law_305 ?_
          rw [nI_add]
          refine jw_sld (pc := 306) F hX hbl hbA (i + 2) rfl (by omega) (by omega) d_L_law_306 ?_
          rw [hk2]
          refine jw_callV_Gv (pc := 307) (As := [.int (nI r), .int (nI k)]) (rest := []) F ([]) (wX ad cB cI cL g0 g1 g2 g3 g4 g5 g6 g7 gv gm gl ++ wO ao cL o) (m_give_0 l D am cB cI cL go gc gb gd gh gr gt gk gn er op sz a hQm r hr k hk (Or.inr hh)) (jw_cwV F.1.2.2.2.2 wl_good w_423 w_424 w_425 w_30 w_426 hd_M_give ⟨by decide, by decide⟩) 0 1 rfl rfl rfl (List.append_assoc _ _ _) rfl rfl (Nat.le_of_ble_eq_true rfl) d_L_law_307 ⟨rfl, rfl⟩ ⟨by show nc + 0 ≤ 1051; omega, by show ns + 0 ≤ 11457; omega⟩ (fun w hw => ?_)
          obtain ⟨ko, kc, kb, kd, kh, kn, ko2, rfl, hQm2⟩ := hw
          refine jw_at (lv' := [(0, .ref b), (1, .ref (ad 0)), (2, .ref (am 0)), (3, .ref ao), (4, .int (nI i)), (5, .int 0)]) (st' := []) (ws' := wM am cB cI cL ko kc kb kd kh gr gt gk kn 0 ko2 sz ++ wX ad cB cI cL g0 g1 g2 g3 g4 g5 g6 g7 gv gm gl ++ wO ao cL o) rfl rfl (by rw [List.nil_append, List.append_assoc]) ?_
          refine jw_aload_n (pc := 310) F 2 d_L_law_310 rfl rfl ?_
          refine jw_callV_Ei (pc := 311) (As := []) (rest := []) F ([]) (wX ad cB cI cL g0 g1 g2 g3 g4 g5 g6 g7 gv gm gl ++ wO ao cL o) (m_thrown l D am cB cI cL ko kc kb kd kh gr gt gk kn 0 ko2 sz) (jw_cwV F.1.2.2.2.2 wl_good w_379 w_380 w_381 w_30 w_382 hd_M_thrown ⟨by decide, by decide⟩) 0 1 rfl rfl rfl (List.append_assoc _ _ _) rfl rfl (Nat.le_of_ble_eq_true rfl) d_L_law_311 ⟨rfl, rfl⟩ ⟨by show nc + 0 ≤ 1051; omega, by show ns + 0 ≤ 11457; omega⟩ ?_
          refine jw_iload (pc := 314) F 5 d_L_law_314 rfl ?_
          refine jw_icmp_eq (pc := 316) F 321 d_L_law_316 (by decide) (fun hz5 => ?_) (fun hz5 => False.elim (hz5 rfl))
          refine jw_goto (pc := 321) F 857 d_L_law_321 (by decide) ?_
          refine jw_loc (lv' := [(0, .ref b), (1, .ref (ad 0)), (2, .ref (am 0)), (3, .ref ao), (4, .int (nI i))]) [0, 1, 2, 3, 4] rfl ?_
          refine jw_widen (k := nc + 1) (n := ns + 6) (by show nc + 0 ≤ nc + 1; omega) (by show ns + 0 ≤ ns + 6; omega) ?_
          exact kk (ab_take a r k) L g0 g1 g2 g3 g4 g5 g6 g7 gv gm gl ko kc kb kd kh gr gt gk kn 0 ko2 sz o hQ2 hQm2
set_option maxHeartbeats 4000000 in
set_option maxRecDepth 100000 in
theorem lawc_tell {p : Program} {e : Env} {s : State} {m : MethodId} {below : List Frame} {meth : Method} {c : Code} (l : Launch) (D : va_G) (ad am : Nat → Nat) (ao : Nat) (cB cI cL : ClassId) {b LL : Nat} {xs : Nat → Int32} {Q : State → Prop} {A : Nat → Prop} (hl : l.stackTraces = false) (F : jw_F p s m #[Value.ref b] meth c D vCl (vTy cB cI cL) A 8 b_L_law RL (Cond.initialized RL :: WL) ret) (hZ : jz_Y A s) (hX : va_X b LL xs s s.heap) (hbl : b < s.heap.size) (hbA : ¬ A b) (hLL : LL ≤ 2560) (i nc ns : Nat) (hi : i + 5 ≤ LL) (hnc : nc + 1 ≤ 1051) (hns : ns + 6 ≤ 11457) (a : AS) (L : List Nat) (f0 f1 f2 f3 f4 f5 f6 f7 : Nat → Int32) (v : Nat → Int64) (md ln : Int32) (go gc gb gd gh gr gt gk : Nat → Int32) (gn : Nat → Int64) (er op sz : Int32) (o : Nat → Int64) (hQ : cx_R a L f0 f1 f2 f3 f4 f5 f6 f7 v md ln) (hQm : mx_R a go gc gb gd gh gn op) (kk : ∀ (a : AS) (L : List Nat) (f0 f1 f2 f3 f4 f5 f6 f7 : Nat → Int32) (v : Nat → Int64) (md ln : Int32) (go gc gb gd gh gr gt gk : Nat → Int32) (gn : Nat → Int64) (er op sz : Int32) (o : Nat → Int64), cx_R a L f0 f1 f2 f3 f4 f5 f6 f7 v md ln → mx_R a go gc gb gd gh gn op → jw_J p l e room_1 s m #[Value.ref b] below meth c D vCl A 8 Q (nc + 1) (ns + 6) 857 [(0, .ref b), (1, .ref (ad 0)), (2, .ref (am 0)), (3, .ref ao), (4, .int (nI i))] [] (wM am cB cI cL go gc gb gd gh gr gt gk gn er op sz ++ wX ad cB cI cL f0 f1 f2 f3 f4 f5 f6 f7 v md ln ++ wO ao cL o)) : jw_J p l e room_1 s m #[Value.ref b] below meth c D vCl A 8 Q (nc) (ns) 324 [(0, .ref b), (1, .ref (ad 0)), (2, .ref (am 0)), (3, .ref ao), (4, .int (nI i))] [] (wM am cB cI cL go gc gb gd gh gr gt gk gn er op sz ++ wX ad cB cI cL f0 f1 f2 f3 f4 f5 f6 f7 v md ln ++ wO ao cL o) := by
  have hn := hQ.1.1
  cases hr1 : a_isrep (xs (i + 1))
  · refine jw_aload_n (pc := 324) F 1 d_L_law_324 rfl rfl ?_
    refine jw_aload_n (pc := 325) F 0 d_L_law_325 rfl rfl ?_
    refine jw_iload (pc := 326) F 4 d_L_law_326 rfl ?_
    refine jw_iconst (pc := 328) (v := nI 1) F d_L_law_328 (by decide) ?_
    refine jw_iadd (pc := 329) F d_L_law_329 ?_
    rw [nI_add]
    refine jw_sld (pc := 330) F hX hbl hbA (i + 1) rfl (by omega) (by omega) d_L_law_330 ?_
    refine jw_aload_n (pc := 331) F 0 d_L_law_331 rfl rfl ?_
    refine jw_iload (pc := 332) F 4 d_L_law_332 rfl ?_
    refine jw_iconst (pc := 334) (v := nI 2) F d_L_law_334 (by decide) ?_
    refine jw_iadd (pc := 335) F d_L_law_335 ?_
    rw [nI_add]
    refine jw_sld (pc := 336) F hX hbl hbA (i + 2) rfl (by omega) (by omega) d_L_law_336 ?_
    refine jw_aload_n (pc := 337) F 3 d_L_law_337 rfl rfl ?_
    refine jw_callSW_N (pc := 338) (As := [.ref (ad 0), .int (xs (i + 1)), .int (xs (i + 2)), .ref ao]) (rest := []) F jz_okY hZ (wM am cB cI cL go gc gb gd gh gr gt gk gn er op sz) ([]) (w_tell_1 l D ad cB cI cL f0 f1 f2 f3 f4 f5 f6 f7 v md ln ao o a L hQ (xs (i + 1)) hr1 (xs (i + 2)) hl) (jw_cwSW F.1.2.2.2.2 wl_good w_262 w_263 w_28 w_264 hd_L_tell.2 ⟨by decide, by decide⟩) (by rw [List.append_nil, List.append_assoc]) rfl rfl (Nat.le_of_ble_eq_true rfl) d_L_law_338 ⟨by show nc + 1 ≤ 1051; omega, by show ns + 6 ≤ 11457; omega⟩ (fun r w hw => ?_)
    obtain ⟨rfl, rfl⟩ := hw
    refine jw_at (lv' := [(0, .ref b), (1, .ref (ad 0)), (2, .ref (am 0)), (3, .ref ao), (4, .int (nI i))]) (st' := [.int 1]) (ws' := wM am cB cI cL go gc gb gd gh gr gt gk gn er op sz ++ wX ad cB cI cL f0 f1 f2 f3 f4 f5 f6 f7 v md ln ++ wO ao cL o) rfl rfl (by rw [List.append_nil, List.append_assoc]) ?_
    refine jw_istore (pc := 341) (lv' := [(0, .ref b), (1, .ref (ad 0)), (2, .ref (am 0)), (3, .ref ao), (4, .int (nI i)), (5, .int 1)]) F d_L_law_341 (by decide) rfl ?_
    refine jw_aload_n (pc := 343) F 2 d_L_law_343 rfl rfl ?_
    refine jw_aload_n (pc := 344) F 0 d_L_law_344 rfl rfl ?_
    refine jw_iload (pc := 345) F 4 d_L_law_345 rfl ?_
    refine jw_iconst (pc := 347) (v := nI 1) F d_L_law_347 (by decide) ?_
    refine jw_iadd (pc := 348) F d_L_law_348 ?_
    rw [nI_add]
    refine jw_sld (pc := 349) F hX hbl hbA (i + 1) rfl (by omega) (by omega) d_L_law_349 ?_
    refine jw_aload_n (pc := 350) F 0 d_L_law_350 rfl rfl ?_
    refine jw_iload (pc := 351) F 4 d_L_law_351 rfl ?_
    refine jw_iconst (pc := 353) (v := nI 2) F d_L_law_353 (by decide) ?_
    refine jw_iadd (pc := 354) F d_L_law_354 ?_
    rw [nI_add]
    refine jw_sld (pc := 355) F hX hbl hbA (i + 2) rfl (by omega) (by omega) d_L_law_355 ?_
    refine jw_callV_Gi (pc := 356) (As := [.int (xs (i + 1)), .int (xs (i + 2))]) (rest := []) F ([]) (wX ad cB cI cL f0 f1 f2 f3 f4 f5 f6 f7 v md ln ++ wO ao cL o) (m_tell_1 l D am cB cI cL go gc gb gd gh gr gt gk gn er op sz a hQm (xs (i + 1)) hr1 (xs (i + 2))) (jw_cwV F.1.2.2.2.2 wl_good w_427 w_428 w_429 w_30 w_430 hd_M_tell ⟨by decide, by decide⟩) 0 1 rfl rfl rfl (List.append_assoc _ _ _) rfl rfl (Nat.le_of_ble_eq_true rfl) d_L_law_356 ⟨rfl, rfl⟩ ⟨by show nc + 1 ≤ 1051; omega, by show ns + 6 ≤ 11457; omega⟩ (fun r w hw => ?_)
    obtain ⟨rfl, rfl⟩ := hw
    refine jw_at (lv' := [(0, .ref b), (1, .ref (ad 0)), (2, .ref (am 0)), (3, .ref ao), (4, .int (nI i)), (5, .int 1)]) (st' := [.int 0]) (ws' := wM am cB cI cL go gc gb gd gh gr gt gk gn 1 op sz ++ wX ad cB cI cL f0 f1 f2 f3 f4 f5 f6 f7 v md ln ++ wO ao cL o) rfl rfl (by rw [List.nil_append, List.append_assoc]) ?_
    refine jw_istore (pc := 359) (lv' := [(0, .ref b), (1, .ref (ad 0)), (2, .ref (am 0)), (3, .ref ao), (4, .int (nI i)), (5, .int 1), (6, .int 0)]) F d_L_law_359 (by decide) rfl ?_
    refine jw_aload_n (pc := 361) F 2 d_L_law_361 rfl rfl ?_
    refine jw_callV_Ei (pc := 362) (As := []) (rest := []) F ([]) (wX ad cB cI cL f0 f1 f2 f3 f4 f5 f6 f7 v md ln ++ wO ao cL o) (m_thrown l D am cB cI cL go gc gb gd gh gr gt gk gn 1 op sz) (jw_cwV F.1.2.2.2.2 wl_good w_379 w_380 w_381 w_30 w_382 hd_M_thrown ⟨by decide, by decide⟩) 0 1 rfl rfl rfl (List.append_assoc _ _ _) rfl rfl (Nat.le_of_ble_eq_true rfl) d_L_law_362 ⟨rfl, rfl⟩ ⟨by show nc + 1 ≤ 1051; omega, by show ns + 6 ≤ 11457; omega⟩ ?_
    refine jw_iload (pc := 365) F 5 d_L_law_365 rfl ?_
    refine jw_icmp_eq (pc := 367) F 372 d_L_law_367 (by decide) (fun hz1 => ?_) (fun hz1 => False.elim (hz1 rfl))
    refine jw_iload (pc := 372) F 5 d_L_law_372 rfl ?_
    refine jw_if_ne (pc := 374) F 389 d_L_law_374 (by decide) (fun hz2 => ?_) (fun hz2 => False.elim (absurd hz2 (by decide)))
    refine jw_goto (pc := 389) F 857 d_L_law_389 (by decide) ?_
    refine jw_loc (lv' := [(0, .ref b), (1, .ref (ad 0)), (2, .ref (am 0)), (3, .ref ao), (4, .int (nI i))]) [0, 1, 2, 3, 4] rfl ?_
    refine jw_widen (k := nc + 1) (n := ns + 6) (by show nc + 1 ≤ nc + 1; omega) (by show ns + 6 ≤ ns + 6; omega) ?_
    exact kk a L f0 f1 f2 f3 f4 f5 f6 f7 v md ln go gc gb gd gh gr gt gk gn 1 op sz o hQ hQm
  · obtain ⟨r, hr, hr2⟩ := a_isrep_t hr1
    cases hs1 : a_isrep (xs (i + 2))
    · refine jw_aload_n (pc := 324) F 1 d_L_law_324 rfl rfl ?_
      refine jw_aload_n (pc := 325) F 0 d_L_law_325 rfl rfl ?_
      refine jw_iload (pc := 326) F 4 d_L_law_326 rfl ?_
      refine jw_iconst (pc := 328) (v := nI 1) F d_L_law_328 (by decide) ?_
      refine jw_iadd (pc := 329) F d_L_law_329 ?_
      rw [nI_add]
      refine jw_sld (pc := 330) F hX hbl hbA (i + 1) rfl (by omega) (by omega) d_L_law_330 ?_
      rw [hr2]
      refine jw_aload_n (pc := 331) F 0 d_L_law_331 rfl rfl ?_
      refine jw_iload (pc := 332) F 4 d_L_law_332 rfl ?_
      refine jw_iconst (pc := 334) (v := nI 2) F d_L_law_334 (by decide) ?_
      refine jw_iadd (pc := 335) F d_L_law_335 ?_
      rw [nI_add]
      refine jw_sld (pc := 336) F hX hbl hbA (i + 2) rfl (by omega) (by omega) d_L_law_336 ?_
      refine jw_aload_n (pc := 337) F 3 d_L_law_337 rfl rfl ?_
      refine jw_callSW_N (pc := 338) (As := [.ref (ad 0), .int (nI r), .int (xs (i + 2)), .ref ao]) (rest := []) F jz_okY hZ (wM am cB cI cL go gc gb gd gh gr gt gk gn er op sz) ([]) (w_tell_2 l D ad cB cI cL f0 f1 f2 f3 f4 f5 f6 f7 v md ln ao o a L hQ r hr (xs (i + 2)) hs1 hl) (jw_cwSW F.1.2.2.2.2 wl_good w_262 w_263 w_28 w_264 hd_L_tell.2 ⟨by decide, by decide⟩) (by rw [List.append_nil, List.append_assoc]) rfl rfl (Nat.le_of_ble_eq_true rfl) d_L_law_338 ⟨by show nc + 1 ≤ 1051; omega, by show ns + 6 ≤ 11457; omega⟩ (fun r w hw => ?_)
      obtain ⟨rfl, rfl⟩ := hw
      refine jw_at (lv' := [(0, .ref b), (1, .ref (ad 0)), (2, .ref (am 0)), (3, .ref ao), (4, .int (nI i))]) (st' := [.int 1]) (ws' := wM am cB cI cL go gc gb gd gh gr gt gk gn er op sz ++ wX ad cB cI cL f0 f1 f2 f3 f4 f5 f6 f7 v md ln ++ wO ao cL o) rfl rfl (by rw [List.append_nil, List.append_assoc]) ?_
      refine jw_istore (pc := 341) (lv' := [(0, .ref b), (1, .ref (ad 0)), (2, .ref (am 0)), (3, .ref ao), (4, .int (nI i)), (5, .int 1)]) F d_L_law_341 (by decide) rfl ?_
      refine jw_aload_n (pc := 343) F 2 d_L_law_343 rfl rfl ?_
      refine jw_aload_n (pc := 344) F 0 d_L_law_344 rfl rfl ?_
      refine jw_iload (pc := 345) F 4 d_L_law_345 rfl ?_
      refine jw_iconst (pc := 347) (v := nI 1) F d_L_law_347 (by decide) ?_
      refine jw_iadd (pc := 348) F d_L_law_348 ?_
      rw [nI_add]
      refine jw_sld (pc := 349) F hX hbl hbA (i + 1) rfl (by omega) (by omega) d_L_law_349 ?_
      rw [hr2]
      refine jw_aload_n (pc := 350) F 0 d_L_law_350 rfl rfl ?_
      refine jw_iload (pc := 351) F 4 d_L_law_351 rfl ?_
      refine jw_iconst (pc := 353) (v := nI 2) F d_L_law_353 (by decide) ?_
      refine jw_iadd (pc := 354) F d_L_law_354 ?_
      rw [nI_add]
      refine jw_sld (pc := 355) F hX hbl hbA (i + 2) rfl (by omega) (by omega) d_L_law_355 ?_
      refine jw_callV_Gi (pc := 356) (As := [.int (nI r), .int (xs (i + 2))]) (rest := []) F ([]) (wX ad cB cI cL f0 f1 f2 f3 f4 f5 f6 f7 v md ln ++ wO ao cL o) (m_tell_2 l D am cB cI cL go gc gb gd gh gr gt gk gn er op sz a hQm r hr (xs (i + 2)) hs1) (jw_cwV F.1.2.2.2.2 wl_good w_427 w_428 w_429 w_30 w_430 hd_M_tell ⟨by decide, by decide⟩) 0 1 rfl rfl rfl (List.append_assoc _ _ _) rfl rfl (Nat.le_of_ble_eq_true rfl) d_L_law_356 ⟨rfl, rfl⟩ ⟨by show nc + 1 ≤ 1051; omega, by show ns + 6 ≤ 11457; omega⟩ (fun r w hw => ?_)
      obtain ⟨rfl, rfl⟩ := hw
      refine jw_at (lv' := [(0, .ref b), (1, .ref (ad 0)), (2, .ref (am 0)), (3, .ref ao), (4, .int (nI i)), (5, .int 1)]) (st' := [.int 0]) (ws' := wM am cB cI cL go gc gb gd gh gr gt gk gn 1 op sz ++ wX ad cB cI cL f0 f1 f2 f3 f4 f5 f6 f7 v md ln ++ wO ao cL o) rfl rfl (by rw [List.nil_append, List.append_assoc]) ?_
      refine jw_istore (pc := 359) (lv' := [(0, .ref b), (1, .ref (ad 0)), (2, .ref (am 0)), (3, .ref ao), (4, .int (nI i)), (5, .int 1), (6, .int 0)]) F d_L_law_359 (by decide) rfl ?_
      refine jw_aload_n (pc := 361) F 2 d_L_law_361 rfl rfl ?_
      refine jw_callV_Ei (pc := 362) (As := []) (rest := []) F ([]) (wX ad cB cI cL f0 f1 f2 f3 f4 f5 f6 f7 v md ln ++ wO ao cL o) (m_thrown l D am cB cI cL go gc gb gd gh gr gt gk gn 1 op sz) (jw_cwV F.1.2.2.2.2 wl_good w_379 w_380 w_381 w_30 w_382 hd_M_thrown ⟨by decide, by decide⟩) 0 1 rfl rfl rfl (List.append_assoc _ _ _) rfl rfl (Nat.le_of_ble_eq_true rfl) d_L_law_362 ⟨rfl, rfl⟩ ⟨by show nc + 1 ≤ 1051; omega, by show ns + 6 ≤ 11457; omega⟩ ?_
      refine jw_iload (pc := 365) F 5 d_L_law_365 rfl ?_
      refine jw_icmp_eq (pc := 367) F 372 d_L_law_367 (by decide) (fun hz3 => ?_) (fun hz3 => False.elim (hz3 rfl))
      refine jw_iload (pc := 372) F 5 d_L_law_372 rfl ?_
      refine jw_if_ne (pc := 374) F 389 d_L_law_374 (by decide) (fun hz4 => ?_) (fun hz4 => False.elim (absurd hz4 (by decide)))
      refine jw_goto (pc := 389) F 857 d_L_law_389 (by decide) ?_
      refine jw_loc (lv' := [(0, .ref b), (1, .ref (ad 0)), (2, .ref (am 0)), (3, .ref ao), (4, .int (nI i))]) [0, 1, 2, 3, 4] rfl ?_
      refine jw_widen (k := nc + 1) (n := ns + 6) (by show nc + 1 ≤ nc + 1; omega) (by show ns + 6 ≤ ns + 6; omega) ?_
      exact kk a L f0 f1 f2 f3 f4 f5 f6 f7 v md ln go gc gb gd gh gr gt gk gn 1 op sz o hQ hQm
    · obtain ⟨s9, hs9, hs92⟩ := a_isrep_t hs1
      refine jw_aload_n (pc := 324) F 1 d_L_law_324 rfl rfl ?_
      refine jw_aload_n (pc := 325) F 0 d_L_law_325 rfl rfl ?_
      refine jw_iload (pc := 326) F 4 d_L_law_326 rfl ?_
      refine jw_iconst (pc := 328) (v := nI 1) F d_L_law_328 (by decide) ?_
      refine jw_iadd (pc := 329) F d_L_law_329 ?_
      rw [nI_add]
      refine jw_sld (pc := 330) F hX hbl hbA (i + 1) rfl (by omega) (by omega) d_L_law_330 ?_
      rw [hr2]
      refine jw_aload_n (pc := 331) F 0 d_L_law_331 rfl rfl ?_
      refine jw_iload (pc := 332) F 4 d_L_law_332 rfl ?_
      refine jw_iconst (pc := 334) (v := nI 2) F d_L_law_334 (by decide) ?_
      refine jw_iadd (pc := 335) F d_L_law_335 ?_
      rw [nI_add]
      refine jw_sld (pc := 336) F hX hbl hbA (i + 2) rfl (by omega) (by omega) d_L_law_336 ?_
      rw [hs92]
      refine jw_aload_n (pc := 337) F 3 d_L_law_337 rfl rfl ?_
      refine jw_callSW_M (pc := 338) (As := [.ref (ad 0), .int (nI r), .int (nI s9), .ref ao]) (rest := []) F (wM am cB cI cL go gc gb gd gh gr gt gk gn er op sz) ([]) (w_tell_0 l D ad cB cI cL f0 f1 f2 f3 f4 f5 f6 f7 v md ln ao o a L hQ r s9 hr hs9) (jw_cwSW F.1.2.2.2.2 wl_good w_262 w_263 w_28 w_264 hd_L_tell.2 ⟨by decide, by decide⟩) (by rw [List.append_nil, List.append_assoc]) rfl rfl (Nat.le_of_ble_eq_true rfl) d_L_law_338 ⟨by show nc + 0 ≤ 1051; omega, by show ns + 0 ≤ 11457; omega⟩ (fun r w hw => ?_)
      obtain ⟨rfl, g0, g1, g2, g3, g4, g5, g6, g7, gv, gm, gl, rfl, hQ2⟩ := hw
      refine jw_at (lv' := [(0, .ref b), (1, .ref (ad 0)), (2, .ref (am 0)), (3, .ref ao), (4, .int (nI i))]) (st' := [.int 0]) (ws' := wM am cB cI cL go gc gb gd gh gr gt gk gn er op sz ++ wX ad cB cI cL g0 g1 g2 g3 g4 g5 g6 g7 gv gm gl ++ wO ao cL (vp_updL o 0 (nI (ab_tell a r s9 (a_n a)).2).toInt64)) rfl rfl (by rw [List.append_nil, List.append_assoc]) ?_
      refine jw_istore (pc := 341) (lv' := [(0, .ref b), (1, .ref (ad 0)), (2, .ref (am 0)), (3, .ref ao), (4, .int (nI i)), (5, .int 0)]) F d_L_law_341 (by decide) rfl ?_
      refine jw_aload_n (pc := 343) F 2 d_L_law_343 rfl rfl ?_
      refine jw_aload_n (pc := 344) F 0 d_L_law_344 rfl rfl ?_
      refine jw_iload (pc := 345) F 4 d_L_law_345 rfl ?_
      refine jw_iconst (pc := 347) (v := nI 1) F d_L_law_347 (by decide) ?_
      refine jw_iadd (pc := 348) F d_L_law_348 ?_
      rw [nI_add]
      refine jw_sld (pc := 349) F hX hbl hbA (i + 1) rfl (by omega) (by omega) d_L_law_349 ?_
      rw [hr2]
      refine jw_aload_n (pc := 350) F 0 d_L_law_350 rfl rfl ?_
      refine jw_iload (pc := 351) F 4 d_L_law_351 rfl ?_
      refine jw_iconst (pc := 353) (v := nI 2) F d_L_law_353 (by decide) ?_
      refine jw_iadd (pc := 354) F d_L_law_354 ?_
      rw [nI_add]
      refine jw_sld (pc := 355) F hX hbl hbA (i + 2) rfl (by omega) (by omega) d_L_law_355 ?_
      rw [hs92]
      refine jw_callV_Gi (pc := 356) (As := [.int (nI r), .int (nI s9)]) (rest := []) F ([]) (wX ad cB cI cL g0 g1 g2 g3 g4 g5 g6 g7 gv gm gl ++ wO ao cL (vp_updL o 0 (nI (ab_tell a r s9 (a_n a)).2).toInt64)) (m_tell_0 l D am cB cI cL go gc gb gd gh gr gt gk gn er op sz a hQm r s9 hr hs9) (jw_cwV F.1.2.2.2.2 wl_good w_427 w_428 w_429 w_30 w_430 hd_M_tell ⟨by decide, by decide⟩) 0 1 rfl rfl rfl (List.append_assoc _ _ _) rfl rfl (Nat.le_of_ble_eq_true rfl) d_L_law_356 ⟨rfl, rfl⟩ ⟨by show nc + 0 ≤ 1051; omega, by show ns + 0 ≤ 11457; omega⟩ (fun r w hw => ?_)
      obtain ⟨rfl, ko, kc, kb, kd, kh, kn, ko2, rfl, hQm2⟩ := hw
      refine jw_at (lv' := [(0, .ref b), (1, .ref (ad 0)), (2, .ref (am 0)), (3, .ref ao), (4, .int (nI i)), (5, .int 0)]) (st' := [.int (nI (ab_tell a r s9 (a_n a)).2)]) (ws' := wM am cB cI cL ko kc kb kd kh gr gt gk kn 0 ko2 sz ++ wX ad cB cI cL g0 g1 g2 g3 g4 g5 g6 g7 gv gm gl ++ wO ao cL (vp_updL o 0 (nI (ab_tell a r s9 (a_n a)).2).toInt64)) rfl rfl (by rw [List.nil_append, List.append_assoc]) ?_
      refine jw_istore (pc := 359) (lv' := [(0, .ref b), (1, .ref (ad 0)), (2, .ref (am 0)), (3, .ref ao), (4, .int (nI i)), (5, .int 0), (6, .int (nI (ab_tell a r s9 (a_n a)).2))]) F d_L_law_359 (by decide) rfl ?_
      refine jw_aload_n (pc := 361) F 2 d_L_law_361 rfl rfl ?_
      refine jw_callV_Ei (pc := 362) (As := []) (rest := []) F ([]) (wX ad cB cI cL g0 g1 g2 g3 g4 g5 g6 g7 gv gm gl ++ wO ao cL (vp_updL o 0 (nI (ab_tell a r s9 (a_n a)).2).toInt64)) (m_thrown l D am cB cI cL ko kc kb kd kh gr gt gk kn 0 ko2 sz) (jw_cwV F.1.2.2.2.2 wl_good w_379 w_380 w_381 w_30 w_382 hd_M_thrown ⟨by decide, by decide⟩) 0 1 rfl rfl rfl (List.append_assoc _ _ _) rfl rfl (Nat.le_of_ble_eq_true rfl) d_L_law_362 ⟨rfl, rfl⟩ ⟨by show nc + 0 ≤ 1051; omega, by show ns + 0 ≤ 11457; omega⟩ ?_
      refine jw_iload (pc := 365) F 5 d_L_law_365 rfl ?_
      refine jw_icmp_eq (pc := 367) F 372 d_L_law_367 (by decide) (fun hz5 => ?_) (fun hz5 => False.elim (hz5 rfl))
      refine jw_iload (pc := 372) F 5 d_L_law_372 rfl ?_
      refine jw_if_ne (pc := 374) F 389 d_L_law_374 (by decide) (fun hz6 => False.elim (hz6 rfl)) (fun hz6 => ?_)
      refine jw_aload_n (pc := 377) F 3 d_L_law_377 rfl rfl ?_
      refine jw_iconst (pc := 378) (v := nI 0) F d_L_law_378 (by decide) ?_
      refine jw_laldN (pc := 379) F 20 2 rfl rfl 0 rfl (by omega) (by decide) d_L_law_379 ?_
      refine jw_iload (pc := 380) F 6 d_L_law_380 rfl ?_
      refine jw_i2l (pc := 382) F d_L_law_382 ?_
      refine jw_lcmp (pc := 383) F d_L_law_383 ?_
      refine jw_if_eq (pc := 384) F 389 d_L_law_384 (by decide) (fun hz7 => ?_) (fun hz7 => False.elim (hz7 ((lg_cmp_eq _ _).mpr (pk_uLs))))
      refine jw_goto (pc := 389) F 857 d_L_law_389 (by decide) ?_
      refine jw_loc (lv' := [(0, .ref b), (1, .ref (ad 0)), (2, .ref (am 0)), (3, .ref ao), (4, .int (nI i))]) [0, 1, 2, 3, 4] rfl ?_
      refine jw_widen (k := nc + 1) (n := ns + 6) (by show nc + 0 ≤ nc + 1; omega) (by show ns + 0 ≤ ns + 6; omega) ?_
      exact kk (ab_tell a r s9 (a_n a)).1 L g0 g1 g2 g3 g4 g5 g6 g7 gv gm gl ko kc kb kd kh gr gt gk kn 0 ko2 sz (vp_updL o 0 (nI (ab_tell a r s9 (a_n a)).2).toInt64) hQ2 hQm2
set_option maxHeartbeats 4000000 in
set_option maxRecDepth 100000 in
theorem lawc_holds {p : Program} {e : Env} {s : State} {m : MethodId} {below : List Frame} {meth : Method} {c : Code} (l : Launch) (D : va_G) (ad am : Nat → Nat) (ao : Nat) (cB cI cL : ClassId) {b LL : Nat} {xs : Nat → Int32} {Q : State → Prop} {A : Nat → Prop} (hl : l.stackTraces = false) (F : jw_F p s m #[Value.ref b] meth c D vCl (vTy cB cI cL) A 8 b_L_law RL (Cond.initialized RL :: WL) ret) (hZ : jz_Y A s) (hX : va_X b LL xs s s.heap) (hbl : b < s.heap.size) (hbA : ¬ A b) (hLL : LL ≤ 2560) (i nc ns : Nat) (hi : i + 5 ≤ LL) (hnc : nc + 1 ≤ 1051) (hns : ns + 6 ≤ 11457) (a : AS) (L : List Nat) (f0 f1 f2 f3 f4 f5 f6 f7 : Nat → Int32) (v : Nat → Int64) (md ln : Int32) (go gc gb gd gh gr gt gk : Nat → Int32) (gn : Nat → Int64) (er op sz : Int32) (o : Nat → Int64) (hQ : cx_R a L f0 f1 f2 f3 f4 f5 f6 f7 v md ln) (hQm : mx_R a go gc gb gd gh gn op) (kk : ∀ (a : AS) (L : List Nat) (f0 f1 f2 f3 f4 f5 f6 f7 : Nat → Int32) (v : Nat → Int64) (md ln : Int32) (go gc gb gd gh gr gt gk : Nat → Int32) (gn : Nat → Int64) (er op sz : Int32) (o : Nat → Int64), cx_R a L f0 f1 f2 f3 f4 f5 f6 f7 v md ln → mx_R a go gc gb gd gh gn op → jw_J p l e room_1 s m #[Value.ref b] below meth c D vCl A 8 Q (nc + 1) (ns + 6) 857 [(0, .ref b), (1, .ref (ad 0)), (2, .ref (am 0)), (3, .ref ao), (4, .int (nI i))] [] (wM am cB cI cL go gc gb gd gh gr gt gk gn er op sz ++ wX ad cB cI cL f0 f1 f2 f3 f4 f5 f6 f7 v md ln ++ wO ao cL o)) : jw_J p l e room_1 s m #[Value.ref b] below meth c D vCl A 8 Q (nc) (ns) 392 [(0, .ref b), (1, .ref (ad 0)), (2, .ref (am 0)), (3, .ref ao), (4, .int (nI i))] [] (wM am cB cI cL go gc gb gd gh gr gt gk gn er op sz ++ wX ad cB cI cL f0 f1 f2 f3 f4 f5 f6 f7 v md ln ++ wO ao cL o) := by
  have hn := hQ.1.1
  cases hr1 : a_isrep (xs (i + 1))
  · refine jw_aload_n (pc := 392) F 1 d_L_law_392 rfl rfl ?_
    refine jw_aload_n (pc := 393) F 0 d_L_law_393 rfl rfl ?_
    refine jw_iload (pc := 394) F 4 d_L_law_394 rfl ?_
    refine jw_iconst (pc := 396) (v := nI 1) F d_L_law_396 (by decide) ?_
    refine jw_iadd (pc := 397) F d_L_law_397 ?_
    rw [nI_add]
    refine jw_sld (pc := 398) F hX hbl hbA (i + 1) rfl (by omega) (by omega) d_L_law_398 ?_
    refine jw_aload_n (pc := 399) F 0 d_L_law_399 rfl rfl ?_
    refine jw_iload (pc := 400) F 4 d_L_law_400 rfl ?_
    refine jw_iconst (pc := 402) (v := nI 2) F d_L_law_402 (by decide) ?_
    refine jw_iadd (pc := 403) F d_L_law_403 ?_
    rw [nI_add]
    refine jw_sld (pc := 404) F hX hbl hbA (i + 2) rfl (by omega) (by omega) d_L_law_404 ?_
    refine jw_aload_n (pc := 405) F 3 d_L_law_405 rfl rfl ?_
    refine jw_callSW_N (pc := 406) (As := [.ref (ad 0), .int (xs (i + 1)), .int (xs (i + 2)), .ref ao]) (rest := []) F jz_okY hZ (wM am cB cI cL go gc gb gd gh gr gt gk gn er op sz) ([]) (w_holds_1 l D ad cB cI cL f0 f1 f2 f3 f4 f5 f6 f7 v md ln ao o a L hQ (xs (i + 1)) hr1 (xs (i + 2)) hl) (jw_cwSW F.1.2.2.2.2 wl_good w_269 w_270 w_28 w_271 hd_L_holds.2 ⟨by decide, by decide⟩) (by rw [List.append_nil, List.append_assoc]) rfl rfl (Nat.le_of_ble_eq_true rfl) d_L_law_406 ⟨by show nc + 1 ≤ 1051; omega, by show ns + 6 ≤ 11457; omega⟩ (fun r w hw => ?_)
    obtain ⟨rfl, rfl⟩ := hw
    refine jw_at (lv' := [(0, .ref b), (1, .ref (ad 0)), (2, .ref (am 0)), (3, .ref ao), (4, .int (nI i))]) (st' := [.int 1]) (ws' := wM am cB cI cL go gc gb gd gh gr gt gk gn er op sz ++ wX ad cB cI cL f0 f1 f2 f3 f4 f5 f6 f7 v md ln ++ wO ao cL o) rfl rfl (by rw [List.append_nil, List.append_assoc]) ?_
    refine jw_istore (pc := 409) (lv' := [(0, .ref b), (1, .ref (ad 0)), (2, .ref (am 0)), (3, .ref ao), (4, .int (nI i)), (5, .int 1)]) F d_L_law_409 (by decide) rfl ?_
    refine jw_aload_n (pc := 411) F 2 d_L_law_411 rfl rfl ?_
    refine jw_aload_n (pc := 412) F 0 d_L_law_412 rfl rfl ?_
    refine jw_iload (pc := 413) F 4 d_L_law_413 rfl ?_
    refine jw_iconst (pc := 415) (v := nI 1) F d_L_law_415 (by decide) ?_
    refine jw_iadd (pc := 416) F d_L_law_416 ?_
    rw [nI_add]
    refine jw_sld (pc := 417) F hX hbl hbA (i + 1) rfl (by omega) (by omega) d_L_law_417 ?_
    refine jw_aload_n (pc := 418) F 0 d_L_law_418 rfl rfl ?_
    refine jw_iload (pc := 419) F 4 d_L_law_419 rfl ?_
    refine jw_iconst (pc := 421) (v := nI 2) F d_L_law_421 (by decide) ?_
    refine jw_iadd (pc := 422) F d_L_law_422 ?_
    rw [nI_add]
    refine jw_sld (pc := 423) F hX hbl hbA (i + 2) rfl (by omega) (by omega) d_L_law_423 ?_
    refine jw_callV_Gi (pc := 424) (As := [.int (xs (i + 1)), .int (xs (i + 2))]) (rest := []) F ([]) (wX ad cB cI cL f0 f1 f2 f3 f4 f5 f6 f7 v md ln ++ wO ao cL o) (m_holds_1 l D am cB cI cL go gc gb gd gh gr gt gk gn er op sz a hQm (xs (i + 1)) hr1 (xs (i + 2))) (jw_cwV F.1.2.2.2.2 wl_good w_431 w_432 w_433 w_30 w_434 hd_M_holds ⟨by decide, by decide⟩) 0 1 rfl rfl rfl (List.append_assoc _ _ _) rfl rfl (Nat.le_of_ble_eq_true rfl) d_L_law_424 ⟨rfl, rfl⟩ ⟨by show nc + 1 ≤ 1051; omega, by show ns + 6 ≤ 11457; omega⟩ (fun r w hw => ?_)
    obtain ⟨rfl, rfl⟩ := hw
    refine jw_at (lv' := [(0, .ref b), (1, .ref (ad 0)), (2, .ref (am 0)), (3, .ref ao), (4, .int (nI i)), (5, .int 1)]) (st' := [.int 0]) (ws' := wM am cB cI cL go gc gb gd gh gr gt gk gn 1 op sz ++ wX ad cB cI cL f0 f1 f2 f3 f4 f5 f6 f7 v md ln ++ wO ao cL o) rfl rfl (by rw [List.nil_append, List.append_assoc]) ?_
    refine jw_istore (pc := 427) (lv' := [(0, .ref b), (1, .ref (ad 0)), (2, .ref (am 0)), (3, .ref ao), (4, .int (nI i)), (5, .int 1), (6, .int 0)]) F d_L_law_427 (by decide) rfl ?_
    refine jw_aload_n (pc := 429) F 2 d_L_law_429 rfl rfl ?_
    refine jw_callV_Ei (pc := 430) (As := []) (rest := []) F ([]) (wX ad cB cI cL f0 f1 f2 f3 f4 f5 f6 f7 v md ln ++ wO ao cL o) (m_thrown l D am cB cI cL go gc gb gd gh gr gt gk gn 1 op sz) (jw_cwV F.1.2.2.2.2 wl_good w_379 w_380 w_381 w_30 w_382 hd_M_thrown ⟨by decide, by decide⟩) 0 1 rfl rfl rfl (List.append_assoc _ _ _) rfl rfl (Nat.le_of_ble_eq_true rfl) d_L_law_430 ⟨rfl, rfl⟩ ⟨by show nc + 1 ≤ 1051; omega, by show ns + 6 ≤ 11457; omega⟩ ?_
    refine jw_iload (pc := 433) F 5 d_L_law_433 rfl ?_
    refine jw_icmp_eq (pc := 435) F 440 d_L_law_435 (by decide) (fun hz1 => ?_) (fun hz1 => False.elim (hz1 rfl))
    refine jw_iload (pc := 440) F 5 d_L_law_440 rfl ?_
    refine jw_if_ne (pc := 442) F 464 d_L_law_442 (by decide) (fun hz2 => ?_) (fun hz2 => False.elim (absurd hz2 (by decide)))
    refine jw_goto (pc := 464) F 857 d_L_law_464 (by decide) ?_
    refine jw_loc (lv' := [(0, .ref b), (1, .ref (ad 0)), (2, .ref (am 0)), (3, .ref ao), (4, .int (nI i))]) [0, 1, 2, 3, 4] rfl ?_
    refine jw_widen (k := nc + 1) (n := ns + 6) (by show nc + 1 ≤ nc + 1; omega) (by show ns + 6 ≤ ns + 6; omega) ?_
    exact kk a L f0 f1 f2 f3 f4 f5 f6 f7 v md ln go gc gb gd gh gr gt gk gn 1 op sz o hQ hQm
  · obtain ⟨r, hr, hr2⟩ := a_isrep_t hr1
    cases hk1 : a_isop (a_n a) (xs (i + 2))
    · refine jw_aload_n (pc := 392) F 1 d_L_law_392 rfl rfl ?_
      refine jw_aload_n (pc := 393) F 0 d_L_law_393 rfl rfl ?_
      refine jw_iload (pc := 394) F 4 d_L_law_394 rfl ?_
      refine jw_iconst (pc := 396) (v := nI 1) F d_L_law_396 (by decide) ?_
      refine jw_iadd (pc := 397) F d_L_law_397 ?_
      rw [nI_add]
      refine jw_sld (pc := 398) F hX hbl hbA (i + 1) rfl (by omega) (by omega) d_L_law_398 ?_
      rw [hr2]
      refine jw_aload_n (pc := 399) F 0 d_L_law_399 rfl rfl ?_
      refine jw_iload (pc := 400) F 4 d_L_law_400 rfl ?_
      refine jw_iconst (pc := 402) (v := nI 2) F d_L_law_402 (by decide) ?_
      refine jw_iadd (pc := 403) F d_L_law_403 ?_
      rw [nI_add]
      refine jw_sld (pc := 404) F hX hbl hbA (i + 2) rfl (by omega) (by omega) d_L_law_404 ?_
      refine jw_aload_n (pc := 405) F 3 d_L_law_405 rfl rfl ?_
      refine jw_callSW_N (pc := 406) (As := [.ref (ad 0), .int (nI r), .int (xs (i + 2)), .ref ao]) (rest := []) F jz_okY hZ (wM am cB cI cL go gc gb gd gh gr gt gk gn er op sz) ([]) (w_holds_2 l D ad cB cI cL f0 f1 f2 f3 f4 f5 f6 f7 v md ln ao o a L hQ r hr (xs (i + 2)) hk1 hl) (jw_cwSW F.1.2.2.2.2 wl_good w_269 w_270 w_28 w_271 hd_L_holds.2 ⟨by decide, by decide⟩) (by rw [List.append_nil, List.append_assoc]) rfl rfl (Nat.le_of_ble_eq_true rfl) d_L_law_406 ⟨by show nc + 1 ≤ 1051; omega, by show ns + 6 ≤ 11457; omega⟩ (fun r w hw => ?_)
      obtain ⟨rfl, rfl⟩ := hw
      refine jw_at (lv' := [(0, .ref b), (1, .ref (ad 0)), (2, .ref (am 0)), (3, .ref ao), (4, .int (nI i))]) (st' := [.int 2]) (ws' := wM am cB cI cL go gc gb gd gh gr gt gk gn er op sz ++ wX ad cB cI cL f0 f1 f2 f3 f4 f5 f6 f7 v md ln ++ wO ao cL o) rfl rfl (by rw [List.append_nil, List.append_assoc]) ?_
      refine jw_istore (pc := 409) (lv' := [(0, .ref b), (1, .ref (ad 0)), (2, .ref (am 0)), (3, .ref ao), (4, .int (nI i)), (5, .int 2)]) F d_L_law_409 (by decide) rfl ?_
      refine jw_aload_n (pc := 411) F 2 d_L_law_411 rfl rfl ?_
      refine jw_aload_n (pc := 412) F 0 d_L_law_412 rfl rfl ?_
      refine jw_iload (pc := 413) F 4 d_L_law_413 rfl ?_
      refine jw_iconst (pc := 415) (v := nI 1) F d_L_law_415 (by decide) ?_
      refine jw_iadd (pc := 416) F d_L_law_416 ?_
      rw [nI_add]
      refine jw_sld (pc := 417) F hX hbl hbA (i + 1) rfl (by omega) (by omega) d_L_law_417 ?_
      rw [hr2]
      refine jw_aload_n (pc := 418) F 0 d_L_law_418 rfl rfl ?_
      refine jw_iload (pc := 419) F 4 d_L_law_419 rfl ?_
      refine jw_iconst (pc := 421) (v := nI 2) F d_L_law_421 (by decide) ?_
      refine jw_iadd (pc := 422) F d_L_law_422 ?_
      rw [nI_add]
      refine jw_sld (pc := 423) F hX hbl hbA (i + 2) rfl (by omega) (by omega) d_L_law_423 ?_
      refine jw_callV_Gi (pc := 424) (As := [.int (nI r), .int (xs (i + 2))]) (rest := []) F ([]) (wX ad cB cI cL f0 f1 f2 f3 f4 f5 f6 f7 v md ln ++ wO ao cL o) (m_holds_2 l D am cB cI cL go gc gb gd gh gr gt gk gn er op sz a hQm r hr (xs (i + 2)) hk1) (jw_cwV F.1.2.2.2.2 wl_good w_431 w_432 w_433 w_30 w_434 hd_M_holds ⟨by decide, by decide⟩) 0 1 rfl rfl rfl (List.append_assoc _ _ _) rfl rfl (Nat.le_of_ble_eq_true rfl) d_L_law_424 ⟨rfl, rfl⟩ ⟨by show nc + 1 ≤ 1051; omega, by show ns + 6 ≤ 11457; omega⟩ (fun r w hw => ?_)
      obtain ⟨rfl, rfl⟩ := hw
      refine jw_at (lv' := [(0, .ref b), (1, .ref (ad 0)), (2, .ref (am 0)), (3, .ref ao), (4, .int (nI i)), (5, .int 2)]) (st' := [.int 0]) (ws' := wM am cB cI cL go gc gb gd gh gr gt gk gn 2 op sz ++ wX ad cB cI cL f0 f1 f2 f3 f4 f5 f6 f7 v md ln ++ wO ao cL o) rfl rfl (by rw [List.nil_append, List.append_assoc]) ?_
      refine jw_istore (pc := 427) (lv' := [(0, .ref b), (1, .ref (ad 0)), (2, .ref (am 0)), (3, .ref ao), (4, .int (nI i)), (5, .int 2), (6, .int 0)]) F d_L_law_427 (by decide) rfl ?_
      refine jw_aload_n (pc := 429) F 2 d_L_law_429 rfl rfl ?_
      refine jw_callV_Ei (pc := 430) (As := []) (rest := []) F ([]) (wX ad cB cI cL f0 f1 f2 f3 f4 f5 f6 f7 v md ln ++ wO ao cL o) (m_thrown l D am cB cI cL go gc gb gd gh gr gt gk gn 2 op sz) (jw_cwV F.1.2.2.2.2 wl_good w_379 w_380 w_381 w_30 w_382 hd_M_thrown ⟨by decide, by decide⟩) 0 1 rfl rfl rfl (List.append_assoc _ _ _) rfl rfl (Nat.le_of_ble_eq_true rfl) d_L_law_430 ⟨rfl, rfl⟩ ⟨by show nc + 1 ≤ 1051; omega, by show ns + 6 ≤ 11457; omega⟩ ?_
      refine jw_iload (pc := 433) F 5 d_L_law_433 rfl ?_
      refine jw_icmp_eq (pc := 435) F 440 d_L_law_435 (by decide) (fun hz3 => ?_) (fun hz3 => False.elim (hz3 rfl))
      refine jw_iload (pc := 440) F 5 d_L_law_440 rfl ?_
      refine jw_if_ne (pc := 442) F 464 d_L_law_442 (by decide) (fun hz4 => ?_) (fun hz4 => False.elim (absurd hz4 (by decide)))
      refine jw_goto (pc := 464) F 857 d_L_law_464 (by decide) ?_
      refine jw_loc (lv' := [(0, .ref b), (1, .ref (ad 0)), (2, .ref (am 0)), (3, .ref ao), (4, .int (nI i))]) [0, 1, 2, 3, 4] rfl ?_
      refine jw_widen (k := nc + 1) (n := ns + 6) (by show nc + 1 ≤ nc + 1; omega) (by show ns + 6 ≤ ns + 6; omega) ?_
      exact kk a L f0 f1 f2 f3 f4 f5 f6 f7 v md ln go gc gb gd gh gr gt gk gn 2 op sz o hQ hQm
    · obtain ⟨k, hk, hk2⟩ := a_isop_t (by omega) hk1
      refine jw_aload_n (pc := 392) F 1 d_L_law_392 rfl rfl ?_
      refine jw_aload_n (pc := 393) F 0 d_L_law_393 rfl rfl ?_
      refine jw_iload (pc := 394) F 4 d_L_law_394 rfl ?_
      refine jw_iconst (pc := 396) (v := nI 1) F d_L_law_396 (by decide) ?_
      refine jw_iadd (pc := 397) F d_L_law_397 ?_
      rw [nI_add]
      refine jw_sld (pc := 398) F hX hbl hbA (i + 1) rfl (by omega) (by omega) d_L_law_398 ?_
      rw [hr2]
      refine jw_aload_n (pc := 399) F 0 d_L_law_399 rfl rfl ?_
      refine jw_iload (pc := 400) F 4 d_L_law_400 rfl ?_
      refine jw_iconst (pc := 402) (v := nI 2) F d_L_law_402 (by decide) ?_
      refine jw_iadd (pc := 403) F d_L_law_403 ?_
      rw [nI_add]
      refine jw_sld (pc := 404) F hX hbl hbA (i + 2) rfl (by omega) (by omega) d_L_law_404 ?_
      rw [hk2]
      refine jw_aload_n (pc := 405) F 3 d_L_law_405 rfl rfl ?_
      refine jw_callSW_M (pc := 406) (As := [.ref (ad 0), .int (nI r), .int (nI k), .ref ao]) (rest := []) F (wM am cB cI cL go gc gb gd gh gr gt gk gn er op sz) ([]) (w_holds_0 l D ad cB cI cL f0 f1 f2 f3 f4 f5 f6 f7 v md ln ao o a L hQ r hr k hk) (jw_cwSW F.1.2.2.2.2 wl_good w_269 w_270 w_28 w_271 hd_L_holds.2 ⟨by decide, by decide⟩) (by rw [List.append_nil, List.append_assoc]) rfl rfl (Nat.le_of_ble_eq_true rfl) d_L_law_406 ⟨by show nc + 0 ≤ 1051; omega, by show ns + 0 ≤ 11457; omega⟩ (fun r w hw => ?_)
      obtain ⟨rfl, o9, rfl, ho9⟩ := hw
      refine jw_at (lv' := [(0, .ref b), (1, .ref (ad 0)), (2, .ref (am 0)), (3, .ref ao), (4, .int (nI i))]) (st' := [.int 0]) (ws' := wM am cB cI cL go gc gb gd gh gr gt gk gn er op sz ++ wX ad cB cI cL f0 f1 f2 f3 f4 f5 f6 f7 v md ln ++ wO ao cL o9) rfl rfl (by rw [List.append_nil, List.append_assoc]) ?_
      refine jw_istore (pc := 409) (lv' := [(0, .ref b), (1, .ref (ad 0)), (2, .ref (am 0)), (3, .ref ao), (4, .int (nI i)), (5, .int 0)]) F d_L_law_409 (by decide) rfl ?_
      refine jw_aload_n (pc := 411) F 2 d_L_law_411 rfl rfl ?_
      refine jw_aload_n (pc := 412) F 0 d_L_law_412 rfl rfl ?_
      refine jw_iload (pc := 413) F 4 d_L_law_413 rfl ?_
      refine jw_iconst (pc := 415) (v := nI 1) F d_L_law_415 (by decide) ?_
      refine jw_iadd (pc := 416) F d_L_law_416 ?_
      rw [nI_add]
      refine jw_sld (pc := 417) F hX hbl hbA (i + 1) rfl (by omega) (by omega) d_L_law_417 ?_
      rw [hr2]
      refine jw_aload_n (pc := 418) F 0 d_L_law_418 rfl rfl ?_
      refine jw_iload (pc := 419) F 4 d_L_law_419 rfl ?_
      refine jw_iconst (pc := 421) (v := nI 2) F d_L_law_421 (by decide) ?_
      refine jw_iadd (pc := 422) F d_L_law_422 ?_
      rw [nI_add]
      refine jw_sld (pc := 423) F hX hbl hbA (i + 2) rfl (by omega) (by omega) d_L_law_423 ?_
      rw [hk2]
      refine jw_callV_Gi (pc := 424) (As := [.int (nI r), .int (nI k)]) (rest := []) F ([]) (wX ad cB cI cL f0 f1 f2 f3 f4 f5 f6 f7 v md ln ++ wO ao cL o9) (m_holds_0 l D am cB cI cL go gc gb gd gh gr gt gk gn er op sz a hQm r hr k hk) (jw_cwV F.1.2.2.2.2 wl_good w_431 w_432 w_433 w_30 w_434 hd_M_holds ⟨by decide, by decide⟩) 0 1 rfl rfl rfl (List.append_assoc _ _ _) rfl rfl (Nat.le_of_ble_eq_true rfl) d_L_law_424 ⟨rfl, rfl⟩ ⟨by show nc + 0 ≤ 1051; omega, by show ns + 0 ≤ 11457; omega⟩ (fun r w hw => ?_)
      obtain ⟨rfl, rfl⟩ := hw
      refine jw_at (lv' := [(0, .ref b), (1, .ref (ad 0)), (2, .ref (am 0)), (3, .ref ao), (4, .int (nI i)), (5, .int 0)]) (st' := [.int (jb (a_hd a r k))]) (ws' := wM am cB cI cL go gc gb gd gh gr gt gk gn 0 op sz ++ wX ad cB cI cL f0 f1 f2 f3 f4 f5 f6 f7 v md ln ++ wO ao cL o9) rfl rfl (by rw [List.nil_append, List.append_assoc]) ?_
      refine jw_istore (pc := 427) (lv' := [(0, .ref b), (1, .ref (ad 0)), (2, .ref (am 0)), (3, .ref ao), (4, .int (nI i)), (5, .int 0), (6, .int (jb (a_hd a r k)))]) F d_L_law_427 (by decide) rfl ?_
      refine jw_aload_n (pc := 429) F 2 d_L_law_429 rfl rfl ?_
      refine jw_callV_Ei (pc := 430) (As := []) (rest := []) F ([]) (wX ad cB cI cL f0 f1 f2 f3 f4 f5 f6 f7 v md ln ++ wO ao cL o9) (m_thrown l D am cB cI cL go gc gb gd gh gr gt gk gn 0 op sz) (jw_cwV F.1.2.2.2.2 wl_good w_379 w_380 w_381 w_30 w_382 hd_M_thrown ⟨by decide, by decide⟩) 0 1 rfl rfl rfl (List.append_assoc _ _ _) rfl rfl (Nat.le_of_ble_eq_true rfl) d_L_law_430 ⟨rfl, rfl⟩ ⟨by show nc + 0 ≤ 1051; omega, by show ns + 0 ≤ 11457; omega⟩ ?_
      refine jw_iload (pc := 433) F 5 d_L_law_433 rfl ?_
      refine jw_icmp_eq (pc := 435) F 440 d_L_law_435 (by decide) (fun hz5 => ?_) (fun hz5 => False.elim (hz5 rfl))
      refine jw_iload (pc := 440) F 5 d_L_law_440 rfl ?_
      refine jw_if_ne (pc := 442) F 464 d_L_law_442 (by decide) (fun hz6 => False.elim (hz6 rfl)) (fun hz6 => ?_)
      refine jw_aload_n (pc := 445) F 3 d_L_law_445 rfl rfl ?_
      refine jw_iconst (pc := 446) (v := nI 0) F d_L_law_446 (by decide) ?_
      refine jw_laldN (pc := 447) F 20 2 rfl rfl 0 rfl (by omega) (by decide) d_L_law_447 ?_
      refine jw_iload (pc := 448) F 6 d_L_law_448 rfl ?_
      refine jw_if_eq (pc := 450) F 457 d_L_law_450 (by decide) (fun hb9 => ?_) (fun hb9 => ?_)
      · refine jw_lconst (pc := 457) (v := 0) F d_L_law_457 (by decide) ?_
        refine jw_lcmp (pc := 458) F d_L_law_458 ?_
        refine jw_if_eq (pc := 459) F 464 d_L_law_459 (by decide) (fun hz7 => ?_) (fun hz7 => False.elim (hz7 ((lg_cmp_eq _ _).mpr (by rw [ho9, jb_0.mp hb9]; rfl))))
        refine jw_goto (pc := 464) F 857 d_L_law_464 (by decide) ?_
        refine jw_loc (lv' := [(0, .ref b), (1, .ref (ad 0)), (2, .ref (am 0)), (3, .ref ao), (4, .int (nI i))]) [0, 1, 2, 3, 4] rfl ?_
        refine jw_widen (k := nc + 1) (n := ns + 6) (by show nc + 0 ≤ nc + 1; omega) (by show ns + 0 ≤ ns + 6; omega) ?_
        exact kk a L f0 f1 f2 f3 f4 f5 f6 f7 v md ln go gc gb gd gh gr gt gk gn 0 op sz o9 hQ hQm
      · refine jw_lconst (pc := 453) (v := 1) F d_L_law_453 (by decide) ?_
        refine jw_goto (pc := 454) F 458 d_L_law_454 (by decide) ?_
        refine jw_lcmp (pc := 458) F d_L_law_458 ?_
        refine jw_if_eq (pc := 459) F 464 d_L_law_459 (by decide) (fun hz8 => ?_) (fun hz8 => False.elim (hz8 ((lg_cmp_eq _ _).mpr (by rw [ho9, jb_n.mp hb9]; rfl))))
        refine jw_goto (pc := 464) F 857 d_L_law_464 (by decide) ?_
        refine jw_loc (lv' := [(0, .ref b), (1, .ref (ad 0)), (2, .ref (am 0)), (3, .ref ao), (4, .int (nI i))]) [0, 1, 2, 3, 4] rfl ?_
        refine jw_widen (k := nc + 1) (n := ns + 6) (by show nc + 0 ≤ nc + 1; omega) (by show ns + 0 ≤ ns + 6; omega) ?_
        exact kk a L f0 f1 f2 f3 f4 f5 f6 f7 v md ln go gc gb gd gh gr gt gk gn 0 op sz o9 hQ hQm
set_option maxHeartbeats 4000000 in
set_option maxRecDepth 100000 in
theorem lawc_at {p : Program} {e : Env} {s : State} {m : MethodId} {below : List Frame} {meth : Method} {c : Code} (l : Launch) (D : va_G) (ad am : Nat → Nat) (ao : Nat) (cB cI cL : ClassId) {b LL : Nat} {xs : Nat → Int32} {Q : State → Prop} {A : Nat → Prop} (hl : l.stackTraces = false) (F : jw_F p s m #[Value.ref b] meth c D vCl (vTy cB cI cL) A 8 b_L_law RL (Cond.initialized RL :: WL) ret) (hZ : jz_Y A s) (hX : va_X b LL xs s s.heap) (hbl : b < s.heap.size) (hbA : ¬ A b) (hLL : LL ≤ 2560) (i nc ns : Nat) (hi : i + 5 ≤ LL) (hnc : nc + 1 ≤ 1051) (hns : ns + 6 ≤ 11457) (a : AS) (L : List Nat) (f0 f1 f2 f3 f4 f5 f6 f7 : Nat → Int32) (v : Nat → Int64) (md ln : Int32) (go gc gb gd gh gr gt gk : Nat → Int32) (gn : Nat → Int64) (er op sz : Int32) (o : Nat → Int64) (hQ : cx_R a L f0 f1 f2 f3 f4 f5 f6 f7 v md ln) (hQm : mx_R a go gc gb gd gh gn op) (kk : ∀ (a : AS) (L : List Nat) (f0 f1 f2 f3 f4 f5 f6 f7 : Nat → Int32) (v : Nat → Int64) (md ln : Int32) (go gc gb gd gh gr gt gk : Nat → Int32) (gn : Nat → Int64) (er op sz : Int32) (o : Nat → Int64), cx_R a L f0 f1 f2 f3 f4 f5 f6 f7 v md ln → mx_R a go gc gb gd gh gn op → jw_J p l e room_1 s m #[Value.ref b] below meth c D vCl A 8 Q (nc + 1) (ns + 6) 857 [(0, .ref b), (1, .ref (ad 0)), (2, .ref (am 0)), (3, .ref ao), (4, .int (nI i))] [] (wM am cB cI cL go gc gb gd gh gr gt gk gn er op sz ++ wX ad cB cI cL f0 f1 f2 f3 f4 f5 f6 f7 v md ln ++ wO ao cL o)) : jw_J p l e room_1 s m #[Value.ref b] below meth c D vCl A 8 Q (nc) (ns) 467 [(0, .ref b), (1, .ref (ad 0)), (2, .ref (am 0)), (3, .ref ao), (4, .int (nI i))] [] (wM am cB cI cL go gc gb gd gh gr gt gk gn er op sz ++ wX ad cB cI cL f0 f1 f2 f3 f4 f5 f6 f7 v md ln ++ wO ao cL o) := by
  have hn := hQ.1.1
  cases hr1 : a_isrep (xs (i + 1))
  · refine jw_aload_n (pc := 467) F 1 d_L_law_467 rfl rfl ?_
    refine jw_aload_n (pc := 468) F 0 d_L_law_468 rfl rfl ?_
    refine jw_iload (pc := 469) F 4 d_L_law_469 rfl ?_
    refine jw_iconst (pc := 471) (v := nI 1) F d_L_law_471 (by decide) ?_
    refine jw_iadd (pc := 472) F d_L_law_472 ?_
    rw [nI_add]
    refine jw_sld (pc := 473) F hX hbl hbA (i + 1) rfl (by omega) (by omega) d_L_law_473 ?_
    refine jw_aload_n (pc := 474) F 0 d_L_law_474 rfl rfl ?_
    refine jw_iload (pc := 475) F 4 d_L_law_475 rfl ?_
    refine jw_iconst (pc := 477) (v := nI 2) F d_L_law_477 (by decide) ?_
    refine jw_iadd (pc := 478) F d_L_law_478 ?_
    rw [nI_add]
    refine jw_sld (pc := 479) F hX hbl hbA (i + 2) rfl (by omega) (by omega) d_L_law_479 ?_
    refine jw_aload_n (pc := 480) F 3 d_L_law_480 rfl rfl ?_
    refine jw_callSW_N (pc := 481) (As := [.ref (ad 0), .int (xs (i + 1)), .int (xs (i + 2)), .ref ao]) (rest := []) F jz_okY hZ (wM am cB cI cL go gc gb gd gh gr gt gk gn er op sz) ([]) (w_at_1 l D ad cB cI cL f0 f1 f2 f3 f4 f5 f6 f7 v md ln ao o a L hQ (xs (i + 1)) hr1 (xs (i + 2)) hl) (jw_cwSW F.1.2.2.2.2 wl_good w_276 w_277 w_28 w_278 hd_L_at.2 ⟨by decide, by decide⟩) (by rw [List.append_nil, List.append_assoc]) rfl rfl (Nat.le_of_ble_eq_true rfl) d_L_law_481 ⟨by show nc + 1 ≤ 1051; omega, by show ns + 6 ≤ 11457; omega⟩ (fun r w hw => ?_)
    obtain ⟨rfl, rfl⟩ := hw
    refine jw_at (lv' := [(0, .ref b), (1, .ref (ad 0)), (2, .ref (am 0)), (3, .ref ao), (4, .int (nI i))]) (st' := [.int 1]) (ws' := wM am cB cI cL go gc gb gd gh gr gt gk gn er op sz ++ wX ad cB cI cL f0 f1 f2 f3 f4 f5 f6 f7 v md ln ++ wO ao cL o) rfl rfl (by rw [List.append_nil, List.append_assoc]) ?_
    refine jw_istore (pc := 484) (lv' := [(0, .ref b), (1, .ref (ad 0)), (2, .ref (am 0)), (3, .ref ao), (4, .int (nI i)), (5, .int 1)]) F d_L_law_484 (by decide) rfl ?_
    refine jw_aload_n (pc := 486) F 2 d_L_law_486 rfl rfl ?_
    refine jw_aload_n (pc := 487) F 0 d_L_law_487 rfl rfl ?_
    refine jw_iload (pc := 488) F 4 d_L_law_488 rfl ?_
    refine jw_iconst (pc := 490) (v := nI 1) F d_L_law_490 (by decide) ?_
    refine jw_iadd (pc := 491) F d_L_law_491 ?_
    rw [nI_add]
    refine jw_sld (pc := 492) F hX hbl hbA (i + 1) rfl (by omega) (by omega) d_L_law_492 ?_
    refine jw_aload_n (pc := 493) F 0 d_L_law_493 rfl rfl ?_
    refine jw_iload (pc := 494) F 4 d_L_law_494 rfl ?_
    refine jw_iconst (pc := 496) (v := nI 2) F d_L_law_496 (by decide) ?_
    refine jw_iadd (pc := 497) F d_L_law_497 ?_
    rw [nI_add]
    refine jw_sld (pc := 498) F hX hbl hbA (i + 2) rfl (by omega) (by omega) d_L_law_498 ?_
    refine jw_callV_Gi (pc := 499) (As := [.int (xs (i + 1)), .int (xs (i + 2))]) (rest := []) F ([]) (wX ad cB cI cL f0 f1 f2 f3 f4 f5 f6 f7 v md ln ++ wO ao cL o) (m_at_1 l D am cB cI cL go gc gb gd gh gr gt gk gn er op sz a hQm (xs (i + 1)) hr1 (xs (i + 2))) (jw_cwV F.1.2.2.2.2 wl_good w_435 w_436 w_437 w_30 w_438 hd_M_at ⟨by decide, by decide⟩) 0 1 rfl rfl rfl (List.append_assoc _ _ _) rfl rfl (Nat.le_of_ble_eq_true rfl) d_L_law_499 ⟨rfl, rfl⟩ ⟨by show nc + 1 ≤ 1051; omega, by show ns + 6 ≤ 11457; omega⟩ (fun r w hw => ?_)
    obtain ⟨rfl, rfl⟩ := hw
    refine jw_at (lv' := [(0, .ref b), (1, .ref (ad 0)), (2, .ref (am 0)), (3, .ref ao), (4, .int (nI i)), (5, .int 1)]) (st' := [.int 0]) (ws' := wM am cB cI cL go gc gb gd gh gr gt gk gn 1 op sz ++ wX ad cB cI cL f0 f1 f2 f3 f4 f5 f6 f7 v md ln ++ wO ao cL o) rfl rfl (by rw [List.nil_append, List.append_assoc]) ?_
    refine jw_istore (pc := 502) (lv' := [(0, .ref b), (1, .ref (ad 0)), (2, .ref (am 0)), (3, .ref ao), (4, .int (nI i)), (5, .int 1), (6, .int 0)]) F d_L_law_502 (by decide) rfl ?_
    refine jw_aload_n (pc := 504) F 2 d_L_law_504 rfl rfl ?_
    refine jw_callV_Ei (pc := 505) (As := []) (rest := []) F ([]) (wX ad cB cI cL f0 f1 f2 f3 f4 f5 f6 f7 v md ln ++ wO ao cL o) (m_thrown l D am cB cI cL go gc gb gd gh gr gt gk gn 1 op sz) (jw_cwV F.1.2.2.2.2 wl_good w_379 w_380 w_381 w_30 w_382 hd_M_thrown ⟨by decide, by decide⟩) 0 1 rfl rfl rfl (List.append_assoc _ _ _) rfl rfl (Nat.le_of_ble_eq_true rfl) d_L_law_505 ⟨rfl, rfl⟩ ⟨by show nc + 1 ≤ 1051; omega, by show ns + 6 ≤ 11457; omega⟩ ?_
    refine jw_iload (pc := 508) F 5 d_L_law_508 rfl ?_
    refine jw_icmp_eq (pc := 510) F 515 d_L_law_510 (by decide) (fun hz1 => ?_) (fun hz1 => False.elim (hz1 rfl))
    refine jw_iload (pc := 515) F 5 d_L_law_515 rfl ?_
    refine jw_if_ne (pc := 517) F 532 d_L_law_517 (by decide) (fun hz2 => ?_) (fun hz2 => False.elim (absurd hz2 (by decide)))
    refine jw_goto (pc := 532) F 857 d_L_law_532 (by decide) ?_
    refine jw_loc (lv' := [(0, .ref b), (1, .ref (ad 0)), (2, .ref (am 0)), (3, .ref ao), (4, .int (nI i))]) [0, 1, 2, 3, 4] rfl ?_
    refine jw_widen (k := nc + 1) (n := ns + 6) (by show nc + 1 ≤ nc + 1; omega) (by show ns + 6 ≤ ns + 6; omega) ?_
    exact kk a L f0 f1 f2 f3 f4 f5 f6 f7 v md ln go gc gb gd gh gr gt gk gn 1 op sz o hQ hQm
  · obtain ⟨r, hr, hr2⟩ := a_isrep_t hr1
    refine jw_aload_n (pc := 467) F 1 d_L_law_467 rfl rfl ?_
    refine jw_aload_n (pc := 468) F 0 d_L_law_468 rfl rfl ?_
    refine jw_iload (pc := 469) F 4 d_L_law_469 rfl ?_
    refine jw_iconst (pc := 471) (v := nI 1) F d_L_law_471 (by decide) ?_
    refine jw_iadd (pc := 472) F d_L_law_472 ?_
    rw [nI_add]
    refine jw_sld (pc := 473) F hX hbl hbA (i + 1) rfl (by omega) (by omega) d_L_law_473 ?_
    rw [hr2]
    refine jw_aload_n (pc := 474) F 0 d_L_law_474 rfl rfl ?_
    refine jw_iload (pc := 475) F 4 d_L_law_475 rfl ?_
    refine jw_iconst (pc := 477) (v := nI 2) F d_L_law_477 (by decide) ?_
    refine jw_iadd (pc := 478) F d_L_law_478 ?_
    rw [nI_add]
    refine jw_sld (pc := 479) F hX hbl hbA (i + 2) rfl (by omega) (by omega) d_L_law_479 ?_
    refine jw_aload_n (pc := 480) F 3 d_L_law_480 rfl rfl ?_
    refine jw_callSW_M (pc := 481) (As := [.ref (ad 0), .int (nI r), .int (xs (i + 2)), .ref ao]) (rest := []) F (wM am cB cI cL go gc gb gd gh gr gt gk gn er op sz) ([]) (w_at_0 l D ad cB cI cL f0 f1 f2 f3 f4 f5 f6 f7 v md ln ao o a L hQ r hr (xs (i + 2))) (jw_cwSW F.1.2.2.2.2 wl_good w_276 w_277 w_28 w_278 hd_L_at.2 ⟨by decide, by decide⟩) (by rw [List.append_nil, List.append_assoc]) rfl rfl (Nat.le_of_ble_eq_true rfl) d_L_law_481 ⟨by show nc + 0 ≤ 1051; omega, by show ns + 0 ≤ 11457; omega⟩ (fun r w hw => ?_)
    obtain ⟨rfl, o9, rfl, ho9⟩ := hw
    refine jw_at (lv' := [(0, .ref b), (1, .ref (ad 0)), (2, .ref (am 0)), (3, .ref ao), (4, .int (nI i))]) (st' := [.int 0]) (ws' := wM am cB cI cL go gc gb gd gh gr gt gk gn er op sz ++ wX ad cB cI cL f0 f1 f2 f3 f4 f5 f6 f7 v md ln ++ wO ao cL o9) rfl rfl (by rw [List.append_nil, List.append_assoc]) ?_
    refine jw_istore (pc := 484) (lv' := [(0, .ref b), (1, .ref (ad 0)), (2, .ref (am 0)), (3, .ref ao), (4, .int (nI i)), (5, .int 0)]) F d_L_law_484 (by decide) rfl ?_
    refine jw_aload_n (pc := 486) F 2 d_L_law_486 rfl rfl ?_
    refine jw_aload_n (pc := 487) F 0 d_L_law_487 rfl rfl ?_
    refine jw_iload (pc := 488) F 4 d_L_law_488 rfl ?_
    refine jw_iconst (pc := 490) (v := nI 1) F d_L_law_490 (by decide) ?_
    refine jw_iadd (pc := 491) F d_L_law_491 ?_
    rw [nI_add]
    refine jw_sld (pc := 492) F hX hbl hbA (i + 1) rfl (by omega) (by omega) d_L_law_492 ?_
    rw [hr2]
    refine jw_aload_n (pc := 493) F 0 d_L_law_493 rfl rfl ?_
    refine jw_iload (pc := 494) F 4 d_L_law_494 rfl ?_
    refine jw_iconst (pc := 496) (v := nI 2) F d_L_law_496 (by decide) ?_
    refine jw_iadd (pc := 497) F d_L_law_497 ?_
    rw [nI_add]
    refine jw_sld (pc := 498) F hX hbl hbA (i + 2) rfl (by omega) (by omega) d_L_law_498 ?_
    refine jw_callV_Gi (pc := 499) (As := [.int (nI r), .int (xs (i + 2))]) (rest := []) F ([]) (wX ad cB cI cL f0 f1 f2 f3 f4 f5 f6 f7 v md ln ++ wO ao cL o9) (m_at_0 l D am cB cI cL go gc gb gd gh gr gt gk gn er op sz a hQm L hQ.2.2.2.2 r hr (xs (i + 2))) (jw_cwV F.1.2.2.2.2 wl_good w_435 w_436 w_437 w_30 w_438 hd_M_at ⟨by decide, by decide⟩) 0 1 rfl rfl rfl (List.append_assoc _ _ _) rfl rfl (Nat.le_of_ble_eq_true rfl) d_L_law_499 ⟨rfl, rfl⟩ ⟨by show nc + 0 ≤ 1051; omega, by show ns + 0 ≤ 11457; omega⟩ (fun r w hw => ?_)
    obtain ⟨rfl, k7, k8, k9, ks, rfl⟩ := hw
    refine jw_at (lv' := [(0, .ref b), (1, .ref (ad 0)), (2, .ref (am 0)), (3, .ref ao), (4, .int (nI i)), (5, .int 0)]) (st' := [.int (gl_at (L.filter (a_seen a r)) (xs (i + 2)))]) (ws' := wM am cB cI cL go gc gb gd gh k7 k8 k9 gn 0 op ks ++ wX ad cB cI cL f0 f1 f2 f3 f4 f5 f6 f7 v md ln ++ wO ao cL o9) rfl rfl (by rw [List.nil_append, List.append_assoc]) ?_
    refine jw_istore (pc := 502) (lv' := [(0, .ref b), (1, .ref (ad 0)), (2, .ref (am 0)), (3, .ref ao), (4, .int (nI i)), (5, .int 0), (6, .int (gl_at (L.filter (a_seen a r)) (xs (i + 2))))]) F d_L_law_502 (by decide) rfl ?_
    refine jw_aload_n (pc := 504) F 2 d_L_law_504 rfl rfl ?_
    refine jw_callV_Ei (pc := 505) (As := []) (rest := []) F ([]) (wX ad cB cI cL f0 f1 f2 f3 f4 f5 f6 f7 v md ln ++ wO ao cL o9) (m_thrown l D am cB cI cL go gc gb gd gh k7 k8 k9 gn 0 op ks) (jw_cwV F.1.2.2.2.2 wl_good w_379 w_380 w_381 w_30 w_382 hd_M_thrown ⟨by decide, by decide⟩) 0 1 rfl rfl rfl (List.append_assoc _ _ _) rfl rfl (Nat.le_of_ble_eq_true rfl) d_L_law_505 ⟨rfl, rfl⟩ ⟨by show nc + 0 ≤ 1051; omega, by show ns + 0 ≤ 11457; omega⟩ ?_
    refine jw_iload (pc := 508) F 5 d_L_law_508 rfl ?_
    refine jw_icmp_eq (pc := 510) F 515 d_L_law_510 (by decide) (fun hz3 => ?_) (fun hz3 => False.elim (hz3 rfl))
    refine jw_iload (pc := 515) F 5 d_L_law_515 rfl ?_
    refine jw_if_ne (pc := 517) F 532 d_L_law_517 (by decide) (fun hz4 => False.elim (hz4 rfl)) (fun hz4 => ?_)
    refine jw_aload_n (pc := 520) F 3 d_L_law_520 rfl rfl ?_
    refine jw_iconst (pc := 521) (v := nI 0) F d_L_law_521 (by decide) ?_
    refine jw_laldN (pc := 522) F 20 2 rfl rfl 0 rfl (by omega) (by decide) d_L_law_522 ?_
    refine jw_iload (pc := 523) F 6 d_L_law_523 rfl ?_
    refine jw_i2l (pc := 525) F d_L_law_525 ?_
    refine jw_lcmp (pc := 526) F d_L_law_526 ?_
    refine jw_if_eq (pc := 527) F 532 d_L_law_527 (by decide) (fun hz5 => ?_) (fun hz5 => False.elim (hz5 ((lg_cmp_eq _ _).mpr (ho9))))
    refine jw_goto (pc := 532) F 857 d_L_law_532 (by decide) ?_
    refine jw_loc (lv' := [(0, .ref b), (1, .ref (ad 0)), (2, .ref (am 0)), (3, .ref ao), (4, .int (nI i))]) [0, 1, 2, 3, 4] rfl ?_
    refine jw_widen (k := nc + 1) (n := ns + 6) (by show nc + 0 ≤ nc + 1; omega) (by show ns + 0 ≤ ns + 6; omega) ?_
    exact kk a L f0 f1 f2 f3 f4 f5 f6 f7 v md ln go gc gb gd gh k7 k8 k9 gn 0 op ks o9 hQ hQm
set_option maxHeartbeats 4000000 in
set_option maxRecDepth 100000 in
theorem lawc_place {p : Program} {e : Env} {s : State} {m : MethodId} {below : List Frame} {meth : Method} {c : Code} (l : Launch) (D : va_G) (ad am : Nat → Nat) (ao : Nat) (cB cI cL : ClassId) {b LL : Nat} {xs : Nat → Int32} {Q : State → Prop} {A : Nat → Prop} (hl : l.stackTraces = false) (F : jw_F p s m #[Value.ref b] meth c D vCl (vTy cB cI cL) A 8 b_L_law RL (Cond.initialized RL :: WL) ret) (hZ : jz_Y A s) (hX : va_X b LL xs s s.heap) (hbl : b < s.heap.size) (hbA : ¬ A b) (hLL : LL ≤ 2560) (i nc ns : Nat) (hi : i + 5 ≤ LL) (hnc : nc + 1 ≤ 1051) (hns : ns + 6 ≤ 11457) (a : AS) (L : List Nat) (f0 f1 f2 f3 f4 f5 f6 f7 : Nat → Int32) (v : Nat → Int64) (md ln : Int32) (go gc gb gd gh gr gt gk : Nat → Int32) (gn : Nat → Int64) (er op sz : Int32) (o : Nat → Int64) (hQ : cx_R a L f0 f1 f2 f3 f4 f5 f6 f7 v md ln) (hQm : mx_R a go gc gb gd gh gn op) (kk : ∀ (a : AS) (L : List Nat) (f0 f1 f2 f3 f4 f5 f6 f7 : Nat → Int32) (v : Nat → Int64) (md ln : Int32) (go gc gb gd gh gr gt gk : Nat → Int32) (gn : Nat → Int64) (er op sz : Int32) (o : Nat → Int64), cx_R a L f0 f1 f2 f3 f4 f5 f6 f7 v md ln → mx_R a go gc gb gd gh gn op → jw_J p l e room_1 s m #[Value.ref b] below meth c D vCl A 8 Q (nc + 1) (ns + 6) 857 [(0, .ref b), (1, .ref (ad 0)), (2, .ref (am 0)), (3, .ref ao), (4, .int (nI i))] [] (wM am cB cI cL go gc gb gd gh gr gt gk gn er op sz ++ wX ad cB cI cL f0 f1 f2 f3 f4 f5 f6 f7 v md ln ++ wO ao cL o)) : jw_J p l e room_1 s m #[Value.ref b] below meth c D vCl A 8 Q (nc) (ns) 535 [(0, .ref b), (1, .ref (ad 0)), (2, .ref (am 0)), (3, .ref ao), (4, .int (nI i))] [] (wM am cB cI cL go gc gb gd gh gr gt gk gn er op sz ++ wX ad cB cI cL f0 f1 f2 f3 f4 f5 f6 f7 v md ln ++ wO ao cL o) := by
  have hn := hQ.1.1
  cases hr1 : a_isrep (xs (i + 1))
  · refine jw_aload_n (pc := 535) F 1 d_L_law_535 rfl rfl ?_
    refine jw_aload_n (pc := 536) F 0 d_L_law_536 rfl rfl ?_
    refine jw_iload (pc := 537) F 4 d_L_law_537 rfl ?_
    refine jw_iconst (pc := 539) (v := nI 1) F d_L_law_539 (by decide) ?_
    refine jw_iadd (pc := 540) F d_L_law_540 ?_
    rw [nI_add]
    refine jw_sld (pc := 541) F hX hbl hbA (i + 1) rfl (by omega) (by omega) d_L_law_541 ?_
    refine jw_aload_n (pc := 542) F 0 d_L_law_542 rfl rfl ?_
    refine jw_iload (pc := 543) F 4 d_L_law_543 rfl ?_
    refine jw_iconst (pc := 545) (v := nI 2) F d_L_law_545 (by decide) ?_
    refine jw_iadd (pc := 546) F d_L_law_546 ?_
    rw [nI_add]
    refine jw_sld (pc := 547) F hX hbl hbA (i + 2) rfl (by omega) (by omega) d_L_law_547 ?_
    refine jw_aload_n (pc := 548) F 3 d_L_law_548 rfl rfl ?_
    refine jw_callSW_N (pc := 549) (As := [.ref (ad 0), .int (xs (i + 1)), .int (xs (i + 2)), .ref ao]) (rest := []) F jz_okY hZ (wM am cB cI cL go gc gb gd gh gr gt gk gn er op sz) ([]) (w_place_1 l D ad cB cI cL f0 f1 f2 f3 f4 f5 f6 f7 v md ln ao o a L hQ (xs (i + 1)) hr1 (xs (i + 2)) hl) (jw_cwSW F.1.2.2.2.2 wl_good w_287 w_288 w_28 w_289 hd_L_place.2 ⟨by decide, by decide⟩) (by rw [List.append_nil, List.append_assoc]) rfl rfl (Nat.le_of_ble_eq_true rfl) d_L_law_549 ⟨by show nc + 1 ≤ 1051; omega, by show ns + 6 ≤ 11457; omega⟩ (fun r w hw => ?_)
    obtain ⟨rfl, rfl⟩ := hw
    refine jw_at (lv' := [(0, .ref b), (1, .ref (ad 0)), (2, .ref (am 0)), (3, .ref ao), (4, .int (nI i))]) (st' := [.int 1]) (ws' := wM am cB cI cL go gc gb gd gh gr gt gk gn er op sz ++ wX ad cB cI cL f0 f1 f2 f3 f4 f5 f6 f7 v md ln ++ wO ao cL o) rfl rfl (by rw [List.append_nil, List.append_assoc]) ?_
    refine jw_istore (pc := 552) (lv' := [(0, .ref b), (1, .ref (ad 0)), (2, .ref (am 0)), (3, .ref ao), (4, .int (nI i)), (5, .int 1)]) F d_L_law_552 (by decide) rfl ?_
    refine jw_aload_n (pc := 554) F 2 d_L_law_554 rfl rfl ?_
    refine jw_aload_n (pc := 555) F 0 d_L_law_555 rfl rfl ?_
    refine jw_iload (pc := 556) F 4 d_L_law_556 rfl ?_
    refine jw_iconst (pc := 558) (v := nI 1) F d_L_law_558 (by decide) ?_
    refine jw_iadd (pc := 559) F d_L_law_559 ?_
    rw [nI_add]
    refine jw_sld (pc := 560) F hX hbl hbA (i + 1) rfl (by omega) (by omega) d_L_law_560 ?_
    refine jw_aload_n (pc := 561) F 0 d_L_law_561 rfl rfl ?_
    refine jw_iload (pc := 562) F 4 d_L_law_562 rfl ?_
    refine jw_iconst (pc := 564) (v := nI 2) F d_L_law_564 (by decide) ?_
    refine jw_iadd (pc := 565) F d_L_law_565 ?_
    rw [nI_add]
    refine jw_sld (pc := 566) F hX hbl hbA (i + 2) rfl (by omega) (by omega) d_L_law_566 ?_
    refine jw_callV_Gi (pc := 567) (As := [.int (xs (i + 1)), .int (xs (i + 2))]) (rest := []) F ([]) (wX ad cB cI cL f0 f1 f2 f3 f4 f5 f6 f7 v md ln ++ wO ao cL o) (m_place_1 l D am cB cI cL go gc gb gd gh gr gt gk gn er op sz a hQm (xs (i + 1)) hr1 (xs (i + 2))) (jw_cwV F.1.2.2.2.2 wl_good w_459 w_460 w_461 w_30 w_462 hd_M_place ⟨by decide, by decide⟩) 0 1 rfl rfl rfl (List.append_assoc _ _ _) rfl rfl (Nat.le_of_ble_eq_true rfl) d_L_law_567 ⟨rfl, rfl⟩ ⟨by show nc + 1 ≤ 1051; omega, by show ns + 6 ≤ 11457; omega⟩ (fun r w hw => ?_)
    obtain ⟨rfl, rfl⟩ := hw
    refine jw_at (lv' := [(0, .ref b), (1, .ref (ad 0)), (2, .ref (am 0)), (3, .ref ao), (4, .int (nI i)), (5, .int 1)]) (st' := [.int 0]) (ws' := wM am cB cI cL go gc gb gd gh gr gt gk gn 1 op sz ++ wX ad cB cI cL f0 f1 f2 f3 f4 f5 f6 f7 v md ln ++ wO ao cL o) rfl rfl (by rw [List.nil_append, List.append_assoc]) ?_
    refine jw_istore (pc := 570) (lv' := [(0, .ref b), (1, .ref (ad 0)), (2, .ref (am 0)), (3, .ref ao), (4, .int (nI i)), (5, .int 1), (6, .int 0)]) F d_L_law_570 (by decide) rfl ?_
    refine jw_aload_n (pc := 572) F 2 d_L_law_572 rfl rfl ?_
    refine jw_callV_Ei (pc := 573) (As := []) (rest := []) F ([]) (wX ad cB cI cL f0 f1 f2 f3 f4 f5 f6 f7 v md ln ++ wO ao cL o) (m_thrown l D am cB cI cL go gc gb gd gh gr gt gk gn 1 op sz) (jw_cwV F.1.2.2.2.2 wl_good w_379 w_380 w_381 w_30 w_382 hd_M_thrown ⟨by decide, by decide⟩) 0 1 rfl rfl rfl (List.append_assoc _ _ _) rfl rfl (Nat.le_of_ble_eq_true rfl) d_L_law_573 ⟨rfl, rfl⟩ ⟨by show nc + 1 ≤ 1051; omega, by show ns + 6 ≤ 11457; omega⟩ ?_
    refine jw_iload (pc := 576) F 5 d_L_law_576 rfl ?_
    refine jw_icmp_eq (pc := 578) F 583 d_L_law_578 (by decide) (fun hz1 => ?_) (fun hz1 => False.elim (hz1 rfl))
    refine jw_iload (pc := 583) F 5 d_L_law_583 rfl ?_
    refine jw_if_ne (pc := 585) F 600 d_L_law_585 (by decide) (fun hz2 => ?_) (fun hz2 => False.elim (absurd hz2 (by decide)))
    refine jw_goto (pc := 600) F 857 d_L_law_600 (by decide) ?_
    refine jw_loc (lv' := [(0, .ref b), (1, .ref (ad 0)), (2, .ref (am 0)), (3, .ref ao), (4, .int (nI i))]) [0, 1, 2, 3, 4] rfl ?_
    refine jw_widen (k := nc + 1) (n := ns + 6) (by show nc + 1 ≤ nc + 1; omega) (by show ns + 6 ≤ ns + 6; omega) ?_
    exact kk a L f0 f1 f2 f3 f4 f5 f6 f7 v md ln go gc gb gd gh gr gt gk gn 1 op sz o hQ hQm
  · obtain ⟨r, hr, hr2⟩ := a_isrep_t hr1
    cases hk1 : a_isop (a_n a) (xs (i + 2))
    · refine jw_aload_n (pc := 535) F 1 d_L_law_535 rfl rfl ?_
      refine jw_aload_n (pc := 536) F 0 d_L_law_536 rfl rfl ?_
      refine jw_iload (pc := 537) F 4 d_L_law_537 rfl ?_
      refine jw_iconst (pc := 539) (v := nI 1) F d_L_law_539 (by decide) ?_
      refine jw_iadd (pc := 540) F d_L_law_540 ?_
      rw [nI_add]
      refine jw_sld (pc := 541) F hX hbl hbA (i + 1) rfl (by omega) (by omega) d_L_law_541 ?_
      rw [hr2]
      refine jw_aload_n (pc := 542) F 0 d_L_law_542 rfl rfl ?_
      refine jw_iload (pc := 543) F 4 d_L_law_543 rfl ?_
      refine jw_iconst (pc := 545) (v := nI 2) F d_L_law_545 (by decide) ?_
      refine jw_iadd (pc := 546) F d_L_law_546 ?_
      rw [nI_add]
      refine jw_sld (pc := 547) F hX hbl hbA (i + 2) rfl (by omega) (by omega) d_L_law_547 ?_
      refine jw_aload_n (pc := 548) F 3 d_L_law_548 rfl rfl ?_
      refine jw_callSW_N (pc := 549) (As := [.ref (ad 0), .int (nI r), .int (xs (i + 2)), .ref ao]) (rest := []) F jz_okY hZ (wM am cB cI cL go gc gb gd gh gr gt gk gn er op sz) ([]) (w_place_2 l D ad cB cI cL f0 f1 f2 f3 f4 f5 f6 f7 v md ln ao o a L hQ r hr (xs (i + 2)) hk1 hl) (jw_cwSW F.1.2.2.2.2 wl_good w_287 w_288 w_28 w_289 hd_L_place.2 ⟨by decide, by decide⟩) (by rw [List.append_nil, List.append_assoc]) rfl rfl (Nat.le_of_ble_eq_true rfl) d_L_law_549 ⟨by show nc + 1 ≤ 1051; omega, by show ns + 6 ≤ 11457; omega⟩ (fun r w hw => ?_)
      obtain ⟨rfl, rfl⟩ := hw
      refine jw_at (lv' := [(0, .ref b), (1, .ref (ad 0)), (2, .ref (am 0)), (3, .ref ao), (4, .int (nI i))]) (st' := [.int 2]) (ws' := wM am cB cI cL go gc gb gd gh gr gt gk gn er op sz ++ wX ad cB cI cL f0 f1 f2 f3 f4 f5 f6 f7 v md ln ++ wO ao cL o) rfl rfl (by rw [List.append_nil, List.append_assoc]) ?_
      refine jw_istore (pc := 552) (lv' := [(0, .ref b), (1, .ref (ad 0)), (2, .ref (am 0)), (3, .ref ao), (4, .int (nI i)), (5, .int 2)]) F d_L_law_552 (by decide) rfl ?_
      refine jw_aload_n (pc := 554) F 2 d_L_law_554 rfl rfl ?_
      refine jw_aload_n (pc := 555) F 0 d_L_law_555 rfl rfl ?_
      refine jw_iload (pc := 556) F 4 d_L_law_556 rfl ?_
      refine jw_iconst (pc := 558) (v := nI 1) F d_L_law_558 (by decide) ?_
      refine jw_iadd (pc := 559) F d_L_law_559 ?_
      rw [nI_add]
      refine jw_sld (pc := 560) F hX hbl hbA (i + 1) rfl (by omega) (by omega) d_L_law_560 ?_
      rw [hr2]
      refine jw_aload_n (pc := 561) F 0 d_L_law_561 rfl rfl ?_
      refine jw_iload (pc := 562) F 4 d_L_law_562 rfl ?_
      refine jw_iconst (pc := 564) (v := nI 2) F d_L_law_564 (by decide) ?_
      refine jw_iadd (pc := 565) F d_L_law_565 ?_
      rw [nI_add]
      refine jw_sld (pc := 566) F hX hbl hbA (i + 2) rfl (by omega) (by omega) d_L_law_566 ?_
      refine jw_callV_Gi (pc := 567) (As := [.int (nI r), .int (xs (i + 2))]) (rest := []) F ([]) (wX ad cB cI cL f0 f1 f2 f3 f4 f5 f6 f7 v md ln ++ wO ao cL o) (m_place_2 l D am cB cI cL go gc gb gd gh gr gt gk gn er op sz a hQm r hr (xs (i + 2)) hk1) (jw_cwV F.1.2.2.2.2 wl_good w_459 w_460 w_461 w_30 w_462 hd_M_place ⟨by decide, by decide⟩) 0 1 rfl rfl rfl (List.append_assoc _ _ _) rfl rfl (Nat.le_of_ble_eq_true rfl) d_L_law_567 ⟨rfl, rfl⟩ ⟨by show nc + 1 ≤ 1051; omega, by show ns + 6 ≤ 11457; omega⟩ (fun r w hw => ?_)
      obtain ⟨rfl, rfl⟩ := hw
      refine jw_at (lv' := [(0, .ref b), (1, .ref (ad 0)), (2, .ref (am 0)), (3, .ref ao), (4, .int (nI i)), (5, .int 2)]) (st' := [.int 0]) (ws' := wM am cB cI cL go gc gb gd gh gr gt gk gn 2 op sz ++ wX ad cB cI cL f0 f1 f2 f3 f4 f5 f6 f7 v md ln ++ wO ao cL o) rfl rfl (by rw [List.nil_append, List.append_assoc]) ?_
      refine jw_istore (pc := 570) (lv' := [(0, .ref b), (1, .ref (ad 0)), (2, .ref (am 0)), (3, .ref ao), (4, .int (nI i)), (5, .int 2), (6, .int 0)]) F d_L_law_570 (by decide) rfl ?_
      refine jw_aload_n (pc := 572) F 2 d_L_law_572 rfl rfl ?_
      refine jw_callV_Ei (pc := 573) (As := []) (rest := []) F ([]) (wX ad cB cI cL f0 f1 f2 f3 f4 f5 f6 f7 v md ln ++ wO ao cL o) (m_thrown l D am cB cI cL go gc gb gd gh gr gt gk gn 2 op sz) (jw_cwV F.1.2.2.2.2 wl_good w_379 w_380 w_381 w_30 w_382 hd_M_thrown ⟨by decide, by decide⟩) 0 1 rfl rfl rfl (List.append_assoc _ _ _) rfl rfl (Nat.le_of_ble_eq_true rfl) d_L_law_573 ⟨rfl, rfl⟩ ⟨by show nc + 1 ≤ 1051; omega, by show ns + 6 ≤ 11457; omega⟩ ?_
      refine jw_iload (pc := 576) F 5 d_L_law_576 rfl ?_
      refine jw_icmp_eq (pc := 578) F 583 d_L_law_578 (by decide) (fun hz3 => ?_) (fun hz3 => False.elim (hz3 rfl))
      refine jw_iload (pc := 583) F 5 d_L_law_583 rfl ?_
      refine jw_if_ne (pc := 585) F 600 d_L_law_585 (by decide) (fun hz4 => ?_) (fun hz4 => False.elim (absurd hz4 (by decide)))
      refine jw_goto (pc := 600) F 857 d_L_law_600 (by decide) ?_
      refine jw_loc (lv' := [(0, .ref b), (1, .ref (ad 0)), (2, .ref (am 0)), (3, .ref ao), (4, .int (nI i))]) [0, 1, 2, 3, 4] rfl ?_
      refine jw_widen (k := nc + 1) (n := ns + 6) (by show nc + 1 ≤ nc + 1; omega) (by show ns + 6 ≤ ns + 6; omega) ?_
      exact kk a L f0 f1 f2 f3 f4 f5 f6 f7 v md ln go gc gb gd gh gr gt gk gn 2 op sz o hQ hQm
    · obtain ⟨k, hk, hk2⟩ := a_isop_t (by omega) hk1
      cases hh : a_haseB a r (xs (i + 2))
      · refine jw_aload_n (pc := 535) F 1 d_L_law_535 rfl rfl ?_
        refine jw_aload_n (pc := 536) F 0 d_L_law_536 rfl rfl ?_
        refine jw_iload (pc := 537) F 4 d_L_law_537 rfl ?_
        refine jw_iconst (pc := 539) (v := nI 1) F d_L_law_539 (by decide) ?_
        refine jw_iadd (pc := 540) F d_L_law_540 ?_
        rw [nI_add]
        refine jw_sld (pc := 541) F hX hbl hbA (i + 1) rfl (by omega) (by omega) d_L_law_541 ?_
        rw [hr2]
        refine jw_aload_n (pc := 542) F 0 d_L_law_542 rfl rfl ?_
        refine jw_iload (pc := 543) F 4 d_L_law_543 rfl ?_
        refine jw_iconst (pc := 545) (v := nI 2) F d_L_law_545 (by decide) ?_
        refine jw_iadd (pc := 546) F d_L_law_546 ?_
        rw [nI_add]
        refine jw_sld (pc := 547) F hX hbl hbA (i + 2) rfl (by omega) (by omega) d_L_law_547 ?_
        refine jw_aload_n (pc := 548) F 3 d_L_law_548 rfl rfl ?_
        refine jw_callSW_N (pc := 549) (As := [.ref (ad 0), .int (nI r), .int (xs (i + 2)), .ref ao]) (rest := []) F jz_okY hZ (wM am cB cI cL go gc gb gd gh gr gt gk gn er op sz) ([]) (w_place_3 l D ad cB cI cL f0 f1 f2 f3 f4 f5 f6 f7 v md ln ao o a L hQ r hr (xs (i + 2)) hk1 hh hl) (jw_cwSW F.1.2.2.2.2 wl_good w_287 w_288 w_28 w_289 hd_L_place.2 ⟨by decide, by decide⟩) (by rw [List.append_nil, List.append_assoc]) rfl rfl (Nat.le_of_ble_eq_true rfl) d_L_law_549 ⟨by show nc + 1 ≤ 1051; omega, by show ns + 6 ≤ 11457; omega⟩ (fun r w hw => ?_)
        obtain ⟨rfl, rfl⟩ := hw
        refine jw_at (lv' := [(0, .ref b), (1, .ref (ad 0)), (2, .ref (am 0)), (3, .ref ao), (4, .int (nI i))]) (st' := [.int 3]) (ws' := wM am cB cI cL go gc gb gd gh gr gt gk gn er op sz ++ wX ad cB cI cL f0 f1 f2 f3 f4 f5 f6 f7 v md ln ++ wO ao cL o) rfl rfl (by rw [List.append_nil, List.append_assoc]) ?_
        refine jw_istore (pc := 552) (lv' := [(0, .ref b), (1, .ref (ad 0)), (2, .ref (am 0)), (3, .ref ao), (4, .int (nI i)), (5, .int 3)]) F d_L_law_552 (by decide) rfl ?_
        refine jw_aload_n (pc := 554) F 2 d_L_law_554 rfl rfl ?_
        refine jw_aload_n (pc := 555) F 0 d_L_law_555 rfl rfl ?_
        refine jw_iload (pc := 556) F 4 d_L_law_556 rfl ?_
        refine jw_iconst (pc := 558) (v := nI 1) F d_L_law_558 (by decide) ?_
        refine jw_iadd (pc := 559) F d_L_law_559 ?_
        rw [nI_add]
        refine jw_sld (pc := 560) F hX hbl hbA (i + 1) rfl (by omega) (by omega) d_L_law_560 ?_
        rw [hr2]
        refine jw_aload_n (pc := 561) F 0 d_L_law_561 rfl rfl ?_
        refine jw_iload (pc := 562) F 4 d_L_law_562 rfl ?_
        refine jw_iconst (pc := 564) (v := nI 2) F d_L_law_564 (by decide) ?_
        refine jw_iadd (pc := 565) F d_L_law_565 ?_
        rw [nI_add]
        refine jw_sld (pc := 566) F hX hbl hbA (i + 2) rfl (by omega) (by omega) d_L_law_566 ?_
        refine jw_callV_Gi (pc := 567) (As := [.int (nI r), .int (xs (i + 2))]) (rest := []) F ([]) (wX ad cB cI cL f0 f1 f2 f3 f4 f5 f6 f7 v md ln ++ wO ao cL o) (m_place_3 l D am cB cI cL go gc gb gd gh gr gt gk gn er op sz a hQm r hr (xs (i + 2)) hk1 hh) (jw_cwV F.1.2.2.2.2 wl_good w_459 w_460 w_461 w_30 w_462 hd_M_place ⟨by decide, by decide⟩) 0 1 rfl rfl rfl (List.append_assoc _ _ _) rfl rfl (Nat.le_of_ble_eq_true rfl) d_L_law_567 ⟨rfl, rfl⟩ ⟨by show nc + 1 ≤ 1051; omega, by show ns + 6 ≤ 11457; omega⟩ (fun r w hw => ?_)
        obtain ⟨rfl, rfl⟩ := hw
        refine jw_at (lv' := [(0, .ref b), (1, .ref (ad 0)), (2, .ref (am 0)), (3, .ref ao), (4, .int (nI i)), (5, .int 3)]) (st' := [.int 0]) (ws' := wM am cB cI cL go gc gb gd gh gr gt gk gn 3 op sz ++ wX ad cB cI cL f0 f1 f2 f3 f4 f5 f6 f7 v md ln ++ wO ao cL o) rfl rfl (by rw [List.nil_append, List.append_assoc]) ?_
        refine jw_istore (pc := 570) (lv' := [(0, .ref b), (1, .ref (ad 0)), (2, .ref (am 0)), (3, .ref ao), (4, .int (nI i)), (5, .int 3), (6, .int 0)]) F d_L_law_570 (by decide) rfl ?_
        refine jw_aload_n (pc := 572) F 2 d_L_law_572 rfl rfl ?_
        refine jw_callV_Ei (pc := 573) (As := []) (rest := []) F ([]) (wX ad cB cI cL f0 f1 f2 f3 f4 f5 f6 f7 v md ln ++ wO ao cL o) (m_thrown l D am cB cI cL go gc gb gd gh gr gt gk gn 3 op sz) (jw_cwV F.1.2.2.2.2 wl_good w_379 w_380 w_381 w_30 w_382 hd_M_thrown ⟨by decide, by decide⟩) 0 1 rfl rfl rfl (List.append_assoc _ _ _) rfl rfl (Nat.le_of_ble_eq_true rfl) d_L_law_573 ⟨rfl, rfl⟩ ⟨by show nc + 1 ≤ 1051; omega, by show ns + 6 ≤ 11457; omega⟩ ?_
        refine jw_iload (pc := 576) F 5 d_L_law_576 rfl ?_
        refine jw_icmp_eq (pc := 578) F 583 d_L_law_578 (by decide) (fun hz5 => ?_) (fun hz5 => False.elim (hz5 rfl))
        refine jw_iload (pc := 583) F 5 d_L_law_583 rfl ?_
        refine jw_if_ne (pc := 585) F 600 d_L_law_585 (by decide) (fun hz6 => ?_) (fun hz6 => False.elim (absurd hz6 (by decide)))
        refine jw_goto (pc := 600) F 857 d_L_law_600 (by decide) ?_
        refine jw_loc (lv' := [(0, .ref b), (1, .ref (ad 0)), (2, .ref (am 0)), (3, .ref ao), (4, .int (nI i))]) [0, 1, 2, 3, 4] rfl ?_
        refine jw_widen (k := nc + 1) (n := ns + 6) (by show nc + 1 ≤ nc + 1; omega) (by show ns + 6 ≤ ns + 6; omega) ?_
        exact kk a L f0 f1 f2 f3 f4 f5 f6 f7 v md ln go gc gb gd gh gr gt gk gn 3 op sz o hQ hQm
      · obtain ⟨hd, hh2⟩ : a_dl a k = false ∧ a_hd a r k = true := by rw [hk2, a_haseB_nI hn hk] at hh; simp only [Bool.and_eq_true, Bool.not_eq_true'] at hh; exact hh
        refine jw_aload_n (pc := 535) F 1 d_L_law_535 rfl rfl ?_
        refine jw_aload_n (pc := 536) F 0 d_L_law_536 rfl rfl ?_
        refine jw_iload (pc := 537) F 4 d_L_law_537 rfl ?_
        refine jw_iconst (pc := 539) (v := nI 1) F d_L_law_539 (by decide) ?_
        refine jw_iadd (pc := 540) F d_L_law_540 ?_
        rw [nI_add]
        refine jw_sld (pc := 541) F hX hbl hbA (i + 1) rfl (by omega) (by omega) d_L_law_541 ?_
        rw [hr2]
        refine jw_aload_n (pc := 542) F 0 d_L_law_542 rfl rfl ?_
        refine jw_iload (pc := 543) F 4 d_L_law_543 rfl ?_
        refine jw_iconst (pc := 545) (v := nI 2) F d_L_law_545 (by decide) ?_
        refine jw_iadd (pc := 546) F d_L_law_546 ?_
        rw [nI_add]
        refine jw_sld (pc := 547) F hX hbl hbA (i + 2) rfl (by omega) (by omega) d_L_law_547 ?_
        rw [hk2]
        refine jw_aload_n (pc := 548) F 3 d_L_law_548 rfl rfl ?_
        refine jw_callSW_M (pc := 549) (As := [.ref (ad 0), .int (nI r), .int (nI k), .ref ao]) (rest := []) F (wM am cB cI cL go gc gb gd gh gr gt gk gn er op sz) ([]) (w_place_0 l D ad cB cI cL f0 f1 f2 f3 f4 f5 f6 f7 v md ln ao o a L hQ r hr k hk hd hh2) (jw_cwSW F.1.2.2.2.2 wl_good w_287 w_288 w_28 w_289 hd_L_place.2 ⟨by decide, by decide⟩) (by rw [List.append_nil, List.append_assoc]) rfl rfl (Nat.le_of_ble_eq_true rfl) d_L_law_549 ⟨by show nc + 0 ≤ 1051; omega, by show ns + 0 ≤ 11457; omega⟩ (fun r w hw => ?_)
        obtain ⟨rfl, o9, rfl, i1, hi1, hi2, ho9⟩ := hw
        refine jw_at (lv' := [(0, .ref b), (1, .ref (ad 0)), (2, .ref (am 0)), (3, .ref ao), (4, .int (nI i))]) (st' := [.int 0]) (ws' := wM am cB cI cL go gc gb gd gh gr gt gk gn er op sz ++ wX ad cB cI cL f0 f1 f2 f3 f4 f5 f6 f7 v md ln ++ wO ao cL o9) rfl rfl (by rw [List.append_nil, List.append_assoc]) ?_
        refine jw_istore (pc := 552) (lv' := [(0, .ref b), (1, .ref (ad 0)), (2, .ref (am 0)), (3, .ref ao), (4, .int (nI i)), (5, .int 0)]) F d_L_law_552 (by decide) rfl ?_
        refine jw_aload_n (pc := 554) F 2 d_L_law_554 rfl rfl ?_
        refine jw_aload_n (pc := 555) F 0 d_L_law_555 rfl rfl ?_
        refine jw_iload (pc := 556) F 4 d_L_law_556 rfl ?_
        refine jw_iconst (pc := 558) (v := nI 1) F d_L_law_558 (by decide) ?_
        refine jw_iadd (pc := 559) F d_L_law_559 ?_
        rw [nI_add]
        refine jw_sld (pc := 560) F hX hbl hbA (i + 1) rfl (by omega) (by omega) d_L_law_560 ?_
        rw [hr2]
        refine jw_aload_n (pc := 561) F 0 d_L_law_561 rfl rfl ?_
        refine jw_iload (pc := 562) F 4 d_L_law_562 rfl ?_
        refine jw_iconst (pc := 564) (v := nI 2) F d_L_law_564 (by decide) ?_
        refine jw_iadd (pc := 565) F d_L_law_565 ?_
        rw [nI_add]
        refine jw_sld (pc := 566) F hX hbl hbA (i + 2) rfl (by omega) (by omega) d_L_law_566 ?_
        rw [hk2]
        refine jw_callV_Gi (pc := 567) (As := [.int (nI r), .int (nI k)]) (rest := []) F ([]) (wX ad cB cI cL f0 f1 f2 f3 f4 f5 f6 f7 v md ln ++ wO ao cL o9) (m_place_0 l D am cB cI cL go gc gb gd gh gr gt gk gn er op sz a hQm L hQ.2.2.2.2 r hr k hk hd hh2) (jw_cwV F.1.2.2.2.2 wl_good w_459 w_460 w_461 w_30 w_462 hd_M_place ⟨by decide, by decide⟩) 0 1 rfl rfl rfl (List.append_assoc _ _ _) rfl rfl (Nat.le_of_ble_eq_true rfl) d_L_law_567 ⟨rfl, rfl⟩ ⟨by show nc + 0 ≤ 1051; omega, by show ns + 0 ≤ 11457; omega⟩ (fun r w hw => ?_)
        obtain ⟨⟨i2, hj1, hj2, rfl⟩, k7, k8, k9, ks, rfl⟩ := hw
        refine jw_at (lv' := [(0, .ref b), (1, .ref (ad 0)), (2, .ref (am 0)), (3, .ref ao), (4, .int (nI i)), (5, .int 0)]) (st' := [.int (nI i2)]) (ws' := wM am cB cI cL go gc gb gd gh k7 k8 k9 gn 0 op ks ++ wX ad cB cI cL f0 f1 f2 f3 f4 f5 f6 f7 v md ln ++ wO ao cL o9) rfl rfl (by rw [List.nil_append, List.append_assoc]) ?_
        refine jw_istore (pc := 570) (lv' := [(0, .ref b), (1, .ref (ad 0)), (2, .ref (am 0)), (3, .ref ao), (4, .int (nI i)), (5, .int 0), (6, .int (nI i2))]) F d_L_law_570 (by decide) rfl ?_
        refine jw_aload_n (pc := 572) F 2 d_L_law_572 rfl rfl ?_
        refine jw_callV_Ei (pc := 573) (As := []) (rest := []) F ([]) (wX ad cB cI cL f0 f1 f2 f3 f4 f5 f6 f7 v md ln ++ wO ao cL o9) (m_thrown l D am cB cI cL go gc gb gd gh k7 k8 k9 gn 0 op ks) (jw_cwV F.1.2.2.2.2 wl_good w_379 w_380 w_381 w_30 w_382 hd_M_thrown ⟨by decide, by decide⟩) 0 1 rfl rfl rfl (List.append_assoc _ _ _) rfl rfl (Nat.le_of_ble_eq_true rfl) d_L_law_573 ⟨rfl, rfl⟩ ⟨by show nc + 0 ≤ 1051; omega, by show ns + 0 ≤ 11457; omega⟩ ?_
        refine jw_iload (pc := 576) F 5 d_L_law_576 rfl ?_
        refine jw_icmp_eq (pc := 578) F 583 d_L_law_578 (by decide) (fun hz7 => ?_) (fun hz7 => False.elim (hz7 rfl))
        refine jw_iload (pc := 583) F 5 d_L_law_583 rfl ?_
        refine jw_if_ne (pc := 585) F 600 d_L_law_585 (by decide) (fun hz8 => False.elim (hz8 rfl)) (fun hz8 => ?_)
        refine jw_aload_n (pc := 588) F 3 d_L_law_588 rfl rfl ?_
        refine jw_iconst (pc := 589) (v := nI 0) F d_L_law_589 (by decide) ?_
        refine jw_laldN (pc := 590) F 20 2 rfl rfl 0 rfl (by omega) (by decide) d_L_law_590 ?_
        refine jw_iload (pc := 591) F 6 d_L_law_591 rfl ?_
        refine jw_i2l (pc := 593) F d_L_law_593 ?_
        refine jw_lcmp (pc := 594) F d_L_law_594 ?_
        refine jw_if_eq (pc := 595) F 600 d_L_law_595 (by decide) (fun hz9 => ?_) (fun hz9 => False.elim (hz9 ((lg_cmp_eq _ _).mpr (ho9.trans (by rw [gl_same hQ.2.2.2.2.1 hi1 (by rw [hi2]; exact hh2) hj1 (hi2.trans hj2.symm)])))))
        refine jw_goto (pc := 600) F 857 d_L_law_600 (by decide) ?_
        refine jw_loc (lv' := [(0, .ref b), (1, .ref (ad 0)), (2, .ref (am 0)), (3, .ref ao), (4, .int (nI i))]) [0, 1, 2, 3, 4] rfl ?_
        refine jw_widen (k := nc + 1) (n := ns + 6) (by show nc + 0 ≤ nc + 1; omega) (by show ns + 0 ≤ ns + 6; omega) ?_
        exact kk a L f0 f1 f2 f3 f4 f5 f6 f7 v md ln go gc gb gd gh k7 k8 k9 gn 0 op ks o9 hQ hQm
set_option maxHeartbeats 4000000 in
set_option maxRecDepth 100000 in
theorem lawc_value {p : Program} {e : Env} {s : State} {m : MethodId} {below : List Frame} {meth : Method} {c : Code} (l : Launch) (D : va_G) (ad am : Nat → Nat) (ao : Nat) (cB cI cL : ClassId) {b LL : Nat} {xs : Nat → Int32} {Q : State → Prop} {A : Nat → Prop} (hl : l.stackTraces = false) (F : jw_F p s m #[Value.ref b] meth c D vCl (vTy cB cI cL) A 8 b_L_law RL (Cond.initialized RL :: WL) ret) (hZ : jz_Y A s) (hX : va_X b LL xs s s.heap) (hbl : b < s.heap.size) (hbA : ¬ A b) (hLL : LL ≤ 2560) (i nc ns : Nat) (hi : i + 5 ≤ LL) (hnc : nc + 1 ≤ 1051) (hns : ns + 6 ≤ 11457) (a : AS) (L : List Nat) (f0 f1 f2 f3 f4 f5 f6 f7 : Nat → Int32) (v : Nat → Int64) (md ln : Int32) (go gc gb gd gh gr gt gk : Nat → Int32) (gn : Nat → Int64) (er op sz : Int32) (o : Nat → Int64) (hQ : cx_R a L f0 f1 f2 f3 f4 f5 f6 f7 v md ln) (hQm : mx_R a go gc gb gd gh gn op) (kk : ∀ (a : AS) (L : List Nat) (f0 f1 f2 f3 f4 f5 f6 f7 : Nat → Int32) (v : Nat → Int64) (md ln : Int32) (go gc gb gd gh gr gt gk : Nat → Int32) (gn : Nat → Int64) (er op sz : Int32) (o : Nat → Int64), cx_R a L f0 f1 f2 f3 f4 f5 f6 f7 v md ln → mx_R a go gc gb gd gh gn op → jw_J p l e room_1 s m #[Value.ref b] below meth c D vCl A 8 Q (nc + 1) (ns + 6) 857 [(0, .ref b), (1, .ref (ad 0)), (2, .ref (am 0)), (3, .ref ao), (4, .int (nI i))] [] (wM am cB cI cL go gc gb gd gh gr gt gk gn er op sz ++ wX ad cB cI cL f0 f1 f2 f3 f4 f5 f6 f7 v md ln ++ wO ao cL o)) : jw_J p l e room_1 s m #[Value.ref b] below meth c D vCl A 8 Q (nc) (ns) 603 [(0, .ref b), (1, .ref (ad 0)), (2, .ref (am 0)), (3, .ref ao), (4, .int (nI i))] [] (wM am cB cI cL go gc gb gd gh gr gt gk gn er op sz ++ wX ad cB cI cL f0 f1 f2 f3 f4 f5 f6 f7 v md ln ++ wO ao cL o) := by
  have hn := hQ.1.1
  cases he1 : a_isel a (xs (i + 1))
  · refine jw_aload_n (pc := 603) F 1 d_L_law_603 rfl rfl ?_
    refine jw_aload_n (pc := 604) F 0 d_L_law_604 rfl rfl ?_
    refine jw_iload (pc := 605) F 4 d_L_law_605 rfl ?_
    refine jw_iconst (pc := 607) (v := nI 1) F d_L_law_607 (by decide) ?_
    refine jw_iadd (pc := 608) F d_L_law_608 ?_
    rw [nI_add]
    refine jw_sld (pc := 609) F hX hbl hbA (i + 1) rfl (by omega) (by omega) d_L_law_609 ?_
    refine jw_aload_n (pc := 610) F 3 d_L_law_610 rfl rfl ?_
    refine jw_callSW_N (pc := 611) (As := [.ref (ad 0), .int (xs (i + 1)), .ref ao]) (rest := []) F jz_okY hZ (wM am cB cI cL go gc gb gd gh gr gt gk gn er op sz) ([]) (w_value_1 l D ad cB cI cL f0 f1 f2 f3 f4 f5 f6 f7 v md ln ao o a L hQ (xs (i + 1)) he1 hl) (jw_cwSW F.1.2.2.2.2 wl_good w_294 w_295 w_28 w_296 hd_L_value.2 ⟨by decide, by decide⟩) (by rw [List.append_nil, List.append_assoc]) rfl rfl (Nat.le_of_ble_eq_true rfl) d_L_law_611 ⟨by show nc + 1 ≤ 1051; omega, by show ns + 6 ≤ 11457; omega⟩ (fun r w hw => ?_)
    obtain ⟨rfl, rfl⟩ := hw
    refine jw_at (lv' := [(0, .ref b), (1, .ref (ad 0)), (2, .ref (am 0)), (3, .ref ao), (4, .int (nI i))]) (st' := [.int 1]) (ws' := wM am cB cI cL go gc gb gd gh gr gt gk gn er op sz ++ wX ad cB cI cL f0 f1 f2 f3 f4 f5 f6 f7 v md ln ++ wO ao cL o) rfl rfl (by rw [List.append_nil, List.append_assoc]) ?_
    refine jw_istore (pc := 614) (lv' := [(0, .ref b), (1, .ref (ad 0)), (2, .ref (am 0)), (3, .ref ao), (4, .int (nI i)), (5, .int 1)]) F d_L_law_614 (by decide) rfl ?_
    refine jw_aload_n (pc := 616) F 2 d_L_law_616 rfl rfl ?_
    refine jw_aload_n (pc := 617) F 0 d_L_law_617 rfl rfl ?_
    refine jw_iload (pc := 618) F 4 d_L_law_618 rfl ?_
    refine jw_iconst (pc := 620) (v := nI 1) F d_L_law_620 (by decide) ?_
    refine jw_iadd (pc := 621) F d_L_law_621 ?_
    rw [nI_add]
    refine jw_sld (pc := 622) F hX hbl hbA (i + 1) rfl (by omega) (by omega) d_L_law_622 ?_
    refine jw_callV_Gl (pc := 623) (As := [.int (xs (i + 1))]) (rest := []) F ([]) (wX ad cB cI cL f0 f1 f2 f3 f4 f5 f6 f7 v md ln ++ wO ao cL o) (m_value_1 l D am cB cI cL go gc gb gd gh gr gt gk gn er op sz a hQm (xs (i + 1)) he1) (jw_cwV F.1.2.2.2.2 wl_good w_463 w_464 w_465 w_30 w_466 hd_M_value ⟨by decide, by decide⟩) 0 1 rfl rfl rfl (List.append_assoc _ _ _) rfl rfl (Nat.le_of_ble_eq_true rfl) d_L_law_623 ⟨rfl, rfl⟩ ⟨by show nc + 1 ≤ 1051; omega, by show ns + 6 ≤ 11457; omega⟩ (fun r w hw => ?_)
    obtain ⟨rfl, rfl⟩ := hw
    refine jw_at (lv' := [(0, .ref b), (1, .ref (ad 0)), (2, .ref (am 0)), (3, .ref ao), (4, .int (nI i)), (5, .int 1)]) (st' := [.long 0]) (ws' := wM am cB cI cL go gc gb gd gh gr gt gk gn 1 op sz ++ wX ad cB cI cL f0 f1 f2 f3 f4 f5 f6 f7 v md ln ++ wO ao cL o) rfl rfl (by rw [List.nil_append, List.append_assoc]) ?_
    refine jw_lstore (pc := 626) (lv' := [(0, .ref b), (1, .ref (ad 0)), (2, .ref (am 0)), (3, .ref ao), (4, .int (nI i)), (5, .int 1), (6, .long 0)]) F d_L_law_626 (by decide) rfl ?_
    refine jw_aload_n (pc := 628) F 2 d_L_law_628 rfl rfl ?_
    refine jw_callV_Ei (pc := 629) (As := []) (rest := []) F ([]) (wX ad cB cI cL f0 f1 f2 f3 f4 f5 f6 f7 v md ln ++ wO ao cL o) (m_thrown l D am cB cI cL go gc gb gd gh gr gt gk gn 1 op sz) (jw_cwV F.1.2.2.2.2 wl_good w_379 w_380 w_381 w_30 w_382 hd_M_thrown ⟨by decide, by decide⟩) 0 1 rfl rfl rfl (List.append_assoc _ _ _) rfl rfl (Nat.le_of_ble_eq_true rfl) d_L_law_629 ⟨rfl, rfl⟩ ⟨by show nc + 1 ≤ 1051; omega, by show ns + 6 ≤ 11457; omega⟩ ?_
    refine jw_iload (pc := 632) F 5 d_L_law_632 rfl ?_
    refine jw_icmp_eq (pc := 634) F 639 d_L_law_634 (by decide) (fun hz1 => ?_) (fun hz1 => False.elim (hz1 rfl))
    refine jw_iload (pc := 639) F 5 d_L_law_639 rfl ?_
    refine jw_if_ne (pc := 641) F 655 d_L_law_641 (by decide) (fun hz2 => ?_) (fun hz2 => False.elim (absurd hz2 (by decide)))
    refine jw_goto (pc := 655) F 857 d_L_law_655 (by decide) ?_
    refine jw_loc (lv' := [(0, .ref b), (1, .ref (ad 0)), (2, .ref (am 0)), (3, .ref ao), (4, .int (nI i))]) [0, 1, 2, 3, 4] rfl ?_
    refine jw_widen (k := nc + 1) (n := ns + 6) (by show nc + 1 ≤ nc + 1; omega) (by show ns + 6 ≤ ns + 6; omega) ?_
    exact kk a L f0 f1 f2 f3 f4 f5 f6 f7 v md ln go gc gb gd gh gr gt gk gn 1 op sz o hQ hQm
  · obtain ⟨k, hk, hk2⟩ := a_isop_t (by omega) (show a_isop (a_n a) (xs (i + 1)) = true by unfold a_isel at he1; simp only [Bool.and_eq_true] at he1; exact he1.1)
    have hd : a_dl a k = false := by rw [hk2, a_isel_nI hn hk] at he1; cases h9 : a_dl a k; rfl; rw [h9] at he1; cases he1
    refine jw_aload_n (pc := 603) F 1 d_L_law_603 rfl rfl ?_
    refine jw_aload_n (pc := 604) F 0 d_L_law_604 rfl rfl ?_
    refine jw_iload (pc := 605) F 4 d_L_law_605 rfl ?_
    refine jw_iconst (pc := 607) (v := nI 1) F d_L_law_607 (by decide) ?_
    refine jw_iadd (pc := 608) F d_L_law_608 ?_
    rw [nI_add]
    refine jw_sld (pc := 609) F hX hbl hbA (i + 1) rfl (by omega) (by omega) d_L_law_609 ?_
    rw [hk2]
    refine jw_aload_n (pc := 610) F 3 d_L_law_610 rfl rfl ?_
    refine jw_callSW_M (pc := 611) (As := [.ref (ad 0), .int (nI k), .ref ao]) (rest := []) F (wM am cB cI cL go gc gb gd gh gr gt gk gn er op sz) ([]) (w_value_0 l D ad cB cI cL f0 f1 f2 f3 f4 f5 f6 f7 v md ln ao o a L hQ k hk hd) (jw_cwSW F.1.2.2.2.2 wl_good w_294 w_295 w_28 w_296 hd_L_value.2 ⟨by decide, by decide⟩) (by rw [List.append_nil, List.append_assoc]) rfl rfl (Nat.le_of_ble_eq_true rfl) d_L_law_611 ⟨by show nc + 0 ≤ 1051; omega, by show ns + 0 ≤ 11457; omega⟩ (fun r w hw => ?_)
    obtain ⟨rfl, o9, rfl, ho9⟩ := hw
    refine jw_at (lv' := [(0, .ref b), (1, .ref (ad 0)), (2, .ref (am 0)), (3, .ref ao), (4, .int (nI i))]) (st' := [.int 0]) (ws' := wM am cB cI cL go gc gb gd gh gr gt gk gn er op sz ++ wX ad cB cI cL f0 f1 f2 f3 f4 f5 f6 f7 v md ln ++ wO ao cL o9) rfl rfl (by rw [List.append_nil, List.append_assoc]) ?_
    refine jw_istore (pc := 614) (lv' := [(0, .ref b), (1, .ref (ad 0)), (2, .ref (am 0)), (3, .ref ao), (4, .int (nI i)), (5, .int 0)]) F d_L_law_614 (by decide) rfl ?_
    refine jw_aload_n (pc := 616) F 2 d_L_law_616 rfl rfl ?_
    refine jw_aload_n (pc := 617) F 0 d_L_law_617 rfl rfl ?_
    refine jw_iload (pc := 618) F 4 d_L_law_618 rfl ?_
    refine jw_iconst (pc := 620) (v := nI 1) F d_L_law_620 (by decide) ?_
    refine jw_iadd (pc := 621) F d_L_law_621 ?_
    rw [nI_add]
    refine jw_sld (pc := 622) F hX hbl hbA (i + 1) rfl (by omega) (by omega) d_L_law_622 ?_
    rw [hk2]
    refine jw_callV_Gl (pc := 623) (As := [.int (nI k)]) (rest := []) F ([]) (wX ad cB cI cL f0 f1 f2 f3 f4 f5 f6 f7 v md ln ++ wO ao cL o9) (m_value_0 l D am cB cI cL go gc gb gd gh gr gt gk gn er op sz a hQm k hk hd) (jw_cwV F.1.2.2.2.2 wl_good w_463 w_464 w_465 w_30 w_466 hd_M_value ⟨by decide, by decide⟩) 0 1 rfl rfl rfl (List.append_assoc _ _ _) rfl rfl (Nat.le_of_ble_eq_true rfl) d_L_law_623 ⟨rfl, rfl⟩ ⟨by show nc + 0 ≤ 1051; omega, by show ns + 0 ≤ 11457; omega⟩ (fun r w hw => ?_)
    obtain ⟨rfl, rfl⟩ := hw
    refine jw_at (lv' := [(0, .ref b), (1, .ref (ad 0)), (2, .ref (am 0)), (3, .ref ao), (4, .int (nI i)), (5, .int 0)]) (st' := [.long (a_vl a k)]) (ws' := wM am cB cI cL go gc gb gd gh gr gt gk gn 0 op sz ++ wX ad cB cI cL f0 f1 f2 f3 f4 f5 f6 f7 v md ln ++ wO ao cL o9) rfl rfl (by rw [List.nil_append, List.append_assoc]) ?_
    refine jw_lstore (pc := 626) (lv' := [(0, .ref b), (1, .ref (ad 0)), (2, .ref (am 0)), (3, .ref ao), (4, .int (nI i)), (5, .int 0), (6, .long (a_vl a k))]) F d_L_law_626 (by decide) rfl ?_
    refine jw_aload_n (pc := 628) F 2 d_L_law_628 rfl rfl ?_
    refine jw_callV_Ei (pc := 629) (As := []) (rest := []) F ([]) (wX ad cB cI cL f0 f1 f2 f3 f4 f5 f6 f7 v md ln ++ wO ao cL o9) (m_thrown l D am cB cI cL go gc gb gd gh gr gt gk gn 0 op sz) (jw_cwV F.1.2.2.2.2 wl_good w_379 w_380 w_381 w_30 w_382 hd_M_thrown ⟨by decide, by decide⟩) 0 1 rfl rfl rfl (List.append_assoc _ _ _) rfl rfl (Nat.le_of_ble_eq_true rfl) d_L_law_629 ⟨rfl, rfl⟩ ⟨by show nc + 0 ≤ 1051; omega, by show ns + 0 ≤ 11457; omega⟩ ?_
    refine jw_iload (pc := 632) F 5 d_L_law_632 rfl ?_
    refine jw_icmp_eq (pc := 634) F 639 d_L_law_634 (by decide) (fun hz3 => ?_) (fun hz3 => False.elim (hz3 rfl))
    refine jw_iload (pc := 639) F 5 d_L_law_639 rfl ?_
    refine jw_if_ne (pc := 641) F 655 d_L_law_641 (by decide) (fun hz4 => False.elim (hz4 rfl)) (fun hz4 => ?_)
    refine jw_aload_n (pc := 644) F 3 d_L_law_644 rfl rfl ?_
    refine jw_iconst (pc := 645) (v := nI 0) F d_L_law_645 (by decide) ?_
    refine jw_laldN (pc := 646) F 20 2 rfl rfl 0 rfl (by omega) (by decide) d_L_law_646 ?_
    refine jw_lload (pc := 647) F 6 d_L_law_647 rfl ?_
    refine jw_lcmp (pc := 649) F d_L_law_649 ?_
    refine jw_if_eq (pc := 650) F 655 d_L_law_650 (by decide) (fun hz5 => ?_) (fun hz5 => False.elim (hz5 ((lg_cmp_eq _ _).mpr (ho9))))
    refine jw_goto (pc := 655) F 857 d_L_law_655 (by decide) ?_
    refine jw_loc (lv' := [(0, .ref b), (1, .ref (ad 0)), (2, .ref (am 0)), (3, .ref ao), (4, .int (nI i))]) [0, 1, 2, 3, 4] rfl ?_
    refine jw_widen (k := nc + 1) (n := ns + 6) (by show nc + 0 ≤ nc + 1; omega) (by show ns + 0 ≤ ns + 6; omega) ?_
    exact kk a L f0 f1 f2 f3 f4 f5 f6 f7 v md ln go gc gb gd gh gr gt gk gn 0 op sz o9 hQ hQm
set_option maxHeartbeats 4000000 in
set_option maxRecDepth 100000 in
theorem lawc_stamp {p : Program} {e : Env} {s : State} {m : MethodId} {below : List Frame} {meth : Method} {c : Code} (l : Launch) (D : va_G) (ad am : Nat → Nat) (ao : Nat) (cB cI cL : ClassId) {b LL : Nat} {xs : Nat → Int32} {Q : State → Prop} {A : Nat → Prop} (hl : l.stackTraces = false) (F : jw_F p s m #[Value.ref b] meth c D vCl (vTy cB cI cL) A 8 b_L_law RL (Cond.initialized RL :: WL) ret) (hZ : jz_Y A s) (hX : va_X b LL xs s s.heap) (hbl : b < s.heap.size) (hbA : ¬ A b) (hLL : LL ≤ 2560) (i nc ns : Nat) (hi : i + 5 ≤ LL) (hnc : nc + 1 ≤ 1051) (hns : ns + 6 ≤ 11457) (a : AS) (L : List Nat) (f0 f1 f2 f3 f4 f5 f6 f7 : Nat → Int32) (v : Nat → Int64) (md ln : Int32) (go gc gb gd gh gr gt gk : Nat → Int32) (gn : Nat → Int64) (er op sz : Int32) (o : Nat → Int64) (hQ : cx_R a L f0 f1 f2 f3 f4 f5 f6 f7 v md ln) (hQm : mx_R a go gc gb gd gh gn op) (kk : ∀ (a : AS) (L : List Nat) (f0 f1 f2 f3 f4 f5 f6 f7 : Nat → Int32) (v : Nat → Int64) (md ln : Int32) (go gc gb gd gh gr gt gk : Nat → Int32) (gn : Nat → Int64) (er op sz : Int32) (o : Nat → Int64), cx_R a L f0 f1 f2 f3 f4 f5 f6 f7 v md ln → mx_R a go gc gb gd gh gn op → jw_J p l e room_1 s m #[Value.ref b] below meth c D vCl A 8 Q (nc + 1) (ns + 6) 857 [(0, .ref b), (1, .ref (ad 0)), (2, .ref (am 0)), (3, .ref ao), (4, .int (nI i))] [] (wM am cB cI cL go gc gb gd gh gr gt gk gn er op sz ++ wX ad cB cI cL f0 f1 f2 f3 f4 f5 f6 f7 v md ln ++ wO ao cL o)) : jw_J p l e room_1 s m #[Value.ref b] below meth c D vCl A 8 Q (nc) (ns) 658 [(0, .ref b), (1, .ref (ad 0)), (2, .ref (am 0)), (3, .ref ao), (4, .int (nI i))] [] (wM am cB cI cL go gc gb gd gh gr gt gk gn er op sz ++ wX ad cB cI cL f0 f1 f2 f3 f4 f5 f6 f7 v md ln ++ wO ao cL o) := by
  have hn := hQ.1.1
  cases hk1 : a_isop (a_n a) (xs (i + 1))
  · refine jw_aload_n (pc := 658) F 1 d_L_law_658 rfl rfl ?_
    refine jw_aload_n (pc := 659) F 0 d_L_law_659 rfl rfl ?_
    refine jw_iload (pc := 660) F 4 d_L_law_660 rfl ?_
    refine jw_iconst (pc := 662) (v := nI 1) F d_L_law_662 (by decide) ?_
    refine jw_iadd (pc := 663) F d_L_law_663 ?_
    rw [nI_add]
    refine jw_sld (pc := 664) F hX hbl hbA (i + 1) rfl (by omega) (by omega) d_L_law_664 ?_
    refine jw_aload_n (pc := 665) F 3 d_L_law_665 rfl rfl ?_
    refine jw_callSW_N (pc := 666) (As := [.ref (ad 0), .int (xs (i + 1)), .ref ao]) (rest := []) F jz_okY hZ (wM am cB cI cL go gc gb gd gh gr gt gk gn er op sz) ([]) (w_stamp_1 l D ad cB cI cL f0 f1 f2 f3 f4 f5 f6 f7 v md ln ao o a L hQ (xs (i + 1)) hk1 hl) (jw_cwSW F.1.2.2.2.2 wl_good w_302 w_303 w_28 w_304 hd_L_stamp.2 ⟨by decide, by decide⟩) (by rw [List.append_nil, List.append_assoc]) rfl rfl (Nat.le_of_ble_eq_true rfl) d_L_law_666 ⟨by show nc + 1 ≤ 1051; omega, by show ns + 6 ≤ 11457; omega⟩ (fun r w hw => ?_)
    obtain ⟨rfl, rfl⟩ := hw
    refine jw_at (lv' := [(0, .ref b), (1, .ref (ad 0)), (2, .ref (am 0)), (3, .ref ao), (4, .int (nI i))]) (st' := [.int 1]) (ws' := wM am cB cI cL go gc gb gd gh gr gt gk gn er op sz ++ wX ad cB cI cL f0 f1 f2 f3 f4 f5 f6 f7 v md ln ++ wO ao cL o) rfl rfl (by rw [List.append_nil, List.append_assoc]) ?_
    refine jw_istore (pc := 669) (lv' := [(0, .ref b), (1, .ref (ad 0)), (2, .ref (am 0)), (3, .ref ao), (4, .int (nI i)), (5, .int 1)]) F d_L_law_669 (by decide) rfl ?_
    refine jw_aload_n (pc := 671) F 2 d_L_law_671 rfl rfl ?_
    refine jw_aload_n (pc := 672) F 0 d_L_law_672 rfl rfl ?_
    refine jw_iload (pc := 673) F 4 d_L_law_673 rfl ?_
    refine jw_iconst (pc := 675) (v := nI 1) F d_L_law_675 (by decide) ?_
    refine jw_iadd (pc := 676) F d_L_law_676 ?_
    rw [nI_add]
    refine jw_sld (pc := 677) F hX hbl hbA (i + 1) rfl (by omega) (by omega) d_L_law_677 ?_
    refine jw_callV_Gi (pc := 678) (As := [.int (xs (i + 1))]) (rest := []) F ([]) (wX ad cB cI cL f0 f1 f2 f3 f4 f5 f6 f7 v md ln ++ wO ao cL o) (m_stamp_1 l D am cB cI cL go gc gb gd gh gr gt gk gn er op sz a hQm (xs (i + 1)) hk1) (jw_cwV F.1.2.2.2.2 wl_good w_467 w_468 w_469 w_30 w_470 hd_M_stamp ⟨by decide, by decide⟩) 0 1 rfl rfl rfl (List.append_assoc _ _ _) rfl rfl (Nat.le_of_ble_eq_true rfl) d_L_law_678 ⟨rfl, rfl⟩ ⟨by show nc + 1 ≤ 1051; omega, by show ns + 6 ≤ 11457; omega⟩ (fun r w hw => ?_)
    obtain ⟨rfl, rfl⟩ := hw
    refine jw_at (lv' := [(0, .ref b), (1, .ref (ad 0)), (2, .ref (am 0)), (3, .ref ao), (4, .int (nI i)), (5, .int 1)]) (st' := [.int 0]) (ws' := wM am cB cI cL go gc gb gd gh gr gt gk gn 1 op sz ++ wX ad cB cI cL f0 f1 f2 f3 f4 f5 f6 f7 v md ln ++ wO ao cL o) rfl rfl (by rw [List.nil_append, List.append_assoc]) ?_
    refine jw_istore (pc := 681) (lv' := [(0, .ref b), (1, .ref (ad 0)), (2, .ref (am 0)), (3, .ref ao), (4, .int (nI i)), (5, .int 1), (6, .int 0)]) F d_L_law_681 (by decide) rfl ?_
    refine jw_aload_n (pc := 683) F 2 d_L_law_683 rfl rfl ?_
    refine jw_callV_Ei (pc := 684) (As := []) (rest := []) F ([]) (wX ad cB cI cL f0 f1 f2 f3 f4 f5 f6 f7 v md ln ++ wO ao cL o) (m_thrown l D am cB cI cL go gc gb gd gh gr gt gk gn 1 op sz) (jw_cwV F.1.2.2.2.2 wl_good w_379 w_380 w_381 w_30 w_382 hd_M_thrown ⟨by decide, by decide⟩) 0 1 rfl rfl rfl (List.append_assoc _ _ _) rfl rfl (Nat.le_of_ble_eq_true rfl) d_L_law_684 ⟨rfl, rfl⟩ ⟨by show nc + 1 ≤ 1051; omega, by show ns + 6 ≤ 11457; omega⟩ ?_
    refine jw_iload (pc := 687) F 5 d_L_law_687 rfl ?_
    refine jw_icmp_eq (pc := 689) F 694 d_L_law_689 (by decide) (fun hz1 => ?_) (fun hz1 => False.elim (hz1 rfl))
    refine jw_iload (pc := 694) F 5 d_L_law_694 rfl ?_
    refine jw_if_ne (pc := 696) F 711 d_L_law_696 (by decide) (fun hz2 => ?_) (fun hz2 => False.elim (absurd hz2 (by decide)))
    refine jw_goto (pc := 711) F 857 d_L_law_711 (by decide) ?_
    refine jw_loc (lv' := [(0, .ref b), (1, .ref (ad 0)), (2, .ref (am 0)), (3, .ref ao), (4, .int (nI i))]) [0, 1, 2, 3, 4] rfl ?_
    refine jw_widen (k := nc + 1) (n := ns + 6) (by show nc + 1 ≤ nc + 1; omega) (by show ns + 6 ≤ ns + 6; omega) ?_
    exact kk a L f0 f1 f2 f3 f4 f5 f6 f7 v md ln go gc gb gd gh gr gt gk gn 1 op sz o hQ hQm
  · obtain ⟨k, hk, hk2⟩ := a_isop_t (by omega) hk1
    refine jw_aload_n (pc := 658) F 1 d_L_law_658 rfl rfl ?_
    refine jw_aload_n (pc := 659) F 0 d_L_law_659 rfl rfl ?_
    refine jw_iload (pc := 660) F 4 d_L_law_660 rfl ?_
    refine jw_iconst (pc := 662) (v := nI 1) F d_L_law_662 (by decide) ?_
    refine jw_iadd (pc := 663) F d_L_law_663 ?_
    rw [nI_add]
    refine jw_sld (pc := 664) F hX hbl hbA (i + 1) rfl (by omega) (by omega) d_L_law_664 ?_
    rw [hk2]
    refine jw_aload_n (pc := 665) F 3 d_L_law_665 rfl rfl ?_
    refine jw_callSW_M (pc := 666) (As := [.ref (ad 0), .int (nI k), .ref ao]) (rest := []) F (wM am cB cI cL go gc gb gd gh gr gt gk gn er op sz) ([]) (w_stamp_0 l D ad cB cI cL f0 f1 f2 f3 f4 f5 f6 f7 v md ln ao o a L hQ k hk) (jw_cwSW F.1.2.2.2.2 wl_good w_302 w_303 w_28 w_304 hd_L_stamp.2 ⟨by decide, by decide⟩) (by rw [List.append_nil, List.append_assoc]) rfl rfl (Nat.le_of_ble_eq_true rfl) d_L_law_666 ⟨by show nc + 0 ≤ 1051; omega, by show ns + 0 ≤ 11457; omega⟩ (fun r w hw => ?_)
    obtain ⟨rfl, o9, rfl, ho9⟩ := hw
    refine jw_at (lv' := [(0, .ref b), (1, .ref (ad 0)), (2, .ref (am 0)), (3, .ref ao), (4, .int (nI i))]) (st' := [.int 0]) (ws' := wM am cB cI cL go gc gb gd gh gr gt gk gn er op sz ++ wX ad cB cI cL f0 f1 f2 f3 f4 f5 f6 f7 v md ln ++ wO ao cL o9) rfl rfl (by rw [List.append_nil, List.append_assoc]) ?_
    refine jw_istore (pc := 669) (lv' := [(0, .ref b), (1, .ref (ad 0)), (2, .ref (am 0)), (3, .ref ao), (4, .int (nI i)), (5, .int 0)]) F d_L_law_669 (by decide) rfl ?_
    refine jw_aload_n (pc := 671) F 2 d_L_law_671 rfl rfl ?_
    refine jw_aload_n (pc := 672) F 0 d_L_law_672 rfl rfl ?_
    refine jw_iload (pc := 673) F 4 d_L_law_673 rfl ?_
    refine jw_iconst (pc := 675) (v := nI 1) F d_L_law_675 (by decide) ?_
    refine jw_iadd (pc := 676) F d_L_law_676 ?_
    rw [nI_add]
    refine jw_sld (pc := 677) F hX hbl hbA (i + 1) rfl (by omega) (by omega) d_L_law_677 ?_
    rw [hk2]
    refine jw_callV_Gi (pc := 678) (As := [.int (nI k)]) (rest := []) F ([]) (wX ad cB cI cL f0 f1 f2 f3 f4 f5 f6 f7 v md ln ++ wO ao cL o9) (m_stamp_0 l D am cB cI cL go gc gb gd gh gr gt gk gn er op sz a hQm k hk) (jw_cwV F.1.2.2.2.2 wl_good w_467 w_468 w_469 w_30 w_470 hd_M_stamp ⟨by decide, by decide⟩) 0 1 rfl rfl rfl (List.append_assoc _ _ _) rfl rfl (Nat.le_of_ble_eq_true rfl) d_L_law_678 ⟨rfl, rfl⟩ ⟨by show nc + 0 ≤ 1051; omega, by show ns + 0 ≤ 11457; omega⟩ (fun r w hw => ?_)
    obtain ⟨rfl, rfl⟩ := hw
    refine jw_at (lv' := [(0, .ref b), (1, .ref (ad 0)), (2, .ref (am 0)), (3, .ref ao), (4, .int (nI i)), (5, .int 0)]) (st' := [.int (nI (a_ct a k))]) (ws' := wM am cB cI cL go gc gb gd gh gr gt gk gn 0 op sz ++ wX ad cB cI cL f0 f1 f2 f3 f4 f5 f6 f7 v md ln ++ wO ao cL o9) rfl rfl (by rw [List.nil_append, List.append_assoc]) ?_
    refine jw_istore (pc := 681) (lv' := [(0, .ref b), (1, .ref (ad 0)), (2, .ref (am 0)), (3, .ref ao), (4, .int (nI i)), (5, .int 0), (6, .int (nI (a_ct a k)))]) F d_L_law_681 (by decide) rfl ?_
    refine jw_aload_n (pc := 683) F 2 d_L_law_683 rfl rfl ?_
    refine jw_callV_Ei (pc := 684) (As := []) (rest := []) F ([]) (wX ad cB cI cL f0 f1 f2 f3 f4 f5 f6 f7 v md ln ++ wO ao cL o9) (m_thrown l D am cB cI cL go gc gb gd gh gr gt gk gn 0 op sz) (jw_cwV F.1.2.2.2.2 wl_good w_379 w_380 w_381 w_30 w_382 hd_M_thrown ⟨by decide, by decide⟩) 0 1 rfl rfl rfl (List.append_assoc _ _ _) rfl rfl (Nat.le_of_ble_eq_true rfl) d_L_law_684 ⟨rfl, rfl⟩ ⟨by show nc + 0 ≤ 1051; omega, by show ns + 0 ≤ 11457; omega⟩ ?_
    refine jw_iload (pc := 687) F 5 d_L_law_687 rfl ?_
    refine jw_icmp_eq (pc := 689) F 694 d_L_law_689 (by decide) (fun hz3 => ?_) (fun hz3 => False.elim (hz3 rfl))
    refine jw_iload (pc := 694) F 5 d_L_law_694 rfl ?_
    refine jw_if_ne (pc := 696) F 711 d_L_law_696 (by decide) (fun hz4 => False.elim (hz4 rfl)) (fun hz4 => ?_)
    refine jw_aload_n (pc := 699) F 3 d_L_law_699 rfl rfl ?_
    refine jw_iconst (pc := 700) (v := nI 0) F d_L_law_700 (by decide) ?_
    refine jw_laldN (pc := 701) F 20 2 rfl rfl 0 rfl (by omega) (by decide) d_L_law_701 ?_
    refine jw_iload (pc := 702) F 6 d_L_law_702 rfl ?_
    refine jw_i2l (pc := 704) F d_L_law_704 ?_
    refine jw_lcmp (pc := 705) F d_L_law_705 ?_
    refine jw_if_eq (pc := 706) F 711 d_L_law_706 (by decide) (fun hz5 => ?_) (fun hz5 => False.elim (hz5 ((lg_cmp_eq _ _).mpr (ho9))))
    refine jw_goto (pc := 711) F 857 d_L_law_711 (by decide) ?_
    refine jw_loc (lv' := [(0, .ref b), (1, .ref (ad 0)), (2, .ref (am 0)), (3, .ref ao), (4, .int (nI i))]) [0, 1, 2, 3, 4] rfl ?_
    refine jw_widen (k := nc + 1) (n := ns + 6) (by show nc + 0 ≤ nc + 1; omega) (by show ns + 0 ≤ ns + 6; omega) ?_
    exact kk a L f0 f1 f2 f3 f4 f5 f6 f7 v md ln go gc gb gd gh gr gt gk gn 0 op sz o9 hQ hQm
set_option maxHeartbeats 4000000 in
set_option maxRecDepth 100000 in
theorem lawc_count {p : Program} {e : Env} {s : State} {m : MethodId} {below : List Frame} {meth : Method} {c : Code} (l : Launch) (D : va_G) (ad am : Nat → Nat) (ao : Nat) (cB cI cL : ClassId) {b LL : Nat} {xs : Nat → Int32} {Q : State → Prop} {A : Nat → Prop} (hl : l.stackTraces = false) (F : jw_F p s m #[Value.ref b] meth c D vCl (vTy cB cI cL) A 8 b_L_law RL (Cond.initialized RL :: WL) ret) (hZ : jz_Y A s) (hX : va_X b LL xs s s.heap) (hbl : b < s.heap.size) (hbA : ¬ A b) (hLL : LL ≤ 2560) (i nc ns : Nat) (hi : i + 5 ≤ LL) (hnc : nc + 1 ≤ 1051) (hns : ns + 6 ≤ 11457) (a : AS) (L : List Nat) (f0 f1 f2 f3 f4 f5 f6 f7 : Nat → Int32) (v : Nat → Int64) (md ln : Int32) (go gc gb gd gh gr gt gk : Nat → Int32) (gn : Nat → Int64) (er op sz : Int32) (o : Nat → Int64) (hQ : cx_R a L f0 f1 f2 f3 f4 f5 f6 f7 v md ln) (hQm : mx_R a go gc gb gd gh gn op) (kk : ∀ (a : AS) (L : List Nat) (f0 f1 f2 f3 f4 f5 f6 f7 : Nat → Int32) (v : Nat → Int64) (md ln : Int32) (go gc gb gd gh gr gt gk : Nat → Int32) (gn : Nat → Int64) (er op sz : Int32) (o : Nat → Int64), cx_R a L f0 f1 f2 f3 f4 f5 f6 f7 v md ln → mx_R a go gc gb gd gh gn op → jw_J p l e room_1 s m #[Value.ref b] below meth c D vCl A 8 Q (nc + 1) (ns + 6) 857 [(0, .ref b), (1, .ref (ad 0)), (2, .ref (am 0)), (3, .ref ao), (4, .int (nI i))] [] (wM am cB cI cL go gc gb gd gh gr gt gk gn er op sz ++ wX ad cB cI cL f0 f1 f2 f3 f4 f5 f6 f7 v md ln ++ wO ao cL o)) : jw_J p l e room_1 s m #[Value.ref b] below meth c D vCl A 8 Q (nc) (ns) 714 [(0, .ref b), (1, .ref (ad 0)), (2, .ref (am 0)), (3, .ref ao), (4, .int (nI i))] [] (wM am cB cI cL go gc gb gd gh gr gt gk gn er op sz ++ wX ad cB cI cL f0 f1 f2 f3 f4 f5 f6 f7 v md ln ++ wO ao cL o) := by
  have hn := hQ.1.1
  cases hr1 : a_isrep (xs (i + 1))
  · refine jw_aload_n (pc := 714) F 1 d_L_law_714 rfl rfl ?_
    refine jw_aload_n (pc := 715) F 0 d_L_law_715 rfl rfl ?_
    refine jw_iload (pc := 716) F 4 d_L_law_716 rfl ?_
    refine jw_iconst (pc := 718) (v := nI 1) F d_L_law_718 (by decide) ?_
    refine jw_iadd (pc := 719) F d_L_law_719 ?_
    rw [nI_add]
    refine jw_sld (pc := 720) F hX hbl hbA (i + 1) rfl (by omega) (by omega) d_L_law_720 ?_
    refine jw_aload_n (pc := 721) F 0 d_L_law_721 rfl rfl ?_
    refine jw_iload (pc := 722) F 4 d_L_law_722 rfl ?_
    refine jw_iconst (pc := 724) (v := nI 2) F d_L_law_724 (by decide) ?_
    refine jw_iadd (pc := 725) F d_L_law_725 ?_
    rw [nI_add]
    refine jw_sld (pc := 726) F hX hbl hbA (i + 2) rfl (by omega) (by omega) d_L_law_726 ?_
    refine jw_aload_n (pc := 727) F 3 d_L_law_727 rfl rfl ?_
    refine jw_callSW_N (pc := 728) (As := [.ref (ad 0), .int (xs (i + 1)), .int (xs (i + 2)), .ref ao]) (rest := []) F jz_okY hZ (wM am cB cI cL go gc gb gd gh gr gt gk gn er op sz) ([]) (w_count_1 l D ad cB cI cL f0 f1 f2 f3 f4 f5 f6 f7 v md ln ao o a L hQ (xs (i + 1)) hr1 (xs (i + 2)) hl) (jw_cwSW F.1.2.2.2.2 wl_good w_309 w_310 w_28 w_311 hd_L_count.2 ⟨by decide, by decide⟩) (by rw [List.append_nil, List.append_assoc]) rfl rfl (Nat.le_of_ble_eq_true rfl) d_L_law_728 ⟨by show nc + 1 ≤ 1051; omega, by show ns + 6 ≤ 11457; omega⟩ (fun r w hw => ?_)
    obtain ⟨rfl, rfl⟩ := hw
    refine jw_at (lv' := [(0, .ref b), (1, .ref (ad 0)), (2, .ref (am 0)), (3, .ref ao), (4, .int (nI i))]) (st' := [.int 1]) (ws' := wM am cB cI cL go gc gb gd gh gr gt gk gn er op sz ++ wX ad cB cI cL f0 f1 f2 f3 f4 f5 f6 f7 v md ln ++ wO ao cL o) rfl rfl (by rw [List.append_nil, List.append_assoc]) ?_
    refine jw_istore (pc := 731) (lv' := [(0, .ref b), (1, .ref (ad 0)), (2, .ref (am 0)), (3, .ref ao), (4, .int (nI i)), (5, .int 1)]) F d_L_law_731 (by decide) rfl ?_
    refine jw_aload_n (pc := 733) F 2 d_L_law_733 rfl rfl ?_
    refine jw_aload_n (pc := 734) F 0 d_L_law_734 rfl rfl ?_
    refine jw_iload (pc := 735) F 4 d_L_law_735 rfl ?_
    refine jw_iconst (pc := 737) (v := nI 1) F d_L_law_737 (by decide) ?_
    refine jw_iadd (pc := 738) F d_L_law_738 ?_
    rw [nI_add]
    refine jw_sld (pc := 739) F hX hbl hbA (i + 1) rfl (by omega) (by omega) d_L_law_739 ?_
    refine jw_aload_n (pc := 740) F 0 d_L_law_740 rfl rfl ?_
    refine jw_iload (pc := 741) F 4 d_L_law_741 rfl ?_
    refine jw_iconst (pc := 743) (v := nI 2) F d_L_law_743 (by decide) ?_
    refine jw_iadd (pc := 744) F d_L_law_744 ?_
    rw [nI_add]
    refine jw_sld (pc := 745) F hX hbl hbA (i + 2) rfl (by omega) (by omega) d_L_law_745 ?_
    refine jw_callV_Gi (pc := 746) (As := [.int (xs (i + 1)), .int (xs (i + 2))]) (rest := []) F ([]) (wX ad cB cI cL f0 f1 f2 f3 f4 f5 f6 f7 v md ln ++ wO ao cL o) (m_count_1 l D am cB cI cL go gc gb gd gh gr gt gk gn er op sz a hQm (xs (i + 1)) hr1 (xs (i + 2))) (jw_cwV F.1.2.2.2.2 wl_good w_471 w_472 w_473 w_30 w_474 hd_M_count ⟨by decide, by decide⟩) 0 1 rfl rfl rfl (List.append_assoc _ _ _) rfl rfl (Nat.le_of_ble_eq_true rfl) d_L_law_746 ⟨rfl, rfl⟩ ⟨by show nc + 1 ≤ 1051; omega, by show ns + 6 ≤ 11457; omega⟩ (fun r w hw => ?_)
    obtain ⟨rfl, rfl⟩ := hw
    refine jw_at (lv' := [(0, .ref b), (1, .ref (ad 0)), (2, .ref (am 0)), (3, .ref ao), (4, .int (nI i)), (5, .int 1)]) (st' := [.int 0]) (ws' := wM am cB cI cL go gc gb gd gh gr gt gk gn 1 op sz ++ wX ad cB cI cL f0 f1 f2 f3 f4 f5 f6 f7 v md ln ++ wO ao cL o) rfl rfl (by rw [List.nil_append, List.append_assoc]) ?_
    refine jw_istore (pc := 749) (lv' := [(0, .ref b), (1, .ref (ad 0)), (2, .ref (am 0)), (3, .ref ao), (4, .int (nI i)), (5, .int 1), (6, .int 0)]) F d_L_law_749 (by decide) rfl ?_
    refine jw_aload_n (pc := 751) F 2 d_L_law_751 rfl rfl ?_
    refine jw_callV_Ei (pc := 752) (As := []) (rest := []) F ([]) (wX ad cB cI cL f0 f1 f2 f3 f4 f5 f6 f7 v md ln ++ wO ao cL o) (m_thrown l D am cB cI cL go gc gb gd gh gr gt gk gn 1 op sz) (jw_cwV F.1.2.2.2.2 wl_good w_379 w_380 w_381 w_30 w_382 hd_M_thrown ⟨by decide, by decide⟩) 0 1 rfl rfl rfl (List.append_assoc _ _ _) rfl rfl (Nat.le_of_ble_eq_true rfl) d_L_law_752 ⟨rfl, rfl⟩ ⟨by show nc + 1 ≤ 1051; omega, by show ns + 6 ≤ 11457; omega⟩ ?_
    refine jw_iload (pc := 755) F 5 d_L_law_755 rfl ?_
    refine jw_icmp_eq (pc := 757) F 762 d_L_law_757 (by decide) (fun hz1 => ?_) (fun hz1 => False.elim (hz1 rfl))
    refine jw_iload (pc := 762) F 5 d_L_law_762 rfl ?_
    refine jw_if_ne (pc := 764) F 779 d_L_law_764 (by decide) (fun hz2 => ?_) (fun hz2 => False.elim (absurd hz2 (by decide)))
    refine jw_goto (pc := 779) F 857 d_L_law_779 (by decide) ?_
    refine jw_loc (lv' := [(0, .ref b), (1, .ref (ad 0)), (2, .ref (am 0)), (3, .ref ao), (4, .int (nI i))]) [0, 1, 2, 3, 4] rfl ?_
    refine jw_widen (k := nc + 1) (n := ns + 6) (by show nc + 1 ≤ nc + 1; omega) (by show ns + 6 ≤ ns + 6; omega) ?_
    exact kk a L f0 f1 f2 f3 f4 f5 f6 f7 v md ln go gc gb gd gh gr gt gk gn 1 op sz o hQ hQm
  · obtain ⟨r, hr, hr2⟩ := a_isrep_t hr1
    cases hk1 : a_isop 4 (xs (i + 2))
    · refine jw_aload_n (pc := 714) F 1 d_L_law_714 rfl rfl ?_
      refine jw_aload_n (pc := 715) F 0 d_L_law_715 rfl rfl ?_
      refine jw_iload (pc := 716) F 4 d_L_law_716 rfl ?_
      refine jw_iconst (pc := 718) (v := nI 1) F d_L_law_718 (by decide) ?_
      refine jw_iadd (pc := 719) F d_L_law_719 ?_
      rw [nI_add]
      refine jw_sld (pc := 720) F hX hbl hbA (i + 1) rfl (by omega) (by omega) d_L_law_720 ?_
      rw [hr2]
      refine jw_aload_n (pc := 721) F 0 d_L_law_721 rfl rfl ?_
      refine jw_iload (pc := 722) F 4 d_L_law_722 rfl ?_
      refine jw_iconst (pc := 724) (v := nI 2) F d_L_law_724 (by decide) ?_
      refine jw_iadd (pc := 725) F d_L_law_725 ?_
      rw [nI_add]
      refine jw_sld (pc := 726) F hX hbl hbA (i + 2) rfl (by omega) (by omega) d_L_law_726 ?_
      refine jw_aload_n (pc := 727) F 3 d_L_law_727 rfl rfl ?_
      refine jw_callSW_N (pc := 728) (As := [.ref (ad 0), .int (nI r), .int (xs (i + 2)), .ref ao]) (rest := []) F jz_okY hZ (wM am cB cI cL go gc gb gd gh gr gt gk gn er op sz) ([]) (w_count_2 l D ad cB cI cL f0 f1 f2 f3 f4 f5 f6 f7 v md ln ao o a L hQ r hr (xs (i + 2)) hk1 hl) (jw_cwSW F.1.2.2.2.2 wl_good w_309 w_310 w_28 w_311 hd_L_count.2 ⟨by decide, by decide⟩) (by rw [List.append_nil, List.append_assoc]) rfl rfl (Nat.le_of_ble_eq_true rfl) d_L_law_728 ⟨by show nc + 1 ≤ 1051; omega, by show ns + 6 ≤ 11457; omega⟩ (fun r w hw => ?_)
      obtain ⟨rfl, rfl⟩ := hw
      refine jw_at (lv' := [(0, .ref b), (1, .ref (ad 0)), (2, .ref (am 0)), (3, .ref ao), (4, .int (nI i))]) (st' := [.int 1]) (ws' := wM am cB cI cL go gc gb gd gh gr gt gk gn er op sz ++ wX ad cB cI cL f0 f1 f2 f3 f4 f5 f6 f7 v md ln ++ wO ao cL o) rfl rfl (by rw [List.append_nil, List.append_assoc]) ?_
      refine jw_istore (pc := 731) (lv' := [(0, .ref b), (1, .ref (ad 0)), (2, .ref (am 0)), (3, .ref ao), (4, .int (nI i)), (5, .int 1)]) F d_L_law_731 (by decide) rfl ?_
      refine jw_aload_n (pc := 733) F 2 d_L_law_733 rfl rfl ?_
      refine jw_aload_n (pc := 734) F 0 d_L_law_734 rfl rfl ?_
      refine jw_iload (pc := 735) F 4 d_L_law_735 rfl ?_
      refine jw_iconst (pc := 737) (v := nI 1) F d_L_law_737 (by decide) ?_
      refine jw_iadd (pc := 738) F d_L_law_738 ?_
      rw [nI_add]
      refine jw_sld (pc := 739) F hX hbl hbA (i + 1) rfl (by omega) (by omega) d_L_law_739 ?_
      rw [hr2]
      refine jw_aload_n (pc := 740) F 0 d_L_law_740 rfl rfl ?_
      refine jw_iload (pc := 741) F 4 d_L_law_741 rfl ?_
      refine jw_iconst (pc := 743) (v := nI 2) F d_L_law_743 (by decide) ?_
      refine jw_iadd (pc := 744) F d_L_law_744 ?_
      rw [nI_add]
      refine jw_sld (pc := 745) F hX hbl hbA (i + 2) rfl (by omega) (by omega) d_L_law_745 ?_
      refine jw_callV_Gi (pc := 746) (As := [.int (nI r), .int (xs (i + 2))]) (rest := []) F ([]) (wX ad cB cI cL f0 f1 f2 f3 f4 f5 f6 f7 v md ln ++ wO ao cL o) (m_count_x l D am cB cI cL go gc gb gd gh gr gt gk gn er op sz a hQm r hr (xs (i + 2)) hk1) (jw_cwV F.1.2.2.2.2 wl_good w_471 w_472 w_473 w_30 w_474 hd_M_count ⟨by decide, by decide⟩) 0 1 rfl rfl rfl (List.append_assoc _ _ _) rfl rfl (Nat.le_of_ble_eq_true rfl) d_L_law_746 ⟨rfl, rfl⟩ ⟨by show nc + 1 ≤ 1051; omega, by show ns + 6 ≤ 11457; omega⟩ (fun r w hw => ?_)
      obtain ⟨rfl, rfl⟩ := hw
      refine jw_at (lv' := [(0, .ref b), (1, .ref (ad 0)), (2, .ref (am 0)), (3, .ref ao), (4, .int (nI i)), (5, .int 1)]) (st' := [.int 0]) (ws' := wM am cB cI cL go gc gb gd gh gr gt gk gn 1 op sz ++ wX ad cB cI cL f0 f1 f2 f3 f4 f5 f6 f7 v md ln ++ wO ao cL o) rfl rfl (by rw [List.nil_append, List.append_assoc]) ?_
      refine jw_istore (pc := 749) (lv' := [(0, .ref b), (1, .ref (ad 0)), (2, .ref (am 0)), (3, .ref ao), (4, .int (nI i)), (5, .int 1), (6, .int 0)]) F d_L_law_749 (by decide) rfl ?_
      refine jw_aload_n (pc := 751) F 2 d_L_law_751 rfl rfl ?_
      refine jw_callV_Ei (pc := 752) (As := []) (rest := []) F ([]) (wX ad cB cI cL f0 f1 f2 f3 f4 f5 f6 f7 v md ln ++ wO ao cL o) (m_thrown l D am cB cI cL go gc gb gd gh gr gt gk gn 1 op sz) (jw_cwV F.1.2.2.2.2 wl_good w_379 w_380 w_381 w_30 w_382 hd_M_thrown ⟨by decide, by decide⟩) 0 1 rfl rfl rfl (List.append_assoc _ _ _) rfl rfl (Nat.le_of_ble_eq_true rfl) d_L_law_752 ⟨rfl, rfl⟩ ⟨by show nc + 1 ≤ 1051; omega, by show ns + 6 ≤ 11457; omega⟩ ?_
      refine jw_iload (pc := 755) F 5 d_L_law_755 rfl ?_
      refine jw_icmp_eq (pc := 757) F 762 d_L_law_757 (by decide) (fun hz3 => ?_) (fun hz3 => False.elim (hz3 rfl))
      refine jw_iload (pc := 762) F 5 d_L_law_762 rfl ?_
      refine jw_if_ne (pc := 764) F 779 d_L_law_764 (by decide) (fun hz4 => ?_) (fun hz4 => False.elim (absurd hz4 (by decide)))
      refine jw_goto (pc := 779) F 857 d_L_law_779 (by decide) ?_
      refine jw_loc (lv' := [(0, .ref b), (1, .ref (ad 0)), (2, .ref (am 0)), (3, .ref ao), (4, .int (nI i))]) [0, 1, 2, 3, 4] rfl ?_
      refine jw_widen (k := nc + 1) (n := ns + 6) (by show nc + 1 ≤ nc + 1; omega) (by show ns + 6 ≤ ns + 6; omega) ?_
      exact kk a L f0 f1 f2 f3 f4 f5 f6 f7 v md ln go gc gb gd gh gr gt gk gn 1 op sz o hQ hQm
    · obtain ⟨k, hk, hk2⟩ := a_isop_t (by omega) hk1
      obtain rfl | rfl | rfl | rfl : k = 0 ∨ k = 1 ∨ k = 2 ∨ k = 3 := by omega
      · refine jw_aload_n (pc := 714) F 1 d_L_law_714 rfl rfl ?_
        refine jw_aload_n (pc := 715) F 0 d_L_law_715 rfl rfl ?_
        refine jw_iload (pc := 716) F 4 d_L_law_716 rfl ?_
        refine jw_iconst (pc := 718) (v := nI 1) F d_L_law_718 (by decide) ?_
        refine jw_iadd (pc := 719) F d_L_law_719 ?_
        rw [nI_add]
        refine jw_sld (pc := 720) F hX hbl hbA (i + 1) rfl (by omega) (by omega) d_L_law_720 ?_
        rw [hr2]
        refine jw_aload_n (pc := 721) F 0 d_L_law_721 rfl rfl ?_
        refine jw_iload (pc := 722) F 4 d_L_law_722 rfl ?_
        refine jw_iconst (pc := 724) (v := nI 2) F d_L_law_724 (by decide) ?_
        refine jw_iadd (pc := 725) F d_L_law_725 ?_
        rw [nI_add]
        refine jw_sld (pc := 726) F hX hbl hbA (i + 2) rfl (by omega) (by omega) d_L_law_726 ?_
        rw [hk2]
        refine jw_aload_n (pc := 727) F 3 d_L_law_727 rfl rfl ?_
        refine jw_callSW_M (pc := 728) (As := [.ref (ad 0), .int (nI r), .int (nI 0), .ref ao]) (rest := []) F (wM am cB cI cL go gc gb gd gh gr gt gk gn er op sz) ([]) (w_count_v0 l D ad cB cI cL f0 f1 f2 f3 f4 f5 f6 f7 v md ln ao o a L hQ r hr) (jw_cwSW F.1.2.2.2.2 wl_good w_309 w_310 w_28 w_311 hd_L_count.2 ⟨by decide, by decide⟩) (by rw [List.append_nil, List.append_assoc]) rfl rfl (Nat.le_of_ble_eq_true rfl) d_L_law_728 ⟨by show nc + 0 ≤ 1051; omega, by show ns + 0 ≤ 11457; omega⟩ (fun r w hw => ?_)
        obtain ⟨rfl, o9, rfl, ho9⟩ := hw
        refine jw_at (lv' := [(0, .ref b), (1, .ref (ad 0)), (2, .ref (am 0)), (3, .ref ao), (4, .int (nI i))]) (st' := [.int 0]) (ws' := wM am cB cI cL go gc gb gd gh gr gt gk gn er op sz ++ wX ad cB cI cL f0 f1 f2 f3 f4 f5 f6 f7 v md ln ++ wO ao cL o9) rfl rfl (by rw [List.append_nil, List.append_assoc]) ?_
        refine jw_istore (pc := 731) (lv' := [(0, .ref b), (1, .ref (ad 0)), (2, .ref (am 0)), (3, .ref ao), (4, .int (nI i)), (5, .int 0)]) F d_L_law_731 (by decide) rfl ?_
        refine jw_aload_n (pc := 733) F 2 d_L_law_733 rfl rfl ?_
        refine jw_aload_n (pc := 734) F 0 d_L_law_734 rfl rfl ?_
        refine jw_iload (pc := 735) F 4 d_L_law_735 rfl ?_
        refine jw_iconst (pc := 737) (v := nI 1) F d_L_law_737 (by decide) ?_
        refine jw_iadd (pc := 738) F d_L_law_738 ?_
        rw [nI_add]
        refine jw_sld (pc := 739) F hX hbl hbA (i + 1) rfl (by omega) (by omega) d_L_law_739 ?_
        rw [hr2]
        refine jw_aload_n (pc := 740) F 0 d_L_law_740 rfl rfl ?_
        refine jw_iload (pc := 741) F 4 d_L_law_741 rfl ?_
        refine jw_iconst (pc := 743) (v := nI 2) F d_L_law_743 (by decide) ?_
        refine jw_iadd (pc := 744) F d_L_law_744 ?_
        rw [nI_add]
        refine jw_sld (pc := 745) F hX hbl hbA (i + 2) rfl (by omega) (by omega) d_L_law_745 ?_
        rw [hk2]
        refine jw_callV_Gi (pc := 746) (As := [.int (nI r), .int (nI 0)]) (rest := []) F ([]) (wX ad cB cI cL f0 f1 f2 f3 f4 f5 f6 f7 v md ln ++ wO ao cL o9) (m_count_v0 l D am cB cI cL go gc gb gd gh gr gt gk gn er op sz a hQm r hr) (jw_cwV F.1.2.2.2.2 wl_good w_471 w_472 w_473 w_30 w_474 hd_M_count ⟨by decide, by decide⟩) 0 1 rfl rfl rfl (List.append_assoc _ _ _) rfl rfl (Nat.le_of_ble_eq_true rfl) d_L_law_746 ⟨rfl, rfl⟩ ⟨by show nc + 0 ≤ 1051; omega, by show ns + 0 ≤ 11457; omega⟩ (fun r w hw => ?_)
        obtain ⟨rfl, rfl⟩ := hw
        refine jw_at (lv' := [(0, .ref b), (1, .ref (ad 0)), (2, .ref (am 0)), (3, .ref ao), (4, .int (nI i)), (5, .int 0)]) (st' := [.int (nI ((List.range (a_n a)).countP (a_hd a r)))]) (ws' := wM am cB cI cL go gc gb gd gh gr gt gk gn 0 op sz ++ wX ad cB cI cL f0 f1 f2 f3 f4 f5 f6 f7 v md ln ++ wO ao cL o9) rfl rfl (by rw [List.nil_append, List.append_assoc]) ?_
        refine jw_istore (pc := 749) (lv' := [(0, .ref b), (1, .ref (ad 0)), (2, .ref (am 0)), (3, .ref ao), (4, .int (nI i)), (5, .int 0), (6, .int (nI ((List.range (a_n a)).countP (a_hd a r))))]) F d_L_law_749 (by decide) rfl ?_
        refine jw_aload_n (pc := 751) F 2 d_L_law_751 rfl rfl ?_
        refine jw_callV_Ei (pc := 752) (As := []) (rest := []) F ([]) (wX ad cB cI cL f0 f1 f2 f3 f4 f5 f6 f7 v md ln ++ wO ao cL o9) (m_thrown l D am cB cI cL go gc gb gd gh gr gt gk gn 0 op sz) (jw_cwV F.1.2.2.2.2 wl_good w_379 w_380 w_381 w_30 w_382 hd_M_thrown ⟨by decide, by decide⟩) 0 1 rfl rfl rfl (List.append_assoc _ _ _) rfl rfl (Nat.le_of_ble_eq_true rfl) d_L_law_752 ⟨rfl, rfl⟩ ⟨by show nc + 0 ≤ 1051; omega, by show ns + 0 ≤ 11457; omega⟩ ?_
        refine jw_iload (pc := 755) F 5 d_L_law_755 rfl ?_
        refine jw_icmp_eq (pc := 757) F 762 d_L_law_757 (by decide) (fun hz5 => ?_) (fun hz5 => False.elim (hz5 rfl))
        refine jw_iload (pc := 762) F 5 d_L_law_762 rfl ?_
        refine jw_if_ne (pc := 764) F 779 d_L_law_764 (by decide) (fun hz6 => False.elim (hz6 rfl)) (fun hz6 => ?_)
        refine jw_aload_n (pc := 767) F 3 d_L_law_767 rfl rfl ?_
        refine jw_iconst (pc := 768) (v := nI 0) F d_L_law_768 (by decide) ?_
        refine jw_laldN (pc := 769) F 20 2 rfl rfl 0 rfl (by omega) (by decide) d_L_law_769 ?_
        refine jw_iload (pc := 770) F 6 d_L_law_770 rfl ?_
        refine jw_i2l (pc := 772) F d_L_law_772 ?_
        refine jw_lcmp (pc := 773) F d_L_law_773 ?_
        refine jw_if_eq (pc := 774) F 779 d_L_law_774 (by decide) (fun hz7 => ?_) (fun hz7 => False.elim (hz7 ((lg_cmp_eq _ _).mpr (ho9))))
        refine jw_goto (pc := 779) F 857 d_L_law_779 (by decide) ?_
        refine jw_loc (lv' := [(0, .ref b), (1, .ref (ad 0)), (2, .ref (am 0)), (3, .ref ao), (4, .int (nI i))]) [0, 1, 2, 3, 4] rfl ?_
        refine jw_widen (k := nc + 1) (n := ns + 6) (by show nc + 0 ≤ nc + 1; omega) (by show ns + 0 ≤ ns + 6; omega) ?_
        exact kk a L f0 f1 f2 f3 f4 f5 f6 f7 v md ln go gc gb gd gh gr gt gk gn 0 op sz o9 hQ hQm
      · refine jw_aload_n (pc := 714) F 1 d_L_law_714 rfl rfl ?_
        refine jw_aload_n (pc := 715) F 0 d_L_law_715 rfl rfl ?_
        refine jw_iload (pc := 716) F 4 d_L_law_716 rfl ?_
        refine jw_iconst (pc := 718) (v := nI 1) F d_L_law_718 (by decide) ?_
        refine jw_iadd (pc := 719) F d_L_law_719 ?_
        rw [nI_add]
        refine jw_sld (pc := 720) F hX hbl hbA (i + 1) rfl (by omega) (by omega) d_L_law_720 ?_
        rw [hr2]
        refine jw_aload_n (pc := 721) F 0 d_L_law_721 rfl rfl ?_
        refine jw_iload (pc := 722) F 4 d_L_law_722 rfl ?_
        refine jw_iconst (pc := 724) (v := nI 2) F d_L_law_724 (by decide) ?_
        refine jw_iadd (pc := 725) F d_L_law_725 ?_
        rw [nI_add]
        refine jw_sld (pc := 726) F hX hbl hbA (i + 2) rfl (by omega) (by omega) d_L_law_726 ?_
        rw [hk2]
        refine jw_aload_n (pc := 727) F 3 d_L_law_727 rfl rfl ?_
        refine jw_callSW_M (pc := 728) (As := [.ref (ad 0), .int (nI r), .int (nI 1), .ref ao]) (rest := []) F (wM am cB cI cL go gc gb gd gh gr gt gk gn er op sz) ([]) (w_count_v1 l D ad cB cI cL f0 f1 f2 f3 f4 f5 f6 f7 v md ln ao o a L hQ r hr) (jw_cwSW F.1.2.2.2.2 wl_good w_309 w_310 w_28 w_311 hd_L_count.2 ⟨by decide, by decide⟩) (by rw [List.append_nil, List.append_assoc]) rfl rfl (Nat.le_of_ble_eq_true rfl) d_L_law_728 ⟨by show nc + 0 ≤ 1051; omega, by show ns + 0 ≤ 11457; omega⟩ (fun r w hw => ?_)
        obtain ⟨rfl, o9, rfl, ho9⟩ := hw
        refine jw_at (lv' := [(0, .ref b), (1, .ref (ad 0)), (2, .ref (am 0)), (3, .ref ao), (4, .int (nI i))]) (st' := [.int 0]) (ws' := wM am cB cI cL go gc gb gd gh gr gt gk gn er op sz ++ wX ad cB cI cL f0 f1 f2 f3 f4 f5 f6 f7 v md ln ++ wO ao cL o9) rfl rfl (by rw [List.append_nil, List.append_assoc]) ?_
        refine jw_istore (pc := 731) (lv' := [(0, .ref b), (1, .ref (ad 0)), (2, .ref (am 0)), (3, .ref ao), (4, .int (nI i)), (5, .int 0)]) F d_L_law_731 (by decide) rfl ?_
        refine jw_aload_n (pc := 733) F 2 d_L_law_733 rfl rfl ?_
        refine jw_aload_n (pc := 734) F 0 d_L_law_734 rfl rfl ?_
        refine jw_iload (pc := 735) F 4 d_L_law_735 rfl ?_
        refine jw_iconst (pc := 737) (v := nI 1) F d_L_law_737 (by decide) ?_
        refine jw_iadd (pc := 738) F d_L_law_738 ?_
        rw [nI_add]
        refine jw_sld (pc := 739) F hX hbl hbA (i + 1) rfl (by omega) (by omega) d_L_law_739 ?_
        rw [hr2]
        refine jw_aload_n (pc := 740) F 0 d_L_law_740 rfl rfl ?_
        refine jw_iload (pc := 741) F 4 d_L_law_741 rfl ?_
        refine jw_iconst (pc := 743) (v := nI 2) F d_L_law_743 (by decide) ?_
        refine jw_iadd (pc := 744) F d_L_law_744 ?_
        rw [nI_add]
        refine jw_sld (pc := 745) F hX hbl hbA (i + 2) rfl (by omega) (by omega) d_L_law_745 ?_
        rw [hk2]
        refine jw_callV_Gi (pc := 746) (As := [.int (nI r), .int (nI 1)]) (rest := []) F ([]) (wX ad cB cI cL f0 f1 f2 f3 f4 f5 f6 f7 v md ln ++ wO ao cL o9) (m_count_v1 l D am cB cI cL go gc gb gd gh gr gt gk gn er op sz a hQm r hr) (jw_cwV F.1.2.2.2.2 wl_good w_471 w_472 w_473 w_30 w_474 hd_M_count ⟨by decide, by decide⟩) 0 1 rfl rfl rfl (List.append_assoc _ _ _) rfl rfl (Nat.le_of_ble_eq_true rfl) d_L_law_746 ⟨rfl, rfl⟩ ⟨by show nc + 0 ≤ 1051; omega, by show ns + 0 ≤ 11457; omega⟩ (fun r w hw => ?_)
        obtain ⟨rfl, rfl⟩ := hw
        refine jw_at (lv' := [(0, .ref b), (1, .ref (ad 0)), (2, .ref (am 0)), (3, .ref ao), (4, .int (nI i)), (5, .int 0)]) (st' := [.int (nI ((List.range (a_n a)).countP (fun k => a_hd a r k && !a_dl a k)))]) (ws' := wM am cB cI cL go gc gb gd gh gr gt gk gn 0 op sz ++ wX ad cB cI cL f0 f1 f2 f3 f4 f5 f6 f7 v md ln ++ wO ao cL o9) rfl rfl (by rw [List.nil_append, List.append_assoc]) ?_
        refine jw_istore (pc := 749) (lv' := [(0, .ref b), (1, .ref (ad 0)), (2, .ref (am 0)), (3, .ref ao), (4, .int (nI i)), (5, .int 0), (6, .int (nI ((List.range (a_n a)).countP (fun k => a_hd a r k && !a_dl a k))))]) F d_L_law_749 (by decide) rfl ?_
        refine jw_aload_n (pc := 751) F 2 d_L_law_751 rfl rfl ?_
        refine jw_callV_Ei (pc := 752) (As := []) (rest := []) F ([]) (wX ad cB cI cL f0 f1 f2 f3 f4 f5 f6 f7 v md ln ++ wO ao cL o9) (m_thrown l D am cB cI cL go gc gb gd gh gr gt gk gn 0 op sz) (jw_cwV F.1.2.2.2.2 wl_good w_379 w_380 w_381 w_30 w_382 hd_M_thrown ⟨by decide, by decide⟩) 0 1 rfl rfl rfl (List.append_assoc _ _ _) rfl rfl (Nat.le_of_ble_eq_true rfl) d_L_law_752 ⟨rfl, rfl⟩ ⟨by show nc + 0 ≤ 1051; omega, by show ns + 0 ≤ 11457; omega⟩ ?_
        refine jw_iload (pc := 755) F 5 d_L_law_755 rfl ?_
        refine jw_icmp_eq (pc := 757) F 762 d_L_law_757 (by decide) (fun hz8 => ?_) (fun hz8 => False.elim (hz8 rfl))
        refine jw_iload (pc := 762) F 5 d_L_law_762 rfl ?_
        refine jw_if_ne (pc := 764) F 779 d_L_law_764 (by decide) (fun hz9 => False.elim (hz9 rfl)) (fun hz9 => ?_)
        refine jw_aload_n (pc := 767) F 3 d_L_law_767 rfl rfl ?_
        refine jw_iconst (pc := 768) (v := nI 0) F d_L_law_768 (by decide) ?_
        refine jw_laldN (pc := 769) F 20 2 rfl rfl 0 rfl (by omega) (by decide) d_L_law_769 ?_
        refine jw_iload (pc := 770) F 6 d_L_law_770 rfl ?_
        refine jw_i2l (pc := 772) F d_L_law_772 ?_
        refine jw_lcmp (pc := 773) F d_L_law_773 ?_
        refine jw_if_eq (pc := 774) F 779 d_L_law_774 (by decide) (fun hz10 => ?_) (fun hz10 => False.elim (hz10 ((lg_cmp_eq _ _).mpr (by rw [ho9, gm_count hQ.2.2.2.2.1 hQ.2.2.2.2.2.1]))))
        refine jw_goto (pc := 779) F 857 d_L_law_779 (by decide) ?_
        refine jw_loc (lv' := [(0, .ref b), (1, .ref (ad 0)), (2, .ref (am 0)), (3, .ref ao), (4, .int (nI i))]) [0, 1, 2, 3, 4] rfl ?_
        refine jw_widen (k := nc + 1) (n := ns + 6) (by show nc + 0 ≤ nc + 1; omega) (by show ns + 0 ≤ ns + 6; omega) ?_
        exact kk a L f0 f1 f2 f3 f4 f5 f6 f7 v md ln go gc gb gd gh gr gt gk gn 0 op sz o9 hQ hQm
      · refine jw_aload_n (pc := 714) F 1 d_L_law_714 rfl rfl ?_
        refine jw_aload_n (pc := 715) F 0 d_L_law_715 rfl rfl ?_
        refine jw_iload (pc := 716) F 4 d_L_law_716 rfl ?_
        refine jw_iconst (pc := 718) (v := nI 1) F d_L_law_718 (by decide) ?_
        refine jw_iadd (pc := 719) F d_L_law_719 ?_
        rw [nI_add]
        refine jw_sld (pc := 720) F hX hbl hbA (i + 1) rfl (by omega) (by omega) d_L_law_720 ?_
        rw [hr2]
        refine jw_aload_n (pc := 721) F 0 d_L_law_721 rfl rfl ?_
        refine jw_iload (pc := 722) F 4 d_L_law_722 rfl ?_
        refine jw_iconst (pc := 724) (v := nI 2) F d_L_law_724 (by decide) ?_
        refine jw_iadd (pc := 725) F d_L_law_725 ?_
        rw [nI_add]
        refine jw_sld (pc := 726) F hX hbl hbA (i + 2) rfl (by omega) (by omega) d_L_law_726 ?_
        rw [hk2]
        refine jw_aload_n (pc := 727) F 3 d_L_law_727 rfl rfl ?_
        refine jw_callSW_M (pc := 728) (As := [.ref (ad 0), .int (nI r), .int (nI 2), .ref ao]) (rest := []) F (wM am cB cI cL go gc gb gd gh gr gt gk gn er op sz) ([]) (w_count_v2 l D ad cB cI cL f0 f1 f2 f3 f4 f5 f6 f7 v md ln ao o a L hQ r hr) (jw_cwSW F.1.2.2.2.2 wl_good w_309 w_310 w_28 w_311 hd_L_count.2 ⟨by decide, by decide⟩) (by rw [List.append_nil, List.append_assoc]) rfl rfl (Nat.le_of_ble_eq_true rfl) d_L_law_728 ⟨by show nc + 0 ≤ 1051; omega, by show ns + 0 ≤ 11457; omega⟩ (fun r w hw => ?_)
        obtain ⟨rfl, o9, rfl, ho9⟩ := hw
        refine jw_at (lv' := [(0, .ref b), (1, .ref (ad 0)), (2, .ref (am 0)), (3, .ref ao), (4, .int (nI i))]) (st' := [.int 0]) (ws' := wM am cB cI cL go gc gb gd gh gr gt gk gn er op sz ++ wX ad cB cI cL f0 f1 f2 f3 f4 f5 f6 f7 v md ln ++ wO ao cL o9) rfl rfl (by rw [List.append_nil, List.append_assoc]) ?_
        refine jw_istore (pc := 731) (lv' := [(0, .ref b), (1, .ref (ad 0)), (2, .ref (am 0)), (3, .ref ao), (4, .int (nI i)), (5, .int 0)]) F d_L_law_731 (by decide) rfl ?_
        refine jw_aload_n (pc := 733) F 2 d_L_law_733 rfl rfl ?_
        refine jw_aload_n (pc := 734) F 0 d_L_law_734 rfl rfl ?_
        refine jw_iload (pc := 735) F 4 d_L_law_735 rfl ?_
        refine jw_iconst (pc := 737) (v := nI 1) F d_L_law_737 (by decide) ?_
        refine jw_iadd (pc := 738) F d_L_law_738 ?_
        rw [nI_add]
        refine jw_sld (pc := 739) F hX hbl hbA (i + 1) rfl (by omega) (by omega) d_L_law_739 ?_
        rw [hr2]
        refine jw_aload_n (pc := 740) F 0 d_L_law_740 rfl rfl ?_
        refine jw_iload (pc := 741) F 4 d_L_law_741 rfl ?_
        refine jw_iconst (pc := 743) (v := nI 2) F d_L_law_743 (by decide) ?_
        refine jw_iadd (pc := 744) F d_L_law_744 ?_
        rw [nI_add]
        refine jw_sld (pc := 745) F hX hbl hbA (i + 2) rfl (by omega) (by omega) d_L_law_745 ?_
        rw [hk2]
        refine jw_callV_Gi (pc := 746) (As := [.int (nI r), .int (nI 2)]) (rest := []) F ([]) (wX ad cB cI cL f0 f1 f2 f3 f4 f5 f6 f7 v md ln ++ wO ao cL o9) (m_count_v2 l D am cB cI cL go gc gb gd gh gr gt gk gn er op sz a hQm L hQ.2.2.2.2 r hr) (jw_cwV F.1.2.2.2.2 wl_good w_471 w_472 w_473 w_30 w_474 hd_M_count ⟨by decide, by decide⟩) 0 1 rfl rfl rfl (List.append_assoc _ _ _) rfl rfl (Nat.le_of_ble_eq_true rfl) d_L_law_746 ⟨rfl, rfl⟩ ⟨by show nc + 0 ≤ 1051; omega, by show ns + 0 ≤ 11457; omega⟩ (fun r w hw => ?_)
        obtain ⟨rfl, k7, k8, k9, ks, rfl⟩ := hw
        refine jw_at (lv' := [(0, .ref b), (1, .ref (ad 0)), (2, .ref (am 0)), (3, .ref ao), (4, .int (nI i)), (5, .int 0)]) (st' := [.int (nI (L.filter (a_seen a r)).length)]) (ws' := wM am cB cI cL go gc gb gd gh k7 k8 k9 gn 0 op ks ++ wX ad cB cI cL f0 f1 f2 f3 f4 f5 f6 f7 v md ln ++ wO ao cL o9) rfl rfl (by rw [List.nil_append, List.append_assoc]) ?_
        refine jw_istore (pc := 749) (lv' := [(0, .ref b), (1, .ref (ad 0)), (2, .ref (am 0)), (3, .ref ao), (4, .int (nI i)), (5, .int 0), (6, .int (nI (L.filter (a_seen a r)).length))]) F d_L_law_749 (by decide) rfl ?_
        refine jw_aload_n (pc := 751) F 2 d_L_law_751 rfl rfl ?_
        refine jw_callV_Ei (pc := 752) (As := []) (rest := []) F ([]) (wX ad cB cI cL f0 f1 f2 f3 f4 f5 f6 f7 v md ln ++ wO ao cL o9) (m_thrown l D am cB cI cL go gc gb gd gh k7 k8 k9 gn 0 op ks) (jw_cwV F.1.2.2.2.2 wl_good w_379 w_380 w_381 w_30 w_382 hd_M_thrown ⟨by decide, by decide⟩) 0 1 rfl rfl rfl (List.append_assoc _ _ _) rfl rfl (Nat.le_of_ble_eq_true rfl) d_L_law_752 ⟨rfl, rfl⟩ ⟨by show nc + 0 ≤ 1051; omega, by show ns + 0 ≤ 11457; omega⟩ ?_
        refine jw_iload (pc := 755) F 5 d_L_law_755 rfl ?_
        refine jw_icmp_eq (pc := 757) F 762 d_L_law_757 (by decide) (fun hz11 => ?_) (fun hz11 => False.elim (hz11 rfl))
        refine jw_iload (pc := 762) F 5 d_L_law_762 rfl ?_
        refine jw_if_ne (pc := 764) F 779 d_L_law_764 (by decide) (fun hz12 => False.elim (hz12 rfl)) (fun hz12 => ?_)
        refine jw_aload_n (pc := 767) F 3 d_L_law_767 rfl rfl ?_
        refine jw_iconst (pc := 768) (v := nI 0) F d_L_law_768 (by decide) ?_
        refine jw_laldN (pc := 769) F 20 2 rfl rfl 0 rfl (by omega) (by decide) d_L_law_769 ?_
        refine jw_iload (pc := 770) F 6 d_L_law_770 rfl ?_
        refine jw_i2l (pc := 772) F d_L_law_772 ?_
        refine jw_lcmp (pc := 773) F d_L_law_773 ?_
        refine jw_if_eq (pc := 774) F 779 d_L_law_774 (by decide) (fun hz13 => ?_) (fun hz13 => False.elim (hz13 ((lg_cmp_eq _ _).mpr (by rw [ho9, gl_len]))))
        refine jw_goto (pc := 779) F 857 d_L_law_779 (by decide) ?_
        refine jw_loc (lv' := [(0, .ref b), (1, .ref (ad 0)), (2, .ref (am 0)), (3, .ref ao), (4, .int (nI i))]) [0, 1, 2, 3, 4] rfl ?_
        refine jw_widen (k := nc + 1) (n := ns + 6) (by show nc + 0 ≤ nc + 1; omega) (by show ns + 0 ≤ ns + 6; omega) ?_
        exact kk a L f0 f1 f2 f3 f4 f5 f6 f7 v md ln go gc gb gd gh k7 k8 k9 gn 0 op ks o9 hQ hQm
      · refine jw_aload_n (pc := 714) F 1 d_L_law_714 rfl rfl ?_
        refine jw_aload_n (pc := 715) F 0 d_L_law_715 rfl rfl ?_
        refine jw_iload (pc := 716) F 4 d_L_law_716 rfl ?_
        refine jw_iconst (pc := 718) (v := nI 1) F d_L_law_718 (by decide) ?_
        refine jw_iadd (pc := 719) F d_L_law_719 ?_
        rw [nI_add]
        refine jw_sld (pc := 720) F hX hbl hbA (i + 1) rfl (by omega) (by omega) d_L_law_720 ?_
        rw [hr2]
        refine jw_aload_n (pc := 721) F 0 d_L_law_721 rfl rfl ?_
        refine jw_iload (pc := 722) F 4 d_L_law_722 rfl ?_
        refine jw_iconst (pc := 724) (v := nI 2) F d_L_law_724 (by decide) ?_
        refine jw_iadd (pc := 725) F d_L_law_725 ?_
        rw [nI_add]
        refine jw_sld (pc := 726) F hX hbl hbA (i + 2) rfl (by omega) (by omega) d_L_law_726 ?_
        rw [hk2]
        refine jw_aload_n (pc := 727) F 3 d_L_law_727 rfl rfl ?_
        refine jw_callSW_M (pc := 728) (As := [.ref (ad 0), .int (nI r), .int (nI 3), .ref ao]) (rest := []) F (wM am cB cI cL go gc gb gd gh gr gt gk gn er op sz) ([]) (w_count_v3 l D ad cB cI cL f0 f1 f2 f3 f4 f5 f6 f7 v md ln ao o a L hQ r hr) (jw_cwSW F.1.2.2.2.2 wl_good w_309 w_310 w_28 w_311 hd_L_count.2 ⟨by decide, by decide⟩) (by rw [List.append_nil, List.append_assoc]) rfl rfl (Nat.le_of_ble_eq_true rfl) d_L_law_728 ⟨by show nc + 0 ≤ 1051; omega, by show ns + 0 ≤ 11457; omega⟩ (fun r w hw => ?_)
        obtain ⟨rfl, o9, rfl, ho9⟩ := hw
        refine jw_at (lv' := [(0, .ref b), (1, .ref (ad 0)), (2, .ref (am 0)), (3, .ref ao), (4, .int (nI i))]) (st' := [.int 0]) (ws' := wM am cB cI cL go gc gb gd gh gr gt gk gn er op sz ++ wX ad cB cI cL f0 f1 f2 f3 f4 f5 f6 f7 v md ln ++ wO ao cL o9) rfl rfl (by rw [List.append_nil, List.append_assoc]) ?_
        refine jw_istore (pc := 731) (lv' := [(0, .ref b), (1, .ref (ad 0)), (2, .ref (am 0)), (3, .ref ao), (4, .int (nI i)), (5, .int 0)]) F d_L_law_731 (by decide) rfl ?_
        refine jw_aload_n (pc := 733) F 2 d_L_law_733 rfl rfl ?_
        refine jw_aload_n (pc := 734) F 0 d_L_law_734 rfl rfl ?_
        refine jw_iload (pc := 735) F 4 d_L_law_735 rfl ?_
        refine jw_iconst (pc := 737) (v := nI 1) F d_L_law_737 (by decide) ?_
        refine jw_iadd (pc := 738) F d_L_law_738 ?_
        rw [nI_add]
        refine jw_sld (pc := 739) F hX hbl hbA (i + 1) rfl (by omega) (by omega) d_L_law_739 ?_
        rw [hr2]
        refine jw_aload_n (pc := 740) F 0 d_L_law_740 rfl rfl ?_
        refine jw_iload (pc := 741) F 4 d_L_law_741 rfl ?_
        refine jw_iconst (pc := 743) (v := nI 2) F d_L_law_743 (by decide) ?_
        refine jw_iadd (pc := 744) F d_L_law_744 ?_
        rw [nI_add]
        refine jw_sld (pc := 745) F hX hbl hbA (i + 2) rfl (by omega) (by omega) d_L_law_745 ?_
        rw [hk2]
        refine jw_callV_Gi (pc := 746) (As := [.int (nI r), .int (nI 3)]) (rest := []) F ([]) (wX ad cB cI cL f0 f1 f2 f3 f4 f5 f6 f7 v md ln ++ wO ao cL o9) (m_count_v3 l D am cB cI cL go gc gb gd gh gr gt gk gn er op sz a hQm r hr) (jw_cwV F.1.2.2.2.2 wl_good w_471 w_472 w_473 w_30 w_474 hd_M_count ⟨by decide, by decide⟩) 0 1 rfl rfl rfl (List.append_assoc _ _ _) rfl rfl (Nat.le_of_ble_eq_true rfl) d_L_law_746 ⟨rfl, rfl⟩ ⟨by show nc + 0 ≤ 1051; omega, by show ns + 0 ≤ 11457; omega⟩ (fun r w hw => ?_)
        obtain ⟨rfl, rfl⟩ := hw
        refine jw_at (lv' := [(0, .ref b), (1, .ref (ad 0)), (2, .ref (am 0)), (3, .ref ao), (4, .int (nI i)), (5, .int 0)]) (st' := [.int (nI (a_gr a r))]) (ws' := wM am cB cI cL go gc gb gd gh gr gt gk gn 0 op sz ++ wX ad cB cI cL f0 f1 f2 f3 f4 f5 f6 f7 v md ln ++ wO ao cL o9) rfl rfl (by rw [List.nil_append, List.append_assoc]) ?_
        refine jw_istore (pc := 749) (lv' := [(0, .ref b), (1, .ref (ad 0)), (2, .ref (am 0)), (3, .ref ao), (4, .int (nI i)), (5, .int 0), (6, .int (nI (a_gr a r)))]) F d_L_law_749 (by decide) rfl ?_
        refine jw_aload_n (pc := 751) F 2 d_L_law_751 rfl rfl ?_
        refine jw_callV_Ei (pc := 752) (As := []) (rest := []) F ([]) (wX ad cB cI cL f0 f1 f2 f3 f4 f5 f6 f7 v md ln ++ wO ao cL o9) (m_thrown l D am cB cI cL go gc gb gd gh gr gt gk gn 0 op sz) (jw_cwV F.1.2.2.2.2 wl_good w_379 w_380 w_381 w_30 w_382 hd_M_thrown ⟨by decide, by decide⟩) 0 1 rfl rfl rfl (List.append_assoc _ _ _) rfl rfl (Nat.le_of_ble_eq_true rfl) d_L_law_752 ⟨rfl, rfl⟩ ⟨by show nc + 0 ≤ 1051; omega, by show ns + 0 ≤ 11457; omega⟩ ?_
        refine jw_iload (pc := 755) F 5 d_L_law_755 rfl ?_
        refine jw_icmp_eq (pc := 757) F 762 d_L_law_757 (by decide) (fun hz14 => ?_) (fun hz14 => False.elim (hz14 rfl))
        refine jw_iload (pc := 762) F 5 d_L_law_762 rfl ?_
        refine jw_if_ne (pc := 764) F 779 d_L_law_764 (by decide) (fun hz15 => False.elim (hz15 rfl)) (fun hz15 => ?_)
        refine jw_aload_n (pc := 767) F 3 d_L_law_767 rfl rfl ?_
        refine jw_iconst (pc := 768) (v := nI 0) F d_L_law_768 (by decide) ?_
        refine jw_laldN (pc := 769) F 20 2 rfl rfl 0 rfl (by omega) (by decide) d_L_law_769 ?_
        refine jw_iload (pc := 770) F 6 d_L_law_770 rfl ?_
        refine jw_i2l (pc := 772) F d_L_law_772 ?_
        refine jw_lcmp (pc := 773) F d_L_law_773 ?_
        refine jw_if_eq (pc := 774) F 779 d_L_law_774 (by decide) (fun hz16 => ?_) (fun hz16 => False.elim (hz16 ((lg_cmp_eq _ _).mpr (ho9))))
        refine jw_goto (pc := 779) F 857 d_L_law_779 (by decide) ?_
        refine jw_loc (lv' := [(0, .ref b), (1, .ref (ad 0)), (2, .ref (am 0)), (3, .ref ao), (4, .int (nI i))]) [0, 1, 2, 3, 4] rfl ?_
        refine jw_widen (k := nc + 1) (n := ns + 6) (by show nc + 0 ≤ nc + 1; omega) (by show ns + 0 ≤ ns + 6; omega) ?_
        exact kk a L f0 f1 f2 f3 f4 f5 f6 f7 v md ln go gc gb gd gh gr gt gk gn 0 op sz o9 hQ hQm
set_option maxHeartbeats 4000000 in
set_option maxRecDepth 100000 in
theorem lawc_same {p : Program} {e : Env} {s : State} {m : MethodId} {below : List Frame} {meth : Method} {c : Code} (l : Launch) (D : va_G) (ad am : Nat → Nat) (ao : Nat) (cB cI cL : ClassId) {b LL : Nat} {xs : Nat → Int32} {Q : State → Prop} {A : Nat → Prop} (hl : l.stackTraces = false) (F : jw_F p s m #[Value.ref b] meth c D vCl (vTy cB cI cL) A 8 b_L_law RL (Cond.initialized RL :: WL) ret) (hZ : jz_Y A s) (hX : va_X b LL xs s s.heap) (hbl : b < s.heap.size) (hbA : ¬ A b) (hLL : LL ≤ 2560) (i nc ns : Nat) (hi : i + 5 ≤ LL) (hnc : nc + 1 ≤ 1051) (hns : ns + 6 ≤ 11457) (a : AS) (L : List Nat) (f0 f1 f2 f3 f4 f5 f6 f7 : Nat → Int32) (v : Nat → Int64) (md ln : Int32) (go gc gb gd gh gr gt gk : Nat → Int32) (gn : Nat → Int64) (er op sz : Int32) (o : Nat → Int64) (hQ : cx_R a L f0 f1 f2 f3 f4 f5 f6 f7 v md ln) (hQm : mx_R a go gc gb gd gh gn op) (kk : ∀ (a : AS) (L : List Nat) (f0 f1 f2 f3 f4 f5 f6 f7 : Nat → Int32) (v : Nat → Int64) (md ln : Int32) (go gc gb gd gh gr gt gk : Nat → Int32) (gn : Nat → Int64) (er op sz : Int32) (o : Nat → Int64), cx_R a L f0 f1 f2 f3 f4 f5 f6 f7 v md ln → mx_R a go gc gb gd gh gn op → jw_J p l e room_1 s m #[Value.ref b] below meth c D vCl A 8 Q (nc + 1) (ns + 6) 857 [(0, .ref b), (1, .ref (ad 0)), (2, .ref (am 0)), (3, .ref ao), (4, .int (nI i))] [] (wM am cB cI cL go gc gb gd gh gr gt gk gn er op sz ++ wX ad cB cI cL f0 f1 f2 f3 f4 f5 f6 f7 v md ln ++ wO ao cL o)) : jw_J p l e room_1 s m #[Value.ref b] below meth c D vCl A 8 Q (nc) (ns) 782 [(0, .ref b), (1, .ref (ad 0)), (2, .ref (am 0)), (3, .ref ao), (4, .int (nI i))] [] (wM am cB cI cL go gc gb gd gh gr gt gk gn er op sz ++ wX ad cB cI cL f0 f1 f2 f3 f4 f5 f6 f7 v md ln ++ wO ao cL o) := by
  have hn := hQ.1.1
  cases hr1 : a_isrep (xs (i + 1))
  · refine jw_aload_n (pc := 782) F 1 d_L_law_782 rfl rfl ?_
    refine jw_aload_n (pc := 783) F 0 d_L_law_783 rfl rfl ?_
    refine jw_iload (pc := 784) F 4 d_L_law_784 rfl ?_
    refine jw_iconst (pc := 786) (v := nI 1) F d_L_law_786 (by decide) ?_
    refine jw_iadd (pc := 787) F d_L_law_787 ?_
    rw [nI_add]
    refine jw_sld (pc := 788) F hX hbl hbA (i + 1) rfl (by omega) (by omega) d_L_law_788 ?_
    refine jw_aload_n (pc := 789) F 0 d_L_law_789 rfl rfl ?_
    refine jw_iload (pc := 790) F 4 d_L_law_790 rfl ?_
    refine jw_iconst (pc := 792) (v := nI 2) F d_L_law_792 (by decide) ?_
    refine jw_iadd (pc := 793) F d_L_law_793 ?_
    rw [nI_add]
    refine jw_sld (pc := 794) F hX hbl hbA (i + 2) rfl (by omega) (by omega) d_L_law_794 ?_
    refine jw_aload_n (pc := 795) F 3 d_L_law_795 rfl rfl ?_
    refine jw_callSW_N (pc := 796) (As := [.ref (ad 0), .int (xs (i + 1)), .int (xs (i + 2)), .ref ao]) (rest := []) F jz_okY hZ (wM am cB cI cL go gc gb gd gh gr gt gk gn er op sz) ([]) (w_same_1 l D ad cB cI cL f0 f1 f2 f3 f4 f5 f6 f7 v md ln ao o a L hQ (xs (i + 1)) hr1 (xs (i + 2)) hl) (jw_cwSW F.1.2.2.2.2 wl_good w_329 w_330 w_28 w_331 hd_L_same.2 ⟨by decide, by decide⟩) (by rw [List.append_nil, List.append_assoc]) rfl rfl (Nat.le_of_ble_eq_true rfl) d_L_law_796 ⟨by show nc + 1 ≤ 1051; omega, by show ns + 6 ≤ 11457; omega⟩ (fun r w hw => ?_)
    obtain ⟨rfl, rfl⟩ := hw
    refine jw_at (lv' := [(0, .ref b), (1, .ref (ad 0)), (2, .ref (am 0)), (3, .ref ao), (4, .int (nI i))]) (st' := [.int 1]) (ws' := wM am cB cI cL go gc gb gd gh gr gt gk gn er op sz ++ wX ad cB cI cL f0 f1 f2 f3 f4 f5 f6 f7 v md ln ++ wO ao cL o) rfl rfl (by rw [List.append_nil, List.append_assoc]) ?_
    refine jw_istore (pc := 799) (lv' := [(0, .ref b), (1, .ref (ad 0)), (2, .ref (am 0)), (3, .ref ao), (4, .int (nI i)), (5, .int 1)]) F d_L_law_799 (by decide) rfl ?_
    refine jw_aload_n (pc := 801) F 2 d_L_law_801 rfl rfl ?_
    refine jw_aload_n (pc := 802) F 0 d_L_law_802 rfl rfl ?_
    refine jw_iload (pc := 803) F 4 d_L_law_803 rfl ?_
    refine jw_iconst (pc := 805) (v := nI 1) F d_L_law_805 (by decide) ?_
    refine jw_iadd (pc := 806) F d_L_law_806 ?_
    rw [nI_add]
    refine jw_sld (pc := 807) F hX hbl hbA (i + 1) rfl (by omega) (by omega) d_L_law_807 ?_
    refine jw_aload_n (pc := 808) F 0 d_L_law_808 rfl rfl ?_
    refine jw_iload (pc := 809) F 4 d_L_law_809 rfl ?_
    refine jw_iconst (pc := 811) (v := nI 2) F d_L_law_811 (by decide) ?_
    refine jw_iadd (pc := 812) F d_L_law_812 ?_
    rw [nI_add]
    refine jw_sld (pc := 813) F hX hbl hbA (i + 2) rfl (by omega) (by omega) d_L_law_813 ?_
    refine jw_callV_Gi (pc := 814) (As := [.int (xs (i + 1)), .int (xs (i + 2))]) (rest := []) F ([]) (wX ad cB cI cL f0 f1 f2 f3 f4 f5 f6 f7 v md ln ++ wO ao cL o) (m_same_1 l D am cB cI cL go gc gb gd gh gr gt gk gn er op sz a hQm (xs (i + 1)) hr1 (xs (i + 2))) (jw_cwV F.1.2.2.2.2 wl_good w_475 w_476 w_477 w_30 w_478 hd_M_same ⟨by decide, by decide⟩) 0 1 rfl rfl rfl (List.append_assoc _ _ _) rfl rfl (Nat.le_of_ble_eq_true rfl) d_L_law_814 ⟨rfl, rfl⟩ ⟨by show nc + 1 ≤ 1051; omega, by show ns + 6 ≤ 11457; omega⟩ (fun r w hw => ?_)
    obtain ⟨rfl, rfl⟩ := hw
    refine jw_at (lv' := [(0, .ref b), (1, .ref (ad 0)), (2, .ref (am 0)), (3, .ref ao), (4, .int (nI i)), (5, .int 1)]) (st' := [.int 0]) (ws' := wM am cB cI cL go gc gb gd gh gr gt gk gn 1 op sz ++ wX ad cB cI cL f0 f1 f2 f3 f4 f5 f6 f7 v md ln ++ wO ao cL o) rfl rfl (by rw [List.nil_append, List.append_assoc]) ?_
    refine jw_istore (pc := 817) (lv' := [(0, .ref b), (1, .ref (ad 0)), (2, .ref (am 0)), (3, .ref ao), (4, .int (nI i)), (5, .int 1), (6, .int 0)]) F d_L_law_817 (by decide) rfl ?_
    refine jw_aload_n (pc := 819) F 2 d_L_law_819 rfl rfl ?_
    refine jw_callV_Ei (pc := 820) (As := []) (rest := []) F ([]) (wX ad cB cI cL f0 f1 f2 f3 f4 f5 f6 f7 v md ln ++ wO ao cL o) (m_thrown l D am cB cI cL go gc gb gd gh gr gt gk gn 1 op sz) (jw_cwV F.1.2.2.2.2 wl_good w_379 w_380 w_381 w_30 w_382 hd_M_thrown ⟨by decide, by decide⟩) 0 1 rfl rfl rfl (List.append_assoc _ _ _) rfl rfl (Nat.le_of_ble_eq_true rfl) d_L_law_820 ⟨rfl, rfl⟩ ⟨by show nc + 1 ≤ 1051; omega, by show ns + 6 ≤ 11457; omega⟩ ?_
    refine jw_iload (pc := 823) F 5 d_L_law_823 rfl ?_
    refine jw_icmp_eq (pc := 825) F 830 d_L_law_825 (by decide) (fun hz1 => ?_) (fun hz1 => False.elim (hz1 rfl))
    refine jw_iload (pc := 830) F 5 d_L_law_830 rfl ?_
    refine jw_if_ne (pc := 832) F 854 d_L_law_832 (by decide) (fun hz2 => ?_) (fun hz2 => False.elim (absurd hz2 (by decide)))
    refine jw_goto (pc := 854) F 857 d_L_law_854 (by decide) ?_
    refine jw_loc (lv' := [(0, .ref b), (1, .ref (ad 0)), (2, .ref (am 0)), (3, .ref ao), (4, .int (nI i))]) [0, 1, 2, 3, 4] rfl ?_
    refine jw_widen (k := nc + 1) (n := ns + 6) (by show nc + 1 ≤ nc + 1; omega) (by show ns + 6 ≤ ns + 6; omega) ?_
    exact kk a L f0 f1 f2 f3 f4 f5 f6 f7 v md ln go gc gb gd gh gr gt gk gn 1 op sz o hQ hQm
  · obtain ⟨r, hr, hr2⟩ := a_isrep_t hr1
    cases hs1 : a_isrep (xs (i + 2))
    · refine jw_aload_n (pc := 782) F 1 d_L_law_782 rfl rfl ?_
      refine jw_aload_n (pc := 783) F 0 d_L_law_783 rfl rfl ?_
      refine jw_iload (pc := 784) F 4 d_L_law_784 rfl ?_
      refine jw_iconst (pc := 786) (v := nI 1) F d_L_law_786 (by decide) ?_
      refine jw_iadd (pc := 787) F d_L_law_787 ?_
      rw [nI_add]
      refine jw_sld (pc := 788) F hX hbl hbA (i + 1) rfl (by omega) (by omega) d_L_law_788 ?_
      rw [hr2]
      refine jw_aload_n (pc := 789) F 0 d_L_law_789 rfl rfl ?_
      refine jw_iload (pc := 790) F 4 d_L_law_790 rfl ?_
      refine jw_iconst (pc := 792) (v := nI 2) F d_L_law_792 (by decide) ?_
      refine jw_iadd (pc := 793) F d_L_law_793 ?_
      rw [nI_add]
      refine jw_sld (pc := 794) F hX hbl hbA (i + 2) rfl (by omega) (by omega) d_L_law_794 ?_
      refine jw_aload_n (pc := 795) F 3 d_L_law_795 rfl rfl ?_
      refine jw_callSW_N (pc := 796) (As := [.ref (ad 0), .int (nI r), .int (xs (i + 2)), .ref ao]) (rest := []) F jz_okY hZ (wM am cB cI cL go gc gb gd gh gr gt gk gn er op sz) ([]) (w_same_2 l D ad cB cI cL f0 f1 f2 f3 f4 f5 f6 f7 v md ln ao o a L hQ r hr (xs (i + 2)) hs1 hl) (jw_cwSW F.1.2.2.2.2 wl_good w_329 w_330 w_28 w_331 hd_L_same.2 ⟨by decide, by decide⟩) (by rw [List.append_nil, List.append_assoc]) rfl rfl (Nat.le_of_ble_eq_true rfl) d_L_law_796 ⟨by show nc + 1 ≤ 1051; omega, by show ns + 6 ≤ 11457; omega⟩ (fun r w hw => ?_)
      obtain ⟨rfl, rfl⟩ := hw
      refine jw_at (lv' := [(0, .ref b), (1, .ref (ad 0)), (2, .ref (am 0)), (3, .ref ao), (4, .int (nI i))]) (st' := [.int 1]) (ws' := wM am cB cI cL go gc gb gd gh gr gt gk gn er op sz ++ wX ad cB cI cL f0 f1 f2 f3 f4 f5 f6 f7 v md ln ++ wO ao cL o) rfl rfl (by rw [List.append_nil, List.append_assoc]) ?_
      refine jw_istore (pc := 799) (lv' := [(0, .ref b), (1, .ref (ad 0)), (2, .ref (am 0)), (3, .ref ao), (4, .int (nI i)), (5, .int 1)]) F d_L_law_799 (by decide) rfl ?_
      refine jw_aload_n (pc := 801) F 2 d_L_law_801 rfl rfl ?_
      refine jw_aload_n (pc := 802) F 0 d_L_law_802 rfl rfl ?_
      refine jw_iload (pc := 803) F 4 d_L_law_803 rfl ?_
      refine jw_iconst (pc := 805) (v := nI 1) F d_L_law_805 (by decide) ?_
      refine jw_iadd (pc := 806) F d_L_law_806 ?_
      rw [nI_add]
      refine jw_sld (pc := 807) F hX hbl hbA (i + 1) rfl (by omega) (by omega) d_L_law_807 ?_
      rw [hr2]
      refine jw_aload_n (pc := 808) F 0 d_L_law_808 rfl rfl ?_
      refine jw_iload (pc := 809) F 4 d_L_law_809 rfl ?_
      refine jw_iconst (pc := 811) (v := nI 2) F d_L_law_811 (by decide) ?_
      refine jw_iadd (pc := 812) F d_L_law_812 ?_
      rw [nI_add]
      refine jw_sld (pc := 813) F hX hbl hbA (i + 2) rfl (by omega) (by omega) d_L_law_813 ?_
      refine jw_callV_Gi (pc := 814) (As := [.int (nI r), .int (xs (i + 2))]) (rest := []) F ([]) (wX ad cB cI cL f0 f1 f2 f3 f4 f5 f6 f7 v md ln ++ wO ao cL o) (m_same_2 l D am cB cI cL go gc gb gd gh gr gt gk gn er op sz a hQm r hr (xs (i + 2)) hs1) (jw_cwV F.1.2.2.2.2 wl_good w_475 w_476 w_477 w_30 w_478 hd_M_same ⟨by decide, by decide⟩) 0 1 rfl rfl rfl (List.append_assoc _ _ _) rfl rfl (Nat.le_of_ble_eq_true rfl) d_L_law_814 ⟨rfl, rfl⟩ ⟨by show nc + 1 ≤ 1051; omega, by show ns + 6 ≤ 11457; omega⟩ (fun r w hw => ?_)
      obtain ⟨rfl, rfl⟩ := hw
      refine jw_at (lv' := [(0, .ref b), (1, .ref (ad 0)), (2, .ref (am 0)), (3, .ref ao), (4, .int (nI i)), (5, .int 1)]) (st' := [.int 0]) (ws' := wM am cB cI cL go gc gb gd gh gr gt gk gn 1 op sz ++ wX ad cB cI cL f0 f1 f2 f3 f4 f5 f6 f7 v md ln ++ wO ao cL o) rfl rfl (by rw [List.nil_append, List.append_assoc]) ?_
      refine jw_istore (pc := 817) (lv' := [(0, .ref b), (1, .ref (ad 0)), (2, .ref (am 0)), (3, .ref ao), (4, .int (nI i)), (5, .int 1), (6, .int 0)]) F d_L_law_817 (by decide) rfl ?_
      refine jw_aload_n (pc := 819) F 2 d_L_law_819 rfl rfl ?_
      refine jw_callV_Ei (pc := 820) (As := []) (rest := []) F ([]) (wX ad cB cI cL f0 f1 f2 f3 f4 f5 f6 f7 v md ln ++ wO ao cL o) (m_thrown l D am cB cI cL go gc gb gd gh gr gt gk gn 1 op sz) (jw_cwV F.1.2.2.2.2 wl_good w_379 w_380 w_381 w_30 w_382 hd_M_thrown ⟨by decide, by decide⟩) 0 1 rfl rfl rfl (List.append_assoc _ _ _) rfl rfl (Nat.le_of_ble_eq_true rfl) d_L_law_820 ⟨rfl, rfl⟩ ⟨by show nc + 1 ≤ 1051; omega, by show ns + 6 ≤ 11457; omega⟩ ?_
      refine jw_iload (pc := 823) F 5 d_L_law_823 rfl ?_
      refine jw_icmp_eq (pc := 825) F 830 d_L_law_825 (by decide) (fun hz3 => ?_) (fun hz3 => False.elim (hz3 rfl))
      refine jw_iload (pc := 830) F 5 d_L_law_830 rfl ?_
      refine jw_if_ne (pc := 832) F 854 d_L_law_832 (by decide) (fun hz4 => ?_) (fun hz4 => False.elim (absurd hz4 (by decide)))
      refine jw_goto (pc := 854) F 857 d_L_law_854 (by decide) ?_
      refine jw_loc (lv' := [(0, .ref b), (1, .ref (ad 0)), (2, .ref (am 0)), (3, .ref ao), (4, .int (nI i))]) [0, 1, 2, 3, 4] rfl ?_
      refine jw_widen (k := nc + 1) (n := ns + 6) (by show nc + 1 ≤ nc + 1; omega) (by show ns + 6 ≤ ns + 6; omega) ?_
      exact kk a L f0 f1 f2 f3 f4 f5 f6 f7 v md ln go gc gb gd gh gr gt gk gn 1 op sz o hQ hQm
    · obtain ⟨s9, hs9, hs92⟩ := a_isrep_t hs1
      refine jw_aload_n (pc := 782) F 1 d_L_law_782 rfl rfl ?_
      refine jw_aload_n (pc := 783) F 0 d_L_law_783 rfl rfl ?_
      refine jw_iload (pc := 784) F 4 d_L_law_784 rfl ?_
      refine jw_iconst (pc := 786) (v := nI 1) F d_L_law_786 (by decide) ?_
      refine jw_iadd (pc := 787) F d_L_law_787 ?_
      rw [nI_add]
      refine jw_sld (pc := 788) F hX hbl hbA (i + 1) rfl (by omega) (by omega) d_L_law_788 ?_
      rw [hr2]
      refine jw_aload_n (pc := 789) F 0 d_L_law_789 rfl rfl ?_
      refine jw_iload (pc := 790) F 4 d_L_law_790 rfl ?_
      refine jw_iconst (pc := 792) (v := nI 2) F d_L_law_792 (by decide) ?_
      refine jw_iadd (pc := 793) F d_L_law_793 ?_
      rw [nI_add]
      refine jw_sld (pc := 794) F hX hbl hbA (i + 2) rfl (by omega) (by omega) d_L_law_794 ?_
      rw [hs92]
      refine jw_aload_n (pc := 795) F 3 d_L_law_795 rfl rfl ?_
      refine jw_callSW_M (pc := 796) (As := [.ref (ad 0), .int (nI r), .int (nI s9), .ref ao]) (rest := []) F (wM am cB cI cL go gc gb gd gh gr gt gk gn er op sz) ([]) (w_same_0 l D ad cB cI cL f0 f1 f2 f3 f4 f5 f6 f7 v md ln ao o a L hQ r s9 hr hs9) (jw_cwSW F.1.2.2.2.2 wl_good w_329 w_330 w_28 w_331 hd_L_same.2 ⟨by decide, by decide⟩) (by rw [List.append_nil, List.append_assoc]) rfl rfl (Nat.le_of_ble_eq_true rfl) d_L_law_796 ⟨by show nc + 0 ≤ 1051; omega, by show ns + 0 ≤ 11457; omega⟩ (fun r w hw => ?_)
      obtain ⟨rfl, o9, rfl, ho9⟩ := hw
      refine jw_at (lv' := [(0, .ref b), (1, .ref (ad 0)), (2, .ref (am 0)), (3, .ref ao), (4, .int (nI i))]) (st' := [.int 0]) (ws' := wM am cB cI cL go gc gb gd gh gr gt gk gn er op sz ++ wX ad cB cI cL f0 f1 f2 f3 f4 f5 f6 f7 v md ln ++ wO ao cL o9) rfl rfl (by rw [List.append_nil, List.append_assoc]) ?_
      refine jw_istore (pc := 799) (lv' := [(0, .ref b), (1, .ref (ad 0)), (2, .ref (am 0)), (3, .ref ao), (4, .int (nI i)), (5, .int 0)]) F d_L_law_799 (by decide) rfl ?_
      refine jw_aload_n (pc := 801) F 2 d_L_law_801 rfl rfl ?_
      refine jw_aload_n (pc := 802) F 0 d_L_law_802 rfl rfl ?_
      refine jw_iload (pc := 803) F 4 d_L_law_803 rfl ?_
      refine jw_iconst (pc := 805) (v := nI 1) F d_L_law_805 (by decide) ?_
      refine jw_iadd (pc := 806) F d_L_law_806 ?_
      rw [nI_add]
      refine jw_sld (pc := 807) F hX hbl hbA (i + 1) rfl (by omega) (by omega) d_L_law_807 ?_
      rw [hr2]
      refine jw_aload_n (pc := 808) F 0 d_L_law_808 rfl rfl ?_
      refine jw_iload (pc := 809) F 4 d_L_law_809 rfl ?_
      refine jw_iconst (pc := 811) (v := nI 2) F d_L_law_811 (by decide) ?_
      refine jw_iadd (pc := 812) F d_L_law_812 ?_
      rw [nI_add]
      refine jw_sld (pc := 813) F hX hbl hbA (i + 2) rfl (by omega) (by omega) d_L_law_813 ?_
      rw [hs92]
      refine jw_callV_Gi (pc := 814) (As := [.int (nI r), .int (nI s9)]) (rest := []) F ([]) (wX ad cB cI cL f0 f1 f2 f3 f4 f5 f6 f7 v md ln ++ wO ao cL o9) (m_same_0 l D am cB cI cL go gc gb gd gh gr gt gk gn er op sz a hQm L hQ.2.2.2.2 r s9 hr hs9) (jw_cwV F.1.2.2.2.2 wl_good w_475 w_476 w_477 w_30 w_478 hd_M_same ⟨by decide, by decide⟩) 0 1 rfl rfl rfl (List.append_assoc _ _ _) rfl rfl (Nat.le_of_ble_eq_true rfl) d_L_law_814 ⟨rfl, rfl⟩ ⟨by show nc + 0 ≤ 1051; omega, by show ns + 0 ≤ 11457; omega⟩ (fun r w hw => ?_)
      obtain ⟨rfl, k7, k8, k9, ks, rfl⟩ := hw
      refine jw_at (lv' := [(0, .ref b), (1, .ref (ad 0)), (2, .ref (am 0)), (3, .ref ao), (4, .int (nI i)), (5, .int 0)]) (st' := [.int (jb (decide (L.filter (a_seen a r) = L.filter (a_seen a s9))))]) (ws' := wM am cB cI cL go gc gb gd gh k7 k8 k9 gn 0 op ks ++ wX ad cB cI cL f0 f1 f2 f3 f4 f5 f6 f7 v md ln ++ wO ao cL o9) rfl rfl (by rw [List.nil_append, List.append_assoc]) ?_
      refine jw_istore (pc := 817) (lv' := [(0, .ref b), (1, .ref (ad 0)), (2, .ref (am 0)), (3, .ref ao), (4, .int (nI i)), (5, .int 0), (6, .int (jb (decide (L.filter (a_seen a r) = L.filter (a_seen a s9)))))]) F d_L_law_817 (by decide) rfl ?_
      refine jw_aload_n (pc := 819) F 2 d_L_law_819 rfl rfl ?_
      refine jw_callV_Ei (pc := 820) (As := []) (rest := []) F ([]) (wX ad cB cI cL f0 f1 f2 f3 f4 f5 f6 f7 v md ln ++ wO ao cL o9) (m_thrown l D am cB cI cL go gc gb gd gh k7 k8 k9 gn 0 op ks) (jw_cwV F.1.2.2.2.2 wl_good w_379 w_380 w_381 w_30 w_382 hd_M_thrown ⟨by decide, by decide⟩) 0 1 rfl rfl rfl (List.append_assoc _ _ _) rfl rfl (Nat.le_of_ble_eq_true rfl) d_L_law_820 ⟨rfl, rfl⟩ ⟨by show nc + 0 ≤ 1051; omega, by show ns + 0 ≤ 11457; omega⟩ ?_
      refine jw_iload (pc := 823) F 5 d_L_law_823 rfl ?_
      refine jw_icmp_eq (pc := 825) F 830 d_L_law_825 (by decide) (fun hz5 => ?_) (fun hz5 => False.elim (hz5 rfl))
      refine jw_iload (pc := 830) F 5 d_L_law_830 rfl ?_
      refine jw_if_ne (pc := 832) F 854 d_L_law_832 (by decide) (fun hz6 => False.elim (hz6 rfl)) (fun hz6 => ?_)
      refine jw_aload_n (pc := 835) F 3 d_L_law_835 rfl rfl ?_
      refine jw_iconst (pc := 836) (v := nI 0) F d_L_law_836 (by decide) ?_
      refine jw_laldN (pc := 837) F 20 2 rfl rfl 0 rfl (by omega) (by decide) d_L_law_837 ?_
      refine jw_iload (pc := 838) F 6 d_L_law_838 rfl ?_
      refine jw_if_eq (pc := 840) F 847 d_L_law_840 (by decide) (fun hb9 => ?_) (fun hb9 => ?_)
      · refine jw_lconst (pc := 847) (v := 0) F d_L_law_847 (by decide) ?_
        refine jw_lcmp (pc := 848) F d_L_law_848 ?_
        refine jw_if_eq (pc := 849) F 854 d_L_law_849 (by decide) (fun hz7 => ?_) (fun hz7 => False.elim (hz7 ((lg_cmp_eq _ _).mpr (by rw [ho9, gl_all, jb_0.mp hb9]; rfl))))
        refine jw_goto (pc := 854) F 857 d_L_law_854 (by decide) ?_
        refine jw_loc (lv' := [(0, .ref b), (1, .ref (ad 0)), (2, .ref (am 0)), (3, .ref ao), (4, .int (nI i))]) [0, 1, 2, 3, 4] rfl ?_
        refine jw_widen (k := nc + 1) (n := ns + 6) (by show nc + 0 ≤ nc + 1; omega) (by show ns + 0 ≤ ns + 6; omega) ?_
        exact kk a L f0 f1 f2 f3 f4 f5 f6 f7 v md ln go gc gb gd gh k7 k8 k9 gn 0 op ks o9 hQ hQm
      · refine jw_lconst (pc := 843) (v := 1) F d_L_law_843 (by decide) ?_
        refine jw_goto (pc := 844) F 848 d_L_law_844 (by decide) ?_
        refine jw_lcmp (pc := 848) F d_L_law_848 ?_
        refine jw_if_eq (pc := 849) F 854 d_L_law_849 (by decide) (fun hz8 => ?_) (fun hz8 => False.elim (hz8 ((lg_cmp_eq _ _).mpr (by rw [ho9, gl_all, jb_n.mp hb9]; rfl))))
        refine jw_goto (pc := 854) F 857 d_L_law_854 (by decide) ?_
        refine jw_loc (lv' := [(0, .ref b), (1, .ref (ad 0)), (2, .ref (am 0)), (3, .ref ao), (4, .int (nI i))]) [0, 1, 2, 3, 4] rfl ?_
        refine jw_widen (k := nc + 1) (n := ns + 6) (by show nc + 0 ≤ nc + 1; omega) (by show ns + 0 ≤ ns + 6; omega) ?_
        exact kk a L f0 f1 f2 f3 f4 f5 f6 f7 v md ln go gc gb gd gh k7 k8 k9 gn 0 op ks o9 hQ hQm
