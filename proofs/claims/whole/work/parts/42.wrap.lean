def jl (b : Bool) : Int64 := if b = true then 1 else 0
theorem w_89 : Cond.methodLink RL 7 y_X_insert ∈ WL := jwl 89 rfl rfl
theorem w_90 : Cond.instanceMethod y_X_insert ∈ WL := jwl 90 rfl rfl
theorem w_91 : Cond.selects RX y_X_insert y_X_insert ∈ WL := jwl 91 rfl rfl
theorem w_92 : Cond.code y_X_insert b_X_insert 6 (some .int) ∈ WL := jwl 92 rfl rfl
theorem w_246 : Cond.methodLink RL 19 y_X_delete ∈ WL := jwl 246 rfl rfl
theorem w_247 : Cond.instanceMethod y_X_delete ∈ WL := jwl 247 rfl rfl
theorem w_248 : Cond.selects RX y_X_delete y_X_delete ∈ WL := jwl 248 rfl rfl
theorem w_249 : Cond.code y_X_delete b_X_delete 3 (some .int) ∈ WL := jwl 249 rfl rfl
theorem w_253 : Cond.methodLink RL 23 y_X_give ∈ WL := jwl 253 rfl rfl
theorem w_254 : Cond.instanceMethod y_X_give ∈ WL := jwl 254 rfl rfl
theorem w_255 : Cond.selects RX y_X_give y_X_give ∈ WL := jwl 255 rfl rfl
theorem w_256 : Cond.code y_X_give b_X_give 3 none ∈ WL := jwl 256 rfl rfl
theorem w_265 : Cond.methodLink RL 27 y_X_tell ∈ WL := jwl 265 rfl rfl
theorem w_266 : Cond.instanceMethod y_X_tell ∈ WL := jwl 266 rfl rfl
theorem w_267 : Cond.selects RX y_X_tell y_X_tell ∈ WL := jwl 267 rfl rfl
theorem w_268 : Cond.code y_X_tell b_X_tell 5 (some .int) ∈ WL := jwl 268 rfl rfl
theorem w_272 : Cond.methodLink RL 30 y_X_holds ∈ WL := jwl 272 rfl rfl
theorem w_273 : Cond.instanceMethod y_X_holds ∈ WL := jwl 273 rfl rfl
theorem w_274 : Cond.selects RX y_X_holds y_X_holds ∈ WL := jwl 274 rfl rfl
theorem w_275 : Cond.code y_X_holds b_X_holds 3 (some .boolean) ∈ WL := jwl 275 rfl rfl
theorem w_332 : Cond.methodLink RL 51 y_X_same ∈ WL := jwl 332 rfl rfl
theorem w_333 : Cond.instanceMethod y_X_same ∈ WL := jwl 333 rfl rfl
theorem w_334 : Cond.selects RX y_X_same y_X_same ∈ WL := jwl 334 rfl rfl
theorem w_335 : Cond.code y_X_same b_X_same 4 (some .boolean) ∈ WL := jwl 335 rfl rfl
theorem w_279 : Cond.methodLink RL 34 y_X_at ∈ WL := jwl 279 rfl rfl
theorem w_280 : Cond.instanceMethod y_X_at ∈ WL := jwl 280 rfl rfl
theorem w_281 : Cond.selects RX y_X_at y_X_at ∈ WL := jwl 281 rfl rfl
theorem w_282 : Cond.code y_X_at b_X_at 5 (some .int) ∈ WL := jwl 282 rfl rfl
theorem w_290 : Cond.methodLink RL 37 y_X_place ∈ WL := jwl 290 rfl rfl
theorem w_291 : Cond.instanceMethod y_X_place ∈ WL := jwl 291 rfl rfl
theorem w_292 : Cond.selects RX y_X_place y_X_place ∈ WL := jwl 292 rfl rfl
theorem w_293 : Cond.code y_X_place b_X_place 5 (some .int) ∈ WL := jwl 293 rfl rfl
theorem w_297 : Cond.methodLink RL 40 y_X_value ∈ WL := jwl 297 rfl rfl
theorem w_298 : Cond.instanceMethod y_X_value ∈ WL := jwl 298 rfl rfl
theorem w_299 : Cond.selects RX y_X_value y_X_value ∈ WL := jwl 299 rfl rfl
theorem w_300 : Cond.code y_X_value b_X_value 2 (some .long) ∈ WL := jwl 300 rfl rfl
theorem w_305 : Cond.methodLink RL 44 y_X_stamp ∈ WL := jwl 305 rfl rfl
theorem w_306 : Cond.instanceMethod y_X_stamp ∈ WL := jwl 306 rfl rfl
theorem w_307 : Cond.selects RX y_X_stamp y_X_stamp ∈ WL := jwl 307 rfl rfl
theorem w_308 : Cond.code y_X_stamp b_X_stamp 2 (some .int) ∈ WL := jwl 308 rfl rfl
theorem w_312 : Cond.methodLink RL 48 y_X_count ∈ WL := jwl 312 rfl rfl
theorem w_313 : Cond.instanceMethod y_X_count ∈ WL := jwl 313 rfl rfl
theorem w_314 : Cond.selects RX y_X_count y_X_count ∈ WL := jwl 314 rfl rfl
theorem w_315 : Cond.code y_X_count b_X_count 3 (some .int) ∈ WL := jwl 315 rfl rfl
theorem w_86 : Cond.classLink RL 13 "java/lang/IllegalArgumentException" ∈ WL := jwl 86 rfl rfl
theorem w_87 : Cond.classLink RL 15 "java/lang/IndexOutOfBoundsException" ∈ WL := jwl 87 rfl rfl
theorem w_88 : Cond.classLink RL 17 "java/lang/IllegalStateException" ∈ WL := jwl 88 rfl rfl
abbrev rm_L_insert : Room := { frames := 8, cells := 0, slots := 0, locals := 137 }
abbrev rm_L_delete : Room := { frames := 8, cells := 0, slots := 0, locals := 134 }
abbrev rm_L_give : Room := { frames := 8, cells := 0, slots := 0, locals := 134 }
abbrev rm_L_tell : Room := { frames := 8, cells := 0, slots := 0, locals := 135 }
abbrev rm_L_holds : Room := { frames := 8, cells := 0, slots := 0, locals := 133 }
abbrev rm_L_at : Room := { frames := 8, cells := 0, slots := 0, locals := 135 }
abbrev rm_L_place : Room := { frames := 8, cells := 0, slots := 0, locals := 136 }
abbrev rm_L_value : Room := { frames := 7, cells := 0, slots := 0, locals := 111 }
abbrev rm_L_stamp : Room := { frames := 8, cells := 0, slots := 0, locals := 132 }
abbrev rm_L_count : Room := { frames := 8, cells := 0, slots := 0, locals := 133 }
abbrev rm_L_same : Room := { frames := 8, cells := 0, slots := 0, locals := 134 }
abbrev rm_L_insert_x : Room := { frames := 8, cells := 1, slots := 6, locals := 137 }
abbrev rm_L_delete_x : Room := { frames := 8, cells := 1, slots := 6, locals := 134 }
abbrev rm_L_give_x : Room := { frames := 8, cells := 1, slots := 6, locals := 134 }
abbrev rm_L_tell_x : Room := { frames := 8, cells := 1, slots := 6, locals := 135 }
abbrev rm_L_holds_x : Room := { frames := 8, cells := 1, slots := 6, locals := 133 }
abbrev rm_L_at_x : Room := { frames := 8, cells := 1, slots := 6, locals := 135 }
abbrev rm_L_place_x : Room := { frames := 8, cells := 1, slots := 6, locals := 136 }
abbrev rm_L_value_x : Room := { frames := 7, cells := 1, slots := 6, locals := 111 }
abbrev rm_L_stamp_x : Room := { frames := 8, cells := 1, slots := 6, locals := 132 }
abbrev rm_L_count_x : Room := { frames := 8, cells := 1, slots := 6, locals := 133 }
abbrev rm_L_same_x : Room := { frames := 8, cells := 1, slots := 6, locals := 134 }
set_option maxHeartbeats 4000000 in
set_option maxRecDepth 100000 in
theorem w_insert_0 (l : Launch) (D : va_G) (ad : Nat → Nat) (cB cI cL : ClassId) (f0 f1 f2 f3 f4 f5 f6 f7 : Nat → Int32) (v : Nat → Int64) (md ln : Int32) (ao : Nat) (o : Nat → Int64) (a : AS) (L : List Nat) (hQ : cx_R a L f0 f1 f2 f3 f4 f5 f6 f7 v md ln) (r : Nat) (hr : r < 4) (hn1 : a_n a < 160) (t : Int32) (ht : ab_ok a r t false) (vv : Int64) : jw_Mi l D vCl (vTy cB cI cL) y_L_insert s_L_insert rm_L_insert [.ref (ad 0), .int (nI r), .int t, .long vv, .ref ao] (wX ad cB cI cL f0 f1 f2 f3 f4 f5 f6 f7 v md ln ++ wO ao cL o) (fun r9 w9 => r9 = 0 ∧ ∃ (g0 g1 g2 g3 g4 g5 g6 g7 : Nat → Int32) (gv : Nat → Int64) (gm gl : Int32) (M : List Nat), w9 = wX ad cB cI cL g0 g1 g2 g3 g4 g5 g6 g7 gv gm gl ++ wO ao cL (vp_updL o 0 (nI (a_n a)).toInt64) ∧ cx_R (ab_new a r t false vv) M g0 g1 g2 g3 g4 g5 g6 g7 gv gm gl) := by
  refine jw_ofWM (cc := b_L_insert) (nL := 7) (ret := some .int) (hh := [(0, 12, 15, 13), (0, 12, 19, 15), (0, 12, 23, 17)]) (by decide) rfl (Nat.le_of_ble_eq_true rfl) (fun p e s m args below meth c A F htab => ?_)
  refine jw_at (lv' := [(0, .ref (ad 0)), (1, .int (nI r)), (2, .int t), (3, .long vv), (5, .ref ao)]) (st' := []) (ws' := wX ad cB cI cL f0 f1 f2 f3 f4 f5 f6 f7 v md ln ++ wO ao cL o) rfl rfl rfl ?_
  refine jw_aload (pc := 0) F 4 d_L_insert_0 rfl ?_
  refine jw_iconst (pc := 2) (v := nI 0) F d_L_insert_2 (by decide) ?_
  refine jw_aload_n (pc := 3) F 0 d_L_insert_3 rfl rfl ?_
  refine jw_iload_n (pc := 4) F 1 d_L_insert_4 rfl rfl ?_
  refine jw_iload_n (pc := 5) F 2 d_L_insert_5 rfl rfl ?_
  refine jw_lload_n (pc := 6) F 3 d_L_insert_6 rfl rfl ?_
  refine jw_callV_Gi (pc := 7) (As := [.int (nI r), .int t, .long vv]) (rest := [.int (nI 0), .ref ao]) F ([]) (wO ao cL o) (c_insert l D ad cB cI cL f0 f1 f2 f3 f4 f5 f6 f7 v md ln a L hQ r hr hn1 t ht vv) (jw_cwV F.1.2.2.2.2 wl_good w_89 w_90 w_91 w_29 w_92 hd_X_insert ⟨by decide, by decide⟩) 0 0 rfl rfl rfl rfl rfl rfl (Nat.le_of_ble_eq_true rfl) d_L_insert_7 ⟨rfl, rfl⟩ ⟨by decide, by decide⟩ (fun r w hw => ?_)
  obtain ⟨rfl, g0, g1, g2, g3, g4, g5, g6, g7, gv, gm, gl, M, rfl, hQ2⟩ := hw
  refine jw_at (lv' := [(0, .ref (ad 0)), (1, .int (nI r)), (2, .int t), (3, .long vv), (5, .ref ao)]) (st' := [.int (nI (a_n a)), .int (nI 0), .ref ao]) (ws' := wX ad cB cI cL g0 g1 g2 g3 g4 g5 g6 g7 gv gm gl ++ wO ao cL o) rfl rfl rfl ?_
  refine jw_i2l (pc := 10) F d_L_insert_10 ?_
  refine jw_lastN (pc := 11) (ws' := wX ad cB cI cL g0 g1 g2 g3 g4 g5 g6 g7 gv gm gl ++ wO ao cL (vp_updL o 0 ((nI (a_n a)).toInt64))) F 10 2 rfl rfl 0 rfl (by omega) (by decide) d_L_insert_11 rfl ?_
  refine jw_goto (pc := 12) F 27 d_L_insert_12 (by decide) ?_
  refine jw_iconst (pc := 27) (v := 0) F d_L_insert_27 (by decide) ?_
  exact jw_iret F d_L_insert_28 ⟨rfl, _, _, _, _, _, _, _, _, _, _, _, M, rfl, hQ2⟩
set_option maxHeartbeats 4000000 in
set_option maxRecDepth 100000 in
theorem w_delete_0 (l : Launch) (D : va_G) (ad : Nat → Nat) (cB cI cL : ClassId) (f0 f1 f2 f3 f4 f5 f6 f7 : Nat → Int32) (v : Nat → Int64) (md ln : Int32) (ao : Nat) (o : Nat → Int64) (a : AS) (L : List Nat) (hQ : cx_R a L f0 f1 f2 f3 f4 f5 f6 f7 v md ln) (r : Nat) (hr : r < 4) (hn1 : a_n a < 160) (t : Int32) (ht : a_haseB a r t = true) : jw_Mi l D vCl (vTy cB cI cL) y_L_delete s_L_delete rm_L_delete [.ref (ad 0), .int (nI r), .int t, .ref ao] (wX ad cB cI cL f0 f1 f2 f3 f4 f5 f6 f7 v md ln ++ wO ao cL o) (fun r9 w9 => r9 = 0 ∧ ∃ (g0 g1 g2 g3 g4 g5 g6 g7 : Nat → Int32) (gv : Nat → Int64) (gm gl : Int32), w9 = wX ad cB cI cL g0 g1 g2 g3 g4 g5 g6 g7 gv gm gl ++ wO ao cL (vp_updL o 0 (nI (a_n a)).toInt64) ∧ cx_R (ab_new a r t true 0) L g0 g1 g2 g3 g4 g5 g6 g7 gv gm gl) := by
  refine jw_ofWM (cc := b_L_delete) (nL := 5) (ret := some .int) (hh := [(0, 10, 13, 13), (0, 10, 17, 15), (0, 10, 21, 17)]) (by decide) rfl (Nat.le_of_ble_eq_true rfl) (fun p e s m args below meth c A F htab => ?_)
  refine jw_at (lv' := [(0, .ref (ad 0)), (1, .int (nI r)), (2, .int t), (3, .ref ao)]) (st' := []) (ws' := wX ad cB cI cL f0 f1 f2 f3 f4 f5 f6 f7 v md ln ++ wO ao cL o) rfl rfl rfl ?_
  refine jw_aload_n (pc := 0) F 3 d_L_delete_0 rfl rfl ?_
  refine jw_iconst (pc := 1) (v := nI 0) F d_L_delete_1 (by decide) ?_
  refine jw_aload_n (pc := 2) F 0 d_L_delete_2 rfl rfl ?_
  refine jw_iload_n (pc := 3) F 1 d_L_delete_3 rfl rfl ?_
  refine jw_iload_n (pc := 4) F 2 d_L_delete_4 rfl rfl ?_
  refine jw_callV_Gi (pc := 5) (As := [.int (nI r), .int t]) (rest := [.int (nI 0), .ref ao]) F ([]) (wO ao cL o) (c_delete l D ad cB cI cL f0 f1 f2 f3 f4 f5 f6 f7 v md ln a L hQ r hr hn1 t ht) (jw_cwV F.1.2.2.2.2 wl_good w_246 w_247 w_248 w_29 w_249 hd_X_delete ⟨by decide, by decide⟩) 0 0 rfl rfl rfl rfl rfl rfl (Nat.le_of_ble_eq_true rfl) d_L_delete_5 ⟨rfl, rfl⟩ ⟨by decide, by decide⟩ (fun r w hw => ?_)
  obtain ⟨rfl, g0, g1, g2, g3, g4, g5, g6, g7, gv, gm, gl, rfl, hQ2⟩ := hw
  refine jw_at (lv' := [(0, .ref (ad 0)), (1, .int (nI r)), (2, .int t), (3, .ref ao)]) (st' := [.int (nI (a_n a)), .int (nI 0), .ref ao]) (ws' := wX ad cB cI cL g0 g1 g2 g3 g4 g5 g6 g7 gv gm gl ++ wO ao cL o) rfl rfl rfl ?_
  refine jw_i2l (pc := 8) F d_L_delete_8 ?_
  refine jw_lastN (pc := 9) (ws' := wX ad cB cI cL g0 g1 g2 g3 g4 g5 g6 g7 gv gm gl ++ wO ao cL (vp_updL o 0 ((nI (a_n a)).toInt64))) F 10 2 rfl rfl 0 rfl (by omega) (by decide) d_L_delete_9 rfl ?_
  refine jw_goto (pc := 10) F 25 d_L_delete_10 (by decide) ?_
  refine jw_iconst (pc := 25) (v := 0) F d_L_delete_25 (by decide) ?_
  exact jw_iret F d_L_delete_26 ⟨rfl, _, _, _, _, _, _, _, _, _, _, _, rfl, hQ2⟩
set_option maxHeartbeats 4000000 in
set_option maxRecDepth 100000 in
theorem w_give_0 (l : Launch) (D : va_G) (ad : Nat → Nat) (cB cI cL : ClassId) (f0 f1 f2 f3 f4 f5 f6 f7 : Nat → Int32) (v : Nat → Int64) (md ln : Int32) (a : AS) (L : List Nat) (hQ : cx_R a L f0 f1 f2 f3 f4 f5 f6 f7 v md ln) (r : Nat) (hr : r < 4) (k : Nat) (hk : k < a_n a) (ht : a_tg a k = -1 ∨ a_haseB a r (a_tg a k) = true) : jw_Mi l D vCl (vTy cB cI cL) y_L_give s_L_give rm_L_give [.ref (ad 0), .int (nI r), .int (nI k)] (wX ad cB cI cL f0 f1 f2 f3 f4 f5 f6 f7 v md ln) (fun r9 w9 => r9 = 0 ∧ ∃ (g0 g1 g2 g3 g4 g5 g6 g7 : Nat → Int32) (gv : Nat → Int64) (gm gl : Int32), w9 = wX ad cB cI cL g0 g1 g2 g3 g4 g5 g6 g7 gv gm gl ∧ cx_R (ab_take a r k) L g0 g1 g2 g3 g4 g5 g6 g7 gv gm gl) := by
  refine jw_ofWM (cc := b_L_give) (nL := 4) (ret := some .int) (hh := [(0, 6, 9, 13), (0, 6, 12, 15), (0, 6, 15, 17)]) (by decide) rfl (Nat.le_of_ble_eq_true rfl) (fun p e s m args below meth c A F htab => ?_)
  refine jw_at (lv' := [(0, .ref (ad 0)), (1, .int (nI r)), (2, .int (nI k))]) (st' := []) (ws' := wX ad cB cI cL f0 f1 f2 f3 f4 f5 f6 f7 v md ln) rfl rfl rfl ?_
  refine jw_aload_n (pc := 0) F 0 d_L_give_0 rfl rfl ?_
  refine jw_iload_n (pc := 1) F 1 d_L_give_1 rfl rfl ?_
  refine jw_iload_n (pc := 2) F 2 d_L_give_2 rfl rfl ?_
  refine jw_callV_Cv (pc := 3) (As := [.int (nI r), .int (nI k)]) (rest := []) F (c_give l D ad cB cI cL f0 f1 f2 f3 f4 f5 f6 f7 v md ln a L hQ r hr k hk ht) (jw_cwV F.1.2.2.2.2 wl_good w_253 w_254 w_255 w_29 w_256 hd_X_give ⟨by decide, by decide⟩) 0 0 rfl rfl rfl rfl rfl rfl (Nat.le_of_ble_eq_true rfl) d_L_give_3 ⟨rfl, rfl⟩ ⟨by decide, by decide⟩ (fun w hw => ?_)
  obtain ⟨g0, g1, g2, g3, g4, g5, g6, g7, gv, gm, gl, rfl, hQ2⟩ := hw
  refine jw_goto (pc := 6) F 18 d_L_give_6 (by decide) ?_
  refine jw_iconst (pc := 18) (v := 0) F d_L_give_18 (by decide) ?_
  exact jw_iret F d_L_give_19 ⟨rfl, _, _, _, _, _, _, _, _, _, _, _, rfl, hQ2⟩
set_option maxHeartbeats 4000000 in
set_option maxRecDepth 100000 in
theorem w_tell_0 (l : Launch) (D : va_G) (ad : Nat → Nat) (cB cI cL : ClassId) (f0 f1 f2 f3 f4 f5 f6 f7 : Nat → Int32) (v : Nat → Int64) (md ln : Int32) (ao : Nat) (o : Nat → Int64) (a : AS) (L : List Nat) (hQ : cx_R a L f0 f1 f2 f3 f4 f5 f6 f7 v md ln) (r s9 : Nat) (hr : r < 4) (hs9 : s9 < 4) : jw_Mi l D vCl (vTy cB cI cL) y_L_tell s_L_tell rm_L_tell [.ref (ad 0), .int (nI r), .int (nI s9), .ref ao] (wX ad cB cI cL f0 f1 f2 f3 f4 f5 f6 f7 v md ln ++ wO ao cL o) (fun r9 w9 => r9 = 0 ∧ ∃ (g0 g1 g2 g3 g4 g5 g6 g7 : Nat → Int32) (gv : Nat → Int64) (gm gl : Int32), w9 = wX ad cB cI cL g0 g1 g2 g3 g4 g5 g6 g7 gv gm gl ++ wO ao cL (vp_updL o 0 (nI (ab_tell a r s9 (a_n a)).2).toInt64) ∧ cx_R ((ab_tell a r s9 (a_n a)).1) L g0 g1 g2 g3 g4 g5 g6 g7 gv gm gl) := by
  refine jw_ofWM (cc := b_L_tell) (nL := 5) (ret := some .int) (hh := [(0, 10, 13, 13)]) (by decide) rfl (Nat.le_of_ble_eq_true rfl) (fun p e s m args below meth c A F htab => ?_)
  refine jw_at (lv' := [(0, .ref (ad 0)), (1, .int (nI r)), (2, .int (nI s9)), (3, .ref ao)]) (st' := []) (ws' := wX ad cB cI cL f0 f1 f2 f3 f4 f5 f6 f7 v md ln ++ wO ao cL o) rfl rfl rfl ?_
  refine jw_aload_n (pc := 0) F 3 d_L_tell_0 rfl rfl ?_
  refine jw_iconst (pc := 1) (v := nI 0) F d_L_tell_1 (by decide) ?_
  refine jw_aload_n (pc := 2) F 0 d_L_tell_2 rfl rfl ?_
  refine jw_iload_n (pc := 3) F 1 d_L_tell_3 rfl rfl ?_
  refine jw_iload_n (pc := 4) F 2 d_L_tell_4 rfl rfl ?_
  refine jw_callV_Gi (pc := 5) (As := [.int (nI r), .int (nI s9)]) (rest := [.int (nI 0), .ref ao]) F ([]) (wO ao cL o) (c_tell l D ad cB cI cL f0 f1 f2 f3 f4 f5 f6 f7 v md ln a L hQ r s9 hr hs9) (jw_cwV F.1.2.2.2.2 wl_good w_265 w_266 w_267 w_29 w_268 hd_X_tell ⟨by decide, by decide⟩) 0 0 rfl rfl rfl rfl rfl rfl (Nat.le_of_ble_eq_true rfl) d_L_tell_5 ⟨rfl, rfl⟩ ⟨by decide, by decide⟩ (fun r w hw => ?_)
  obtain ⟨rfl, g0, g1, g2, g3, g4, g5, g6, g7, gv, gm, gl, rfl, hQ2⟩ := hw
  refine jw_at (lv' := [(0, .ref (ad 0)), (1, .int (nI r)), (2, .int (nI s9)), (3, .ref ao)]) (st' := [.int (nI (ab_tell a r s9 (a_n a)).2), .int (nI 0), .ref ao]) (ws' := wX ad cB cI cL g0 g1 g2 g3 g4 g5 g6 g7 gv gm gl ++ wO ao cL o) rfl rfl rfl ?_
  refine jw_i2l (pc := 8) F d_L_tell_8 ?_
  refine jw_lastN (pc := 9) (ws' := wX ad cB cI cL g0 g1 g2 g3 g4 g5 g6 g7 gv gm gl ++ wO ao cL (vp_updL o 0 ((nI (ab_tell a r s9 (a_n a)).2).toInt64))) F 10 2 rfl rfl 0 rfl (by omega) (by decide) d_L_tell_9 rfl ?_
  refine jw_goto (pc := 10) F 17 d_L_tell_10 (by decide) ?_
  refine jw_iconst (pc := 17) (v := 0) F d_L_tell_17 (by decide) ?_
  exact jw_iret F d_L_tell_18 ⟨rfl, _, _, _, _, _, _, _, _, _, _, _, rfl, hQ2⟩
set_option maxHeartbeats 4000000 in
set_option maxRecDepth 100000 in
theorem w_holds_0 (l : Launch) (D : va_G) (ad : Nat → Nat) (cB cI cL : ClassId) (f0 f1 f2 f3 f4 f5 f6 f7 : Nat → Int32) (v : Nat → Int64) (md ln : Int32) (ao : Nat) (o : Nat → Int64) (a : AS) (L : List Nat) (hQ : cx_R a L f0 f1 f2 f3 f4 f5 f6 f7 v md ln) (r : Nat) (hr : r < 4) (k : Nat) (hk : k < a_n a) : jw_Mi l D vCl (vTy cB cI cL) y_L_holds s_L_holds rm_L_holds [.ref (ad 0), .int (nI r), .int (nI k), .ref ao] (wX ad cB cI cL f0 f1 f2 f3 f4 f5 f6 f7 v md ln ++ wO ao cL o) (fun r9 w9 => r9 = 0 ∧ ∃ o9 : Nat → Int64, w9 = wX ad cB cI cL f0 f1 f2 f3 f4 f5 f6 f7 v md ln ++ wO ao cL o9 ∧ o9 0 = jl (a_hd a r k)) := by
  refine jw_ofWM (cc := b_L_holds) (nL := 5) (ret := some .int) (hh := [(0, 17, 20, 13), (0, 17, 24, 15)]) (by decide) rfl (Nat.le_of_ble_eq_true rfl) (fun p e s m args below meth c A F htab => ?_)
  refine jw_at (lv' := [(0, .ref (ad 0)), (1, .int (nI r)), (2, .int (nI k)), (3, .ref ao)]) (st' := []) (ws' := wX ad cB cI cL f0 f1 f2 f3 f4 f5 f6 f7 v md ln ++ wO ao cL o) rfl rfl rfl ?_
  refine jw_aload_n (pc := 0) F 3 d_L_holds_0 rfl rfl ?_
  refine jw_iconst (pc := 1) (v := nI 0) F d_L_holds_1 (by decide) ?_
  refine jw_aload_n (pc := 2) F 0 d_L_holds_2 rfl rfl ?_
  refine jw_iload_n (pc := 3) F 1 d_L_holds_3 rfl rfl ?_
  refine jw_iload_n (pc := 4) F 2 d_L_holds_4 rfl rfl ?_
  refine jw_callV_Gi (pc := 5) (As := [.int (nI r), .int (nI k)]) (rest := [.int (nI 0), .ref ao]) F ([]) (wO ao cL o) (c_holds l D ad cB cI cL f0 f1 f2 f3 f4 f5 f6 f7 v md ln a L hQ r hr k hk) (jw_cwV F.1.2.2.2.2 wl_good w_272 w_273 w_274 w_29 w_275 hd_X_holds ⟨by decide, by decide⟩) 0 0 rfl rfl rfl rfl rfl rfl (Nat.le_of_ble_eq_true rfl) d_L_holds_5 ⟨rfl, rfl⟩ ⟨by decide, by decide⟩ (fun r w hw => ?_)
  obtain ⟨rfl, rfl⟩ := hw
  refine jw_at (lv' := [(0, .ref (ad 0)), (1, .int (nI r)), (2, .int (nI k)), (3, .ref ao)]) (st' := [.int (jb (a_hd a r k)), .int (nI 0), .ref ao]) (ws' := wX ad cB cI cL f0 f1 f2 f3 f4 f5 f6 f7 v md ln ++ wO ao cL o) rfl rfl rfl ?_
  refine jw_if_eq (pc := 8) F 15 d_L_holds_8 (by decide) (fun h1 => ?_) (fun h1 => ?_)
  · refine jw_lconst (pc := 15) (v := 0) F d_L_holds_15 (by decide) ?_
    refine jw_lastN (pc := 16) (ws' := wX ad cB cI cL f0 f1 f2 f3 f4 f5 f6 f7 v md ln ++ wO ao cL (vp_updL o 0 0)) F 10 2 rfl rfl 0 rfl (by omega) (by decide) d_L_holds_16 rfl ?_
    refine jw_goto (pc := 17) F 28 d_L_holds_17 (by decide) ?_
    refine jw_iconst (pc := 28) (v := 0) F d_L_holds_28 (by decide) ?_
    exact jw_iret F d_L_holds_29 ⟨rfl, _, rfl, by rw [pk_uLs, jb_0.mp h1]; rfl⟩
  · refine jw_lconst (pc := 11) (v := 1) F d_L_holds_11 (by decide) ?_
    refine jw_goto (pc := 12) F 16 d_L_holds_12 (by decide) ?_
    refine jw_lastN (pc := 16) (ws' := wX ad cB cI cL f0 f1 f2 f3 f4 f5 f6 f7 v md ln ++ wO ao cL (vp_updL o 0 1)) F 10 2 rfl rfl 0 rfl (by omega) (by decide) d_L_holds_16 rfl ?_
    refine jw_goto (pc := 17) F 28 d_L_holds_17 (by decide) ?_
    refine jw_iconst (pc := 28) (v := 0) F d_L_holds_28 (by decide) ?_
    exact jw_iret F d_L_holds_29 ⟨rfl, _, rfl, by rw [pk_uLs, jb_n.mp h1]; rfl⟩
set_option maxHeartbeats 4000000 in
set_option maxRecDepth 100000 in
theorem w_same_0 (l : Launch) (D : va_G) (ad : Nat → Nat) (cB cI cL : ClassId) (f0 f1 f2 f3 f4 f5 f6 f7 : Nat → Int32) (v : Nat → Int64) (md ln : Int32) (ao : Nat) (o : Nat → Int64) (a : AS) (L : List Nat) (hQ : cx_R a L f0 f1 f2 f3 f4 f5 f6 f7 v md ln) (r s9 : Nat) (hr : r < 4) (hs9 : s9 < 4) : jw_Mi l D vCl (vTy cB cI cL) y_L_same s_L_same rm_L_same [.ref (ad 0), .int (nI r), .int (nI s9), .ref ao] (wX ad cB cI cL f0 f1 f2 f3 f4 f5 f6 f7 v md ln ++ wO ao cL o) (fun r9 w9 => r9 = 0 ∧ ∃ o9 : Nat → Int64, w9 = wX ad cB cI cL f0 f1 f2 f3 f4 f5 f6 f7 v md ln ++ wO ao cL o9 ∧ o9 0 = jl (L.all (fun x => a_seen a r x == a_seen a s9 x))) := by
  refine jw_ofWM (cc := b_L_same) (nL := 5) (ret := some .int) (hh := [(0, 17, 20, 13)]) (by decide) rfl (Nat.le_of_ble_eq_true rfl) (fun p e s m args below meth c A F htab => ?_)
  refine jw_at (lv' := [(0, .ref (ad 0)), (1, .int (nI r)), (2, .int (nI s9)), (3, .ref ao)]) (st' := []) (ws' := wX ad cB cI cL f0 f1 f2 f3 f4 f5 f6 f7 v md ln ++ wO ao cL o) rfl rfl rfl ?_
  refine jw_aload_n (pc := 0) F 3 d_L_same_0 rfl rfl ?_
  refine jw_iconst (pc := 1) (v := nI 0) F d_L_same_1 (by decide) ?_
  refine jw_aload_n (pc := 2) F 0 d_L_same_2 rfl rfl ?_
  refine jw_iload_n (pc := 3) F 1 d_L_same_3 rfl rfl ?_
  refine jw_iload_n (pc := 4) F 2 d_L_same_4 rfl rfl ?_
  refine jw_callV_Gi (pc := 5) (As := [.int (nI r), .int (nI s9)]) (rest := [.int (nI 0), .ref ao]) F ([]) (wO ao cL o) (c_same l D ad cB cI cL f0 f1 f2 f3 f4 f5 f6 f7 v md ln a L hQ r s9 hr hs9) (jw_cwV F.1.2.2.2.2 wl_good w_332 w_333 w_334 w_29 w_335 hd_X_same ⟨by decide, by decide⟩) 0 0 rfl rfl rfl rfl rfl rfl (Nat.le_of_ble_eq_true rfl) d_L_same_5 ⟨rfl, rfl⟩ ⟨by decide, by decide⟩ (fun r w hw => ?_)
  obtain ⟨rfl, rfl⟩ := hw
  refine jw_at (lv' := [(0, .ref (ad 0)), (1, .int (nI r)), (2, .int (nI s9)), (3, .ref ao)]) (st' := [.int (jb (L.all (fun x => a_seen a r x == a_seen a s9 x))), .int (nI 0), .ref ao]) (ws' := wX ad cB cI cL f0 f1 f2 f3 f4 f5 f6 f7 v md ln ++ wO ao cL o) rfl rfl rfl ?_
  refine jw_if_eq (pc := 8) F 15 d_L_same_8 (by decide) (fun h1 => ?_) (fun h1 => ?_)
  · refine jw_lconst (pc := 15) (v := 0) F d_L_same_15 (by decide) ?_
    refine jw_lastN (pc := 16) (ws' := wX ad cB cI cL f0 f1 f2 f3 f4 f5 f6 f7 v md ln ++ wO ao cL (vp_updL o 0 0)) F 10 2 rfl rfl 0 rfl (by omega) (by decide) d_L_same_16 rfl ?_
    refine jw_goto (pc := 17) F 24 d_L_same_17 (by decide) ?_
    refine jw_iconst (pc := 24) (v := 0) F d_L_same_24 (by decide) ?_
    exact jw_iret F d_L_same_25 ⟨rfl, _, rfl, by rw [pk_uLs, jb_0.mp h1]; rfl⟩
  · refine jw_lconst (pc := 11) (v := 1) F d_L_same_11 (by decide) ?_
    refine jw_goto (pc := 12) F 16 d_L_same_12 (by decide) ?_
    refine jw_lastN (pc := 16) (ws' := wX ad cB cI cL f0 f1 f2 f3 f4 f5 f6 f7 v md ln ++ wO ao cL (vp_updL o 0 1)) F 10 2 rfl rfl 0 rfl (by omega) (by decide) d_L_same_16 rfl ?_
    refine jw_goto (pc := 17) F 24 d_L_same_17 (by decide) ?_
    refine jw_iconst (pc := 24) (v := 0) F d_L_same_24 (by decide) ?_
    exact jw_iret F d_L_same_25 ⟨rfl, _, rfl, by rw [pk_uLs, jb_n.mp h1]; rfl⟩
set_option maxHeartbeats 4000000 in
set_option maxRecDepth 100000 in
theorem w_at_0 (l : Launch) (D : va_G) (ad : Nat → Nat) (cB cI cL : ClassId) (f0 f1 f2 f3 f4 f5 f6 f7 : Nat → Int32) (v : Nat → Int64) (md ln : Int32) (ao : Nat) (o : Nat → Int64) (a : AS) (L : List Nat) (hQ : cx_R a L f0 f1 f2 f3 f4 f5 f6 f7 v md ln) (r : Nat) (hr : r < 4) (t : Int32) : jw_Mi l D vCl (vTy cB cI cL) y_L_at s_L_at rm_L_at [.ref (ad 0), .int (nI r), .int t, .ref ao] (wX ad cB cI cL f0 f1 f2 f3 f4 f5 f6 f7 v md ln ++ wO ao cL o) (fun r9 w9 => r9 = 0 ∧ ∃ o9 : Nat → Int64, w9 = wX ad cB cI cL f0 f1 f2 f3 f4 f5 f6 f7 v md ln ++ wO ao cL o9 ∧ o9 0 = (gl_at (L.filter (a_seen a r)) t).toInt64) := by
  refine jw_ofWM (cc := b_L_at) (nL := 5) (ret := some .int) (hh := [(0, 10, 13, 13)]) (by decide) rfl (Nat.le_of_ble_eq_true rfl) (fun p e s m args below meth c A F htab => ?_)
  refine jw_at (lv' := [(0, .ref (ad 0)), (1, .int (nI r)), (2, .int t), (3, .ref ao)]) (st' := []) (ws' := wX ad cB cI cL f0 f1 f2 f3 f4 f5 f6 f7 v md ln ++ wO ao cL o) rfl rfl rfl ?_
  refine jw_aload_n (pc := 0) F 3 d_L_at_0 rfl rfl ?_
  refine jw_iconst (pc := 1) (v := nI 0) F d_L_at_1 (by decide) ?_
  refine jw_aload_n (pc := 2) F 0 d_L_at_2 rfl rfl ?_
  refine jw_iload_n (pc := 3) F 1 d_L_at_3 rfl rfl ?_
  refine jw_iload_n (pc := 4) F 2 d_L_at_4 rfl rfl ?_
  refine jw_callV_Gi (pc := 5) (As := [.int (nI r), .int t]) (rest := [.int (nI 0), .ref ao]) F ([]) (wO ao cL o) (c_at l D ad cB cI cL f0 f1 f2 f3 f4 f5 f6 f7 v md ln a L hQ r hr t) (jw_cwV F.1.2.2.2.2 wl_good w_279 w_280 w_281 w_29 w_282 hd_X_at ⟨by decide, by decide⟩) 0 0 rfl rfl rfl rfl rfl rfl (Nat.le_of_ble_eq_true rfl) d_L_at_5 ⟨rfl, rfl⟩ ⟨by decide, by decide⟩ (fun r w hw => ?_)
  obtain ⟨rfl, rfl⟩ := hw
  refine jw_at (lv' := [(0, .ref (ad 0)), (1, .int (nI r)), (2, .int t), (3, .ref ao)]) (st' := [.int (gl_at (L.filter (a_seen a r)) t), .int (nI 0), .ref ao]) (ws' := wX ad cB cI cL f0 f1 f2 f3 f4 f5 f6 f7 v md ln ++ wO ao cL o) rfl rfl rfl ?_
  refine jw_i2l (pc := 8) F d_L_at_8 ?_
  refine jw_lastN (pc := 9) (ws' := wX ad cB cI cL f0 f1 f2 f3 f4 f5 f6 f7 v md ln ++ wO ao cL (vp_updL o 0 ((gl_at (L.filter (a_seen a r)) t).toInt64))) F 10 2 rfl rfl 0 rfl (by omega) (by decide) d_L_at_9 rfl ?_
  refine jw_goto (pc := 10) F 17 d_L_at_10 (by decide) ?_
  refine jw_iconst (pc := 17) (v := 0) F d_L_at_17 (by decide) ?_
  exact jw_iret F d_L_at_18 ⟨rfl, _, rfl, pk_uLs⟩
set_option maxHeartbeats 4000000 in
set_option maxRecDepth 100000 in
theorem w_place_0 (l : Launch) (D : va_G) (ad : Nat → Nat) (cB cI cL : ClassId) (f0 f1 f2 f3 f4 f5 f6 f7 : Nat → Int32) (v : Nat → Int64) (md ln : Int32) (ao : Nat) (o : Nat → Int64) (a : AS) (L : List Nat) (hQ : cx_R a L f0 f1 f2 f3 f4 f5 f6 f7 v md ln) (r : Nat) (hr : r < 4) (k : Nat) (hk : k < a_n a) (hd : a_dl a k = false) (hh : a_hd a r k = true) : jw_Mi l D vCl (vTy cB cI cL) y_L_place s_L_place rm_L_place [.ref (ad 0), .int (nI r), .int (nI k), .ref ao] (wX ad cB cI cL f0 f1 f2 f3 f4 f5 f6 f7 v md ln ++ wO ao cL o) (fun r9 w9 => r9 = 0 ∧ ∃ o9 : Nat → Int64, w9 = wX ad cB cI cL f0 f1 f2 f3 f4 f5 f6 f7 v md ln ++ wO ao cL o9 ∧ ∃ (i : Nat) (h : i < L.length), L[i] = k ∧ o9 0 = (nI ((L.take i).countP (a_hd a r))).toInt64) := by
  refine jw_ofWM (cc := b_L_place) (nL := 5) (ret := some .int) (hh := [(0, 10, 13, 13), (0, 10, 17, 15), (0, 10, 21, 17)]) (by decide) rfl (Nat.le_of_ble_eq_true rfl) (fun p e s m args below meth c A F htab => ?_)
  refine jw_at (lv' := [(0, .ref (ad 0)), (1, .int (nI r)), (2, .int (nI k)), (3, .ref ao)]) (st' := []) (ws' := wX ad cB cI cL f0 f1 f2 f3 f4 f5 f6 f7 v md ln ++ wO ao cL o) rfl rfl rfl ?_
  refine jw_aload_n (pc := 0) F 3 d_L_place_0 rfl rfl ?_
  refine jw_iconst (pc := 1) (v := nI 0) F d_L_place_1 (by decide) ?_
  refine jw_aload_n (pc := 2) F 0 d_L_place_2 rfl rfl ?_
  refine jw_iload_n (pc := 3) F 1 d_L_place_3 rfl rfl ?_
  refine jw_iload_n (pc := 4) F 2 d_L_place_4 rfl rfl ?_
  refine jw_callV_Gi (pc := 5) (As := [.int (nI r), .int (nI k)]) (rest := [.int (nI 0), .ref ao]) F ([]) (wO ao cL o) (c_place l D ad cB cI cL f0 f1 f2 f3 f4 f5 f6 f7 v md ln a L hQ r hr k hk hd hh) (jw_cwV F.1.2.2.2.2 wl_good w_290 w_291 w_292 w_29 w_293 hd_X_place ⟨by decide, by decide⟩) 0 0 rfl rfl rfl rfl rfl rfl (Nat.le_of_ble_eq_true rfl) d_L_place_5 ⟨rfl, rfl⟩ ⟨by decide, by decide⟩ (fun r w hw => ?_)
  obtain ⟨⟨i, hi, hik, rfl⟩, rfl⟩ := hw
  refine jw_at (lv' := [(0, .ref (ad 0)), (1, .int (nI r)), (2, .int (nI k)), (3, .ref ao)]) (st' := [.int (nI ((L.take i).countP (a_hd a r))), .int (nI 0), .ref ao]) (ws' := wX ad cB cI cL f0 f1 f2 f3 f4 f5 f6 f7 v md ln ++ wO ao cL o) rfl rfl rfl ?_
  refine jw_i2l (pc := 8) F d_L_place_8 ?_
  refine jw_lastN (pc := 9) (ws' := wX ad cB cI cL f0 f1 f2 f3 f4 f5 f6 f7 v md ln ++ wO ao cL (vp_updL o 0 ((nI ((L.take i).countP (a_hd a r))).toInt64))) F 10 2 rfl rfl 0 rfl (by omega) (by decide) d_L_place_9 rfl ?_
  refine jw_goto (pc := 10) F 25 d_L_place_10 (by decide) ?_
  refine jw_iconst (pc := 25) (v := 0) F d_L_place_25 (by decide) ?_
  exact jw_iret F d_L_place_26 ⟨rfl, _, rfl, i, hi, hik, pk_uLs⟩
set_option maxHeartbeats 4000000 in
set_option maxRecDepth 100000 in
theorem w_value_0 (l : Launch) (D : va_G) (ad : Nat → Nat) (cB cI cL : ClassId) (f0 f1 f2 f3 f4 f5 f6 f7 : Nat → Int32) (v : Nat → Int64) (md ln : Int32) (ao : Nat) (o : Nat → Int64) (a : AS) (L : List Nat) (hQ : cx_R a L f0 f1 f2 f3 f4 f5 f6 f7 v md ln) (k : Nat) (hk : k < a_n a) (hd : a_dl a k = false) : jw_Mi l D vCl (vTy cB cI cL) y_L_value s_L_value rm_L_value [.ref (ad 0), .int (nI k), .ref ao] (wX ad cB cI cL f0 f1 f2 f3 f4 f5 f6 f7 v md ln ++ wO ao cL o) (fun r9 w9 => r9 = 0 ∧ ∃ o9 : Nat → Int64, w9 = wX ad cB cI cL f0 f1 f2 f3 f4 f5 f6 f7 v md ln ++ wO ao cL o9 ∧ o9 0 = a_vl a k) := by
  refine jw_ofWM (cc := b_L_value) (nL := 4) (ret := some .int) (hh := [(0, 8, 11, 15)]) (by decide) rfl (Nat.le_of_ble_eq_true rfl) (fun p e s m args below meth c A F htab => ?_)
  refine jw_at (lv' := [(0, .ref (ad 0)), (1, .int (nI k)), (2, .ref ao)]) (st' := []) (ws' := wX ad cB cI cL f0 f1 f2 f3 f4 f5 f6 f7 v md ln ++ wO ao cL o) rfl rfl rfl ?_
  refine jw_aload_n (pc := 0) F 2 d_L_value_0 rfl rfl ?_
  refine jw_iconst (pc := 1) (v := nI 0) F d_L_value_1 (by decide) ?_
  refine jw_aload_n (pc := 2) F 0 d_L_value_2 rfl rfl ?_
  refine jw_iload_n (pc := 3) F 1 d_L_value_3 rfl rfl ?_
  refine jw_callV_Gl (pc := 4) (As := [.int (nI k)]) (rest := [.int (nI 0), .ref ao]) F ([]) (wO ao cL o) (c_value l D ad cB cI cL f0 f1 f2 f3 f4 f5 f6 f7 v md ln a L hQ k hk hd) (jw_cwV F.1.2.2.2.2 wl_good w_297 w_298 w_299 w_29 w_300 hd_X_value ⟨by decide, by decide⟩) 0 0 rfl rfl rfl rfl rfl rfl (Nat.le_of_ble_eq_true rfl) d_L_value_4 ⟨rfl, rfl⟩ ⟨by decide, by decide⟩ (fun r w hw => ?_)
  obtain ⟨rfl, rfl⟩ := hw
  refine jw_at (lv' := [(0, .ref (ad 0)), (1, .int (nI k)), (2, .ref ao)]) (st' := [.long (a_vl a k), .int (nI 0), .ref ao]) (ws' := wX ad cB cI cL f0 f1 f2 f3 f4 f5 f6 f7 v md ln ++ wO ao cL o) rfl rfl rfl ?_
  refine jw_lastN (pc := 7) (ws' := wX ad cB cI cL f0 f1 f2 f3 f4 f5 f6 f7 v md ln ++ wO ao cL (vp_updL o 0 (a_vl a k))) F 10 2 rfl rfl 0 rfl (by omega) (by decide) d_L_value_7 rfl ?_
  refine jw_goto (pc := 8) F 14 d_L_value_8 (by decide) ?_
  refine jw_iconst (pc := 14) (v := 0) F d_L_value_14 (by decide) ?_
  exact jw_iret F d_L_value_15 ⟨rfl, _, rfl, pk_uLs⟩
set_option maxHeartbeats 4000000 in
set_option maxRecDepth 100000 in
theorem w_stamp_0 (l : Launch) (D : va_G) (ad : Nat → Nat) (cB cI cL : ClassId) (f0 f1 f2 f3 f4 f5 f6 f7 : Nat → Int32) (v : Nat → Int64) (md ln : Int32) (ao : Nat) (o : Nat → Int64) (a : AS) (L : List Nat) (hQ : cx_R a L f0 f1 f2 f3 f4 f5 f6 f7 v md ln) (k : Nat) (hk : k < a_n a) : jw_Mi l D vCl (vTy cB cI cL) y_L_stamp s_L_stamp rm_L_stamp [.ref (ad 0), .int (nI k), .ref ao] (wX ad cB cI cL f0 f1 f2 f3 f4 f5 f6 f7 v md ln ++ wO ao cL o) (fun r9 w9 => r9 = 0 ∧ ∃ o9 : Nat → Int64, w9 = wX ad cB cI cL f0 f1 f2 f3 f4 f5 f6 f7 v md ln ++ wO ao cL o9 ∧ o9 0 = (nI (a_ct a k)).toInt64) := by
  refine jw_ofWM (cc := b_L_stamp) (nL := 4) (ret := some .int) (hh := [(0, 9, 12, 15)]) (by decide) rfl (Nat.le_of_ble_eq_true rfl) (fun p e s m args below meth c A F htab => ?_)
  refine jw_at (lv' := [(0, .ref (ad 0)), (1, .int (nI k)), (2, .ref ao)]) (st' := []) (ws' := wX ad cB cI cL f0 f1 f2 f3 f4 f5 f6 f7 v md ln ++ wO ao cL o) rfl rfl rfl ?_
  refine jw_aload_n (pc := 0) F 2 d_L_stamp_0 rfl rfl ?_
  refine jw_iconst (pc := 1) (v := nI 0) F d_L_stamp_1 (by decide) ?_
  refine jw_aload_n (pc := 2) F 0 d_L_stamp_2 rfl rfl ?_
  refine jw_iload_n (pc := 3) F 1 d_L_stamp_3 rfl rfl ?_
  refine jw_callV_Gi (pc := 4) (As := [.int (nI k)]) (rest := [.int (nI 0), .ref ao]) F ([]) (wO ao cL o) (c_stamp l D ad cB cI cL f0 f1 f2 f3 f4 f5 f6 f7 v md ln a L hQ k hk) (jw_cwV F.1.2.2.2.2 wl_good w_305 w_306 w_307 w_29 w_308 hd_X_stamp ⟨by decide, by decide⟩) 0 0 rfl rfl rfl rfl rfl rfl (Nat.le_of_ble_eq_true rfl) d_L_stamp_4 ⟨rfl, rfl⟩ ⟨by decide, by decide⟩ (fun r w hw => ?_)
  obtain ⟨rfl, rfl⟩ := hw
  refine jw_at (lv' := [(0, .ref (ad 0)), (1, .int (nI k)), (2, .ref ao)]) (st' := [.int (nI (a_ct a k)), .int (nI 0), .ref ao]) (ws' := wX ad cB cI cL f0 f1 f2 f3 f4 f5 f6 f7 v md ln ++ wO ao cL o) rfl rfl rfl ?_
  refine jw_i2l (pc := 7) F d_L_stamp_7 ?_
  refine jw_lastN (pc := 8) (ws' := wX ad cB cI cL f0 f1 f2 f3 f4 f5 f6 f7 v md ln ++ wO ao cL (vp_updL o 0 ((nI (a_ct a k)).toInt64))) F 10 2 rfl rfl 0 rfl (by omega) (by decide) d_L_stamp_8 rfl ?_
  refine jw_goto (pc := 9) F 15 d_L_stamp_9 (by decide) ?_
  refine jw_iconst (pc := 15) (v := 0) F d_L_stamp_15 (by decide) ?_
  exact jw_iret F d_L_stamp_16 ⟨rfl, _, rfl, pk_uLs⟩
set_option maxHeartbeats 4000000 in
set_option maxRecDepth 100000 in
theorem w_count_v0 (l : Launch) (D : va_G) (ad : Nat → Nat) (cB cI cL : ClassId) (f0 f1 f2 f3 f4 f5 f6 f7 : Nat → Int32) (v : Nat → Int64) (md ln : Int32) (ao : Nat) (o : Nat → Int64) (a : AS) (L : List Nat) (hQ : cx_R a L f0 f1 f2 f3 f4 f5 f6 f7 v md ln) (r : Nat) (hr : r < 4) : jw_Mi l D vCl (vTy cB cI cL) y_L_count s_L_count rm_L_count [.ref (ad 0), .int (nI r), .int (nI 0), .ref ao] (wX ad cB cI cL f0 f1 f2 f3 f4 f5 f6 f7 v md ln ++ wO ao cL o) (fun r9 w9 => r9 = 0 ∧ ∃ o9 : Nat → Int64, w9 = wX ad cB cI cL f0 f1 f2 f3 f4 f5 f6 f7 v md ln ++ wO ao cL o9 ∧ o9 0 = (nI ((List.range (a_n a)).countP (a_hd a r))).toInt64) := by
  refine jw_ofWM (cc := b_L_count) (nL := 5) (ret := some .int) (hh := [(0, 10, 13, 13)]) (by decide) rfl (Nat.le_of_ble_eq_true rfl) (fun p e s m args below meth c A F htab => ?_)
  refine jw_at (lv' := [(0, .ref (ad 0)), (1, .int (nI r)), (2, .int (nI 0)), (3, .ref ao)]) (st' := []) (ws' := wX ad cB cI cL f0 f1 f2 f3 f4 f5 f6 f7 v md ln ++ wO ao cL o) rfl rfl rfl ?_
  refine jw_aload_n (pc := 0) F 3 d_L_count_0 rfl rfl ?_
  refine jw_iconst (pc := 1) (v := nI 0) F d_L_count_1 (by decide) ?_
  refine jw_aload_n (pc := 2) F 0 d_L_count_2 rfl rfl ?_
  refine jw_iload_n (pc := 3) F 1 d_L_count_3 rfl rfl ?_
  refine jw_iload_n (pc := 4) F 2 d_L_count_4 rfl rfl ?_
  refine jw_callV_Gi (pc := 5) (As := [.int (nI r), .int (nI 0)]) (rest := [.int (nI 0), .ref ao]) F ([]) (wO ao cL o) (c_count_0 l D ad cB cI cL f0 f1 f2 f3 f4 f5 f6 f7 v md ln a L hQ r hr) (jw_cwV F.1.2.2.2.2 wl_good w_312 w_313 w_314 w_29 w_315 hd_X_count ⟨by decide, by decide⟩) 0 0 rfl rfl rfl rfl rfl rfl (Nat.le_of_ble_eq_true rfl) d_L_count_5 ⟨rfl, rfl⟩ ⟨by decide, by decide⟩ (fun r w hw => ?_)
  obtain ⟨rfl, rfl⟩ := hw
  refine jw_at (lv' := [(0, .ref (ad 0)), (1, .int (nI r)), (2, .int (nI 0)), (3, .ref ao)]) (st' := [.int (nI ((List.range (a_n a)).countP (a_hd a r))), .int (nI 0), .ref ao]) (ws' := wX ad cB cI cL f0 f1 f2 f3 f4 f5 f6 f7 v md ln ++ wO ao cL o) rfl rfl rfl ?_
  refine jw_i2l (pc := 8) F d_L_count_8 ?_
  refine jw_lastN (pc := 9) (ws' := wX ad cB cI cL f0 f1 f2 f3 f4 f5 f6 f7 v md ln ++ wO ao cL (vp_updL o 0 ((nI ((List.range (a_n a)).countP (a_hd a r))).toInt64))) F 10 2 rfl rfl 0 rfl (by omega) (by decide) d_L_count_9 rfl ?_
  refine jw_goto (pc := 10) F 17 d_L_count_10 (by decide) ?_
  refine jw_iconst (pc := 17) (v := 0) F d_L_count_17 (by decide) ?_
  exact jw_iret F d_L_count_18 ⟨rfl, _, rfl, pk_uLs⟩
set_option maxHeartbeats 4000000 in
set_option maxRecDepth 100000 in
theorem w_count_v1 (l : Launch) (D : va_G) (ad : Nat → Nat) (cB cI cL : ClassId) (f0 f1 f2 f3 f4 f5 f6 f7 : Nat → Int32) (v : Nat → Int64) (md ln : Int32) (ao : Nat) (o : Nat → Int64) (a : AS) (L : List Nat) (hQ : cx_R a L f0 f1 f2 f3 f4 f5 f6 f7 v md ln) (r : Nat) (hr : r < 4) : jw_Mi l D vCl (vTy cB cI cL) y_L_count s_L_count rm_L_count [.ref (ad 0), .int (nI r), .int (nI 1), .ref ao] (wX ad cB cI cL f0 f1 f2 f3 f4 f5 f6 f7 v md ln ++ wO ao cL o) (fun r9 w9 => r9 = 0 ∧ ∃ o9 : Nat → Int64, w9 = wX ad cB cI cL f0 f1 f2 f3 f4 f5 f6 f7 v md ln ++ wO ao cL o9 ∧ o9 0 = (nI (L.countP (a_hd a r))).toInt64) := by
  refine jw_ofWM (cc := b_L_count) (nL := 5) (ret := some .int) (hh := [(0, 10, 13, 13)]) (by decide) rfl (Nat.le_of_ble_eq_true rfl) (fun p e s m args below meth c A F htab => ?_)
  refine jw_at (lv' := [(0, .ref (ad 0)), (1, .int (nI r)), (2, .int (nI 1)), (3, .ref ao)]) (st' := []) (ws' := wX ad cB cI cL f0 f1 f2 f3 f4 f5 f6 f7 v md ln ++ wO ao cL o) rfl rfl rfl ?_
  refine jw_aload_n (pc := 0) F 3 d_L_count_0 rfl rfl ?_
  refine jw_iconst (pc := 1) (v := nI 0) F d_L_count_1 (by decide) ?_
  refine jw_aload_n (pc := 2) F 0 d_L_count_2 rfl rfl ?_
  refine jw_iload_n (pc := 3) F 1 d_L_count_3 rfl rfl ?_
  refine jw_iload_n (pc := 4) F 2 d_L_count_4 rfl rfl ?_
  refine jw_callV_Gi (pc := 5) (As := [.int (nI r), .int (nI 1)]) (rest := [.int (nI 0), .ref ao]) F ([]) (wO ao cL o) (c_count_1 l D ad cB cI cL f0 f1 f2 f3 f4 f5 f6 f7 v md ln a L hQ r hr) (jw_cwV F.1.2.2.2.2 wl_good w_312 w_313 w_314 w_29 w_315 hd_X_count ⟨by decide, by decide⟩) 0 0 rfl rfl rfl rfl rfl rfl (Nat.le_of_ble_eq_true rfl) d_L_count_5 ⟨rfl, rfl⟩ ⟨by decide, by decide⟩ (fun r w hw => ?_)
  obtain ⟨rfl, rfl⟩ := hw
  refine jw_at (lv' := [(0, .ref (ad 0)), (1, .int (nI r)), (2, .int (nI 1)), (3, .ref ao)]) (st' := [.int (nI (L.countP (a_hd a r))), .int (nI 0), .ref ao]) (ws' := wX ad cB cI cL f0 f1 f2 f3 f4 f5 f6 f7 v md ln ++ wO ao cL o) rfl rfl rfl ?_
  refine jw_i2l (pc := 8) F d_L_count_8 ?_
  refine jw_lastN (pc := 9) (ws' := wX ad cB cI cL f0 f1 f2 f3 f4 f5 f6 f7 v md ln ++ wO ao cL (vp_updL o 0 ((nI (L.countP (a_hd a r))).toInt64))) F 10 2 rfl rfl 0 rfl (by omega) (by decide) d_L_count_9 rfl ?_
  refine jw_goto (pc := 10) F 17 d_L_count_10 (by decide) ?_
  refine jw_iconst (pc := 17) (v := 0) F d_L_count_17 (by decide) ?_
  exact jw_iret F d_L_count_18 ⟨rfl, _, rfl, pk_uLs⟩
set_option maxHeartbeats 4000000 in
set_option maxRecDepth 100000 in
theorem w_count_v2 (l : Launch) (D : va_G) (ad : Nat → Nat) (cB cI cL : ClassId) (f0 f1 f2 f3 f4 f5 f6 f7 : Nat → Int32) (v : Nat → Int64) (md ln : Int32) (ao : Nat) (o : Nat → Int64) (a : AS) (L : List Nat) (hQ : cx_R a L f0 f1 f2 f3 f4 f5 f6 f7 v md ln) (r : Nat) (hr : r < 4) : jw_Mi l D vCl (vTy cB cI cL) y_L_count s_L_count rm_L_count [.ref (ad 0), .int (nI r), .int (nI 2), .ref ao] (wX ad cB cI cL f0 f1 f2 f3 f4 f5 f6 f7 v md ln ++ wO ao cL o) (fun r9 w9 => r9 = 0 ∧ ∃ o9 : Nat → Int64, w9 = wX ad cB cI cL f0 f1 f2 f3 f4 f5 f6 f7 v md ln ++ wO ao cL o9 ∧ o9 0 = (nI (L.countP (a_seen a r))).toInt64) := by
  refine jw_ofWM (cc := b_L_count) (nL := 5) (ret := some .int) (hh := [(0, 10, 13, 13)]) (by decide) rfl (Nat.le_of_ble_eq_true rfl) (fun p e s m args below meth c A F htab => ?_)
  refine jw_at (lv' := [(0, .ref (ad 0)), (1, .int (nI r)), (2, .int (nI 2)), (3, .ref ao)]) (st' := []) (ws' := wX ad cB cI cL f0 f1 f2 f3 f4 f5 f6 f7 v md ln ++ wO ao cL o) rfl rfl rfl ?_
  refine jw_aload_n (pc := 0) F 3 d_L_count_0 rfl rfl ?_
  refine jw_iconst (pc := 1) (v := nI 0) F d_L_count_1 (by decide) ?_
  refine jw_aload_n (pc := 2) F 0 d_L_count_2 rfl rfl ?_
  refine jw_iload_n (pc := 3) F 1 d_L_count_3 rfl rfl ?_
  refine jw_iload_n (pc := 4) F 2 d_L_count_4 rfl rfl ?_
  refine jw_callV_Gi (pc := 5) (As := [.int (nI r), .int (nI 2)]) (rest := [.int (nI 0), .ref ao]) F ([]) (wO ao cL o) (c_count_2 l D ad cB cI cL f0 f1 f2 f3 f4 f5 f6 f7 v md ln a L hQ r hr) (jw_cwV F.1.2.2.2.2 wl_good w_312 w_313 w_314 w_29 w_315 hd_X_count ⟨by decide, by decide⟩) 0 0 rfl rfl rfl rfl rfl rfl (Nat.le_of_ble_eq_true rfl) d_L_count_5 ⟨rfl, rfl⟩ ⟨by decide, by decide⟩ (fun r w hw => ?_)
  obtain ⟨rfl, rfl⟩ := hw
  refine jw_at (lv' := [(0, .ref (ad 0)), (1, .int (nI r)), (2, .int (nI 2)), (3, .ref ao)]) (st' := [.int (nI (L.countP (a_seen a r))), .int (nI 0), .ref ao]) (ws' := wX ad cB cI cL f0 f1 f2 f3 f4 f5 f6 f7 v md ln ++ wO ao cL o) rfl rfl rfl ?_
  refine jw_i2l (pc := 8) F d_L_count_8 ?_
  refine jw_lastN (pc := 9) (ws' := wX ad cB cI cL f0 f1 f2 f3 f4 f5 f6 f7 v md ln ++ wO ao cL (vp_updL o 0 ((nI (L.countP (a_seen a r))).toInt64))) F 10 2 rfl rfl 0 rfl (by omega) (by decide) d_L_count_9 rfl ?_
  refine jw_goto (pc := 10) F 17 d_L_count_10 (by decide) ?_
  refine jw_iconst (pc := 17) (v := 0) F d_L_count_17 (by decide) ?_
  exact jw_iret F d_L_count_18 ⟨rfl, _, rfl, pk_uLs⟩
set_option maxHeartbeats 4000000 in
set_option maxRecDepth 100000 in
theorem w_count_v3 (l : Launch) (D : va_G) (ad : Nat → Nat) (cB cI cL : ClassId) (f0 f1 f2 f3 f4 f5 f6 f7 : Nat → Int32) (v : Nat → Int64) (md ln : Int32) (ao : Nat) (o : Nat → Int64) (a : AS) (L : List Nat) (hQ : cx_R a L f0 f1 f2 f3 f4 f5 f6 f7 v md ln) (r : Nat) (hr : r < 4) : jw_Mi l D vCl (vTy cB cI cL) y_L_count s_L_count rm_L_count [.ref (ad 0), .int (nI r), .int (nI 3), .ref ao] (wX ad cB cI cL f0 f1 f2 f3 f4 f5 f6 f7 v md ln ++ wO ao cL o) (fun r9 w9 => r9 = 0 ∧ ∃ o9 : Nat → Int64, w9 = wX ad cB cI cL f0 f1 f2 f3 f4 f5 f6 f7 v md ln ++ wO ao cL o9 ∧ o9 0 = (nI (a_gr a r)).toInt64) := by
  refine jw_ofWM (cc := b_L_count) (nL := 5) (ret := some .int) (hh := [(0, 10, 13, 13)]) (by decide) rfl (Nat.le_of_ble_eq_true rfl) (fun p e s m args below meth c A F htab => ?_)
  refine jw_at (lv' := [(0, .ref (ad 0)), (1, .int (nI r)), (2, .int (nI 3)), (3, .ref ao)]) (st' := []) (ws' := wX ad cB cI cL f0 f1 f2 f3 f4 f5 f6 f7 v md ln ++ wO ao cL o) rfl rfl rfl ?_
  refine jw_aload_n (pc := 0) F 3 d_L_count_0 rfl rfl ?_
  refine jw_iconst (pc := 1) (v := nI 0) F d_L_count_1 (by decide) ?_
  refine jw_aload_n (pc := 2) F 0 d_L_count_2 rfl rfl ?_
  refine jw_iload_n (pc := 3) F 1 d_L_count_3 rfl rfl ?_
  refine jw_iload_n (pc := 4) F 2 d_L_count_4 rfl rfl ?_
  refine jw_callV_Gi (pc := 5) (As := [.int (nI r), .int (nI 3)]) (rest := [.int (nI 0), .ref ao]) F ([]) (wO ao cL o) (c_count_3 l D ad cB cI cL f0 f1 f2 f3 f4 f5 f6 f7 v md ln a L hQ r hr) (jw_cwV F.1.2.2.2.2 wl_good w_312 w_313 w_314 w_29 w_315 hd_X_count ⟨by decide, by decide⟩) 0 0 rfl rfl rfl rfl rfl rfl (Nat.le_of_ble_eq_true rfl) d_L_count_5 ⟨rfl, rfl⟩ ⟨by decide, by decide⟩ (fun r w hw => ?_)
  obtain ⟨rfl, rfl⟩ := hw
  refine jw_at (lv' := [(0, .ref (ad 0)), (1, .int (nI r)), (2, .int (nI 3)), (3, .ref ao)]) (st' := [.int (nI (a_gr a r)), .int (nI 0), .ref ao]) (ws' := wX ad cB cI cL f0 f1 f2 f3 f4 f5 f6 f7 v md ln ++ wO ao cL o) rfl rfl rfl ?_
  refine jw_i2l (pc := 8) F d_L_count_8 ?_
  refine jw_lastN (pc := 9) (ws' := wX ad cB cI cL f0 f1 f2 f3 f4 f5 f6 f7 v md ln ++ wO ao cL (vp_updL o 0 ((nI (a_gr a r)).toInt64))) F 10 2 rfl rfl 0 rfl (by omega) (by decide) d_L_count_9 rfl ?_
  refine jw_goto (pc := 10) F 17 d_L_count_10 (by decide) ?_
  refine jw_iconst (pc := 17) (v := 0) F d_L_count_17 (by decide) ?_
  exact jw_iret F d_L_count_18 ⟨rfl, _, rfl, pk_uLs⟩
set_option maxHeartbeats 4000000 in
set_option maxRecDepth 100000 in
theorem w_insert_1 (l : Launch) (D : va_G) (ad : Nat → Nat) (cB cI cL : ClassId) (f0 f1 f2 f3 f4 f5 f6 f7 : Nat → Int32) (v : Nat → Int64) (md ln : Int32) (ao : Nat) (o : Nat → Int64) (a : AS) (L : List Nat) (hQ : cx_R a L f0 f1 f2 f3 f4 f5 f6 f7 v md ln) (r : Int32) (hr : a_isrep r = false) (t : Int32) (vv : Int64) (hl : l.stackTraces = false) : jw_Ni l D vCl (vTy cB cI cL) y_L_insert s_L_insert rm_L_insert_x [.ref (ad 0), .int r, .int t, .long vv, .ref ao] (wX ad cB cI cL f0 f1 f2 f3 f4 f5 f6 f7 v md ln ++ wO ao cL o) jz_Y (fun r9 w9 => r9 = 1 ∧ w9 = wX ad cB cI cL f0 f1 f2 f3 f4 f5 f6 f7 v md ln ++ wO ao cL o) := by
  refine jw_ofWN (cc := b_L_insert) (nL := 7) (ret := some .int) (hh := [(0, 12, 15, 13), (0, 12, 19, 15), (0, 12, 23, 17)]) (by decide) rfl (Nat.le_of_ble_eq_true rfl) (fun p e s m args below meth c A F htab hZ => ?_)
  refine jw_at (lv' := [(0, .ref (ad 0)), (1, .int r), (2, .int t), (3, .long vv), (5, .ref ao)]) (st' := []) (ws' := wX ad cB cI cL f0 f1 f2 f3 f4 f5 f6 f7 v md ln ++ wO ao cL o) rfl rfl rfl ?_
  refine jw_aload (pc := 0) F 4 d_L_insert_0 rfl ?_
  refine jw_iconst (pc := 2) (v := nI 0) F d_L_insert_2 (by decide) ?_
  refine jw_aload_n (pc := 3) F 0 d_L_insert_3 rfl rfl ?_
  refine jw_iload_n (pc := 4) F 1 d_L_insert_4 rfl rfl ?_
  refine jw_iload_n (pc := 5) F 2 d_L_insert_5 rfl rfl ?_
  refine jw_lload_n (pc := 6) F 3 d_L_insert_6 rfl rfl ?_
  refine jw_xcatch (pc := 7) (As := [.int r, .int t, .long vv]) (rest := [.int (nI 0), .ref ao]) (name := "java/lang/IllegalArgumentException") F [] (wO ao cL o) jz_ok hZ.1 (c_insert_x1 l D ad cB cI cL f0 f1 f2 f3 f4 f5 f6 f7 v md ln a L hQ r hr t vv hl) (jw_cwV F.1.2.2.2.2 wl_good w_89 w_90 w_91 w_29 w_92 hd_X_insert ⟨by decide, by decide⟩) 0 0 rfl rfl rfl rfl rfl rfl (Nat.le_of_ble_eq_true rfl) d_L_insert_7 ⟨by decide, by decide⟩ [] ⟨0, 12, 15, 13⟩ [⟨0, 12, 19, 15⟩, ⟨0, 12, 23, 17⟩] htab (fun z hz => by cases hz) (by decide) (by decide) (F.1.2.2.2.2 _ (jm w_86)) (jz_castIAE hZ.1) (fun q9 => ?_)
  refine jw_astore (pc := 15) (lv' := [(0, .ref (ad 0)), (1, .int r), (2, .int t), (3, .long vv), (5, .ref ao), (6, .ref q9)]) F d_L_insert_15 (by decide) rfl ?_
  refine jw_iconst (pc := 17) (v := 1) F d_L_insert_17 (by decide) ?_
  exact jw_iret F d_L_insert_18 ⟨rfl, rfl⟩
set_option maxHeartbeats 4000000 in
set_option maxRecDepth 100000 in
theorem w_delete_1 (l : Launch) (D : va_G) (ad : Nat → Nat) (cB cI cL : ClassId) (f0 f1 f2 f3 f4 f5 f6 f7 : Nat → Int32) (v : Nat → Int64) (md ln : Int32) (ao : Nat) (o : Nat → Int64) (a : AS) (L : List Nat) (hQ : cx_R a L f0 f1 f2 f3 f4 f5 f6 f7 v md ln) (r : Int32) (hr : a_isrep r = false) (t : Int32) (hl : l.stackTraces = false) : jw_Ni l D vCl (vTy cB cI cL) y_L_delete s_L_delete rm_L_delete_x [.ref (ad 0), .int r, .int t, .ref ao] (wX ad cB cI cL f0 f1 f2 f3 f4 f5 f6 f7 v md ln ++ wO ao cL o) jz_Y (fun r9 w9 => r9 = 1 ∧ w9 = wX ad cB cI cL f0 f1 f2 f3 f4 f5 f6 f7 v md ln ++ wO ao cL o) := by
  refine jw_ofWN (cc := b_L_delete) (nL := 5) (ret := some .int) (hh := [(0, 10, 13, 13), (0, 10, 17, 15), (0, 10, 21, 17)]) (by decide) rfl (Nat.le_of_ble_eq_true rfl) (fun p e s m args below meth c A F htab hZ => ?_)
  refine jw_at (lv' := [(0, .ref (ad 0)), (1, .int r), (2, .int t), (3, .ref ao)]) (st' := []) (ws' := wX ad cB cI cL f0 f1 f2 f3 f4 f5 f6 f7 v md ln ++ wO ao cL o) rfl rfl rfl ?_
  refine jw_aload_n (pc := 0) F 3 d_L_delete_0 rfl rfl ?_
  refine jw_iconst (pc := 1) (v := nI 0) F d_L_delete_1 (by decide) ?_
  refine jw_aload_n (pc := 2) F 0 d_L_delete_2 rfl rfl ?_
  refine jw_iload_n (pc := 3) F 1 d_L_delete_3 rfl rfl ?_
  refine jw_iload_n (pc := 4) F 2 d_L_delete_4 rfl rfl ?_
  refine jw_xcatch (pc := 5) (As := [.int r, .int t]) (rest := [.int (nI 0), .ref ao]) (name := "java/lang/IllegalArgumentException") F [] (wO ao cL o) jz_ok hZ.1 (c_delete_x1 l D ad cB cI cL f0 f1 f2 f3 f4 f5 f6 f7 v md ln a L hQ r hr t hl) (jw_cwV F.1.2.2.2.2 wl_good w_246 w_247 w_248 w_29 w_249 hd_X_delete ⟨by decide, by decide⟩) 0 0 rfl rfl rfl rfl rfl rfl (Nat.le_of_ble_eq_true rfl) d_L_delete_5 ⟨by decide, by decide⟩ [] ⟨0, 10, 13, 13⟩ [⟨0, 10, 17, 15⟩, ⟨0, 10, 21, 17⟩] htab (fun z hz => by cases hz) (by decide) (by decide) (F.1.2.2.2.2 _ (jm w_86)) (jz_castIAE hZ.1) (fun q9 => ?_)
  refine jw_astore (pc := 13) (lv' := [(0, .ref (ad 0)), (1, .int r), (2, .int t), (3, .ref ao), (4, .ref q9)]) F d_L_delete_13 (by decide) rfl ?_
  refine jw_iconst (pc := 15) (v := 1) F d_L_delete_15 (by decide) ?_
  exact jw_iret F d_L_delete_16 ⟨rfl, rfl⟩
set_option maxHeartbeats 4000000 in
set_option maxRecDepth 100000 in
theorem w_give_1 (l : Launch) (D : va_G) (ad : Nat → Nat) (cB cI cL : ClassId) (f0 f1 f2 f3 f4 f5 f6 f7 : Nat → Int32) (v : Nat → Int64) (md ln : Int32) (a : AS) (L : List Nat) (hQ : cx_R a L f0 f1 f2 f3 f4 f5 f6 f7 v md ln) (r : Int32) (hr : a_isrep r = false) (t : Int32) (hl : l.stackTraces = false) : jw_Ni l D vCl (vTy cB cI cL) y_L_give s_L_give rm_L_give_x [.ref (ad 0), .int r, .int t] (wX ad cB cI cL f0 f1 f2 f3 f4 f5 f6 f7 v md ln) jz_Y (fun r9 w9 => r9 = 1 ∧ w9 = wX ad cB cI cL f0 f1 f2 f3 f4 f5 f6 f7 v md ln) := by
  refine jw_ofWN (cc := b_L_give) (nL := 4) (ret := some .int) (hh := [(0, 6, 9, 13), (0, 6, 12, 15), (0, 6, 15, 17)]) (by decide) rfl (Nat.le_of_ble_eq_true rfl) (fun p e s m args below meth c A F htab hZ => ?_)
  refine jw_at (lv' := [(0, .ref (ad 0)), (1, .int r), (2, .int t)]) (st' := []) (ws' := wX ad cB cI cL f0 f1 f2 f3 f4 f5 f6 f7 v md ln) rfl rfl rfl ?_
  refine jw_aload_n (pc := 0) F 0 d_L_give_0 rfl rfl ?_
  refine jw_iload_n (pc := 1) F 1 d_L_give_1 rfl rfl ?_
  refine jw_iload_n (pc := 2) F 2 d_L_give_2 rfl rfl ?_
  refine jw_xcatch (pc := 3) (As := [.int r, .int t]) (rest := []) (name := "java/lang/IllegalArgumentException") F [] ([]) jz_ok hZ.1 (c_give_x1 l D ad cB cI cL f0 f1 f2 f3 f4 f5 f6 f7 v md ln a L hQ r hr t hl) (jw_cwV F.1.2.2.2.2 wl_good w_253 w_254 w_255 w_29 w_256 hd_X_give ⟨by decide, by decide⟩) 0 0 rfl rfl rfl (by simp) rfl rfl (Nat.le_of_ble_eq_true rfl) d_L_give_3 ⟨by decide, by decide⟩ [] ⟨0, 6, 9, 13⟩ [⟨0, 6, 12, 15⟩, ⟨0, 6, 15, 17⟩] htab (fun z hz => by cases hz) (by decide) (by decide) (F.1.2.2.2.2 _ (jm w_86)) (jz_castIAE hZ.1) (fun q9 => ?_)
  refine jw_astore_n (pc := 9) (lv' := [(0, .ref (ad 0)), (1, .int r), (2, .int t), (3, .ref q9)]) F d_L_give_9 rfl (by decide) rfl ?_
  refine jw_iconst (pc := 10) (v := 1) F d_L_give_10 (by decide) ?_
  exact jw_iret F d_L_give_11 ⟨rfl, rfl⟩
set_option maxHeartbeats 4000000 in
set_option maxRecDepth 100000 in
theorem w_tell_1 (l : Launch) (D : va_G) (ad : Nat → Nat) (cB cI cL : ClassId) (f0 f1 f2 f3 f4 f5 f6 f7 : Nat → Int32) (v : Nat → Int64) (md ln : Int32) (ao : Nat) (o : Nat → Int64) (a : AS) (L : List Nat) (hQ : cx_R a L f0 f1 f2 f3 f4 f5 f6 f7 v md ln) (r : Int32) (hr : a_isrep r = false) (t : Int32) (hl : l.stackTraces = false) : jw_Ni l D vCl (vTy cB cI cL) y_L_tell s_L_tell rm_L_tell_x [.ref (ad 0), .int r, .int t, .ref ao] (wX ad cB cI cL f0 f1 f2 f3 f4 f5 f6 f7 v md ln ++ wO ao cL o) jz_Y (fun r9 w9 => r9 = 1 ∧ w9 = wX ad cB cI cL f0 f1 f2 f3 f4 f5 f6 f7 v md ln ++ wO ao cL o) := by
  refine jw_ofWN (cc := b_L_tell) (nL := 5) (ret := some .int) (hh := [(0, 10, 13, 13)]) (by decide) rfl (Nat.le_of_ble_eq_true rfl) (fun p e s m args below meth c A F htab hZ => ?_)
  refine jw_at (lv' := [(0, .ref (ad 0)), (1, .int r), (2, .int t), (3, .ref ao)]) (st' := []) (ws' := wX ad cB cI cL f0 f1 f2 f3 f4 f5 f6 f7 v md ln ++ wO ao cL o) rfl rfl rfl ?_
  refine jw_aload_n (pc := 0) F 3 d_L_tell_0 rfl rfl ?_
  refine jw_iconst (pc := 1) (v := nI 0) F d_L_tell_1 (by decide) ?_
  refine jw_aload_n (pc := 2) F 0 d_L_tell_2 rfl rfl ?_
  refine jw_iload_n (pc := 3) F 1 d_L_tell_3 rfl rfl ?_
  refine jw_iload_n (pc := 4) F 2 d_L_tell_4 rfl rfl ?_
  refine jw_xcatch (pc := 5) (As := [.int r, .int t]) (rest := [.int (nI 0), .ref ao]) (name := "java/lang/IllegalArgumentException") F [] (wO ao cL o) jz_ok hZ.1 (c_tell_x1 l D ad cB cI cL f0 f1 f2 f3 f4 f5 f6 f7 v md ln a L hQ r hr t hl) (jw_cwV F.1.2.2.2.2 wl_good w_265 w_266 w_267 w_29 w_268 hd_X_tell ⟨by decide, by decide⟩) 0 0 rfl rfl rfl rfl rfl rfl (Nat.le_of_ble_eq_true rfl) d_L_tell_5 ⟨by decide, by decide⟩ [] ⟨0, 10, 13, 13⟩ [] htab (fun z hz => by cases hz) (by decide) (by decide) (F.1.2.2.2.2 _ (jm w_86)) (jz_castIAE hZ.1) (fun q9 => ?_)
  refine jw_astore (pc := 13) (lv' := [(0, .ref (ad 0)), (1, .int r), (2, .int t), (3, .ref ao), (4, .ref q9)]) F d_L_tell_13 (by decide) rfl ?_
  refine jw_iconst (pc := 15) (v := 1) F d_L_tell_15 (by decide) ?_
  exact jw_iret F d_L_tell_16 ⟨rfl, rfl⟩
set_option maxHeartbeats 4000000 in
set_option maxRecDepth 100000 in
theorem w_holds_1 (l : Launch) (D : va_G) (ad : Nat → Nat) (cB cI cL : ClassId) (f0 f1 f2 f3 f4 f5 f6 f7 : Nat → Int32) (v : Nat → Int64) (md ln : Int32) (ao : Nat) (o : Nat → Int64) (a : AS) (L : List Nat) (hQ : cx_R a L f0 f1 f2 f3 f4 f5 f6 f7 v md ln) (r : Int32) (hr : a_isrep r = false) (t : Int32) (hl : l.stackTraces = false) : jw_Ni l D vCl (vTy cB cI cL) y_L_holds s_L_holds rm_L_holds_x [.ref (ad 0), .int r, .int t, .ref ao] (wX ad cB cI cL f0 f1 f2 f3 f4 f5 f6 f7 v md ln ++ wO ao cL o) jz_Y (fun r9 w9 => r9 = 1 ∧ w9 = wX ad cB cI cL f0 f1 f2 f3 f4 f5 f6 f7 v md ln ++ wO ao cL o) := by
  refine jw_ofWN (cc := b_L_holds) (nL := 5) (ret := some .int) (hh := [(0, 17, 20, 13), (0, 17, 24, 15)]) (by decide) rfl (Nat.le_of_ble_eq_true rfl) (fun p e s m args below meth c A F htab hZ => ?_)
  refine jw_at (lv' := [(0, .ref (ad 0)), (1, .int r), (2, .int t), (3, .ref ao)]) (st' := []) (ws' := wX ad cB cI cL f0 f1 f2 f3 f4 f5 f6 f7 v md ln ++ wO ao cL o) rfl rfl rfl ?_
  refine jw_aload_n (pc := 0) F 3 d_L_holds_0 rfl rfl ?_
  refine jw_iconst (pc := 1) (v := nI 0) F d_L_holds_1 (by decide) ?_
  refine jw_aload_n (pc := 2) F 0 d_L_holds_2 rfl rfl ?_
  refine jw_iload_n (pc := 3) F 1 d_L_holds_3 rfl rfl ?_
  refine jw_iload_n (pc := 4) F 2 d_L_holds_4 rfl rfl ?_
  refine jw_xcatch (pc := 5) (As := [.int r, .int t]) (rest := [.int (nI 0), .ref ao]) (name := "java/lang/IllegalArgumentException") F [] (wO ao cL o) jz_ok hZ.1 (c_holds_x1 l D ad cB cI cL f0 f1 f2 f3 f4 f5 f6 f7 v md ln a L hQ r hr t hl) (jw_cwV F.1.2.2.2.2 wl_good w_272 w_273 w_274 w_29 w_275 hd_X_holds ⟨by decide, by decide⟩) 0 0 rfl rfl rfl rfl rfl rfl (Nat.le_of_ble_eq_true rfl) d_L_holds_5 ⟨by decide, by decide⟩ [] ⟨0, 17, 20, 13⟩ [⟨0, 17, 24, 15⟩] htab (fun z hz => by cases hz) (by decide) (by decide) (F.1.2.2.2.2 _ (jm w_86)) (jz_castIAE hZ.1) (fun q9 => ?_)
  refine jw_astore (pc := 20) (lv' := [(0, .ref (ad 0)), (1, .int r), (2, .int t), (3, .ref ao), (4, .ref q9)]) F d_L_holds_20 (by decide) rfl ?_
  refine jw_iconst (pc := 22) (v := 1) F d_L_holds_22 (by decide) ?_
  exact jw_iret F d_L_holds_23 ⟨rfl, rfl⟩
set_option maxHeartbeats 4000000 in
set_option maxRecDepth 100000 in
theorem w_at_1 (l : Launch) (D : va_G) (ad : Nat → Nat) (cB cI cL : ClassId) (f0 f1 f2 f3 f4 f5 f6 f7 : Nat → Int32) (v : Nat → Int64) (md ln : Int32) (ao : Nat) (o : Nat → Int64) (a : AS) (L : List Nat) (hQ : cx_R a L f0 f1 f2 f3 f4 f5 f6 f7 v md ln) (r : Int32) (hr : a_isrep r = false) (t : Int32) (hl : l.stackTraces = false) : jw_Ni l D vCl (vTy cB cI cL) y_L_at s_L_at rm_L_at_x [.ref (ad 0), .int r, .int t, .ref ao] (wX ad cB cI cL f0 f1 f2 f3 f4 f5 f6 f7 v md ln ++ wO ao cL o) jz_Y (fun r9 w9 => r9 = 1 ∧ w9 = wX ad cB cI cL f0 f1 f2 f3 f4 f5 f6 f7 v md ln ++ wO ao cL o) := by
  refine jw_ofWN (cc := b_L_at) (nL := 5) (ret := some .int) (hh := [(0, 10, 13, 13)]) (by decide) rfl (Nat.le_of_ble_eq_true rfl) (fun p e s m args below meth c A F htab hZ => ?_)
  refine jw_at (lv' := [(0, .ref (ad 0)), (1, .int r), (2, .int t), (3, .ref ao)]) (st' := []) (ws' := wX ad cB cI cL f0 f1 f2 f3 f4 f5 f6 f7 v md ln ++ wO ao cL o) rfl rfl rfl ?_
  refine jw_aload_n (pc := 0) F 3 d_L_at_0 rfl rfl ?_
  refine jw_iconst (pc := 1) (v := nI 0) F d_L_at_1 (by decide) ?_
  refine jw_aload_n (pc := 2) F 0 d_L_at_2 rfl rfl ?_
  refine jw_iload_n (pc := 3) F 1 d_L_at_3 rfl rfl ?_
  refine jw_iload_n (pc := 4) F 2 d_L_at_4 rfl rfl ?_
  refine jw_xcatch (pc := 5) (As := [.int r, .int t]) (rest := [.int (nI 0), .ref ao]) (name := "java/lang/IllegalArgumentException") F [] (wO ao cL o) jz_ok hZ.1 (c_at_x1 l D ad cB cI cL f0 f1 f2 f3 f4 f5 f6 f7 v md ln a L hQ r hr t hl) (jw_cwV F.1.2.2.2.2 wl_good w_279 w_280 w_281 w_29 w_282 hd_X_at ⟨by decide, by decide⟩) 0 0 rfl rfl rfl rfl rfl rfl (Nat.le_of_ble_eq_true rfl) d_L_at_5 ⟨by decide, by decide⟩ [] ⟨0, 10, 13, 13⟩ [] htab (fun z hz => by cases hz) (by decide) (by decide) (F.1.2.2.2.2 _ (jm w_86)) (jz_castIAE hZ.1) (fun q9 => ?_)
  refine jw_astore (pc := 13) (lv' := [(0, .ref (ad 0)), (1, .int r), (2, .int t), (3, .ref ao), (4, .ref q9)]) F d_L_at_13 (by decide) rfl ?_
  refine jw_iconst (pc := 15) (v := 1) F d_L_at_15 (by decide) ?_
  exact jw_iret F d_L_at_16 ⟨rfl, rfl⟩
set_option maxHeartbeats 4000000 in
set_option maxRecDepth 100000 in
theorem w_place_1 (l : Launch) (D : va_G) (ad : Nat → Nat) (cB cI cL : ClassId) (f0 f1 f2 f3 f4 f5 f6 f7 : Nat → Int32) (v : Nat → Int64) (md ln : Int32) (ao : Nat) (o : Nat → Int64) (a : AS) (L : List Nat) (hQ : cx_R a L f0 f1 f2 f3 f4 f5 f6 f7 v md ln) (r : Int32) (hr : a_isrep r = false) (t : Int32) (hl : l.stackTraces = false) : jw_Ni l D vCl (vTy cB cI cL) y_L_place s_L_place rm_L_place_x [.ref (ad 0), .int r, .int t, .ref ao] (wX ad cB cI cL f0 f1 f2 f3 f4 f5 f6 f7 v md ln ++ wO ao cL o) jz_Y (fun r9 w9 => r9 = 1 ∧ w9 = wX ad cB cI cL f0 f1 f2 f3 f4 f5 f6 f7 v md ln ++ wO ao cL o) := by
  refine jw_ofWN (cc := b_L_place) (nL := 5) (ret := some .int) (hh := [(0, 10, 13, 13), (0, 10, 17, 15), (0, 10, 21, 17)]) (by decide) rfl (Nat.le_of_ble_eq_true rfl) (fun p e s m args below meth c A F htab hZ => ?_)
  refine jw_at (lv' := [(0, .ref (ad 0)), (1, .int r), (2, .int t), (3, .ref ao)]) (st' := []) (ws' := wX ad cB cI cL f0 f1 f2 f3 f4 f5 f6 f7 v md ln ++ wO ao cL o) rfl rfl rfl ?_
  refine jw_aload_n (pc := 0) F 3 d_L_place_0 rfl rfl ?_
  refine jw_iconst (pc := 1) (v := nI 0) F d_L_place_1 (by decide) ?_
  refine jw_aload_n (pc := 2) F 0 d_L_place_2 rfl rfl ?_
  refine jw_iload_n (pc := 3) F 1 d_L_place_3 rfl rfl ?_
  refine jw_iload_n (pc := 4) F 2 d_L_place_4 rfl rfl ?_
  refine jw_xcatch (pc := 5) (As := [.int r, .int t]) (rest := [.int (nI 0), .ref ao]) (name := "java/lang/IllegalArgumentException") F [] (wO ao cL o) jz_ok hZ.1 (c_place_x1 l D ad cB cI cL f0 f1 f2 f3 f4 f5 f6 f7 v md ln a L hQ r hr t hl) (jw_cwV F.1.2.2.2.2 wl_good w_290 w_291 w_292 w_29 w_293 hd_X_place ⟨by decide, by decide⟩) 0 0 rfl rfl rfl rfl rfl rfl (Nat.le_of_ble_eq_true rfl) d_L_place_5 ⟨by decide, by decide⟩ [] ⟨0, 10, 13, 13⟩ [⟨0, 10, 17, 15⟩, ⟨0, 10, 21, 17⟩] htab (fun z hz => by cases hz) (by decide) (by decide) (F.1.2.2.2.2 _ (jm w_86)) (jz_castIAE hZ.1) (fun q9 => ?_)
  refine jw_astore (pc := 13) (lv' := [(0, .ref (ad 0)), (1, .int r), (2, .int t), (3, .ref ao), (4, .ref q9)]) F d_L_place_13 (by decide) rfl ?_
  refine jw_iconst (pc := 15) (v := 1) F d_L_place_15 (by decide) ?_
  exact jw_iret F d_L_place_16 ⟨rfl, rfl⟩
set_option maxHeartbeats 4000000 in
set_option maxRecDepth 100000 in
theorem w_count_1 (l : Launch) (D : va_G) (ad : Nat → Nat) (cB cI cL : ClassId) (f0 f1 f2 f3 f4 f5 f6 f7 : Nat → Int32) (v : Nat → Int64) (md ln : Int32) (ao : Nat) (o : Nat → Int64) (a : AS) (L : List Nat) (hQ : cx_R a L f0 f1 f2 f3 f4 f5 f6 f7 v md ln) (r : Int32) (hr : a_isrep r = false) (t : Int32) (hl : l.stackTraces = false) : jw_Ni l D vCl (vTy cB cI cL) y_L_count s_L_count rm_L_count_x [.ref (ad 0), .int r, .int t, .ref ao] (wX ad cB cI cL f0 f1 f2 f3 f4 f5 f6 f7 v md ln ++ wO ao cL o) jz_Y (fun r9 w9 => r9 = 1 ∧ w9 = wX ad cB cI cL f0 f1 f2 f3 f4 f5 f6 f7 v md ln ++ wO ao cL o) := by
  refine jw_ofWN (cc := b_L_count) (nL := 5) (ret := some .int) (hh := [(0, 10, 13, 13)]) (by decide) rfl (Nat.le_of_ble_eq_true rfl) (fun p e s m args below meth c A F htab hZ => ?_)
  refine jw_at (lv' := [(0, .ref (ad 0)), (1, .int r), (2, .int t), (3, .ref ao)]) (st' := []) (ws' := wX ad cB cI cL f0 f1 f2 f3 f4 f5 f6 f7 v md ln ++ wO ao cL o) rfl rfl rfl ?_
  refine jw_aload_n (pc := 0) F 3 d_L_count_0 rfl rfl ?_
  refine jw_iconst (pc := 1) (v := nI 0) F d_L_count_1 (by decide) ?_
  refine jw_aload_n (pc := 2) F 0 d_L_count_2 rfl rfl ?_
  refine jw_iload_n (pc := 3) F 1 d_L_count_3 rfl rfl ?_
  refine jw_iload_n (pc := 4) F 2 d_L_count_4 rfl rfl ?_
  refine jw_xcatch (pc := 5) (As := [.int r, .int t]) (rest := [.int (nI 0), .ref ao]) (name := "java/lang/IllegalArgumentException") F [] (wO ao cL o) jz_ok hZ.1 (c_count_x1 l D ad cB cI cL f0 f1 f2 f3 f4 f5 f6 f7 v md ln a L hQ r hr t hl) (jw_cwV F.1.2.2.2.2 wl_good w_312 w_313 w_314 w_29 w_315 hd_X_count ⟨by decide, by decide⟩) 0 0 rfl rfl rfl rfl rfl rfl (Nat.le_of_ble_eq_true rfl) d_L_count_5 ⟨by decide, by decide⟩ [] ⟨0, 10, 13, 13⟩ [] htab (fun z hz => by cases hz) (by decide) (by decide) (F.1.2.2.2.2 _ (jm w_86)) (jz_castIAE hZ.1) (fun q9 => ?_)
  refine jw_astore (pc := 13) (lv' := [(0, .ref (ad 0)), (1, .int r), (2, .int t), (3, .ref ao), (4, .ref q9)]) F d_L_count_13 (by decide) rfl ?_
  refine jw_iconst (pc := 15) (v := 1) F d_L_count_15 (by decide) ?_
  exact jw_iret F d_L_count_16 ⟨rfl, rfl⟩
set_option maxHeartbeats 4000000 in
set_option maxRecDepth 100000 in
theorem w_same_1 (l : Launch) (D : va_G) (ad : Nat → Nat) (cB cI cL : ClassId) (f0 f1 f2 f3 f4 f5 f6 f7 : Nat → Int32) (v : Nat → Int64) (md ln : Int32) (ao : Nat) (o : Nat → Int64) (a : AS) (L : List Nat) (hQ : cx_R a L f0 f1 f2 f3 f4 f5 f6 f7 v md ln) (r : Int32) (hr : a_isrep r = false) (t : Int32) (hl : l.stackTraces = false) : jw_Ni l D vCl (vTy cB cI cL) y_L_same s_L_same rm_L_same_x [.ref (ad 0), .int r, .int t, .ref ao] (wX ad cB cI cL f0 f1 f2 f3 f4 f5 f6 f7 v md ln ++ wO ao cL o) jz_Y (fun r9 w9 => r9 = 1 ∧ w9 = wX ad cB cI cL f0 f1 f2 f3 f4 f5 f6 f7 v md ln ++ wO ao cL o) := by
  refine jw_ofWN (cc := b_L_same) (nL := 5) (ret := some .int) (hh := [(0, 17, 20, 13)]) (by decide) rfl (Nat.le_of_ble_eq_true rfl) (fun p e s m args below meth c A F htab hZ => ?_)
  refine jw_at (lv' := [(0, .ref (ad 0)), (1, .int r), (2, .int t), (3, .ref ao)]) (st' := []) (ws' := wX ad cB cI cL f0 f1 f2 f3 f4 f5 f6 f7 v md ln ++ wO ao cL o) rfl rfl rfl ?_
  refine jw_aload_n (pc := 0) F 3 d_L_same_0 rfl rfl ?_
  refine jw_iconst (pc := 1) (v := nI 0) F d_L_same_1 (by decide) ?_
  refine jw_aload_n (pc := 2) F 0 d_L_same_2 rfl rfl ?_
  refine jw_iload_n (pc := 3) F 1 d_L_same_3 rfl rfl ?_
  refine jw_iload_n (pc := 4) F 2 d_L_same_4 rfl rfl ?_
  refine jw_xcatch (pc := 5) (As := [.int r, .int t]) (rest := [.int (nI 0), .ref ao]) (name := "java/lang/IllegalArgumentException") F [] (wO ao cL o) jz_ok hZ.1 (c_same_x1 l D ad cB cI cL f0 f1 f2 f3 f4 f5 f6 f7 v md ln a L hQ r hr t hl) (jw_cwV F.1.2.2.2.2 wl_good w_332 w_333 w_334 w_29 w_335 hd_X_same ⟨by decide, by decide⟩) 0 0 rfl rfl rfl rfl rfl rfl (Nat.le_of_ble_eq_true rfl) d_L_same_5 ⟨by decide, by decide⟩ [] ⟨0, 17, 20, 13⟩ [] htab (fun z hz => by cases hz) (by decide) (by decide) (F.1.2.2.2.2 _ (jm w_86)) (jz_castIAE hZ.1) (fun q9 => ?_)
  refine jw_astore (pc := 20) (lv' := [(0, .ref (ad 0)), (1, .int r), (2, .int t), (3, .ref ao), (4, .ref q9)]) F d_L_same_20 (by decide) rfl ?_
  refine jw_iconst (pc := 22) (v := 1) F d_L_same_22 (by decide) ?_
  exact jw_iret F d_L_same_23 ⟨rfl, rfl⟩
set_option maxHeartbeats 4000000 in
set_option maxRecDepth 100000 in
theorem w_tell_2 (l : Launch) (D : va_G) (ad : Nat → Nat) (cB cI cL : ClassId) (f0 f1 f2 f3 f4 f5 f6 f7 : Nat → Int32) (v : Nat → Int64) (md ln : Int32) (ao : Nat) (o : Nat → Int64) (a : AS) (L : List Nat) (hQ : cx_R a L f0 f1 f2 f3 f4 f5 f6 f7 v md ln) (r : Nat) (hr : r < 4) (t : Int32) (ht : a_isrep t = false) (hl : l.stackTraces = false) : jw_Ni l D vCl (vTy cB cI cL) y_L_tell s_L_tell rm_L_tell_x [.ref (ad 0), .int (nI r), .int t, .ref ao] (wX ad cB cI cL f0 f1 f2 f3 f4 f5 f6 f7 v md ln ++ wO ao cL o) jz_Y (fun r9 w9 => r9 = 1 ∧ w9 = wX ad cB cI cL f0 f1 f2 f3 f4 f5 f6 f7 v md ln ++ wO ao cL o) := by
  refine jw_ofWN (cc := b_L_tell) (nL := 5) (ret := some .int) (hh := [(0, 10, 13, 13)]) (by decide) rfl (Nat.le_of_ble_eq_true rfl) (fun p e s m args below meth c A F htab hZ => ?_)
  refine jw_at (lv' := [(0, .ref (ad 0)), (1, .int (nI r)), (2, .int t), (3, .ref ao)]) (st' := []) (ws' := wX ad cB cI cL f0 f1 f2 f3 f4 f5 f6 f7 v md ln ++ wO ao cL o) rfl rfl rfl ?_
  refine jw_aload_n (pc := 0) F 3 d_L_tell_0 rfl rfl ?_
  refine jw_iconst (pc := 1) (v := nI 0) F d_L_tell_1 (by decide) ?_
  refine jw_aload_n (pc := 2) F 0 d_L_tell_2 rfl rfl ?_
  refine jw_iload_n (pc := 3) F 1 d_L_tell_3 rfl rfl ?_
  refine jw_iload_n (pc := 4) F 2 d_L_tell_4 rfl rfl ?_
  refine jw_xcatch (pc := 5) (As := [.int (nI r), .int t]) (rest := [.int (nI 0), .ref ao]) (name := "java/lang/IllegalArgumentException") F [] (wO ao cL o) jz_ok hZ.1 (c_tell_x2 l D ad cB cI cL f0 f1 f2 f3 f4 f5 f6 f7 v md ln a L hQ r hr t ht hl) (jw_cwV F.1.2.2.2.2 wl_good w_265 w_266 w_267 w_29 w_268 hd_X_tell ⟨by decide, by decide⟩) 0 0 rfl rfl rfl rfl rfl rfl (Nat.le_of_ble_eq_true rfl) d_L_tell_5 ⟨by decide, by decide⟩ [] ⟨0, 10, 13, 13⟩ [] htab (fun z hz => by cases hz) (by decide) (by decide) (F.1.2.2.2.2 _ (jm w_86)) (jz_castIAE hZ.1) (fun q9 => ?_)
  refine jw_astore (pc := 13) (lv' := [(0, .ref (ad 0)), (1, .int (nI r)), (2, .int t), (3, .ref ao), (4, .ref q9)]) F d_L_tell_13 (by decide) rfl ?_
  refine jw_iconst (pc := 15) (v := 1) F d_L_tell_15 (by decide) ?_
  exact jw_iret F d_L_tell_16 ⟨rfl, rfl⟩
set_option maxHeartbeats 4000000 in
set_option maxRecDepth 100000 in
theorem w_same_2 (l : Launch) (D : va_G) (ad : Nat → Nat) (cB cI cL : ClassId) (f0 f1 f2 f3 f4 f5 f6 f7 : Nat → Int32) (v : Nat → Int64) (md ln : Int32) (ao : Nat) (o : Nat → Int64) (a : AS) (L : List Nat) (hQ : cx_R a L f0 f1 f2 f3 f4 f5 f6 f7 v md ln) (r : Nat) (hr : r < 4) (t : Int32) (ht : a_isrep t = false) (hl : l.stackTraces = false) : jw_Ni l D vCl (vTy cB cI cL) y_L_same s_L_same rm_L_same_x [.ref (ad 0), .int (nI r), .int t, .ref ao] (wX ad cB cI cL f0 f1 f2 f3 f4 f5 f6 f7 v md ln ++ wO ao cL o) jz_Y (fun r9 w9 => r9 = 1 ∧ w9 = wX ad cB cI cL f0 f1 f2 f3 f4 f5 f6 f7 v md ln ++ wO ao cL o) := by
  refine jw_ofWN (cc := b_L_same) (nL := 5) (ret := some .int) (hh := [(0, 17, 20, 13)]) (by decide) rfl (Nat.le_of_ble_eq_true rfl) (fun p e s m args below meth c A F htab hZ => ?_)
  refine jw_at (lv' := [(0, .ref (ad 0)), (1, .int (nI r)), (2, .int t), (3, .ref ao)]) (st' := []) (ws' := wX ad cB cI cL f0 f1 f2 f3 f4 f5 f6 f7 v md ln ++ wO ao cL o) rfl rfl rfl ?_
  refine jw_aload_n (pc := 0) F 3 d_L_same_0 rfl rfl ?_
  refine jw_iconst (pc := 1) (v := nI 0) F d_L_same_1 (by decide) ?_
  refine jw_aload_n (pc := 2) F 0 d_L_same_2 rfl rfl ?_
  refine jw_iload_n (pc := 3) F 1 d_L_same_3 rfl rfl ?_
  refine jw_iload_n (pc := 4) F 2 d_L_same_4 rfl rfl ?_
  refine jw_xcatch (pc := 5) (As := [.int (nI r), .int t]) (rest := [.int (nI 0), .ref ao]) (name := "java/lang/IllegalArgumentException") F [] (wO ao cL o) jz_ok hZ.1 (c_same_x2 l D ad cB cI cL f0 f1 f2 f3 f4 f5 f6 f7 v md ln a L hQ r hr t ht hl) (jw_cwV F.1.2.2.2.2 wl_good w_332 w_333 w_334 w_29 w_335 hd_X_same ⟨by decide, by decide⟩) 0 0 rfl rfl rfl rfl rfl rfl (Nat.le_of_ble_eq_true rfl) d_L_same_5 ⟨by decide, by decide⟩ [] ⟨0, 17, 20, 13⟩ [] htab (fun z hz => by cases hz) (by decide) (by decide) (F.1.2.2.2.2 _ (jm w_86)) (jz_castIAE hZ.1) (fun q9 => ?_)
  refine jw_astore (pc := 20) (lv' := [(0, .ref (ad 0)), (1, .int (nI r)), (2, .int t), (3, .ref ao), (4, .ref q9)]) F d_L_same_20 (by decide) rfl ?_
  refine jw_iconst (pc := 22) (v := 1) F d_L_same_22 (by decide) ?_
  exact jw_iret F d_L_same_23 ⟨rfl, rfl⟩
set_option maxHeartbeats 4000000 in
set_option maxRecDepth 100000 in
theorem w_count_2 (l : Launch) (D : va_G) (ad : Nat → Nat) (cB cI cL : ClassId) (f0 f1 f2 f3 f4 f5 f6 f7 : Nat → Int32) (v : Nat → Int64) (md ln : Int32) (ao : Nat) (o : Nat → Int64) (a : AS) (L : List Nat) (hQ : cx_R a L f0 f1 f2 f3 f4 f5 f6 f7 v md ln) (r : Nat) (hr : r < 4) (t : Int32) (ht : a_isop 4 t = false) (hl : l.stackTraces = false) : jw_Ni l D vCl (vTy cB cI cL) y_L_count s_L_count rm_L_count_x [.ref (ad 0), .int (nI r), .int t, .ref ao] (wX ad cB cI cL f0 f1 f2 f3 f4 f5 f6 f7 v md ln ++ wO ao cL o) jz_Y (fun r9 w9 => r9 = 1 ∧ w9 = wX ad cB cI cL f0 f1 f2 f3 f4 f5 f6 f7 v md ln ++ wO ao cL o) := by
  refine jw_ofWN (cc := b_L_count) (nL := 5) (ret := some .int) (hh := [(0, 10, 13, 13)]) (by decide) rfl (Nat.le_of_ble_eq_true rfl) (fun p e s m args below meth c A F htab hZ => ?_)
  refine jw_at (lv' := [(0, .ref (ad 0)), (1, .int (nI r)), (2, .int t), (3, .ref ao)]) (st' := []) (ws' := wX ad cB cI cL f0 f1 f2 f3 f4 f5 f6 f7 v md ln ++ wO ao cL o) rfl rfl rfl ?_
  refine jw_aload_n (pc := 0) F 3 d_L_count_0 rfl rfl ?_
  refine jw_iconst (pc := 1) (v := nI 0) F d_L_count_1 (by decide) ?_
  refine jw_aload_n (pc := 2) F 0 d_L_count_2 rfl rfl ?_
  refine jw_iload_n (pc := 3) F 1 d_L_count_3 rfl rfl ?_
  refine jw_iload_n (pc := 4) F 2 d_L_count_4 rfl rfl ?_
  refine jw_xcatch (pc := 5) (As := [.int (nI r), .int t]) (rest := [.int (nI 0), .ref ao]) (name := "java/lang/IllegalArgumentException") F [] (wO ao cL o) jz_ok hZ.1 (c_count_x2 l D ad cB cI cL f0 f1 f2 f3 f4 f5 f6 f7 v md ln a L hQ r hr t ht hl) (jw_cwV F.1.2.2.2.2 wl_good w_312 w_313 w_314 w_29 w_315 hd_X_count ⟨by decide, by decide⟩) 0 0 rfl rfl rfl rfl rfl rfl (Nat.le_of_ble_eq_true rfl) d_L_count_5 ⟨by decide, by decide⟩ [] ⟨0, 10, 13, 13⟩ [] htab (fun z hz => by cases hz) (by decide) (by decide) (F.1.2.2.2.2 _ (jm w_86)) (jz_castIAE hZ.1) (fun q9 => ?_)
  refine jw_astore (pc := 13) (lv' := [(0, .ref (ad 0)), (1, .int (nI r)), (2, .int t), (3, .ref ao), (4, .ref q9)]) F d_L_count_13 (by decide) rfl ?_
  refine jw_iconst (pc := 15) (v := 1) F d_L_count_15 (by decide) ?_
  exact jw_iret F d_L_count_16 ⟨rfl, rfl⟩
set_option maxHeartbeats 4000000 in
set_option maxRecDepth 100000 in
theorem w_insert_2 (l : Launch) (D : va_G) (ad : Nat → Nat) (cB cI cL : ClassId) (f0 f1 f2 f3 f4 f5 f6 f7 : Nat → Int32) (v : Nat → Int64) (md ln : Int32) (ao : Nat) (o : Nat → Int64) (a : AS) (L : List Nat) (hQ : cx_R a L f0 f1 f2 f3 f4 f5 f6 f7 v md ln) (r : Nat) (hr : r < 4) (hn1 : a_n a = 160) (t : Int32) (vv : Int64) (hl : l.stackTraces = false) : jw_Ni l D vCl (vTy cB cI cL) y_L_insert s_L_insert rm_L_insert_x [.ref (ad 0), .int (nI r), .int t, .long vv, .ref ao] (wX ad cB cI cL f0 f1 f2 f3 f4 f5 f6 f7 v md ln ++ wO ao cL o) jz_Y (fun r9 w9 => r9 = 2 ∧ w9 = wX ad cB cI cL f0 f1 f2 f3 f4 f5 f6 f7 v md ln ++ wO ao cL o) := by
  refine jw_ofWN (cc := b_L_insert) (nL := 7) (ret := some .int) (hh := [(0, 12, 15, 13), (0, 12, 19, 15), (0, 12, 23, 17)]) (by decide) rfl (Nat.le_of_ble_eq_true rfl) (fun p e s m args below meth c A F htab hZ => ?_)
  refine jw_at (lv' := [(0, .ref (ad 0)), (1, .int (nI r)), (2, .int t), (3, .long vv), (5, .ref ao)]) (st' := []) (ws' := wX ad cB cI cL f0 f1 f2 f3 f4 f5 f6 f7 v md ln ++ wO ao cL o) rfl rfl rfl ?_
  refine jw_aload (pc := 0) F 4 d_L_insert_0 rfl ?_
  refine jw_iconst (pc := 2) (v := nI 0) F d_L_insert_2 (by decide) ?_
  refine jw_aload_n (pc := 3) F 0 d_L_insert_3 rfl rfl ?_
  refine jw_iload_n (pc := 4) F 1 d_L_insert_4 rfl rfl ?_
  refine jw_iload_n (pc := 5) F 2 d_L_insert_5 rfl rfl ?_
  refine jw_lload_n (pc := 6) F 3 d_L_insert_6 rfl rfl ?_
  refine jw_xcatch (pc := 7) (As := [.int (nI r), .int t, .long vv]) (rest := [.int (nI 0), .ref ao]) (name := "java/lang/IndexOutOfBoundsException") F [] (wO ao cL o) jz_ok hZ.1 (c_insert_x2 l D ad cB cI cL f0 f1 f2 f3 f4 f5 f6 f7 v md ln a L hQ r hr hn1 t vv hl) (jw_cwV F.1.2.2.2.2 wl_good w_89 w_90 w_91 w_29 w_92 hd_X_insert ⟨by decide, by decide⟩) 0 0 rfl rfl rfl rfl rfl rfl (Nat.le_of_ble_eq_true rfl) d_L_insert_7 ⟨by decide, by decide⟩ [⟨0, 12, 15, 13⟩] ⟨0, 12, 19, 15⟩ [⟨0, 12, 23, 17⟩] htab (List.forall_mem_cons.mpr ⟨Or.inr ⟨by decide, _, F.1.2.2.2.2 _ (jm w_86), hZ.2.1⟩, fun z hz => by cases hz⟩) (by decide) (by decide) (F.1.2.2.2.2 _ (jm w_87)) (jz_castIOB hZ.1) (fun q9 => ?_)
  refine jw_astore (pc := 19) (lv' := [(0, .ref (ad 0)), (1, .int (nI r)), (2, .int t), (3, .long vv), (5, .ref ao), (6, .ref q9)]) F d_L_insert_19 (by decide) rfl ?_
  refine jw_iconst (pc := 21) (v := 2) F d_L_insert_21 (by decide) ?_
  exact jw_iret F d_L_insert_22 ⟨rfl, rfl⟩
set_option maxHeartbeats 4000000 in
set_option maxRecDepth 100000 in
theorem w_delete_2 (l : Launch) (D : va_G) (ad : Nat → Nat) (cB cI cL : ClassId) (f0 f1 f2 f3 f4 f5 f6 f7 : Nat → Int32) (v : Nat → Int64) (md ln : Int32) (ao : Nat) (o : Nat → Int64) (a : AS) (L : List Nat) (hQ : cx_R a L f0 f1 f2 f3 f4 f5 f6 f7 v md ln) (r : Nat) (hr : r < 4) (hn1 : a_n a = 160) (t : Int32) (hl : l.stackTraces = false) : jw_Ni l D vCl (vTy cB cI cL) y_L_delete s_L_delete rm_L_delete_x [.ref (ad 0), .int (nI r), .int t, .ref ao] (wX ad cB cI cL f0 f1 f2 f3 f4 f5 f6 f7 v md ln ++ wO ao cL o) jz_Y (fun r9 w9 => r9 = 2 ∧ w9 = wX ad cB cI cL f0 f1 f2 f3 f4 f5 f6 f7 v md ln ++ wO ao cL o) := by
  refine jw_ofWN (cc := b_L_delete) (nL := 5) (ret := some .int) (hh := [(0, 10, 13, 13), (0, 10, 17, 15), (0, 10, 21, 17)]) (by decide) rfl (Nat.le_of_ble_eq_true rfl) (fun p e s m args below meth c A F htab hZ => ?_)
  refine jw_at (lv' := [(0, .ref (ad 0)), (1, .int (nI r)), (2, .int t), (3, .ref ao)]) (st' := []) (ws' := wX ad cB cI cL f0 f1 f2 f3 f4 f5 f6 f7 v md ln ++ wO ao cL o) rfl rfl rfl ?_
  refine jw_aload_n (pc := 0) F 3 d_L_delete_0 rfl rfl ?_
  refine jw_iconst (pc := 1) (v := nI 0) F d_L_delete_1 (by decide) ?_
  refine jw_aload_n (pc := 2) F 0 d_L_delete_2 rfl rfl ?_
  refine jw_iload_n (pc := 3) F 1 d_L_delete_3 rfl rfl ?_
  refine jw_iload_n (pc := 4) F 2 d_L_delete_4 rfl rfl ?_
  refine jw_xcatch (pc := 5) (As := [.int (nI r), .int t]) (rest := [.int (nI 0), .ref ao]) (name := "java/lang/IndexOutOfBoundsException") F [] (wO ao cL o) jz_ok hZ.1 (c_delete_x2 l D ad cB cI cL f0 f1 f2 f3 f4 f5 f6 f7 v md ln a L hQ r hr hn1 t hl) (jw_cwV F.1.2.2.2.2 wl_good w_246 w_247 w_248 w_29 w_249 hd_X_delete ⟨by decide, by decide⟩) 0 0 rfl rfl rfl rfl rfl rfl (Nat.le_of_ble_eq_true rfl) d_L_delete_5 ⟨by decide, by decide⟩ [⟨0, 10, 13, 13⟩] ⟨0, 10, 17, 15⟩ [⟨0, 10, 21, 17⟩] htab (List.forall_mem_cons.mpr ⟨Or.inr ⟨by decide, _, F.1.2.2.2.2 _ (jm w_86), hZ.2.1⟩, fun z hz => by cases hz⟩) (by decide) (by decide) (F.1.2.2.2.2 _ (jm w_87)) (jz_castIOB hZ.1) (fun q9 => ?_)
  refine jw_astore (pc := 17) (lv' := [(0, .ref (ad 0)), (1, .int (nI r)), (2, .int t), (3, .ref ao), (4, .ref q9)]) F d_L_delete_17 (by decide) rfl ?_
  refine jw_iconst (pc := 19) (v := 2) F d_L_delete_19 (by decide) ?_
  exact jw_iret F d_L_delete_20 ⟨rfl, rfl⟩
set_option maxHeartbeats 4000000 in
set_option maxRecDepth 100000 in
theorem w_give_2 (l : Launch) (D : va_G) (ad : Nat → Nat) (cB cI cL : ClassId) (f0 f1 f2 f3 f4 f5 f6 f7 : Nat → Int32) (v : Nat → Int64) (md ln : Int32) (a : AS) (L : List Nat) (hQ : cx_R a L f0 f1 f2 f3 f4 f5 f6 f7 v md ln) (r : Nat) (hr : r < 4) (t : Int32) (ht : a_isop (a_n a) t = false) (hl : l.stackTraces = false) : jw_Ni l D vCl (vTy cB cI cL) y_L_give s_L_give rm_L_give_x [.ref (ad 0), .int (nI r), .int t] (wX ad cB cI cL f0 f1 f2 f3 f4 f5 f6 f7 v md ln) jz_Y (fun r9 w9 => r9 = 2 ∧ w9 = wX ad cB cI cL f0 f1 f2 f3 f4 f5 f6 f7 v md ln) := by
  refine jw_ofWN (cc := b_L_give) (nL := 4) (ret := some .int) (hh := [(0, 6, 9, 13), (0, 6, 12, 15), (0, 6, 15, 17)]) (by decide) rfl (Nat.le_of_ble_eq_true rfl) (fun p e s m args below meth c A F htab hZ => ?_)
  refine jw_at (lv' := [(0, .ref (ad 0)), (1, .int (nI r)), (2, .int t)]) (st' := []) (ws' := wX ad cB cI cL f0 f1 f2 f3 f4 f5 f6 f7 v md ln) rfl rfl rfl ?_
  refine jw_aload_n (pc := 0) F 0 d_L_give_0 rfl rfl ?_
  refine jw_iload_n (pc := 1) F 1 d_L_give_1 rfl rfl ?_
  refine jw_iload_n (pc := 2) F 2 d_L_give_2 rfl rfl ?_
  refine jw_xcatch (pc := 3) (As := [.int (nI r), .int t]) (rest := []) (name := "java/lang/IndexOutOfBoundsException") F [] ([]) jz_ok hZ.1 (c_give_x2 l D ad cB cI cL f0 f1 f2 f3 f4 f5 f6 f7 v md ln a L hQ r hr t ht hl) (jw_cwV F.1.2.2.2.2 wl_good w_253 w_254 w_255 w_29 w_256 hd_X_give ⟨by decide, by decide⟩) 0 0 rfl rfl rfl (by simp) rfl rfl (Nat.le_of_ble_eq_true rfl) d_L_give_3 ⟨by decide, by decide⟩ [⟨0, 6, 9, 13⟩] ⟨0, 6, 12, 15⟩ [⟨0, 6, 15, 17⟩] htab (List.forall_mem_cons.mpr ⟨Or.inr ⟨by decide, _, F.1.2.2.2.2 _ (jm w_86), hZ.2.1⟩, fun z hz => by cases hz⟩) (by decide) (by decide) (F.1.2.2.2.2 _ (jm w_87)) (jz_castIOB hZ.1) (fun q9 => ?_)
  refine jw_astore_n (pc := 12) (lv' := [(0, .ref (ad 0)), (1, .int (nI r)), (2, .int t), (3, .ref q9)]) F d_L_give_12 rfl (by decide) rfl ?_
  refine jw_iconst (pc := 13) (v := 2) F d_L_give_13 (by decide) ?_
  exact jw_iret F d_L_give_14 ⟨rfl, rfl⟩
set_option maxHeartbeats 4000000 in
set_option maxRecDepth 100000 in
theorem w_holds_2 (l : Launch) (D : va_G) (ad : Nat → Nat) (cB cI cL : ClassId) (f0 f1 f2 f3 f4 f5 f6 f7 : Nat → Int32) (v : Nat → Int64) (md ln : Int32) (ao : Nat) (o : Nat → Int64) (a : AS) (L : List Nat) (hQ : cx_R a L f0 f1 f2 f3 f4 f5 f6 f7 v md ln) (r : Nat) (hr : r < 4) (t : Int32) (ht : a_isop (a_n a) t = false) (hl : l.stackTraces = false) : jw_Ni l D vCl (vTy cB cI cL) y_L_holds s_L_holds rm_L_holds_x [.ref (ad 0), .int (nI r), .int t, .ref ao] (wX ad cB cI cL f0 f1 f2 f3 f4 f5 f6 f7 v md ln ++ wO ao cL o) jz_Y (fun r9 w9 => r9 = 2 ∧ w9 = wX ad cB cI cL f0 f1 f2 f3 f4 f5 f6 f7 v md ln ++ wO ao cL o) := by
  refine jw_ofWN (cc := b_L_holds) (nL := 5) (ret := some .int) (hh := [(0, 17, 20, 13), (0, 17, 24, 15)]) (by decide) rfl (Nat.le_of_ble_eq_true rfl) (fun p e s m args below meth c A F htab hZ => ?_)
  refine jw_at (lv' := [(0, .ref (ad 0)), (1, .int (nI r)), (2, .int t), (3, .ref ao)]) (st' := []) (ws' := wX ad cB cI cL f0 f1 f2 f3 f4 f5 f6 f7 v md ln ++ wO ao cL o) rfl rfl rfl ?_
  refine jw_aload_n (pc := 0) F 3 d_L_holds_0 rfl rfl ?_
  refine jw_iconst (pc := 1) (v := nI 0) F d_L_holds_1 (by decide) ?_
  refine jw_aload_n (pc := 2) F 0 d_L_holds_2 rfl rfl ?_
  refine jw_iload_n (pc := 3) F 1 d_L_holds_3 rfl rfl ?_
  refine jw_iload_n (pc := 4) F 2 d_L_holds_4 rfl rfl ?_
  refine jw_xcatch (pc := 5) (As := [.int (nI r), .int t]) (rest := [.int (nI 0), .ref ao]) (name := "java/lang/IndexOutOfBoundsException") F [] (wO ao cL o) jz_ok hZ.1 (c_holds_x2 l D ad cB cI cL f0 f1 f2 f3 f4 f5 f6 f7 v md ln a L hQ r hr t ht hl) (jw_cwV F.1.2.2.2.2 wl_good w_272 w_273 w_274 w_29 w_275 hd_X_holds ⟨by decide, by decide⟩) 0 0 rfl rfl rfl rfl rfl rfl (Nat.le_of_ble_eq_true rfl) d_L_holds_5 ⟨by decide, by decide⟩ [⟨0, 17, 20, 13⟩] ⟨0, 17, 24, 15⟩ [] htab (List.forall_mem_cons.mpr ⟨Or.inr ⟨by decide, _, F.1.2.2.2.2 _ (jm w_86), hZ.2.1⟩, fun z hz => by cases hz⟩) (by decide) (by decide) (F.1.2.2.2.2 _ (jm w_87)) (jz_castIOB hZ.1) (fun q9 => ?_)
  refine jw_astore (pc := 24) (lv' := [(0, .ref (ad 0)), (1, .int (nI r)), (2, .int t), (3, .ref ao), (4, .ref q9)]) F d_L_holds_24 (by decide) rfl ?_
  refine jw_iconst (pc := 26) (v := 2) F d_L_holds_26 (by decide) ?_
  exact jw_iret F d_L_holds_27 ⟨rfl, rfl⟩
set_option maxHeartbeats 4000000 in
set_option maxRecDepth 100000 in
theorem w_place_2 (l : Launch) (D : va_G) (ad : Nat → Nat) (cB cI cL : ClassId) (f0 f1 f2 f3 f4 f5 f6 f7 : Nat → Int32) (v : Nat → Int64) (md ln : Int32) (ao : Nat) (o : Nat → Int64) (a : AS) (L : List Nat) (hQ : cx_R a L f0 f1 f2 f3 f4 f5 f6 f7 v md ln) (r : Nat) (hr : r < 4) (t : Int32) (ht : a_isop (a_n a) t = false) (hl : l.stackTraces = false) : jw_Ni l D vCl (vTy cB cI cL) y_L_place s_L_place rm_L_place_x [.ref (ad 0), .int (nI r), .int t, .ref ao] (wX ad cB cI cL f0 f1 f2 f3 f4 f5 f6 f7 v md ln ++ wO ao cL o) jz_Y (fun r9 w9 => r9 = 2 ∧ w9 = wX ad cB cI cL f0 f1 f2 f3 f4 f5 f6 f7 v md ln ++ wO ao cL o) := by
  refine jw_ofWN (cc := b_L_place) (nL := 5) (ret := some .int) (hh := [(0, 10, 13, 13), (0, 10, 17, 15), (0, 10, 21, 17)]) (by decide) rfl (Nat.le_of_ble_eq_true rfl) (fun p e s m args below meth c A F htab hZ => ?_)
  refine jw_at (lv' := [(0, .ref (ad 0)), (1, .int (nI r)), (2, .int t), (3, .ref ao)]) (st' := []) (ws' := wX ad cB cI cL f0 f1 f2 f3 f4 f5 f6 f7 v md ln ++ wO ao cL o) rfl rfl rfl ?_
  refine jw_aload_n (pc := 0) F 3 d_L_place_0 rfl rfl ?_
  refine jw_iconst (pc := 1) (v := nI 0) F d_L_place_1 (by decide) ?_
  refine jw_aload_n (pc := 2) F 0 d_L_place_2 rfl rfl ?_
  refine jw_iload_n (pc := 3) F 1 d_L_place_3 rfl rfl ?_
  refine jw_iload_n (pc := 4) F 2 d_L_place_4 rfl rfl ?_
  refine jw_xcatch (pc := 5) (As := [.int (nI r), .int t]) (rest := [.int (nI 0), .ref ao]) (name := "java/lang/IndexOutOfBoundsException") F [] (wO ao cL o) jz_ok hZ.1 (c_place_x2 l D ad cB cI cL f0 f1 f2 f3 f4 f5 f6 f7 v md ln a L hQ r hr t ht hl) (jw_cwV F.1.2.2.2.2 wl_good w_290 w_291 w_292 w_29 w_293 hd_X_place ⟨by decide, by decide⟩) 0 0 rfl rfl rfl rfl rfl rfl (Nat.le_of_ble_eq_true rfl) d_L_place_5 ⟨by decide, by decide⟩ [⟨0, 10, 13, 13⟩] ⟨0, 10, 17, 15⟩ [⟨0, 10, 21, 17⟩] htab (List.forall_mem_cons.mpr ⟨Or.inr ⟨by decide, _, F.1.2.2.2.2 _ (jm w_86), hZ.2.1⟩, fun z hz => by cases hz⟩) (by decide) (by decide) (F.1.2.2.2.2 _ (jm w_87)) (jz_castIOB hZ.1) (fun q9 => ?_)
  refine jw_astore (pc := 17) (lv' := [(0, .ref (ad 0)), (1, .int (nI r)), (2, .int t), (3, .ref ao), (4, .ref q9)]) F d_L_place_17 (by decide) rfl ?_
  refine jw_iconst (pc := 19) (v := 2) F d_L_place_19 (by decide) ?_
  exact jw_iret F d_L_place_20 ⟨rfl, rfl⟩
set_option maxHeartbeats 4000000 in
set_option maxRecDepth 100000 in
theorem w_stamp_1 (l : Launch) (D : va_G) (ad : Nat → Nat) (cB cI cL : ClassId) (f0 f1 f2 f3 f4 f5 f6 f7 : Nat → Int32) (v : Nat → Int64) (md ln : Int32) (ao : Nat) (o : Nat → Int64) (a : AS) (L : List Nat) (hQ : cx_R a L f0 f1 f2 f3 f4 f5 f6 f7 v md ln) (t : Int32) (ht : a_isop (a_n a) t = false) (hl : l.stackTraces = false) : jw_Ni l D vCl (vTy cB cI cL) y_L_stamp s_L_stamp rm_L_stamp_x [.ref (ad 0), .int t, .ref ao] (wX ad cB cI cL f0 f1 f2 f3 f4 f5 f6 f7 v md ln ++ wO ao cL o) jz_Y (fun r9 w9 => r9 = 1 ∧ w9 = wX ad cB cI cL f0 f1 f2 f3 f4 f5 f6 f7 v md ln ++ wO ao cL o) := by
  refine jw_ofWN (cc := b_L_stamp) (nL := 4) (ret := some .int) (hh := [(0, 9, 12, 15)]) (by decide) rfl (Nat.le_of_ble_eq_true rfl) (fun p e s m args below meth c A F htab hZ => ?_)
  refine jw_at (lv' := [(0, .ref (ad 0)), (1, .int t), (2, .ref ao)]) (st' := []) (ws' := wX ad cB cI cL f0 f1 f2 f3 f4 f5 f6 f7 v md ln ++ wO ao cL o) rfl rfl rfl ?_
  refine jw_aload_n (pc := 0) F 2 d_L_stamp_0 rfl rfl ?_
  refine jw_iconst (pc := 1) (v := nI 0) F d_L_stamp_1 (by decide) ?_
  refine jw_aload_n (pc := 2) F 0 d_L_stamp_2 rfl rfl ?_
  refine jw_iload_n (pc := 3) F 1 d_L_stamp_3 rfl rfl ?_
  refine jw_xcatch (pc := 4) (As := [.int t]) (rest := [.int (nI 0), .ref ao]) (name := "java/lang/IndexOutOfBoundsException") F [] (wO ao cL o) jz_ok hZ.1 (c_stamp_x2 l D ad cB cI cL f0 f1 f2 f3 f4 f5 f6 f7 v md ln a L hQ t ht hl) (jw_cwV F.1.2.2.2.2 wl_good w_305 w_306 w_307 w_29 w_308 hd_X_stamp ⟨by decide, by decide⟩) 0 0 rfl rfl rfl rfl rfl rfl (Nat.le_of_ble_eq_true rfl) d_L_stamp_4 ⟨by decide, by decide⟩ [] ⟨0, 9, 12, 15⟩ [] htab (fun z hz => by cases hz) (by decide) (by decide) (F.1.2.2.2.2 _ (jm w_87)) (jz_castIOB hZ.1) (fun q9 => ?_)
  refine jw_astore_n (pc := 12) (lv' := [(0, .ref (ad 0)), (1, .int t), (2, .ref ao), (3, .ref q9)]) F d_L_stamp_12 rfl (by decide) rfl ?_
  refine jw_iconst (pc := 13) (v := 1) F d_L_stamp_13 (by decide) ?_
  exact jw_iret F d_L_stamp_14 ⟨rfl, rfl⟩
set_option maxHeartbeats 4000000 in
set_option maxRecDepth 100000 in
theorem w_value_1 (l : Launch) (D : va_G) (ad : Nat → Nat) (cB cI cL : ClassId) (f0 f1 f2 f3 f4 f5 f6 f7 : Nat → Int32) (v : Nat → Int64) (md ln : Int32) (ao : Nat) (o : Nat → Int64) (a : AS) (L : List Nat) (hQ : cx_R a L f0 f1 f2 f3 f4 f5 f6 f7 v md ln) (t : Int32) (ht : a_isel a t = false) (hl : l.stackTraces = false) : jw_Ni l D vCl (vTy cB cI cL) y_L_value s_L_value rm_L_value_x [.ref (ad 0), .int t, .ref ao] (wX ad cB cI cL f0 f1 f2 f3 f4 f5 f6 f7 v md ln ++ wO ao cL o) jz_Y (fun r9 w9 => r9 = 1 ∧ w9 = wX ad cB cI cL f0 f1 f2 f3 f4 f5 f6 f7 v md ln ++ wO ao cL o) := by
  refine jw_ofWN (cc := b_L_value) (nL := 4) (ret := some .int) (hh := [(0, 8, 11, 15)]) (by decide) rfl (Nat.le_of_ble_eq_true rfl) (fun p e s m args below meth c A F htab hZ => ?_)
  refine jw_at (lv' := [(0, .ref (ad 0)), (1, .int t), (2, .ref ao)]) (st' := []) (ws' := wX ad cB cI cL f0 f1 f2 f3 f4 f5 f6 f7 v md ln ++ wO ao cL o) rfl rfl rfl ?_
  refine jw_aload_n (pc := 0) F 2 d_L_value_0 rfl rfl ?_
  refine jw_iconst (pc := 1) (v := nI 0) F d_L_value_1 (by decide) ?_
  refine jw_aload_n (pc := 2) F 0 d_L_value_2 rfl rfl ?_
  refine jw_iload_n (pc := 3) F 1 d_L_value_3 rfl rfl ?_
  refine jw_xcatch (pc := 4) (As := [.int t]) (rest := [.int (nI 0), .ref ao]) (name := "java/lang/IndexOutOfBoundsException") F [] (wO ao cL o) jz_ok hZ.1 (c_value_x2 l D ad cB cI cL f0 f1 f2 f3 f4 f5 f6 f7 v md ln a L hQ t ht hl) (jw_cwV F.1.2.2.2.2 wl_good w_297 w_298 w_299 w_29 w_300 hd_X_value ⟨by decide, by decide⟩) 0 0 rfl rfl rfl rfl rfl rfl (Nat.le_of_ble_eq_true rfl) d_L_value_4 ⟨by decide, by decide⟩ [] ⟨0, 8, 11, 15⟩ [] htab (fun z hz => by cases hz) (by decide) (by decide) (F.1.2.2.2.2 _ (jm w_87)) (jz_castIOB hZ.1) (fun q9 => ?_)
  refine jw_astore_n (pc := 11) (lv' := [(0, .ref (ad 0)), (1, .int t), (2, .ref ao), (3, .ref q9)]) F d_L_value_11 rfl (by decide) rfl ?_
  refine jw_iconst (pc := 12) (v := 1) F d_L_value_12 (by decide) ?_
  exact jw_iret F d_L_value_13 ⟨rfl, rfl⟩
set_option maxHeartbeats 4000000 in
set_option maxRecDepth 100000 in
theorem w_insert_3 (l : Launch) (D : va_G) (ad : Nat → Nat) (cB cI cL : ClassId) (f0 f1 f2 f3 f4 f5 f6 f7 : Nat → Int32) (v : Nat → Int64) (md ln : Int32) (ao : Nat) (o : Nat → Int64) (a : AS) (L : List Nat) (hQ : cx_R a L f0 f1 f2 f3 f4 f5 f6 f7 v md ln) (r : Nat) (hr : r < 4) (hn1 : a_n a < 160) (t : Int32) (vv : Int64) (ht : ¬ t = -1) (hh : a_haseB a r t = false) (hl : l.stackTraces = false) : jw_Ni l D vCl (vTy cB cI cL) y_L_insert s_L_insert rm_L_insert_x [.ref (ad 0), .int (nI r), .int t, .long vv, .ref ao] (wX ad cB cI cL f0 f1 f2 f3 f4 f5 f6 f7 v md ln ++ wO ao cL o) jz_Y (fun r9 w9 => r9 = 3 ∧ w9 = wX ad cB cI cL f0 f1 f2 f3 f4 f5 f6 f7 v md ln ++ wO ao cL o) := by
  refine jw_ofWN (cc := b_L_insert) (nL := 7) (ret := some .int) (hh := [(0, 12, 15, 13), (0, 12, 19, 15), (0, 12, 23, 17)]) (by decide) rfl (Nat.le_of_ble_eq_true rfl) (fun p e s m args below meth c A F htab hZ => ?_)
  refine jw_at (lv' := [(0, .ref (ad 0)), (1, .int (nI r)), (2, .int t), (3, .long vv), (5, .ref ao)]) (st' := []) (ws' := wX ad cB cI cL f0 f1 f2 f3 f4 f5 f6 f7 v md ln ++ wO ao cL o) rfl rfl rfl ?_
  refine jw_aload (pc := 0) F 4 d_L_insert_0 rfl ?_
  refine jw_iconst (pc := 2) (v := nI 0) F d_L_insert_2 (by decide) ?_
  refine jw_aload_n (pc := 3) F 0 d_L_insert_3 rfl rfl ?_
  refine jw_iload_n (pc := 4) F 1 d_L_insert_4 rfl rfl ?_
  refine jw_iload_n (pc := 5) F 2 d_L_insert_5 rfl rfl ?_
  refine jw_lload_n (pc := 6) F 3 d_L_insert_6 rfl rfl ?_
  refine jw_xcatch (pc := 7) (As := [.int (nI r), .int t, .long vv]) (rest := [.int (nI 0), .ref ao]) (name := "java/lang/IllegalStateException") F [] (wO ao cL o) jz_ok hZ.1 (c_insert_x3 l D ad cB cI cL f0 f1 f2 f3 f4 f5 f6 f7 v md ln a L hQ r hr hn1 t vv ht hh hl) (jw_cwV F.1.2.2.2.2 wl_good w_89 w_90 w_91 w_29 w_92 hd_X_insert ⟨by decide, by decide⟩) 0 0 rfl rfl rfl rfl rfl rfl (Nat.le_of_ble_eq_true rfl) d_L_insert_7 ⟨by decide, by decide⟩ [⟨0, 12, 15, 13⟩, ⟨0, 12, 19, 15⟩] ⟨0, 12, 23, 17⟩ [] htab (List.forall_mem_cons.mpr ⟨Or.inr ⟨by decide, _, F.1.2.2.2.2 _ (jm w_86), hZ.2.2.1⟩, List.forall_mem_cons.mpr ⟨Or.inr ⟨by decide, _, F.1.2.2.2.2 _ (jm w_87), hZ.2.2.2⟩, fun z hz => by cases hz⟩⟩) (by decide) (by decide) (F.1.2.2.2.2 _ (jm w_88)) (jz_castISE hZ.1) (fun q9 => ?_)
  refine jw_astore (pc := 23) (lv' := [(0, .ref (ad 0)), (1, .int (nI r)), (2, .int t), (3, .long vv), (5, .ref ao), (6, .ref q9)]) F d_L_insert_23 (by decide) rfl ?_
  refine jw_iconst (pc := 25) (v := 3) F d_L_insert_25 (by decide) ?_
  exact jw_iret F d_L_insert_26 ⟨rfl, rfl⟩
set_option maxHeartbeats 4000000 in
set_option maxRecDepth 100000 in
theorem w_delete_3 (l : Launch) (D : va_G) (ad : Nat → Nat) (cB cI cL : ClassId) (f0 f1 f2 f3 f4 f5 f6 f7 : Nat → Int32) (v : Nat → Int64) (md ln : Int32) (ao : Nat) (o : Nat → Int64) (a : AS) (L : List Nat) (hQ : cx_R a L f0 f1 f2 f3 f4 f5 f6 f7 v md ln) (r : Nat) (hr : r < 4) (hn1 : a_n a < 160) (t : Int32) (hh : a_haseB a r t = false) (hl : l.stackTraces = false) : jw_Ni l D vCl (vTy cB cI cL) y_L_delete s_L_delete rm_L_delete_x [.ref (ad 0), .int (nI r), .int t, .ref ao] (wX ad cB cI cL f0 f1 f2 f3 f4 f5 f6 f7 v md ln ++ wO ao cL o) jz_Y (fun r9 w9 => r9 = 3 ∧ w9 = wX ad cB cI cL f0 f1 f2 f3 f4 f5 f6 f7 v md ln ++ wO ao cL o) := by
  refine jw_ofWN (cc := b_L_delete) (nL := 5) (ret := some .int) (hh := [(0, 10, 13, 13), (0, 10, 17, 15), (0, 10, 21, 17)]) (by decide) rfl (Nat.le_of_ble_eq_true rfl) (fun p e s m args below meth c A F htab hZ => ?_)
  refine jw_at (lv' := [(0, .ref (ad 0)), (1, .int (nI r)), (2, .int t), (3, .ref ao)]) (st' := []) (ws' := wX ad cB cI cL f0 f1 f2 f3 f4 f5 f6 f7 v md ln ++ wO ao cL o) rfl rfl rfl ?_
  refine jw_aload_n (pc := 0) F 3 d_L_delete_0 rfl rfl ?_
  refine jw_iconst (pc := 1) (v := nI 0) F d_L_delete_1 (by decide) ?_
  refine jw_aload_n (pc := 2) F 0 d_L_delete_2 rfl rfl ?_
  refine jw_iload_n (pc := 3) F 1 d_L_delete_3 rfl rfl ?_
  refine jw_iload_n (pc := 4) F 2 d_L_delete_4 rfl rfl ?_
  refine jw_xcatch (pc := 5) (As := [.int (nI r), .int t]) (rest := [.int (nI 0), .ref ao]) (name := "java/lang/IllegalStateException") F [] (wO ao cL o) jz_ok hZ.1 (c_delete_x3 l D ad cB cI cL f0 f1 f2 f3 f4 f5 f6 f7 v md ln a L hQ r hr hn1 t hh hl) (jw_cwV F.1.2.2.2.2 wl_good w_246 w_247 w_248 w_29 w_249 hd_X_delete ⟨by decide, by decide⟩) 0 0 rfl rfl rfl rfl rfl rfl (Nat.le_of_ble_eq_true rfl) d_L_delete_5 ⟨by decide, by decide⟩ [⟨0, 10, 13, 13⟩, ⟨0, 10, 17, 15⟩] ⟨0, 10, 21, 17⟩ [] htab (List.forall_mem_cons.mpr ⟨Or.inr ⟨by decide, _, F.1.2.2.2.2 _ (jm w_86), hZ.2.2.1⟩, List.forall_mem_cons.mpr ⟨Or.inr ⟨by decide, _, F.1.2.2.2.2 _ (jm w_87), hZ.2.2.2⟩, fun z hz => by cases hz⟩⟩) (by decide) (by decide) (F.1.2.2.2.2 _ (jm w_88)) (jz_castISE hZ.1) (fun q9 => ?_)
  refine jw_astore (pc := 21) (lv' := [(0, .ref (ad 0)), (1, .int (nI r)), (2, .int t), (3, .ref ao), (4, .ref q9)]) F d_L_delete_21 (by decide) rfl ?_
  refine jw_iconst (pc := 23) (v := 3) F d_L_delete_23 (by decide) ?_
  exact jw_iret F d_L_delete_24 ⟨rfl, rfl⟩
set_option maxHeartbeats 4000000 in
set_option maxRecDepth 100000 in
theorem w_give_3 (l : Launch) (D : va_G) (ad : Nat → Nat) (cB cI cL : ClassId) (f0 f1 f2 f3 f4 f5 f6 f7 : Nat → Int32) (v : Nat → Int64) (md ln : Int32) (a : AS) (L : List Nat) (hQ : cx_R a L f0 f1 f2 f3 f4 f5 f6 f7 v md ln) (r : Nat) (hr : r < 4) (k : Nat) (hk : k < a_n a) (ht : ¬ a_tg a k = -1) (hh : a_haseB a r (a_tg a k) = false) (hl : l.stackTraces = false) : jw_Ni l D vCl (vTy cB cI cL) y_L_give s_L_give rm_L_give_x [.ref (ad 0), .int (nI r), .int (nI k)] (wX ad cB cI cL f0 f1 f2 f3 f4 f5 f6 f7 v md ln) jz_Y (fun r9 w9 => r9 = 3 ∧ w9 = wX ad cB cI cL f0 f1 f2 f3 f4 f5 f6 f7 v md ln) := by
  refine jw_ofWN (cc := b_L_give) (nL := 4) (ret := some .int) (hh := [(0, 6, 9, 13), (0, 6, 12, 15), (0, 6, 15, 17)]) (by decide) rfl (Nat.le_of_ble_eq_true rfl) (fun p e s m args below meth c A F htab hZ => ?_)
  refine jw_at (lv' := [(0, .ref (ad 0)), (1, .int (nI r)), (2, .int (nI k))]) (st' := []) (ws' := wX ad cB cI cL f0 f1 f2 f3 f4 f5 f6 f7 v md ln) rfl rfl rfl ?_
  refine jw_aload_n (pc := 0) F 0 d_L_give_0 rfl rfl ?_
  refine jw_iload_n (pc := 1) F 1 d_L_give_1 rfl rfl ?_
  refine jw_iload_n (pc := 2) F 2 d_L_give_2 rfl rfl ?_
  refine jw_xcatch (pc := 3) (As := [.int (nI r), .int (nI k)]) (rest := []) (name := "java/lang/IllegalStateException") F [] ([]) jz_ok hZ.1 (c_give_x3 l D ad cB cI cL f0 f1 f2 f3 f4 f5 f6 f7 v md ln a L hQ r hr k hk ht hh hl) (jw_cwV F.1.2.2.2.2 wl_good w_253 w_254 w_255 w_29 w_256 hd_X_give ⟨by decide, by decide⟩) 0 0 rfl rfl rfl (by simp) rfl rfl (Nat.le_of_ble_eq_true rfl) d_L_give_3 ⟨by decide, by decide⟩ [⟨0, 6, 9, 13⟩, ⟨0, 6, 12, 15⟩] ⟨0, 6, 15, 17⟩ [] htab (List.forall_mem_cons.mpr ⟨Or.inr ⟨by decide, _, F.1.2.2.2.2 _ (jm w_86), hZ.2.2.1⟩, List.forall_mem_cons.mpr ⟨Or.inr ⟨by decide, _, F.1.2.2.2.2 _ (jm w_87), hZ.2.2.2⟩, fun z hz => by cases hz⟩⟩) (by decide) (by decide) (F.1.2.2.2.2 _ (jm w_88)) (jz_castISE hZ.1) (fun q9 => ?_)
  refine jw_astore_n (pc := 15) (lv' := [(0, .ref (ad 0)), (1, .int (nI r)), (2, .int (nI k)), (3, .ref q9)]) F d_L_give_15 rfl (by decide) rfl ?_
  refine jw_iconst (pc := 16) (v := 3) F d_L_give_16 (by decide) ?_
  exact jw_iret F d_L_give_17 ⟨rfl, rfl⟩
set_option maxHeartbeats 4000000 in
set_option maxRecDepth 100000 in
theorem w_place_3 (l : Launch) (D : va_G) (ad : Nat → Nat) (cB cI cL : ClassId) (f0 f1 f2 f3 f4 f5 f6 f7 : Nat → Int32) (v : Nat → Int64) (md ln : Int32) (ao : Nat) (o : Nat → Int64) (a : AS) (L : List Nat) (hQ : cx_R a L f0 f1 f2 f3 f4 f5 f6 f7 v md ln) (r : Nat) (hr : r < 4) (t : Int32) (ht : a_isop (a_n a) t = true) (hh : a_haseB a r t = false) (hl : l.stackTraces = false) : jw_Ni l D vCl (vTy cB cI cL) y_L_place s_L_place rm_L_place_x [.ref (ad 0), .int (nI r), .int t, .ref ao] (wX ad cB cI cL f0 f1 f2 f3 f4 f5 f6 f7 v md ln ++ wO ao cL o) jz_Y (fun r9 w9 => r9 = 3 ∧ w9 = wX ad cB cI cL f0 f1 f2 f3 f4 f5 f6 f7 v md ln ++ wO ao cL o) := by
  refine jw_ofWN (cc := b_L_place) (nL := 5) (ret := some .int) (hh := [(0, 10, 13, 13), (0, 10, 17, 15), (0, 10, 21, 17)]) (by decide) rfl (Nat.le_of_ble_eq_true rfl) (fun p e s m args below meth c A F htab hZ => ?_)
  refine jw_at (lv' := [(0, .ref (ad 0)), (1, .int (nI r)), (2, .int t), (3, .ref ao)]) (st' := []) (ws' := wX ad cB cI cL f0 f1 f2 f3 f4 f5 f6 f7 v md ln ++ wO ao cL o) rfl rfl rfl ?_
  refine jw_aload_n (pc := 0) F 3 d_L_place_0 rfl rfl ?_
  refine jw_iconst (pc := 1) (v := nI 0) F d_L_place_1 (by decide) ?_
  refine jw_aload_n (pc := 2) F 0 d_L_place_2 rfl rfl ?_
  refine jw_iload_n (pc := 3) F 1 d_L_place_3 rfl rfl ?_
  refine jw_iload_n (pc := 4) F 2 d_L_place_4 rfl rfl ?_
  refine jw_xcatch (pc := 5) (As := [.int (nI r), .int t]) (rest := [.int (nI 0), .ref ao]) (name := "java/lang/IllegalStateException") F [] (wO ao cL o) jz_ok hZ.1 (c_place_x3 l D ad cB cI cL f0 f1 f2 f3 f4 f5 f6 f7 v md ln a L hQ r hr t ht hh hl) (jw_cwV F.1.2.2.2.2 wl_good w_290 w_291 w_292 w_29 w_293 hd_X_place ⟨by decide, by decide⟩) 0 0 rfl rfl rfl rfl rfl rfl (Nat.le_of_ble_eq_true rfl) d_L_place_5 ⟨by decide, by decide⟩ [⟨0, 10, 13, 13⟩, ⟨0, 10, 17, 15⟩] ⟨0, 10, 21, 17⟩ [] htab (List.forall_mem_cons.mpr ⟨Or.inr ⟨by decide, _, F.1.2.2.2.2 _ (jm w_86), hZ.2.2.1⟩, List.forall_mem_cons.mpr ⟨Or.inr ⟨by decide, _, F.1.2.2.2.2 _ (jm w_87), hZ.2.2.2⟩, fun z hz => by cases hz⟩⟩) (by decide) (by decide) (F.1.2.2.2.2 _ (jm w_88)) (jz_castISE hZ.1) (fun q9 => ?_)
  refine jw_astore (pc := 21) (lv' := [(0, .ref (ad 0)), (1, .int (nI r)), (2, .int t), (3, .ref ao), (4, .ref q9)]) F d_L_place_21 (by decide) rfl ?_
  refine jw_iconst (pc := 23) (v := 3) F d_L_place_23 (by decide) ?_
  exact jw_iret F d_L_place_24 ⟨rfl, rfl⟩
