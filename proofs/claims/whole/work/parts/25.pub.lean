def cx_R (a : AS) (L : List Nat) (f0 f1 f2 f3 f4 f5 f6 f7 : Nat → Int32) (v : Nat → Int64) (md ln : Int32) : Prop := ab_I a ∧ cx_A a f0 f1 f2 f3 f4 f5 f6 md ∧ cx_V a v ∧ cx_L L f7 ln ∧ ab_row a L
theorem cx_R_M {a : AS} {L : List Nat} (hI : ab_I a) (hR : ab_row a L) : (∀ x ∈ L, x < 160) ∧ L.length ≤ 160 := by
  have hn := hI.1
  have h1 : ∀ x ∈ L, x < a_n a := fun x hx => ((hR.2.1 x).mp hx).1
  have h2 := gm_pig hR.1 h1
  exact ⟨fun x hx => by have := h1 x hx; omega, by omega⟩
theorem cx_V_new {a : AS} {r : Nat} {t : Int32} {d : Bool} {vv : Int64} {v : Nat → Int64} (h : cx_V a v) : cx_V (ab_new a r t d vv) (vp_updL v (a_n a) vv) := by
  intro k hk hd
  have hk2 : k < a_n a + 1 := hk
  have hd2 : ab_up (a_dl a) (a_n a) d k = false := hd
  show vp_updL v (a_n a) vv k = ab_up (a_vl a) (a_n a) vv k
  by_cases e : k = a_n a
  · subst e; rw [pk_uLs, ab_us]
  · rw [pk_uLn e, ab_un e]
    rw [ab_un e] at hd2
    exact h k (by omega) hd2
theorem cx_V_del {a : AS} {r : Nat} {t : Int32} {vv : Int64} {v : Nat → Int64} (h : cx_V a v) : cx_V (ab_new a r t true vv) v := by
  intro k hk hd
  have hk2 : k < a_n a + 1 := hk
  have hd2 : ab_up (a_dl a) (a_n a) true k = false := hd
  show v k = ab_up (a_vl a) (a_n a) vv k
  by_cases e : k = a_n a
  · subst e; rw [ab_us] at hd2; cases hd2
  · rw [ab_un e]
    rw [ab_un e] at hd2
    exact h k (by omega) hd2
theorem ab_ok_of {a : AS} {r : Nat} {t : Int32} {d : Bool} (hn : a_n a ≤ 160) (h : a_haseB a r t = true) : ab_ok a r t d := by
  obtain ⟨j, hj, e1, e2, e3⟩ := a_haseB_t hn h
  exact Or.inr ⟨j, hj, e1, e2, e3⟩
theorem ab_ok_hase {a : AS} {r : Nat} {t : Int32} {d : Bool} (hn : a_n a ≤ 160) (h : ab_ok a r t d) (ht : ¬ t = -1) : a_haseB a r t = true := by
  rcases h with h | ⟨j, hj, rfl, e2, e3⟩
  · exact absurd h.1 ht
  · rw [a_haseB_nI hn hj, e2, e3]; rfl
theorem w_93 : Cond.methodLink RX 46 y_X_checkReplica ∈ WL := jwl 93 rfl rfl
theorem w_95 : Cond.instanceMethod y_X_checkReplica ∈ WL := jwl 95 rfl rfl
theorem w_0 : Cond.selects RX y_X_checkReplica y_X_checkReplica ∈ WL := jwl 0 rfl rfl
theorem w_96 : Cond.code y_X_checkReplica b_X_checkReplica 2 none ∈ WL := jwl 96 rfl rfl
theorem w_165 : Cond.methodLink RX 50 y_X_checkRoom ∈ WL := jwl 165 rfl rfl
theorem w_167 : Cond.instanceMethod y_X_checkRoom ∈ WL := jwl 167 rfl rfl
theorem w_2 : Cond.selects RX y_X_checkRoom y_X_checkRoom ∈ WL := jwl 2 rfl rfl
theorem w_168 : Cond.code y_X_checkRoom b_X_checkRoom 1 none ∈ WL := jwl 168 rfl rfl
theorem w_220 : Cond.methodLink RX 57 y_X_make ∈ WL := jwl 220 rfl rfl
theorem w_222 : Cond.instanceMethod y_X_make ∈ WL := jwl 222 rfl rfl
theorem w_7 : Cond.selects RX y_X_make y_X_make ∈ WL := jwl 7 rfl rfl
theorem w_223 : Cond.code y_X_make b_X_make 5 (some .int) ∈ WL := jwl 223 rfl rfl
theorem w_49 : Cond.fieldLink RX 21 "WovenRow" "number" "[J" ∈ WL := jwl 49 rfl rfl
theorem w_231 : Cond.methodLink RX 61 y_X_weave ∈ WL := jwl 231 rfl rfl
theorem w_233 : Cond.instanceMethod y_X_weave ∈ WL := jwl 233 rfl rfl
theorem w_9 : Cond.selects RX y_X_weave y_X_weave ∈ WL := jwl 9 rfl rfl
theorem w_234 : Cond.code y_X_weave b_X_weave 4 none ∈ WL := jwl 234 rfl rfl
theorem w_185 : Cond.methodLink RX 53 y_X_checkHeldElement ∈ WL := jwl 185 rfl rfl
theorem w_187 : Cond.instanceMethod y_X_checkHeldElement ∈ WL := jwl 187 rfl rfl
theorem w_3 : Cond.selects RX y_X_checkHeldElement y_X_checkHeldElement ∈ WL := jwl 3 rfl rfl
theorem w_188 : Cond.code y_X_checkHeldElement b_X_checkHeldElement 3 none ∈ WL := jwl 188 rfl rfl
theorem w_257 : Cond.methodLink RX 64 y_X_checkOperation ∈ WL := jwl 257 rfl rfl
theorem w_259 : Cond.instanceMethod y_X_checkOperation ∈ WL := jwl 259 rfl rfl
theorem w_12 : Cond.selects RX y_X_checkOperation y_X_checkOperation ∈ WL := jwl 12 rfl rfl
theorem w_260 : Cond.code y_X_checkOperation b_X_checkOperation 2 none ∈ WL := jwl 260 rfl rfl
theorem w_316 : Cond.methodLink RX 88 y_X_countHeldOperations ∈ WL := jwl 316 rfl rfl
theorem w_318 : Cond.instanceMethod y_X_countHeldOperations ∈ WL := jwl 318 rfl rfl
theorem w_14 : Cond.selects RX y_X_countHeldOperations y_X_countHeldOperations ∈ WL := jwl 14 rfl rfl
theorem w_319 : Cond.code y_X_countHeldOperations b_X_countHeldOperations 4 (some .int) ∈ WL := jwl 319 rfl rfl
theorem w_320 : Cond.methodLink RX 92 y_X_countHeldElements ∈ WL := jwl 320 rfl rfl
theorem w_322 : Cond.instanceMethod y_X_countHeldElements ∈ WL := jwl 322 rfl rfl
theorem w_15 : Cond.selects RX y_X_countHeldElements y_X_countHeldElements ∈ WL := jwl 15 rfl rfl
theorem w_323 : Cond.code y_X_countHeldElements b_X_countHeldElements 4 (some .int) ∈ WL := jwl 323 rfl rfl
theorem w_324 : Cond.methodLink RX 95 y_X_countSeen ∈ WL := jwl 324 rfl rfl
theorem w_326 : Cond.instanceMethod y_X_countSeen ∈ WL := jwl 326 rfl rfl
theorem w_16 : Cond.selects RX y_X_countSeen y_X_countSeen ∈ WL := jwl 16 rfl rfl
theorem w_327 : Cond.code y_X_countSeen b_X_countSeen 4 (some .int) ∈ WL := jwl 327 rfl rfl
abbrev rm_X_insert : Room := { frames := 7, cells := 0, slots := 0, locals := 112 }
abbrev rm_X_delete : Room := { frames := 7, cells := 0, slots := 0, locals := 112 }
abbrev rm_X_give : Room := { frames := 7, cells := 0, slots := 0, locals := 112 }
abbrev rm_X_holds : Room := { frames := 7, cells := 0, slots := 0, locals := 111 }
abbrev rm_X_value : Room := { frames := 6, cells := 0, slots := 0, locals := 90 }
abbrev rm_X_stamp : Room := { frames := 7, cells := 0, slots := 0, locals := 111 }
abbrev rm_X_count : Room := { frames := 7, cells := 0, slots := 0, locals := 111 }
set_option maxHeartbeats 4000000 in
set_option maxRecDepth 100000 in
theorem c_insert (l : Launch) (D : va_G) (ad : Nat → Nat) (cB cI cL : ClassId) (f0 f1 f2 f3 f4 f5 f6 f7 : Nat → Int32) (v : Nat → Int64) (md ln : Int32) (a : AS) (L : List Nat) (hQ : cx_R a L f0 f1 f2 f3 f4 f5 f6 f7 v md ln) (r : Nat) (hr : r < 4) (hn1 : a_n a < 160) (t : Int32) (ht : ab_ok a r t false) (vv : Int64) : jw_Mi l D vCl (vTy cB cI cL) y_X_insert s_X_insert rm_X_insert [.ref (ad 0), .int (nI r), .int t, .long vv] (wX ad cB cI cL f0 f1 f2 f3 f4 f5 f6 f7 v md ln) (fun r9 w9 => r9 = nI (a_n a) ∧ ∃ (g0 g1 g2 g3 g4 g5 g6 g7 : Nat → Int32) (gv : Nat → Int64) (gm gl : Int32) (M : List Nat), w9 = wX ad cB cI cL g0 g1 g2 g3 g4 g5 g6 g7 gv gm gl ∧ cx_R (ab_new a r t false vv) M g0 g1 g2 g3 g4 g5 g6 g7 gv gm gl) := by
  refine jw_ofi (cc := b_X_insert) (nL := 6) (ret := (some .int)) (by decide) rfl (Nat.le_of_ble_eq_true rfl) (fun p e s m args below meth c A F hnm => ?_)
  refine jw_at (lv' := [(0, .ref (ad 0)), (1, .int (nI r)), (2, .int t), (3, .long vv)]) (st' := []) (ws' := wX ad cB cI cL f0 f1 f2 f3 f4 f5 f6 f7 v md ln) rfl rfl rfl ?_
  obtain ⟨hI, hA, hV, hL, hR⟩ := hQ
  have hB := cx_B_of hI
  have hn := hI.1
  obtain ⟨hM, hlen⟩ := cx_R_M hI hR
  refine jw_aload_n (pc := 0) F 0 d_X_insert_0 rfl rfl ?_
  refine jw_iload_n (pc := 1) F 1 d_X_insert_1 rfl rfl ?_
  refine jw_callV_Ev (pc := 2) (As := [.int (nI r)]) (rest := []) F ([]) ([]) (c_checkReplica l D ad cB cI cL f0 f1 f2 f3 f4 f5 f6 f7 v md ln r hr) (jw_cwV F.1.2.2.2.2 wl_good w_93 w_95 w_0 w_29 w_96 hd_X_checkReplica ⟨by decide, by decide⟩) 0 0 rfl rfl rfl (by simp) rfl rfl (Nat.le_of_ble_eq_true rfl) d_X_insert_2 ⟨rfl, rfl⟩ ⟨by decide, by decide⟩ ?_
  refine jw_aload_n (pc := 5) F 0 d_X_insert_5 rfl rfl ?_
  refine jw_callV_Ev (pc := 6) (As := []) (rest := []) F ([]) ([]) (c_checkRoom l D ad cB cI cL f0 f1 f2 f3 f4 f5 f6 f7 v md ln (a_n a) hA.1 hn1) (jw_cwV F.1.2.2.2.2 wl_good w_165 w_167 w_2 w_29 w_168 hd_X_checkRoom ⟨by decide, by decide⟩) 0 0 rfl rfl rfl (by simp) rfl rfl (Nat.le_of_ble_eq_true rfl) d_X_insert_6 ⟨rfl, rfl⟩ ⟨by decide, by decide⟩ ?_
  refine jw_iload_n (pc := 9) F 2 d_X_insert_9 rfl rfl ?_
  refine jw_iconst (pc := 10) (v := -1) F d_X_insert_10 (by decide) ?_
  refine jw_icmp_eq (pc := 11) F 20 d_X_insert_11 (by decide) (fun h1 => ?_) (fun h1 => ?_)
  · refine jw_aload_n (pc := 20) F 0 d_X_insert_20 rfl rfl ?_
    refine jw_iload_n (pc := 21) F 1 d_X_insert_21 rfl rfl ?_
    refine jw_iload_n (pc := 22) F 2 d_X_insert_22 rfl rfl ?_
    refine jw_iconst (pc := 23) (v := jb false) F d_X_insert_23 (by decide) ?_
    refine jw_callV_Ci (pc := 24) (As := [.int (nI r), .int t, .int (jb false)]) (rest := []) F (c_make l D ad cB cI cL f0 f1 f2 f3 f4 f5 f6 f7 v md ln a r t false vv hI hn1 hr ht hA) (jw_cwV F.1.2.2.2.2 wl_good w_220 w_222 w_7 w_29 w_223 hd_X_make ⟨by decide, by decide⟩) 0 0 rfl rfl rfl rfl rfl rfl (Nat.le_of_ble_eq_true rfl) d_X_insert_24 ⟨rfl, rfl⟩ ⟨by decide, by decide⟩ (fun r w hw => ?_)
    obtain ⟨rfl, g0, g1, g2, g3, g4, g5, g6, rfl, hA2⟩ := hw
    refine jw_istore (pc := 27) (lv' := [(0, .ref (ad 0)), (1, .int (nI r)), (2, .int t), (3, .long vv), (5, .int (nI (a_n a)))]) F d_X_insert_27 (by decide) rfl ?_
    refine jw_aload_n (pc := 29) F 0 d_X_insert_29 rfl rfl ?_
    refine jw_get (pc := 30) F (jms inX) 0 rfl rfl 3 (by decide) (jm w_49) rfl d_X_insert_30 ?_
    refine jw_iload (pc := 33) F 4 d_X_insert_33 rfl ?_
    refine jw_lload_n (pc := 35) F 3 d_X_insert_35 rfl rfl ?_
    refine jw_lastN (pc := 36) (ws' := wX ad cB cI cL g0 g1 g2 g3 g4 g5 g6 f7 (vp_updL v (a_n a) vv) (nI (a_n a + 1)) ln) F 3 2 rfl rfl (a_n a) rfl (by omega) (by decide) d_X_insert_36 rfl ?_
    refine jw_aload_n (pc := 37) F 0 d_X_insert_37 rfl rfl ?_
    refine jw_iload (pc := 38) F 4 d_X_insert_38 rfl ?_
    refine jw_callV_Cv (pc := 40) (As := [.int (nI (a_n a))]) (rest := []) F (c_weave l D ad cB cI cL g0 g1 g2 g3 g4 g5 g6 f7 (vp_updL v (a_n a) vv) (nI (a_n a + 1)) ln a r t vv L hI hn1 hr ht hA2 hL hR) (jw_cwV F.1.2.2.2.2 wl_good w_231 w_233 w_9 w_29 w_234 hd_X_weave ⟨by decide, by decide⟩) 0 0 rfl rfl rfl rfl rfl rfl (Nat.le_of_ble_eq_true rfl) d_X_insert_40 ⟨rfl, rfl⟩ ⟨by decide, by decide⟩ (fun w hw => ?_)
    obtain ⟨g7, M, rfl, hL2, hR2⟩ := hw
    refine jw_iload (pc := 43) F 4 d_X_insert_43 rfl ?_
    exact jw_iret F d_X_insert_45 ⟨rfl, _, _, _, _, _, _, _, _, _, _, _, M, rfl, ab_I_new hI hn1 hr ht, hA2, cx_V_new hV, hL2, hR2⟩
  · refine jw_aload_n (pc := 14) F 0 d_X_insert_14 rfl rfl ?_
    refine jw_iload_n (pc := 15) F 1 d_X_insert_15 rfl rfl ?_
    refine jw_iload_n (pc := 16) F 2 d_X_insert_16 rfl rfl ?_
    refine jw_callV_Ev (pc := 17) (As := [.int (nI r), .int t]) (rest := []) F ([]) ([]) (c_checkHeldElement l D ad cB cI cL f0 f1 f2 f3 f4 f5 f6 f7 v md ln a hB hA r hr t (ab_ok_hase hn ht h1)) (jw_cwV F.1.2.2.2.2 wl_good w_185 w_187 w_3 w_29 w_188 hd_X_checkHeldElement ⟨by decide, by decide⟩) 0 0 rfl rfl rfl (by simp) rfl rfl (Nat.le_of_ble_eq_true rfl) d_X_insert_17 ⟨rfl, rfl⟩ ⟨by decide, by decide⟩ ?_
    refine jw_aload_n (pc := 20) F 0 d_X_insert_20 rfl rfl ?_
    refine jw_iload_n (pc := 21) F 1 d_X_insert_21 rfl rfl ?_
    refine jw_iload_n (pc := 22) F 2 d_X_insert_22 rfl rfl ?_
    refine jw_iconst (pc := 23) (v := jb false) F d_X_insert_23 (by decide) ?_
    refine jw_callV_Ci (pc := 24) (As := [.int (nI r), .int t, .int (jb false)]) (rest := []) F (c_make l D ad cB cI cL f0 f1 f2 f3 f4 f5 f6 f7 v md ln a r t false vv hI hn1 hr ht hA) (jw_cwV F.1.2.2.2.2 wl_good w_220 w_222 w_7 w_29 w_223 hd_X_make ⟨by decide, by decide⟩) 0 0 rfl rfl rfl rfl rfl rfl (Nat.le_of_ble_eq_true rfl) d_X_insert_24 ⟨rfl, rfl⟩ ⟨by decide, by decide⟩ (fun r w hw => ?_)
    obtain ⟨rfl, g0, g1, g2, g3, g4, g5, g6, rfl, hA2⟩ := hw
    refine jw_istore (pc := 27) (lv' := [(0, .ref (ad 0)), (1, .int (nI r)), (2, .int t), (3, .long vv), (5, .int (nI (a_n a)))]) F d_X_insert_27 (by decide) rfl ?_
    refine jw_aload_n (pc := 29) F 0 d_X_insert_29 rfl rfl ?_
    refine jw_get (pc := 30) F (jms inX) 0 rfl rfl 3 (by decide) (jm w_49) rfl d_X_insert_30 ?_
    refine jw_iload (pc := 33) F 4 d_X_insert_33 rfl ?_
    refine jw_lload_n (pc := 35) F 3 d_X_insert_35 rfl rfl ?_
    refine jw_lastN (pc := 36) (ws' := wX ad cB cI cL g0 g1 g2 g3 g4 g5 g6 f7 (vp_updL v (a_n a) vv) (nI (a_n a + 1)) ln) F 3 2 rfl rfl (a_n a) rfl (by omega) (by decide) d_X_insert_36 rfl ?_
    refine jw_aload_n (pc := 37) F 0 d_X_insert_37 rfl rfl ?_
    refine jw_iload (pc := 38) F 4 d_X_insert_38 rfl ?_
    refine jw_callV_Cv (pc := 40) (As := [.int (nI (a_n a))]) (rest := []) F (c_weave l D ad cB cI cL g0 g1 g2 g3 g4 g5 g6 f7 (vp_updL v (a_n a) vv) (nI (a_n a + 1)) ln a r t vv L hI hn1 hr ht hA2 hL hR) (jw_cwV F.1.2.2.2.2 wl_good w_231 w_233 w_9 w_29 w_234 hd_X_weave ⟨by decide, by decide⟩) 0 0 rfl rfl rfl rfl rfl rfl (Nat.le_of_ble_eq_true rfl) d_X_insert_40 ⟨rfl, rfl⟩ ⟨by decide, by decide⟩ (fun w hw => ?_)
    obtain ⟨g7, M, rfl, hL2, hR2⟩ := hw
    refine jw_iload (pc := 43) F 4 d_X_insert_43 rfl ?_
    exact jw_iret F d_X_insert_45 ⟨rfl, _, _, _, _, _, _, _, _, _, _, _, M, rfl, ab_I_new hI hn1 hr ht, hA2, cx_V_new hV, hL2, hR2⟩
set_option maxHeartbeats 4000000 in
set_option maxRecDepth 100000 in
theorem c_delete (l : Launch) (D : va_G) (ad : Nat → Nat) (cB cI cL : ClassId) (f0 f1 f2 f3 f4 f5 f6 f7 : Nat → Int32) (v : Nat → Int64) (md ln : Int32) (a : AS) (L : List Nat) (hQ : cx_R a L f0 f1 f2 f3 f4 f5 f6 f7 v md ln) (r : Nat) (hr : r < 4) (hn1 : a_n a < 160) (t : Int32) (ht : a_haseB a r t = true) : jw_Mi l D vCl (vTy cB cI cL) y_X_delete s_X_delete rm_X_delete [.ref (ad 0), .int (nI r), .int t] (wX ad cB cI cL f0 f1 f2 f3 f4 f5 f6 f7 v md ln) (fun r9 w9 => r9 = nI (a_n a) ∧ ∃ (g0 g1 g2 g3 g4 g5 g6 g7 : Nat → Int32) (gv : Nat → Int64) (gm gl : Int32), w9 = wX ad cB cI cL g0 g1 g2 g3 g4 g5 g6 g7 gv gm gl ∧ cx_R (ab_new a r t true 0) L g0 g1 g2 g3 g4 g5 g6 g7 gv gm gl) := by
  refine jw_ofi (cc := b_X_delete) (nL := 3) (ret := (some .int)) (by decide) rfl (Nat.le_of_ble_eq_true rfl) (fun p e s m args below meth c A F hnm => ?_)
  refine jw_at (lv' := [(0, .ref (ad 0)), (1, .int (nI r)), (2, .int t)]) (st' := []) (ws' := wX ad cB cI cL f0 f1 f2 f3 f4 f5 f6 f7 v md ln) rfl rfl rfl ?_
  obtain ⟨hI, hA, hV, hL, hR⟩ := hQ
  have hB := cx_B_of hI
  have hn := hI.1
  obtain ⟨hM, hlen⟩ := cx_R_M hI hR
  refine jw_aload_n (pc := 0) F 0 d_X_delete_0 rfl rfl ?_
  refine jw_iload_n (pc := 1) F 1 d_X_delete_1 rfl rfl ?_
  refine jw_callV_Ev (pc := 2) (As := [.int (nI r)]) (rest := []) F ([]) ([]) (c_checkReplica l D ad cB cI cL f0 f1 f2 f3 f4 f5 f6 f7 v md ln r hr) (jw_cwV F.1.2.2.2.2 wl_good w_93 w_95 w_0 w_29 w_96 hd_X_checkReplica ⟨by decide, by decide⟩) 0 0 rfl rfl rfl (by simp) rfl rfl (Nat.le_of_ble_eq_true rfl) d_X_delete_2 ⟨rfl, rfl⟩ ⟨by decide, by decide⟩ ?_
  refine jw_aload_n (pc := 5) F 0 d_X_delete_5 rfl rfl ?_
  refine jw_callV_Ev (pc := 6) (As := []) (rest := []) F ([]) ([]) (c_checkRoom l D ad cB cI cL f0 f1 f2 f3 f4 f5 f6 f7 v md ln (a_n a) hA.1 hn1) (jw_cwV F.1.2.2.2.2 wl_good w_165 w_167 w_2 w_29 w_168 hd_X_checkRoom ⟨by decide, by decide⟩) 0 0 rfl rfl rfl (by simp) rfl rfl (Nat.le_of_ble_eq_true rfl) d_X_delete_6 ⟨rfl, rfl⟩ ⟨by decide, by decide⟩ ?_
  refine jw_aload_n (pc := 9) F 0 d_X_delete_9 rfl rfl ?_
  refine jw_iload_n (pc := 10) F 1 d_X_delete_10 rfl rfl ?_
  refine jw_iload_n (pc := 11) F 2 d_X_delete_11 rfl rfl ?_
  refine jw_callV_Ev (pc := 12) (As := [.int (nI r), .int t]) (rest := []) F ([]) ([]) (c_checkHeldElement l D ad cB cI cL f0 f1 f2 f3 f4 f5 f6 f7 v md ln a hB hA r hr t ht) (jw_cwV F.1.2.2.2.2 wl_good w_185 w_187 w_3 w_29 w_188 hd_X_checkHeldElement ⟨by decide, by decide⟩) 0 0 rfl rfl rfl (by simp) rfl rfl (Nat.le_of_ble_eq_true rfl) d_X_delete_12 ⟨rfl, rfl⟩ ⟨by decide, by decide⟩ ?_
  refine jw_aload_n (pc := 15) F 0 d_X_delete_15 rfl rfl ?_
  refine jw_iload_n (pc := 16) F 1 d_X_delete_16 rfl rfl ?_
  refine jw_iload_n (pc := 17) F 2 d_X_delete_17 rfl rfl ?_
  refine jw_iconst (pc := 18) (v := jb true) F d_X_delete_18 (by decide) ?_
  refine jw_callV_Ci (pc := 19) (As := [.int (nI r), .int t, .int (jb true)]) (rest := []) F (c_make l D ad cB cI cL f0 f1 f2 f3 f4 f5 f6 f7 v md ln a r t true 0 hI hn1 hr (ab_ok_of hn ht) hA) (jw_cwV F.1.2.2.2.2 wl_good w_220 w_222 w_7 w_29 w_223 hd_X_make ⟨by decide, by decide⟩) 0 0 rfl rfl rfl rfl rfl rfl (Nat.le_of_ble_eq_true rfl) d_X_delete_19 ⟨rfl, rfl⟩ ⟨by decide, by decide⟩ (fun r w hw => ?_)
  obtain ⟨rfl, g0, g1, g2, g3, g4, g5, g6, rfl, hA2⟩ := hw
  exact jw_iret F d_X_delete_22 ⟨rfl, _, _, _, _, _, _, _, _, _, _, _, rfl, ab_I_new hI hn1 hr (ab_ok_of hn ht), hA2, cx_V_del hV, hL, ab_row_del hR⟩
set_option maxHeartbeats 4000000 in
set_option maxRecDepth 100000 in
theorem c_give (l : Launch) (D : va_G) (ad : Nat → Nat) (cB cI cL : ClassId) (f0 f1 f2 f3 f4 f5 f6 f7 : Nat → Int32) (v : Nat → Int64) (md ln : Int32) (a : AS) (L : List Nat) (hQ : cx_R a L f0 f1 f2 f3 f4 f5 f6 f7 v md ln) (r : Nat) (hr : r < 4) (k : Nat) (hk : k < a_n a) (ht : a_tg a k = -1 ∨ a_haseB a r (a_tg a k) = true) : jw_Mv l D vCl (vTy cB cI cL) y_X_give s_X_give rm_X_give [.ref (ad 0), .int (nI r), .int (nI k)] (wX ad cB cI cL f0 f1 f2 f3 f4 f5 f6 f7 v md ln) (fun w9 => ∃ (g0 g1 g2 g3 g4 g5 g6 g7 : Nat → Int32) (gv : Nat → Int64) (gm gl : Int32), w9 = wX ad cB cI cL g0 g1 g2 g3 g4 g5 g6 g7 gv gm gl ∧ cx_R (ab_take a r k) L g0 g1 g2 g3 g4 g5 g6 g7 gv gm gl) := by
  refine jw_ofv (cc := b_X_give) (nL := 3) (ret := none) (by decide) rfl (Nat.le_of_ble_eq_true rfl) (fun p e s m args below meth c A F hnm => ?_)
  refine jw_at (lv' := [(0, .ref (ad 0)), (1, .int (nI r)), (2, .int (nI k))]) (st' := []) (ws' := wX ad cB cI cL f0 f1 f2 f3 f4 f5 f6 f7 v md ln) rfl rfl rfl ?_
  obtain ⟨hI, hA, hV, hL, hR⟩ := hQ
  have hB := cx_B_of hI
  have hn := hI.1
  obtain ⟨hM, hlen⟩ := cx_R_M hI hR
  refine jw_aload_n (pc := 0) F 0 d_X_give_0 rfl rfl ?_
  refine jw_iload_n (pc := 1) F 1 d_X_give_1 rfl rfl ?_
  refine jw_callV_Ev (pc := 2) (As := [.int (nI r)]) (rest := []) F ([]) ([]) (c_checkReplica l D ad cB cI cL f0 f1 f2 f3 f4 f5 f6 f7 v md ln r hr) (jw_cwV F.1.2.2.2.2 wl_good w_93 w_95 w_0 w_29 w_96 hd_X_checkReplica ⟨by decide, by decide⟩) 0 0 rfl rfl rfl (by simp) rfl rfl (Nat.le_of_ble_eq_true rfl) d_X_give_2 ⟨rfl, rfl⟩ ⟨by decide, by decide⟩ ?_
  refine jw_aload_n (pc := 5) F 0 d_X_give_5 rfl rfl ?_
  refine jw_iload_n (pc := 6) F 2 d_X_give_6 rfl rfl ?_
  refine jw_callV_Ev (pc := 7) (As := [.int (nI k)]) (rest := []) F ([]) ([]) (c_checkOperation l D ad cB cI cL f0 f1 f2 f3 f4 f5 f6 f7 v md ln (a_n a) hA.1 (nI k) (a_isop_nI (by omega) hk)) (jw_cwV F.1.2.2.2.2 wl_good w_257 w_259 w_12 w_29 w_260 hd_X_checkOperation ⟨by decide, by decide⟩) 0 0 rfl rfl rfl (by simp) rfl rfl (Nat.le_of_ble_eq_true rfl) d_X_give_7 ⟨rfl, rfl⟩ ⟨by decide, by decide⟩ ?_
  refine jw_aload_n (pc := 10) F 0 d_X_give_10 rfl rfl ?_
  refine jw_get (pc := 11) F (jms inX) 0 rfl rfl 2 (by decide) (jm w_48) rfl d_X_give_11 ?_
  refine jw_iload_n (pc := 14) F 2 d_X_give_14 rfl rfl ?_
  refine jw_ialdN (pc := 15) F 2 1 rfl rfl k rfl (by omega) (by decide) d_X_give_15 ?_
  rw [hA.2.2.1 k hk]
  refine jw_iconst (pc := 16) (v := -1) F d_X_give_16 (by decide) ?_
  refine jw_icmp_eq (pc := 17) F 31 d_X_give_17 (by decide) (fun h1 => ?_) (fun h1 => ?_)
  · have hI2 : ab_I (ab_take a r k) := ab_I_take hI hk (fun j hj q => absurd (q.symm.trans h1) (ab_nI_m1 (by omega)))
    refine jw_aload_n (pc := 31) F 0 d_X_give_31 rfl rfl ?_
    refine jw_iload_n (pc := 32) F 1 d_X_give_32 rfl rfl ?_
    refine jw_iload_n (pc := 33) F 2 d_X_give_33 rfl rfl ?_
    refine jw_callV_Cv (pc := 34) (As := [.int (nI r), .int (nI k)]) (rest := []) F (c_take l D ad cB cI cL f0 f1 f2 f3 f4 f5 f6 f7 v md ln a hB hA r k hr hk) (jw_cwV F.1.2.2.2.2 wl_good w_224 w_226 w_8 w_29 w_227 hd_X_take ⟨by decide, by decide⟩) 0 0 rfl rfl rfl rfl rfl rfl (Nat.le_of_ble_eq_true rfl) d_X_give_34 ⟨rfl, rfl⟩ ⟨by decide, by decide⟩ (fun w hw => ?_)
    obtain ⟨g4, g5, g6, rfl, hA2⟩ := hw
    exact jw_vret F d_X_give_37 ⟨_, _, _, _, _, _, _, _, _, _, _, rfl, hI2, hA2, hV, hL, hR⟩
  · have ht2 : a_haseB a r (a_tg a k) = true := ht.resolve_left h1
    have hI2 : ab_I (ab_take a r k) := ab_I_take hI hk (fun j hj q => by rw [q] at ht2; rw [a_haseB_nI hn (by omega)] at ht2; simp only [Bool.and_eq_true] at ht2; exact ht2.2)
    refine jw_aload_n (pc := 20) F 0 d_X_give_20 rfl rfl ?_
    refine jw_iload_n (pc := 21) F 1 d_X_give_21 rfl rfl ?_
    refine jw_aload_n (pc := 22) F 0 d_X_give_22 rfl rfl ?_
    refine jw_get (pc := 23) F (jms inX) 0 rfl rfl 2 (by decide) (jm w_48) rfl d_X_give_23 ?_
    refine jw_iload_n (pc := 26) F 2 d_X_give_26 rfl rfl ?_
    refine jw_ialdN (pc := 27) F 2 1 rfl rfl k rfl (by omega) (by decide) d_X_give_27 ?_
    rw [hA.2.2.1 k hk]
    refine jw_callV_Ev (pc := 28) (As := [.int (nI r), .int (a_tg a k)]) (rest := []) F ([]) ([]) (c_checkHeldElement l D ad cB cI cL f0 f1 f2 f3 f4 f5 f6 f7 v md ln a hB hA r hr (a_tg a k) ht2) (jw_cwV F.1.2.2.2.2 wl_good w_185 w_187 w_3 w_29 w_188 hd_X_checkHeldElement ⟨by decide, by decide⟩) 0 0 rfl rfl rfl (by simp) rfl rfl (Nat.le_of_ble_eq_true rfl) d_X_give_28 ⟨rfl, rfl⟩ ⟨by decide, by decide⟩ ?_
    refine jw_aload_n (pc := 31) F 0 d_X_give_31 rfl rfl ?_
    refine jw_iload_n (pc := 32) F 1 d_X_give_32 rfl rfl ?_
    refine jw_iload_n (pc := 33) F 2 d_X_give_33 rfl rfl ?_
    refine jw_callV_Cv (pc := 34) (As := [.int (nI r), .int (nI k)]) (rest := []) F (c_take l D ad cB cI cL f0 f1 f2 f3 f4 f5 f6 f7 v md ln a hB hA r k hr hk) (jw_cwV F.1.2.2.2.2 wl_good w_224 w_226 w_8 w_29 w_227 hd_X_take ⟨by decide, by decide⟩) 0 0 rfl rfl rfl rfl rfl rfl (Nat.le_of_ble_eq_true rfl) d_X_give_34 ⟨rfl, rfl⟩ ⟨by decide, by decide⟩ (fun w hw => ?_)
    obtain ⟨g4, g5, g6, rfl, hA2⟩ := hw
    exact jw_vret F d_X_give_37 ⟨_, _, _, _, _, _, _, _, _, _, _, rfl, hI2, hA2, hV, hL, hR⟩
set_option maxHeartbeats 4000000 in
set_option maxRecDepth 100000 in
theorem c_holds (l : Launch) (D : va_G) (ad : Nat → Nat) (cB cI cL : ClassId) (f0 f1 f2 f3 f4 f5 f6 f7 : Nat → Int32) (v : Nat → Int64) (md ln : Int32) (a : AS) (L : List Nat) (hQ : cx_R a L f0 f1 f2 f3 f4 f5 f6 f7 v md ln) (r : Nat) (hr : r < 4) (k : Nat) (hk : k < a_n a) : jw_Ei l D vCl (vTy cB cI cL) y_X_holds s_X_holds rm_X_holds [.ref (ad 0), .int (nI r), .int (nI k)] (wX ad cB cI cL f0 f1 f2 f3 f4 f5 f6 f7 v md ln) ((jb (a_hd a r k))) := by
  refine jw_ofi (cc := b_X_holds) (nL := 3) (ret := (some .boolean)) (by decide) rfl (Nat.le_of_ble_eq_true rfl) (fun p e s m args below meth c A F hnm => ?_)
  refine jw_at (lv' := [(0, .ref (ad 0)), (1, .int (nI r)), (2, .int (nI k))]) (st' := []) (ws' := wX ad cB cI cL f0 f1 f2 f3 f4 f5 f6 f7 v md ln) rfl rfl rfl ?_
  obtain ⟨hI, hA, hV, hL, hR⟩ := hQ
  have hB := cx_B_of hI
  have hn := hI.1
  obtain ⟨hM, hlen⟩ := cx_R_M hI hR
  refine jw_aload_n (pc := 0) F 0 d_X_holds_0 rfl rfl ?_
  refine jw_iload_n (pc := 1) F 1 d_X_holds_1 rfl rfl ?_
  refine jw_callV_Ev (pc := 2) (As := [.int (nI r)]) (rest := []) F ([]) ([]) (c_checkReplica l D ad cB cI cL f0 f1 f2 f3 f4 f5 f6 f7 v md ln r hr) (jw_cwV F.1.2.2.2.2 wl_good w_93 w_95 w_0 w_29 w_96 hd_X_checkReplica ⟨by decide, by decide⟩) 0 0 rfl rfl rfl (by simp) rfl rfl (Nat.le_of_ble_eq_true rfl) d_X_holds_2 ⟨rfl, rfl⟩ ⟨by decide, by decide⟩ ?_
  refine jw_aload_n (pc := 5) F 0 d_X_holds_5 rfl rfl ?_
  refine jw_iload_n (pc := 6) F 2 d_X_holds_6 rfl rfl ?_
  refine jw_callV_Ev (pc := 7) (As := [.int (nI k)]) (rest := []) F ([]) ([]) (c_checkOperation l D ad cB cI cL f0 f1 f2 f3 f4 f5 f6 f7 v md ln (a_n a) hA.1 (nI k) (a_isop_nI (by omega) hk)) (jw_cwV F.1.2.2.2.2 wl_good w_257 w_259 w_12 w_29 w_260 hd_X_checkOperation ⟨by decide, by decide⟩) 0 0 rfl rfl rfl (by simp) rfl rfl (Nat.le_of_ble_eq_true rfl) d_X_holds_7 ⟨rfl, rfl⟩ ⟨by decide, by decide⟩ ?_
  refine jw_aload_n (pc := 10) F 0 d_X_holds_10 rfl rfl ?_
  refine jw_iload_n (pc := 11) F 1 d_X_holds_11 rfl rfl ?_
  refine jw_iload_n (pc := 12) F 2 d_X_holds_12 rfl rfl ?_
  refine jw_callV_Ei (pc := 13) (As := [.int (nI r), .int (nI k)]) (rest := []) F ([]) ([]) (c_isHeld l D ad cB cI cL f0 f1 f2 f3 f4 f5 f6 f7 v md ln a r k hA hr (by omega)) (jw_cwV F.1.2.2.2.2 wl_good w_197 w_199 w_6 w_29 w_200 hd_X_isHeld ⟨by decide, by decide⟩) 0 0 rfl rfl rfl (by simp) rfl rfl (Nat.le_of_ble_eq_true rfl) d_X_holds_13 ⟨rfl, rfl⟩ ⟨by decide, by decide⟩ ?_
  exact jw_zret F d_X_holds_16 (jb_narrow _) ⟨rfl, rfl⟩
set_option maxHeartbeats 4000000 in
set_option maxRecDepth 100000 in
theorem c_value (l : Launch) (D : va_G) (ad : Nat → Nat) (cB cI cL : ClassId) (f0 f1 f2 f3 f4 f5 f6 f7 : Nat → Int32) (v : Nat → Int64) (md ln : Int32) (a : AS) (L : List Nat) (hQ : cx_R a L f0 f1 f2 f3 f4 f5 f6 f7 v md ln) (k : Nat) (hk : k < a_n a) (hd : a_dl a k = false) : jw_El l D vCl (vTy cB cI cL) y_X_value s_X_value rm_X_value [.ref (ad 0), .int (nI k)] (wX ad cB cI cL f0 f1 f2 f3 f4 f5 f6 f7 v md ln) ((a_vl a k)) := by
  refine jw_ofl (cc := b_X_value) (nL := 2) (ret := (some .long)) (by decide) rfl (Nat.le_of_ble_eq_true rfl) (fun p e s m args below meth c A F hnm => ?_)
  refine jw_at (lv' := [(0, .ref (ad 0)), (1, .int (nI k))]) (st' := []) (ws' := wX ad cB cI cL f0 f1 f2 f3 f4 f5 f6 f7 v md ln) rfl rfl rfl ?_
  obtain ⟨hI, hA, hV, hL, hR⟩ := hQ
  have hB := cx_B_of hI
  have hn := hI.1
  obtain ⟨hM, hlen⟩ := cx_R_M hI hR
  refine jw_aload_n (pc := 0) F 0 d_X_value_0 rfl rfl ?_
  refine jw_iload_n (pc := 1) F 1 d_X_value_1 rfl rfl ?_
  refine jw_callV_Ei (pc := 2) (As := [.int (nI k)]) (rest := []) F ([]) ([]) (c_isElement l D ad cB cI cL f0 f1 f2 f3 f4 f5 f6 f7 v md ln a hB hA (nI k)) (jw_cwV F.1.2.2.2.2 wl_good w_189 w_191 w_4 w_29 w_192 hd_X_isElement ⟨by decide, by decide⟩) 0 0 rfl rfl rfl (by simp) rfl rfl (Nat.le_of_ble_eq_true rfl) d_X_value_2 ⟨rfl, rfl⟩ ⟨by decide, by decide⟩ ?_
  refine jw_if_ne (pc := 5) F 18 d_X_value_5 (by decide) (fun hz1 => ?_) (fun hz1 => False.elim (absurd (jb_0.mp hz1) (by rw [a_isel_nI hn hk, hd]; decide)))
  refine jw_aload_n (pc := 18) F 0 d_X_value_18 rfl rfl ?_
  refine jw_get (pc := 19) F (jms inX) 0 rfl rfl 3 (by decide) (jm w_49) rfl d_X_value_19 ?_
  refine jw_iload_n (pc := 22) F 1 d_X_value_22 rfl rfl ?_
  refine jw_laldN (pc := 23) F 3 2 rfl rfl k rfl (by omega) (by decide) d_X_value_23 ?_
  exact jw_lret F d_X_value_24 ⟨hV k hk hd, rfl⟩
set_option maxHeartbeats 4000000 in
set_option maxRecDepth 100000 in
theorem c_stamp (l : Launch) (D : va_G) (ad : Nat → Nat) (cB cI cL : ClassId) (f0 f1 f2 f3 f4 f5 f6 f7 : Nat → Int32) (v : Nat → Int64) (md ln : Int32) (a : AS) (L : List Nat) (hQ : cx_R a L f0 f1 f2 f3 f4 f5 f6 f7 v md ln) (k : Nat) (hk : k < a_n a) : jw_Ei l D vCl (vTy cB cI cL) y_X_stamp s_X_stamp rm_X_stamp [.ref (ad 0), .int (nI k)] (wX ad cB cI cL f0 f1 f2 f3 f4 f5 f6 f7 v md ln) ((nI (a_ct a k))) := by
  refine jw_ofi (cc := b_X_stamp) (nL := 2) (ret := (some .int)) (by decide) rfl (Nat.le_of_ble_eq_true rfl) (fun p e s m args below meth c A F hnm => ?_)
  refine jw_at (lv' := [(0, .ref (ad 0)), (1, .int (nI k))]) (st' := []) (ws' := wX ad cB cI cL f0 f1 f2 f3 f4 f5 f6 f7 v md ln) rfl rfl rfl ?_
  obtain ⟨hI, hA, hV, hL, hR⟩ := hQ
  have hB := cx_B_of hI
  have hn := hI.1
  obtain ⟨hM, hlen⟩ := cx_R_M hI hR
  refine jw_aload_n (pc := 0) F 0 d_X_stamp_0 rfl rfl ?_
  refine jw_iload_n (pc := 1) F 1 d_X_stamp_1 rfl rfl ?_
  refine jw_callV_Ev (pc := 2) (As := [.int (nI k)]) (rest := []) F ([]) ([]) (c_checkOperation l D ad cB cI cL f0 f1 f2 f3 f4 f5 f6 f7 v md ln (a_n a) hA.1 (nI k) (a_isop_nI (by omega) hk)) (jw_cwV F.1.2.2.2.2 wl_good w_257 w_259 w_12 w_29 w_260 hd_X_checkOperation ⟨by decide, by decide⟩) 0 0 rfl rfl rfl (by simp) rfl rfl (Nat.le_of_ble_eq_true rfl) d_X_stamp_2 ⟨rfl, rfl⟩ ⟨by decide, by decide⟩ ?_
  refine jw_aload_n (pc := 5) F 0 d_X_stamp_5 rfl rfl ?_
  refine jw_get (pc := 6) F (jms inX) 0 rfl rfl 4 (by decide) (jm w_50) rfl d_X_stamp_6 ?_
  refine jw_iload_n (pc := 9) F 1 d_X_stamp_9 rfl rfl ?_
  refine jw_ialdN (pc := 10) F 4 1 rfl rfl k rfl (by omega) (by decide) d_X_stamp_10 ?_
  exact jw_iret F d_X_stamp_11 ⟨hA.2.2.2.1 k hk, rfl⟩
set_option maxHeartbeats 4000000 in
set_option maxRecDepth 100000 in
theorem c_count_0 (l : Launch) (D : va_G) (ad : Nat → Nat) (cB cI cL : ClassId) (f0 f1 f2 f3 f4 f5 f6 f7 : Nat → Int32) (v : Nat → Int64) (md ln : Int32) (a : AS) (L : List Nat) (hQ : cx_R a L f0 f1 f2 f3 f4 f5 f6 f7 v md ln) (r : Nat) (hr : r < 4) : jw_Ei l D vCl (vTy cB cI cL) y_X_count s_X_count rm_X_count [.ref (ad 0), .int (nI r), .int (nI 0)] (wX ad cB cI cL f0 f1 f2 f3 f4 f5 f6 f7 v md ln) ((nI ((List.range (a_n a)).countP (a_hd a r)))) := by
  refine jw_ofi (cc := b_X_count) (nL := 3) (ret := (some .int)) (by decide) rfl (Nat.le_of_ble_eq_true rfl) (fun p e s m args below meth c A F hnm => ?_)
  refine jw_at (lv' := [(0, .ref (ad 0)), (1, .int (nI r)), (2, .int (nI 0))]) (st' := []) (ws' := wX ad cB cI cL f0 f1 f2 f3 f4 f5 f6 f7 v md ln) rfl rfl rfl ?_
  obtain ⟨hI, hA, hV, hL, hR⟩ := hQ
  have hB := cx_B_of hI
  have hn := hI.1
  obtain ⟨hM, hlen⟩ := cx_R_M hI hR
  refine jw_aload_n (pc := 0) F 0 d_X_count_0 rfl rfl ?_
  refine jw_iload_n (pc := 1) F 1 d_X_count_1 rfl rfl ?_
  refine jw_callV_Ev (pc := 2) (As := [.int (nI r)]) (rest := []) F ([]) ([]) (c_checkReplica l D ad cB cI cL f0 f1 f2 f3 f4 f5 f6 f7 v md ln r hr) (jw_cwV F.1.2.2.2.2 wl_good w_93 w_95 w_0 w_29 w_96 hd_X_checkReplica ⟨by decide, by decide⟩) 0 0 rfl rfl rfl (by simp) rfl rfl (Nat.le_of_ble_eq_true rfl) d_X_count_2 ⟨rfl, rfl⟩ ⟨by decide, by decide⟩ ?_
  refine jw_iload_n (pc := 5) F 2 d_X_count_5 rfl rfl ?_
  refine jw_tableIn (pc := 6) F 36 d_X_count_6 (by decide) (by decide) (off := 30) (by decide) (by decide) ?_
  refine jw_aload_n (pc := 36) F 0 d_X_count_36 rfl rfl ?_
  refine jw_iload_n (pc := 37) F 1 d_X_count_37 rfl rfl ?_
  refine jw_callV_Ei (pc := 38) (As := [.int (nI r)]) (rest := []) F ([]) ([]) (c_countHeldOperations l D ad cB cI cL f0 f1 f2 f3 f4 f5 f6 f7 v md ln a hB hA r hr) (jw_cwV F.1.2.2.2.2 wl_good w_316 w_318 w_14 w_29 w_319 hd_X_countHeldOperations ⟨by decide, by decide⟩) 0 0 rfl rfl rfl (by simp) rfl rfl (Nat.le_of_ble_eq_true rfl) d_X_count_38 ⟨rfl, rfl⟩ ⟨by decide, by decide⟩ ?_
  exact jw_iret F d_X_count_41 ⟨rfl, rfl⟩
set_option maxHeartbeats 4000000 in
set_option maxRecDepth 100000 in
theorem c_count_1 (l : Launch) (D : va_G) (ad : Nat → Nat) (cB cI cL : ClassId) (f0 f1 f2 f3 f4 f5 f6 f7 : Nat → Int32) (v : Nat → Int64) (md ln : Int32) (a : AS) (L : List Nat) (hQ : cx_R a L f0 f1 f2 f3 f4 f5 f6 f7 v md ln) (r : Nat) (hr : r < 4) : jw_Ei l D vCl (vTy cB cI cL) y_X_count s_X_count rm_X_count [.ref (ad 0), .int (nI r), .int (nI 1)] (wX ad cB cI cL f0 f1 f2 f3 f4 f5 f6 f7 v md ln) ((nI (L.countP (a_hd a r)))) := by
  refine jw_ofi (cc := b_X_count) (nL := 3) (ret := (some .int)) (by decide) rfl (Nat.le_of_ble_eq_true rfl) (fun p e s m args below meth c A F hnm => ?_)
  refine jw_at (lv' := [(0, .ref (ad 0)), (1, .int (nI r)), (2, .int (nI 1))]) (st' := []) (ws' := wX ad cB cI cL f0 f1 f2 f3 f4 f5 f6 f7 v md ln) rfl rfl rfl ?_
  obtain ⟨hI, hA, hV, hL, hR⟩ := hQ
  have hB := cx_B_of hI
  have hn := hI.1
  obtain ⟨hM, hlen⟩ := cx_R_M hI hR
  refine jw_aload_n (pc := 0) F 0 d_X_count_0 rfl rfl ?_
  refine jw_iload_n (pc := 1) F 1 d_X_count_1 rfl rfl ?_
  refine jw_callV_Ev (pc := 2) (As := [.int (nI r)]) (rest := []) F ([]) ([]) (c_checkReplica l D ad cB cI cL f0 f1 f2 f3 f4 f5 f6 f7 v md ln r hr) (jw_cwV F.1.2.2.2.2 wl_good w_93 w_95 w_0 w_29 w_96 hd_X_checkReplica ⟨by decide, by decide⟩) 0 0 rfl rfl rfl (by simp) rfl rfl (Nat.le_of_ble_eq_true rfl) d_X_count_2 ⟨rfl, rfl⟩ ⟨by decide, by decide⟩ ?_
  refine jw_iload_n (pc := 5) F 2 d_X_count_5 rfl rfl ?_
  refine jw_tableIn (pc := 6) F 42 d_X_count_6 (by decide) (by decide) (off := 36) (by decide) (by decide) ?_
  refine jw_aload_n (pc := 42) F 0 d_X_count_42 rfl rfl ?_
  refine jw_iload_n (pc := 43) F 1 d_X_count_43 rfl rfl ?_
  refine jw_callV_Ei (pc := 44) (As := [.int (nI r)]) (rest := []) F ([]) ([]) (c_countHeldElements l D ad cB cI cL f0 f1 f2 f3 f4 f5 f6 f7 v md ln a hB hA L hL hM hlen r hr) (jw_cwV F.1.2.2.2.2 wl_good w_320 w_322 w_15 w_29 w_323 hd_X_countHeldElements ⟨by decide, by decide⟩) 0 0 rfl rfl rfl (by simp) rfl rfl (Nat.le_of_ble_eq_true rfl) d_X_count_44 ⟨rfl, rfl⟩ ⟨by decide, by decide⟩ ?_
  exact jw_iret F d_X_count_47 ⟨rfl, rfl⟩
set_option maxHeartbeats 4000000 in
set_option maxRecDepth 100000 in
theorem c_count_2 (l : Launch) (D : va_G) (ad : Nat → Nat) (cB cI cL : ClassId) (f0 f1 f2 f3 f4 f5 f6 f7 : Nat → Int32) (v : Nat → Int64) (md ln : Int32) (a : AS) (L : List Nat) (hQ : cx_R a L f0 f1 f2 f3 f4 f5 f6 f7 v md ln) (r : Nat) (hr : r < 4) : jw_Ei l D vCl (vTy cB cI cL) y_X_count s_X_count rm_X_count [.ref (ad 0), .int (nI r), .int (nI 2)] (wX ad cB cI cL f0 f1 f2 f3 f4 f5 f6 f7 v md ln) ((nI (L.countP (a_seen a r)))) := by
  refine jw_ofi (cc := b_X_count) (nL := 3) (ret := (some .int)) (by decide) rfl (Nat.le_of_ble_eq_true rfl) (fun p e s m args below meth c A F hnm => ?_)
  refine jw_at (lv' := [(0, .ref (ad 0)), (1, .int (nI r)), (2, .int (nI 2))]) (st' := []) (ws' := wX ad cB cI cL f0 f1 f2 f3 f4 f5 f6 f7 v md ln) rfl rfl rfl ?_
  obtain ⟨hI, hA, hV, hL, hR⟩ := hQ
  have hB := cx_B_of hI
  have hn := hI.1
  obtain ⟨hM, hlen⟩ := cx_R_M hI hR
  refine jw_aload_n (pc := 0) F 0 d_X_count_0 rfl rfl ?_
  refine jw_iload_n (pc := 1) F 1 d_X_count_1 rfl rfl ?_
  refine jw_callV_Ev (pc := 2) (As := [.int (nI r)]) (rest := []) F ([]) ([]) (c_checkReplica l D ad cB cI cL f0 f1 f2 f3 f4 f5 f6 f7 v md ln r hr) (jw_cwV F.1.2.2.2.2 wl_good w_93 w_95 w_0 w_29 w_96 hd_X_checkReplica ⟨by decide, by decide⟩) 0 0 rfl rfl rfl (by simp) rfl rfl (Nat.le_of_ble_eq_true rfl) d_X_count_2 ⟨rfl, rfl⟩ ⟨by decide, by decide⟩ ?_
  refine jw_iload_n (pc := 5) F 2 d_X_count_5 rfl rfl ?_
  refine jw_tableIn (pc := 6) F 48 d_X_count_6 (by decide) (by decide) (off := 42) (by decide) (by decide) ?_
  refine jw_aload_n (pc := 48) F 0 d_X_count_48 rfl rfl ?_
  refine jw_iload_n (pc := 49) F 1 d_X_count_49 rfl rfl ?_
  refine jw_callV_Ei (pc := 50) (As := [.int (nI r)]) (rest := []) F ([]) ([]) (c_countSeen l D ad cB cI cL f0 f1 f2 f3 f4 f5 f6 f7 v md ln a hB hA L hL hM hlen r hr) (jw_cwV F.1.2.2.2.2 wl_good w_324 w_326 w_16 w_29 w_327 hd_X_countSeen ⟨by decide, by decide⟩) 0 0 rfl rfl rfl (by simp) rfl rfl (Nat.le_of_ble_eq_true rfl) d_X_count_50 ⟨rfl, rfl⟩ ⟨by decide, by decide⟩ ?_
  exact jw_iret F d_X_count_53 ⟨rfl, rfl⟩
set_option maxHeartbeats 4000000 in
set_option maxRecDepth 100000 in
theorem c_count_3 (l : Launch) (D : va_G) (ad : Nat → Nat) (cB cI cL : ClassId) (f0 f1 f2 f3 f4 f5 f6 f7 : Nat → Int32) (v : Nat → Int64) (md ln : Int32) (a : AS) (L : List Nat) (hQ : cx_R a L f0 f1 f2 f3 f4 f5 f6 f7 v md ln) (r : Nat) (hr : r < 4) : jw_Ei l D vCl (vTy cB cI cL) y_X_count s_X_count rm_X_count [.ref (ad 0), .int (nI r), .int (nI 3)] (wX ad cB cI cL f0 f1 f2 f3 f4 f5 f6 f7 v md ln) ((nI (a_gr a r))) := by
  refine jw_ofi (cc := b_X_count) (nL := 3) (ret := (some .int)) (by decide) rfl (Nat.le_of_ble_eq_true rfl) (fun p e s m args below meth c A F hnm => ?_)
  refine jw_at (lv' := [(0, .ref (ad 0)), (1, .int (nI r)), (2, .int (nI 3))]) (st' := []) (ws' := wX ad cB cI cL f0 f1 f2 f3 f4 f5 f6 f7 v md ln) rfl rfl rfl ?_
  obtain ⟨hI, hA, hV, hL, hR⟩ := hQ
  have hB := cx_B_of hI
  have hn := hI.1
  obtain ⟨hM, hlen⟩ := cx_R_M hI hR
  refine jw_aload_n (pc := 0) F 0 d_X_count_0 rfl rfl ?_
  refine jw_iload_n (pc := 1) F 1 d_X_count_1 rfl rfl ?_
  refine jw_callV_Ev (pc := 2) (As := [.int (nI r)]) (rest := []) F ([]) ([]) (c_checkReplica l D ad cB cI cL f0 f1 f2 f3 f4 f5 f6 f7 v md ln r hr) (jw_cwV F.1.2.2.2.2 wl_good w_93 w_95 w_0 w_29 w_96 hd_X_checkReplica ⟨by decide, by decide⟩) 0 0 rfl rfl rfl (by simp) rfl rfl (Nat.le_of_ble_eq_true rfl) d_X_count_2 ⟨rfl, rfl⟩ ⟨by decide, by decide⟩ ?_
  refine jw_iload_n (pc := 5) F 2 d_X_count_5 rfl rfl ?_
  refine jw_tableIn (pc := 6) F 54 d_X_count_6 (by decide) (by decide) (off := 48) (by decide) (by decide) ?_
  refine jw_aload_n (pc := 54) F 0 d_X_count_54 rfl rfl ?_
  refine jw_get (pc := 55) F (jms inX) 0 rfl rfl 8 (by decide) (jm w_54) rfl d_X_count_55 ?_
  refine jw_iload_n (pc := 58) F 1 d_X_count_58 rfl rfl ?_
  refine jw_ialdN (pc := 59) F 8 1 rfl rfl r rfl (by omega) (by decide) d_X_count_59 ?_
  exact jw_iret F d_X_count_60 ⟨hA.2.2.2.2.2.2.2 r hr, rfl⟩
