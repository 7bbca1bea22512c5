theorem w_97 : Cond.classLink RX 98 "java/lang/IllegalArgumentException" ∈ WL := jwl 97 rfl rfl
theorem w_34 : Cond.initialized "java/lang/IllegalArgumentException" ∈ WL := jwl 34 rfl rfl
theorem w_169 : Cond.classLink RX 81 "java/lang/IndexOutOfBoundsException" ∈ WL := jwl 169 rfl rfl
theorem w_35 : Cond.initialized "java/lang/IndexOutOfBoundsException" ∈ WL := jwl 35 rfl rfl
theorem w_189 : Cond.methodLink RX 77 y_X_isElement ∈ WL := jwl 189 rfl rfl
theorem w_191 : Cond.instanceMethod y_X_isElement ∈ WL := jwl 191 rfl rfl
theorem w_4 : Cond.selects RX y_X_isElement y_X_isElement ∈ WL := jwl 4 rfl rfl
theorem w_192 : Cond.code y_X_isElement b_X_isElement 2 (some .boolean) ∈ WL := jwl 192 rfl rfl
theorem w_204 : Cond.classLink RX 112 "java/lang/IllegalStateException" ∈ WL := jwl 204 rfl rfl
theorem w_36 : Cond.initialized "java/lang/IllegalStateException" ∈ WL := jwl 36 rfl rfl
abbrev rm_X_checkReplica : Room := { frames := 6, cells := 0, slots := 0, locals := 90 }
abbrev rm_X_checkRoom : Room := { frames := 6, cells := 0, slots := 0, locals := 90 }
abbrev rm_X_checkOperation : Room := { frames := 6, cells := 0, slots := 0, locals := 90 }
abbrev rm_X_checkHeldElement : Room := { frames := 6, cells := 0, slots := 0, locals := 90 }
set_option maxHeartbeats 4000000 in
set_option maxRecDepth 100000 in
theorem c_checkReplica (l : Launch) (D : va_G) (ad : Nat → Nat) (cB cI cL : ClassId) (f0 f1 f2 f3 f4 f5 f6 f7 : Nat → Int32) (v : Nat → Int64) (md ln : Int32) (r : Nat) (hr : r < 4) : jw_Ev l D vCl (vTy cB cI cL) y_X_checkReplica s_X_checkReplica rm_X_checkReplica [.ref (ad 0), .int (nI r)] (wX ad cB cI cL f0 f1 f2 f3 f4 f5 f6 f7 v md ln) := by
  refine jw_ofv (cc := b_X_checkReplica) (nL := 2) (ret := none) (by decide) rfl (Nat.le_of_ble_eq_true rfl) (fun p e s m args below meth c A F hnm => ?_)
  refine jw_at (lv' := [(0, .ref (ad 0)), (1, .int (nI r))]) (st' := []) (ws' := wX ad cB cI cL f0 f1 f2 f3 f4 f5 f6 f7 v md ln) rfl rfl rfl ?_
  refine jw_iload_n (pc := 0) F 1 d_X_checkReplica_0 rfl rfl ?_
  refine jw_if_lt (pc := 1) F 9 d_X_checkReplica_1 (by decide) (fun hz1 => False.elim (nI_pos (by omega) hz1)) (fun hz1 => ?_)
  refine jw_iload_n (pc := 4) F 1 d_X_checkReplica_4 rfl rfl ?_
  refine jw_iconst (pc := 5) (v := nI 4) F d_X_checkReplica_5 (by decide) ?_
  refine jw_icmp_lt (pc := 6) F 19 d_X_checkReplica_6 (by decide) (fun hz2 => ?_) (fun hz2 => False.elim (hz2 (nI_lt hr (by decide))))
  exact jw_vret F d_X_checkReplica_19 rfl
abbrev rm_X_checkReplica_x : Room := { frames := 6, cells := 1, slots := 6, locals := 90 }
set_option maxHeartbeats 4000000 in
set_option maxRecDepth 100000 in
theorem c_checkReplica_x (l : Launch) (D : va_G) (ad : Nat → Nat) (cB cI cL : ClassId) (f0 f1 f2 f3 f4 f5 f6 f7 : Nat → Int32) (v : Nat → Int64) (md ln : Int32) (r : Int32) (hr : a_isrep r = false) (hl : l.stackTraces = false) : jw_Tx l D vCl (vTy cB cI cL) y_X_checkReplica s_X_checkReplica rm_X_checkReplica_x [.ref (ad 0), .int r] (wX ad cB cI cL f0 f1 f2 f3 f4 f5 f6 f7 v md ln) jz_Z "java/lang/IllegalArgumentException" := by
  refine jw_ofx (cc := b_X_checkReplica) (nL := 2) (ret := none) (by decide) rfl (Nat.le_of_ble_eq_true rfl) (fun p e s m args below meth c A F hT hZ => ?_)
  refine jw_at (lv' := [(0, .ref (ad 0)), (1, .int r)]) (st' := []) (ws' := wX ad cB cI cL f0 f1 f2 f3 f4 f5 f6 f7 v md ln) rfl rfl rfl ?_
  refine jw_iload_n (pc := 0) F 1 d_X_checkReplica_0 rfl rfl ?_
  refine jw_if_lt (pc := 1) F 9 d_X_checkReplica_1 (by decide) (fun h1 => ?_) (fun h1 => ?_)
  · obtain ⟨sa, hsa⟩ := hZ.2.2.2.1
    exact jw_throw (pc := 9) (names := ["java/lang/RuntimeException", "java/lang/Exception"]) F hT hl (by decide +kernel) (by decide +kernel) (jm w_97) (jm w_34) hsa (jz_hatIAE F.1.2.2.2.2 hZ) jz_otIAE hZ.1 hZ.2.1 d_X_checkReplica_9 d_X_checkReplica_12 d_X_checkReplica_13 d_X_checkReplica_15 d_X_checkReplica_18 (by decide) (Nat.le_of_ble_eq_true rfl) (by decide) (by decide) (by decide) (by decide)
  · refine jw_iload_n (pc := 4) F 1 d_X_checkReplica_4 rfl rfl ?_
    refine jw_iconst (pc := 5) (v := nI 4) F d_X_checkReplica_5 (by decide) ?_
    refine jw_icmp_lt (pc := 6) F 19 d_X_checkReplica_6 (by decide) (fun h2 => ?_) (fun h2 => ?_)
    · exact absurd (show a_isrep r = true by simp [a_isrep, a_isop, h1, h2]) (by rw [hr]; decide)
    · obtain ⟨sa, hsa⟩ := hZ.2.2.2.1
      exact jw_throw (pc := 9) (names := ["java/lang/RuntimeException", "java/lang/Exception"]) F hT hl (by decide +kernel) (by decide +kernel) (jm w_97) (jm w_34) hsa (jz_hatIAE F.1.2.2.2.2 hZ) jz_otIAE hZ.1 hZ.2.1 d_X_checkReplica_9 d_X_checkReplica_12 d_X_checkReplica_13 d_X_checkReplica_15 d_X_checkReplica_18 (by decide) (Nat.le_of_ble_eq_true rfl) (by decide) (by decide) (by decide) (by decide)
set_option maxHeartbeats 4000000 in
set_option maxRecDepth 100000 in
theorem c_checkRoom (l : Launch) (D : va_G) (ad : Nat → Nat) (cB cI cL : ClassId) (f0 f1 f2 f3 f4 f5 f6 f7 : Nat → Int32) (v : Nat → Int64) (md ln : Int32) (n : Nat) (hmd : md = nI n) (hn : n < 160) : jw_Ev l D vCl (vTy cB cI cL) y_X_checkRoom s_X_checkRoom rm_X_checkRoom [.ref (ad 0)] (wX ad cB cI cL f0 f1 f2 f3 f4 f5 f6 f7 v md ln) := by
  refine jw_ofv (cc := b_X_checkRoom) (nL := 1) (ret := none) (by decide) rfl (Nat.le_of_ble_eq_true rfl) (fun p e s m args below meth c A F hnm => ?_)
  refine jw_at (lv' := [(0, .ref (ad 0))]) (st' := []) (ws' := wX ad cB cI cL f0 f1 f2 f3 f4 f5 f6 f7 v md ln) rfl rfl rfl ?_
  subst hmd
  refine jw_aload_n (pc := 0) F 0 d_X_checkRoom_0 rfl rfl ?_
  refine jw_get (pc := 1) F (jms inX) 0 rfl rfl 0 (by decide) (jm w_46) rfl d_X_checkRoom_1 ?_
  refine jw_sipush (pc := 4) (v := nI 160) F d_X_checkRoom_4 (by decide) ?_
  refine jw_icmp_lt (pc := 7) F 20 d_X_checkRoom_7 (by decide) (fun hz1 => ?_) (fun hz1 => False.elim (hz1 (nI_lt hn (by decide))))
  exact jw_vret F d_X_checkRoom_20 rfl
abbrev rm_X_checkRoom_x : Room := { frames := 6, cells := 1, slots := 6, locals := 90 }
set_option maxHeartbeats 4000000 in
set_option maxRecDepth 100000 in
theorem c_checkRoom_x (l : Launch) (D : va_G) (ad : Nat → Nat) (cB cI cL : ClassId) (f0 f1 f2 f3 f4 f5 f6 f7 : Nat → Int32) (v : Nat → Int64) (md ln : Int32) (hmd : md = nI 160) (hl : l.stackTraces = false) : jw_Tx l D vCl (vTy cB cI cL) y_X_checkRoom s_X_checkRoom rm_X_checkRoom_x [.ref (ad 0)] (wX ad cB cI cL f0 f1 f2 f3 f4 f5 f6 f7 v md ln) jz_Z "java/lang/IndexOutOfBoundsException" := by
  refine jw_ofx (cc := b_X_checkRoom) (nL := 1) (ret := none) (by decide) rfl (Nat.le_of_ble_eq_true rfl) (fun p e s m args below meth c A F hT hZ => ?_)
  refine jw_at (lv' := [(0, .ref (ad 0))]) (st' := []) (ws' := wX ad cB cI cL f0 f1 f2 f3 f4 f5 f6 f7 v md ln) rfl rfl rfl ?_
  subst hmd
  refine jw_aload_n (pc := 0) F 0 d_X_checkRoom_0 rfl rfl ?_
  refine jw_get (pc := 1) F (jms inX) 0 rfl rfl 0 (by decide) (jm w_46) rfl d_X_checkRoom_1 ?_
  refine jw_sipush (pc := 4) (v := nI 160) F d_X_checkRoom_4 (by decide) ?_
  refine jw_icmp_lt (pc := 7) F 20 d_X_checkRoom_7 (by decide) (fun hz1 => False.elim (absurd hz1 (by decide))) (fun hz1 => ?_)
  obtain ⟨sa, hsa⟩ := hZ.2.2.2.2.1
  exact jw_throw (pc := 10) (names := ["java/lang/RuntimeException", "java/lang/Exception"]) F hT hl (by decide +kernel) (by decide +kernel) (jm w_169) (jm w_35) hsa (jz_hatIOB F.1.2.2.2.2 hZ) jz_otIOB hZ.1 hZ.2.1 d_X_checkRoom_10 d_X_checkRoom_13 d_X_checkRoom_14 d_X_checkRoom_16 d_X_checkRoom_19 (by decide) (Nat.le_of_ble_eq_true rfl) (by decide) (by decide) (by decide) (by decide)
set_option maxHeartbeats 4000000 in
set_option maxRecDepth 100000 in
theorem c_checkOperation (l : Launch) (D : va_G) (ad : Nat → Nat) (cB cI cL : ClassId) (f0 f1 f2 f3 f4 f5 f6 f7 : Nat → Int32) (v : Nat → Int64) (md ln : Int32) (n : Nat) (hmd : md = nI n) (k : Int32) (hk : a_isop n k = true) : jw_Ev l D vCl (vTy cB cI cL) y_X_checkOperation s_X_checkOperation rm_X_checkOperation [.ref (ad 0), .int k] (wX ad cB cI cL f0 f1 f2 f3 f4 f5 f6 f7 v md ln) := by
  refine jw_ofv (cc := b_X_checkOperation) (nL := 2) (ret := none) (by decide) rfl (Nat.le_of_ble_eq_true rfl) (fun p e s m args below meth c A F hnm => ?_)
  refine jw_at (lv' := [(0, .ref (ad 0)), (1, .int k)]) (st' := []) (ws' := wX ad cB cI cL f0 f1 f2 f3 f4 f5 f6 f7 v md ln) rfl rfl rfl ?_
  refine jw_aload_n (pc := 0) F 0 d_X_checkOperation_0 rfl rfl ?_
  refine jw_iload_n (pc := 1) F 1 d_X_checkOperation_1 rfl rfl ?_
  refine jw_callV_Ei (pc := 2) (As := [.int k]) (rest := []) F ([]) ([]) (c_isOperation l D ad cB cI cL f0 f1 f2 f3 f4 f5 f6 f7 v md ln n hmd k) (jw_cwV F.1.2.2.2.2 wl_good w_193 w_195 w_5 w_29 w_196 hd_X_isOperation ⟨by decide, by decide⟩) 0 0 rfl rfl rfl (by simp) rfl rfl (Nat.le_of_ble_eq_true rfl) d_X_checkOperation_2 ⟨rfl, rfl⟩ ⟨by decide, by decide⟩ ?_
  refine jw_if_ne (pc := 5) F 18 d_X_checkOperation_5 (by decide) (fun hz1 => ?_) (fun hz1 => False.elim (absurd hk (by rw [jb_0.mp hz1]; decide)))
  exact jw_vret F d_X_checkOperation_18 rfl
abbrev rm_X_checkOperation_x : Room := { frames := 6, cells := 1, slots := 6, locals := 90 }
set_option maxHeartbeats 4000000 in
set_option maxRecDepth 100000 in
theorem c_checkOperation_x (l : Launch) (D : va_G) (ad : Nat → Nat) (cB cI cL : ClassId) (f0 f1 f2 f3 f4 f5 f6 f7 : Nat → Int32) (v : Nat → Int64) (md ln : Int32) (n : Nat) (hmd : md = nI n) (k : Int32) (hk : a_isop n k = false) (hl : l.stackTraces = false) : jw_Tx l D vCl (vTy cB cI cL) y_X_checkOperation s_X_checkOperation rm_X_checkOperation_x [.ref (ad 0), .int k] (wX ad cB cI cL f0 f1 f2 f3 f4 f5 f6 f7 v md ln) jz_Z "java/lang/IndexOutOfBoundsException" := by
  refine jw_ofx (cc := b_X_checkOperation) (nL := 2) (ret := none) (by decide) rfl (Nat.le_of_ble_eq_true rfl) (fun p e s m args below meth c A F hT hZ => ?_)
  refine jw_at (lv' := [(0, .ref (ad 0)), (1, .int k)]) (st' := []) (ws' := wX ad cB cI cL f0 f1 f2 f3 f4 f5 f6 f7 v md ln) rfl rfl rfl ?_
  refine jw_aload_n (pc := 0) F 0 d_X_checkOperation_0 rfl rfl ?_
  refine jw_iload_n (pc := 1) F 1 d_X_checkOperation_1 rfl rfl ?_
  refine jw_callV_Ei (pc := 2) (As := [.int k]) (rest := []) F ([]) ([]) (c_isOperation l D ad cB cI cL f0 f1 f2 f3 f4 f5 f6 f7 v md ln n hmd k) (jw_cwV F.1.2.2.2.2 wl_good w_193 w_195 w_5 w_29 w_196 hd_X_isOperation ⟨by decide, by decide⟩) 0 0 rfl rfl rfl (by simp) rfl rfl (Nat.le_of_ble_eq_true rfl) d_X_checkOperation_2 ⟨rfl, rfl⟩ ⟨by decide, by decide⟩ ?_
  refine jw_if_ne (pc := 5) F 18 d_X_checkOperation_5 (by decide) (fun hz1 => False.elim (absurd hk (by rw [jb_n.mp hz1]; decide))) (fun hz1 => ?_)
  obtain ⟨sa, hsa⟩ := hZ.2.2.2.2.2.2.1
  exact jw_throw (pc := 8) (names := ["java/lang/RuntimeException", "java/lang/Exception"]) F hT hl (by decide +kernel) (by decide +kernel) (jm w_169) (jm w_35) hsa (jz_hatIOB F.1.2.2.2.2 hZ) jz_otIOB hZ.1 hZ.2.1 d_X_checkOperation_8 d_X_checkOperation_11 d_X_checkOperation_12 d_X_checkOperation_14 d_X_checkOperation_17 (by decide) (Nat.le_of_ble_eq_true rfl) (by decide) (by decide) (by decide) (by decide)
set_option maxHeartbeats 4000000 in
set_option maxRecDepth 100000 in
theorem c_checkHeldElement (l : Launch) (D : va_G) (ad : Nat → Nat) (cB cI cL : ClassId) (f0 f1 f2 f3 f4 f5 f6 f7 : Nat → Int32) (v : Nat → Int64) (md ln : Int32) (a : AS) (hB : cx_B a) (hA : cx_A a f0 f1 f2 f3 f4 f5 f6 md) (r : Nat) (hr : r < 4) (k : Int32) (hk : a_haseB a r k = true) : jw_Ev l D vCl (vTy cB cI cL) y_X_checkHeldElement s_X_checkHeldElement rm_X_checkHeldElement [.ref (ad 0), .int (nI r), .int k] (wX ad cB cI cL f0 f1 f2 f3 f4 f5 f6 f7 v md ln) := by
  refine jw_ofv (cc := b_X_checkHeldElement) (nL := 3) (ret := none) (by decide) rfl (Nat.le_of_ble_eq_true rfl) (fun p e s m args below meth c A F hnm => ?_)
  refine jw_at (lv' := [(0, .ref (ad 0)), (1, .int (nI r)), (2, .int k)]) (st' := []) (ws' := wX ad cB cI cL f0 f1 f2 f3 f4 f5 f6 f7 v md ln) rfl rfl rfl ?_
  have hn := hB.1
  obtain ⟨j, hj, rfl, hd, hh⟩ := a_haseB_t hn hk
  refine jw_aload_n (pc := 0) F 0 d_X_checkHeldElement_0 rfl rfl ?_
  refine jw_iload_n (pc := 1) F 2 d_X_checkHeldElement_1 rfl rfl ?_
  refine jw_callV_Ei (pc := 2) (As := [.int (nI j)]) (rest := []) F ([]) ([]) (c_isElement l D ad cB cI cL f0 f1 f2 f3 f4 f5 f6 f7 v md ln a hB hA (nI j)) (jw_cwV F.1.2.2.2.2 wl_good w_189 w_191 w_4 w_29 w_192 hd_X_isElement ⟨by decide, by decide⟩) 0 0 rfl rfl rfl (by simp) rfl rfl (Nat.le_of_ble_eq_true rfl) d_X_checkHeldElement_2 ⟨rfl, rfl⟩ ⟨by decide, by decide⟩ ?_
  refine jw_if_eq (pc := 5) F 17 d_X_checkHeldElement_5 (by decide) (fun hz1 => False.elim (absurd (jb_0.mp hz1) (by rw [a_isel_nI hn hj, hd]; decide))) (fun hz1 => ?_)
  refine jw_aload_n (pc := 8) F 0 d_X_checkHeldElement_8 rfl rfl ?_
  refine jw_iload_n (pc := 9) F 1 d_X_checkHeldElement_9 rfl rfl ?_
  refine jw_iload_n (pc := 10) F 2 d_X_checkHeldElement_10 rfl rfl ?_
  refine jw_callV_Ei (pc := 11) (As := [.int (nI r), .int (nI j)]) (rest := []) F ([]) ([]) (c_isHeld l D ad cB cI cL f0 f1 f2 f3 f4 f5 f6 f7 v md ln a r j hA hr (by omega)) (jw_cwV F.1.2.2.2.2 wl_good w_197 w_199 w_6 w_29 w_200 hd_X_isHeld ⟨by decide, by decide⟩) 0 0 rfl rfl rfl (by simp) rfl rfl (Nat.le_of_ble_eq_true rfl) d_X_checkHeldElement_11 ⟨rfl, rfl⟩ ⟨by decide, by decide⟩ ?_
  refine jw_if_ne (pc := 14) F 27 d_X_checkHeldElement_14 (by decide) (fun hz2 => ?_) (fun hz2 => False.elim (absurd (jb_0.mp hz2) (by rw [hh]; decide)))
  exact jw_vret F d_X_checkHeldElement_27 rfl
abbrev rm_X_checkHeldElement_x : Room := { frames := 6, cells := 1, slots := 6, locals := 90 }
set_option maxHeartbeats 4000000 in
set_option maxRecDepth 100000 in
theorem c_checkHeldElement_x (l : Launch) (D : va_G) (ad : Nat → Nat) (cB cI cL : ClassId) (f0 f1 f2 f3 f4 f5 f6 f7 : Nat → Int32) (v : Nat → Int64) (md ln : Int32) (a : AS) (hB : cx_B a) (hA : cx_A a f0 f1 f2 f3 f4 f5 f6 md) (r : Nat) (hr : r < 4) (k : Int32) (hk : a_haseB a r k = false) (hl : l.stackTraces = false) : jw_Tx l D vCl (vTy cB cI cL) y_X_checkHeldElement s_X_checkHeldElement rm_X_checkHeldElement_x [.ref (ad 0), .int (nI r), .int k] (wX ad cB cI cL f0 f1 f2 f3 f4 f5 f6 f7 v md ln) jz_Z "java/lang/IllegalStateException" := by
  refine jw_ofx (cc := b_X_checkHeldElement) (nL := 3) (ret := none) (by decide) rfl (Nat.le_of_ble_eq_true rfl) (fun p e s m args below meth c A F hT hZ => ?_)
  refine jw_at (lv' := [(0, .ref (ad 0)), (1, .int (nI r)), (2, .int k)]) (st' := []) (ws' := wX ad cB cI cL f0 f1 f2 f3 f4 f5 f6 f7 v md ln) rfl rfl rfl ?_
  have hn := hB.1
  refine jw_aload_n (pc := 0) F 0 d_X_checkHeldElement_0 rfl rfl ?_
  refine jw_iload_n (pc := 1) F 2 d_X_checkHeldElement_1 rfl rfl ?_
  refine jw_callV_Ei (pc := 2) (As := [.int k]) (rest := []) F ([]) ([]) (c_isElement l D ad cB cI cL f0 f1 f2 f3 f4 f5 f6 f7 v md ln a hB hA k) (jw_cwV F.1.2.2.2.2 wl_good w_189 w_191 w_4 w_29 w_192 hd_X_isElement ⟨by decide, by decide⟩) 0 0 rfl rfl rfl (by simp) rfl rfl (Nat.le_of_ble_eq_true rfl) d_X_checkHeldElement_2 ⟨rfl, rfl⟩ ⟨by decide, by decide⟩ ?_
  refine jw_if_eq (pc := 5) F 17 d_X_checkHeldElement_5 (by decide) (fun h1 => ?_) (fun h1 => ?_)
  · obtain ⟨sa, hsa⟩ := hZ.2.2.2.2.2.1
    exact jw_throw (pc := 17) (names := ["java/lang/RuntimeException", "java/lang/Exception"]) F hT hl (by decide +kernel) (by decide +kernel) (jm w_204) (jm w_36) hsa (jz_hatISE F.1.2.2.2.2 hZ) jz_otISE hZ.1 hZ.2.1 d_X_checkHeldElement_17 d_X_checkHeldElement_20 d_X_checkHeldElement_21 d_X_checkHeldElement_23 d_X_checkHeldElement_26 (by decide) (Nat.le_of_ble_eq_true rfl) (by decide) (by decide) (by decide) (by decide)
  · obtain ⟨j, hj, rfl⟩ := a_isop_t (by omega) (show a_isop (a_n a) k = true by have h3 := jb_n.mp h1; unfold a_isel at h3; simp only [Bool.and_eq_true] at h3; exact h3.1)
    refine jw_aload_n (pc := 8) F 0 d_X_checkHeldElement_8 rfl rfl ?_
    refine jw_iload_n (pc := 9) F 1 d_X_checkHeldElement_9 rfl rfl ?_
    refine jw_iload_n (pc := 10) F 2 d_X_checkHeldElement_10 rfl rfl ?_
    refine jw_callV_Ei (pc := 11) (As := [.int (nI r), .int (nI j)]) (rest := []) F ([]) ([]) (c_isHeld l D ad cB cI cL f0 f1 f2 f3 f4 f5 f6 f7 v md ln a r j hA hr (by omega)) (jw_cwV F.1.2.2.2.2 wl_good w_197 w_199 w_6 w_29 w_200 hd_X_isHeld ⟨by decide, by decide⟩) 0 0 rfl rfl rfl (by simp) rfl rfl (Nat.le_of_ble_eq_true rfl) d_X_checkHeldElement_11 ⟨rfl, rfl⟩ ⟨by decide, by decide⟩ ?_
    refine jw_if_ne (pc := 14) F 27 d_X_checkHeldElement_14 (by decide) (fun hz1 => False.elim (absurd hk (by have h3 := jb_n.mp h1; rw [a_isel_nI hn hj] at h3; rw [a_haseB_nI hn hj, h3, jb_n.mp hz1]; decide))) (fun hz1 => ?_)
    obtain ⟨sa, hsa⟩ := hZ.2.2.2.2.2.1
    exact jw_throw (pc := 17) (names := ["java/lang/RuntimeException", "java/lang/Exception"]) F hT hl (by decide +kernel) (by decide +kernel) (jm w_204) (jm w_36) hsa (jz_hatISE F.1.2.2.2.2 hZ) jz_otISE hZ.1 hZ.2.1 d_X_checkHeldElement_17 d_X_checkHeldElement_20 d_X_checkHeldElement_21 d_X_checkHeldElement_23 d_X_checkHeldElement_26 (by decide) (Nat.le_of_ble_eq_true rfl) (by decide) (by decide) (by decide) (by decide)
