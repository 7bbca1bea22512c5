theorem gl_out4 {t : Int32} (h : a_isop 4 t = false) : t.toInt < 0 ∨ 3 < t.toInt := by
  by_cases h1 : t < 0
  · exact Or.inl (by rw [Int32.lt_iff_toInt_lt] at h1; exact h1)
  · right
    obtain ⟨j, hj, rfl⟩ := nI_of h1
    rw [nI_toInt hj]
    rcases Nat.lt_or_ge j 4 with g | g
    · rw [a_isop_nI (by decide) g] at h; cases h
    · omega

abbrev rm_X_insert_x : Room := { frames := 7, cells := 1, slots := 6, locals := 112 }
abbrev rm_X_delete_x : Room := { frames := 7, cells := 1, slots := 6, locals := 112 }
abbrev rm_X_give_x : Room := { frames := 7, cells := 1, slots := 6, locals := 112 }
abbrev rm_X_tell_x : Room := { frames := 7, cells := 1, slots := 6, locals := 111 }
abbrev rm_X_holds_x : Room := { frames := 7, cells := 1, slots := 6, locals := 111 }
abbrev rm_X_at_x : Room := { frames := 7, cells := 1, slots := 6, locals := 111 }
abbrev rm_X_place_x : Room := { frames := 7, cells := 1, slots := 6, locals := 112 }
abbrev rm_X_value_x : Room := { frames := 6, cells := 1, slots := 6, locals := 90 }
abbrev rm_X_stamp_x : Room := { frames := 7, cells := 1, slots := 6, locals := 111 }
abbrev rm_X_count_x : Room := { frames := 7, cells := 1, slots := 6, locals := 111 }
abbrev rm_X_same_x : Room := { frames := 7, cells := 1, slots := 6, locals := 111 }
set_option maxHeartbeats 4000000 in
set_option maxRecDepth 100000 in
theorem c_insert_x1 (l : Launch) (D : va_G) (ad : Nat → Nat) (cB cI cL : ClassId) (f0 f1 f2 f3 f4 f5 f6 f7 : Nat → Int32) (v : Nat → Int64) (md ln : Int32) (a : AS) (L : List Nat) (hQ : cx_R a L f0 f1 f2 f3 f4 f5 f6 f7 v md ln) (r : Int32) (hr : a_isrep r = false) (t : Int32) (vv : Int64) (hl : l.stackTraces = false) : jw_Tx l D vCl (vTy cB cI cL) y_X_insert s_X_insert rm_X_insert_x [.ref (ad 0), .int r, .int t, .long vv] (wX ad cB cI cL f0 f1 f2 f3 f4 f5 f6 f7 v md ln) jz_Z "java/lang/IllegalArgumentException" := by
  refine jw_ofx (cc := b_X_insert) (nL := 6) (ret := (some .int)) (by decide) rfl (Nat.le_of_ble_eq_true rfl) (fun p e s m args below meth c A F hT hZ => ?_)
  refine jw_at (lv' := [(0, .ref (ad 0)), (1, .int r), (2, .int t), (3, .long vv)]) (st' := []) (ws' := wX ad cB cI cL f0 f1 f2 f3 f4 f5 f6 f7 v md ln) rfl rfl rfl ?_
  refine jw_aload_n (pc := 0) F 0 d_X_insert_0 rfl rfl ?_
  refine jw_iload_n (pc := 1) F 1 d_X_insert_1 rfl rfl ?_
  exact jw_xcallV (pc := 2) (As := [.int r]) (rest := []) F [] [] hT jz_ok hZ (c_checkReplica_x l D ad cB cI cL f0 f1 f2 f3 f4 f5 f6 f7 v md ln r hr hl) (jw_cwV F.1.2.2.2.2 wl_good w_93 w_95 w_0 w_29 w_96 hd_X_checkReplica ⟨by decide, by decide⟩) 0 0 rfl rfl rfl (by simp) rfl rfl (Nat.le_of_ble_eq_true rfl) d_X_insert_2 ⟨by decide, by decide⟩ (by decide) (by decide)
set_option maxHeartbeats 4000000 in
set_option maxRecDepth 100000 in
theorem c_delete_x1 (l : Launch) (D : va_G) (ad : Nat → Nat) (cB cI cL : ClassId) (f0 f1 f2 f3 f4 f5 f6 f7 : Nat → Int32) (v : Nat → Int64) (md ln : Int32) (a : AS) (L : List Nat) (hQ : cx_R a L f0 f1 f2 f3 f4 f5 f6 f7 v md ln) (r : Int32) (hr : a_isrep r = false) (t : Int32) (hl : l.stackTraces = false) : jw_Tx l D vCl (vTy cB cI cL) y_X_delete s_X_delete rm_X_delete_x [.ref (ad 0), .int r, .int t] (wX ad cB cI cL f0 f1 f2 f3 f4 f5 f6 f7 v md ln) jz_Z "java/lang/IllegalArgumentException" := by
  refine jw_ofx (cc := b_X_delete) (nL := 3) (ret := (some .int)) (by decide) rfl (Nat.le_of_ble_eq_true rfl) (fun p e s m args below meth c A F hT hZ => ?_)
  refine jw_at (lv' := [(0, .ref (ad 0)), (1, .int r), (2, .int t)]) (st' := []) (ws' := wX ad cB cI cL f0 f1 f2 f3 f4 f5 f6 f7 v md ln) rfl rfl rfl ?_
  refine jw_aload_n (pc := 0) F 0 d_X_delete_0 rfl rfl ?_
  refine jw_iload_n (pc := 1) F 1 d_X_delete_1 rfl rfl ?_
  exact jw_xcallV (pc := 2) (As := [.int r]) (rest := []) F [] [] hT jz_ok hZ (c_checkReplica_x l D ad cB cI cL f0 f1 f2 f3 f4 f5 f6 f7 v md ln r hr hl) (jw_cwV F.1.2.2.2.2 wl_good w_93 w_95 w_0 w_29 w_96 hd_X_checkReplica ⟨by decide, by decide⟩) 0 0 rfl rfl rfl (by simp) rfl rfl (Nat.le_of_ble_eq_true rfl) d_X_delete_2 ⟨by decide, by decide⟩ (by decide) (by decide)
set_option maxHeartbeats 4000000 in
set_option maxRecDepth 100000 in
theorem c_give_x1 (l : Launch) (D : va_G) (ad : Nat → Nat) (cB cI cL : ClassId) (f0 f1 f2 f3 f4 f5 f6 f7 : Nat → Int32) (v : Nat → Int64) (md ln : Int32) (a : AS) (L : List Nat) (hQ : cx_R a L f0 f1 f2 f3 f4 f5 f6 f7 v md ln) (r : Int32) (hr : a_isrep r = false) (t : Int32) (hl : l.stackTraces = false) : jw_Tx l D vCl (vTy cB cI cL) y_X_give s_X_give rm_X_give_x [.ref (ad 0), .int r, .int t] (wX ad cB cI cL f0 f1 f2 f3 f4 f5 f6 f7 v md ln) jz_Z "java/lang/IllegalArgumentException" := by
  refine jw_ofx (cc := b_X_give) (nL := 3) (ret := none) (by decide) rfl (Nat.le_of_ble_eq_true rfl) (fun p e s m args below meth c A F hT hZ => ?_)
  refine jw_at (lv' := [(0, .ref (ad 0)), (1, .int r), (2, .int t)]) (st' := []) (ws' := wX ad cB cI cL f0 f1 f2 f3 f4 f5 f6 f7 v md ln) rfl rfl rfl ?_
  refine jw_aload_n (pc := 0) F 0 d_X_give_0 rfl rfl ?_
  refine jw_iload_n (pc := 1) F 1 d_X_give_1 rfl rfl ?_
  exact jw_xcallV (pc := 2) (As := [.int r]) (rest := []) F [] [] hT jz_ok hZ (c_checkReplica_x l D ad cB cI cL f0 f1 f2 f3 f4 f5 f6 f7 v md ln r hr hl) (jw_cwV F.1.2.2.2.2 wl_good w_93 w_95 w_0 w_29 w_96 hd_X_checkReplica ⟨by decide, by decide⟩) 0 0 rfl rfl rfl (by simp) rfl rfl (Nat.le_of_ble_eq_true rfl) d_X_give_2 ⟨by decide, by decide⟩ (by decide) (by decide)
set_option maxHeartbeats 4000000 in
set_option maxRecDepth 100000 in
theorem c_tell_x1 (l : Launch) (D : va_G) (ad : Nat → Nat) (cB cI cL : ClassId) (f0 f1 f2 f3 f4 f5 f6 f7 : Nat → Int32) (v : Nat → Int64) (md ln : Int32) (a : AS) (L : List Nat) (hQ : cx_R a L f0 f1 f2 f3 f4 f5 f6 f7 v md ln) (r : Int32) (hr : a_isrep r = false) (t : Int32) (hl : l.stackTraces = false) : jw_Tx l D vCl (vTy cB cI cL) y_X_tell s_X_tell rm_X_tell_x [.ref (ad 0), .int r, .int t] (wX ad cB cI cL f0 f1 f2 f3 f4 f5 f6 f7 v md ln) jz_Z "java/lang/IllegalArgumentException" := by
  refine jw_ofx (cc := b_X_tell) (nL := 5) (ret := (some .int)) (by decide) rfl (Nat.le_of_ble_eq_true rfl) (fun p e s m args below meth c A F hT hZ => ?_)
  refine jw_at (lv' := [(0, .ref (ad 0)), (1, .int r), (2, .int t)]) (st' := []) (ws' := wX ad cB cI cL f0 f1 f2 f3 f4 f5 f6 f7 v md ln) rfl rfl rfl ?_
  refine jw_aload_n (pc := 0) F 0 d_X_tell_0 rfl rfl ?_
  refine jw_iload_n (pc := 1) F 1 d_X_tell_1 rfl rfl ?_
  exact jw_xcallV (pc := 2) (As := [.int r]) (rest := []) F [] [] hT jz_ok hZ (c_checkReplica_x l D ad cB cI cL f0 f1 f2 f3 f4 f5 f6 f7 v md ln r hr hl) (jw_cwV F.1.2.2.2.2 wl_good w_93 w_95 w_0 w_29 w_96 hd_X_checkReplica ⟨by decide, by decide⟩) 0 0 rfl rfl rfl (by simp) rfl rfl (Nat.le_of_ble_eq_true rfl) d_X_tell_2 ⟨by decide, by decide⟩ (by decide) (by decide)
set_option maxHeartbeats 4000000 in
set_option maxRecDepth 100000 in
theorem c_holds_x1 (l : Launch) (D : va_G) (ad : Nat → Nat) (cB cI cL : ClassId) (f0 f1 f2 f3 f4 f5 f6 f7 : Nat → Int32) (v : Nat → Int64) (md ln : Int32) (a : AS) (L : List Nat) (hQ : cx_R a L f0 f1 f2 f3 f4 f5 f6 f7 v md ln) (r : Int32) (hr : a_isrep r = false) (t : Int32) (hl : l.stackTraces = false) : jw_Tx l D vCl (vTy cB cI cL) y_X_holds s_X_holds rm_X_holds_x [.ref (ad 0), .int r, .int t] (wX ad cB cI cL f0 f1 f2 f3 f4 f5 f6 f7 v md ln) jz_Z "java/lang/IllegalArgumentException" := by
  refine jw_ofx (cc := b_X_holds) (nL := 3) (ret := (some .boolean)) (by decide) rfl (Nat.le_of_ble_eq_true rfl) (fun p e s m args below meth c A F hT hZ => ?_)
  refine jw_at (lv' := [(0, .ref (ad 0)), (1, .int r), (2, .int t)]) (st' := []) (ws' := wX ad cB cI cL f0 f1 f2 f3 f4 f5 f6 f7 v md ln) rfl rfl rfl ?_
  refine jw_aload_n (pc := 0) F 0 d_X_holds_0 rfl rfl ?_
  refine jw_iload_n (pc := 1) F 1 d_X_holds_1 rfl rfl ?_
  exact jw_xcallV (pc := 2) (As := [.int r]) (rest := []) F [] [] hT jz_ok hZ (c_checkReplica_x l D ad cB cI cL f0 f1 f2 f3 f4 f5 f6 f7 v md ln r hr hl) (jw_cwV F.1.2.2.2.2 wl_good w_93 w_95 w_0 w_29 w_96 hd_X_checkReplica ⟨by decide, by decide⟩) 0 0 rfl rfl rfl (by simp) rfl rfl (Nat.le_of_ble_eq_true rfl) d_X_holds_2 ⟨by decide, by decide⟩ (by decide) (by decide)
set_option maxHeartbeats 4000000 in
set_option maxRecDepth 100000 in
theorem c_at_x1 (l : Launch) (D : va_G) (ad : Nat → Nat) (cB cI cL : ClassId) (f0 f1 f2 f3 f4 f5 f6 f7 : Nat → Int32) (v : Nat → Int64) (md ln : Int32) (a : AS) (L : List Nat) (hQ : cx_R a L f0 f1 f2 f3 f4 f5 f6 f7 v md ln) (r : Int32) (hr : a_isrep r = false) (t : Int32) (hl : l.stackTraces = false) : jw_Tx l D vCl (vTy cB cI cL) y_X_at s_X_at rm_X_at_x [.ref (ad 0), .int r, .int t] (wX ad cB cI cL f0 f1 f2 f3 f4 f5 f6 f7 v md ln) jz_Z "java/lang/IllegalArgumentException" := by
  refine jw_ofx (cc := b_X_at) (nL := 5) (ret := (some .int)) (by decide) rfl (Nat.le_of_ble_eq_true rfl) (fun p e s m args below meth c A F hT hZ => ?_)
  refine jw_at (lv' := [(0, .ref (ad 0)), (1, .int r), (2, .int t)]) (st' := []) (ws' := wX ad cB cI cL f0 f1 f2 f3 f4 f5 f6 f7 v md ln) rfl rfl rfl ?_
  refine jw_aload_n (pc := 0) F 0 d_X_at_0 rfl rfl ?_
  refine jw_iload_n (pc := 1) F 1 d_X_at_1 rfl rfl ?_
  exact jw_xcallV (pc := 2) (As := [.int r]) (rest := []) F [] [] hT jz_ok hZ (c_checkReplica_x l D ad cB cI cL f0 f1 f2 f3 f4 f5 f6 f7 v md ln r hr hl) (jw_cwV F.1.2.2.2.2 wl_good w_93 w_95 w_0 w_29 w_96 hd_X_checkReplica ⟨by decide, by decide⟩) 0 0 rfl rfl rfl (by simp) rfl rfl (Nat.le_of_ble_eq_true rfl) d_X_at_2 ⟨by decide, by decide⟩ (by decide) (by decide)
set_option maxHeartbeats 4000000 in
set_option maxRecDepth 100000 in
theorem c_place_x1 (l : Launch) (D : va_G) (ad : Nat → Nat) (cB cI cL : ClassId) (f0 f1 f2 f3 f4 f5 f6 f7 : Nat → Int32) (v : Nat → Int64) (md ln : Int32) (a : AS) (L : List Nat) (hQ : cx_R a L f0 f1 f2 f3 f4 f5 f6 f7 v md ln) (r : Int32) (hr : a_isrep r = false) (t : Int32) (hl : l.stackTraces = false) : jw_Tx l D vCl (vTy cB cI cL) y_X_place s_X_place rm_X_place_x [.ref (ad 0), .int r, .int t] (wX ad cB cI cL f0 f1 f2 f3 f4 f5 f6 f7 v md ln) jz_Z "java/lang/IllegalArgumentException" := by
  refine jw_ofx (cc := b_X_place) (nL := 5) (ret := (some .int)) (by decide) rfl (Nat.le_of_ble_eq_true rfl) (fun p e s m args below meth c A F hT hZ => ?_)
  refine jw_at (lv' := [(0, .ref (ad 0)), (1, .int r), (2, .int t)]) (st' := []) (ws' := wX ad cB cI cL f0 f1 f2 f3 f4 f5 f6 f7 v md ln) rfl rfl rfl ?_
  refine jw_aload_n (pc := 0) F 0 d_X_place_0 rfl rfl ?_
  refine jw_iload_n (pc := 1) F 1 d_X_place_1 rfl rfl ?_
  exact jw_xcallV (pc := 2) (As := [.int r]) (rest := []) F [] [] hT jz_ok hZ (c_checkReplica_x l D ad cB cI cL f0 f1 f2 f3 f4 f5 f6 f7 v md ln r hr hl) (jw_cwV F.1.2.2.2.2 wl_good w_93 w_95 w_0 w_29 w_96 hd_X_checkReplica ⟨by decide, by decide⟩) 0 0 rfl rfl rfl (by simp) rfl rfl (Nat.le_of_ble_eq_true rfl) d_X_place_2 ⟨by decide, by decide⟩ (by decide) (by decide)
set_option maxHeartbeats 4000000 in
set_option maxRecDepth 100000 in
theorem c_count_x1 (l : Launch) (D : va_G) (ad : Nat → Nat) (cB cI cL : ClassId) (f0 f1 f2 f3 f4 f5 f6 f7 : Nat → Int32) (v : Nat → Int64) (md ln : Int32) (a : AS) (L : List Nat) (hQ : cx_R a L f0 f1 f2 f3 f4 f5 f6 f7 v md ln) (r : Int32) (hr : a_isrep r = false) (t : Int32) (hl : l.stackTraces = false) : jw_Tx l D vCl (vTy cB cI cL) y_X_count s_X_count rm_X_count_x [.ref (ad 0), .int r, .int t] (wX ad cB cI cL f0 f1 f2 f3 f4 f5 f6 f7 v md ln) jz_Z "java/lang/IllegalArgumentException" := by
  refine jw_ofx (cc := b_X_count) (nL := 3) (ret := (some .int)) (by decide) rfl (Nat.le_of_ble_eq_true rfl) (fun p e s m args below meth c A F hT hZ => ?_)
  refine jw_at (lv' := [(0, .ref (ad 0)), (1, .int r), (2, .int t)]) (st' := []) (ws' := wX ad cB cI cL f0 f1 f2 f3 f4 f5 f6 f7 v md ln) rfl rfl rfl ?_
  refine jw_aload_n (pc := 0) F 0 d_X_count_0 rfl rfl ?_
  refine jw_iload_n (pc := 1) F 1 d_X_count_1 rfl rfl ?_
  exact jw_xcallV (pc := 2) (As := [.int r]) (rest := []) F [] [] hT jz_ok hZ (c_checkReplica_x l D ad cB cI cL f0 f1 f2 f3 f4 f5 f6 f7 v md ln r hr hl) (jw_cwV F.1.2.2.2.2 wl_good w_93 w_95 w_0 w_29 w_96 hd_X_checkReplica ⟨by decide, by decide⟩) 0 0 rfl rfl rfl (by simp) rfl rfl (Nat.le_of_ble_eq_true rfl) d_X_count_2 ⟨by decide, by decide⟩ (by decide) (by decide)
set_option maxHeartbeats 4000000 in
set_option maxRecDepth 100000 in
theorem c_same_x1 (l : Launch) (D : va_G) (ad : Nat → Nat) (cB cI cL : ClassId) (f0 f1 f2 f3 f4 f5 f6 f7 : Nat → Int32) (v : Nat → Int64) (md ln : Int32) (a : AS) (L : List Nat) (hQ : cx_R a L f0 f1 f2 f3 f4 f5 f6 f7 v md ln) (r : Int32) (hr : a_isrep r = false) (t : Int32) (hl : l.stackTraces = false) : jw_Tx l D vCl (vTy cB cI cL) y_X_same s_X_same rm_X_same_x [.ref (ad 0), .int r, .int t] (wX ad cB cI cL f0 f1 f2 f3 f4 f5 f6 f7 v md ln) jz_Z "java/lang/IllegalArgumentException" := by
  refine jw_ofx (cc := b_X_same) (nL := 4) (ret := (some .boolean)) (by decide) rfl (Nat.le_of_ble_eq_true rfl) (fun p e s m args below meth c A F hT hZ => ?_)
  refine jw_at (lv' := [(0, .ref (ad 0)), (1, .int r), (2, .int t)]) (st' := []) (ws' := wX ad cB cI cL f0 f1 f2 f3 f4 f5 f6 f7 v md ln) rfl rfl rfl ?_
  refine jw_aload_n (pc := 0) F 0 d_X_same_0 rfl rfl ?_
  refine jw_iload_n (pc := 1) F 1 d_X_same_1 rfl rfl ?_
  exact jw_xcallV (pc := 2) (As := [.int r]) (rest := []) F [] [] hT jz_ok hZ (c_checkReplica_x l D ad cB cI cL f0 f1 f2 f3 f4 f5 f6 f7 v md ln r hr hl) (jw_cwV F.1.2.2.2.2 wl_good w_93 w_95 w_0 w_29 w_96 hd_X_checkReplica ⟨by decide, by decide⟩) 0 0 rfl rfl rfl (by simp) rfl rfl (Nat.le_of_ble_eq_true rfl) d_X_same_2 ⟨by decide, by decide⟩ (by decide) (by decide)
set_option maxHeartbeats 4000000 in
set_option maxRecDepth 100000 in
theorem c_tell_x2 (l : Launch) (D : va_G) (ad : Nat → Nat) (cB cI cL : ClassId) (f0 f1 f2 f3 f4 f5 f6 f7 : Nat → Int32) (v : Nat → Int64) (md ln : Int32) (a : AS) (L : List Nat) (hQ : cx_R a L f0 f1 f2 f3 f4 f5 f6 f7 v md ln) (r : Nat) (hr : r < 4) (t : Int32) (ht : a_isrep t = false) (hl : l.stackTraces = false) : jw_Tx l D vCl (vTy cB cI cL) y_X_tell s_X_tell rm_X_tell_x [.ref (ad 0), .int (nI r), .int t] (wX ad cB cI cL f0 f1 f2 f3 f4 f5 f6 f7 v md ln) jz_Z "java/lang/IllegalArgumentException" := by
  refine jw_ofx (cc := b_X_tell) (nL := 5) (ret := (some .int)) (by decide) rfl (Nat.le_of_ble_eq_true rfl) (fun p e s m args below meth c A F hT hZ => ?_)
  refine jw_at (lv' := [(0, .ref (ad 0)), (1, .int (nI r)), (2, .int t)]) (st' := []) (ws' := wX ad cB cI cL f0 f1 f2 f3 f4 f5 f6 f7 v md ln) rfl rfl rfl ?_
  refine jw_aload_n (pc := 0) F 0 d_X_tell_0 rfl rfl ?_
  refine jw_iload_n (pc := 1) F 1 d_X_tell_1 rfl rfl ?_
  refine jw_callV_Ev (pc := 2) (As := [.int (nI r)]) (rest := []) F ([]) ([]) (c_checkReplica l D ad cB cI cL f0 f1 f2 f3 f4 f5 f6 f7 v md ln r hr) (jw_cwV F.1.2.2.2.2 wl_good w_93 w_95 w_0 w_29 w_96 hd_X_checkReplica ⟨by decide, by decide⟩) 0 0 rfl rfl rfl (by simp) rfl rfl (Nat.le_of_ble_eq_true rfl) d_X_tell_2 ⟨rfl, rfl⟩ ⟨by decide, by decide⟩ ?_
  refine jw_aload_n (pc := 5) F 0 d_X_tell_5 rfl rfl ?_
  refine jw_iload_n (pc := 6) F 2 d_X_tell_6 rfl rfl ?_
  exact jw_xcallV (pc := 7) (As := [.int t]) (rest := []) F [] [] hT jz_ok hZ (c_checkReplica_x l D ad cB cI cL f0 f1 f2 f3 f4 f5 f6 f7 v md ln t ht hl) (jw_cwV F.1.2.2.2.2 wl_good w_93 w_95 w_0 w_29 w_96 hd_X_checkReplica ⟨by decide, by decide⟩) 0 0 rfl rfl rfl (by simp) rfl rfl (Nat.le_of_ble_eq_true rfl) d_X_tell_7 ⟨by decide, by decide⟩ (by decide) (by decide)
set_option maxHeartbeats 4000000 in
set_option maxRecDepth 100000 in
theorem c_same_x2 (l : Launch) (D : va_G) (ad : Nat → Nat) (cB cI cL : ClassId) (f0 f1 f2 f3 f4 f5 f6 f7 : Nat → Int32) (v : Nat → Int64) (md ln : Int32) (a : AS) (L : List Nat) (hQ : cx_R a L f0 f1 f2 f3 f4 f5 f6 f7 v md ln) (r : Nat) (hr : r < 4) (t : Int32) (ht : a_isrep t = false) (hl : l.stackTraces = false) : jw_Tx l D vCl (vTy cB cI cL) y_X_same s_X_same rm_X_same_x [.ref (ad 0), .int (nI r), .int t] (wX ad cB cI cL f0 f1 f2 f3 f4 f5 f6 f7 v md ln) jz_Z "java/lang/IllegalArgumentException" := by
  refine jw_ofx (cc := b_X_same) (nL := 4) (ret := (some .boolean)) (by decide) rfl (Nat.le_of_ble_eq_true rfl) (fun p e s m args below meth c A F hT hZ => ?_)
  refine jw_at (lv' := [(0, .ref (ad 0)), (1, .int (nI r)), (2, .int t)]) (st' := []) (ws' := wX ad cB cI cL f0 f1 f2 f3 f4 f5 f6 f7 v md ln) rfl rfl rfl ?_
  refine jw_aload_n (pc := 0) F 0 d_X_same_0 rfl rfl ?_
  refine jw_iload_n (pc := 1) F 1 d_X_same_1 rfl rfl ?_
  refine jw_callV_Ev (pc := 2) (As := [.int (nI r)]) (rest := []) F ([]) ([]) (c_checkReplica l D ad cB cI cL f0 f1 f2 f3 f4 f5 f6 f7 v md ln r hr) (jw_cwV F.1.2.2.2.2 wl_good w_93 w_95 w_0 w_29 w_96 hd_X_checkReplica ⟨by decide, by decide⟩) 0 0 rfl rfl rfl (by simp) rfl rfl (Nat.le_of_ble_eq_true rfl) d_X_same_2 ⟨rfl, rfl⟩ ⟨by decide, by decide⟩ ?_
  refine jw_aload_n (pc := 5) F 0 d_X_same_5 rfl rfl ?_
  refine jw_iload_n (pc := 6) F 2 d_X_same_6 rfl rfl ?_
  exact jw_xcallV (pc := 7) (As := [.int t]) (rest := []) F [] [] hT jz_ok hZ (c_checkReplica_x l D ad cB cI cL f0 f1 f2 f3 f4 f5 f6 f7 v md ln t ht hl) (jw_cwV F.1.2.2.2.2 wl_good w_93 w_95 w_0 w_29 w_96 hd_X_checkReplica ⟨by decide, by decide⟩) 0 0 rfl rfl rfl (by simp) rfl rfl (Nat.le_of_ble_eq_true rfl) d_X_same_7 ⟨by decide, by decide⟩ (by decide) (by decide)
set_option maxHeartbeats 4000000 in
set_option maxRecDepth 100000 in
theorem c_insert_x2 (l : Launch) (D : va_G) (ad : Nat → Nat) (cB cI cL : ClassId) (f0 f1 f2 f3 f4 f5 f6 f7 : Nat → Int32) (v : Nat → Int64) (md ln : Int32) (a : AS) (L : List Nat) (hQ : cx_R a L f0 f1 f2 f3 f4 f5 f6 f7 v md ln) (r : Nat) (hr : r < 4) (hn1 : a_n a = 160) (t : Int32) (vv : Int64) (hl : l.stackTraces = false) : jw_Tx l D vCl (vTy cB cI cL) y_X_insert s_X_insert rm_X_insert_x [.ref (ad 0), .int (nI r), .int t, .long vv] (wX ad cB cI cL f0 f1 f2 f3 f4 f5 f6 f7 v md ln) jz_Z "java/lang/IndexOutOfBoundsException" := by
  refine jw_ofx (cc := b_X_insert) (nL := 6) (ret := (some .int)) (by decide) rfl (Nat.le_of_ble_eq_true rfl) (fun p e s m args below meth c A F hT hZ => ?_)
  refine jw_at (lv' := [(0, .ref (ad 0)), (1, .int (nI r)), (2, .int t), (3, .long vv)]) (st' := []) (ws' := wX ad cB cI cL f0 f1 f2 f3 f4 f5 f6 f7 v md ln) rfl rfl rfl ?_
  obtain ⟨hI, hA, hV, hL, hR⟩ := hQ
  have hB := cx_B_of hI
  have hn := hI.1
  obtain ⟨hM, hlen⟩ := cx_R_M hI hR
  refine jw_aload_n (pc := 0) F 0 d_X_insert_0 rfl rfl ?_
  refine jw_iload_n (pc := 1) F 1 d_X_insert_1 rfl rfl ?_
  refine jw_callV_Ev (pc := 2) (As := [.int (nI r)]) (rest := []) F ([]) ([]) (c_checkReplica l D ad cB cI cL f0 f1 f2 f3 f4 f5 f6 f7 v md ln r hr) (jw_cwV F.1.2.2.2.2 wl_good w_93 w_95 w_0 w_29 w_96 hd_X_checkReplica ⟨by decide, by decide⟩) 0 0 rfl rfl rfl (by simp) rfl rfl (Nat.le_of_ble_eq_true rfl) d_X_insert_2 ⟨rfl, rfl⟩ ⟨by decide, by decide⟩ ?_
  refine jw_aload_n (pc := 5) F 0 d_X_insert_5 rfl rfl ?_
  exact jw_xcallV (pc := 6) (As := []) (rest := []) F [] [] hT jz_ok hZ (c_checkRoom_x l D ad cB cI cL f0 f1 f2 f3 f4 f5 f6 f7 v md ln (by rw [hA.1, hn1]) hl) (jw_cwV F.1.2.2.2.2 wl_good w_165 w_167 w_2 w_29 w_168 hd_X_checkRoom ⟨by decide, by decide⟩) 0 0 rfl rfl rfl (by simp) rfl rfl (Nat.le_of_ble_eq_true rfl) d_X_insert_6 ⟨by decide, by decide⟩ (by decide) (by decide)
set_option maxHeartbeats 4000000 in
set_option maxRecDepth 100000 in
theorem c_delete_x2 (l : Launch) (D : va_G) (ad : Nat → Nat) (cB cI cL : ClassId) (f0 f1 f2 f3 f4 f5 f6 f7 : Nat → Int32) (v : Nat → Int64) (md ln : Int32) (a : AS) (L : List Nat) (hQ : cx_R a L f0 f1 f2 f3 f4 f5 f6 f7 v md ln) (r : Nat) (hr : r < 4) (hn1 : a_n a = 160) (t : Int32) (hl : l.stackTraces = false) : jw_Tx l D vCl (vTy cB cI cL) y_X_delete s_X_delete rm_X_delete_x [.ref (ad 0), .int (nI r), .int t] (wX ad cB cI cL f0 f1 f2 f3 f4 f5 f6 f7 v md ln) jz_Z "java/lang/IndexOutOfBoundsException" := by
  refine jw_ofx (cc := b_X_delete) (nL := 3) (ret := (some .int)) (by decide) rfl (Nat.le_of_ble_eq_true rfl) (fun p e s m args below meth c A F hT hZ => ?_)
  refine jw_at (lv' := [(0, .ref (ad 0)), (1, .int (nI r)), (2, .int t)]) (st' := []) (ws' := wX ad cB cI cL f0 f1 f2 f3 f4 f5 f6 f7 v md ln) rfl rfl rfl ?_
  obtain ⟨hI, hA, hV, hL, hR⟩ := hQ
  have hB := cx_B_of hI
  have hn := hI.1
  obtain ⟨hM, hlen⟩ := cx_R_M hI hR
  refine jw_aload_n (pc := 0) F 0 d_X_delete_0 rfl rfl ?_
  refine jw_iload_n (pc := 1) F 1 d_X_delete_1 rfl rfl ?_
  refine jw_callV_Ev (pc := 2) (As := [.int (nI r)]) (rest := []) F ([]) ([]) (c_checkReplica l D ad cB cI cL f0 f1 f2 f3 f4 f5 f6 f7 v md ln r hr) (jw_cwV F.1.2.2.2.2 wl_good w_93 w_95 w_0 w_29 w_96 hd_X_checkReplica ⟨by decide, by decide⟩) 0 0 rfl rfl rfl (by simp) rfl rfl (Nat.le_of_ble_eq_true rfl) d_X_delete_2 ⟨rfl, rfl⟩ ⟨by decide, by decide⟩ ?_
  refine jw_aload_n (pc := 5) F 0 d_X_delete_5 rfl rfl ?_
  exact jw_xcallV (pc := 6) (As := []) (rest := []) F [] [] hT jz_ok hZ (c_checkRoom_x l D ad cB cI cL f0 f1 f2 f3 f4 f5 f6 f7 v md ln (by rw [hA.1, hn1]) hl) (jw_cwV F.1.2.2.2.2 wl_good w_165 w_167 w_2 w_29 w_168 hd_X_checkRoom ⟨by decide, by decide⟩) 0 0 rfl rfl rfl (by simp) rfl rfl (Nat.le_of_ble_eq_true rfl) d_X_delete_6 ⟨by decide, by decide⟩ (by decide) (by decide)
set_option maxHeartbeats 4000000 in
set_option maxRecDepth 100000 in
theorem c_give_x2 (l : Launch) (D : va_G) (ad : Nat → Nat) (cB cI cL : ClassId) (f0 f1 f2 f3 f4 f5 f6 f7 : Nat → Int32) (v : Nat → Int64) (md ln : Int32) (a : AS) (L : List Nat) (hQ : cx_R a L f0 f1 f2 f3 f4 f5 f6 f7 v md ln) (r : Nat) (hr : r < 4) (t : Int32) (ht : a_isop (a_n a) t = false) (hl : l.stackTraces = false) : jw_Tx l D vCl (vTy cB cI cL) y_X_give s_X_give rm_X_give_x [.ref (ad 0), .int (nI r), .int t] (wX ad cB cI cL f0 f1 f2 f3 f4 f5 f6 f7 v md ln) jz_Z "java/lang/IndexOutOfBoundsException" := by
  refine jw_ofx (cc := b_X_give) (nL := 3) (ret := none) (by decide) rfl (Nat.le_of_ble_eq_true rfl) (fun p e s m args below meth c A F hT hZ => ?_)
  refine jw_at (lv' := [(0, .ref (ad 0)), (1, .int (nI r)), (2, .int t)]) (st' := []) (ws' := wX ad cB cI cL f0 f1 f2 f3 f4 f5 f6 f7 v md ln) rfl rfl rfl ?_
  obtain ⟨hI, hA, hV, hL, hR⟩ := hQ
  have hB := cx_B_of hI
  have hn := hI.1
  obtain ⟨hM, hlen⟩ := cx_R_M hI hR
  refine jw_aload_n (pc := 0) F 0 d_X_give_0 rfl rfl ?_
  refine jw_iload_n (pc := 1) F 1 d_X_give_1 rfl rfl ?_
  refine jw_callV_Ev (pc := 2) (As := [.int (nI r)]) (rest := []) F ([]) ([]) (c_checkReplica l D ad cB cI cL f0 f1 f2 f3 f4 f5 f6 f7 v md ln r hr) (jw_cwV F.1.2.2.2.2 wl_good w_93 w_95 w_0 w_29 w_96 hd_X_checkReplica ⟨by decide, by decide⟩) 0 0 rfl rfl rfl (by simp) rfl rfl (Nat.le_of_ble_eq_true rfl) d_X_give_2 ⟨rfl, rfl⟩ ⟨by decide, by decide⟩ ?_
  refine jw_aload_n (pc := 5) F 0 d_X_give_5 rfl rfl ?_
  refine jw_iload_n (pc := 6) F 2 d_X_give_6 rfl rfl ?_
  exact jw_xcallV (pc := 7) (As := [.int t]) (rest := []) F [] [] hT jz_ok hZ (c_checkOperation_x l D ad cB cI cL f0 f1 f2 f3 f4 f5 f6 f7 v md ln (a_n a) hA.1 t ht hl) (jw_cwV F.1.2.2.2.2 wl_good w_257 w_259 w_12 w_29 w_260 hd_X_checkOperation ⟨by decide, by decide⟩) 0 0 rfl rfl rfl (by simp) rfl rfl (Nat.le_of_ble_eq_true rfl) d_X_give_7 ⟨by decide, by decide⟩ (by decide) (by decide)
set_option maxHeartbeats 4000000 in
set_option maxRecDepth 100000 in
theorem c_holds_x2 (l : Launch) (D : va_G) (ad : Nat → Nat) (cB cI cL : ClassId) (f0 f1 f2 f3 f4 f5 f6 f7 : Nat → Int32) (v : Nat → Int64) (md ln : Int32) (a : AS) (L : List Nat) (hQ : cx_R a L f0 f1 f2 f3 f4 f5 f6 f7 v md ln) (r : Nat) (hr : r < 4) (t : Int32) (ht : a_isop (a_n a) t = false) (hl : l.stackTraces = false) : jw_Tx l D vCl (vTy cB cI cL) y_X_holds s_X_holds rm_X_holds_x [.ref (ad 0), .int (nI r), .int t] (wX ad cB cI cL f0 f1 f2 f3 f4 f5 f6 f7 v md ln) jz_Z "java/lang/IndexOutOfBoundsException" := by
  refine jw_ofx (cc := b_X_holds) (nL := 3) (ret := (some .boolean)) (by decide) rfl (Nat.le_of_ble_eq_true rfl) (fun p e s m args below meth c A F hT hZ => ?_)
  refine jw_at (lv' := [(0, .ref (ad 0)), (1, .int (nI r)), (2, .int t)]) (st' := []) (ws' := wX ad cB cI cL f0 f1 f2 f3 f4 f5 f6 f7 v md ln) rfl rfl rfl ?_
  obtain ⟨hI, hA, hV, hL, hR⟩ := hQ
  have hB := cx_B_of hI
  have hn := hI.1
  obtain ⟨hM, hlen⟩ := cx_R_M hI hR
  refine jw_aload_n (pc := 0) F 0 d_X_holds_0 rfl rfl ?_
  refine jw_iload_n (pc := 1) F 1 d_X_holds_1 rfl rfl ?_
  refine jw_callV_Ev (pc := 2) (As := [.int (nI r)]) (rest := []) F ([]) ([]) (c_checkReplica l D ad cB cI cL f0 f1 f2 f3 f4 f5 f6 f7 v md ln r hr) (jw_cwV F.1.2.2.2.2 wl_good w_93 w_95 w_0 w_29 w_96 hd_X_checkReplica ⟨by decide, by decide⟩) 0 0 rfl rfl rfl (by simp) rfl rfl (Nat.le_of_ble_eq_true rfl) d_X_holds_2 ⟨rfl, rfl⟩ ⟨by decide, by decide⟩ ?_
  refine jw_aload_n (pc := 5) F 0 d_X_holds_5 rfl rfl ?_
  refine jw_iload_n (pc := 6) F 2 d_X_holds_6 rfl rfl ?_
  exact jw_xcallV (pc := 7) (As := [.int t]) (rest := []) F [] [] hT jz_ok hZ (c_checkOperation_x l D ad cB cI cL f0 f1 f2 f3 f4 f5 f6 f7 v md ln (a_n a) hA.1 t ht hl) (jw_cwV F.1.2.2.2.2 wl_good w_257 w_259 w_12 w_29 w_260 hd_X_checkOperation ⟨by decide, by decide⟩) 0 0 rfl rfl rfl (by simp) rfl rfl (Nat.le_of_ble_eq_true rfl) d_X_holds_7 ⟨by decide, by decide⟩ (by decide) (by decide)
set_option maxHeartbeats 4000000 in
set_option maxRecDepth 100000 in
theorem c_place_x2 (l : Launch) (D : va_G) (ad : Nat → Nat) (cB cI cL : ClassId) (f0 f1 f2 f3 f4 f5 f6 f7 : Nat → Int32) (v : Nat → Int64) (md ln : Int32) (a : AS) (L : List Nat) (hQ : cx_R a L f0 f1 f2 f3 f4 f5 f6 f7 v md ln) (r : Nat) (hr : r < 4) (t : Int32) (ht : a_isop (a_n a) t = false) (hl : l.stackTraces = false) : jw_Tx l D vCl (vTy cB cI cL) y_X_place s_X_place rm_X_place_x [.ref (ad 0), .int (nI r), .int t] (wX ad cB cI cL f0 f1 f2 f3 f4 f5 f6 f7 v md ln) jz_Z "java/lang/IndexOutOfBoundsException" := by
  refine jw_ofx (cc := b_X_place) (nL := 5) (ret := (some .int)) (by decide) rfl (Nat.le_of_ble_eq_true rfl) (fun p e s m args below meth c A F hT hZ => ?_)
  refine jw_at (lv' := [(0, .ref (ad 0)), (1, .int (nI r)), (2, .int t)]) (st' := []) (ws' := wX ad cB cI cL f0 f1 f2 f3 f4 f5 f6 f7 v md ln) rfl rfl rfl ?_
  obtain ⟨hI, hA, hV, hL, hR⟩ := hQ
  have hB := cx_B_of hI
  have hn := hI.1
  obtain ⟨hM, hlen⟩ := cx_R_M hI hR
  refine jw_aload_n (pc := 0) F 0 d_X_place_0 rfl rfl ?_
  refine jw_iload_n (pc := 1) F 1 d_X_place_1 rfl rfl ?_
  refine jw_callV_Ev (pc := 2) (As := [.int (nI r)]) (rest := []) F ([]) ([]) (c_checkReplica l D ad cB cI cL f0 f1 f2 f3 f4 f5 f6 f7 v md ln r hr) (jw_cwV F.1.2.2.2.2 wl_good w_93 w_95 w_0 w_29 w_96 hd_X_checkReplica ⟨by decide, by decide⟩) 0 0 rfl rfl rfl (by simp) rfl rfl (Nat.le_of_ble_eq_true rfl) d_X_place_2 ⟨rfl, rfl⟩ ⟨by decide, by decide⟩ ?_
  refine jw_aload_n (pc := 5) F 0 d_X_place_5 rfl rfl ?_
  refine jw_iload_n (pc := 6) F 2 d_X_place_6 rfl rfl ?_
  exact jw_xcallV (pc := 7) (As := [.int t]) (rest := []) F [] [] hT jz_ok hZ (c_checkOperation_x l D ad cB cI cL f0 f1 f2 f3 f4 f5 f6 f7 v md ln (a_n a) hA.1 t ht hl) (jw_cwV F.1.2.2.2.2 wl_good w_257 w_259 w_12 w_29 w_260 hd_X_checkOperation ⟨by decide, by decide⟩) 0 0 rfl rfl rfl (by simp) rfl rfl (Nat.le_of_ble_eq_true rfl) d_X_place_7 ⟨by decide, by decide⟩ (by decide) (by decide)
set_option maxHeartbeats 4000000 in
set_option maxRecDepth 100000 in
theorem c_stamp_x2 (l : Launch) (D : va_G) (ad : Nat → Nat) (cB cI cL : ClassId) (f0 f1 f2 f3 f4 f5 f6 f7 : Nat → Int32) (v : Nat → Int64) (md ln : Int32) (a : AS) (L : List Nat) (hQ : cx_R a L f0 f1 f2 f3 f4 f5 f6 f7 v md ln) (t : Int32) (ht : a_isop (a_n a) t = false) (hl : l.stackTraces = false) : jw_Tx l D vCl (vTy cB cI cL) y_X_stamp s_X_stamp rm_X_stamp_x [.ref (ad 0), .int t] (wX ad cB cI cL f0 f1 f2 f3 f4 f5 f6 f7 v md ln) jz_Z "java/lang/IndexOutOfBoundsException" := by
  refine jw_ofx (cc := b_X_stamp) (nL := 2) (ret := (some .int)) (by decide) rfl (Nat.le_of_ble_eq_true rfl) (fun p e s m args below meth c A F hT hZ => ?_)
  refine jw_at (lv' := [(0, .ref (ad 0)), (1, .int t)]) (st' := []) (ws' := wX ad cB cI cL f0 f1 f2 f3 f4 f5 f6 f7 v md ln) rfl rfl rfl ?_
  obtain ⟨hI, hA, hV, hL, hR⟩ := hQ
  have hB := cx_B_of hI
  have hn := hI.1
  obtain ⟨hM, hlen⟩ := cx_R_M hI hR
  refine jw_aload_n (pc := 0) F 0 d_X_stamp_0 rfl rfl ?_
  refine jw_iload_n (pc := 1) F 1 d_X_stamp_1 rfl rfl ?_
  exact jw_xcallV (pc := 2) (As := [.int t]) (rest := []) F [] [] hT jz_ok hZ (c_checkOperation_x l D ad cB cI cL f0 f1 f2 f3 f4 f5 f6 f7 v md ln (a_n a) hA.1 t ht hl) (jw_cwV F.1.2.2.2.2 wl_good w_257 w_259 w_12 w_29 w_260 hd_X_checkOperation ⟨by decide, by decide⟩) 0 0 rfl rfl rfl (by simp) rfl rfl (Nat.le_of_ble_eq_true rfl) d_X_stamp_2 ⟨by decide, by decide⟩ (by decide) (by decide)
set_option maxHeartbeats 4000000 in
set_option maxRecDepth 100000 in
theorem c_value_x2 (l : Launch) (D : va_G) (ad : Nat → Nat) (cB cI cL : ClassId) (f0 f1 f2 f3 f4 f5 f6 f7 : Nat → Int32) (v : Nat → Int64) (md ln : Int32) (a : AS) (L : List Nat) (hQ : cx_R a L f0 f1 f2 f3 f4 f5 f6 f7 v md ln) (t : Int32) (ht : a_isel a t = false) (hl : l.stackTraces = false) : jw_Tx l D vCl (vTy cB cI cL) y_X_value s_X_value rm_X_value_x [.ref (ad 0), .int t] (wX ad cB cI cL f0 f1 f2 f3 f4 f5 f6 f7 v md ln) jz_Z "java/lang/IndexOutOfBoundsException" := by
  refine jw_ofx (cc := b_X_value) (nL := 2) (ret := (some .long)) (by decide) rfl (Nat.le_of_ble_eq_true rfl) (fun p e s m args below meth c A F hT hZ => ?_)
  refine jw_at (lv' := [(0, .ref (ad 0)), (1, .int t)]) (st' := []) (ws' := wX ad cB cI cL f0 f1 f2 f3 f4 f5 f6 f7 v md ln) rfl rfl rfl ?_
  obtain ⟨hI, hA, hV, hL, hR⟩ := hQ
  have hB := cx_B_of hI
  have hn := hI.1
  obtain ⟨hM, hlen⟩ := cx_R_M hI hR
  refine jw_aload_n (pc := 0) F 0 d_X_value_0 rfl rfl ?_
  refine jw_iload_n (pc := 1) F 1 d_X_value_1 rfl rfl ?_
  refine jw_callV_Ei (pc := 2) (As := [.int t]) (rest := []) F ([]) ([]) (c_isElement l D ad cB cI cL f0 f1 f2 f3 f4 f5 f6 f7 v md ln a hB hA t) (jw_cwV F.1.2.2.2.2 wl_good w_189 w_191 w_4 w_29 w_192 hd_X_isElement ⟨by decide, by decide⟩) 0 0 rfl rfl rfl (by simp) rfl rfl (Nat.le_of_ble_eq_true rfl) d_X_value_2 ⟨rfl, rfl⟩ ⟨by decide, by decide⟩ ?_
  refine jw_if_ne (pc := 5) F 18 d_X_value_5 (by decide) (fun hz1 => False.elim (absurd ht (by rw [jb_n.mp hz1]; decide))) (fun hz1 => ?_)
  obtain ⟨sa, hsa⟩ := hZ.2.2.2.2.2.2.2.1
  exact jw_throw (pc := 8) (names := ["java/lang/RuntimeException", "java/lang/Exception"]) F hT hl (by decide +kernel) (by decide +kernel) (jm w_169) (jm w_35) hsa (jz_hatIOB F.1.2.2.2.2 hZ) jz_otIOB hZ.1 hZ.2.1 d_X_value_8 d_X_value_11 d_X_value_12 d_X_value_14 d_X_value_17 (by decide) (Nat.le_of_ble_eq_true rfl) (by decide) (by decide) (by decide) (by decide)
set_option maxHeartbeats 4000000 in
set_option maxRecDepth 100000 in
theorem c_insert_x3 (l : Launch) (D : va_G) (ad : Nat → Nat) (cB cI cL : ClassId) (f0 f1 f2 f3 f4 f5 f6 f7 : Nat → Int32) (v : Nat → Int64) (md ln : Int32) (a : AS) (L : List Nat) (hQ : cx_R a L f0 f1 f2 f3 f4 f5 f6 f7 v md ln) (r : Nat) (hr : r < 4) (hn1 : a_n a < 160) (t : Int32) (vv : Int64) (ht : ¬ t = -1) (hh : a_haseB a r t = false) (hl : l.stackTraces = false) : jw_Tx l D vCl (vTy cB cI cL) y_X_insert s_X_insert rm_X_insert_x [.ref (ad 0), .int (nI r), .int t, .long vv] (wX ad cB cI cL f0 f1 f2 f3 f4 f5 f6 f7 v md ln) jz_Z "java/lang/IllegalStateException" := by
  refine jw_ofx (cc := b_X_insert) (nL := 6) (ret := (some .int)) (by decide) rfl (Nat.le_of_ble_eq_true rfl) (fun p e s m args below meth c A F hT hZ => ?_)
  refine jw_at (lv' := [(0, .ref (ad 0)), (1, .int (nI r)), (2, .int t), (3, .long vv)]) (st' := []) (ws' := wX ad cB cI cL f0 f1 f2 f3 f4 f5 f6 f7 v md ln) rfl rfl rfl ?_
  obtain ⟨hI, hA, hV, hL, hR⟩ := hQ
  have hB := cx_B_of hI
  have hn := hI.1
  obtain ⟨hM, hlen⟩ := cx_R_M hI hR
  refine jw_aload_n (pc := 0) F 0 d_X_insert_0 rfl rfl ?_
  refine jw_iload_n (pc := 1) F 1 d_X_insert_1 rfl rfl ?_
  refine jw_callV_Ev (pc := 2) (As := [.int (nI r)]) (rest := []) F ([]) ([]) (c_checkReplica l D ad cB cI cL f0 f1 f2 f3 f4 f5 f6 f7 v md ln r hr) (jw_cwV F.1.2.2.2.2 wl_good w_93 w_95 w_0 w_29 w_96 hd_X_checkReplica ⟨by decide, by decide⟩) 0 0 rfl rfl rfl (by simp) rfl rfl (Nat.le_of_ble_eq_true rfl) d_X_insert_2 ⟨rfl, rfl⟩ ⟨by decide, by decide⟩ ?_
  refine jw_aload_n (pc := 5) F 0 d_X_insert_5 rfl rfl ?_
  refine jw_callV_Ev (pc := 6) (As := []) (rest := []) F ([]) ([]) (c_checkRoom l D ad cB cI cL f0 f1 f2 f3 f4 f5 f6 f7 v md ln (a_n a) hA.1 hn1) (jw_cwV F.1.2.2.2.2 wl_good w_165 w_167 w_2 w_29 w_168 hd_X_checkRoom ⟨by decide, by decide⟩) 0 0 rfl rfl rfl (by simp) rfl rfl (Nat.le_of_ble_eq_true rfl) d_X_insert_6 ⟨rfl, rfl⟩ ⟨by decide, by decide⟩ ?_
  refine jw_iload_n (pc := 9) F 2 d_X_insert_9 rfl rfl ?_
  refine jw_iconst (pc := 10) (v := -1) F d_X_insert_10 (by decide) ?_
  refine jw_icmp_eq (pc := 11) F 20 d_X_insert_11 (by decide) (fun hz1 => False.elim (ht hz1)) (fun hz1 => ?_)
  refine jw_aload_n (pc := 14) F 0 d_X_insert_14 rfl rfl ?_
  refine jw_iload_n (pc := 15) F 1 d_X_insert_15 rfl rfl ?_
  refine jw_iload_n (pc := 16) F 2 d_X_insert_16 rfl rfl ?_
  exact jw_xcallV (pc := 17) (As := [.int (nI r), .int t]) (rest := []) F [] [] hT jz_ok hZ (c_checkHeldElement_x l D ad cB cI cL f0 f1 f2 f3 f4 f5 f6 f7 v md ln a hB hA r hr t hh hl) (jw_cwV F.1.2.2.2.2 wl_good w_185 w_187 w_3 w_29 w_188 hd_X_checkHeldElement ⟨by decide, by decide⟩) 0 0 rfl rfl rfl (by simp) rfl rfl (Nat.le_of_ble_eq_true rfl) d_X_insert_17 ⟨by decide, by decide⟩ (by decide) (by decide)
set_option maxHeartbeats 4000000 in
set_option maxRecDepth 100000 in
theorem c_delete_x3 (l : Launch) (D : va_G) (ad : Nat → Nat) (cB cI cL : ClassId) (f0 f1 f2 f3 f4 f5 f6 f7 : Nat → Int32) (v : Nat → Int64) (md ln : Int32) (a : AS) (L : List Nat) (hQ : cx_R a L f0 f1 f2 f3 f4 f5 f6 f7 v md ln) (r : Nat) (hr : r < 4) (hn1 : a_n a < 160) (t : Int32) (hh : a_haseB a r t = false) (hl : l.stackTraces = false) : jw_Tx l D vCl (vTy cB cI cL) y_X_delete s_X_delete rm_X_delete_x [.ref (ad 0), .int (nI r), .int t] (wX ad cB cI cL f0 f1 f2 f3 f4 f5 f6 f7 v md ln) jz_Z "java/lang/IllegalStateException" := by
  refine jw_ofx (cc := b_X_delete) (nL := 3) (ret := (some .int)) (by decide) rfl (Nat.le_of_ble_eq_true rfl) (fun p e s m args below meth c A F hT hZ => ?_)
  refine jw_at (lv' := [(0, .ref (ad 0)), (1, .int (nI r)), (2, .int t)]) (st' := []) (ws' := wX ad cB cI cL f0 f1 f2 f3 f4 f5 f6 f7 v md ln) rfl rfl rfl ?_
  obtain ⟨hI, hA, hV, hL, hR⟩ := hQ
  have hB := cx_B_of hI
  have hn := hI.1
  obtain ⟨hM, hlen⟩ := cx_R_M hI hR
  refine jw_aload_n (pc := 0) F 0 d_X_delete_0 rfl rfl ?_
  refine jw_iload_n (pc := 1) F 1 d_X_delete_1 rfl rfl ?_
  refine jw_callV_Ev (pc := 2) (As := [.int (nI r)]) (rest := []) F ([]) ([]) (c_checkReplica l D ad cB cI cL f0 f1 f2 f3 f4 f5 f6 f7 v md ln r hr) (jw_cwV F.1.2.2.2.2 wl_good w_93 w_95 w_0 w_29 w_96 hd_X_checkReplica ⟨by decide, by decide⟩) 0 0 rfl rfl rfl (by simp) rfl rfl (Nat.le_of_ble_eq_true rfl) d_X_delete_2 ⟨rfl, rfl⟩ ⟨by decide, by decide⟩ ?_
  refine jw_aload_n (pc := 5) F 0 d_X_delete_5 rfl rfl ?_
  refine jw_callV_Ev (pc := 6) (As := []) (rest := []) F ([]) ([]) (c_checkRoom l D ad cB cI cL f0 f1 f2 f3 f4 f5 f6 f7 v md ln (a_n a) hA.1 hn1) (jw_cwV F.1.2.2.2.2 wl_good w_165 w_167 w_2 w_29 w_168 hd_X_checkRoom ⟨by decide, by decide⟩) 0 0 rfl rfl rfl (by simp) rfl rfl (Nat.le_of_ble_eq_true rfl) d_X_delete_6 ⟨rfl, rfl⟩ ⟨by decide, by decide⟩ ?_
  refine jw_aload_n (pc := 9) F 0 d_X_delete_9 rfl rfl ?_
  refine jw_iload_n (pc := 10) F 1 d_X_delete_10 rfl rfl ?_
  refine jw_iload_n (pc := 11) F 2 d_X_delete_11 rfl rfl ?_
  exact jw_xcallV (pc := 12) (As := [.int (nI r), .int t]) (rest := []) F [] [] hT jz_ok hZ (c_checkHeldElement_x l D ad cB cI cL f0 f1 f2 f3 f4 f5 f6 f7 v md ln a hB hA r hr t hh hl) (jw_cwV F.1.2.2.2.2 wl_good w_185 w_187 w_3 w_29 w_188 hd_X_checkHeldElement ⟨by decide, by decide⟩) 0 0 rfl rfl rfl (by simp) rfl rfl (Nat.le_of_ble_eq_true rfl) d_X_delete_12 ⟨by decide, by decide⟩ (by decide) (by decide)
set_option maxHeartbeats 4000000 in
set_option maxRecDepth 100000 in
theorem c_give_x3 (l : Launch) (D : va_G) (ad : Nat → Nat) (cB cI cL : ClassId) (f0 f1 f2 f3 f4 f5 f6 f7 : Nat → Int32) (v : Nat → Int64) (md ln : Int32) (a : AS) (L : List Nat) (hQ : cx_R a L f0 f1 f2 f3 f4 f5 f6 f7 v md ln) (r : Nat) (hr : r < 4) (k : Nat) (hk : k < a_n a) (ht : ¬ a_tg a k = -1) (hh : a_haseB a r (a_tg a k) = false) (hl : l.stackTraces = false) : jw_Tx l D vCl (vTy cB cI cL) y_X_give s_X_give rm_X_give_x [.ref (ad 0), .int (nI r), .int (nI k)] (wX ad cB cI cL f0 f1 f2 f3 f4 f5 f6 f7 v md ln) jz_Z "java/lang/IllegalStateException" := by
  refine jw_ofx (cc := b_X_give) (nL := 3) (ret := none) (by decide) rfl (Nat.le_of_ble_eq_true rfl) (fun p e s m args below meth c A F hT hZ => ?_)
  refine jw_at (lv' := [(0, .ref (ad 0)), (1, .int (nI r)), (2, .int (nI k))]) (st' := []) (ws' := wX ad cB cI cL f0 f1 f2 f3 f4 f5 f6 f7 v md ln) rfl rfl rfl ?_
  obtain ⟨hI, hA, hV, hL, hR⟩ := hQ
  have hB := cx_B_of hI
  have hn := hI.1
  obtain ⟨hM, hlen⟩ := cx_R_M hI hR
  refine jw_aload_n (pc := 0) F 0 d_X_give_0 rfl rfl ?_
  refine jw_iload_n (pc := 1) F 1 d_X_give_1 rfl rfl ?_
  refine jw_callV_Ev (pc := 2) (As := [.int (nI r)]) (rest := []) F ([]) ([]) (c_checkReplica l D ad cB cI cL f0 f1 f2 f3 f4 f5 f6 f7 v md ln r hr) (jw_cwV F.1.2.2.2.2 wl_good w_93 w_95 w_0 w_29 w_96 hd_X_checkReplica ⟨by decide, by decide⟩) 0 0 rfl rfl rfl (by simp) rfl rfl (Nat.le_of_ble_eq_true rfl) d_X_give_2 ⟨rfl, rfl⟩ ⟨by decide, by decide⟩ ?_
  refine jw_aload_n (pc := 5) F 0 d_X_give_5 rfl rfl ?_
  refine jw_iload_n (pc := 6) F 2 d_X_give_6 rfl rfl ?_
  refine jw_callV_Ev (pc := 7) (As := [.int (nI k)]) (rest := []) F ([]) ([]) (c_checkOperation l D ad cB cI cL f0 f1 f2 f3 f4 f5 f6 f7 v md ln (a_n a) hA.1 (nI k) (a_isop_nI (by omega) hk)) (jw_cwV F.1.2.2.2.2 wl_good w_257 w_259 w_12 w_29 w_260 hd_X_checkOperation ⟨by decide, by decide⟩) 0 0 rfl rfl rfl (by simp) rfl rfl (Nat.le_of_ble_eq_true rfl) d_X_give_7 ⟨rfl, rfl⟩ ⟨by decide, by decide⟩ ?_
  refine jw_aload_n (pc := 10) F 0 d_X_give_10 rfl rfl ?_
  refine jw_get (pc := 11) F (jms inX) 0 rfl rfl 2 (by decide) (jm w_48) rfl d_X_give_11 ?_
  refine jw_iload_n (pc := 14) F 2 d_X_give_14 rfl rfl ?_
  refine jw_ialdN (pc := 15) F 2 1 rfl rfl k rfl (by omega) (by decide) d_X_give_15 ?_
  rw [hA.2.2.1 k hk]
  refine jw_iconst (pc := 16) (v := -1) F d_X_give_16 (by decide) ?_
  refine jw_icmp_eq (pc := 17) F 31 d_X_give_17 (by decide) (fun hz1 => False.elim (ht hz1)) (fun hz1 => ?_)
  refine jw_aload_n (pc := 20) F 0 d_X_give_20 rfl rfl ?_
  refine jw_iload_n (pc := 21) F 1 d_X_give_21 rfl rfl ?_
  refine jw_aload_n (pc := 22) F 0 d_X_give_22 rfl rfl ?_
  refine jw_get (pc := 23) F (jms inX) 0 rfl rfl 2 (by decide) (jm w_48) rfl d_X_give_23 ?_
  refine jw_iload_n (pc := 26) F 2 d_X_give_26 rfl rfl ?_
  refine jw_ialdN (pc := 27) F 2 1 rfl rfl k rfl (by omega) (by decide) d_X_give_27 ?_
  rw [hA.2.2.1 k hk]
  exact jw_xcallV (pc := 28) (As := [.int (nI r), .int (a_tg a k)]) (rest := []) F [] [] hT jz_ok hZ (c_checkHeldElement_x l D ad cB cI cL f0 f1 f2 f3 f4 f5 f6 f7 v md ln a hB hA r hr (a_tg a k) hh hl) (jw_cwV F.1.2.2.2.2 wl_good w_185 w_187 w_3 w_29 w_188 hd_X_checkHeldElement ⟨by decide, by decide⟩) 0 0 rfl rfl rfl (by simp) rfl rfl (Nat.le_of_ble_eq_true rfl) d_X_give_28 ⟨by decide, by decide⟩ (by decide) (by decide)
set_option maxHeartbeats 4000000 in
set_option maxRecDepth 100000 in
theorem c_place_x3 (l : Launch) (D : va_G) (ad : Nat → Nat) (cB cI cL : ClassId) (f0 f1 f2 f3 f4 f5 f6 f7 : Nat → Int32) (v : Nat → Int64) (md ln : Int32) (a : AS) (L : List Nat) (hQ : cx_R a L f0 f1 f2 f3 f4 f5 f6 f7 v md ln) (r : Nat) (hr : r < 4) (t : Int32) (ht : a_isop (a_n a) t = true) (hh : a_haseB a r t = false) (hl : l.stackTraces = false) : jw_Tx l D vCl (vTy cB cI cL) y_X_place s_X_place rm_X_place_x [.ref (ad 0), .int (nI r), .int t] (wX ad cB cI cL f0 f1 f2 f3 f4 f5 f6 f7 v md ln) jz_Z "java/lang/IllegalStateException" := by
  refine jw_ofx (cc := b_X_place) (nL := 5) (ret := (some .int)) (by decide) rfl (Nat.le_of_ble_eq_true rfl) (fun p e s m args below meth c A F hT hZ => ?_)
  refine jw_at (lv' := [(0, .ref (ad 0)), (1, .int (nI r)), (2, .int t)]) (st' := []) (ws' := wX ad cB cI cL f0 f1 f2 f3 f4 f5 f6 f7 v md ln) rfl rfl rfl ?_
  obtain ⟨hI, hA, hV, hL, hR⟩ := hQ
  have hB := cx_B_of hI
  have hn := hI.1
  obtain ⟨hM, hlen⟩ := cx_R_M hI hR
  refine jw_aload_n (pc := 0) F 0 d_X_place_0 rfl rfl ?_
  refine jw_iload_n (pc := 1) F 1 d_X_place_1 rfl rfl ?_
  refine jw_callV_Ev (pc := 2) (As := [.int (nI r)]) (rest := []) F ([]) ([]) (c_checkReplica l D ad cB cI cL f0 f1 f2 f3 f4 f5 f6 f7 v md ln r hr) (jw_cwV F.1.2.2.2.2 wl_good w_93 w_95 w_0 w_29 w_96 hd_X_checkReplica ⟨by decide, by decide⟩) 0 0 rfl rfl rfl (by simp) rfl rfl (Nat.le_of_ble_eq_true rfl) d_X_place_2 ⟨rfl, rfl⟩ ⟨by decide, by decide⟩ ?_
  refine jw_aload_n (pc := 5) F 0 d_X_place_5 rfl rfl ?_
  refine jw_iload_n (pc := 6) F 2 d_X_place_6 rfl rfl ?_
  refine jw_callV_Ev (pc := 7) (As := [.int t]) (rest := []) F ([]) ([]) (c_checkOperation l D ad cB cI cL f0 f1 f2 f3 f4 f5 f6 f7 v md ln (a_n a) hA.1 t ht) (jw_cwV F.1.2.2.2.2 wl_good w_257 w_259 w_12 w_29 w_260 hd_X_checkOperation ⟨by decide, by decide⟩) 0 0 rfl rfl rfl (by simp) rfl rfl (Nat.le_of_ble_eq_true rfl) d_X_place_7 ⟨rfl, rfl⟩ ⟨by decide, by decide⟩ ?_
  refine jw_aload_n (pc := 10) F 0 d_X_place_10 rfl rfl ?_
  refine jw_iload_n (pc := 11) F 1 d_X_place_11 rfl rfl ?_
  refine jw_iload_n (pc := 12) F 2 d_X_place_12 rfl rfl ?_
  exact jw_xcallV (pc := 13) (As := [.int (nI r), .int t]) (rest := []) F [] [] hT jz_ok hZ (c_checkHeldElement_x l D ad cB cI cL f0 f1 f2 f3 f4 f5 f6 f7 v md ln a hB hA r hr t hh hl) (jw_cwV F.1.2.2.2.2 wl_good w_185 w_187 w_3 w_29 w_188 hd_X_checkHeldElement ⟨by decide, by decide⟩) 0 0 rfl rfl rfl (by simp) rfl rfl (Nat.le_of_ble_eq_true rfl) d_X_place_13 ⟨by decide, by decide⟩ (by decide) (by decide)
set_option maxHeartbeats 4000000 in
set_option maxRecDepth 100000 in
theorem c_count_x2 (l : Launch) (D : va_G) (ad : Nat → Nat) (cB cI cL : ClassId) (f0 f1 f2 f3 f4 f5 f6 f7 : Nat → Int32) (v : Nat → Int64) (md ln : Int32) (a : AS) (L : List Nat) (hQ : cx_R a L f0 f1 f2 f3 f4 f5 f6 f7 v md ln) (r : Nat) (hr : r < 4) (t : Int32) (ht : a_isop 4 t = false) (hl : l.stackTraces = false) : jw_Tx l D vCl (vTy cB cI cL) y_X_count s_X_count rm_X_count_x [.ref (ad 0), .int (nI r), .int t] (wX ad cB cI cL f0 f1 f2 f3 f4 f5 f6 f7 v md ln) jz_Z "java/lang/IllegalArgumentException" := by
  refine jw_ofx (cc := b_X_count) (nL := 3) (ret := (some .int)) (by decide) rfl (Nat.le_of_ble_eq_true rfl) (fun p e s m args below meth c A F hT hZ => ?_)
  refine jw_at (lv' := [(0, .ref (ad 0)), (1, .int (nI r)), (2, .int t)]) (st' := []) (ws' := wX ad cB cI cL f0 f1 f2 f3 f4 f5 f6 f7 v md ln) rfl rfl rfl ?_
  refine jw_aload_n (pc := 0) F 0 d_X_count_0 rfl rfl ?_
  refine jw_iload_n (pc := 1) F 1 d_X_count_1 rfl rfl ?_
  refine jw_callV_Ev (pc := 2) (As := [.int (nI r)]) (rest := []) F ([]) ([]) (c_checkReplica l D ad cB cI cL f0 f1 f2 f3 f4 f5 f6 f7 v md ln r hr) (jw_cwV F.1.2.2.2.2 wl_good w_93 w_95 w_0 w_29 w_96 hd_X_checkReplica ⟨by decide, by decide⟩) 0 0 rfl rfl rfl (by simp) rfl rfl (Nat.le_of_ble_eq_true rfl) d_X_count_2 ⟨rfl, rfl⟩ ⟨by decide, by decide⟩ ?_
  refine jw_iload_n (pc := 5) F 2 d_X_count_5 rfl rfl ?_
  refine jw_tableOut (pc := 6) F 61 d_X_count_6 (gl_out4 ht) (by decide) ?_
  obtain ⟨sa, hsa⟩ := hZ.2.2.2.2.2.2.2.2
  exact jw_throw (pc := 61) (names := ["java/lang/RuntimeException", "java/lang/Exception"]) F hT hl (by decide +kernel) (by decide +kernel) (jm w_97) (jm w_34) hsa (jz_hatIAE F.1.2.2.2.2 hZ) jz_otIAE hZ.1 hZ.2.1 d_X_count_61 d_X_count_64 d_X_count_65 d_X_count_67 d_X_count_70 (by decide) (Nat.le_of_ble_eq_true rfl) (by decide) (by decide) (by decide) (by decide)
