abbrev rm_M_give : Room := { frames := 3, cells := 0, slots := 0, locals := 68 }
abbrev rm_M_tell : Room := { frames := 2, cells := 0, slots := 0, locals := 45 }
abbrev rm_M_holds : Room := { frames := 2, cells := 0, slots := 0, locals := 46 }
abbrev rm_M_value : Room := { frames := 2, cells := 0, slots := 0, locals := 46 }
abbrev rm_M_stamp : Room := { frames := 2, cells := 0, slots := 0, locals := 46 }
abbrev rm_M_count : Room := { frames := 4, cells := 0, slots := 0, locals := 94 }
set_option maxHeartbeats 4000000 in
set_option maxRecDepth 100000 in
theorem m_give_1 (l : Launch) (D : va_G) (am : Nat → Nat) (cB cI cL : ClassId) (go gc gb gd gh gr gt gk : Nat → Int32) (gn : Nat → Int64) (er op sz : Int32) (a : AS) (hQ : mx_R a go gc gb gd gh gn op) (r : Int32) (hr : a_isrep r = false) (tt : Int32) : jw_Mv l D vCl (vTy cB cI cL) y_M_give s_M_give rm_M_give [.ref (am 0), .int r, .int tt] (wM am cB cI cL go gc gb gd gh gr gt gk gn er op sz) (fun w9 => w9 = wM am cB cI cL go gc gb gd gh gr gt gk gn 1 op sz) := by
  refine jw_ofv (cc := b_M_give) (nL := 3) (ret := none) (by decide) rfl (Nat.le_of_ble_eq_true rfl) (fun p e s m args below meth c A F hnm => ?_)
  refine jw_at (lv' := [(0, .ref (am 0)), (1, .int r), (2, .int tt)]) (st' := []) (ws' := wM am cB cI cL go gc gb gd gh gr gt gk gn er op sz) rfl rfl rfl ?_
  refine jw_aload_n (pc := 0) F 0 d_M_give_0 rfl rfl ?_
  refine jw_iconst (pc := 1) (v := 0) F d_M_give_1 (by decide) ?_
  refine jw_put (pc := 2) (v := .int 0) (ty := .int) (ws' := wM am cB cI cL go gc gb gd gh gr gt gk gn 0 op sz) F (jms inM) tM tM_ok nmM 0 rfl rfl 0 (by decide) (jm w_342) rfl (by decide +kernel) rfl rfl (Nat.le_of_ble_eq_true rfl) d_M_give_2 rfl ?_
  refine jw_aload_n (pc := 5) F 0 d_M_give_5 rfl rfl ?_
  refine jw_iload_n (pc := 6) F 1 d_M_give_6 rfl rfl ?_
  refine jw_callS_Ei (pc := 7) (As := [.int r]) (rest := [.ref (am 0)]) F (m_isReplica l D cB cI cL r) (jw_cwS F.1.2.2.2.2 wl_good w_387 w_388 w_30 w_389 hd_M_isReplica ⟨by decide, by decide⟩) rfl rfl (Nat.le_of_ble_eq_true rfl) d_M_give_7 ⟨rfl, rfl⟩ ⟨by decide, by decide⟩ ?_
  refine jw_if_ne (pc := 10) F 17 d_M_give_10 (by decide) (fun hz1 => False.elim (absurd (jb_n.mp hz1) (by rw [hr]; decide))) (fun hz1 => ?_)
  refine jw_iconst (pc := 13) (v := 1) F d_M_give_13 (by decide) ?_
  refine jw_goto (pc := 14) F 18 d_M_give_14 (by decide) ?_
  refine jw_iconst (pc := 18) (v := 1) F d_M_give_18 (by decide) ?_
  refine jw_callV_Ci (pc := 19) (As := [.int 1, .int 1]) (rest := []) F (m_failsT l D am cB cI cL go gc gb gd gh gr gt gk gn op sz true rfl 1 (by decide)) (jw_cwV F.1.2.2.2.2 wl_good w_394 w_396 w_17 w_30 w_397 hd_M_fails ⟨by decide, by decide⟩) 0 1 rfl rfl rfl rfl rfl rfl (Nat.le_of_ble_eq_true rfl) d_M_give_19 ⟨rfl, rfl⟩ ⟨by decide, by decide⟩ (fun r w hw => ?_)
  obtain ⟨rfl, rfl⟩ := hw
  refine jw_if_ne (pc := 22) F 91 d_M_give_22 (by decide) (fun hz2 => ?_) (fun hz2 => False.elim (absurd hz2 (by decide)))
  exact jw_vret F d_M_give_91 rfl
set_option maxHeartbeats 4000000 in
set_option maxRecDepth 100000 in
theorem m_give_2 (l : Launch) (D : va_G) (am : Nat → Nat) (cB cI cL : ClassId) (go gc gb gd gh gr gt gk : Nat → Int32) (gn : Nat → Int64) (er op sz : Int32) (a : AS) (hQ : mx_R a go gc gb gd gh gn op) (r : Nat) (hr : r < 4) (tt : Int32) (ht : a_isop (a_n a) tt = false) : jw_Mv l D vCl (vTy cB cI cL) y_M_give s_M_give rm_M_give [.ref (am 0), .int (nI r), .int tt] (wM am cB cI cL go gc gb gd gh gr gt gk gn er op sz) (fun w9 => w9 = wM am cB cI cL go gc gb gd gh gr gt gk gn 2 op sz) := by
  refine jw_ofv (cc := b_M_give) (nL := 3) (ret := none) (by decide) rfl (Nat.le_of_ble_eq_true rfl) (fun p e s m args below meth c A F hnm => ?_)
  refine jw_at (lv' := [(0, .ref (am 0)), (1, .int (nI r)), (2, .int tt)]) (st' := []) (ws' := wM am cB cI cL go gc gb gd gh gr gt gk gn er op sz) rfl rfl rfl ?_
  obtain ⟨hI, hA, hV⟩ := hQ
  have hn := hI.1
  refine jw_aload_n (pc := 0) F 0 d_M_give_0 rfl rfl ?_
  refine jw_iconst (pc := 1) (v := 0) F d_M_give_1 (by decide) ?_
  refine jw_put (pc := 2) (v := .int 0) (ty := .int) (ws' := wM am cB cI cL go gc gb gd gh gr gt gk gn 0 op sz) F (jms inM) tM tM_ok nmM 0 rfl rfl 0 (by decide) (jm w_342) rfl (by decide +kernel) rfl rfl (Nat.le_of_ble_eq_true rfl) d_M_give_2 rfl ?_
  refine jw_aload_n (pc := 5) F 0 d_M_give_5 rfl rfl ?_
  refine jw_iload_n (pc := 6) F 1 d_M_give_6 rfl rfl ?_
  refine jw_callS_Ei (pc := 7) (As := [.int (nI r)]) (rest := [.ref (am 0)]) F (m_isReplica l D cB cI cL (nI r)) (jw_cwS F.1.2.2.2.2 wl_good w_387 w_388 w_30 w_389 hd_M_isReplica ⟨by decide, by decide⟩) rfl rfl (Nat.le_of_ble_eq_true rfl) d_M_give_7 ⟨rfl, rfl⟩ ⟨by decide, by decide⟩ ?_
  refine jw_if_ne (pc := 10) F 17 d_M_give_10 (by decide) (fun hz1 => ?_) (fun hz1 => False.elim (absurd (jb_0.mp hz1) (by rw [m_isrep_nI hr]; decide)))
  refine jw_iconst (pc := 17) (v := 0) F d_M_give_17 (by decide) ?_
  refine jw_iconst (pc := 18) (v := 1) F d_M_give_18 (by decide) ?_
  refine jw_callV_Ei (pc := 19) (As := [.int 0, .int 1]) (rest := []) F ([]) ([]) (m_failsF l D am cB cI cL go gc gb gd gh gr gt gk gn op sz false rfl 1) (jw_cwV F.1.2.2.2.2 wl_good w_394 w_396 w_17 w_30 w_397 hd_M_fails ⟨by decide, by decide⟩) 0 1 rfl rfl rfl (by simp) rfl rfl (Nat.le_of_ble_eq_true rfl) d_M_give_19 ⟨rfl, rfl⟩ ⟨by decide, by decide⟩ ?_
  refine jw_if_ne (pc := 22) F 91 d_M_give_22 (by decide) (fun hz2 => False.elim (hz2 rfl)) (fun hz2 => ?_)
  refine jw_aload_n (pc := 25) F 0 d_M_give_25 rfl rfl ?_
  refine jw_aload_n (pc := 26) F 0 d_M_give_26 rfl rfl ?_
  refine jw_iload_n (pc := 27) F 2 d_M_give_27 rfl rfl ?_
  refine jw_callV_Ei (pc := 28) (As := [.int tt]) (rest := [.ref (am 0)]) F ([]) ([]) (m_isThere l D am cB cI cL go gc gb gd gh gr gt gk gn 0 op sz (a_n a) hn hA.1 tt) (jw_cwV F.1.2.2.2.2 wl_good w_402 w_404 w_19 w_30 w_405 hd_M_isThere ⟨by decide, by decide⟩) 0 1 rfl rfl rfl (by simp) rfl rfl (Nat.le_of_ble_eq_true rfl) d_M_give_28 ⟨rfl, rfl⟩ ⟨by decide, by decide⟩ ?_
  refine jw_if_ne (pc := 31) F 38 d_M_give_31 (by decide) (fun hz3 => False.elim (absurd (jb_n.mp hz3) (by rw [ht]; decide))) (fun hz3 => ?_)
  refine jw_iconst (pc := 34) (v := 1) F d_M_give_34 (by decide) ?_
  refine jw_goto (pc := 35) F 39 d_M_give_35 (by decide) ?_
  refine jw_iconst (pc := 39) (v := 2) F d_M_give_39 (by decide) ?_
  refine jw_callV_Ci (pc := 40) (As := [.int 1, .int 2]) (rest := []) F (m_failsT l D am cB cI cL go gc gb gd gh gr gt gk gn op sz true rfl 2 (by decide)) (jw_cwV F.1.2.2.2.2 wl_good w_394 w_396 w_17 w_30 w_397 hd_M_fails ⟨by decide, by decide⟩) 0 1 rfl rfl rfl rfl rfl rfl (Nat.le_of_ble_eq_true rfl) d_M_give_40 ⟨rfl, rfl⟩ ⟨by decide, by decide⟩ (fun r w hw => ?_)
  obtain ⟨rfl, rfl⟩ := hw
  refine jw_if_ne (pc := 43) F 91 d_M_give_43 (by decide) (fun hz4 => ?_) (fun hz4 => False.elim (absurd hz4 (by decide)))
  exact jw_vret F d_M_give_91 rfl
set_option maxHeartbeats 4000000 in
set_option maxRecDepth 100000 in
theorem m_give_3 (l : Launch) (D : va_G) (am : Nat → Nat) (cB cI cL : ClassId) (go gc gb gd gh gr gt gk : Nat → Int32) (gn : Nat → Int64) (er op sz : Int32) (a : AS) (hQ : mx_R a go gc gb gd gh gn op) (r : Nat) (hr : r < 4) (k : Nat) (hk : k < a_n a) (ht : ¬ a_tg a k = -1) (hh : a_haseB a r (a_tg a k) = false) : jw_Mv l D vCl (vTy cB cI cL) y_M_give s_M_give rm_M_give [.ref (am 0), .int (nI r), .int (nI k)] (wM am cB cI cL go gc gb gd gh gr gt gk gn er op sz) (fun w9 => w9 = wM am cB cI cL go gc gb gd gh gr gt gk gn 3 op sz) := by
  refine jw_ofv (cc := b_M_give) (nL := 3) (ret := none) (by decide) rfl (Nat.le_of_ble_eq_true rfl) (fun p e s m args below meth c A F hnm => ?_)
  refine jw_at (lv' := [(0, .ref (am 0)), (1, .int (nI r)), (2, .int (nI k))]) (st' := []) (ws' := wM am cB cI cL go gc gb gd gh gr gt gk gn er op sz) rfl rfl rfl ?_
  obtain ⟨hI, hA, hV⟩ := hQ
  have hn := hI.1
  refine jw_aload_n (pc := 0) F 0 d_M_give_0 rfl rfl ?_
  refine jw_iconst (pc := 1) (v := 0) F d_M_give_1 (by decide) ?_
  refine jw_put (pc := 2) (v := .int 0) (ty := .int) (ws' := wM am cB cI cL go gc gb gd gh gr gt gk gn 0 op sz) F (jms inM) tM tM_ok nmM 0 rfl rfl 0 (by decide) (jm w_342) rfl (by decide +kernel) rfl rfl (Nat.le_of_ble_eq_true rfl) d_M_give_2 rfl ?_
  refine jw_aload_n (pc := 5) F 0 d_M_give_5 rfl rfl ?_
  refine jw_iload_n (pc := 6) F 1 d_M_give_6 rfl rfl ?_
  refine jw_callS_Ei (pc := 7) (As := [.int (nI r)]) (rest := [.ref (am 0)]) F (m_isReplica l D cB cI cL (nI r)) (jw_cwS F.1.2.2.2.2 wl_good w_387 w_388 w_30 w_389 hd_M_isReplica ⟨by decide, by decide⟩) rfl rfl (Nat.le_of_ble_eq_true rfl) d_M_give_7 ⟨rfl, rfl⟩ ⟨by decide, by decide⟩ ?_
  refine jw_if_ne (pc := 10) F 17 d_M_give_10 (by decide) (fun hz1 => ?_) (fun hz1 => False.elim (absurd (jb_0.mp hz1) (by rw [m_isrep_nI hr]; decide)))
  refine jw_iconst (pc := 17) (v := 0) F d_M_give_17 (by decide) ?_
  refine jw_iconst (pc := 18) (v := 1) F d_M_give_18 (by decide) ?_
  refine jw_callV_Ei (pc := 19) (As := [.int 0, .int 1]) (rest := []) F ([]) ([]) (m_failsF l D am cB cI cL go gc gb gd gh gr gt gk gn op sz false rfl 1) (jw_cwV F.1.2.2.2.2 wl_good w_394 w_396 w_17 w_30 w_397 hd_M_fails ⟨by decide, by decide⟩) 0 1 rfl rfl rfl (by simp) rfl rfl (Nat.le_of_ble_eq_true rfl) d_M_give_19 ⟨rfl, rfl⟩ ⟨by decide, by decide⟩ ?_
  refine jw_if_ne (pc := 22) F 91 d_M_give_22 (by decide) (fun hz2 => False.elim (hz2 rfl)) (fun hz2 => ?_)
  refine jw_aload_n (pc := 25) F 0 d_M_give_25 rfl rfl ?_
  refine jw_aload_n (pc := 26) F 0 d_M_give_26 rfl rfl ?_
  refine jw_iload_n (pc := 27) F 2 d_M_give_27 rfl rfl ?_
  refine jw_callV_Ei (pc := 28) (As := [.int (nI k)]) (rest := [.ref (am 0)]) F ([]) ([]) (m_isThere l D am cB cI cL go gc gb gd gh gr gt gk gn 0 op sz (a_n a) hn hA.1 (nI k)) (jw_cwV F.1.2.2.2.2 wl_good w_402 w_404 w_19 w_30 w_405 hd_M_isThere ⟨by decide, by decide⟩) 0 1 rfl rfl rfl (by simp) rfl rfl (Nat.le_of_ble_eq_true rfl) d_M_give_28 ⟨rfl, rfl⟩ ⟨by decide, by decide⟩ ?_
  refine jw_if_ne (pc := 31) F 38 d_M_give_31 (by decide) (fun hz3 => ?_) (fun hz3 => False.elim (absurd (jb_0.mp hz3) (by rw [a_isop_nI (by omega) hk]; decide)))
  refine jw_iconst (pc := 38) (v := 0) F d_M_give_38 (by decide) ?_
  refine jw_iconst (pc := 39) (v := 2) F d_M_give_39 (by decide) ?_
  refine jw_callV_Ei (pc := 40) (As := [.int 0, .int 2]) (rest := []) F ([]) ([]) (m_failsF l D am cB cI cL go gc gb gd gh gr gt gk gn op sz false rfl 2) (jw_cwV F.1.2.2.2.2 wl_good w_394 w_396 w_17 w_30 w_397 hd_M_fails ⟨by decide, by decide⟩) 0 1 rfl rfl rfl (by simp) rfl rfl (Nat.le_of_ble_eq_true rfl) d_M_give_40 ⟨rfl, rfl⟩ ⟨by decide, by decide⟩ ?_
  refine jw_if_ne (pc := 43) F 91 d_M_give_43 (by decide) (fun hz4 => False.elim (hz4 rfl)) (fun hz4 => ?_)
  have hge : 0 ≤ a_tg a k := by rcases hI.2.2.1 k hk with g | ⟨j, hj, g1, -⟩; exact absurd g.1 ht; rw [g1]; exact nI_pos' (by omega)
  refine jw_aload_n (pc := 46) F 0 d_M_give_46 rfl rfl ?_
  refine jw_aload_n (pc := 47) F 0 d_M_give_47 rfl rfl ?_
  refine jw_get (pc := 48) F (jms inM) 0 rfl rfl 2 (by decide) (jm w_344) rfl d_M_give_48 ?_
  refine jw_iload_n (pc := 51) F 2 d_M_give_51 rfl rfl ?_
  refine jw_ialdN (pc := 52) F 1 1 rfl rfl k rfl (by omega) (by decide) d_M_give_52 ?_
  rw [hA.2.1 k hk]
  refine jw_if_ge (pc := 53) F 65 d_M_give_53 (by decide) (fun hz5 => ?_) (fun hz5 => False.elim (hz5 hge))
  refine jw_aload_n (pc := 65) F 0 d_M_give_65 rfl rfl ?_
  refine jw_iload_n (pc := 66) F 1 d_M_give_66 rfl rfl ?_
  refine jw_aload_n (pc := 67) F 0 d_M_give_67 rfl rfl ?_
  refine jw_get (pc := 68) F (jms inM) 0 rfl rfl 2 (by decide) (jm w_344) rfl d_M_give_68 ?_
  refine jw_iload_n (pc := 71) F 2 d_M_give_71 rfl rfl ?_
  refine jw_ialdN (pc := 72) F 1 1 rfl rfl k rfl (by omega) (by decide) d_M_give_72 ?_
  rw [hA.2.1 k hk]
  refine jw_callV_Ei (pc := 73) (As := [.int (nI r), .int (a_tg a k)]) (rest := [.ref (am 0)]) F ([]) ([]) (m_hasElement l D am cB cI cL go gc gb gd gh gr gt gk gn 0 op sz a hI hA r hr (a_tg a k)) (jw_cwV F.1.2.2.2.2 wl_good w_398 w_400 w_18 w_30 w_401 hd_M_hasElement ⟨by decide, by decide⟩) 0 1 rfl rfl rfl (by simp) rfl rfl (Nat.le_of_ble_eq_true rfl) d_M_give_73 ⟨rfl, rfl⟩ ⟨by decide, by decide⟩ ?_
  refine jw_if_ne (pc := 76) F 83 d_M_give_76 (by decide) (fun hz6 => False.elim (absurd (jb_n.mp hz6) (by rw [hh]; decide))) (fun hz6 => ?_)
  refine jw_iconst (pc := 79) (v := 1) F d_M_give_79 (by decide) ?_
  refine jw_goto (pc := 80) F 84 d_M_give_80 (by decide) ?_
  refine jw_iconst (pc := 84) (v := 3) F d_M_give_84 (by decide) ?_
  refine jw_callV_Ci (pc := 85) (As := [.int 1, .int 3]) (rest := []) F (m_failsT l D am cB cI cL go gc gb gd gh gr gt gk gn op sz true rfl 3 (by decide)) (jw_cwV F.1.2.2.2.2 wl_good w_394 w_396 w_17 w_30 w_397 hd_M_fails ⟨by decide, by decide⟩) 0 1 rfl rfl rfl rfl rfl rfl (Nat.le_of_ble_eq_true rfl) d_M_give_85 ⟨rfl, rfl⟩ ⟨by decide, by decide⟩ (fun r w hw => ?_)
  obtain ⟨rfl, rfl⟩ := hw
  refine jw_if_eq (pc := 88) F 92 d_M_give_88 (by decide) (fun hz7 => False.elim (absurd hz7 (by decide))) (fun hz7 => ?_)
  exact jw_vret F d_M_give_91 rfl
set_option maxHeartbeats 4000000 in
set_option maxRecDepth 100000 in
theorem m_give_0 (l : Launch) (D : va_G) (am : Nat → Nat) (cB cI cL : ClassId) (go gc gb gd gh gr gt gk : Nat → Int32) (gn : Nat → Int64) (er op sz : Int32) (a : AS) (hQ : mx_R a go gc gb gd gh gn op) (r : Nat) (hr : r < 4) (k : Nat) (hk : k < a_n a) (ht : a_tg a k = -1 ∨ a_haseB a r (a_tg a k) = true) : jw_Mv l D vCl (vTy cB cI cL) y_M_give s_M_give rm_M_give [.ref (am 0), .int (nI r), .int (nI k)] (wM am cB cI cL go gc gb gd gh gr gt gk gn er op sz) (fun w9 => ∃ (ko kc kb kd kh : Nat → Int32) (kn : Nat → Int64) (ko2 : Int32), w9 = wM am cB cI cL ko kc kb kd kh gr gt gk kn 0 ko2 sz ∧ mx_R (ab_take a r k) ko kc kb kd kh kn ko2) := by
  refine jw_ofv (cc := b_M_give) (nL := 3) (ret := none) (by decide) rfl (Nat.le_of_ble_eq_true rfl) (fun p e s m args below meth c A F hnm => ?_)
  refine jw_at (lv' := [(0, .ref (am 0)), (1, .int (nI r)), (2, .int (nI k))]) (st' := []) (ws' := wM am cB cI cL go gc gb gd gh gr gt gk gn er op sz) rfl rfl rfl ?_
  obtain ⟨hI, hA, hV⟩ := hQ
  have hn := hI.1
  refine jw_aload_n (pc := 0) F 0 d_M_give_0 rfl rfl ?_
  refine jw_iconst (pc := 1) (v := 0) F d_M_give_1 (by decide) ?_
  refine jw_put (pc := 2) (v := .int 0) (ty := .int) (ws' := wM am cB cI cL go gc gb gd gh gr gt gk gn 0 op sz) F (jms inM) tM tM_ok nmM 0 rfl rfl 0 (by decide) (jm w_342) rfl (by decide +kernel) rfl rfl (Nat.le_of_ble_eq_true rfl) d_M_give_2 rfl ?_
  refine jw_aload_n (pc := 5) F 0 d_M_give_5 rfl rfl ?_
  refine jw_iload_n (pc := 6) F 1 d_M_give_6 rfl rfl ?_
  refine jw_callS_Ei (pc := 7) (As := [.int (nI r)]) (rest := [.ref (am 0)]) F (m_isReplica l D cB cI cL (nI r)) (jw_cwS F.1.2.2.2.2 wl_good w_387 w_388 w_30 w_389 hd_M_isReplica ⟨by decide, by decide⟩) rfl rfl (Nat.le_of_ble_eq_true rfl) d_M_give_7 ⟨rfl, rfl⟩ ⟨by decide, by decide⟩ ?_
  refine jw_if_ne (pc := 10) F 17 d_M_give_10 (by decide) (fun hz1 => ?_) (fun hz1 => False.elim (absurd (jb_0.mp hz1) (by rw [m_isrep_nI hr]; decide)))
  refine jw_iconst (pc := 17) (v := 0) F d_M_give_17 (by decide) ?_
  refine jw_iconst (pc := 18) (v := 1) F d_M_give_18 (by decide) ?_
  refine jw_callV_Ei (pc := 19) (As := [.int 0, .int 1]) (rest := []) F ([]) ([]) (m_failsF l D am cB cI cL go gc gb gd gh gr gt gk gn op sz false rfl 1) (jw_cwV F.1.2.2.2.2 wl_good w_394 w_396 w_17 w_30 w_397 hd_M_fails ⟨by decide, by decide⟩) 0 1 rfl rfl rfl (by simp) rfl rfl (Nat.le_of_ble_eq_true rfl) d_M_give_19 ⟨rfl, rfl⟩ ⟨by decide, by decide⟩ ?_
  refine jw_if_ne (pc := 22) F 91 d_M_give_22 (by decide) (fun hz2 => False.elim (hz2 rfl)) (fun hz2 => ?_)
  refine jw_aload_n (pc := 25) F 0 d_M_give_25 rfl rfl ?_
  refine jw_aload_n (pc := 26) F 0 d_M_give_26 rfl rfl ?_
  refine jw_iload_n (pc := 27) F 2 d_M_give_27 rfl rfl ?_
  refine jw_callV_Ei (pc := 28) (As := [.int (nI k)]) (rest := [.ref (am 0)]) F ([]) ([]) (m_isThere l D am cB cI cL go gc gb gd gh gr gt gk gn 0 op sz (a_n a) hn hA.1 (nI k)) (jw_cwV F.1.2.2.2.2 wl_good w_402 w_404 w_19 w_30 w_405 hd_M_isThere ⟨by decide, by decide⟩) 0 1 rfl rfl rfl (by simp) rfl rfl (Nat.le_of_ble_eq_true rfl) d_M_give_28 ⟨rfl, rfl⟩ ⟨by decide, by decide⟩ ?_
  refine jw_if_ne (pc := 31) F 38 d_M_give_31 (by decide) (fun hz3 => ?_) (fun hz3 => False.elim (absurd (jb_0.mp hz3) (by rw [a_isop_nI (by omega) hk]; decide)))
  refine jw_iconst (pc := 38) (v := 0) F d_M_give_38 (by decide) ?_
  refine jw_iconst (pc := 39) (v := 2) F d_M_give_39 (by decide) ?_
  refine jw_callV_Ei (pc := 40) (As := [.int 0, .int 2]) (rest := []) F ([]) ([]) (m_failsF l D am cB cI cL go gc gb gd gh gr gt gk gn op sz false rfl 2) (jw_cwV F.1.2.2.2.2 wl_good w_394 w_396 w_17 w_30 w_397 hd_M_fails ⟨by decide, by decide⟩) 0 1 rfl rfl rfl (by simp) rfl rfl (Nat.le_of_ble_eq_true rfl) d_M_give_40 ⟨rfl, rfl⟩ ⟨by decide, by decide⟩ ?_
  refine jw_if_ne (pc := 43) F 91 d_M_give_43 (by decide) (fun hz4 => False.elim (hz4 rfl)) (fun hz4 => ?_)
  refine jw_aload_n (pc := 46) F 0 d_M_give_46 rfl rfl ?_
  refine jw_aload_n (pc := 47) F 0 d_M_give_47 rfl rfl ?_
  refine jw_get (pc := 48) F (jms inM) 0 rfl rfl 2 (by decide) (jm w_344) rfl d_M_give_48 ?_
  refine jw_iload_n (pc := 51) F 2 d_M_give_51 rfl rfl ?_
  refine jw_ialdN (pc := 52) F 1 1 rfl rfl k rfl (by omega) (by decide) d_M_give_52 ?_
  rw [hA.2.1 k hk]
  by_cases h1 : a_tg a k = -1
  · have hI2 : ab_I (ab_take a r k) := ab_I_take hI hk (fun j hj q => absurd (q.symm.trans h1) (ab_nI_m1 (by omega)))
    have hd : a_dl a k = false := by rcases hI.2.2.1 k hk with g | ⟨j, hj, g1, -⟩; exact g.2; exact absurd (g1.symm.trans h1) (ab_nI_m1 (by omega))
    refine jw_if_ge (pc := 53) F 65 d_M_give_53 (by decide) (fun hz5 => False.elim (absurd hz5 (by rw [h1]; decide))) (fun hz5 => ?_)
    refine jw_aload_n (pc := 56) F 0 d_M_give_56 rfl rfl ?_
    refine jw_get (pc := 57) F (jms inM) 0 rfl rfl 6 (by decide) (jm w_348) rfl d_M_give_57 ?_
    refine jw_iload_n (pc := 60) F 2 d_M_give_60 rfl rfl ?_
    refine jw_zaldN (pc := 61) F 5 0 rfl rfl k rfl (by omega) (by decide) d_M_give_61 ?_
    rw [hA.2.2.2.2.1 k hk]
    refine jw_if_eq (pc := 62) F 83 d_M_give_62 (by decide) (fun hz6 => ?_) (fun hz6 => False.elim (absurd (jb_n.mp hz6) (by rw [hd]; decide)))
    refine jw_iconst (pc := 83) (v := 0) F d_M_give_83 (by decide) ?_
    refine jw_iconst (pc := 84) (v := 3) F d_M_give_84 (by decide) ?_
    refine jw_callV_Ei (pc := 85) (As := [.int 0, .int 3]) (rest := []) F ([]) ([]) (m_failsF l D am cB cI cL go gc gb gd gh gr gt gk gn op sz false rfl 3) (jw_cwV F.1.2.2.2.2 wl_good w_394 w_396 w_17 w_30 w_397 hd_M_fails ⟨by decide, by decide⟩) 0 1 rfl rfl rfl (by simp) rfl rfl (Nat.le_of_ble_eq_true rfl) d_M_give_85 ⟨rfl, rfl⟩ ⟨by decide, by decide⟩ ?_
    refine jw_if_eq (pc := 88) F 92 d_M_give_88 (by decide) (fun hz7 => ?_) (fun hz7 => False.elim (hz7 rfl))
    refine jw_aload_n (pc := 92) F 0 d_M_give_92 rfl rfl ?_
    refine jw_get (pc := 93) F (jms inM) 0 rfl rfl 7 (by decide) (jm w_349) rfl d_M_give_93 ?_
    refine jw_sipush (pc := 96) (v := nI 160) F d_M_give_96 (by decide) ?_
    refine jw_iload_n (pc := 99) F 1 d_M_give_99 rfl rfl ?_
    refine jw_imul (pc := 100) F d_M_give_100 ?_
    rw [pk_mul]
    refine jw_iload_n (pc := 101) F 2 d_M_give_101 rfl rfl ?_
    refine jw_iadd (pc := 102) F d_M_give_102 ?_
    rw [nI_add]
    refine jw_iconst (pc := 103) (v := 1) F d_M_give_103 (by decide) ?_
    refine jw_zastN (pc := 104) (ws' := wM am cB cI cL go gc gb gd (upd gh (160 * r + k) (vp_nar .boolean 1)) gr gt gk gn 0 op sz) F 6 0 rfl rfl (160 * r + k) rfl (by omega) (by decide) d_M_give_104 rfl ?_
    rw [show vp_nar .boolean 1 = 1 by decide]
    exact jw_vret F d_M_give_105 ⟨_, _, _, _, _, _, _, rfl, hI2, mx_take hn hk hA, hV⟩
  · have ht2 : a_haseB a r (a_tg a k) = true := ht.resolve_left h1
    have hge : 0 ≤ a_tg a k := by rcases hI.2.2.1 k hk with g | ⟨j, hj, g1, -⟩; exact absurd g.1 h1; rw [g1]; exact nI_pos' (by omega)
    have hI2 : ab_I (ab_take a r k) := ab_I_take hI hk (fun j hj q => by rw [q] at ht2; rw [a_haseB_nI hn (by omega)] at ht2; simp only [Bool.and_eq_true] at ht2; exact ht2.2)
    refine jw_if_ge (pc := 53) F 65 d_M_give_53 (by decide) (fun hz8 => ?_) (fun hz8 => False.elim (hz8 hge))
    refine jw_aload_n (pc := 65) F 0 d_M_give_65 rfl rfl ?_
    refine jw_iload_n (pc := 66) F 1 d_M_give_66 rfl rfl ?_
    refine jw_aload_n (pc := 67) F 0 d_M_give_67 rfl rfl ?_
    refine jw_get (pc := 68) F (jms inM) 0 rfl rfl 2 (by decide) (jm w_344) rfl d_M_give_68 ?_
    refine jw_iload_n (pc := 71) F 2 d_M_give_71 rfl rfl ?_
    refine jw_ialdN (pc := 72) F 1 1 rfl rfl k rfl (by omega) (by decide) d_M_give_72 ?_
    rw [hA.2.1 k hk]
    refine jw_callV_Ei (pc := 73) (As := [.int (nI r), .int (a_tg a k)]) (rest := [.ref (am 0)]) F ([]) ([]) (m_hasElement l D am cB cI cL go gc gb gd gh gr gt gk gn 0 op sz a hI hA r hr (a_tg a k)) (jw_cwV F.1.2.2.2.2 wl_good w_398 w_400 w_18 w_30 w_401 hd_M_hasElement ⟨by decide, by decide⟩) 0 1 rfl rfl rfl (by simp) rfl rfl (Nat.le_of_ble_eq_true rfl) d_M_give_73 ⟨rfl, rfl⟩ ⟨by decide, by decide⟩ ?_
    refine jw_if_ne (pc := 76) F 83 d_M_give_76 (by decide) (fun hz9 => ?_) (fun hz9 => False.elim (absurd (jb_0.mp hz9) (by rw [ht2]; decide)))
    refine jw_iconst (pc := 83) (v := 0) F d_M_give_83 (by decide) ?_
    refine jw_iconst (pc := 84) (v := 3) F d_M_give_84 (by decide) ?_
    refine jw_callV_Ei (pc := 85) (As := [.int 0, .int 3]) (rest := []) F ([]) ([]) (m_failsF l D am cB cI cL go gc gb gd gh gr gt gk gn op sz false rfl 3) (jw_cwV F.1.2.2.2.2 wl_good w_394 w_396 w_17 w_30 w_397 hd_M_fails ⟨by decide, by decide⟩) 0 1 rfl rfl rfl (by simp) rfl rfl (Nat.le_of_ble_eq_true rfl) d_M_give_85 ⟨rfl, rfl⟩ ⟨by decide, by decide⟩ ?_
    refine jw_if_eq (pc := 88) F 92 d_M_give_88 (by decide) (fun hz10 => ?_) (fun hz10 => False.elim (hz10 rfl))
    refine jw_aload_n (pc := 92) F 0 d_M_give_92 rfl rfl ?_
    refine jw_get (pc := 93) F (jms inM) 0 rfl rfl 7 (by decide) (jm w_349) rfl d_M_give_93 ?_
    refine jw_sipush (pc := 96) (v := nI 160) F d_M_give_96 (by decide) ?_
    refine jw_iload_n (pc := 99) F 1 d_M_give_99 rfl rfl ?_
    refine jw_imul (pc := 100) F d_M_give_100 ?_
    rw [pk_mul]
    refine jw_iload_n (pc := 101) F 2 d_M_give_101 rfl rfl ?_
    refine jw_iadd (pc := 102) F d_M_give_102 ?_
    rw [nI_add]
    refine jw_iconst (pc := 103) (v := 1) F d_M_give_103 (by decide) ?_
    refine jw_zastN (pc := 104) (ws' := wM am cB cI cL go gc gb gd (upd gh (160 * r + k) (vp_nar .boolean 1)) gr gt gk gn 0 op sz) F 6 0 rfl rfl (160 * r + k) rfl (by omega) (by decide) d_M_give_104 rfl ?_
    rw [show vp_nar .boolean 1 = 1 by decide]
    exact jw_vret F d_M_give_105 ⟨_, _, _, _, _, _, _, rfl, hI2, mx_take hn hk hA, hV⟩
set_option maxHeartbeats 4000000 in
set_option maxRecDepth 100000 in
theorem m_tell_1 (l : Launch) (D : va_G) (am : Nat → Nat) (cB cI cL : ClassId) (go gc gb gd gh gr gt gk : Nat → Int32) (gn : Nat → Int64) (er op sz : Int32) (a : AS) (hQ : mx_R a go gc gb gd gh gn op) (r : Int32) (hr : a_isrep r = false) (tt : Int32) : jw_Mi l D vCl (vTy cB cI cL) y_M_tell s_M_tell rm_M_tell [.ref (am 0), .int r, .int tt] (wM am cB cI cL go gc gb gd gh gr gt gk gn er op sz) (fun r9 w9 => r9 = 0 ∧ w9 = wM am cB cI cL go gc gb gd gh gr gt gk gn 1 op sz) := by
  refine jw_ofi (cc := b_M_tell) (nL := 5) (ret := (some .int)) (by decide) rfl (Nat.le_of_ble_eq_true rfl) (fun p e s m args below meth c A F hnm => ?_)
  refine jw_at (lv' := [(0, .ref (am 0)), (1, .int r), (2, .int tt)]) (st' := []) (ws' := wM am cB cI cL go gc gb gd gh gr gt gk gn er op sz) rfl rfl rfl ?_
  refine jw_aload_n (pc := 0) F 0 d_M_tell_0 rfl rfl ?_
  refine jw_iconst (pc := 1) (v := 0) F d_M_tell_1 (by decide) ?_
  refine jw_put (pc := 2) (v := .int 0) (ty := .int) (ws' := wM am cB cI cL go gc gb gd gh gr gt gk gn 0 op sz) F (jms inM) tM tM_ok nmM 0 rfl rfl 0 (by decide) (jm w_342) rfl (by decide +kernel) rfl rfl (Nat.le_of_ble_eq_true rfl) d_M_tell_2 rfl ?_
  refine jw_aload_n (pc := 5) F 0 d_M_tell_5 rfl rfl ?_
  refine jw_iload_n (pc := 6) F 1 d_M_tell_6 rfl rfl ?_
  refine jw_callS_Ei (pc := 7) (As := [.int r]) (rest := [.ref (am 0)]) F (m_isReplica l D cB cI cL r) (jw_cwS F.1.2.2.2.2 wl_good w_387 w_388 w_30 w_389 hd_M_isReplica ⟨by decide, by decide⟩) rfl rfl (Nat.le_of_ble_eq_true rfl) d_M_tell_7 ⟨rfl, rfl⟩ ⟨by decide, by decide⟩ ?_
  refine jw_if_eq (pc := 10) F 20 d_M_tell_10 (by decide) (fun hz1 => ?_) (fun hz1 => False.elim (absurd (jb_n.mp hz1) (by rw [hr]; decide)))
  refine jw_iconst (pc := 20) (v := 1) F d_M_tell_20 (by decide) ?_
  refine jw_goto (pc := 21) F 25 d_M_tell_21 (by decide) ?_
  refine jw_iconst (pc := 25) (v := 1) F d_M_tell_25 (by decide) ?_
  refine jw_callV_Ci (pc := 26) (As := [.int 1, .int 1]) (rest := []) F (m_failsT l D am cB cI cL go gc gb gd gh gr gt gk gn op sz true rfl 1 (by decide)) (jw_cwV F.1.2.2.2.2 wl_good w_394 w_396 w_17 w_30 w_397 hd_M_fails ⟨by decide, by decide⟩) 0 1 rfl rfl rfl rfl rfl rfl (Nat.le_of_ble_eq_true rfl) d_M_tell_26 ⟨rfl, rfl⟩ ⟨by decide, by decide⟩ (fun r w hw => ?_)
  obtain ⟨rfl, rfl⟩ := hw
  refine jw_if_eq (pc := 29) F 34 d_M_tell_29 (by decide) (fun hz2 => False.elim (absurd hz2 (by decide))) (fun hz2 => ?_)
  refine jw_iconst (pc := 32) (v := 0) F d_M_tell_32 (by decide) ?_
  exact jw_iret F d_M_tell_33 ⟨rfl, rfl⟩
set_option maxHeartbeats 4000000 in
set_option maxRecDepth 100000 in
theorem m_tell_2 (l : Launch) (D : va_G) (am : Nat → Nat) (cB cI cL : ClassId) (go gc gb gd gh gr gt gk : Nat → Int32) (gn : Nat → Int64) (er op sz : Int32) (a : AS) (hQ : mx_R a go gc gb gd gh gn op) (r : Nat) (hr : r < 4) (tt : Int32) (ht : a_isrep tt = false) : jw_Mi l D vCl (vTy cB cI cL) y_M_tell s_M_tell rm_M_tell [.ref (am 0), .int (nI r), .int tt] (wM am cB cI cL go gc gb gd gh gr gt gk gn er op sz) (fun r9 w9 => r9 = 0 ∧ w9 = wM am cB cI cL go gc gb gd gh gr gt gk gn 1 op sz) := by
  refine jw_ofi (cc := b_M_tell) (nL := 5) (ret := (some .int)) (by decide) rfl (Nat.le_of_ble_eq_true rfl) (fun p e s m args below meth c A F hnm => ?_)
  refine jw_at (lv' := [(0, .ref (am 0)), (1, .int (nI r)), (2, .int tt)]) (st' := []) (ws' := wM am cB cI cL go gc gb gd gh gr gt gk gn er op sz) rfl rfl rfl ?_
  refine jw_aload_n (pc := 0) F 0 d_M_tell_0 rfl rfl ?_
  refine jw_iconst (pc := 1) (v := 0) F d_M_tell_1 (by decide) ?_
  refine jw_put (pc := 2) (v := .int 0) (ty := .int) (ws' := wM am cB cI cL go gc gb gd gh gr gt gk gn 0 op sz) F (jms inM) tM tM_ok nmM 0 rfl rfl 0 (by decide) (jm w_342) rfl (by decide +kernel) rfl rfl (Nat.le_of_ble_eq_true rfl) d_M_tell_2 rfl ?_
  refine jw_aload_n (pc := 5) F 0 d_M_tell_5 rfl rfl ?_
  refine jw_iload_n (pc := 6) F 1 d_M_tell_6 rfl rfl ?_
  refine jw_callS_Ei (pc := 7) (As := [.int (nI r)]) (rest := [.ref (am 0)]) F (m_isReplica l D cB cI cL (nI r)) (jw_cwS F.1.2.2.2.2 wl_good w_387 w_388 w_30 w_389 hd_M_isReplica ⟨by decide, by decide⟩) rfl rfl (Nat.le_of_ble_eq_true rfl) d_M_tell_7 ⟨rfl, rfl⟩ ⟨by decide, by decide⟩ ?_
  refine jw_if_eq (pc := 10) F 20 d_M_tell_10 (by decide) (fun hz1 => False.elim (absurd (jb_0.mp hz1) (by rw [m_isrep_nI hr]; decide))) (fun hz1 => ?_)
  refine jw_iload_n (pc := 13) F 2 d_M_tell_13 rfl rfl ?_
  refine jw_callS_Ei (pc := 14) (As := [.int tt]) (rest := [.ref (am 0)]) F (m_isReplica l D cB cI cL tt) (jw_cwS F.1.2.2.2.2 wl_good w_387 w_388 w_30 w_389 hd_M_isReplica ⟨by decide, by decide⟩) rfl rfl (Nat.le_of_ble_eq_true rfl) d_M_tell_14 ⟨rfl, rfl⟩ ⟨by decide, by decide⟩ ?_
  refine jw_if_ne (pc := 17) F 24 d_M_tell_17 (by decide) (fun hz2 => False.elim (absurd (jb_n.mp hz2) (by rw [ht]; decide))) (fun hz2 => ?_)
  refine jw_iconst (pc := 20) (v := 1) F d_M_tell_20 (by decide) ?_
  refine jw_goto (pc := 21) F 25 d_M_tell_21 (by decide) ?_
  refine jw_iconst (pc := 25) (v := 1) F d_M_tell_25 (by decide) ?_
  refine jw_callV_Ci (pc := 26) (As := [.int 1, .int 1]) (rest := []) F (m_failsT l D am cB cI cL go gc gb gd gh gr gt gk gn op sz true rfl 1 (by decide)) (jw_cwV F.1.2.2.2.2 wl_good w_394 w_396 w_17 w_30 w_397 hd_M_fails ⟨by decide, by decide⟩) 0 1 rfl rfl rfl rfl rfl rfl (Nat.le_of_ble_eq_true rfl) d_M_tell_26 ⟨rfl, rfl⟩ ⟨by decide, by decide⟩ (fun r w hw => ?_)
  obtain ⟨rfl, rfl⟩ := hw
  refine jw_if_eq (pc := 29) F 34 d_M_tell_29 (by decide) (fun hz3 => False.elim (absurd hz3 (by decide))) (fun hz3 => ?_)
  refine jw_iconst (pc := 32) (v := 0) F d_M_tell_32 (by decide) ?_
  exact jw_iret F d_M_tell_33 ⟨rfl, rfl⟩
set_option maxHeartbeats 4000000 in
set_option maxRecDepth 100000 in
theorem m_tell_0 (l : Launch) (D : va_G) (am : Nat → Nat) (cB cI cL : ClassId) (go gc gb gd gh gr gt gk : Nat → Int32) (gn : Nat → Int64) (er op sz : Int32) (a : AS) (hQ : mx_R a go gc gb gd gh gn op) (r s9 : Nat) (hr : r < 4) (hs9 : s9 < 4) : jw_Mi l D vCl (vTy cB cI cL) y_M_tell s_M_tell rm_M_tell [.ref (am 0), .int (nI r), .int (nI s9)] (wM am cB cI cL go gc gb gd gh gr gt gk gn er op sz) (fun r9 w9 => r9 = nI (ab_tell a r s9 (a_n a)).2 ∧ ∃ (ko kc kb kd kh : Nat → Int32) (kn : Nat → Int64) (ko2 : Int32), w9 = wM am cB cI cL ko kc kb kd kh gr gt gk kn 0 ko2 sz ∧ mx_R ((ab_tell a r s9 (a_n a)).1) ko kc kb kd kh kn ko2) := by
  refine jw_ofi (cc := b_M_tell) (nL := 5) (ret := (some .int)) (by decide) rfl (Nat.le_of_ble_eq_true rfl) (fun p e s m args below meth c A F hnm => ?_)
  refine jw_at (lv' := [(0, .ref (am 0)), (1, .int (nI r)), (2, .int (nI s9))]) (st' := []) (ws' := wM am cB cI cL go gc gb gd gh gr gt gk gn er op sz) rfl rfl rfl ?_
  obtain ⟨hI, hA, hV⟩ := hQ
  have hn := hI.1
  have hop := hA.1
  subst hop
  refine jw_aload_n (pc := 0) F 0 d_M_tell_0 rfl rfl ?_
  refine jw_iconst (pc := 1) (v := 0) F d_M_tell_1 (by decide) ?_
  refine jw_put (pc := 2) (v := .int 0) (ty := .int) (ws' := wM am cB cI cL go gc gb gd gh gr gt gk gn 0 (nI (a_n a)) sz) F (jms inM) tM tM_ok nmM 0 rfl rfl 0 (by decide) (jm w_342) rfl (by decide +kernel) rfl rfl (Nat.le_of_ble_eq_true rfl) d_M_tell_2 rfl ?_
  refine jw_aload_n (pc := 5) F 0 d_M_tell_5 rfl rfl ?_
  refine jw_iload_n (pc := 6) F 1 d_M_tell_6 rfl rfl ?_
  refine jw_callS_Ei (pc := 7) (As := [.int (nI r)]) (rest := [.ref (am 0)]) F (m_isReplica l D cB cI cL (nI r)) (jw_cwS F.1.2.2.2.2 wl_good w_387 w_388 w_30 w_389 hd_M_isReplica ⟨by decide, by decide⟩) rfl rfl (Nat.le_of_ble_eq_true rfl) d_M_tell_7 ⟨rfl, rfl⟩ ⟨by decide, by decide⟩ ?_
  refine jw_if_eq (pc := 10) F 20 d_M_tell_10 (by decide) (fun hz1 => False.elim (absurd (jb_0.mp hz1) (by rw [m_isrep_nI hr]; decide))) (fun hz1 => ?_)
  refine jw_iload_n (pc := 13) F 2 d_M_tell_13 rfl rfl ?_
  refine jw_callS_Ei (pc := 14) (As := [.int (nI s9)]) (rest := [.ref (am 0)]) F (m_isReplica l D cB cI cL (nI s9)) (jw_cwS F.1.2.2.2.2 wl_good w_387 w_388 w_30 w_389 hd_M_isReplica ⟨by decide, by decide⟩) rfl rfl (Nat.le_of_ble_eq_true rfl) d_M_tell_14 ⟨rfl, rfl⟩ ⟨by decide, by decide⟩ ?_
  refine jw_if_ne (pc := 17) F 24 d_M_tell_17 (by decide) (fun hz2 => ?_) (fun hz2 => False.elim (absurd (jb_0.mp hz2) (by rw [m_isrep_nI hs9]; decide)))
  refine jw_iconst (pc := 24) (v := 0) F d_M_tell_24 (by decide) ?_
  refine jw_iconst (pc := 25) (v := 1) F d_M_tell_25 (by decide) ?_
  refine jw_callV_Ei (pc := 26) (As := [.int 0, .int 1]) (rest := []) F ([]) ([]) (m_failsF l D am cB cI cL go gc gb gd gh gr gt gk gn (nI (a_n a)) sz false rfl 1) (jw_cwV F.1.2.2.2.2 wl_good w_394 w_396 w_17 w_30 w_397 hd_M_fails ⟨by decide, by decide⟩) 0 1 rfl rfl rfl (by simp) rfl rfl (Nat.le_of_ble_eq_true rfl) d_M_tell_26 ⟨rfl, rfl⟩ ⟨by decide, by decide⟩ ?_
  refine jw_if_eq (pc := 29) F 34 d_M_tell_29 (by decide) (fun hz3 => ?_) (fun hz3 => False.elim (hz3 rfl))
  have loop : ∀ (u i : Nat) (h : Nat → Int32), i + u = a_n a → mx_A (ab_tell a r s9 i).1 go gc gb gd h (nI (a_n a)) → jw_J p l e rm_M_tell s m args below meth c D vCl A 5 (MQ below (va_Qi (fun r9 w9 => r9 = nI (ab_tell a r s9 (a_n a)).2 ∧ ∃ (ko kc kb kd kh : Nat → Int32) (kn : Nat → Int64) (ko2 : Int32), w9 = wM am cB cI cL ko kc kb kd kh gr gt gk kn 0 ko2 sz ∧ mx_R ((ab_tell a r s9 (a_n a)).1) ko kc kb kd kh kn ko2) (jw_B D vCl (vTy cB cI cL) A) A) args s rm_M_tell.cells rm_M_tell.slots A) 0 0 39 [(0, .ref (am 0)), (1, .int (nI r)), (2, .int (nI s9)), (3, .int (nI (ab_tell a r s9 i).2)), (4, .int (nI i))] [] (wM am cB cI cL go gc gb gd h gr gt gk gn 0 (nI (a_n a)) sz) := by
    intro u
    induction u with
    | zero =>
      intro i h hi hA9
      obtain rfl : i = a_n a := hi
      refine jw_iload (pc := 39) F 4 d_M_tell_39 rfl ?_
      refine jw_aload_n (pc := 41) F 0 d_M_tell_41 rfl rfl ?_
      refine jw_get (pc := 42) F (jms inM) 0 rfl rfl 1 (by decide) (jm w_343) rfl d_M_tell_42 ?_
      refine jw_icmp_ge (pc := 45) F 94 d_M_tell_45 (by decide) (fun hz4 => ?_) (fun hz4 => False.elim (hz4 (nI_le (Nat.le_refl _) (by omega))))
      refine jw_iload_n (pc := 94) F 3 d_M_tell_94 rfl rfl ?_
      exact jw_iret F d_M_tell_95 ⟨rfl, _, _, _, _, _, _, _, rfl, ab_tell_I hI (Nat.le_refl _), hA9, ab_tell_V hV⟩
    | succ u ih =>
      intro i h hi hA9
      have hI9 : ab_I (ab_tell a r s9 i).1 := ab_tell_I hI (by omega)
      have hn9 := (ab_tell_n (a := a) (r := r) (s := s9) (i := i)).1
      refine jw_iload (pc := 39) F 4 d_M_tell_39 rfl ?_
      refine jw_aload_n (pc := 41) F 0 d_M_tell_41 rfl rfl ?_
      refine jw_get (pc := 42) F (jms inM) 0 rfl rfl 1 (by decide) (jm w_343) rfl d_M_tell_42 ?_
      refine jw_icmp_ge (pc := 45) F 94 d_M_tell_45 (by decide) (fun hz5 => False.elim (nI_ge (show i < a_n a by omega) (by omega) hz5)) (fun hz5 => ?_)
      refine jw_aload_n (pc := 48) F 0 d_M_tell_48 rfl rfl ?_
      refine jw_iload_n (pc := 49) F 2 d_M_tell_49 rfl rfl ?_
      refine jw_iload (pc := 50) F 4 d_M_tell_50 rfl ?_
      refine jw_callV_Ei (pc := 52) (As := [.int (nI s9), .int (nI i)]) (rest := []) F ([]) ([]) (m_has l D am cB cI cL go gc gb gd h gr gt gk gn 0 (nI (a_n a)) sz (ab_tell a r s9 i).1 hI9 hA9 s9 i hs9 (by omega)) (jw_cwV F.1.2.2.2.2 wl_good w_406 w_408 w_20 w_30 w_409 hd_M_has ⟨by decide, by decide⟩) 0 1 rfl rfl rfl (by simp) rfl rfl (Nat.le_of_ble_eq_true rfl) d_M_tell_52 ⟨rfl, rfl⟩ ⟨by decide, by decide⟩ ?_
      refine jw_if_eq (pc := 55) F 88 d_M_tell_55 (by decide) (fun h1 => ?_) (fun h1 => ?_)
      · refine jw_iinc (pc := 88) (v := nI (i + 1)) (lv' := [(0, .ref (am 0)), (1, .int (nI r)), (2, .int (nI s9)), (3, .int (nI (ab_tell a r s9 i).2)), (4, .int (nI (i + 1)))]) F 4 d_M_tell_88 rfl (jw_inc _) (by decide) rfl ?_
        refine jw_goto (pc := 91) F 39 d_M_tell_91 (by decide) ?_
        have hc : ¬ (a_hd (ab_tell a r s9 i).1 s9 i && !a_hd (ab_tell a r s9 i).1 r i) = true := by rw [jb_0.mp h1]; simp
        have he : ab_tell a r s9 (i + 1) = ab_tell a r s9 i := by show (if _ then _ else _) = _; rw [if_neg hc]
        have q := ih (i + 1) h (by omega) (by rw [he]; exact hA9)
        rw [he] at q
        exact q
      · refine jw_aload_n (pc := 58) F 0 d_M_tell_58 rfl rfl ?_
        refine jw_iload_n (pc := 59) F 1 d_M_tell_59 rfl rfl ?_
        refine jw_iload (pc := 60) F 4 d_M_tell_60 rfl ?_
        refine jw_callV_Ei (pc := 62) (As := [.int (nI r), .int (nI i)]) (rest := []) F ([]) ([]) (m_has l D am cB cI cL go gc gb gd h gr gt gk gn 0 (nI (a_n a)) sz (ab_tell a r s9 i).1 hI9 hA9 r i hr (by omega)) (jw_cwV F.1.2.2.2.2 wl_good w_406 w_408 w_20 w_30 w_409 hd_M_has ⟨by decide, by decide⟩) 0 1 rfl rfl rfl (by simp) rfl rfl (Nat.le_of_ble_eq_true rfl) d_M_tell_62 ⟨rfl, rfl⟩ ⟨by decide, by decide⟩ ?_
        refine jw_if_eq (pc := 65) F 71 d_M_tell_65 (by decide) (fun h2 => ?_) (fun h2 => ?_)
        · refine jw_aload_n (pc := 71) F 0 d_M_tell_71 rfl rfl ?_
          refine jw_get (pc := 72) F (jms inM) 0 rfl rfl 7 (by decide) (jm w_349) rfl d_M_tell_72 ?_
          refine jw_sipush (pc := 75) (v := nI 160) F d_M_tell_75 (by decide) ?_
          refine jw_iload_n (pc := 78) F 1 d_M_tell_78 rfl rfl ?_
          refine jw_imul (pc := 79) F d_M_tell_79 ?_
          rw [pk_mul]
          refine jw_iload (pc := 80) F 4 d_M_tell_80 rfl ?_
          refine jw_iadd (pc := 82) F d_M_tell_82 ?_
          rw [nI_add]
          refine jw_iconst (pc := 83) (v := 1) F d_M_tell_83 (by decide) ?_
          refine jw_zastN (pc := 84) (ws' := wM am cB cI cL go gc gb gd (upd h (160 * r + i) (vp_nar .boolean 1)) gr gt gk gn 0 (nI (a_n a)) sz) F 6 0 rfl rfl (160 * r + i) rfl (by omega) (by decide) d_M_tell_84 rfl ?_
          rw [show vp_nar .boolean 1 = 1 by decide]
          refine jw_iinc (pc := 85) (v := nI ((ab_tell a r s9 i).2 + 1)) (lv' := [(0, .ref (am 0)), (1, .int (nI r)), (2, .int (nI s9)), (3, .int (nI ((ab_tell a r s9 i).2 + 1))), (4, .int (nI i))]) F 3 d_M_tell_85 rfl (jw_inc _) (by decide) rfl ?_
          refine jw_iinc (pc := 88) (v := nI (i + 1)) (lv' := [(0, .ref (am 0)), (1, .int (nI r)), (2, .int (nI s9)), (3, .int (nI ((ab_tell a r s9 i).2 + 1))), (4, .int (nI (i + 1)))]) F 4 d_M_tell_88 rfl (jw_inc _) (by decide) rfl ?_
          refine jw_goto (pc := 91) F 39 d_M_tell_91 (by decide) ?_
          have he : ab_tell a r s9 (i + 1) = (ab_take (ab_tell a r s9 i).1 r i, (ab_tell a r s9 i).2 + 1) := by show (if _ then _ else _) = _; rw [if_pos (by rw [jb_n.mp h1, jb_0.mp h2]; rfl)]
          have q := ih (i + 1) (upd h (160 * r + i) 1) (by omega) (by rw [he]; exact mx_take (by omega) (by omega) hA9)
          rw [he] at q
          exact q
        · refine jw_goto (pc := 68) F 88 d_M_tell_68 (by decide) ?_
          refine jw_iinc (pc := 88) (v := nI (i + 1)) (lv' := [(0, .ref (am 0)), (1, .int (nI r)), (2, .int (nI s9)), (3, .int (nI (ab_tell a r s9 i).2)), (4, .int (nI (i + 1)))]) F 4 d_M_tell_88 rfl (jw_inc _) (by decide) rfl ?_
          refine jw_goto (pc := 91) F 39 d_M_tell_91 (by decide) ?_
          have hc : ¬ (a_hd (ab_tell a r s9 i).1 s9 i && !a_hd (ab_tell a r s9 i).1 r i) = true := by rw [jb_n.mp h2]; simp
          have he : ab_tell a r s9 (i + 1) = ab_tell a r s9 i := by show (if _ then _ else _) = _; rw [if_neg hc]
          have q := ih (i + 1) h (by omega) (by rw [he]; exact hA9)
          rw [he] at q
          exact q
  refine jw_iconst (pc := 34) (v := nI 0) F d_M_tell_34 (by decide) ?_
  refine jw_istore_n (pc := 35) (lv' := [(0, .ref (am 0)), (1, .int (nI r)), (2, .int (nI s9)), (3, .int (nI 0))]) F d_M_tell_35 rfl (by decide) rfl ?_
  refine jw_iconst (pc := 36) (v := nI 0) F d_M_tell_36 (by decide) ?_
  refine jw_istore (pc := 37) (lv' := [(0, .ref (am 0)), (1, .int (nI r)), (2, .int (nI s9)), (3, .int (nI 0)), (4, .int (nI 0))]) F d_M_tell_37 (by decide) rfl ?_
  exact loop (a_n a) 0 gh (by omega) hA
set_option maxHeartbeats 4000000 in
set_option maxRecDepth 100000 in
theorem m_holds_1 (l : Launch) (D : va_G) (am : Nat → Nat) (cB cI cL : ClassId) (go gc gb gd gh gr gt gk : Nat → Int32) (gn : Nat → Int64) (er op sz : Int32) (a : AS) (hQ : mx_R a go gc gb gd gh gn op) (r : Int32) (hr : a_isrep r = false) (tt : Int32) : jw_Mi l D vCl (vTy cB cI cL) y_M_holds s_M_holds rm_M_holds [.ref (am 0), .int r, .int tt] (wM am cB cI cL go gc gb gd gh gr gt gk gn er op sz) (fun r9 w9 => r9 = 0 ∧ w9 = wM am cB cI cL go gc gb gd gh gr gt gk gn 1 op sz) := by
  refine jw_ofi (cc := b_M_holds) (nL := 3) (ret := (some .boolean)) (by decide) rfl (Nat.le_of_ble_eq_true rfl) (fun p e s m args below meth c A F hnm => ?_)
  refine jw_at (lv' := [(0, .ref (am 0)), (1, .int r), (2, .int tt)]) (st' := []) (ws' := wM am cB cI cL go gc gb gd gh gr gt gk gn er op sz) rfl rfl rfl ?_
  refine jw_aload_n (pc := 0) F 0 d_M_holds_0 rfl rfl ?_
  refine jw_iconst (pc := 1) (v := 0) F d_M_holds_1 (by decide) ?_
  refine jw_put (pc := 2) (v := .int 0) (ty := .int) (ws' := wM am cB cI cL go gc gb gd gh gr gt gk gn 0 op sz) F (jms inM) tM tM_ok nmM 0 rfl rfl 0 (by decide) (jm w_342) rfl (by decide +kernel) rfl rfl (Nat.le_of_ble_eq_true rfl) d_M_holds_2 rfl ?_
  refine jw_aload_n (pc := 5) F 0 d_M_holds_5 rfl rfl ?_
  refine jw_iload_n (pc := 6) F 1 d_M_holds_6 rfl rfl ?_
  refine jw_callS_Ei (pc := 7) (As := [.int r]) (rest := [.ref (am 0)]) F (m_isReplica l D cB cI cL r) (jw_cwS F.1.2.2.2.2 wl_good w_387 w_388 w_30 w_389 hd_M_isReplica ⟨by decide, by decide⟩) rfl rfl (Nat.le_of_ble_eq_true rfl) d_M_holds_7 ⟨rfl, rfl⟩ ⟨by decide, by decide⟩ ?_
  refine jw_if_ne (pc := 10) F 17 d_M_holds_10 (by decide) (fun hz1 => False.elim (absurd (jb_n.mp hz1) (by rw [hr]; decide))) (fun hz1 => ?_)
  refine jw_iconst (pc := 13) (v := 1) F d_M_holds_13 (by decide) ?_
  refine jw_goto (pc := 14) F 18 d_M_holds_14 (by decide) ?_
  refine jw_iconst (pc := 18) (v := 1) F d_M_holds_18 (by decide) ?_
  refine jw_callV_Ci (pc := 19) (As := [.int 1, .int 1]) (rest := []) F (m_failsT l D am cB cI cL go gc gb gd gh gr gt gk gn op sz true rfl 1 (by decide)) (jw_cwV F.1.2.2.2.2 wl_good w_394 w_396 w_17 w_30 w_397 hd_M_fails ⟨by decide, by decide⟩) 0 1 rfl rfl rfl rfl rfl rfl (Nat.le_of_ble_eq_true rfl) d_M_holds_19 ⟨rfl, rfl⟩ ⟨by decide, by decide⟩ (fun r w hw => ?_)
  obtain ⟨rfl, rfl⟩ := hw
  refine jw_if_ne (pc := 22) F 59 d_M_holds_22 (by decide) (fun hz2 => ?_) (fun hz2 => False.elim (absurd hz2 (by decide)))
  refine jw_iconst (pc := 59) (v := 0) F d_M_holds_59 (by decide) ?_
  exact jw_zret F d_M_holds_60 (by decide) ⟨rfl, rfl⟩
set_option maxHeartbeats 4000000 in
set_option maxRecDepth 100000 in
theorem m_holds_2 (l : Launch) (D : va_G) (am : Nat → Nat) (cB cI cL : ClassId) (go gc gb gd gh gr gt gk : Nat → Int32) (gn : Nat → Int64) (er op sz : Int32) (a : AS) (hQ : mx_R a go gc gb gd gh gn op) (r : Nat) (hr : r < 4) (tt : Int32) (ht : a_isop (a_n a) tt = false) : jw_Mi l D vCl (vTy cB cI cL) y_M_holds s_M_holds rm_M_holds [.ref (am 0), .int (nI r), .int tt] (wM am cB cI cL go gc gb gd gh gr gt gk gn er op sz) (fun r9 w9 => r9 = 0 ∧ w9 = wM am cB cI cL go gc gb gd gh gr gt gk gn 2 op sz) := by
  refine jw_ofi (cc := b_M_holds) (nL := 3) (ret := (some .boolean)) (by decide) rfl (Nat.le_of_ble_eq_true rfl) (fun p e s m args below meth c A F hnm => ?_)
  refine jw_at (lv' := [(0, .ref (am 0)), (1, .int (nI r)), (2, .int tt)]) (st' := []) (ws' := wM am cB cI cL go gc gb gd gh gr gt gk gn er op sz) rfl rfl rfl ?_
  obtain ⟨hI, hA, hV⟩ := hQ
  have hn := hI.1
  refine jw_aload_n (pc := 0) F 0 d_M_holds_0 rfl rfl ?_
  refine jw_iconst (pc := 1) (v := 0) F d_M_holds_1 (by decide) ?_
  refine jw_put (pc := 2) (v := .int 0) (ty := .int) (ws' := wM am cB cI cL go gc gb gd gh gr gt gk gn 0 op sz) F (jms inM) tM tM_ok nmM 0 rfl rfl 0 (by decide) (jm w_342) rfl (by decide +kernel) rfl rfl (Nat.le_of_ble_eq_true rfl) d_M_holds_2 rfl ?_
  refine jw_aload_n (pc := 5) F 0 d_M_holds_5 rfl rfl ?_
  refine jw_iload_n (pc := 6) F 1 d_M_holds_6 rfl rfl ?_
  refine jw_callS_Ei (pc := 7) (As := [.int (nI r)]) (rest := [.ref (am 0)]) F (m_isReplica l D cB cI cL (nI r)) (jw_cwS F.1.2.2.2.2 wl_good w_387 w_388 w_30 w_389 hd_M_isReplica ⟨by decide, by decide⟩) rfl rfl (Nat.le_of_ble_eq_true rfl) d_M_holds_7 ⟨rfl, rfl⟩ ⟨by decide, by decide⟩ ?_
  refine jw_if_ne (pc := 10) F 17 d_M_holds_10 (by decide) (fun hz1 => ?_) (fun hz1 => False.elim (absurd (jb_0.mp hz1) (by rw [m_isrep_nI hr]; decide)))
  refine jw_iconst (pc := 17) (v := 0) F d_M_holds_17 (by decide) ?_
  refine jw_iconst (pc := 18) (v := 1) F d_M_holds_18 (by decide) ?_
  refine jw_callV_Ei (pc := 19) (As := [.int 0, .int 1]) (rest := []) F ([]) ([]) (m_failsF l D am cB cI cL go gc gb gd gh gr gt gk gn op sz false rfl 1) (jw_cwV F.1.2.2.2.2 wl_good w_394 w_396 w_17 w_30 w_397 hd_M_fails ⟨by decide, by decide⟩) 0 1 rfl rfl rfl (by simp) rfl rfl (Nat.le_of_ble_eq_true rfl) d_M_holds_19 ⟨rfl, rfl⟩ ⟨by decide, by decide⟩ ?_
  refine jw_if_ne (pc := 22) F 59 d_M_holds_22 (by decide) (fun hz2 => False.elim (hz2 rfl)) (fun hz2 => ?_)
  refine jw_aload_n (pc := 25) F 0 d_M_holds_25 rfl rfl ?_
  refine jw_aload_n (pc := 26) F 0 d_M_holds_26 rfl rfl ?_
  refine jw_iload_n (pc := 27) F 2 d_M_holds_27 rfl rfl ?_
  refine jw_callV_Ei (pc := 28) (As := [.int tt]) (rest := [.ref (am 0)]) F ([]) ([]) (m_isThere l D am cB cI cL go gc gb gd gh gr gt gk gn 0 op sz (a_n a) hn hA.1 tt) (jw_cwV F.1.2.2.2.2 wl_good w_402 w_404 w_19 w_30 w_405 hd_M_isThere ⟨by decide, by decide⟩) 0 1 rfl rfl rfl (by simp) rfl rfl (Nat.le_of_ble_eq_true rfl) d_M_holds_28 ⟨rfl, rfl⟩ ⟨by decide, by decide⟩ ?_
  refine jw_if_ne (pc := 31) F 38 d_M_holds_31 (by decide) (fun hz3 => False.elim (absurd (jb_n.mp hz3) (by rw [ht]; decide))) (fun hz3 => ?_)
  refine jw_iconst (pc := 34) (v := 1) F d_M_holds_34 (by decide) ?_
  refine jw_goto (pc := 35) F 39 d_M_holds_35 (by decide) ?_
  refine jw_iconst (pc := 39) (v := 2) F d_M_holds_39 (by decide) ?_
  refine jw_callV_Ci (pc := 40) (As := [.int 1, .int 2]) (rest := []) F (m_failsT l D am cB cI cL go gc gb gd gh gr gt gk gn op sz true rfl 2 (by decide)) (jw_cwV F.1.2.2.2.2 wl_good w_394 w_396 w_17 w_30 w_397 hd_M_fails ⟨by decide, by decide⟩) 0 1 rfl rfl rfl rfl rfl rfl (Nat.le_of_ble_eq_true rfl) d_M_holds_40 ⟨rfl, rfl⟩ ⟨by decide, by decide⟩ (fun r w hw => ?_)
  obtain ⟨rfl, rfl⟩ := hw
  refine jw_if_ne (pc := 43) F 59 d_M_holds_43 (by decide) (fun hz4 => ?_) (fun hz4 => False.elim (absurd hz4 (by decide)))
  refine jw_iconst (pc := 59) (v := 0) F d_M_holds_59 (by decide) ?_
  exact jw_zret F d_M_holds_60 (by decide) ⟨rfl, rfl⟩
set_option maxHeartbeats 4000000 in
set_option maxRecDepth 100000 in
theorem m_holds_0 (l : Launch) (D : va_G) (am : Nat → Nat) (cB cI cL : ClassId) (go gc gb gd gh gr gt gk : Nat → Int32) (gn : Nat → Int64) (er op sz : Int32) (a : AS) (hQ : mx_R a go gc gb gd gh gn op) (r : Nat) (hr : r < 4) (k : Nat) (hk : k < a_n a) : jw_Mi l D vCl (vTy cB cI cL) y_M_holds s_M_holds rm_M_holds [.ref (am 0), .int (nI r), .int (nI k)] (wM am cB cI cL go gc gb gd gh gr gt gk gn er op sz) (fun r9 w9 => r9 = jb (a_hd a r k) ∧ w9 = wM am cB cI cL go gc gb gd gh gr gt gk gn 0 op sz) := by
  refine jw_ofi (cc := b_M_holds) (nL := 3) (ret := (some .boolean)) (by decide) rfl (Nat.le_of_ble_eq_true rfl) (fun p e s m args below meth c A F hnm => ?_)
  refine jw_at (lv' := [(0, .ref (am 0)), (1, .int (nI r)), (2, .int (nI k))]) (st' := []) (ws' := wM am cB cI cL go gc gb gd gh gr gt gk gn er op sz) rfl rfl rfl ?_
  obtain ⟨hI, hA, hV⟩ := hQ
  have hn := hI.1
  refine jw_aload_n (pc := 0) F 0 d_M_holds_0 rfl rfl ?_
  refine jw_iconst (pc := 1) (v := 0) F d_M_holds_1 (by decide) ?_
  refine jw_put (pc := 2) (v := .int 0) (ty := .int) (ws' := wM am cB cI cL go gc gb gd gh gr gt gk gn 0 op sz) F (jms inM) tM tM_ok nmM 0 rfl rfl 0 (by decide) (jm w_342) rfl (by decide +kernel) rfl rfl (Nat.le_of_ble_eq_true rfl) d_M_holds_2 rfl ?_
  refine jw_aload_n (pc := 5) F 0 d_M_holds_5 rfl rfl ?_
  refine jw_iload_n (pc := 6) F 1 d_M_holds_6 rfl rfl ?_
  refine jw_callS_Ei (pc := 7) (As := [.int (nI r)]) (rest := [.ref (am 0)]) F (m_isReplica l D cB cI cL (nI r)) (jw_cwS F.1.2.2.2.2 wl_good w_387 w_388 w_30 w_389 hd_M_isReplica ⟨by decide, by decide⟩) rfl rfl (Nat.le_of_ble_eq_true rfl) d_M_holds_7 ⟨rfl, rfl⟩ ⟨by decide, by decide⟩ ?_
  refine jw_if_ne (pc := 10) F 17 d_M_holds_10 (by decide) (fun hz1 => ?_) (fun hz1 => False.elim (absurd (jb_0.mp hz1) (by rw [m_isrep_nI hr]; decide)))
  refine jw_iconst (pc := 17) (v := 0) F d_M_holds_17 (by decide) ?_
  refine jw_iconst (pc := 18) (v := 1) F d_M_holds_18 (by decide) ?_
  refine jw_callV_Ei (pc := 19) (As := [.int 0, .int 1]) (rest := []) F ([]) ([]) (m_failsF l D am cB cI cL go gc gb gd gh gr gt gk gn op sz false rfl 1) (jw_cwV F.1.2.2.2.2 wl_good w_394 w_396 w_17 w_30 w_397 hd_M_fails ⟨by decide, by decide⟩) 0 1 rfl rfl rfl (by simp) rfl rfl (Nat.le_of_ble_eq_true rfl) d_M_holds_19 ⟨rfl, rfl⟩ ⟨by decide, by decide⟩ ?_
  refine jw_if_ne (pc := 22) F 59 d_M_holds_22 (by decide) (fun hz2 => False.elim (hz2 rfl)) (fun hz2 => ?_)
  refine jw_aload_n (pc := 25) F 0 d_M_holds_25 rfl rfl ?_
  refine jw_aload_n (pc := 26) F 0 d_M_holds_26 rfl rfl ?_
  refine jw_iload_n (pc := 27) F 2 d_M_holds_27 rfl rfl ?_
  refine jw_callV_Ei (pc := 28) (As := [.int (nI k)]) (rest := [.ref (am 0)]) F ([]) ([]) (m_isThere l D am cB cI cL go gc gb gd gh gr gt gk gn 0 op sz (a_n a) hn hA.1 (nI k)) (jw_cwV F.1.2.2.2.2 wl_good w_402 w_404 w_19 w_30 w_405 hd_M_isThere ⟨by decide, by decide⟩) 0 1 rfl rfl rfl (by simp) rfl rfl (Nat.le_of_ble_eq_true rfl) d_M_holds_28 ⟨rfl, rfl⟩ ⟨by decide, by decide⟩ ?_
  refine jw_if_ne (pc := 31) F 38 d_M_holds_31 (by decide) (fun hz3 => ?_) (fun hz3 => False.elim (absurd (jb_0.mp hz3) (by rw [a_isop_nI (by omega) hk]; decide)))
  refine jw_iconst (pc := 38) (v := 0) F d_M_holds_38 (by decide) ?_
  refine jw_iconst (pc := 39) (v := 2) F d_M_holds_39 (by decide) ?_
  refine jw_callV_Ei (pc := 40) (As := [.int 0, .int 2]) (rest := []) F ([]) ([]) (m_failsF l D am cB cI cL go gc gb gd gh gr gt gk gn op sz false rfl 2) (jw_cwV F.1.2.2.2.2 wl_good w_394 w_396 w_17 w_30 w_397 hd_M_fails ⟨by decide, by decide⟩) 0 1 rfl rfl rfl (by simp) rfl rfl (Nat.le_of_ble_eq_true rfl) d_M_holds_40 ⟨rfl, rfl⟩ ⟨by decide, by decide⟩ ?_
  refine jw_if_ne (pc := 43) F 59 d_M_holds_43 (by decide) (fun hz4 => False.elim (hz4 rfl)) (fun hz4 => ?_)
  refine jw_aload_n (pc := 46) F 0 d_M_holds_46 rfl rfl ?_
  refine jw_iload_n (pc := 47) F 1 d_M_holds_47 rfl rfl ?_
  refine jw_iload_n (pc := 48) F 2 d_M_holds_48 rfl rfl ?_
  refine jw_callV_Ei (pc := 49) (As := [.int (nI r), .int (nI k)]) (rest := []) F ([]) ([]) (m_has l D am cB cI cL go gc gb gd gh gr gt gk gn 0 op sz a hI hA r k hr hk) (jw_cwV F.1.2.2.2.2 wl_good w_406 w_408 w_20 w_30 w_409 hd_M_has ⟨by decide, by decide⟩) 0 1 rfl rfl rfl (by simp) rfl rfl (Nat.le_of_ble_eq_true rfl) d_M_holds_49 ⟨rfl, rfl⟩ ⟨by decide, by decide⟩ ?_
  refine jw_if_eq (pc := 52) F 59 d_M_holds_52 (by decide) (fun h1 => ?_) (fun h1 => ?_)
  · refine jw_iconst (pc := 59) (v := 0) F d_M_holds_59 (by decide) ?_
    exact jw_zret F d_M_holds_60 (by decide) ⟨by rw [jb_0.mp h1]; rfl, rfl⟩
  · refine jw_iconst (pc := 55) (v := 1) F d_M_holds_55 (by decide) ?_
    refine jw_goto (pc := 56) F 60 d_M_holds_56 (by decide) ?_
    exact jw_zret F d_M_holds_60 (by decide) ⟨by rw [jb_n.mp h1]; rfl, rfl⟩
set_option maxHeartbeats 4000000 in
set_option maxRecDepth 100000 in
theorem m_value_1 (l : Launch) (D : va_G) (am : Nat → Nat) (cB cI cL : ClassId) (go gc gb gd gh gr gt gk : Nat → Int32) (gn : Nat → Int64) (er op sz : Int32) (a : AS) (hQ : mx_R a go gc gb gd gh gn op) (tt : Int32) (ht : a_isel a tt = false) : jw_Ml l D vCl (vTy cB cI cL) y_M_value s_M_value rm_M_value [.ref (am 0), .int tt] (wM am cB cI cL go gc gb gd gh gr gt gk gn er op sz) (fun r9 w9 => r9 = 0 ∧ w9 = wM am cB cI cL go gc gb gd gh gr gt gk gn 1 op sz) := by
  refine jw_ofl (cc := b_M_value) (nL := 2) (ret := (some .long)) (by decide) rfl (Nat.le_of_ble_eq_true rfl) (fun p e s m args below meth c A F hnm => ?_)
  refine jw_at (lv' := [(0, .ref (am 0)), (1, .int tt)]) (st' := []) (ws' := wM am cB cI cL go gc gb gd gh gr gt gk gn er op sz) rfl rfl rfl ?_
  obtain ⟨hI, hA, hV⟩ := hQ
  have hn := hI.1
  refine jw_aload_n (pc := 0) F 0 d_M_value_0 rfl rfl ?_
  refine jw_iconst (pc := 1) (v := 0) F d_M_value_1 (by decide) ?_
  refine jw_put (pc := 2) (v := .int 0) (ty := .int) (ws' := wM am cB cI cL go gc gb gd gh gr gt gk gn 0 op sz) F (jms inM) tM tM_ok nmM 0 rfl rfl 0 (by decide) (jm w_342) rfl (by decide +kernel) rfl rfl (Nat.le_of_ble_eq_true rfl) d_M_value_2 rfl ?_
  refine jw_aload_n (pc := 5) F 0 d_M_value_5 rfl rfl ?_
  refine jw_aload_n (pc := 6) F 0 d_M_value_6 rfl rfl ?_
  refine jw_iload_n (pc := 7) F 1 d_M_value_7 rfl rfl ?_
  refine jw_callV_Ei (pc := 8) (As := [.int tt]) (rest := [.ref (am 0)]) F ([]) ([]) (m_isThere l D am cB cI cL go gc gb gd gh gr gt gk gn 0 op sz (a_n a) hn hA.1 tt) (jw_cwV F.1.2.2.2.2 wl_good w_402 w_404 w_19 w_30 w_405 hd_M_isThere ⟨by decide, by decide⟩) 0 1 rfl rfl rfl (by simp) rfl rfl (Nat.le_of_ble_eq_true rfl) d_M_value_8 ⟨rfl, rfl⟩ ⟨by decide, by decide⟩ ?_
  refine jw_if_eq (pc := 11) F 23 d_M_value_11 (by decide) (fun h1 => ?_) (fun h1 => ?_)
  · refine jw_iconst (pc := 23) (v := 1) F d_M_value_23 (by decide) ?_
    refine jw_goto (pc := 24) F 28 d_M_value_24 (by decide) ?_
    refine jw_iconst (pc := 28) (v := 1) F d_M_value_28 (by decide) ?_
    refine jw_callV_Ci (pc := 29) (As := [.int 1, .int 1]) (rest := []) F (m_failsT l D am cB cI cL go gc gb gd gh gr gt gk gn op sz true rfl 1 (by decide)) (jw_cwV F.1.2.2.2.2 wl_good w_394 w_396 w_17 w_30 w_397 hd_M_fails ⟨by decide, by decide⟩) 0 1 rfl rfl rfl rfl rfl rfl (Nat.le_of_ble_eq_true rfl) d_M_value_29 ⟨rfl, rfl⟩ ⟨by decide, by decide⟩ (fun r w hw => ?_)
    obtain ⟨rfl, rfl⟩ := hw
    refine jw_if_eq (pc := 32) F 39 d_M_value_32 (by decide) (fun hz1 => False.elim (absurd hz1 (by decide))) (fun hz1 => ?_)
    refine jw_lconst (pc := 35) (v := 0) F d_M_value_35 (by decide) ?_
    refine jw_goto (pc := 36) F 45 d_M_value_36 (by decide) ?_
    exact jw_lret F d_M_value_45 ⟨rfl, rfl⟩
  · obtain ⟨j, hj, rfl⟩ := a_isop_t (by omega) (jb_n.mp h1)
    have hd : a_dl a j = true := by rw [a_isel_nI hn hj] at ht; cases h9 : a_dl a j; rw [h9] at ht; cases ht; rfl
    refine jw_aload_n (pc := 14) F 0 d_M_value_14 rfl rfl ?_
    refine jw_get (pc := 15) F (jms inM) 0 rfl rfl 6 (by decide) (jm w_348) rfl d_M_value_15 ?_
    refine jw_iload_n (pc := 18) F 1 d_M_value_18 rfl rfl ?_
    refine jw_zaldN (pc := 19) F 5 0 rfl rfl j rfl (by omega) (by decide) d_M_value_19 ?_
    rw [hA.2.2.2.2.1 j hj]
    refine jw_if_eq (pc := 20) F 27 d_M_value_20 (by decide) (fun hz2 => False.elim (absurd (jb_0.mp hz2) (by rw [hd]; decide))) (fun hz2 => ?_)
    refine jw_iconst (pc := 23) (v := 1) F d_M_value_23 (by decide) ?_
    refine jw_goto (pc := 24) F 28 d_M_value_24 (by decide) ?_
    refine jw_iconst (pc := 28) (v := 1) F d_M_value_28 (by decide) ?_
    refine jw_callV_Ci (pc := 29) (As := [.int 1, .int 1]) (rest := []) F (m_failsT l D am cB cI cL go gc gb gd gh gr gt gk gn op sz true rfl 1 (by decide)) (jw_cwV F.1.2.2.2.2 wl_good w_394 w_396 w_17 w_30 w_397 hd_M_fails ⟨by decide, by decide⟩) 0 1 rfl rfl rfl rfl rfl rfl (Nat.le_of_ble_eq_true rfl) d_M_value_29 ⟨rfl, rfl⟩ ⟨by decide, by decide⟩ (fun r w hw => ?_)
    obtain ⟨rfl, rfl⟩ := hw
    refine jw_if_eq (pc := 32) F 39 d_M_value_32 (by decide) (fun hz3 => False.elim (absurd hz3 (by decide))) (fun hz3 => ?_)
    refine jw_lconst (pc := 35) (v := 0) F d_M_value_35 (by decide) ?_
    refine jw_goto (pc := 36) F 45 d_M_value_36 (by decide) ?_
    exact jw_lret F d_M_value_45 ⟨rfl, rfl⟩
set_option maxHeartbeats 4000000 in
set_option maxRecDepth 100000 in
theorem m_value_0 (l : Launch) (D : va_G) (am : Nat → Nat) (cB cI cL : ClassId) (go gc gb gd gh gr gt gk : Nat → Int32) (gn : Nat → Int64) (er op sz : Int32) (a : AS) (hQ : mx_R a go gc gb gd gh gn op) (k : Nat) (hk : k < a_n a) (hd : a_dl a k = false) : jw_Ml l D vCl (vTy cB cI cL) y_M_value s_M_value rm_M_value [.ref (am 0), .int (nI k)] (wM am cB cI cL go gc gb gd gh gr gt gk gn er op sz) (fun r9 w9 => r9 = a_vl a k ∧ w9 = wM am cB cI cL go gc gb gd gh gr gt gk gn 0 op sz) := by
  refine jw_ofl (cc := b_M_value) (nL := 2) (ret := (some .long)) (by decide) rfl (Nat.le_of_ble_eq_true rfl) (fun p e s m args below meth c A F hnm => ?_)
  refine jw_at (lv' := [(0, .ref (am 0)), (1, .int (nI k))]) (st' := []) (ws' := wM am cB cI cL go gc gb gd gh gr gt gk gn er op sz) rfl rfl rfl ?_
  obtain ⟨hI, hA, hV⟩ := hQ
  have hn := hI.1
  refine jw_aload_n (pc := 0) F 0 d_M_value_0 rfl rfl ?_
  refine jw_iconst (pc := 1) (v := 0) F d_M_value_1 (by decide) ?_
  refine jw_put (pc := 2) (v := .int 0) (ty := .int) (ws' := wM am cB cI cL go gc gb gd gh gr gt gk gn 0 op sz) F (jms inM) tM tM_ok nmM 0 rfl rfl 0 (by decide) (jm w_342) rfl (by decide +kernel) rfl rfl (Nat.le_of_ble_eq_true rfl) d_M_value_2 rfl ?_
  refine jw_aload_n (pc := 5) F 0 d_M_value_5 rfl rfl ?_
  refine jw_aload_n (pc := 6) F 0 d_M_value_6 rfl rfl ?_
  refine jw_iload_n (pc := 7) F 1 d_M_value_7 rfl rfl ?_
  refine jw_callV_Ei (pc := 8) (As := [.int (nI k)]) (rest := [.ref (am 0)]) F ([]) ([]) (m_isThere l D am cB cI cL go gc gb gd gh gr gt gk gn 0 op sz (a_n a) hn hA.1 (nI k)) (jw_cwV F.1.2.2.2.2 wl_good w_402 w_404 w_19 w_30 w_405 hd_M_isThere ⟨by decide, by decide⟩) 0 1 rfl rfl rfl (by simp) rfl rfl (Nat.le_of_ble_eq_true rfl) d_M_value_8 ⟨rfl, rfl⟩ ⟨by decide, by decide⟩ ?_
  refine jw_if_eq (pc := 11) F 23 d_M_value_11 (by decide) (fun hz1 => False.elim (absurd (jb_0.mp hz1) (by rw [a_isop_nI (by omega) hk]; decide))) (fun hz1 => ?_)
  refine jw_aload_n (pc := 14) F 0 d_M_value_14 rfl rfl ?_
  refine jw_get (pc := 15) F (jms inM) 0 rfl rfl 6 (by decide) (jm w_348) rfl d_M_value_15 ?_
  refine jw_iload_n (pc := 18) F 1 d_M_value_18 rfl rfl ?_
  refine jw_zaldN (pc := 19) F 5 0 rfl rfl k rfl (by omega) (by decide) d_M_value_19 ?_
  rw [hA.2.2.2.2.1 k hk]
  refine jw_if_eq (pc := 20) F 27 d_M_value_20 (by decide) (fun hz2 => ?_) (fun hz2 => False.elim (absurd (jb_n.mp hz2) (by rw [hd]; decide)))
  refine jw_iconst (pc := 27) (v := 0) F d_M_value_27 (by decide) ?_
  refine jw_iconst (pc := 28) (v := 1) F d_M_value_28 (by decide) ?_
  refine jw_callV_Ei (pc := 29) (As := [.int 0, .int 1]) (rest := []) F ([]) ([]) (m_failsF l D am cB cI cL go gc gb gd gh gr gt gk gn op sz false rfl 1) (jw_cwV F.1.2.2.2.2 wl_good w_394 w_396 w_17 w_30 w_397 hd_M_fails ⟨by decide, by decide⟩) 0 1 rfl rfl rfl (by simp) rfl rfl (Nat.le_of_ble_eq_true rfl) d_M_value_29 ⟨rfl, rfl⟩ ⟨by decide, by decide⟩ ?_
  refine jw_if_eq (pc := 32) F 39 d_M_value_32 (by decide) (fun hz3 => ?_) (fun hz3 => False.elim (hz3 rfl))
  refine jw_aload_n (pc := 39) F 0 d_M_value_39 rfl rfl ?_
  refine jw_get (pc := 40) F (jms inM) 0 rfl rfl 5 (by decide) (jm w_347) rfl d_M_value_40 ?_
  refine jw_iload_n (pc := 43) F 1 d_M_value_43 rfl rfl ?_
  refine jw_laldN (pc := 44) F 4 2 rfl rfl k rfl (by omega) (by decide) d_M_value_44 ?_
  exact jw_lret F d_M_value_45 ⟨hV k hk hd, rfl⟩
set_option maxHeartbeats 4000000 in
set_option maxRecDepth 100000 in
theorem m_stamp_1 (l : Launch) (D : va_G) (am : Nat → Nat) (cB cI cL : ClassId) (go gc gb gd gh gr gt gk : Nat → Int32) (gn : Nat → Int64) (er op sz : Int32) (a : AS) (hQ : mx_R a go gc gb gd gh gn op) (tt : Int32) (ht : a_isop (a_n a) tt = false) : jw_Mi l D vCl (vTy cB cI cL) y_M_stamp s_M_stamp rm_M_stamp [.ref (am 0), .int tt] (wM am cB cI cL go gc gb gd gh gr gt gk gn er op sz) (fun r9 w9 => r9 = 0 ∧ w9 = wM am cB cI cL go gc gb gd gh gr gt gk gn 1 op sz) := by
  refine jw_ofi (cc := b_M_stamp) (nL := 2) (ret := (some .int)) (by decide) rfl (Nat.le_of_ble_eq_true rfl) (fun p e s m args below meth c A F hnm => ?_)
  refine jw_at (lv' := [(0, .ref (am 0)), (1, .int tt)]) (st' := []) (ws' := wM am cB cI cL go gc gb gd gh gr gt gk gn er op sz) rfl rfl rfl ?_
  obtain ⟨hI, hA, hV⟩ := hQ
  have hn := hI.1
  refine jw_aload_n (pc := 0) F 0 d_M_stamp_0 rfl rfl ?_
  refine jw_iconst (pc := 1) (v := 0) F d_M_stamp_1 (by decide) ?_
  refine jw_put (pc := 2) (v := .int 0) (ty := .int) (ws' := wM am cB cI cL go gc gb gd gh gr gt gk gn 0 op sz) F (jms inM) tM tM_ok nmM 0 rfl rfl 0 (by decide) (jm w_342) rfl (by decide +kernel) rfl rfl (Nat.le_of_ble_eq_true rfl) d_M_stamp_2 rfl ?_
  refine jw_aload_n (pc := 5) F 0 d_M_stamp_5 rfl rfl ?_
  refine jw_aload_n (pc := 6) F 0 d_M_stamp_6 rfl rfl ?_
  refine jw_iload_n (pc := 7) F 1 d_M_stamp_7 rfl rfl ?_
  refine jw_callV_Ei (pc := 8) (As := [.int tt]) (rest := [.ref (am 0)]) F ([]) ([]) (m_isThere l D am cB cI cL go gc gb gd gh gr gt gk gn 0 op sz (a_n a) hn hA.1 tt) (jw_cwV F.1.2.2.2.2 wl_good w_402 w_404 w_19 w_30 w_405 hd_M_isThere ⟨by decide, by decide⟩) 0 1 rfl rfl rfl (by simp) rfl rfl (Nat.le_of_ble_eq_true rfl) d_M_stamp_8 ⟨rfl, rfl⟩ ⟨by decide, by decide⟩ ?_
  refine jw_if_ne (pc := 11) F 18 d_M_stamp_11 (by decide) (fun hz1 => False.elim (absurd (jb_n.mp hz1) (by rw [ht]; decide))) (fun hz1 => ?_)
  refine jw_iconst (pc := 14) (v := 1) F d_M_stamp_14 (by decide) ?_
  refine jw_goto (pc := 15) F 19 d_M_stamp_15 (by decide) ?_
  refine jw_iconst (pc := 19) (v := 1) F d_M_stamp_19 (by decide) ?_
  refine jw_callV_Ci (pc := 20) (As := [.int 1, .int 1]) (rest := []) F (m_failsT l D am cB cI cL go gc gb gd gh gr gt gk gn op sz true rfl 1 (by decide)) (jw_cwV F.1.2.2.2.2 wl_good w_394 w_396 w_17 w_30 w_397 hd_M_fails ⟨by decide, by decide⟩) 0 1 rfl rfl rfl rfl rfl rfl (Nat.le_of_ble_eq_true rfl) d_M_stamp_20 ⟨rfl, rfl⟩ ⟨by decide, by decide⟩ (fun r w hw => ?_)
  obtain ⟨rfl, rfl⟩ := hw
  refine jw_if_eq (pc := 23) F 30 d_M_stamp_23 (by decide) (fun hz2 => False.elim (absurd hz2 (by decide))) (fun hz2 => ?_)
  refine jw_iconst (pc := 26) (v := 0) F d_M_stamp_26 (by decide) ?_
  refine jw_goto (pc := 27) F 36 d_M_stamp_27 (by decide) ?_
  exact jw_iret F d_M_stamp_36 ⟨rfl, rfl⟩
set_option maxHeartbeats 4000000 in
set_option maxRecDepth 100000 in
theorem m_stamp_0 (l : Launch) (D : va_G) (am : Nat → Nat) (cB cI cL : ClassId) (go gc gb gd gh gr gt gk : Nat → Int32) (gn : Nat → Int64) (er op sz : Int32) (a : AS) (hQ : mx_R a go gc gb gd gh gn op) (k : Nat) (hk : k < a_n a) : jw_Mi l D vCl (vTy cB cI cL) y_M_stamp s_M_stamp rm_M_stamp [.ref (am 0), .int (nI k)] (wM am cB cI cL go gc gb gd gh gr gt gk gn er op sz) (fun r9 w9 => r9 = nI (a_ct a k) ∧ w9 = wM am cB cI cL go gc gb gd gh gr gt gk gn 0 op sz) := by
  refine jw_ofi (cc := b_M_stamp) (nL := 2) (ret := (some .int)) (by decide) rfl (Nat.le_of_ble_eq_true rfl) (fun p e s m args below meth c A F hnm => ?_)
  refine jw_at (lv' := [(0, .ref (am 0)), (1, .int (nI k))]) (st' := []) (ws' := wM am cB cI cL go gc gb gd gh gr gt gk gn er op sz) rfl rfl rfl ?_
  obtain ⟨hI, hA, hV⟩ := hQ
  have hn := hI.1
  refine jw_aload_n (pc := 0) F 0 d_M_stamp_0 rfl rfl ?_
  refine jw_iconst (pc := 1) (v := 0) F d_M_stamp_1 (by decide) ?_
  refine jw_put (pc := 2) (v := .int 0) (ty := .int) (ws' := wM am cB cI cL go gc gb gd gh gr gt gk gn 0 op sz) F (jms inM) tM tM_ok nmM 0 rfl rfl 0 (by decide) (jm w_342) rfl (by decide +kernel) rfl rfl (Nat.le_of_ble_eq_true rfl) d_M_stamp_2 rfl ?_
  refine jw_aload_n (pc := 5) F 0 d_M_stamp_5 rfl rfl ?_
  refine jw_aload_n (pc := 6) F 0 d_M_stamp_6 rfl rfl ?_
  refine jw_iload_n (pc := 7) F 1 d_M_stamp_7 rfl rfl ?_
  refine jw_callV_Ei (pc := 8) (As := [.int (nI k)]) (rest := [.ref (am 0)]) F ([]) ([]) (m_isThere l D am cB cI cL go gc gb gd gh gr gt gk gn 0 op sz (a_n a) hn hA.1 (nI k)) (jw_cwV F.1.2.2.2.2 wl_good w_402 w_404 w_19 w_30 w_405 hd_M_isThere ⟨by decide, by decide⟩) 0 1 rfl rfl rfl (by simp) rfl rfl (Nat.le_of_ble_eq_true rfl) d_M_stamp_8 ⟨rfl, rfl⟩ ⟨by decide, by decide⟩ ?_
  refine jw_if_ne (pc := 11) F 18 d_M_stamp_11 (by decide) (fun hz1 => ?_) (fun hz1 => False.elim (absurd (jb_0.mp hz1) (by rw [a_isop_nI (by omega) hk]; decide)))
  refine jw_iconst (pc := 18) (v := 0) F d_M_stamp_18 (by decide) ?_
  refine jw_iconst (pc := 19) (v := 1) F d_M_stamp_19 (by decide) ?_
  refine jw_callV_Ei (pc := 20) (As := [.int 0, .int 1]) (rest := []) F ([]) ([]) (m_failsF l D am cB cI cL go gc gb gd gh gr gt gk gn op sz false rfl 1) (jw_cwV F.1.2.2.2.2 wl_good w_394 w_396 w_17 w_30 w_397 hd_M_fails ⟨by decide, by decide⟩) 0 1 rfl rfl rfl (by simp) rfl rfl (Nat.le_of_ble_eq_true rfl) d_M_stamp_20 ⟨rfl, rfl⟩ ⟨by decide, by decide⟩ ?_
  refine jw_if_eq (pc := 23) F 30 d_M_stamp_23 (by decide) (fun hz2 => ?_) (fun hz2 => False.elim (hz2 rfl))
  refine jw_aload_n (pc := 30) F 0 d_M_stamp_30 rfl rfl ?_
  refine jw_get (pc := 31) F (jms inM) 0 rfl rfl 3 (by decide) (jm w_345) rfl d_M_stamp_31 ?_
  refine jw_iload_n (pc := 34) F 1 d_M_stamp_34 rfl rfl ?_
  refine jw_ialdN (pc := 35) F 2 1 rfl rfl k rfl (by omega) (by decide) d_M_stamp_35 ?_
  exact jw_iret F d_M_stamp_36 ⟨hA.2.2.1 k hk, rfl⟩
set_option maxHeartbeats 4000000 in
set_option maxRecDepth 100000 in
theorem m_count_1 (l : Launch) (D : va_G) (am : Nat → Nat) (cB cI cL : ClassId) (go gc gb gd gh gr gt gk : Nat → Int32) (gn : Nat → Int64) (er op sz : Int32) (a : AS) (hQ : mx_R a go gc gb gd gh gn op) (r : Int32) (hr : a_isrep r = false) (tt : Int32) : jw_Mi l D vCl (vTy cB cI cL) y_M_count s_M_count rm_M_count [.ref (am 0), .int r, .int tt] (wM am cB cI cL go gc gb gd gh gr gt gk gn er op sz) (fun r9 w9 => r9 = 0 ∧ w9 = wM am cB cI cL go gc gb gd gh gr gt gk gn 1 op sz) := by
  refine jw_ofi (cc := b_M_count) (nL := 5) (ret := (some .int)) (by decide) rfl (Nat.le_of_ble_eq_true rfl) (fun p e s m args below meth c A F hnm => ?_)
  refine jw_at (lv' := [(0, .ref (am 0)), (1, .int r), (2, .int tt)]) (st' := []) (ws' := wM am cB cI cL go gc gb gd gh gr gt gk gn er op sz) rfl rfl rfl ?_
  refine jw_aload_n (pc := 0) F 0 d_M_count_0 rfl rfl ?_
  refine jw_iconst (pc := 1) (v := 0) F d_M_count_1 (by decide) ?_
  refine jw_put (pc := 2) (v := .int 0) (ty := .int) (ws' := wM am cB cI cL go gc gb gd gh gr gt gk gn 0 op sz) F (jms inM) tM tM_ok nmM 0 rfl rfl 0 (by decide) (jm w_342) rfl (by decide +kernel) rfl rfl (Nat.le_of_ble_eq_true rfl) d_M_count_2 rfl ?_
  refine jw_aload_n (pc := 5) F 0 d_M_count_5 rfl rfl ?_
  refine jw_iload_n (pc := 6) F 1 d_M_count_6 rfl rfl ?_
  refine jw_callS_Ei (pc := 7) (As := [.int r]) (rest := [.ref (am 0)]) F (m_isReplica l D cB cI cL r) (jw_cwS F.1.2.2.2.2 wl_good w_387 w_388 w_30 w_389 hd_M_isReplica ⟨by decide, by decide⟩) rfl rfl (Nat.le_of_ble_eq_true rfl) d_M_count_7 ⟨rfl, rfl⟩ ⟨by decide, by decide⟩ ?_
  refine jw_if_eq (pc := 10) F 25 d_M_count_10 (by decide) (fun hz1 => ?_) (fun hz1 => False.elim (absurd (jb_n.mp hz1) (by rw [hr]; decide)))
  refine jw_iconst (pc := 25) (v := 1) F d_M_count_25 (by decide) ?_
  refine jw_goto (pc := 26) F 30 d_M_count_26 (by decide) ?_
  refine jw_iconst (pc := 30) (v := 1) F d_M_count_30 (by decide) ?_
  refine jw_callV_Ci (pc := 31) (As := [.int 1, .int 1]) (rest := []) F (m_failsT l D am cB cI cL go gc gb gd gh gr gt gk gn op sz true rfl 1 (by decide)) (jw_cwV F.1.2.2.2.2 wl_good w_394 w_396 w_17 w_30 w_397 hd_M_fails ⟨by decide, by decide⟩) 0 1 rfl rfl rfl rfl rfl rfl (Nat.le_of_ble_eq_true rfl) d_M_count_31 ⟨rfl, rfl⟩ ⟨by decide, by decide⟩ (fun r w hw => ?_)
  obtain ⟨rfl, rfl⟩ := hw
  refine jw_if_eq (pc := 34) F 39 d_M_count_34 (by decide) (fun hz2 => False.elim (absurd hz2 (by decide))) (fun hz2 => ?_)
  refine jw_iconst (pc := 37) (v := 0) F d_M_count_37 (by decide) ?_
  exact jw_iret F d_M_count_38 ⟨rfl, rfl⟩
set_option maxHeartbeats 4000000 in
set_option maxRecDepth 100000 in
theorem m_count_x (l : Launch) (D : va_G) (am : Nat → Nat) (cB cI cL : ClassId) (go gc gb gd gh gr gt gk : Nat → Int32) (gn : Nat → Int64) (er op sz : Int32) (a : AS) (hQ : mx_R a go gc gb gd gh gn op) (r : Nat) (hr : r < 4) (tt : Int32) (ht : a_isrep tt = false) : jw_Mi l D vCl (vTy cB cI cL) y_M_count s_M_count rm_M_count [.ref (am 0), .int (nI r), .int tt] (wM am cB cI cL go gc gb gd gh gr gt gk gn er op sz) (fun r9 w9 => r9 = 0 ∧ w9 = wM am cB cI cL go gc gb gd gh gr gt gk gn 1 op sz) := by
  refine jw_ofi (cc := b_M_count) (nL := 5) (ret := (some .int)) (by decide) rfl (Nat.le_of_ble_eq_true rfl) (fun p e s m args below meth c A F hnm => ?_)
  refine jw_at (lv' := [(0, .ref (am 0)), (1, .int (nI r)), (2, .int tt)]) (st' := []) (ws' := wM am cB cI cL go gc gb gd gh gr gt gk gn er op sz) rfl rfl rfl ?_
  refine jw_aload_n (pc := 0) F 0 d_M_count_0 rfl rfl ?_
  refine jw_iconst (pc := 1) (v := 0) F d_M_count_1 (by decide) ?_
  refine jw_put (pc := 2) (v := .int 0) (ty := .int) (ws' := wM am cB cI cL go gc gb gd gh gr gt gk gn 0 op sz) F (jms inM) tM tM_ok nmM 0 rfl rfl 0 (by decide) (jm w_342) rfl (by decide +kernel) rfl rfl (Nat.le_of_ble_eq_true rfl) d_M_count_2 rfl ?_
  refine jw_aload_n (pc := 5) F 0 d_M_count_5 rfl rfl ?_
  refine jw_iload_n (pc := 6) F 1 d_M_count_6 rfl rfl ?_
  refine jw_callS_Ei (pc := 7) (As := [.int (nI r)]) (rest := [.ref (am 0)]) F (m_isReplica l D cB cI cL (nI r)) (jw_cwS F.1.2.2.2.2 wl_good w_387 w_388 w_30 w_389 hd_M_isReplica ⟨by decide, by decide⟩) rfl rfl (Nat.le_of_ble_eq_true rfl) d_M_count_7 ⟨rfl, rfl⟩ ⟨by decide, by decide⟩ ?_
  refine jw_if_eq (pc := 10) F 25 d_M_count_10 (by decide) (fun hz1 => False.elim (absurd (jb_0.mp hz1) (by rw [m_isrep_nI hr]; decide))) (fun hz1 => ?_)
  refine jw_iload_n (pc := 13) F 2 d_M_count_13 rfl rfl ?_
  refine jw_i2l (pc := 14) F d_M_count_14 ?_
  refine jw_lconst (pc := 15) (v := 0) F d_M_count_15 (by decide) ?_
  refine jw_ldc2 (pc := 16) (v := 3) F d_M_count_16 (jm w_390) ?_
  refine jw_callS_Ei (pc := 19) (As := [.long (tt.toInt64), .long 0, .long 3]) (rest := [.ref (am 0)]) F (m_in_c l D cB cI cL tt.toInt64 0 3) (jw_cwS F.1.2.2.2.2 wl_good w_391 w_392 w_30 w_393 hd_M_in ⟨by decide, by decide⟩) rfl rfl (Nat.le_of_ble_eq_true rfl) d_M_count_19 ⟨rfl, rfl⟩ ⟨by decide, by decide⟩ ?_
  rw [m_in_rep]
  refine jw_if_ne (pc := 22) F 29 d_M_count_22 (by decide) (fun hz2 => False.elim (absurd (jb_n.mp hz2) (by rw [ht]; decide))) (fun hz2 => ?_)
  refine jw_iconst (pc := 25) (v := 1) F d_M_count_25 (by decide) ?_
  refine jw_goto (pc := 26) F 30 d_M_count_26 (by decide) ?_
  refine jw_iconst (pc := 30) (v := 1) F d_M_count_30 (by decide) ?_
  refine jw_callV_Ci (pc := 31) (As := [.int 1, .int 1]) (rest := []) F (m_failsT l D am cB cI cL go gc gb gd gh gr gt gk gn op sz true rfl 1 (by decide)) (jw_cwV F.1.2.2.2.2 wl_good w_394 w_396 w_17 w_30 w_397 hd_M_fails ⟨by decide, by decide⟩) 0 1 rfl rfl rfl rfl rfl rfl (Nat.le_of_ble_eq_true rfl) d_M_count_31 ⟨rfl, rfl⟩ ⟨by decide, by decide⟩ (fun r w hw => ?_)
  obtain ⟨rfl, rfl⟩ := hw
  refine jw_if_eq (pc := 34) F 39 d_M_count_34 (by decide) (fun hz3 => False.elim (absurd hz3 (by decide))) (fun hz3 => ?_)
  refine jw_iconst (pc := 37) (v := 0) F d_M_count_37 (by decide) ?_
  exact jw_iret F d_M_count_38 ⟨rfl, rfl⟩
set_option maxHeartbeats 4000000 in
set_option maxRecDepth 100000 in
theorem m_count_v3 (l : Launch) (D : va_G) (am : Nat → Nat) (cB cI cL : ClassId) (go gc gb gd gh gr gt gk : Nat → Int32) (gn : Nat → Int64) (er op sz : Int32) (a : AS) (hQ : mx_R a go gc gb gd gh gn op) (r : Nat) (hr : r < 4) : jw_Mi l D vCl (vTy cB cI cL) y_M_count s_M_count rm_M_count [.ref (am 0), .int (nI r), .int (nI 3)] (wM am cB cI cL go gc gb gd gh gr gt gk gn er op sz) (fun r9 w9 => r9 = nI (a_gr a r) ∧ w9 = wM am cB cI cL go gc gb gd gh gr gt gk gn 0 op sz) := by
  refine jw_ofi (cc := b_M_count) (nL := 5) (ret := (some .int)) (by decide) rfl (Nat.le_of_ble_eq_true rfl) (fun p e s m args below meth c A F hnm => ?_)
  refine jw_at (lv' := [(0, .ref (am 0)), (1, .int (nI r)), (2, .int (nI 3))]) (st' := []) (ws' := wM am cB cI cL go gc gb gd gh gr gt gk gn er op sz) rfl rfl rfl ?_
  obtain ⟨hI, hA, hV⟩ := hQ
  have hn := hI.1
  refine jw_aload_n (pc := 0) F 0 d_M_count_0 rfl rfl ?_
  refine jw_iconst (pc := 1) (v := 0) F d_M_count_1 (by decide) ?_
  refine jw_put (pc := 2) (v := .int 0) (ty := .int) (ws' := wM am cB cI cL go gc gb gd gh gr gt gk gn 0 op sz) F (jms inM) tM tM_ok nmM 0 rfl rfl 0 (by decide) (jm w_342) rfl (by decide +kernel) rfl rfl (Nat.le_of_ble_eq_true rfl) d_M_count_2 rfl ?_
  refine jw_aload_n (pc := 5) F 0 d_M_count_5 rfl rfl ?_
  refine jw_iload_n (pc := 6) F 1 d_M_count_6 rfl rfl ?_
  refine jw_callS_Ei (pc := 7) (As := [.int (nI r)]) (rest := [.ref (am 0)]) F (m_isReplica l D cB cI cL (nI r)) (jw_cwS F.1.2.2.2.2 wl_good w_387 w_388 w_30 w_389 hd_M_isReplica ⟨by decide, by decide⟩) rfl rfl (Nat.le_of_ble_eq_true rfl) d_M_count_7 ⟨rfl, rfl⟩ ⟨by decide, by decide⟩ ?_
  refine jw_if_eq (pc := 10) F 25 d_M_count_10 (by decide) (fun hz1 => False.elim (absurd (jb_0.mp hz1) (by rw [m_isrep_nI hr]; decide))) (fun hz1 => ?_)
  refine jw_iload_n (pc := 13) F 2 d_M_count_13 rfl rfl ?_
  refine jw_i2l (pc := 14) F d_M_count_14 ?_
  refine jw_lconst (pc := 15) (v := 0) F d_M_count_15 (by decide) ?_
  refine jw_ldc2 (pc := 16) (v := 3) F d_M_count_16 (jm w_390) ?_
  refine jw_callS_Ei (pc := 19) (As := [.long ((nI 3).toInt64), .long 0, .long 3]) (rest := [.ref (am 0)]) F (m_in_c l D cB cI cL (nI 3).toInt64 0 3) (jw_cwS F.1.2.2.2.2 wl_good w_391 w_392 w_30 w_393 hd_M_in ⟨by decide, by decide⟩) rfl rfl (Nat.le_of_ble_eq_true rfl) d_M_count_19 ⟨rfl, rfl⟩ ⟨by decide, by decide⟩ ?_
  rw [m_in_rep]
  refine jw_if_ne (pc := 22) F 29 d_M_count_22 (by decide) (fun hz2 => ?_) (fun hz2 => False.elim (absurd (jb_0.mp hz2) (by rw [m_isrep_nI (by decide)]; decide)))
  refine jw_iconst (pc := 29) (v := 0) F d_M_count_29 (by decide) ?_
  refine jw_iconst (pc := 30) (v := 1) F d_M_count_30 (by decide) ?_
  refine jw_callV_Ei (pc := 31) (As := [.int 0, .int 1]) (rest := []) F ([]) ([]) (m_failsF l D am cB cI cL go gc gb gd gh gr gt gk gn op sz false rfl 1) (jw_cwV F.1.2.2.2.2 wl_good w_394 w_396 w_17 w_30 w_397 hd_M_fails ⟨by decide, by decide⟩) 0 1 rfl rfl rfl (by simp) rfl rfl (Nat.le_of_ble_eq_true rfl) d_M_count_31 ⟨rfl, rfl⟩ ⟨by decide, by decide⟩ ?_
  refine jw_if_eq (pc := 34) F 39 d_M_count_34 (by decide) (fun hz3 => ?_) (fun hz3 => False.elim (hz3 rfl))
  refine jw_iload_n (pc := 39) F 2 d_M_count_39 rfl rfl ?_
  refine jw_iconst (pc := 40) (v := nI 3) F d_M_count_40 (by decide) ?_
  refine jw_icmp_ne (pc := 41) F 50 d_M_count_41 (by decide) (fun hz4 => False.elim (hz4 rfl)) (fun hz4 => ?_)
  refine jw_aload_n (pc := 44) F 0 d_M_count_44 rfl rfl ?_
  refine jw_iload_n (pc := 45) F 1 d_M_count_45 rfl rfl ?_
  refine jw_callV_Ei (pc := 46) (As := [.int (nI r)]) (rest := []) F ([]) ([]) (m_greatest l D am cB cI cL go gc gb gd gh gr gt gk gn 0 op sz a hI hA r hr) (jw_cwV F.1.2.2.2.2 wl_good w_414 w_416 w_22 w_30 w_417 hd_M_greatest ⟨by decide, by decide⟩) 0 1 rfl rfl rfl (by simp) rfl rfl (Nat.le_of_ble_eq_true rfl) d_M_count_46 ⟨rfl, rfl⟩ ⟨by decide, by decide⟩ ?_
  exact jw_iret F d_M_count_49 ⟨rfl, rfl⟩
set_option maxHeartbeats 4000000 in
set_option maxRecDepth 100000 in
theorem m_count_v0 (l : Launch) (D : va_G) (am : Nat → Nat) (cB cI cL : ClassId) (go gc gb gd gh gr gt gk : Nat → Int32) (gn : Nat → Int64) (er op sz : Int32) (a : AS) (hQ : mx_R a go gc gb gd gh gn op) (r : Nat) (hr : r < 4) : jw_Mi l D vCl (vTy cB cI cL) y_M_count s_M_count rm_M_count [.ref (am 0), .int (nI r), .int (nI 0)] (wM am cB cI cL go gc gb gd gh gr gt gk gn er op sz) (fun r9 w9 => r9 = nI ((List.range (a_n a)).countP (a_hd a r)) ∧ w9 = wM am cB cI cL go gc gb gd gh gr gt gk gn 0 op sz) := by
  refine jw_ofi (cc := b_M_count) (nL := 5) (ret := (some .int)) (by decide) rfl (Nat.le_of_ble_eq_true rfl) (fun p e s m args below meth c A F hnm => ?_)
  refine jw_at (lv' := [(0, .ref (am 0)), (1, .int (nI r)), (2, .int (nI 0))]) (st' := []) (ws' := wM am cB cI cL go gc gb gd gh gr gt gk gn er op sz) rfl rfl rfl ?_
  have hop := hQ.2.1.1
  subst hop
  obtain ⟨hI, hA, hV⟩ := hQ
  have hn := hI.1
  refine jw_aload_n (pc := 0) F 0 d_M_count_0 rfl rfl ?_
  refine jw_iconst (pc := 1) (v := 0) F d_M_count_1 (by decide) ?_
  refine jw_put (pc := 2) (v := .int 0) (ty := .int) (ws' := wM am cB cI cL go gc gb gd gh gr gt gk gn 0 (nI (a_n a)) sz) F (jms inM) tM tM_ok nmM 0 rfl rfl 0 (by decide) (jm w_342) rfl (by decide +kernel) rfl rfl (Nat.le_of_ble_eq_true rfl) d_M_count_2 rfl ?_
  refine jw_aload_n (pc := 5) F 0 d_M_count_5 rfl rfl ?_
  refine jw_iload_n (pc := 6) F 1 d_M_count_6 rfl rfl ?_
  refine jw_callS_Ei (pc := 7) (As := [.int (nI r)]) (rest := [.ref (am 0)]) F (m_isReplica l D cB cI cL (nI r)) (jw_cwS F.1.2.2.2.2 wl_good w_387 w_388 w_30 w_389 hd_M_isReplica ⟨by decide, by decide⟩) rfl rfl (Nat.le_of_ble_eq_true rfl) d_M_count_7 ⟨rfl, rfl⟩ ⟨by decide, by decide⟩ ?_
  refine jw_if_eq (pc := 10) F 25 d_M_count_10 (by decide) (fun hz1 => False.elim (absurd (jb_0.mp hz1) (by rw [m_isrep_nI hr]; decide))) (fun hz1 => ?_)
  refine jw_iload_n (pc := 13) F 2 d_M_count_13 rfl rfl ?_
  refine jw_i2l (pc := 14) F d_M_count_14 ?_
  refine jw_lconst (pc := 15) (v := 0) F d_M_count_15 (by decide) ?_
  refine jw_ldc2 (pc := 16) (v := 3) F d_M_count_16 (jm w_390) ?_
  refine jw_callS_Ei (pc := 19) (As := [.long ((nI 0).toInt64), .long 0, .long 3]) (rest := [.ref (am 0)]) F (m_in_c l D cB cI cL (nI 0).toInt64 0 3) (jw_cwS F.1.2.2.2.2 wl_good w_391 w_392 w_30 w_393 hd_M_in ⟨by decide, by decide⟩) rfl rfl (Nat.le_of_ble_eq_true rfl) d_M_count_19 ⟨rfl, rfl⟩ ⟨by decide, by decide⟩ ?_
  rw [m_in_rep]
  refine jw_if_ne (pc := 22) F 29 d_M_count_22 (by decide) (fun hz2 => ?_) (fun hz2 => False.elim (absurd (jb_0.mp hz2) (by rw [m_isrep_nI (by decide)]; decide)))
  refine jw_iconst (pc := 29) (v := 0) F d_M_count_29 (by decide) ?_
  refine jw_iconst (pc := 30) (v := 1) F d_M_count_30 (by decide) ?_
  refine jw_callV_Ei (pc := 31) (As := [.int 0, .int 1]) (rest := []) F ([]) ([]) (m_failsF l D am cB cI cL go gc gb gd gh gr gt gk gn (nI (a_n a)) sz false rfl 1) (jw_cwV F.1.2.2.2.2 wl_good w_394 w_396 w_17 w_30 w_397 hd_M_fails ⟨by decide, by decide⟩) 0 1 rfl rfl rfl (by simp) rfl rfl (Nat.le_of_ble_eq_true rfl) d_M_count_31 ⟨rfl, rfl⟩ ⟨by decide, by decide⟩ ?_
  refine jw_if_eq (pc := 34) F 39 d_M_count_34 (by decide) (fun hz3 => ?_) (fun hz3 => False.elim (hz3 rfl))
  refine jw_iload_n (pc := 39) F 2 d_M_count_39 rfl rfl ?_
  refine jw_iconst (pc := 40) (v := nI 3) F d_M_count_40 (by decide) ?_
  refine jw_icmp_ne (pc := 41) F 50 d_M_count_41 (by decide) (fun hz4 => ?_) (fun hz4 => False.elim (absurd hz4 (by decide)))
  refine jw_iload_n (pc := 50) F 2 d_M_count_50 rfl rfl ?_
  refine jw_iconst (pc := 51) (v := nI 2) F d_M_count_51 (by decide) ?_
  refine jw_icmp_ne (pc := 52) F 65 d_M_count_52 (by decide) (fun hz5 => ?_) (fun hz5 => False.elim (absurd hz5 (by decide)))
  have loop : ∀ (t i : Nat), i + t = a_n a → jw_J p l e rm_M_count s m args below meth c D vCl A 5 (MQ below (va_Qi (fun r9 w9 => r9 = nI ((List.range (a_n a)).countP (a_hd a r)) ∧ w9 = wM am cB cI cL go gc gb gd gh gr gt gk gn 0 (nI (a_n a)) sz) (jw_B D vCl (vTy cB cI cL) A) A) args s rm_M_count.cells rm_M_count.slots A) 0 0 70 [(0, .ref (am 0)), (1, .int (nI r)), (2, .int (nI 0)), (3, .int (nI ((List.range i).countP (a_hd a r)))), (4, .int (nI i))] [] (wM am cB cI cL go gc gb gd gh gr gt gk gn 0 (nI (a_n a)) sz) := by
    intro t
    induction t with
    | zero =>
      intro i hi
      obtain rfl : i = a_n a := hi
      refine jw_iload (pc := 70) F 4 d_M_count_70 rfl ?_
      refine jw_aload_n (pc := 72) F 0 d_M_count_72 rfl rfl ?_
      refine jw_get (pc := 73) F (jms inM) 0 rfl rfl 1 (by decide) (jm w_343) rfl d_M_count_73 ?_
      refine jw_icmp_ge (pc := 76) F 112 d_M_count_76 (by decide) (fun hz6 => ?_) (fun hz6 => False.elim (hz6 (nI_le (Nat.le_refl _) (by omega))))
      refine jw_iload_n (pc := 112) F 3 d_M_count_112 rfl rfl ?_
      exact jw_iret F d_M_count_113 ⟨rfl, rfl⟩
    | succ t ih =>
      intro i hi
      have hlt : i < a_n a := by omega
      refine jw_iload (pc := 70) F 4 d_M_count_70 rfl ?_
      refine jw_aload_n (pc := 72) F 0 d_M_count_72 rfl rfl ?_
      refine jw_get (pc := 73) F (jms inM) 0 rfl rfl 1 (by decide) (jm w_343) rfl d_M_count_73 ?_
      refine jw_icmp_ge (pc := 76) F 112 d_M_count_76 (by decide) (fun hz7 => False.elim (nI_ge hlt (by omega) hz7)) (fun hz7 => ?_)
      refine jw_aload_n (pc := 79) F 0 d_M_count_79 rfl rfl ?_
      refine jw_iload_n (pc := 80) F 1 d_M_count_80 rfl rfl ?_
      refine jw_iload (pc := 81) F 4 d_M_count_81 rfl ?_
      refine jw_callV_Ei (pc := 83) (As := [.int (nI r), .int (nI i)]) (rest := []) F ([]) ([]) (m_has l D am cB cI cL go gc gb gd gh gr gt gk gn 0 (nI (a_n a)) sz a hI hA r i hr hlt) (jw_cwV F.1.2.2.2.2 wl_good w_406 w_408 w_20 w_30 w_409 hd_M_has ⟨by decide, by decide⟩) 0 1 rfl rfl rfl (by simp) rfl rfl (Nat.le_of_ble_eq_true rfl) d_M_count_83 ⟨rfl, rfl⟩ ⟨by decide, by decide⟩ ?_
      refine jw_if_eq (pc := 86) F 106 d_M_count_86 (by decide) (fun h1 => ?_) (fun h1 => ?_)
      · refine jw_iinc (pc := 106) (v := nI (i + 1)) (lv' := [(0, .ref (am 0)), (1, .int (nI r)), (2, .int (nI 0)), (3, .int (nI ((List.range i).countP (a_hd a r)))), (4, .int (nI (i + 1)))]) F 4 d_M_count_106 rfl (jw_inc _) (by decide) rfl ?_
        refine jw_goto (pc := 109) F 70 d_M_count_109 (by decide) ?_
        have q := ih (i + 1) (by omega)
        rw [gl_range_s, if_neg (by rw [jb_0.mp h1]; decide), Nat.add_zero] at q
        exact q
      · refine jw_iload_n (pc := 89) F 2 d_M_count_89 rfl rfl ?_
        refine jw_if_eq (pc := 90) F 103 d_M_count_90 (by decide) (fun hz8 => ?_) (fun hz8 => False.elim (hz8 rfl))
        refine jw_iinc (pc := 103) (v := nI ((List.range i).countP (a_hd a r) + 1)) (lv' := [(0, .ref (am 0)), (1, .int (nI r)), (2, .int (nI 0)), (3, .int (nI ((List.range i).countP (a_hd a r) + 1))), (4, .int (nI i))]) F 3 d_M_count_103 rfl (jw_inc _) (by decide) rfl ?_
        refine jw_iinc (pc := 106) (v := nI (i + 1)) (lv' := [(0, .ref (am 0)), (1, .int (nI r)), (2, .int (nI 0)), (3, .int (nI ((List.range i).countP (a_hd a r) + 1))), (4, .int (nI (i + 1)))]) F 4 d_M_count_106 rfl (jw_inc _) (by decide) rfl ?_
        refine jw_goto (pc := 109) F 70 d_M_count_109 (by decide) ?_
        have q := ih (i + 1) (by omega)
        rw [gl_range_s, if_pos (by exact jb_n.mp h1)] at q
        exact q
  refine jw_iconst (pc := 65) (v := nI 0) F d_M_count_65 (by decide) ?_
  refine jw_istore_n (pc := 66) (lv' := [(0, .ref (am 0)), (1, .int (nI r)), (2, .int (nI 0)), (3, .int (nI 0))]) F d_M_count_66 rfl (by decide) rfl ?_
  refine jw_iconst (pc := 67) (v := nI 0) F d_M_count_67 (by decide) ?_
  refine jw_istore (pc := 68) (lv' := [(0, .ref (am 0)), (1, .int (nI r)), (2, .int (nI 0)), (3, .int (nI 0)), (4, .int (nI 0))]) F d_M_count_68 (by decide) rfl ?_
  exact loop (a_n a) 0 (by omega)
set_option maxHeartbeats 4000000 in
set_option maxRecDepth 100000 in
theorem m_count_v1 (l : Launch) (D : va_G) (am : Nat → Nat) (cB cI cL : ClassId) (go gc gb gd gh gr gt gk : Nat → Int32) (gn : Nat → Int64) (er op sz : Int32) (a : AS) (hQ : mx_R a go gc gb gd gh gn op) (r : Nat) (hr : r < 4) : jw_Mi l D vCl (vTy cB cI cL) y_M_count s_M_count rm_M_count [.ref (am 0), .int (nI r), .int (nI 1)] (wM am cB cI cL go gc gb gd gh gr gt gk gn er op sz) (fun r9 w9 => r9 = nI ((List.range (a_n a)).countP (fun k => a_hd a r k && !a_dl a k)) ∧ w9 = wM am cB cI cL go gc gb gd gh gr gt gk gn 0 op sz) := by
  refine jw_ofi (cc := b_M_count) (nL := 5) (ret := (some .int)) (by decide) rfl (Nat.le_of_ble_eq_true rfl) (fun p e s m args below meth c A F hnm => ?_)
  refine jw_at (lv' := [(0, .ref (am 0)), (1, .int (nI r)), (2, .int (nI 1))]) (st' := []) (ws' := wM am cB cI cL go gc gb gd gh gr gt gk gn er op sz) rfl rfl rfl ?_
  have hop := hQ.2.1.1
  subst hop
  obtain ⟨hI, hA, hV⟩ := hQ
  have hn := hI.1
  refine jw_aload_n (pc := 0) F 0 d_M_count_0 rfl rfl ?_
  refine jw_iconst (pc := 1) (v := 0) F d_M_count_1 (by decide) ?_
  refine jw_put (pc := 2) (v := .int 0) (ty := .int) (ws' := wM am cB cI cL go gc gb gd gh gr gt gk gn 0 (nI (a_n a)) sz) F (jms inM) tM tM_ok nmM 0 rfl rfl 0 (by decide) (jm w_342) rfl (by decide +kernel) rfl rfl (Nat.le_of_ble_eq_true rfl) d_M_count_2 rfl ?_
  refine jw_aload_n (pc := 5) F 0 d_M_count_5 rfl rfl ?_
  refine jw_iload_n (pc := 6) F 1 d_M_count_6 rfl rfl ?_
  refine jw_callS_Ei (pc := 7) (As := [.int (nI r)]) (rest := [.ref (am 0)]) F (m_isReplica l D cB cI cL (nI r)) (jw_cwS F.1.2.2.2.2 wl_good w_387 w_388 w_30 w_389 hd_M_isReplica ⟨by decide, by decide⟩) rfl rfl (Nat.le_of_ble_eq_true rfl) d_M_count_7 ⟨rfl, rfl⟩ ⟨by decide, by decide⟩ ?_
  refine jw_if_eq (pc := 10) F 25 d_M_count_10 (by decide) (fun hz1 => False.elim (absurd (jb_0.mp hz1) (by rw [m_isrep_nI hr]; decide))) (fun hz1 => ?_)
  refine jw_iload_n (pc := 13) F 2 d_M_count_13 rfl rfl ?_
  refine jw_i2l (pc := 14) F d_M_count_14 ?_
  refine jw_lconst (pc := 15) (v := 0) F d_M_count_15 (by decide) ?_
  refine jw_ldc2 (pc := 16) (v := 3) F d_M_count_16 (jm w_390) ?_
  refine jw_callS_Ei (pc := 19) (As := [.long ((nI 1).toInt64), .long 0, .long 3]) (rest := [.ref (am 0)]) F (m_in_c l D cB cI cL (nI 1).toInt64 0 3) (jw_cwS F.1.2.2.2.2 wl_good w_391 w_392 w_30 w_393 hd_M_in ⟨by decide, by decide⟩) rfl rfl (Nat.le_of_ble_eq_true rfl) d_M_count_19 ⟨rfl, rfl⟩ ⟨by decide, by decide⟩ ?_
  rw [m_in_rep]
  refine jw_if_ne (pc := 22) F 29 d_M_count_22 (by decide) (fun hz2 => ?_) (fun hz2 => False.elim (absurd (jb_0.mp hz2) (by rw [m_isrep_nI (by decide)]; decide)))
  refine jw_iconst (pc := 29) (v := 0) F d_M_count_29 (by decide) ?_
  refine jw_iconst (pc := 30) (v := 1) F d_M_count_30 (by decide) ?_
  refine jw_callV_Ei (pc := 31) (As := [.int 0, .int 1]) (rest := []) F ([]) ([]) (m_failsF l D am cB cI cL go gc gb gd gh gr gt gk gn (nI (a_n a)) sz false rfl 1) (jw_cwV F.1.2.2.2.2 wl_good w_394 w_396 w_17 w_30 w_397 hd_M_fails ⟨by decide, by decide⟩) 0 1 rfl rfl rfl (by simp) rfl rfl (Nat.le_of_ble_eq_true rfl) d_M_count_31 ⟨rfl, rfl⟩ ⟨by decide, by decide⟩ ?_
  refine jw_if_eq (pc := 34) F 39 d_M_count_34 (by decide) (fun hz3 => ?_) (fun hz3 => False.elim (hz3 rfl))
  refine jw_iload_n (pc := 39) F 2 d_M_count_39 rfl rfl ?_
  refine jw_iconst (pc := 40) (v := nI 3) F d_M_count_40 (by decide) ?_
  refine jw_icmp_ne (pc := 41) F 50 d_M_count_41 (by decide) (fun hz4 => ?_) (fun hz4 => False.elim (absurd hz4 (by decide)))
  refine jw_iload_n (pc := 50) F 2 d_M_count_50 rfl rfl ?_
  refine jw_iconst (pc := 51) (v := nI 2) F d_M_count_51 (by decide) ?_
  refine jw_icmp_ne (pc := 52) F 65 d_M_count_52 (by decide) (fun hz5 => ?_) (fun hz5 => False.elim (absurd hz5 (by decide)))
  have loop : ∀ (t i : Nat), i + t = a_n a → jw_J p l e rm_M_count s m args below meth c D vCl A 5 (MQ below (va_Qi (fun r9 w9 => r9 = nI ((List.range (a_n a)).countP (fun k => a_hd a r k && !a_dl a k)) ∧ w9 = wM am cB cI cL go gc gb gd gh gr gt gk gn 0 (nI (a_n a)) sz) (jw_B D vCl (vTy cB cI cL) A) A) args s rm_M_count.cells rm_M_count.slots A) 0 0 70 [(0, .ref (am 0)), (1, .int (nI r)), (2, .int (nI 1)), (3, .int (nI ((List.range i).countP (fun k => a_hd a r k && !a_dl a k)))), (4, .int (nI i))] [] (wM am cB cI cL go gc gb gd gh gr gt gk gn 0 (nI (a_n a)) sz) := by
    intro t
    induction t with
    | zero =>
      intro i hi
      obtain rfl : i = a_n a := hi
      refine jw_iload (pc := 70) F 4 d_M_count_70 rfl ?_
      refine jw_aload_n (pc := 72) F 0 d_M_count_72 rfl rfl ?_
      refine jw_get (pc := 73) F (jms inM) 0 rfl rfl 1 (by decide) (jm w_343) rfl d_M_count_73 ?_
      refine jw_icmp_ge (pc := 76) F 112 d_M_count_76 (by decide) (fun hz6 => ?_) (fun hz6 => False.elim (hz6 (nI_le (Nat.le_refl _) (by omega))))
      refine jw_iload_n (pc := 112) F 3 d_M_count_112 rfl rfl ?_
      exact jw_iret F d_M_count_113 ⟨rfl, rfl⟩
    | succ t ih =>
      intro i hi
      have hlt : i < a_n a := by omega
      refine jw_iload (pc := 70) F 4 d_M_count_70 rfl ?_
      refine jw_aload_n (pc := 72) F 0 d_M_count_72 rfl rfl ?_
      refine jw_get (pc := 73) F (jms inM) 0 rfl rfl 1 (by decide) (jm w_343) rfl d_M_count_73 ?_
      refine jw_icmp_ge (pc := 76) F 112 d_M_count_76 (by decide) (fun hz7 => False.elim (nI_ge hlt (by omega) hz7)) (fun hz7 => ?_)
      refine jw_aload_n (pc := 79) F 0 d_M_count_79 rfl rfl ?_
      refine jw_iload_n (pc := 80) F 1 d_M_count_80 rfl rfl ?_
      refine jw_iload (pc := 81) F 4 d_M_count_81 rfl ?_
      refine jw_callV_Ei (pc := 83) (As := [.int (nI r), .int (nI i)]) (rest := []) F ([]) ([]) (m_has l D am cB cI cL go gc gb gd gh gr gt gk gn 0 (nI (a_n a)) sz a hI hA r i hr hlt) (jw_cwV F.1.2.2.2.2 wl_good w_406 w_408 w_20 w_30 w_409 hd_M_has ⟨by decide, by decide⟩) 0 1 rfl rfl rfl (by simp) rfl rfl (Nat.le_of_ble_eq_true rfl) d_M_count_83 ⟨rfl, rfl⟩ ⟨by decide, by decide⟩ ?_
      refine jw_if_eq (pc := 86) F 106 d_M_count_86 (by decide) (fun h1 => ?_) (fun h1 => ?_)
      · refine jw_iinc (pc := 106) (v := nI (i + 1)) (lv' := [(0, .ref (am 0)), (1, .int (nI r)), (2, .int (nI 1)), (3, .int (nI ((List.range i).countP (fun k => a_hd a r k && !a_dl a k)))), (4, .int (nI (i + 1)))]) F 4 d_M_count_106 rfl (jw_inc _) (by decide) rfl ?_
        refine jw_goto (pc := 109) F 70 d_M_count_109 (by decide) ?_
        have q := ih (i + 1) (by omega)
        rw [gl_range_s, if_neg (by simp only [jb_0.mp h1, Bool.false_and]; decide), Nat.add_zero] at q
        exact q
      · refine jw_iload_n (pc := 89) F 2 d_M_count_89 rfl rfl ?_
        refine jw_if_eq (pc := 90) F 103 d_M_count_90 (by decide) (fun hz8 => False.elim (absurd hz8 (by decide))) (fun hz8 => ?_)
        refine jw_aload_n (pc := 93) F 0 d_M_count_93 rfl rfl ?_
        refine jw_get (pc := 94) F (jms inM) 0 rfl rfl 6 (by decide) (jm w_348) rfl d_M_count_94 ?_
        refine jw_iload (pc := 97) F 4 d_M_count_97 rfl ?_
        refine jw_zaldN (pc := 99) F 5 0 rfl rfl i rfl (by omega) (by decide) d_M_count_99 ?_
        rw [hA.2.2.2.2.1 i hlt]
        refine jw_if_ne (pc := 100) F 106 d_M_count_100 (by decide) (fun h2 => ?_) (fun h2 => ?_)
        · refine jw_iinc (pc := 106) (v := nI (i + 1)) (lv' := [(0, .ref (am 0)), (1, .int (nI r)), (2, .int (nI 1)), (3, .int (nI ((List.range i).countP (fun k => a_hd a r k && !a_dl a k)))), (4, .int (nI (i + 1)))]) F 4 d_M_count_106 rfl (jw_inc _) (by decide) rfl ?_
          refine jw_goto (pc := 109) F 70 d_M_count_109 (by decide) ?_
          have q := ih (i + 1) (by omega)
          rw [gl_range_s, if_neg (by simp only [jb_n.mp h2, Bool.not_true, Bool.and_false]; decide), Nat.add_zero] at q
          exact q
        · refine jw_iinc (pc := 103) (v := nI ((List.range i).countP (fun k => a_hd a r k && !a_dl a k) + 1)) (lv' := [(0, .ref (am 0)), (1, .int (nI r)), (2, .int (nI 1)), (3, .int (nI ((List.range i).countP (fun k => a_hd a r k && !a_dl a k) + 1))), (4, .int (nI i))]) F 3 d_M_count_103 rfl (jw_inc _) (by decide) rfl ?_
          refine jw_iinc (pc := 106) (v := nI (i + 1)) (lv' := [(0, .ref (am 0)), (1, .int (nI r)), (2, .int (nI 1)), (3, .int (nI ((List.range i).countP (fun k => a_hd a r k && !a_dl a k) + 1))), (4, .int (nI (i + 1)))]) F 4 d_M_count_106 rfl (jw_inc _) (by decide) rfl ?_
          refine jw_goto (pc := 109) F 70 d_M_count_109 (by decide) ?_
          have q := ih (i + 1) (by omega)
          rw [gl_range_s, if_pos (by simp only [jb_n.mp h1, jb_0.mp h2, Bool.not_false, Bool.and_true])] at q
          exact q
  refine jw_iconst (pc := 65) (v := nI 0) F d_M_count_65 (by decide) ?_
  refine jw_istore_n (pc := 66) (lv' := [(0, .ref (am 0)), (1, .int (nI r)), (2, .int (nI 1)), (3, .int (nI 0))]) F d_M_count_66 rfl (by decide) rfl ?_
  refine jw_iconst (pc := 67) (v := nI 0) F d_M_count_67 (by decide) ?_
  refine jw_istore (pc := 68) (lv' := [(0, .ref (am 0)), (1, .int (nI r)), (2, .int (nI 1)), (3, .int (nI 0)), (4, .int (nI 0))]) F d_M_count_68 (by decide) rfl ?_
  exact loop (a_n a) 0 (by omega)
