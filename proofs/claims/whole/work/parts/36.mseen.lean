theorem gl_filter_s {f : Nat → Bool} {L : List Nat} {i : Nat} (h : i < L.length) : (L.take (i + 1)).filter f = (L.take i).filter f ++ (if f L[i] = true then [L[i]] else []) := by
  rw [List.take_succ_eq_append_getElem h, List.filter_append]
  congr 1
  by_cases e : f L[i] = true
  · rw [if_pos e, List.filter_cons_of_pos e]; rfl
  · rw [if_neg e, List.filter_cons_of_neg e]; rfl
theorem gl_filter_le {f : Nat → Bool} {L : List Nat} {i : Nat} : ((L.take i).filter f).length ≤ i := by
  refine Nat.le_trans (List.length_filter_le _ _) ?_
  rw [List.length_take]
  exact Nat.min_le_left _ _
theorem ab_seen_eq {a : AS} {r : Nat} {L M : List Nat} (hI : ab_I a) (hR : ab_row a L) (hM : ab_own a r M) : M.filter (fun e => !a_del a r e) = L.filter (a_seen a r) := by
  rw [ab_own_eq hI hR hM, List.filter_filter]
  apply List.filter_congr
  intro x _
  show (!a_del a r x && a_hd a r x) = (a_hd a r x && !a_del a r x)
  exact Bool.and_comm _ _
theorem ab_own_len {a : AS} {r : Nat} {M : List Nat} (hI : ab_I a) (hM : ab_own a r M) : M.length ≤ 160 ∧ ∀ x ∈ M, x < a_n a := by
  have h1 : ∀ x ∈ M, x < a_n a := fun x hx => ((hM.2.1 x).mp hx).1
  have := gm_pig hM.1 h1
  have := hI.1
  exact ⟨by omega, h1⟩
theorem ab_seen_len {a : AS} {r : Nat} {L : List Nat} (hI : ab_I a) (hR : ab_row a L) : (L.filter (a_seen a r)).length ≤ 160 := Nat.le_trans (List.length_filter_le _ _) (cx_R_M hI hR).2
theorem w_443 : Cond.methodLink RM 94 y_M_look ∈ WL := jwl 443 rfl rfl
theorem w_445 : Cond.instanceMethod y_M_look ∈ WL := jwl 445 rfl rfl
theorem w_24 : Cond.selects RM y_M_look y_M_look ∈ WL := jwl 24 rfl rfl
theorem w_446 : Cond.code y_M_look b_M_look 5 none ∈ WL := jwl 446 rfl rfl
theorem w_455 : Cond.methodLink RM 98 y_M_isSeen ∈ WL := jwl 455 rfl rfl
theorem w_457 : Cond.instanceMethod y_M_isSeen ∈ WL := jwl 457 rfl rfl
theorem w_27 : Cond.selects RM y_M_isSeen y_M_isSeen ∈ WL := jwl 27 rfl rfl
theorem w_458 : Cond.code y_M_isSeen b_M_isSeen 4 (some .boolean) ∈ WL := jwl 458 rfl rfl
theorem w_439 : Cond.methodLink RM 101 y_M_lookSeen ∈ WL := jwl 439 rfl rfl
theorem w_441 : Cond.instanceMethod y_M_lookSeen ∈ WL := jwl 441 rfl rfl
theorem w_23 : Cond.selects RM y_M_lookSeen y_M_lookSeen ∈ WL := jwl 23 rfl rfl
theorem w_442 : Cond.code y_M_lookSeen b_M_lookSeen 4 none ∈ WL := jwl 442 rfl rfl
theorem w_352 : Cond.fieldLink RM 36 "WovenRowModel" "kept" "[I" ∈ WL := jwl 352 rfl rfl
abbrev rm_M_isSeen : Room := { frames := 1, cells := 0, slots := 0, locals := 22 }
abbrev rm_M_lookSeen : Room := { frames := 3, cells := 0, slots := 0, locals := 71 }
abbrev rm_M_at : Room := { frames := 4, cells := 0, slots := 0, locals := 94 }
abbrev rm_M_place : Room := { frames := 3, cells := 0, slots := 0, locals := 71 }
abbrev rm_M_same : Room := { frames := 4, cells := 0, slots := 0, locals := 94 }
set_option maxHeartbeats 4000000 in
set_option maxRecDepth 100000 in
theorem m_isSeen (l : Launch) (D : va_G) (am : Nat → Nat) (cB cI cL : ClassId) (go gc gb gd gh gr gt gk : Nat → Int32) (gn : Nat → Int64) (er op sz : Int32) (a : AS) (hI : ab_I a) (hA : mx_A a go gc gb gd gh op) (r : Nat) (hr : r < 4) (k9 : Nat) : jw_Ei l D vCl (vTy cB cI cL) y_M_isSeen s_M_isSeen rm_M_isSeen [.ref (am 0), .int (nI r), .int (nI k9)] (wM am cB cI cL go gc gb gd gh gr gt gk gn er op sz) ((jb (!a_del a r k9))) := by
  refine jw_ofi (cc := b_M_isSeen) (nL := 4) (ret := (some .boolean)) (by decide) rfl (Nat.le_of_ble_eq_true rfl) (fun p e s m args below meth c A F hnm => ?_)
  refine jw_at (lv' := [(0, .ref (am 0)), (1, .int (nI r)), (2, .int (nI k9))]) (st' := []) (ws' := wM am cB cI cL go gc gb gd gh gr gt gk gn er op sz) rfl rfl rfl ?_
  have hn := hI.1
  have hop := hA.1
  subst hop
  have loop : ∀ (t i : Nat), i + t = a_n a → (∀ k, k < i → (a_dl a k && (a_tg a k == nI k9) && a_hd a r k) = false) → jw_J p l e rm_M_isSeen s m args below meth c D vCl A 4 (MQ below (va_Qi (fun r9 w9 => r9 = (jb (!a_del a r k9)) ∧ w9 = wM am cB cI cL go gc gb gd gh gr gt gk gn er (nI (a_n a)) sz) (jw_B D vCl (vTy cB cI cL) A) A) args s rm_M_isSeen.cells rm_M_isSeen.slots A) 0 0 2 [(0, .ref (am 0)), (1, .int (nI r)), (2, .int (nI k9)), (3, .int (nI i))] [] (wM am cB cI cL go gc gb gd gh gr gt gk gn er (nI (a_n a)) sz) := by
    intro t
    induction t with
    | zero =>
      intro i hi hc
      obtain rfl : i = a_n a := hi
      refine jw_iload_n (pc := 2) F 3 d_M_isSeen_2 rfl rfl ?_
      refine jw_aload_n (pc := 3) F 0 d_M_isSeen_3 rfl rfl ?_
      refine jw_get (pc := 4) F (jms inM) 0 rfl rfl 1 (by decide) (jm w_343) rfl d_M_isSeen_4 ?_
      refine jw_icmp_ge (pc := 7) F 46 d_M_isSeen_7 (by decide) (fun hz1 => ?_) (fun hz1 => False.elim (hz1 (nI_le (Nat.le_refl _) (by omega))))
      refine jw_iconst (pc := 46) (v := 1) F d_M_isSeen_46 (by decide) ?_
      exact jw_zret F d_M_isSeen_47 (by decide) ⟨by rw [show a_del a r k9 = false by unfold a_del; rw [List.any_eq_false]; intro k hk; rw [hc k (List.mem_range.mp hk)]; decide]; rfl, rfl⟩
    | succ t ih =>
      intro i hi hc
      have hlt : i < a_n a := by omega
      refine jw_iload_n (pc := 2) F 3 d_M_isSeen_2 rfl rfl ?_
      refine jw_aload_n (pc := 3) F 0 d_M_isSeen_3 rfl rfl ?_
      refine jw_get (pc := 4) F (jms inM) 0 rfl rfl 1 (by decide) (jm w_343) rfl d_M_isSeen_4 ?_
      refine jw_icmp_ge (pc := 7) F 46 d_M_isSeen_7 (by decide) (fun hz2 => False.elim (nI_ge hlt (by omega) hz2)) (fun hz2 => ?_)
      refine jw_aload_n (pc := 10) F 0 d_M_isSeen_10 rfl rfl ?_
      refine jw_get (pc := 11) F (jms inM) 0 rfl rfl 6 (by decide) (jm w_348) rfl d_M_isSeen_11 ?_
      refine jw_iload_n (pc := 14) F 3 d_M_isSeen_14 rfl rfl ?_
      refine jw_zaldN (pc := 15) F 5 0 rfl rfl i rfl (by omega) (by decide) d_M_isSeen_15 ?_
      rw [hA.2.2.2.2.1 i hlt]
      refine jw_if_eq (pc := 16) F 40 d_M_isSeen_16 (by decide) (fun h1 => ?_) (fun h1 => ?_)
      · refine jw_iinc (pc := 40) (v := nI (i + 1)) (lv' := [(0, .ref (am 0)), (1, .int (nI r)), (2, .int (nI k9)), (3, .int (nI (i + 1)))]) F 3 d_M_isSeen_40 rfl (jw_inc _) (by decide) rfl ?_
        refine jw_goto (pc := 43) F 2 d_M_isSeen_43 (by decide) ?_
        exact ih (i + 1) (by omega) (fun k hk => by
            by_cases e1 : k = i
            · subst e1; rw [jb_0.mp h1]; rfl
            · exact hc k (by omega))
      · refine jw_aload_n (pc := 19) F 0 d_M_isSeen_19 rfl rfl ?_
        refine jw_get (pc := 20) F (jms inM) 0 rfl rfl 2 (by decide) (jm w_344) rfl d_M_isSeen_20 ?_
        refine jw_iload_n (pc := 23) F 3 d_M_isSeen_23 rfl rfl ?_
        refine jw_ialdN (pc := 24) F 1 1 rfl rfl i rfl (by omega) (by decide) d_M_isSeen_24 ?_
        rw [hA.2.1 i hlt]
        refine jw_iload_n (pc := 25) F 2 d_M_isSeen_25 rfl rfl ?_
        refine jw_icmp_ne (pc := 26) F 40 d_M_isSeen_26 (by decide) (fun h2 => ?_) (fun h2 => ?_)
        · refine jw_iinc (pc := 40) (v := nI (i + 1)) (lv' := [(0, .ref (am 0)), (1, .int (nI r)), (2, .int (nI k9)), (3, .int (nI (i + 1)))]) F 3 d_M_isSeen_40 rfl (jw_inc _) (by decide) rfl ?_
          refine jw_goto (pc := 43) F 2 d_M_isSeen_43 (by decide) ?_
          exact ih (i + 1) (by omega) (fun k hk => by
            by_cases e1 : k = i
            · subst e1; rw [beq_eq_false_iff_ne.mpr h2, Bool.and_false]; rfl
            · exact hc k (by omega))
        · refine jw_aload_n (pc := 29) F 0 d_M_isSeen_29 rfl rfl ?_
          refine jw_iload_n (pc := 30) F 1 d_M_isSeen_30 rfl rfl ?_
          refine jw_iload_n (pc := 31) F 3 d_M_isSeen_31 rfl rfl ?_
          refine jw_callV_Ei (pc := 32) (As := [.int (nI r), .int (nI i)]) (rest := []) F ([]) ([]) (m_has l D am cB cI cL go gc gb gd gh gr gt gk gn er (nI (a_n a)) sz a hI hA r i hr hlt) (jw_cwV F.1.2.2.2.2 wl_good w_406 w_408 w_20 w_30 w_409 hd_M_has ⟨by decide, by decide⟩) 0 1 rfl rfl rfl (by simp) rfl rfl (Nat.le_of_ble_eq_true rfl) d_M_isSeen_32 ⟨rfl, rfl⟩ ⟨by decide, by decide⟩ ?_
          refine jw_if_eq (pc := 35) F 40 d_M_isSeen_35 (by decide) (fun h3 => ?_) (fun h3 => ?_)
          · refine jw_iinc (pc := 40) (v := nI (i + 1)) (lv' := [(0, .ref (am 0)), (1, .int (nI r)), (2, .int (nI k9)), (3, .int (nI (i + 1)))]) F 3 d_M_isSeen_40 rfl (jw_inc _) (by decide) rfl ?_
            refine jw_goto (pc := 43) F 2 d_M_isSeen_43 (by decide) ?_
            exact ih (i + 1) (by omega) (fun k hk => by
            by_cases e1 : k = i
            · subst e1; rw [jb_0.mp h3, Bool.and_false]
            · exact hc k (by omega))
          · refine jw_iconst (pc := 38) (v := 0) F d_M_isSeen_38 (by decide) ?_
            exact jw_zret F d_M_isSeen_39 (by decide) ⟨by rw [show a_del a r k9 = true by unfold a_del; rw [List.any_eq_true]; exact ⟨i, List.mem_range.mpr hlt, by rw [jb_n.mp h1, jb_n.mp h3, beq_iff_eq.mpr h2]; rfl⟩]; rfl, rfl⟩
  refine jw_iconst (pc := 0) (v := nI 0) F d_M_isSeen_0 (by decide) ?_
  refine jw_istore_n (pc := 1) (lv' := [(0, .ref (am 0)), (1, .int (nI r)), (2, .int (nI k9)), (3, .int (nI 0))]) F d_M_isSeen_1 rfl (by decide) rfl ?_
  exact loop (a_n a) 0 (by omega) (fun k hk => absurd hk (Nat.not_lt_zero k))
set_option maxHeartbeats 4000000 in
set_option maxRecDepth 100000 in
theorem m_lookSeen (l : Launch) (D : va_G) (am : Nat → Nat) (cB cI cL : ClassId) (go gc gb gd gh gr gt gk : Nat → Int32) (gn : Nat → Int64) (er op sz : Int32) (a : AS) (hI : ab_I a) (hA : mx_A a go gc gb gd gh op) (L : List Nat) (hR : ab_row a L) (r : Nat) (hr : r < 4) : jw_Mv l D vCl (vTy cB cI cL) y_M_lookSeen s_M_lookSeen rm_M_lookSeen [.ref (am 0), .int (nI r)] (wM am cB cI cL go gc gb gd gh gr gt gk gn er op sz) (fun w9 => ∃ (hr9 ht9 : Nat → Int32), w9 = wM am cB cI cL go gc gb gd gh hr9 ht9 gk gn er op (nI (L.filter (a_seen a r)).length) ∧ td_L (L.filter (a_seen a r)) hr9) := by
  refine jw_ofv (cc := b_M_lookSeen) (nL := 4) (ret := none) (by decide) rfl (Nat.le_of_ble_eq_true rfl) (fun p e s m args below meth c A F hnm => ?_)
  refine jw_at (lv' := [(0, .ref (am 0)), (1, .int (nI r))]) (st' := []) (ws' := wM am cB cI cL go gc gb gd gh gr gt gk gn er op sz) rfl rfl rfl ?_
  have hn := hI.1
  refine jw_aload_n (pc := 0) F 0 d_M_lookSeen_0 rfl rfl ?_
  refine jw_iload_n (pc := 1) F 1 d_M_lookSeen_1 rfl rfl ?_
  refine jw_callV_Cv (pc := 2) (As := [.int (nI r)]) (rest := []) F (m_look l D am cB cI cL go gc gb gd gh gr gt gk gn er op sz a hI hA r hr) (jw_cwV F.1.2.2.2.2 wl_good w_443 w_445 w_24 w_30 w_446 hd_M_look ⟨by decide, by decide⟩) 0 1 rfl rfl rfl rfl rfl rfl (Nat.le_of_ble_eq_true rfl) d_M_lookSeen_2 ⟨rfl, rfl⟩ ⟨by decide, by decide⟩ (fun w hw => ?_)
  obtain ⟨g0, ht9, M, rfl, hM0, hM⟩ := hw
  obtain ⟨hl, hMn⟩ := ab_own_len hI hM
  have loop : ∀ (t i : Nat) (g7 : Nat → Int32), i + t = M.length → td_L ((M.take i).filter (fun e => !a_del a r e)) g7 → (∀ j (h : j < M.length), i ≤ j → g7 j = nI M[j]) → jw_J p l e rm_M_lookSeen s m args below meth c D vCl A 4 (MQ below (va_Qv (fun w9 => ∃ (hr9 ht9 : Nat → Int32), w9 = wM am cB cI cL go gc gb gd gh hr9 ht9 gk gn er op (nI (L.filter (a_seen a r)).length) ∧ td_L (L.filter (a_seen a r)) hr9) (jw_B D vCl (vTy cB cI cL) A) A) args s rm_M_lookSeen.cells rm_M_lookSeen.slots A) 0 0 9 [(0, .ref (am 0)), (1, .int (nI r)), (2, .int (nI ((M.take i).filter (fun e => !a_del a r e)).length)), (3, .int (nI i))] [] (wM am cB cI cL go gc gb gd gh g7 ht9 gk gn er op (nI M.length)) := by
    intro t
    induction t with
    | zero =>
      intro i g7 hi h1 h2
      obtain rfl : i = M.length := hi
      refine jw_iload_n (pc := 9) F 3 d_M_lookSeen_9 rfl rfl ?_
      refine jw_aload_n (pc := 10) F 0 d_M_lookSeen_10 rfl rfl ?_
      refine jw_get (pc := 11) F (jms inM) 0 rfl rfl 11 (by decide) (jm w_353) rfl d_M_lookSeen_11 ?_
      refine jw_icmp_ge (pc := 14) F 52 d_M_lookSeen_14 (by decide) (fun hz1 => ?_) (fun hz1 => False.elim (hz1 (nI_le (Nat.le_refl _) (by omega))))
      refine jw_aload_n (pc := 52) F 0 d_M_lookSeen_52 rfl rfl ?_
      refine jw_iload_n (pc := 53) F 2 d_M_lookSeen_53 rfl rfl ?_
      refine jw_put (pc := 54) (v := .int (nI ((M.take M.length).filter (fun e => !a_del a r e)).length)) (ty := .int) (ws' := wM am cB cI cL go gc gb gd gh g7 ht9 gk gn er op (nI ((M.take M.length).filter (fun e => !a_del a r e)).length)) F (jms inM) tM tM_ok nmM 0 rfl rfl 11 (by decide) (jm w_353) rfl (by decide +kernel) rfl rfl (Nat.le_of_ble_eq_true rfl) d_M_lookSeen_54 rfl ?_
      exact jw_vret F d_M_lookSeen_57 ⟨g7, ht9, by rw [List.take_length, ab_seen_eq hI hR hM], by rw [← ab_seen_eq hI hR hM]; rw [List.take_length] at h1; exact h1⟩
    | succ t ih =>
      intro i g7 hi h1 h2
      have hlt : i < M.length := by omega
      have hle : ((M.take i).filter (fun e => !a_del a r e)).length ≤ i := gl_filter_le
      refine jw_iload_n (pc := 9) F 3 d_M_lookSeen_9 rfl rfl ?_
      refine jw_aload_n (pc := 10) F 0 d_M_lookSeen_10 rfl rfl ?_
      refine jw_get (pc := 11) F (jms inM) 0 rfl rfl 11 (by decide) (jm w_353) rfl d_M_lookSeen_11 ?_
      refine jw_icmp_ge (pc := 14) F 52 d_M_lookSeen_14 (by decide) (fun hz2 => False.elim (nI_ge hlt (by omega) hz2)) (fun hz2 => ?_)
      refine jw_aload_n (pc := 17) F 0 d_M_lookSeen_17 rfl rfl ?_
      refine jw_iload_n (pc := 18) F 1 d_M_lookSeen_18 rfl rfl ?_
      refine jw_aload_n (pc := 19) F 0 d_M_lookSeen_19 rfl rfl ?_
      refine jw_get (pc := 20) F (jms inM) 0 rfl rfl 8 (by decide) (jm w_350) rfl d_M_lookSeen_20 ?_
      refine jw_iload_n (pc := 23) F 3 d_M_lookSeen_23 rfl rfl ?_
      refine jw_ialdN (pc := 24) F 7 1 rfl rfl i rfl (by omega) (by decide) d_M_lookSeen_24 ?_
      rw [h2 i hlt (Nat.le_refl _)]
      refine jw_callV_Ei (pc := 25) (As := [.int (nI r), .int (nI (M[i]'hlt))]) (rest := []) F ([]) ([]) (m_isSeen l D am cB cI cL go gc gb gd gh g7 ht9 gk gn er op (nI M.length) a hI hA r hr (M[i]'hlt)) (jw_cwV F.1.2.2.2.2 wl_good w_455 w_457 w_27 w_30 w_458 hd_M_isSeen ⟨by decide, by decide⟩) 0 1 rfl rfl rfl (by simp) rfl rfl (Nat.le_of_ble_eq_true rfl) d_M_lookSeen_25 ⟨rfl, rfl⟩ ⟨by decide, by decide⟩ ?_
      refine jw_if_eq (pc := 28) F 46 d_M_lookSeen_28 (by decide) (fun h3 => ?_) (fun h3 => ?_)
      · refine jw_iinc (pc := 46) (v := nI (i + 1)) (lv' := [(0, .ref (am 0)), (1, .int (nI r)), (2, .int (nI ((M.take i).filter (fun e => !a_del a r e)).length)), (3, .int (nI (i + 1)))]) F 3 d_M_lookSeen_46 rfl (jw_inc _) (by decide) rfl ?_
        refine jw_goto (pc := 49) F 9 d_M_lookSeen_49 (by decide) ?_
        have hs : (M.take (i + 1)).filter (fun e => !a_del a r e) = (M.take i).filter (fun e => !a_del a r e) := by rw [gl_filter_s hlt, if_neg (by rw [jb_0.mp h3]; decide), List.append_nil]
        have q := ih (i + 1) g7 (by omega) (by rw [hs]; exact h1) (fun j hj hij => h2 j hj (by omega))
        rw [hs] at q
        exact q
      · refine jw_aload_n (pc := 31) F 0 d_M_lookSeen_31 rfl rfl ?_
        refine jw_get (pc := 32) F (jms inM) 0 rfl rfl 8 (by decide) (jm w_350) rfl d_M_lookSeen_32 ?_
        refine jw_iload_n (pc := 35) F 2 d_M_lookSeen_35 rfl rfl ?_
        refine jw_iinc (pc := 36) (v := nI (((M.take i).filter (fun e => !a_del a r e)).length + 1)) (lv' := [(0, .ref (am 0)), (1, .int (nI r)), (2, .int (nI (((M.take i).filter (fun e => !a_del a r e)).length + 1))), (3, .int (nI i))]) F 2 d_M_lookSeen_36 rfl (jw_inc _) (by decide) rfl ?_
        refine jw_aload_n (pc := 39) F 0 d_M_lookSeen_39 rfl rfl ?_
        refine jw_get (pc := 40) F (jms inM) 0 rfl rfl 8 (by decide) (jm w_350) rfl d_M_lookSeen_40 ?_
        refine jw_iload_n (pc := 43) F 3 d_M_lookSeen_43 rfl rfl ?_
        refine jw_ialdN (pc := 44) F 7 1 rfl rfl i rfl (by omega) (by decide) d_M_lookSeen_44 ?_
        rw [h2 i hlt (Nat.le_refl _)]
        refine jw_iastN (pc := 45) (ws' := wM am cB cI cL go gc gb gd gh (upd g7 (((M.take i).filter (fun e => !a_del a r e)).length) (nI (M[i]'hlt))) ht9 gk gn er op (nI M.length)) F 7 1 rfl rfl (((M.take i).filter (fun e => !a_del a r e)).length) rfl (by omega) (by decide) d_M_lookSeen_45 rfl ?_
        refine jw_iinc (pc := 46) (v := nI (i + 1)) (lv' := [(0, .ref (am 0)), (1, .int (nI r)), (2, .int (nI (((M.take i).filter (fun e => !a_del a r e)).length + 1))), (3, .int (nI (i + 1)))]) F 3 d_M_lookSeen_46 rfl (jw_inc _) (by decide) rfl ?_
        refine jw_goto (pc := 49) F 9 d_M_lookSeen_49 (by decide) ?_
        have hs : (M.take (i + 1)).filter (fun e => !a_del a r e) = (M.take i).filter (fun e => !a_del a r e) ++ [M[i]] := by rw [gl_filter_s hlt, if_pos (jb_n.mp h3)]
        have q := ih (i + 1) (upd g7 ((M.take i).filter (fun e => !a_del a r e)).length (nI M[i])) (by omega) (by rw [hs]; exact td_push h1) (fun j hj hij => by rw [pk_un (by omega)]; exact h2 j hj (by omega))
        rw [hs, List.length_append, List.length_singleton] at q
        exact q
  refine jw_iconst (pc := 5) (v := nI 0) F d_M_lookSeen_5 (by decide) ?_
  refine jw_istore_n (pc := 6) (lv' := [(0, .ref (am 0)), (1, .int (nI r)), (2, .int (nI 0))]) F d_M_lookSeen_6 rfl (by decide) rfl ?_
  refine jw_iconst (pc := 7) (v := nI 0) F d_M_lookSeen_7 (by decide) ?_
  refine jw_istore_n (pc := 8) (lv' := [(0, .ref (am 0)), (1, .int (nI r)), (2, .int (nI 0)), (3, .int (nI 0))]) F d_M_lookSeen_8 rfl (by decide) rfl ?_
  exact loop M.length 0 g0 (by omega) (td_0 _) (fun j hj _ => hM0 j hj)
set_option maxHeartbeats 4000000 in
set_option maxRecDepth 100000 in
theorem m_at_1 (l : Launch) (D : va_G) (am : Nat → Nat) (cB cI cL : ClassId) (go gc gb gd gh gr gt gk : Nat → Int32) (gn : Nat → Int64) (er op sz : Int32) (a : AS) (hQ : mx_R a go gc gb gd gh gn op) (r : Int32) (hr : a_isrep r = false) (tt : Int32) : jw_Mi l D vCl (vTy cB cI cL) y_M_at s_M_at rm_M_at [.ref (am 0), .int r, .int tt] (wM am cB cI cL go gc gb gd gh gr gt gk gn er op sz) (fun r9 w9 => r9 = 0 ∧ w9 = wM am cB cI cL go gc gb gd gh gr gt gk gn 1 op sz) := by
  refine jw_ofi (cc := b_M_at) (nL := 3) (ret := (some .int)) (by decide) rfl (Nat.le_of_ble_eq_true rfl) (fun p e s m args below meth c A F hnm => ?_)
  refine jw_at (lv' := [(0, .ref (am 0)), (1, .int r), (2, .int tt)]) (st' := []) (ws' := wM am cB cI cL go gc gb gd gh gr gt gk gn er op sz) rfl rfl rfl ?_
  refine jw_aload_n (pc := 0) F 0 d_M_at_0 rfl rfl ?_
  refine jw_iconst (pc := 1) (v := 0) F d_M_at_1 (by decide) ?_
  refine jw_put (pc := 2) (v := .int 0) (ty := .int) (ws' := wM am cB cI cL go gc gb gd gh gr gt gk gn 0 op sz) F (jms inM) tM tM_ok nmM 0 rfl rfl 0 (by decide) (jm w_342) rfl (by decide +kernel) rfl rfl (Nat.le_of_ble_eq_true rfl) d_M_at_2 rfl ?_
  refine jw_aload_n (pc := 5) F 0 d_M_at_5 rfl rfl ?_
  refine jw_iload_n (pc := 6) F 1 d_M_at_6 rfl rfl ?_
  refine jw_callS_Ei (pc := 7) (As := [.int r]) (rest := [.ref (am 0)]) F (m_isReplica l D cB cI cL r) (jw_cwS F.1.2.2.2.2 wl_good w_387 w_388 w_30 w_389 hd_M_isReplica ⟨by decide, by decide⟩) rfl rfl (Nat.le_of_ble_eq_true rfl) d_M_at_7 ⟨rfl, rfl⟩ ⟨by decide, by decide⟩ ?_
  refine jw_if_ne (pc := 10) F 17 d_M_at_10 (by decide) (fun hz1 => False.elim (absurd (jb_n.mp hz1) (by rw [hr]; decide))) (fun hz1 => ?_)
  refine jw_iconst (pc := 13) (v := 1) F d_M_at_13 (by decide) ?_
  refine jw_goto (pc := 14) F 18 d_M_at_14 (by decide) ?_
  refine jw_iconst (pc := 18) (v := 1) F d_M_at_18 (by decide) ?_
  refine jw_callV_Ci (pc := 19) (As := [.int 1, .int 1]) (rest := []) F (m_failsT l D am cB cI cL go gc gb gd gh gr gt gk gn op sz true rfl 1 (by decide)) (jw_cwV F.1.2.2.2.2 wl_good w_394 w_396 w_17 w_30 w_397 hd_M_fails ⟨by decide, by decide⟩) 0 1 rfl rfl rfl rfl rfl rfl (Nat.le_of_ble_eq_true rfl) d_M_at_19 ⟨rfl, rfl⟩ ⟨by decide, by decide⟩ (fun r w hw => ?_)
  obtain ⟨rfl, rfl⟩ := hw
  refine jw_if_eq (pc := 22) F 27 d_M_at_22 (by decide) (fun hz2 => False.elim (absurd hz2 (by decide))) (fun hz2 => ?_)
  refine jw_iconst (pc := 25) (v := 0) F d_M_at_25 (by decide) ?_
  exact jw_iret F d_M_at_26 ⟨rfl, rfl⟩
set_option maxHeartbeats 4000000 in
set_option maxRecDepth 100000 in
theorem m_at_0 (l : Launch) (D : va_G) (am : Nat → Nat) (cB cI cL : ClassId) (go gc gb gd gh gr gt gk : Nat → Int32) (gn : Nat → Int64) (er op sz : Int32) (a : AS) (hQ : mx_R a go gc gb gd gh gn op) (L : List Nat) (hR : ab_row a L) (r : Nat) (hr : r < 4) (k : Int32) : jw_Mi l D vCl (vTy cB cI cL) y_M_at s_M_at rm_M_at [.ref (am 0), .int (nI r), .int k] (wM am cB cI cL go gc gb gd gh gr gt gk gn er op sz) (fun r9 w9 => r9 = gl_at (L.filter (a_seen a r)) k ∧ ∃ (k7 k8 k9 : Nat → Int32) (ks : Int32), w9 = wM am cB cI cL go gc gb gd gh k7 k8 k9 gn 0 op ks) := by
  refine jw_ofi (cc := b_M_at) (nL := 3) (ret := (some .int)) (by decide) rfl (Nat.le_of_ble_eq_true rfl) (fun p e s m args below meth c A F hnm => ?_)
  refine jw_at (lv' := [(0, .ref (am 0)), (1, .int (nI r)), (2, .int k)]) (st' := []) (ws' := wM am cB cI cL go gc gb gd gh gr gt gk gn er op sz) rfl rfl rfl ?_
  obtain ⟨hI, hA, hV⟩ := hQ
  have hn := hI.1
  have hsl := ab_seen_len (r := r) hI hR
  refine jw_aload_n (pc := 0) F 0 d_M_at_0 rfl rfl ?_
  refine jw_iconst (pc := 1) (v := 0) F d_M_at_1 (by decide) ?_
  refine jw_put (pc := 2) (v := .int 0) (ty := .int) (ws' := wM am cB cI cL go gc gb gd gh gr gt gk gn 0 op sz) F (jms inM) tM tM_ok nmM 0 rfl rfl 0 (by decide) (jm w_342) rfl (by decide +kernel) rfl rfl (Nat.le_of_ble_eq_true rfl) d_M_at_2 rfl ?_
  refine jw_aload_n (pc := 5) F 0 d_M_at_5 rfl rfl ?_
  refine jw_iload_n (pc := 6) F 1 d_M_at_6 rfl rfl ?_
  refine jw_callS_Ei (pc := 7) (As := [.int (nI r)]) (rest := [.ref (am 0)]) F (m_isReplica l D cB cI cL (nI r)) (jw_cwS F.1.2.2.2.2 wl_good w_387 w_388 w_30 w_389 hd_M_isReplica ⟨by decide, by decide⟩) rfl rfl (Nat.le_of_ble_eq_true rfl) d_M_at_7 ⟨rfl, rfl⟩ ⟨by decide, by decide⟩ ?_
  refine jw_if_ne (pc := 10) F 17 d_M_at_10 (by decide) (fun hz1 => ?_) (fun hz1 => False.elim (absurd (jb_0.mp hz1) (by rw [m_isrep_nI hr]; decide)))
  refine jw_iconst (pc := 17) (v := 0) F d_M_at_17 (by decide) ?_
  refine jw_iconst (pc := 18) (v := 1) F d_M_at_18 (by decide) ?_
  refine jw_callV_Ei (pc := 19) (As := [.int 0, .int 1]) (rest := []) F ([]) ([]) (m_failsF l D am cB cI cL go gc gb gd gh gr gt gk gn op sz false rfl 1) (jw_cwV F.1.2.2.2.2 wl_good w_394 w_396 w_17 w_30 w_397 hd_M_fails ⟨by decide, by decide⟩) 0 1 rfl rfl rfl (by simp) rfl rfl (Nat.le_of_ble_eq_true rfl) d_M_at_19 ⟨rfl, rfl⟩ ⟨by decide, by decide⟩ ?_
  refine jw_if_eq (pc := 22) F 27 d_M_at_22 (by decide) (fun hz2 => ?_) (fun hz2 => False.elim (hz2 rfl))
  refine jw_aload_n (pc := 27) F 0 d_M_at_27 rfl rfl ?_
  refine jw_iload_n (pc := 28) F 1 d_M_at_28 rfl rfl ?_
  refine jw_callV_Cv (pc := 29) (As := [.int (nI r)]) (rest := []) F (m_lookSeen l D am cB cI cL go gc gb gd gh gr gt gk gn 0 op sz a hI hA L hR r hr) (jw_cwV F.1.2.2.2.2 wl_good w_439 w_441 w_23 w_30 w_442 hd_M_lookSeen ⟨by decide, by decide⟩) 0 1 rfl rfl rfl rfl rfl rfl (Nat.le_of_ble_eq_true rfl) d_M_at_29 ⟨rfl, rfl⟩ ⟨by decide, by decide⟩ (fun w hw => ?_)
  obtain ⟨g7, g8, rfl, h7⟩ := hw
  refine jw_iload_n (pc := 32) F 2 d_M_at_32 rfl rfl ?_
  refine jw_i2l (pc := 33) F d_M_at_33 ?_
  refine jw_lconst (pc := 34) (v := 0) F d_M_at_34 (by decide) ?_
  refine jw_aload_n (pc := 35) F 0 d_M_at_35 rfl rfl ?_
  refine jw_get (pc := 36) F (jms inM) 0 rfl rfl 11 (by decide) (jm w_353) rfl d_M_at_36 ?_
  refine jw_iconst (pc := 39) (v := nI 1) F d_M_at_39 (by decide) ?_
  refine jw_isub (pc := 40) F d_M_at_40 ?_
  refine jw_i2l (pc := 41) F d_M_at_41 ?_
  refine jw_callS_Ei (pc := 42) (As := [.long (k.toInt64), .long 0, .long (((nI (L.filter (a_seen a r)).length) - (nI 1)).toInt64)]) (rest := []) F (m_in_c l D cB cI cL k.toInt64 0 (nI (L.filter (a_seen a r)).length - nI 1).toInt64) (jw_cwS F.1.2.2.2.2 wl_good w_391 w_392 w_30 w_393 hd_M_in ⟨by decide, by decide⟩) rfl rfl (Nat.le_of_ble_eq_true rfl) d_M_at_42 ⟨rfl, rfl⟩ ⟨by decide, by decide⟩ ?_
  rw [m_in_op k (by omega)]
  refine jw_if_eq (pc := 45) F 57 d_M_at_45 (by decide) (fun h1 => ?_) (fun h1 => ?_)
  · refine jw_iconst (pc := 57) (v := -1) F d_M_at_57 (by decide) ?_
    exact jw_iret F d_M_at_58 ⟨(gl_at_none (fun j hj hk => Nat.le_of_not_lt (fun q => absurd (jb_0.mp h1) (by rw [hk, a_isop_nI (by omega) q]; decide)))).symm, _, _, _, _, rfl⟩
  · obtain ⟨j, hj, rfl⟩ := a_isop_t (by omega) (jb_n.mp h1)
    refine jw_aload_n (pc := 48) F 0 d_M_at_48 rfl rfl ?_
    refine jw_get (pc := 49) F (jms inM) 0 rfl rfl 8 (by decide) (jm w_350) rfl d_M_at_49 ?_
    refine jw_iload_n (pc := 52) F 2 d_M_at_52 rfl rfl ?_
    refine jw_ialdN (pc := 53) F 7 1 rfl rfl j rfl (by omega) (by decide) d_M_at_53 ?_
    refine jw_goto (pc := 54) F 58 d_M_at_54 (by decide) ?_
    rw [h7 j hj]
    exact jw_iret F d_M_at_58 ⟨(gl_at_nI (by omega) (List.getElem?_eq_getElem hj)).symm, _, _, _, _, rfl⟩
set_option maxHeartbeats 4000000 in
set_option maxRecDepth 100000 in
theorem m_place_1 (l : Launch) (D : va_G) (am : Nat → Nat) (cB cI cL : ClassId) (go gc gb gd gh gr gt gk : Nat → Int32) (gn : Nat → Int64) (er op sz : Int32) (a : AS) (hQ : mx_R a go gc gb gd gh gn op) (r : Int32) (hr : a_isrep r = false) (tt : Int32) : jw_Mi l D vCl (vTy cB cI cL) y_M_place s_M_place rm_M_place [.ref (am 0), .int r, .int tt] (wM am cB cI cL go gc gb gd gh gr gt gk gn er op sz) (fun r9 w9 => r9 = 0 ∧ w9 = wM am cB cI cL go gc gb gd gh gr gt gk gn 1 op sz) := by
  refine jw_ofi (cc := b_M_place) (nL := 4) (ret := (some .int)) (by decide) rfl (Nat.le_of_ble_eq_true rfl) (fun p e s m args below meth c A F hnm => ?_)
  refine jw_at (lv' := [(0, .ref (am 0)), (1, .int r), (2, .int tt)]) (st' := []) (ws' := wM am cB cI cL go gc gb gd gh gr gt gk gn er op sz) rfl rfl rfl ?_
  refine jw_aload_n (pc := 0) F 0 d_M_place_0 rfl rfl ?_
  refine jw_iconst (pc := 1) (v := 0) F d_M_place_1 (by decide) ?_
  refine jw_put (pc := 2) (v := .int 0) (ty := .int) (ws' := wM am cB cI cL go gc gb gd gh gr gt gk gn 0 op sz) F (jms inM) tM tM_ok nmM 0 rfl rfl 0 (by decide) (jm w_342) rfl (by decide +kernel) rfl rfl (Nat.le_of_ble_eq_true rfl) d_M_place_2 rfl ?_
  refine jw_aload_n (pc := 5) F 0 d_M_place_5 rfl rfl ?_
  refine jw_iload_n (pc := 6) F 1 d_M_place_6 rfl rfl ?_
  refine jw_callS_Ei (pc := 7) (As := [.int r]) (rest := [.ref (am 0)]) F (m_isReplica l D cB cI cL r) (jw_cwS F.1.2.2.2.2 wl_good w_387 w_388 w_30 w_389 hd_M_isReplica ⟨by decide, by decide⟩) rfl rfl (Nat.le_of_ble_eq_true rfl) d_M_place_7 ⟨rfl, rfl⟩ ⟨by decide, by decide⟩ ?_
  refine jw_if_ne (pc := 10) F 17 d_M_place_10 (by decide) (fun hz1 => False.elim (absurd (jb_n.mp hz1) (by rw [hr]; decide))) (fun hz1 => ?_)
  refine jw_iconst (pc := 13) (v := 1) F d_M_place_13 (by decide) ?_
  refine jw_goto (pc := 14) F 18 d_M_place_14 (by decide) ?_
  refine jw_iconst (pc := 18) (v := 1) F d_M_place_18 (by decide) ?_
  refine jw_callV_Ci (pc := 19) (As := [.int 1, .int 1]) (rest := []) F (m_failsT l D am cB cI cL go gc gb gd gh gr gt gk gn op sz true rfl 1 (by decide)) (jw_cwV F.1.2.2.2.2 wl_good w_394 w_396 w_17 w_30 w_397 hd_M_fails ⟨by decide, by decide⟩) 0 1 rfl rfl rfl rfl rfl rfl (Nat.le_of_ble_eq_true rfl) d_M_place_19 ⟨rfl, rfl⟩ ⟨by decide, by decide⟩ (fun r w hw => ?_)
  obtain ⟨rfl, rfl⟩ := hw
  refine jw_if_ne (pc := 22) F 68 d_M_place_22 (by decide) (fun hz2 => ?_) (fun hz2 => False.elim (absurd hz2 (by decide)))
  refine jw_iconst (pc := 68) (v := 0) F d_M_place_68 (by decide) ?_
  exact jw_iret F d_M_place_69 ⟨rfl, rfl⟩
set_option maxHeartbeats 4000000 in
set_option maxRecDepth 100000 in
theorem m_place_2 (l : Launch) (D : va_G) (am : Nat → Nat) (cB cI cL : ClassId) (go gc gb gd gh gr gt gk : Nat → Int32) (gn : Nat → Int64) (er op sz : Int32) (a : AS) (hQ : mx_R a go gc gb gd gh gn op) (r : Nat) (hr : r < 4) (tt : Int32) (ht : a_isop (a_n a) tt = false) : jw_Mi l D vCl (vTy cB cI cL) y_M_place s_M_place rm_M_place [.ref (am 0), .int (nI r), .int tt] (wM am cB cI cL go gc gb gd gh gr gt gk gn er op sz) (fun r9 w9 => r9 = 0 ∧ w9 = wM am cB cI cL go gc gb gd gh gr gt gk gn 2 op sz) := by
  refine jw_ofi (cc := b_M_place) (nL := 4) (ret := (some .int)) (by decide) rfl (Nat.le_of_ble_eq_true rfl) (fun p e s m args below meth c A F hnm => ?_)
  refine jw_at (lv' := [(0, .ref (am 0)), (1, .int (nI r)), (2, .int tt)]) (st' := []) (ws' := wM am cB cI cL go gc gb gd gh gr gt gk gn er op sz) rfl rfl rfl ?_
  obtain ⟨hI, hA, hV⟩ := hQ
  have hn := hI.1
  refine jw_aload_n (pc := 0) F 0 d_M_place_0 rfl rfl ?_
  refine jw_iconst (pc := 1) (v := 0) F d_M_place_1 (by decide) ?_
  refine jw_put (pc := 2) (v := .int 0) (ty := .int) (ws' := wM am cB cI cL go gc gb gd gh gr gt gk gn 0 op sz) F (jms inM) tM tM_ok nmM 0 rfl rfl 0 (by decide) (jm w_342) rfl (by decide +kernel) rfl rfl (Nat.le_of_ble_eq_true rfl) d_M_place_2 rfl ?_
  refine jw_aload_n (pc := 5) F 0 d_M_place_5 rfl rfl ?_
  refine jw_iload_n (pc := 6) F 1 d_M_place_6 rfl rfl ?_
  refine jw_callS_Ei (pc := 7) (As := [.int (nI r)]) (rest := [.ref (am 0)]) F (m_isReplica l D cB cI cL (nI r)) (jw_cwS F.1.2.2.2.2 wl_good w_387 w_388 w_30 w_389 hd_M_isReplica ⟨by decide, by decide⟩) rfl rfl (Nat.le_of_ble_eq_true rfl) d_M_place_7 ⟨rfl, rfl⟩ ⟨by decide, by decide⟩ ?_
  refine jw_if_ne (pc := 10) F 17 d_M_place_10 (by decide) (fun hz1 => ?_) (fun hz1 => False.elim (absurd (jb_0.mp hz1) (by rw [m_isrep_nI hr]; decide)))
  refine jw_iconst (pc := 17) (v := 0) F d_M_place_17 (by decide) ?_
  refine jw_iconst (pc := 18) (v := 1) F d_M_place_18 (by decide) ?_
  refine jw_callV_Ei (pc := 19) (As := [.int 0, .int 1]) (rest := []) F ([]) ([]) (m_failsF l D am cB cI cL go gc gb gd gh gr gt gk gn op sz false rfl 1) (jw_cwV F.1.2.2.2.2 wl_good w_394 w_396 w_17 w_30 w_397 hd_M_fails ⟨by decide, by decide⟩) 0 1 rfl rfl rfl (by simp) rfl rfl (Nat.le_of_ble_eq_true rfl) d_M_place_19 ⟨rfl, rfl⟩ ⟨by decide, by decide⟩ ?_
  refine jw_if_ne (pc := 22) F 68 d_M_place_22 (by decide) (fun hz2 => False.elim (hz2 rfl)) (fun hz2 => ?_)
  refine jw_aload_n (pc := 25) F 0 d_M_place_25 rfl rfl ?_
  refine jw_aload_n (pc := 26) F 0 d_M_place_26 rfl rfl ?_
  refine jw_iload_n (pc := 27) F 2 d_M_place_27 rfl rfl ?_
  refine jw_callV_Ei (pc := 28) (As := [.int tt]) (rest := [.ref (am 0)]) F ([]) ([]) (m_isThere l D am cB cI cL go gc gb gd gh gr gt gk gn 0 op sz (a_n a) hn hA.1 tt) (jw_cwV F.1.2.2.2.2 wl_good w_402 w_404 w_19 w_30 w_405 hd_M_isThere ⟨by decide, by decide⟩) 0 1 rfl rfl rfl (by simp) rfl rfl (Nat.le_of_ble_eq_true rfl) d_M_place_28 ⟨rfl, rfl⟩ ⟨by decide, by decide⟩ ?_
  refine jw_if_ne (pc := 31) F 38 d_M_place_31 (by decide) (fun hz3 => False.elim (absurd (jb_n.mp hz3) (by rw [ht]; decide))) (fun hz3 => ?_)
  refine jw_iconst (pc := 34) (v := 1) F d_M_place_34 (by decide) ?_
  refine jw_goto (pc := 35) F 39 d_M_place_35 (by decide) ?_
  refine jw_iconst (pc := 39) (v := 2) F d_M_place_39 (by decide) ?_
  refine jw_callV_Ci (pc := 40) (As := [.int 1, .int 2]) (rest := []) F (m_failsT l D am cB cI cL go gc gb gd gh gr gt gk gn op sz true rfl 2 (by decide)) (jw_cwV F.1.2.2.2.2 wl_good w_394 w_396 w_17 w_30 w_397 hd_M_fails ⟨by decide, by decide⟩) 0 1 rfl rfl rfl rfl rfl rfl (Nat.le_of_ble_eq_true rfl) d_M_place_40 ⟨rfl, rfl⟩ ⟨by decide, by decide⟩ (fun r w hw => ?_)
  obtain ⟨rfl, rfl⟩ := hw
  refine jw_if_ne (pc := 43) F 68 d_M_place_43 (by decide) (fun hz4 => ?_) (fun hz4 => False.elim (absurd hz4 (by decide)))
  refine jw_iconst (pc := 68) (v := 0) F d_M_place_68 (by decide) ?_
  exact jw_iret F d_M_place_69 ⟨rfl, rfl⟩
set_option maxHeartbeats 4000000 in
set_option maxRecDepth 100000 in
theorem m_place_3 (l : Launch) (D : va_G) (am : Nat → Nat) (cB cI cL : ClassId) (go gc gb gd gh gr gt gk : Nat → Int32) (gn : Nat → Int64) (er op sz : Int32) (a : AS) (hQ : mx_R a go gc gb gd gh gn op) (r : Nat) (hr : r < 4) (tt : Int32) (ht : a_isop (a_n a) tt = true) (hh : a_haseB a r tt = false) : jw_Mi l D vCl (vTy cB cI cL) y_M_place s_M_place rm_M_place [.ref (am 0), .int (nI r), .int tt] (wM am cB cI cL go gc gb gd gh gr gt gk gn er op sz) (fun r9 w9 => r9 = 0 ∧ w9 = wM am cB cI cL go gc gb gd gh gr gt gk gn 3 op sz) := by
  refine jw_ofi (cc := b_M_place) (nL := 4) (ret := (some .int)) (by decide) rfl (Nat.le_of_ble_eq_true rfl) (fun p e s m args below meth c A F hnm => ?_)
  refine jw_at (lv' := [(0, .ref (am 0)), (1, .int (nI r)), (2, .int tt)]) (st' := []) (ws' := wM am cB cI cL go gc gb gd gh gr gt gk gn er op sz) rfl rfl rfl ?_
  obtain ⟨hI, hA, hV⟩ := hQ
  have hn := hI.1
  refine jw_aload_n (pc := 0) F 0 d_M_place_0 rfl rfl ?_
  refine jw_iconst (pc := 1) (v := 0) F d_M_place_1 (by decide) ?_
  refine jw_put (pc := 2) (v := .int 0) (ty := .int) (ws' := wM am cB cI cL go gc gb gd gh gr gt gk gn 0 op sz) F (jms inM) tM tM_ok nmM 0 rfl rfl 0 (by decide) (jm w_342) rfl (by decide +kernel) rfl rfl (Nat.le_of_ble_eq_true rfl) d_M_place_2 rfl ?_
  refine jw_aload_n (pc := 5) F 0 d_M_place_5 rfl rfl ?_
  refine jw_iload_n (pc := 6) F 1 d_M_place_6 rfl rfl ?_
  refine jw_callS_Ei (pc := 7) (As := [.int (nI r)]) (rest := [.ref (am 0)]) F (m_isReplica l D cB cI cL (nI r)) (jw_cwS F.1.2.2.2.2 wl_good w_387 w_388 w_30 w_389 hd_M_isReplica ⟨by decide, by decide⟩) rfl rfl (Nat.le_of_ble_eq_true rfl) d_M_place_7 ⟨rfl, rfl⟩ ⟨by decide, by decide⟩ ?_
  refine jw_if_ne (pc := 10) F 17 d_M_place_10 (by decide) (fun hz1 => ?_) (fun hz1 => False.elim (absurd (jb_0.mp hz1) (by rw [m_isrep_nI hr]; decide)))
  refine jw_iconst (pc := 17) (v := 0) F d_M_place_17 (by decide) ?_
  refine jw_iconst (pc := 18) (v := 1) F d_M_place_18 (by decide) ?_
  refine jw_callV_Ei (pc := 19) (As := [.int 0, .int 1]) (rest := []) F ([]) ([]) (m_failsF l D am cB cI cL go gc gb gd gh gr gt gk gn op sz false rfl 1) (jw_cwV F.1.2.2.2.2 wl_good w_394 w_396 w_17 w_30 w_397 hd_M_fails ⟨by decide, by decide⟩) 0 1 rfl rfl rfl (by simp) rfl rfl (Nat.le_of_ble_eq_true rfl) d_M_place_19 ⟨rfl, rfl⟩ ⟨by decide, by decide⟩ ?_
  refine jw_if_ne (pc := 22) F 68 d_M_place_22 (by decide) (fun hz2 => False.elim (hz2 rfl)) (fun hz2 => ?_)
  refine jw_aload_n (pc := 25) F 0 d_M_place_25 rfl rfl ?_
  refine jw_aload_n (pc := 26) F 0 d_M_place_26 rfl rfl ?_
  refine jw_iload_n (pc := 27) F 2 d_M_place_27 rfl rfl ?_
  refine jw_callV_Ei (pc := 28) (As := [.int tt]) (rest := [.ref (am 0)]) F ([]) ([]) (m_isThere l D am cB cI cL go gc gb gd gh gr gt gk gn 0 op sz (a_n a) hn hA.1 tt) (jw_cwV F.1.2.2.2.2 wl_good w_402 w_404 w_19 w_30 w_405 hd_M_isThere ⟨by decide, by decide⟩) 0 1 rfl rfl rfl (by simp) rfl rfl (Nat.le_of_ble_eq_true rfl) d_M_place_28 ⟨rfl, rfl⟩ ⟨by decide, by decide⟩ ?_
  refine jw_if_ne (pc := 31) F 38 d_M_place_31 (by decide) (fun hz3 => ?_) (fun hz3 => False.elim (absurd (jb_0.mp hz3) (by rw [ht]; decide)))
  refine jw_iconst (pc := 38) (v := 0) F d_M_place_38 (by decide) ?_
  refine jw_iconst (pc := 39) (v := 2) F d_M_place_39 (by decide) ?_
  refine jw_callV_Ei (pc := 40) (As := [.int 0, .int 2]) (rest := []) F ([]) ([]) (m_failsF l D am cB cI cL go gc gb gd gh gr gt gk gn op sz false rfl 2) (jw_cwV F.1.2.2.2.2 wl_good w_394 w_396 w_17 w_30 w_397 hd_M_fails ⟨by decide, by decide⟩) 0 1 rfl rfl rfl (by simp) rfl rfl (Nat.le_of_ble_eq_true rfl) d_M_place_40 ⟨rfl, rfl⟩ ⟨by decide, by decide⟩ ?_
  refine jw_if_ne (pc := 43) F 68 d_M_place_43 (by decide) (fun hz4 => False.elim (hz4 rfl)) (fun hz4 => ?_)
  refine jw_aload_n (pc := 46) F 0 d_M_place_46 rfl rfl ?_
  refine jw_aload_n (pc := 47) F 0 d_M_place_47 rfl rfl ?_
  refine jw_iload_n (pc := 48) F 1 d_M_place_48 rfl rfl ?_
  refine jw_iload_n (pc := 49) F 2 d_M_place_49 rfl rfl ?_
  refine jw_callV_Ei (pc := 50) (As := [.int (nI r), .int tt]) (rest := [.ref (am 0)]) F ([]) ([]) (m_hasElement l D am cB cI cL go gc gb gd gh gr gt gk gn 0 op sz a hI hA r hr tt) (jw_cwV F.1.2.2.2.2 wl_good w_398 w_400 w_18 w_30 w_401 hd_M_hasElement ⟨by decide, by decide⟩) 0 1 rfl rfl rfl (by simp) rfl rfl (Nat.le_of_ble_eq_true rfl) d_M_place_50 ⟨rfl, rfl⟩ ⟨by decide, by decide⟩ ?_
  refine jw_if_ne (pc := 53) F 60 d_M_place_53 (by decide) (fun hz5 => False.elim (absurd (jb_n.mp hz5) (by rw [hh]; decide))) (fun hz5 => ?_)
  refine jw_iconst (pc := 56) (v := 1) F d_M_place_56 (by decide) ?_
  refine jw_goto (pc := 57) F 61 d_M_place_57 (by decide) ?_
  refine jw_iconst (pc := 61) (v := 3) F d_M_place_61 (by decide) ?_
  refine jw_callV_Ci (pc := 62) (As := [.int 1, .int 3]) (rest := []) F (m_failsT l D am cB cI cL go gc gb gd gh gr gt gk gn op sz true rfl 3 (by decide)) (jw_cwV F.1.2.2.2.2 wl_good w_394 w_396 w_17 w_30 w_397 hd_M_fails ⟨by decide, by decide⟩) 0 1 rfl rfl rfl rfl rfl rfl (Nat.le_of_ble_eq_true rfl) d_M_place_62 ⟨rfl, rfl⟩ ⟨by decide, by decide⟩ (fun r w hw => ?_)
  obtain ⟨rfl, rfl⟩ := hw
  refine jw_if_eq (pc := 65) F 70 d_M_place_65 (by decide) (fun hz6 => False.elim (absurd hz6 (by decide))) (fun hz6 => ?_)
  refine jw_iconst (pc := 68) (v := 0) F d_M_place_68 (by decide) ?_
  exact jw_iret F d_M_place_69 ⟨rfl, rfl⟩
set_option maxHeartbeats 4000000 in
set_option maxRecDepth 100000 in
theorem m_place_0 (l : Launch) (D : va_G) (am : Nat → Nat) (cB cI cL : ClassId) (go gc gb gd gh gr gt gk : Nat → Int32) (gn : Nat → Int64) (er op sz : Int32) (a : AS) (hQ : mx_R a go gc gb gd gh gn op) (L : List Nat) (hR : ab_row a L) (r : Nat) (hr : r < 4) (k : Nat) (hk : k < a_n a) (hd : a_dl a k = false) (hh : a_hd a r k = true) : jw_Mi l D vCl (vTy cB cI cL) y_M_place s_M_place rm_M_place [.ref (am 0), .int (nI r), .int (nI k)] (wM am cB cI cL go gc gb gd gh gr gt gk gn er op sz) (fun r9 w9 => (∃ (i : Nat) (h : i < (L.filter (a_hd a r)).length), (L.filter (a_hd a r))[i] = k ∧ r9 = nI i) ∧ ∃ (k7 k8 k9 : Nat → Int32) (ks : Int32), w9 = wM am cB cI cL go gc gb gd gh k7 k8 k9 gn 0 op ks) := by
  refine jw_ofi (cc := b_M_place) (nL := 4) (ret := (some .int)) (by decide) rfl (Nat.le_of_ble_eq_true rfl) (fun p e s m args below meth c A F hnm => ?_)
  refine jw_at (lv' := [(0, .ref (am 0)), (1, .int (nI r)), (2, .int (nI k))]) (st' := []) (ws' := wM am cB cI cL go gc gb gd gh gr gt gk gn er op sz) rfl rfl rfl ?_
  obtain ⟨hI, hA, hV⟩ := hQ
  have hn := hI.1
  refine jw_aload_n (pc := 0) F 0 d_M_place_0 rfl rfl ?_
  refine jw_iconst (pc := 1) (v := 0) F d_M_place_1 (by decide) ?_
  refine jw_put (pc := 2) (v := .int 0) (ty := .int) (ws' := wM am cB cI cL go gc gb gd gh gr gt gk gn 0 op sz) F (jms inM) tM tM_ok nmM 0 rfl rfl 0 (by decide) (jm w_342) rfl (by decide +kernel) rfl rfl (Nat.le_of_ble_eq_true rfl) d_M_place_2 rfl ?_
  refine jw_aload_n (pc := 5) F 0 d_M_place_5 rfl rfl ?_
  refine jw_iload_n (pc := 6) F 1 d_M_place_6 rfl rfl ?_
  refine jw_callS_Ei (pc := 7) (As := [.int (nI r)]) (rest := [.ref (am 0)]) F (m_isReplica l D cB cI cL (nI r)) (jw_cwS F.1.2.2.2.2 wl_good w_387 w_388 w_30 w_389 hd_M_isReplica ⟨by decide, by decide⟩) rfl rfl (Nat.le_of_ble_eq_true rfl) d_M_place_7 ⟨rfl, rfl⟩ ⟨by decide, by decide⟩ ?_
  refine jw_if_ne (pc := 10) F 17 d_M_place_10 (by decide) (fun hz1 => ?_) (fun hz1 => False.elim (absurd (jb_0.mp hz1) (by rw [m_isrep_nI hr]; decide)))
  refine jw_iconst (pc := 17) (v := 0) F d_M_place_17 (by decide) ?_
  refine jw_iconst (pc := 18) (v := 1) F d_M_place_18 (by decide) ?_
  refine jw_callV_Ei (pc := 19) (As := [.int 0, .int 1]) (rest := []) F ([]) ([]) (m_failsF l D am cB cI cL go gc gb gd gh gr gt gk gn op sz false rfl 1) (jw_cwV F.1.2.2.2.2 wl_good w_394 w_396 w_17 w_30 w_397 hd_M_fails ⟨by decide, by decide⟩) 0 1 rfl rfl rfl (by simp) rfl rfl (Nat.le_of_ble_eq_true rfl) d_M_place_19 ⟨rfl, rfl⟩ ⟨by decide, by decide⟩ ?_
  refine jw_if_ne (pc := 22) F 68 d_M_place_22 (by decide) (fun hz2 => False.elim (hz2 rfl)) (fun hz2 => ?_)
  refine jw_aload_n (pc := 25) F 0 d_M_place_25 rfl rfl ?_
  refine jw_aload_n (pc := 26) F 0 d_M_place_26 rfl rfl ?_
  refine jw_iload_n (pc := 27) F 2 d_M_place_27 rfl rfl ?_
  refine jw_callV_Ei (pc := 28) (As := [.int (nI k)]) (rest := [.ref (am 0)]) F ([]) ([]) (m_isThere l D am cB cI cL go gc gb gd gh gr gt gk gn 0 op sz (a_n a) hn hA.1 (nI k)) (jw_cwV F.1.2.2.2.2 wl_good w_402 w_404 w_19 w_30 w_405 hd_M_isThere ⟨by decide, by decide⟩) 0 1 rfl rfl rfl (by simp) rfl rfl (Nat.le_of_ble_eq_true rfl) d_M_place_28 ⟨rfl, rfl⟩ ⟨by decide, by decide⟩ ?_
  refine jw_if_ne (pc := 31) F 38 d_M_place_31 (by decide) (fun hz3 => ?_) (fun hz3 => False.elim (absurd (jb_0.mp hz3) (by rw [a_isop_nI (by omega) hk]; decide)))
  refine jw_iconst (pc := 38) (v := 0) F d_M_place_38 (by decide) ?_
  refine jw_iconst (pc := 39) (v := 2) F d_M_place_39 (by decide) ?_
  refine jw_callV_Ei (pc := 40) (As := [.int 0, .int 2]) (rest := []) F ([]) ([]) (m_failsF l D am cB cI cL go gc gb gd gh gr gt gk gn op sz false rfl 2) (jw_cwV F.1.2.2.2.2 wl_good w_394 w_396 w_17 w_30 w_397 hd_M_fails ⟨by decide, by decide⟩) 0 1 rfl rfl rfl (by simp) rfl rfl (Nat.le_of_ble_eq_true rfl) d_M_place_40 ⟨rfl, rfl⟩ ⟨by decide, by decide⟩ ?_
  refine jw_if_ne (pc := 43) F 68 d_M_place_43 (by decide) (fun hz4 => False.elim (hz4 rfl)) (fun hz4 => ?_)
  refine jw_aload_n (pc := 46) F 0 d_M_place_46 rfl rfl ?_
  refine jw_aload_n (pc := 47) F 0 d_M_place_47 rfl rfl ?_
  refine jw_iload_n (pc := 48) F 1 d_M_place_48 rfl rfl ?_
  refine jw_iload_n (pc := 49) F 2 d_M_place_49 rfl rfl ?_
  refine jw_callV_Ei (pc := 50) (As := [.int (nI r), .int (nI k)]) (rest := [.ref (am 0)]) F ([]) ([]) (m_hasElement l D am cB cI cL go gc gb gd gh gr gt gk gn 0 op sz a hI hA r hr (nI k)) (jw_cwV F.1.2.2.2.2 wl_good w_398 w_400 w_18 w_30 w_401 hd_M_hasElement ⟨by decide, by decide⟩) 0 1 rfl rfl rfl (by simp) rfl rfl (Nat.le_of_ble_eq_true rfl) d_M_place_50 ⟨rfl, rfl⟩ ⟨by decide, by decide⟩ ?_
  refine jw_if_ne (pc := 53) F 60 d_M_place_53 (by decide) (fun hz5 => ?_) (fun hz5 => False.elim (absurd (jb_0.mp hz5) (by rw [show a_haseB a r (nI k) = true by rw [a_haseB_nI hn hk, hd, hh]; rfl]; decide)))
  refine jw_iconst (pc := 60) (v := 0) F d_M_place_60 (by decide) ?_
  refine jw_iconst (pc := 61) (v := 3) F d_M_place_61 (by decide) ?_
  refine jw_callV_Ei (pc := 62) (As := [.int 0, .int 3]) (rest := []) F ([]) ([]) (m_failsF l D am cB cI cL go gc gb gd gh gr gt gk gn op sz false rfl 3) (jw_cwV F.1.2.2.2.2 wl_good w_394 w_396 w_17 w_30 w_397 hd_M_fails ⟨by decide, by decide⟩) 0 1 rfl rfl rfl (by simp) rfl rfl (Nat.le_of_ble_eq_true rfl) d_M_place_62 ⟨rfl, rfl⟩ ⟨by decide, by decide⟩ ?_
  refine jw_if_eq (pc := 65) F 70 d_M_place_65 (by decide) (fun hz6 => ?_) (fun hz6 => False.elim (hz6 rfl))
  refine jw_aload_n (pc := 70) F 0 d_M_place_70 rfl rfl ?_
  refine jw_iload_n (pc := 71) F 1 d_M_place_71 rfl rfl ?_
  refine jw_callV_Cv (pc := 72) (As := [.int (nI r)]) (rest := []) F (m_look l D am cB cI cL go gc gb gd gh gr gt gk gn 0 op sz a hI hA r hr) (jw_cwV F.1.2.2.2.2 wl_good w_443 w_445 w_24 w_30 w_446 hd_M_look ⟨by decide, by decide⟩) 0 1 rfl rfl rfl rfl rfl rfl (Nat.le_of_ble_eq_true rfl) d_M_place_72 ⟨rfl, rfl⟩ ⟨by decide, by decide⟩ (fun w hw => ?_)
  obtain ⟨g7, g8, M, rfl, h7, hM⟩ := hw
  obtain ⟨hl, hMn⟩ := ab_own_len hI hM
  have hML := ab_own_eq hI hR hM
  have loop : ∀ (t i : Nat), i + t = M.length → (∀ j (h : j < M.length), j < i → M[j] ≠ k) → jw_J p l e rm_M_place s m args below meth c D vCl A 4 (MQ below (va_Qi (fun r9 w9 => (∃ (i : Nat) (h : i < (L.filter (a_hd a r)).length), (L.filter (a_hd a r))[i] = k ∧ r9 = nI i) ∧ ∃ (k7 k8 k9 : Nat → Int32) (ks : Int32), w9 = wM am cB cI cL go gc gb gd gh k7 k8 k9 gn 0 op ks) (jw_B D vCl (vTy cB cI cL) A) A) args s rm_M_place.cells rm_M_place.slots A) 0 0 77 [(0, .ref (am 0)), (1, .int (nI r)), (2, .int (nI k)), (3, .int (nI i))] [] (wM am cB cI cL go gc gb gd gh g7 g8 gk gn 0 op (nI M.length)) := by
    intro t
    induction t with
    | zero =>
      intro i hi hc
      exfalso
      obtain ⟨j, hj, g⟩ := List.getElem_of_mem ((hM.2.1 k).mpr ⟨hk, hd, hh⟩)
      exact hc j hj (by omega) g
    | succ t ih =>
      intro i hi hc
      have hlt : i < M.length := by omega
      have hm := hMn _ (List.getElem_mem hlt)
      refine jw_iload_n (pc := 77) F 3 d_M_place_77 rfl rfl ?_
      refine jw_aload_n (pc := 78) F 0 d_M_place_78 rfl rfl ?_
      refine jw_get (pc := 79) F (jms inM) 0 rfl rfl 11 (by decide) (jm w_353) rfl d_M_place_79 ?_
      refine jw_icmp_ge (pc := 82) F 103 d_M_place_82 (by decide) (fun hz7 => False.elim (nI_ge hlt (by omega) hz7)) (fun hz7 => ?_)
      refine jw_aload_n (pc := 85) F 0 d_M_place_85 rfl rfl ?_
      refine jw_get (pc := 86) F (jms inM) 0 rfl rfl 8 (by decide) (jm w_350) rfl d_M_place_86 ?_
      refine jw_iload_n (pc := 89) F 3 d_M_place_89 rfl rfl ?_
      refine jw_ialdN (pc := 90) F 7 1 rfl rfl i rfl (by omega) (by decide) d_M_place_90 ?_
      rw [h7 i hlt]
      refine jw_iload_n (pc := 91) F 2 d_M_place_91 rfl rfl ?_
      refine jw_icmp_ne (pc := 92) F 97 d_M_place_92 (by decide) (fun h1 => ?_) (fun h1 => ?_)
      · refine jw_iinc (pc := 97) (v := nI (i + 1)) (lv' := [(0, .ref (am 0)), (1, .int (nI r)), (2, .int (nI k)), (3, .int (nI (i + 1)))]) F 3 d_M_place_97 rfl (jw_inc _) (by decide) rfl ?_
        refine jw_goto (pc := 100) F 77 d_M_place_100 (by decide) ?_
        exact ih (i + 1) (by omega) (fun j hj hji g => by
            by_cases e1 : j = i
            · subst e1; exact h1 (by rw [g])
            · exact hc j hj (by omega) g)
      · refine jw_iload_n (pc := 95) F 3 d_M_place_95 rfl rfl ?_
        exact jw_iret F d_M_place_96 ⟨by rw [← hML]; exact ⟨i, hlt, ab_nI_inj (by omega) (by omega) h1, rfl⟩, _, _, _, _, rfl⟩
  refine jw_iconst (pc := 75) (v := nI 0) F d_M_place_75 (by decide) ?_
  refine jw_istore_n (pc := 76) (lv' := [(0, .ref (am 0)), (1, .int (nI r)), (2, .int (nI k)), (3, .int (nI 0))]) F d_M_place_76 rfl (by decide) rfl ?_
  exact loop M.length 0 (by omega) (fun j _ hj => absurd hj (Nat.not_lt_zero j))
set_option maxHeartbeats 4000000 in
set_option maxRecDepth 100000 in
theorem m_count_v2 (l : Launch) (D : va_G) (am : Nat → Nat) (cB cI cL : ClassId) (go gc gb gd gh gr gt gk : Nat → Int32) (gn : Nat → Int64) (er op sz : Int32) (a : AS) (hQ : mx_R a go gc gb gd gh gn op) (L : List Nat) (hR : ab_row a L) (r : Nat) (hr : r < 4) : jw_Mi l D vCl (vTy cB cI cL) y_M_count s_M_count rm_M_count [.ref (am 0), .int (nI r), .int (nI 2)] (wM am cB cI cL go gc gb gd gh gr gt gk gn er op sz) (fun r9 w9 => r9 = nI (L.filter (a_seen a r)).length ∧ ∃ (k7 k8 k9 : Nat → Int32) (ks : Int32), w9 = wM am cB cI cL go gc gb gd gh k7 k8 k9 gn 0 op ks) := by
  refine jw_ofi (cc := b_M_count) (nL := 5) (ret := (some .int)) (by decide) rfl (Nat.le_of_ble_eq_true rfl) (fun p e s m args below meth c A F hnm => ?_)
  refine jw_at (lv' := [(0, .ref (am 0)), (1, .int (nI r)), (2, .int (nI 2))]) (st' := []) (ws' := wM am cB cI cL go gc gb gd gh gr gt gk gn er op sz) rfl rfl rfl ?_
  obtain ⟨hI, hA, hV⟩ := hQ
  have hn := hI.1
  refine jw_aload_n (pc := 0) F 0 d_M_count_0 rfl rfl ?_
  refine jw_iconst (pc := 1) (v := 0) F d_M_count_1 (by decide) ?_
  refine jw_put (pc := 2) (v := .int 0) (ty := .int) (ws' := wM am cB cI cL go gc gb gd gh gr gt gk gn 0 op sz) F (jms inM) tM tM_ok nmM 0 rfl rfl 0 (by decide) (jm w_342) rfl (by decide +kernel) rfl rfl (Nat.le_of_ble_eq_true rfl) d_M_count_2 rfl ?_
  refine jw_aload_n (pc := 5) F 0 d_M_count_5 rfl rfl ?_
  refine jw_iload_n (pc := 6) F 1 d_M_count_6 rfl rfl ?_
  refine jw_callS_Ei (pc := 7) (As := [.int (nI r)]) (rest := [.ref (am 0)]) F (m_isReplica l D cB cI cL (nI r)) (jw_cwS F.1.2.2.2.2 wl_good w_387 w_388 w_30 w_389 hd_M_isReplica ⟨by decide, by decide⟩) rfl rfl (Nat.le_of_ble_eq_true rfl) d_M_count_7 ⟨rfl, rfl⟩ ⟨by decide, by decide⟩ ?_
  refine jw_if_eq (pc := 10) F 25 d_M_count_10 (by decide) (fun hz1 => False.elim (absurd (jb_0.mp hz1) (by rw [m_isrep_nI hr]; decide))) (fun hz1 => ?_)
  refine jw_iload_n (pc := 13) F 2 d_M_count_13 rfl rfl ?_
  refine jw_i2l (pc := 14) F d_M_count_14 ?_
  refine jw_lconst (pc := 15) (v := 0) F d_M_count_15 (by decide) ?_
  refine jw_ldc2 (pc := 16) (v := 3) F d_M_count_16 (jm w_390) ?_
  refine jw_callS_Ei (pc := 19) (As := [.long ((nI 2).toInt64), .long 0, .long 3]) (rest := [.ref (am 0)]) F (m_in_c l D cB cI cL (nI 2).toInt64 0 3) (jw_cwS F.1.2.2.2.2 wl_good w_391 w_392 w_30 w_393 hd_M_in ⟨by decide, by decide⟩) rfl rfl (Nat.le_of_ble_eq_true rfl) d_M_count_19 ⟨rfl, rfl⟩ ⟨by decide, by decide⟩ ?_
  rw [m_in_rep]
  refine jw_if_ne (pc := 22) F 29 d_M_count_22 (by decide) (fun hz2 => ?_) (fun hz2 => False.elim (absurd (jb_0.mp hz2) (by rw [m_isrep_nI (by decide)]; decide)))
  refine jw_iconst (pc := 29) (v := 0) F d_M_count_29 (by decide) ?_
  refine jw_iconst (pc := 30) (v := 1) F d_M_count_30 (by decide) ?_
  refine jw_callV_Ei (pc := 31) (As := [.int 0, .int 1]) (rest := []) F ([]) ([]) (m_failsF l D am cB cI cL go gc gb gd gh gr gt gk gn op sz false rfl 1) (jw_cwV F.1.2.2.2.2 wl_good w_394 w_396 w_17 w_30 w_397 hd_M_fails ⟨by decide, by decide⟩) 0 1 rfl rfl rfl (by simp) rfl rfl (Nat.le_of_ble_eq_true rfl) d_M_count_31 ⟨rfl, rfl⟩ ⟨by decide, by decide⟩ ?_
  refine jw_if_eq (pc := 34) F 39 d_M_count_34 (by decide) (fun hz3 => ?_) (fun hz3 => False.elim (hz3 rfl))
  refine jw_iload_n (pc := 39) F 2 d_M_count_39 rfl rfl ?_
  refine jw_iconst (pc := 40) (v := nI 3) F d_M_count_40 (by decide) ?_
  refine jw_icmp_ne (pc := 41) F 50 d_M_count_41 (by decide) (fun hz4 => ?_) (fun hz4 => False.elim (absurd hz4 (by decide)))
  refine jw_iload_n (pc := 50) F 2 d_M_count_50 rfl rfl ?_
  refine jw_iconst (pc := 51) (v := nI 2) F d_M_count_51 (by decide) ?_
  refine jw_icmp_ne (pc := 52) F 65 d_M_count_52 (by decide) (fun hz5 => False.elim (hz5 rfl)) (fun hz5 => ?_)
  refine jw_aload_n (pc := 55) F 0 d_M_count_55 rfl rfl ?_
  refine jw_iload_n (pc := 56) F 1 d_M_count_56 rfl rfl ?_
  refine jw_callV_Cv (pc := 57) (As := [.int (nI r)]) (rest := []) F (m_lookSeen l D am cB cI cL go gc gb gd gh gr gt gk gn 0 op sz a hI hA L hR r hr) (jw_cwV F.1.2.2.2.2 wl_good w_439 w_441 w_23 w_30 w_442 hd_M_lookSeen ⟨by decide, by decide⟩) 0 1 rfl rfl rfl rfl rfl rfl (Nat.le_of_ble_eq_true rfl) d_M_count_57 ⟨rfl, rfl⟩ ⟨by decide, by decide⟩ (fun w hw => ?_)
  obtain ⟨g7, g8, rfl, h7⟩ := hw
  refine jw_aload_n (pc := 60) F 0 d_M_count_60 rfl rfl ?_
  refine jw_get (pc := 61) F (jms inM) 0 rfl rfl 11 (by decide) (jm w_353) rfl d_M_count_61 ?_
  exact jw_iret F d_M_count_64 ⟨rfl, _, _, _, _, rfl⟩
set_option maxHeartbeats 4000000 in
set_option maxRecDepth 100000 in
theorem m_same_1 (l : Launch) (D : va_G) (am : Nat → Nat) (cB cI cL : ClassId) (go gc gb gd gh gr gt gk : Nat → Int32) (gn : Nat → Int64) (er op sz : Int32) (a : AS) (hQ : mx_R a go gc gb gd gh gn op) (r : Int32) (hr : a_isrep r = false) (tt : Int32) : jw_Mi l D vCl (vTy cB cI cL) y_M_same s_M_same rm_M_same [.ref (am 0), .int r, .int tt] (wM am cB cI cL go gc gb gd gh gr gt gk gn er op sz) (fun r9 w9 => r9 = 0 ∧ w9 = wM am cB cI cL go gc gb gd gh gr gt gk gn 1 op sz) := by
  refine jw_ofi (cc := b_M_same) (nL := 5) (ret := (some .boolean)) (by decide) rfl (Nat.le_of_ble_eq_true rfl) (fun p e s m args below meth c A F hnm => ?_)
  refine jw_at (lv' := [(0, .ref (am 0)), (1, .int r), (2, .int tt)]) (st' := []) (ws' := wM am cB cI cL go gc gb gd gh gr gt gk gn er op sz) rfl rfl rfl ?_
  refine jw_aload_n (pc := 0) F 0 d_M_same_0 rfl rfl ?_
  refine jw_iconst (pc := 1) (v := 0) F d_M_same_1 (by decide) ?_
  refine jw_put (pc := 2) (v := .int 0) (ty := .int) (ws' := wM am cB cI cL go gc gb gd gh gr gt gk gn 0 op sz) F (jms inM) tM tM_ok nmM 0 rfl rfl 0 (by decide) (jm w_342) rfl (by decide +kernel) rfl rfl (Nat.le_of_ble_eq_true rfl) d_M_same_2 rfl ?_
  refine jw_aload_n (pc := 5) F 0 d_M_same_5 rfl rfl ?_
  refine jw_iload_n (pc := 6) F 1 d_M_same_6 rfl rfl ?_
  refine jw_callS_Ei (pc := 7) (As := [.int r]) (rest := [.ref (am 0)]) F (m_isReplica l D cB cI cL r) (jw_cwS F.1.2.2.2.2 wl_good w_387 w_388 w_30 w_389 hd_M_isReplica ⟨by decide, by decide⟩) rfl rfl (Nat.le_of_ble_eq_true rfl) d_M_same_7 ⟨rfl, rfl⟩ ⟨by decide, by decide⟩ ?_
  refine jw_if_eq (pc := 10) F 20 d_M_same_10 (by decide) (fun hz1 => ?_) (fun hz1 => False.elim (absurd (jb_n.mp hz1) (by rw [hr]; decide)))
  refine jw_iconst (pc := 20) (v := 1) F d_M_same_20 (by decide) ?_
  refine jw_goto (pc := 21) F 25 d_M_same_21 (by decide) ?_
  refine jw_iconst (pc := 25) (v := 1) F d_M_same_25 (by decide) ?_
  refine jw_callV_Ci (pc := 26) (As := [.int 1, .int 1]) (rest := []) F (m_failsT l D am cB cI cL go gc gb gd gh gr gt gk gn op sz true rfl 1 (by decide)) (jw_cwV F.1.2.2.2.2 wl_good w_394 w_396 w_17 w_30 w_397 hd_M_fails ⟨by decide, by decide⟩) 0 1 rfl rfl rfl rfl rfl rfl (Nat.le_of_ble_eq_true rfl) d_M_same_26 ⟨rfl, rfl⟩ ⟨by decide, by decide⟩ (fun r w hw => ?_)
  obtain ⟨rfl, rfl⟩ := hw
  refine jw_if_eq (pc := 29) F 34 d_M_same_29 (by decide) (fun hz2 => False.elim (absurd hz2 (by decide))) (fun hz2 => ?_)
  refine jw_iconst (pc := 32) (v := 0) F d_M_same_32 (by decide) ?_
  exact jw_zret F d_M_same_33 (by decide) ⟨rfl, rfl⟩
set_option maxHeartbeats 4000000 in
set_option maxRecDepth 100000 in
theorem m_same_2 (l : Launch) (D : va_G) (am : Nat → Nat) (cB cI cL : ClassId) (go gc gb gd gh gr gt gk : Nat → Int32) (gn : Nat → Int64) (er op sz : Int32) (a : AS) (hQ : mx_R a go gc gb gd gh gn op) (r : Nat) (hr : r < 4) (tt : Int32) (ht : a_isrep tt = false) : jw_Mi l D vCl (vTy cB cI cL) y_M_same s_M_same rm_M_same [.ref (am 0), .int (nI r), .int tt] (wM am cB cI cL go gc gb gd gh gr gt gk gn er op sz) (fun r9 w9 => r9 = 0 ∧ w9 = wM am cB cI cL go gc gb gd gh gr gt gk gn 1 op sz) := by
  refine jw_ofi (cc := b_M_same) (nL := 5) (ret := (some .boolean)) (by decide) rfl (Nat.le_of_ble_eq_true rfl) (fun p e s m args below meth c A F hnm => ?_)
  refine jw_at (lv' := [(0, .ref (am 0)), (1, .int (nI r)), (2, .int tt)]) (st' := []) (ws' := wM am cB cI cL go gc gb gd gh gr gt gk gn er op sz) rfl rfl rfl ?_
  refine jw_aload_n (pc := 0) F 0 d_M_same_0 rfl rfl ?_
  refine jw_iconst (pc := 1) (v := 0) F d_M_same_1 (by decide) ?_
  refine jw_put (pc := 2) (v := .int 0) (ty := .int) (ws' := wM am cB cI cL go gc gb gd gh gr gt gk gn 0 op sz) F (jms inM) tM tM_ok nmM 0 rfl rfl 0 (by decide) (jm w_342) rfl (by decide +kernel) rfl rfl (Nat.le_of_ble_eq_true rfl) d_M_same_2 rfl ?_
  refine jw_aload_n (pc := 5) F 0 d_M_same_5 rfl rfl ?_
  refine jw_iload_n (pc := 6) F 1 d_M_same_6 rfl rfl ?_
  refine jw_callS_Ei (pc := 7) (As := [.int (nI r)]) (rest := [.ref (am 0)]) F (m_isReplica l D cB cI cL (nI r)) (jw_cwS F.1.2.2.2.2 wl_good w_387 w_388 w_30 w_389 hd_M_isReplica ⟨by decide, by decide⟩) rfl rfl (Nat.le_of_ble_eq_true rfl) d_M_same_7 ⟨rfl, rfl⟩ ⟨by decide, by decide⟩ ?_
  refine jw_if_eq (pc := 10) F 20 d_M_same_10 (by decide) (fun hz1 => False.elim (absurd (jb_0.mp hz1) (by rw [m_isrep_nI hr]; decide))) (fun hz1 => ?_)
  refine jw_iload_n (pc := 13) F 2 d_M_same_13 rfl rfl ?_
  refine jw_callS_Ei (pc := 14) (As := [.int tt]) (rest := [.ref (am 0)]) F (m_isReplica l D cB cI cL tt) (jw_cwS F.1.2.2.2.2 wl_good w_387 w_388 w_30 w_389 hd_M_isReplica ⟨by decide, by decide⟩) rfl rfl (Nat.le_of_ble_eq_true rfl) d_M_same_14 ⟨rfl, rfl⟩ ⟨by decide, by decide⟩ ?_
  refine jw_if_ne (pc := 17) F 24 d_M_same_17 (by decide) (fun hz2 => False.elim (absurd (jb_n.mp hz2) (by rw [ht]; decide))) (fun hz2 => ?_)
  refine jw_iconst (pc := 20) (v := 1) F d_M_same_20 (by decide) ?_
  refine jw_goto (pc := 21) F 25 d_M_same_21 (by decide) ?_
  refine jw_iconst (pc := 25) (v := 1) F d_M_same_25 (by decide) ?_
  refine jw_callV_Ci (pc := 26) (As := [.int 1, .int 1]) (rest := []) F (m_failsT l D am cB cI cL go gc gb gd gh gr gt gk gn op sz true rfl 1 (by decide)) (jw_cwV F.1.2.2.2.2 wl_good w_394 w_396 w_17 w_30 w_397 hd_M_fails ⟨by decide, by decide⟩) 0 1 rfl rfl rfl rfl rfl rfl (Nat.le_of_ble_eq_true rfl) d_M_same_26 ⟨rfl, rfl⟩ ⟨by decide, by decide⟩ (fun r w hw => ?_)
  obtain ⟨rfl, rfl⟩ := hw
  refine jw_if_eq (pc := 29) F 34 d_M_same_29 (by decide) (fun hz3 => False.elim (absurd hz3 (by decide))) (fun hz3 => ?_)
  refine jw_iconst (pc := 32) (v := 0) F d_M_same_32 (by decide) ?_
  exact jw_zret F d_M_same_33 (by decide) ⟨rfl, rfl⟩
set_option maxHeartbeats 4000000 in
set_option maxRecDepth 100000 in
theorem m_same_0 (l : Launch) (D : va_G) (am : Nat → Nat) (cB cI cL : ClassId) (go gc gb gd gh gr gt gk : Nat → Int32) (gn : Nat → Int64) (er op sz : Int32) (a : AS) (hQ : mx_R a go gc gb gd gh gn op) (L : List Nat) (hR : ab_row a L) (r s9 : Nat) (hr : r < 4) (hs9 : s9 < 4) : jw_Mi l D vCl (vTy cB cI cL) y_M_same s_M_same rm_M_same [.ref (am 0), .int (nI r), .int (nI s9)] (wM am cB cI cL go gc gb gd gh gr gt gk gn er op sz) (fun r9 w9 => r9 = jb (decide ((L.filter (a_seen a r)) = (L.filter (a_seen a s9)))) ∧ ∃ (k7 k8 k9 : Nat → Int32) (ks : Int32), w9 = wM am cB cI cL go gc gb gd gh k7 k8 k9 gn 0 op ks) := by
  refine jw_ofi (cc := b_M_same) (nL := 5) (ret := (some .boolean)) (by decide) rfl (Nat.le_of_ble_eq_true rfl) (fun p e s m args below meth c A F hnm => ?_)
  refine jw_at (lv' := [(0, .ref (am 0)), (1, .int (nI r)), (2, .int (nI s9))]) (st' := []) (ws' := wM am cB cI cL go gc gb gd gh gr gt gk gn er op sz) rfl rfl rfl ?_
  obtain ⟨hI, hA, hV⟩ := hQ
  have hn := hI.1
  have hsl := ab_seen_len (r := r) hI hR
  have hsl2 := ab_seen_len (r := s9) hI hR
  refine jw_aload_n (pc := 0) F 0 d_M_same_0 rfl rfl ?_
  refine jw_iconst (pc := 1) (v := 0) F d_M_same_1 (by decide) ?_
  refine jw_put (pc := 2) (v := .int 0) (ty := .int) (ws' := wM am cB cI cL go gc gb gd gh gr gt gk gn 0 op sz) F (jms inM) tM tM_ok nmM 0 rfl rfl 0 (by decide) (jm w_342) rfl (by decide +kernel) rfl rfl (Nat.le_of_ble_eq_true rfl) d_M_same_2 rfl ?_
  refine jw_aload_n (pc := 5) F 0 d_M_same_5 rfl rfl ?_
  refine jw_iload_n (pc := 6) F 1 d_M_same_6 rfl rfl ?_
  refine jw_callS_Ei (pc := 7) (As := [.int (nI r)]) (rest := [.ref (am 0)]) F (m_isReplica l D cB cI cL (nI r)) (jw_cwS F.1.2.2.2.2 wl_good w_387 w_388 w_30 w_389 hd_M_isReplica ⟨by decide, by decide⟩) rfl rfl (Nat.le_of_ble_eq_true rfl) d_M_same_7 ⟨rfl, rfl⟩ ⟨by decide, by decide⟩ ?_
  refine jw_if_eq (pc := 10) F 20 d_M_same_10 (by decide) (fun hz1 => False.elim (absurd (jb_0.mp hz1) (by rw [m_isrep_nI hr]; decide))) (fun hz1 => ?_)
  refine jw_iload_n (pc := 13) F 2 d_M_same_13 rfl rfl ?_
  refine jw_callS_Ei (pc := 14) (As := [.int (nI s9)]) (rest := [.ref (am 0)]) F (m_isReplica l D cB cI cL (nI s9)) (jw_cwS F.1.2.2.2.2 wl_good w_387 w_388 w_30 w_389 hd_M_isReplica ⟨by decide, by decide⟩) rfl rfl (Nat.le_of_ble_eq_true rfl) d_M_same_14 ⟨rfl, rfl⟩ ⟨by decide, by decide⟩ ?_
  refine jw_if_ne (pc := 17) F 24 d_M_same_17 (by decide) (fun hz2 => ?_) (fun hz2 => False.elim (absurd (jb_0.mp hz2) (by rw [m_isrep_nI hs9]; decide)))
  refine jw_iconst (pc := 24) (v := 0) F d_M_same_24 (by decide) ?_
  refine jw_iconst (pc := 25) (v := 1) F d_M_same_25 (by decide) ?_
  refine jw_callV_Ei (pc := 26) (As := [.int 0, .int 1]) (rest := []) F ([]) ([]) (m_failsF l D am cB cI cL go gc gb gd gh gr gt gk gn op sz false rfl 1) (jw_cwV F.1.2.2.2.2 wl_good w_394 w_396 w_17 w_30 w_397 hd_M_fails ⟨by decide, by decide⟩) 0 1 rfl rfl rfl (by simp) rfl rfl (Nat.le_of_ble_eq_true rfl) d_M_same_26 ⟨rfl, rfl⟩ ⟨by decide, by decide⟩ ?_
  refine jw_if_eq (pc := 29) F 34 d_M_same_29 (by decide) (fun hz3 => ?_) (fun hz3 => False.elim (hz3 rfl))
  refine jw_aload_n (pc := 34) F 0 d_M_same_34 rfl rfl ?_
  refine jw_iload_n (pc := 35) F 1 d_M_same_35 rfl rfl ?_
  refine jw_callV_Cv (pc := 36) (As := [.int (nI r)]) (rest := []) F (m_lookSeen l D am cB cI cL go gc gb gd gh gr gt gk gn 0 op sz a hI hA L hR r hr) (jw_cwV F.1.2.2.2.2 wl_good w_439 w_441 w_23 w_30 w_442 hd_M_lookSeen ⟨by decide, by decide⟩) 0 1 rfl rfl rfl rfl rfl rfl (Nat.le_of_ble_eq_true rfl) d_M_same_36 ⟨rfl, rfl⟩ ⟨by decide, by decide⟩ (fun w hw => ?_)
  obtain ⟨g7, g8, rfl, h7⟩ := hw
  have loop2 : ∀ (t i : Nat) (g9 k7 k8 : Nat → Int32), i + t = (L.filter (a_seen a r)).length → (L.filter (a_seen a r)).length = (L.filter (a_seen a s9)).length → td_L (L.filter (a_seen a r)) g9 → td_L (L.filter (a_seen a s9)) k7 → (∀ j (h : j < (L.filter (a_seen a r)).length) (h2 : j < (L.filter (a_seen a s9)).length), j < i → (L.filter (a_seen a r))[j] = (L.filter (a_seen a s9))[j]) → jw_J p l e rm_M_same s m args below meth c D vCl A 5 (MQ below (va_Qi (fun r9 w9 => r9 = jb (decide ((L.filter (a_seen a r)) = (L.filter (a_seen a s9)))) ∧ ∃ (k7 k8 k9 : Nat → Int32) (ks : Int32), w9 = wM am cB cI cL go gc gb gd gh k7 k8 k9 gn 0 op ks) (jw_B D vCl (vTy cB cI cL) A) A) args s rm_M_same.cells rm_M_same.slots A) 0 0 91 [(0, .ref (am 0)), (1, .int (nI r)), (2, .int (nI s9)), (3, .int (nI (L.filter (a_seen a r)).length)), (4, .int (nI i))] [] (wM am cB cI cL go gc gb gd gh k7 k8 g9 gn 0 op (nI (L.filter (a_seen a s9)).length)) := by
    intro t
    induction t with
    | zero =>
      intro i g9 k7 k8 hi hq h9 h10 hc
      obtain rfl : i = (L.filter (a_seen a r)).length := hi
      refine jw_iload (pc := 91) F 4 d_M_same_91 rfl ?_
      refine jw_iload_n (pc := 93) F 3 d_M_same_93 rfl rfl ?_
      refine jw_icmp_ge (pc := 94) F 122 d_M_same_94 (by decide) (fun hz4 => ?_) (fun hz4 => False.elim (hz4 (nI_le (Nat.le_refl _) (by omega))))
      refine jw_iconst (pc := 122) (v := 1) F d_M_same_122 (by decide) ?_
      exact jw_zret F d_M_same_123 (by decide) ⟨by rw [decide_eq_true (List.ext_getElem hq (fun j h1 h2 => hc j h1 h2 h1))]; rfl, _, _, _, _, rfl⟩
    | succ t ih =>
      intro i g9 k7 k8 hi hq h9 h10 hc
      have hlt : i < (L.filter (a_seen a r)).length := by omega
      have hlt2 : i < (L.filter (a_seen a s9)).length := by omega
      have b1 := (cx_R_M hI hR).1 _ (List.mem_filter.mp (List.getElem_mem hlt)).1
      have b2 := (cx_R_M hI hR).1 _ (List.mem_filter.mp (List.getElem_mem hlt2)).1
      refine jw_iload (pc := 91) F 4 d_M_same_91 rfl ?_
      refine jw_iload_n (pc := 93) F 3 d_M_same_93 rfl rfl ?_
      refine jw_icmp_ge (pc := 94) F 122 d_M_same_94 (by decide) (fun hz5 => False.elim (nI_ge hlt (by omega) hz5)) (fun hz5 => ?_)
      refine jw_aload_n (pc := 97) F 0 d_M_same_97 rfl rfl ?_
      refine jw_get (pc := 98) F (jms inM) 0 rfl rfl 10 (by decide) (jm w_352) rfl d_M_same_98 ?_
      refine jw_iload (pc := 101) F 4 d_M_same_101 rfl ?_
      refine jw_ialdN (pc := 103) F 9 1 rfl rfl i rfl (by omega) (by decide) d_M_same_103 ?_
      rw [h9 i hlt]
      refine jw_aload_n (pc := 104) F 0 d_M_same_104 rfl rfl ?_
      refine jw_get (pc := 105) F (jms inM) 0 rfl rfl 8 (by decide) (jm w_350) rfl d_M_same_105 ?_
      refine jw_iload (pc := 108) F 4 d_M_same_108 rfl ?_
      refine jw_ialdN (pc := 110) F 7 1 rfl rfl i rfl (by omega) (by decide) d_M_same_110 ?_
      rw [h10 i hlt2]
      refine jw_icmp_eq (pc := 111) F 116 d_M_same_111 (by decide) (fun h1 => ?_) (fun h1 => ?_)
      · refine jw_iinc (pc := 116) (v := nI (i + 1)) (lv' := [(0, .ref (am 0)), (1, .int (nI r)), (2, .int (nI s9)), (3, .int (nI (L.filter (a_seen a r)).length)), (4, .int (nI (i + 1)))]) F 4 d_M_same_116 rfl (jw_inc _) (by decide) rfl ?_
        refine jw_goto (pc := 119) F 91 d_M_same_119 (by decide) ?_
        exact ih (i + 1) g9 k7 k8 (by omega) hq h9 h10 (fun j hj hj2 hji => by
            by_cases e1 : j = i
            · subst e1; exact ab_nI_inj (by omega) (by omega) h1
            · exact hc j hj hj2 (by omega))
      · refine jw_iconst (pc := 114) (v := 0) F d_M_same_114 (by decide) ?_
        exact jw_zret F d_M_same_115 (by decide) ⟨by rw [decide_eq_false (fun q => h1 (congrArg nI (List.getElem_of_eq q hlt)))]; rfl, _, _, _, _, rfl⟩
  have loop1 : ∀ (t i : Nat) (g9 : Nat → Int32), i + t = (L.filter (a_seen a r)).length → (∀ j (h : j < (L.filter (a_seen a r)).length), j < i → g9 j = nI (L.filter (a_seen a r))[j]) → jw_J p l e rm_M_same s m args below meth c D vCl A 5 (MQ below (va_Qi (fun r9 w9 => r9 = jb (decide ((L.filter (a_seen a r)) = (L.filter (a_seen a s9)))) ∧ ∃ (k7 k8 k9 : Nat → Int32) (ks : Int32), w9 = wM am cB cI cL go gc gb gd gh k7 k8 k9 gn 0 op ks) (jw_B D vCl (vTy cB cI cL) A) A) args s rm_M_same.cells rm_M_same.slots A) 0 0 47 [(0, .ref (am 0)), (1, .int (nI r)), (2, .int (nI s9)), (3, .int (nI (L.filter (a_seen a r)).length)), (4, .int (nI i))] [] (wM am cB cI cL go gc gb gd gh g7 g8 g9 gn 0 op (nI (L.filter (a_seen a r)).length)) := by
    intro t
    induction t with
    | zero =>
      intro i g9 hi hc
      obtain rfl : i = (L.filter (a_seen a r)).length := hi
      refine jw_iload (pc := 47) F 4 d_M_same_47 rfl ?_
      refine jw_iload_n (pc := 49) F 3 d_M_same_49 rfl rfl ?_
      refine jw_icmp_ge (pc := 50) F 73 d_M_same_50 (by decide) (fun hz6 => ?_) (fun hz6 => False.elim (hz6 (nI_le (Nat.le_refl _) (by omega))))
      refine jw_aload_n (pc := 73) F 0 d_M_same_73 rfl rfl ?_
      refine jw_iload_n (pc := 74) F 2 d_M_same_74 rfl rfl ?_
      refine jw_callV_Cv (pc := 75) (As := [.int (nI s9)]) (rest := []) F (m_lookSeen l D am cB cI cL go gc gb gd gh g7 g8 g9 gn 0 op (nI (L.filter (a_seen a r)).length) a hI hA L hR s9 hs9) (jw_cwV F.1.2.2.2.2 wl_good w_439 w_441 w_23 w_30 w_442 hd_M_lookSeen ⟨by decide, by decide⟩) 0 1 rfl rfl rfl rfl rfl rfl (Nat.le_of_ble_eq_true rfl) d_M_same_75 ⟨rfl, rfl⟩ ⟨by decide, by decide⟩ (fun w hw => ?_)
      obtain ⟨k7, k8, rfl, hk7⟩ := hw
      refine jw_iload_n (pc := 78) F 3 d_M_same_78 rfl rfl ?_
      refine jw_aload_n (pc := 79) F 0 d_M_same_79 rfl rfl ?_
      refine jw_get (pc := 80) F (jms inM) 0 rfl rfl 11 (by decide) (jm w_353) rfl d_M_same_80 ?_
      refine jw_icmp_eq (pc := 83) F 88 d_M_same_83 (by decide) (fun h1 => ?_) (fun h1 => ?_)
      · refine jw_iconst (pc := 88) (v := nI 0) F d_M_same_88 (by decide) ?_
        refine jw_istore (pc := 89) (lv' := [(0, .ref (am 0)), (1, .int (nI r)), (2, .int (nI s9)), (3, .int (nI (L.filter (a_seen a r)).length)), (4, .int (nI 0))]) F d_M_same_89 (by decide) rfl ?_
        exact loop2 (L.filter (a_seen a r)).length 0 g9 k7 k8 (by omega) (ab_nI_inj (by omega) (by omega) h1) (fun j hj => hc j hj hj) hk7 (fun j _ _ hj => absurd hj (Nat.not_lt_zero j))
      · refine jw_iconst (pc := 86) (v := 0) F d_M_same_86 (by decide) ?_
        exact jw_zret F d_M_same_87 (by decide) ⟨by rw [decide_eq_false (fun q => h1 (by rw [q]))]; rfl, _, _, _, _, rfl⟩
    | succ t ih =>
      intro i g9 hi hc
      have hlt : i < (L.filter (a_seen a r)).length := by omega
      refine jw_iload (pc := 47) F 4 d_M_same_47 rfl ?_
      refine jw_iload_n (pc := 49) F 3 d_M_same_49 rfl rfl ?_
      refine jw_icmp_ge (pc := 50) F 73 d_M_same_50 (by decide) (fun hz7 => False.elim (nI_ge hlt (by omega) hz7)) (fun hz7 => ?_)
      refine jw_aload_n (pc := 53) F 0 d_M_same_53 rfl rfl ?_
      refine jw_get (pc := 54) F (jms inM) 0 rfl rfl 10 (by decide) (jm w_352) rfl d_M_same_54 ?_
      refine jw_iload (pc := 57) F 4 d_M_same_57 rfl ?_
      refine jw_aload_n (pc := 59) F 0 d_M_same_59 rfl rfl ?_
      refine jw_get (pc := 60) F (jms inM) 0 rfl rfl 8 (by decide) (jm w_350) rfl d_M_same_60 ?_
      refine jw_iload (pc := 63) F 4 d_M_same_63 rfl ?_
      refine jw_ialdN (pc := 65) F 7 1 rfl rfl i rfl (by omega) (by decide) d_M_same_65 ?_
      rw [h7 i hlt]
      refine jw_iastN (pc := 66) (ws' := wM am cB cI cL go gc gb gd gh g7 g8 (upd g9 i (nI ((L.filter (a_seen a r))[i]'hlt))) gn 0 op (nI (L.filter (a_seen a r)).length)) F 9 1 rfl rfl i rfl (by omega) (by decide) d_M_same_66 rfl ?_
      refine jw_iinc (pc := 67) (v := nI (i + 1)) (lv' := [(0, .ref (am 0)), (1, .int (nI r)), (2, .int (nI s9)), (3, .int (nI (L.filter (a_seen a r)).length)), (4, .int (nI (i + 1)))]) F 4 d_M_same_67 rfl (jw_inc _) (by decide) rfl ?_
      refine jw_goto (pc := 70) F 47 d_M_same_70 (by decide) ?_
      exact ih (i + 1) _ (by omega) (fun j hj hji => by
            by_cases e1 : j = i
            · subst e1; rw [pk_us]
            · rw [pk_un e1]; exact hc j hj (by omega))
  refine jw_aload_n (pc := 39) F 0 d_M_same_39 rfl rfl ?_
  refine jw_get (pc := 40) F (jms inM) 0 rfl rfl 11 (by decide) (jm w_353) rfl d_M_same_40 ?_
  refine jw_istore_n (pc := 43) (lv' := [(0, .ref (am 0)), (1, .int (nI r)), (2, .int (nI s9)), (3, .int (nI (L.filter (a_seen a r)).length))]) F d_M_same_43 rfl (by decide) rfl ?_
  refine jw_iconst (pc := 44) (v := nI 0) F d_M_same_44 (by decide) ?_
  refine jw_istore (pc := 45) (lv' := [(0, .ref (am 0)), (1, .int (nI r)), (2, .int (nI s9)), (3, .int (nI (L.filter (a_seen a r)).length)), (4, .int (nI 0))]) F d_M_same_45 (by decide) rfl ?_
  exact loop1 (L.filter (a_seen a r)).length 0 gk (by omega) (fun j _ hj => absurd hj (Nat.not_lt_zero j))
