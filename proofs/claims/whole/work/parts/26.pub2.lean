theorem gl_at_stop {M : List Nat} {k : Int32} {c e : Nat} (hc : c < 2147483648) (h : M[c]? = some e) (hk : nI c = k) : nI e = gl_at M k := by rw [← hk]; exact (gl_at_nI hc h).symm
def ab_tell (a : AS) (r s : Nat) : Nat → AS × Nat
  | 0 => (a, 0)
  | k + 1 => if (a_hd (ab_tell a r s k).1 s k && !a_hd (ab_tell a r s k).1 r k) = true then (ab_take (ab_tell a r s k).1 r k, (ab_tell a r s k).2 + 1) else ab_tell a r s k
theorem ab_tell_n {a : AS} {r s : Nat} : ∀ {i : Nat}, a_n (ab_tell a r s i).1 = a_n a ∧ a_dl (ab_tell a r s i).1 = a_dl a ∧ a_tg (ab_tell a r s i).1 = a_tg a ∧ a_ct (ab_tell a r s i).1 = a_ct a ∧ a_mk (ab_tell a r s i).1 = a_mk a ∧ a_vl (ab_tell a r s i).1 = a_vl a ∧ (ab_tell a r s i).2 ≤ i
  | 0 => ⟨rfl, rfl, rfl, rfl, rfl, rfl, Nat.le_refl _⟩
  | i + 1 => by
    have ih := ab_tell_n (a := a) (r := r) (s := s) (i := i)
    unfold ab_tell
    split
    · exact ⟨ih.1, ih.2.1, ih.2.2.1, ih.2.2.2.1, ih.2.2.2.2.1, ih.2.2.2.2.2.1, Nat.succ_le_succ ih.2.2.2.2.2.2⟩
    · exact ⟨ih.1, ih.2.1, ih.2.2.1, ih.2.2.2.1, ih.2.2.2.2.1, ih.2.2.2.2.2.1, Nat.le_succ_of_le ih.2.2.2.2.2.2⟩
theorem ab_tell_hd {a : AS} {r s : Nat} : ∀ {i : Nat}, ∀ k, k < i → a_hd (ab_tell a r s i).1 s k = true → a_hd (ab_tell a r s i).1 r k = true
  | 0, k, hk, _ => absurd hk (Nat.not_lt_zero k)
  | i + 1, k, hk, h => by
    have ih := ab_tell_hd (a := a) (r := r) (s := s) (i := i)
    unfold ab_tell at h ⊢
    split at h
    · rename_i hc
      rw [if_pos hc]
      have h2 : ab_up (a_hd (ab_tell a r s i).1) r (ab_up (a_hd (ab_tell a r s i).1 r) i true) s k = true := h
      show ab_up (a_hd (ab_tell a r s i).1) r (ab_up (a_hd (ab_tell a r s i).1 r) i true) r k = true
      rw [ab_up_hd] at h2 ⊢
      by_cases e : k = i
      · exact Or.inl ⟨rfl, e⟩
      · rcases h2 with ⟨e1, e2⟩ | h2
        · exact absurd e2 e
        · exact Or.inr (ih k (by omega) h2)
    · rename_i hc
      rw [if_neg hc]
      by_cases e : k = i
      · subst e
        cases hr : a_hd (ab_tell a r s k).1 r k
        · exact absurd (by rw [h, hr]; rfl) hc
        · rfl
      · exact ih k (by omega) h
theorem ab_tell_I {a : AS} {r s : Nat} (hI : ab_I a) : ∀ {i : Nat}, i ≤ a_n a → ab_I (ab_tell a r s i).1
  | 0, _ => hI
  | i + 1, hi => by
    have ih := ab_tell_I (r := r) (s := s) hI (i := i) (by omega)
    have hn := ab_tell_n (a := a) (r := r) (s := s) (i := i)
    unfold ab_tell
    split
    · rename_i hc
      simp only [Bool.and_eq_true] at hc
      refine ab_I_take ih (by rw [hn.1]; omega) (fun j hj q => ?_)
      have hlt : i < a_n (ab_tell a r s i).1 := by rw [hn.1]; omega
      have hn2 := ih.1
      rcases ih.2.2.1 i hlt with g | ⟨j2, hj2, g1, g2, g3, g4⟩
      · exact absurd (q.symm.trans g.1) (ab_nI_m1 (by omega))
      · have e1 : j = j2 := ab_nI_inj (by omega) (by omega) (q.symm.trans g1)
        subst e1
        exact ab_tell_hd j hj (g4 s hc.1)
    · exact ih
theorem ab_tell_row {a : AS} {r s : Nat} {L : List Nat} (h : ab_row a L) : ∀ {i : Nat}, ab_row (ab_tell a r s i).1 L
  | 0 => h
  | i + 1 => by
    have ih := ab_tell_row (r := r) (s := s) h (i := i)
    unfold ab_tell
    split
    · exact ih
    · exact ih
theorem ab_tell_V {a : AS} {r s i : Nat} {v : Nat → Int64} (h : cx_V a v) : cx_V (ab_tell a r s i).1 v := by
  have hn := ab_tell_n (a := a) (r := r) (s := s) (i := i)
  intro k hk hd
  rw [hn.1] at hk
  rw [hn.2.1] at hd
  rw [hn.2.2.2.2.2.1]
  exact h k hk hd
abbrev rm_X_tell : Room := { frames := 7, cells := 0, slots := 0, locals := 111 }
abbrev rm_X_at : Room := { frames := 7, cells := 0, slots := 0, locals := 111 }
abbrev rm_X_place : Room := { frames := 7, cells := 0, slots := 0, locals := 112 }
abbrev rm_X_same : Room := { frames := 7, cells := 0, slots := 0, locals := 111 }
set_option maxHeartbeats 4000000 in
set_option maxRecDepth 100000 in
theorem c_at (l : Launch) (D : va_G) (ad : Nat → Nat) (cB cI cL : ClassId) (f0 f1 f2 f3 f4 f5 f6 f7 : Nat → Int32) (v : Nat → Int64) (md ln : Int32) (a : AS) (L : List Nat) (hQ : cx_R a L f0 f1 f2 f3 f4 f5 f6 f7 v md ln) (r : Nat) (hr : r < 4) (k : Int32) : jw_Ei l D vCl (vTy cB cI cL) y_X_at s_X_at rm_X_at [.ref (ad 0), .int (nI r), .int k] (wX ad cB cI cL f0 f1 f2 f3 f4 f5 f6 f7 v md ln) ((gl_at (L.filter (a_seen a r)) k)) := by
  refine jw_ofi (cc := b_X_at) (nL := 5) (ret := (some .int)) (by decide) rfl (Nat.le_of_ble_eq_true rfl) (fun p e s m args below meth c A F hnm => ?_)
  refine jw_at (lv' := [(0, .ref (ad 0)), (1, .int (nI r)), (2, .int k)]) (st' := []) (ws' := wX ad cB cI cL f0 f1 f2 f3 f4 f5 f6 f7 v md ln) rfl rfl rfl ?_
  obtain ⟨hI, hA, hV, hL, hR⟩ := hQ
  have hB := cx_B_of hI
  have hn := hI.1
  obtain ⟨hM, hlen⟩ := cx_R_M hI hR
  have hln := hL.1
  subst hln
  refine jw_aload_n (pc := 0) F 0 d_X_at_0 rfl rfl ?_
  refine jw_iload_n (pc := 1) F 1 d_X_at_1 rfl rfl ?_
  refine jw_callV_Ev (pc := 2) (As := [.int (nI r)]) (rest := []) F ([]) ([]) (c_checkReplica l D ad cB cI cL f0 f1 f2 f3 f4 f5 f6 f7 v md (nI L.length) r hr) (jw_cwV F.1.2.2.2.2 wl_good w_93 w_95 w_0 w_29 w_96 hd_X_checkReplica ⟨by decide, by decide⟩) 0 0 rfl rfl rfl (by simp) rfl rfl (Nat.le_of_ble_eq_true rfl) d_X_at_2 ⟨rfl, rfl⟩ ⟨by decide, by decide⟩ ?_
  have loop : ∀ (t i : Nat), i + t = L.length → (∀ j : Nat, j < 2147483648 → k = nI j → (L.take i).countP (a_seen a r) ≤ j) → jw_J p l e rm_X_at s m args below meth c D vCl A 5 (MQ below (va_Qi (fun r9 w9 => r9 = (gl_at (L.filter (a_seen a r)) k) ∧ w9 = wX ad cB cI cL f0 f1 f2 f3 f4 f5 f6 f7 v md (nI L.length)) (jw_B D vCl (vTy cB cI cL) A) A) args s rm_X_at.cells rm_X_at.slots A) 0 0 10 [(0, .ref (ad 0)), (1, .int (nI r)), (2, .int k), (3, .int (nI ((L.take i).countP (a_seen a r)))), (4, .int (nI i))] [] (wX ad cB cI cL f0 f1 f2 f3 f4 f5 f6 f7 v md (nI L.length)) := by
    intro t
    induction t with
    | zero =>
      intro i hi hc
      obtain rfl : i = L.length := hi
      refine jw_iload (pc := 10) F 4 d_X_at_10 rfl ?_
      refine jw_aload_n (pc := 12) F 0 d_X_at_12 rfl rfl ?_
      refine jw_get (pc := 13) F (jms inX) 0 rfl rfl 10 (by decide) (jm w_56) rfl d_X_at_13 ?_
      refine jw_icmp_ge (pc := 16) F 56 d_X_at_16 (by decide) (fun hz1 => ?_) (fun hz1 => False.elim (hz1 (nI_le (Nat.le_refl _) (by omega))))
      refine jw_iconst (pc := 56) (v := -1) F d_X_at_56 (by decide) ?_
      exact jw_iret F d_X_at_57 ⟨(gl_at_none (fun j hj hk => by rw [gl_len]; have h9 := hc j hj hk; rw [List.take_length] at h9; exact h9)).symm, rfl⟩
    | succ t ih =>
      intro i hi hc
      have hlt : i < L.length := by omega
      refine jw_iload (pc := 10) F 4 d_X_at_10 rfl ?_
      refine jw_aload_n (pc := 12) F 0 d_X_at_12 rfl rfl ?_
      refine jw_get (pc := 13) F (jms inX) 0 rfl rfl 10 (by decide) (jm w_56) rfl d_X_at_13 ?_
      refine jw_icmp_ge (pc := 16) F 56 d_X_at_16 (by decide) (fun hz2 => False.elim (nI_ge hlt (by omega) hz2)) (fun hz2 => ?_)
      refine jw_aload_n (pc := 19) F 0 d_X_at_19 rfl rfl ?_
      refine jw_iload_n (pc := 20) F 1 d_X_at_20 rfl rfl ?_
      refine jw_aload_n (pc := 21) F 0 d_X_at_21 rfl rfl ?_
      refine jw_get (pc := 22) F (jms inX) 0 rfl rfl 9 (by decide) (jm w_55) rfl d_X_at_22 ?_
      refine jw_iload (pc := 25) F 4 d_X_at_25 rfl ?_
      refine jw_ialdN (pc := 27) F 9 1 rfl rfl i rfl (by omega) (by decide) d_X_at_27 ?_
      rw [hL.2 i hlt]
      refine jw_callV_Ei (pc := 28) (As := [.int (nI r), .int (nI (L[i]'hlt))]) (rest := []) F ([]) ([]) (c_isSeen l D ad cB cI cL f0 f1 f2 f3 f4 f5 f6 f7 v md (nI L.length) a r (L[i]'hlt) hA hr (hM _ (List.getElem_mem hlt))) (jw_cwV F.1.2.2.2.2 wl_good w_283 w_285 w_13 w_29 w_286 hd_X_isSeen ⟨by decide, by decide⟩) 0 0 rfl rfl rfl (by simp) rfl rfl (Nat.le_of_ble_eq_true rfl) d_X_at_28 ⟨rfl, rfl⟩ ⟨by decide, by decide⟩ ?_
      refine jw_if_eq (pc := 31) F 50 d_X_at_31 (by decide) (fun h1 => ?_) (fun h1 => ?_)
      · refine jw_iinc (pc := 50) (v := nI (i + 1)) (lv' := [(0, .ref (ad 0)), (1, .int (nI r)), (2, .int k), (3, .int (nI ((L.take i).countP (a_seen a r)))), (4, .int (nI (i + 1)))]) F 4 d_X_at_50 rfl (jw_inc _) (by decide) rfl ?_
        refine jw_goto (pc := 53) F 10 d_X_at_53 (by decide) ?_
        have q := ih (i + 1) (by omega) (fun j hj hk => by rw [gl_cnt_s hlt, if_neg (by rw [jb_0.mp h1]; decide), Nat.add_zero]; exact hc j hj hk)
        rw [gl_cnt_s hlt, if_neg (by rw [jb_0.mp h1]; decide), Nat.add_zero] at q
        exact q
      · have hc9 : (L.take i).countP (a_seen a r) ≤ i := gl_cnt_i
        refine jw_iload_n (pc := 34) F 3 d_X_at_34 rfl rfl ?_
        refine jw_iload_n (pc := 35) F 2 d_X_at_35 rfl rfl ?_
        refine jw_icmp_ne (pc := 36) F 47 d_X_at_36 (by decide) (fun h2 => ?_) (fun h2 => ?_)
        · refine jw_iinc (pc := 47) (v := nI ((L.take i).countP (a_seen a r) + 1)) (lv' := [(0, .ref (ad 0)), (1, .int (nI r)), (2, .int k), (3, .int (nI ((L.take i).countP (a_seen a r) + 1))), (4, .int (nI i))]) F 3 d_X_at_47 rfl (jw_inc _) (by decide) rfl ?_
          refine jw_iinc (pc := 50) (v := nI (i + 1)) (lv' := [(0, .ref (ad 0)), (1, .int (nI r)), (2, .int k), (3, .int (nI ((L.take i).countP (a_seen a r) + 1))), (4, .int (nI (i + 1)))]) F 4 d_X_at_50 rfl (jw_inc _) (by decide) rfl ?_
          refine jw_goto (pc := 53) F 10 d_X_at_53 (by decide) ?_
          have q := ih (i + 1) (by omega) (fun j hj hk => by rw [gl_cnt_s hlt, if_pos (jb_n.mp h1)]; rcases Nat.lt_or_ge ((L.take i).countP (a_seen a r)) j with g | g; exact g; exact absurd (by rw [hk, Nat.le_antisymm (hc j hj hk) g]) h2)
          rw [gl_cnt_s hlt, if_pos (jb_n.mp h1)] at q
          exact q
        · refine jw_aload_n (pc := 39) F 0 d_X_at_39 rfl rfl ?_
          refine jw_get (pc := 40) F (jms inX) 0 rfl rfl 9 (by decide) (jm w_55) rfl d_X_at_40 ?_
          refine jw_iload (pc := 43) F 4 d_X_at_43 rfl ?_
          refine jw_ialdN (pc := 45) F 9 1 rfl rfl i rfl (by omega) (by decide) d_X_at_45 ?_
          rw [hL.2 i hlt]
          exact jw_iret F d_X_at_46 ⟨gl_at_stop (by omega) (gl_nth hlt (jb_n.mp h1)) h2, rfl⟩
  refine jw_iconst (pc := 5) (v := nI 0) F d_X_at_5 (by decide) ?_
  refine jw_istore_n (pc := 6) (lv' := [(0, .ref (ad 0)), (1, .int (nI r)), (2, .int k), (3, .int (nI 0))]) F d_X_at_6 rfl (by decide) rfl ?_
  refine jw_iconst (pc := 7) (v := nI 0) F d_X_at_7 (by decide) ?_
  refine jw_istore (pc := 8) (lv' := [(0, .ref (ad 0)), (1, .int (nI r)), (2, .int k), (3, .int (nI 0)), (4, .int (nI 0))]) F d_X_at_8 (by decide) rfl ?_
  exact loop L.length 0 (by omega) (fun j _ _ => Nat.zero_le _)
set_option maxHeartbeats 4000000 in
set_option maxRecDepth 100000 in
theorem c_place (l : Launch) (D : va_G) (ad : Nat → Nat) (cB cI cL : ClassId) (f0 f1 f2 f3 f4 f5 f6 f7 : Nat → Int32) (v : Nat → Int64) (md ln : Int32) (a : AS) (L : List Nat) (hQ : cx_R a L f0 f1 f2 f3 f4 f5 f6 f7 v md ln) (r : Nat) (hr : r < 4) (k : Nat) (hk : k < a_n a) (hd : a_dl a k = false) (hh : a_hd a r k = true) : jw_Mi l D vCl (vTy cB cI cL) y_X_place s_X_place rm_X_place [.ref (ad 0), .int (nI r), .int (nI k)] (wX ad cB cI cL f0 f1 f2 f3 f4 f5 f6 f7 v md ln) (fun r9 w9 => (∃ (i : Nat) (h : i < L.length), L[i] = k ∧ r9 = nI ((L.take i).countP (a_hd a r))) ∧ w9 = wX ad cB cI cL f0 f1 f2 f3 f4 f5 f6 f7 v md ln) := by
  refine jw_ofi (cc := b_X_place) (nL := 5) (ret := (some .int)) (by decide) rfl (Nat.le_of_ble_eq_true rfl) (fun p e s m args below meth c A F hnm => ?_)
  refine jw_at (lv' := [(0, .ref (ad 0)), (1, .int (nI r)), (2, .int (nI k))]) (st' := []) (ws' := wX ad cB cI cL f0 f1 f2 f3 f4 f5 f6 f7 v md ln) rfl rfl rfl ?_
  obtain ⟨hI, hA, hV, hL, hR⟩ := hQ
  have hB := cx_B_of hI
  have hn := hI.1
  obtain ⟨hM, hlen⟩ := cx_R_M hI hR
  have hln := hL.1
  subst hln
  refine jw_aload_n (pc := 0) F 0 d_X_place_0 rfl rfl ?_
  refine jw_iload_n (pc := 1) F 1 d_X_place_1 rfl rfl ?_
  refine jw_callV_Ev (pc := 2) (As := [.int (nI r)]) (rest := []) F ([]) ([]) (c_checkReplica l D ad cB cI cL f0 f1 f2 f3 f4 f5 f6 f7 v md (nI L.length) r hr) (jw_cwV F.1.2.2.2.2 wl_good w_93 w_95 w_0 w_29 w_96 hd_X_checkReplica ⟨by decide, by decide⟩) 0 0 rfl rfl rfl (by simp) rfl rfl (Nat.le_of_ble_eq_true rfl) d_X_place_2 ⟨rfl, rfl⟩ ⟨by decide, by decide⟩ ?_
  refine jw_aload_n (pc := 5) F 0 d_X_place_5 rfl rfl ?_
  refine jw_iload_n (pc := 6) F 2 d_X_place_6 rfl rfl ?_
  refine jw_callV_Ev (pc := 7) (As := [.int (nI k)]) (rest := []) F ([]) ([]) (c_checkOperation l D ad cB cI cL f0 f1 f2 f3 f4 f5 f6 f7 v md (nI L.length) (a_n a) hA.1 (nI k) (a_isop_nI (by omega) hk)) (jw_cwV F.1.2.2.2.2 wl_good w_257 w_259 w_12 w_29 w_260 hd_X_checkOperation ⟨by decide, by decide⟩) 0 0 rfl rfl rfl (by simp) rfl rfl (Nat.le_of_ble_eq_true rfl) d_X_place_7 ⟨rfl, rfl⟩ ⟨by decide, by decide⟩ ?_
  refine jw_aload_n (pc := 10) F 0 d_X_place_10 rfl rfl ?_
  refine jw_iload_n (pc := 11) F 1 d_X_place_11 rfl rfl ?_
  refine jw_iload_n (pc := 12) F 2 d_X_place_12 rfl rfl ?_
  refine jw_callV_Ev (pc := 13) (As := [.int (nI r), .int (nI k)]) (rest := []) F ([]) ([]) (c_checkHeldElement l D ad cB cI cL f0 f1 f2 f3 f4 f5 f6 f7 v md (nI L.length) a hB hA r hr (nI k) (by rw [a_haseB_nI hn hk, hd, hh]; rfl)) (jw_cwV F.1.2.2.2.2 wl_good w_185 w_187 w_3 w_29 w_188 hd_X_checkHeldElement ⟨by decide, by decide⟩) 0 0 rfl rfl rfl (by simp) rfl rfl (Nat.le_of_ble_eq_true rfl) d_X_place_13 ⟨rfl, rfl⟩ ⟨by decide, by decide⟩ ?_
  have loop : ∀ (t i : Nat), i + t = L.length → (∀ (j : Nat) (h : j < L.length), j < i → L[j] ≠ k) → jw_J p l e rm_X_place s m args below meth c D vCl A 5 (MQ below (va_Qi (fun r9 w9 => (∃ (i : Nat) (h : i < L.length), L[i] = k ∧ r9 = nI ((L.take i).countP (a_hd a r))) ∧ w9 = wX ad cB cI cL f0 f1 f2 f3 f4 f5 f6 f7 v md (nI L.length)) (jw_B D vCl (vTy cB cI cL) A) A) args s rm_X_place.cells rm_X_place.slots A) 0 0 21 [(0, .ref (ad 0)), (1, .int (nI r)), (2, .int (nI k)), (3, .int (nI ((L.take i).countP (a_hd a r)))), (4, .int (nI i))] [] (wX ad cB cI cL f0 f1 f2 f3 f4 f5 f6 f7 v md (nI L.length)) := by
    intro t
    induction t with
    | zero =>
      intro i hi hc
      exfalso
      obtain ⟨j, hj, g⟩ := List.getElem_of_mem ((hR.2.1 k).mpr ⟨hk, hd⟩)
      exact hc j hj (by omega) g
    | succ t ih =>
      intro i hi hc
      have hlt : i < L.length := by omega
      have hm := hM _ (List.getElem_mem hlt)
      refine jw_iload (pc := 21) F 4 d_X_place_21 rfl ?_
      refine jw_aload_n (pc := 23) F 0 d_X_place_23 rfl rfl ?_
      refine jw_get (pc := 24) F (jms inX) 0 rfl rfl 10 (by decide) (jm w_56) rfl d_X_place_24 ?_
      refine jw_icmp_ge (pc := 27) F 65 d_X_place_27 (by decide) (fun hz1 => False.elim (nI_ge hlt (by omega) hz1)) (fun hz1 => ?_)
      refine jw_aload_n (pc := 30) F 0 d_X_place_30 rfl rfl ?_
      refine jw_get (pc := 31) F (jms inX) 0 rfl rfl 9 (by decide) (jm w_55) rfl d_X_place_31 ?_
      refine jw_iload (pc := 34) F 4 d_X_place_34 rfl ?_
      refine jw_ialdN (pc := 36) F 9 1 rfl rfl i rfl (by omega) (by decide) d_X_place_36 ?_
      refine jw_iload_n (pc := 37) F 2 d_X_place_37 rfl rfl ?_
      refine jw_icmp_eq (pc := 38) F 65 d_X_place_38 (by decide) (fun h1 => ?_) (fun h1 => ?_)
      · refine jw_iload_n (pc := 65) F 3 d_X_place_65 rfl rfl ?_
        exact jw_iret F d_X_place_66 ⟨⟨i, hlt, ab_nI_inj (by omega) (by omega) (by rw [← hL.2 i hlt]; exact h1), rfl⟩, rfl⟩
      · rw [hL.2 i hlt] at h1
        refine jw_aload_n (pc := 41) F 0 d_X_place_41 rfl rfl ?_
        refine jw_iload_n (pc := 42) F 1 d_X_place_42 rfl rfl ?_
        refine jw_aload_n (pc := 43) F 0 d_X_place_43 rfl rfl ?_
        refine jw_get (pc := 44) F (jms inX) 0 rfl rfl 9 (by decide) (jm w_55) rfl d_X_place_44 ?_
        refine jw_iload (pc := 47) F 4 d_X_place_47 rfl ?_
        refine jw_ialdN (pc := 49) F 9 1 rfl rfl i rfl (by omega) (by decide) d_X_place_49 ?_
        rw [hL.2 i hlt]
        refine jw_callV_Ei (pc := 50) (As := [.int (nI r), .int (nI (L[i]'hlt))]) (rest := []) F ([]) ([]) (c_isHeld l D ad cB cI cL f0 f1 f2 f3 f4 f5 f6 f7 v md (nI L.length) a r (L[i]'hlt) hA hr hm) (jw_cwV F.1.2.2.2.2 wl_good w_197 w_199 w_6 w_29 w_200 hd_X_isHeld ⟨by decide, by decide⟩) 0 0 rfl rfl rfl (by simp) rfl rfl (Nat.le_of_ble_eq_true rfl) d_X_place_50 ⟨rfl, rfl⟩ ⟨by decide, by decide⟩ ?_
        refine jw_if_eq (pc := 53) F 59 d_X_place_53 (by decide) (fun h2 => ?_) (fun h2 => ?_)
        · refine jw_iinc (pc := 59) (v := nI (i + 1)) (lv' := [(0, .ref (ad 0)), (1, .int (nI r)), (2, .int (nI k)), (3, .int (nI ((L.take i).countP (a_hd a r)))), (4, .int (nI (i + 1)))]) F 4 d_X_place_59 rfl (jw_inc _) (by decide) rfl ?_
          refine jw_goto (pc := 62) F 21 d_X_place_62 (by decide) ?_
          have q := ih (i + 1) (by omega) (fun j hj hji g => by
              by_cases e1 : j = i
              · subst e1; exact h1 (by rw [g])
              · exact hc j hj (by omega) g)
          rw [gl_cnt_s hlt, if_neg (by rw [jb_0.mp h2]; decide), Nat.add_zero] at q
          exact q
        · refine jw_iinc (pc := 56) (v := nI ((L.take i).countP (a_hd a r) + 1)) (lv' := [(0, .ref (ad 0)), (1, .int (nI r)), (2, .int (nI k)), (3, .int (nI ((L.take i).countP (a_hd a r) + 1))), (4, .int (nI i))]) F 3 d_X_place_56 rfl (jw_inc _) (by decide) rfl ?_
          refine jw_iinc (pc := 59) (v := nI (i + 1)) (lv' := [(0, .ref (ad 0)), (1, .int (nI r)), (2, .int (nI k)), (3, .int (nI ((L.take i).countP (a_hd a r) + 1))), (4, .int (nI (i + 1)))]) F 4 d_X_place_59 rfl (jw_inc _) (by decide) rfl ?_
          refine jw_goto (pc := 62) F 21 d_X_place_62 (by decide) ?_
          have q := ih (i + 1) (by omega) (fun j hj hji g => by
              by_cases e1 : j = i
              · subst e1; exact h1 (by rw [g])
              · exact hc j hj (by omega) g)
          rw [gl_cnt_s hlt, if_pos (jb_n.mp h2)] at q
          exact q
  refine jw_iconst (pc := 16) (v := nI 0) F d_X_place_16 (by decide) ?_
  refine jw_istore_n (pc := 17) (lv' := [(0, .ref (ad 0)), (1, .int (nI r)), (2, .int (nI k)), (3, .int (nI 0))]) F d_X_place_17 rfl (by decide) rfl ?_
  refine jw_iconst (pc := 18) (v := nI 0) F d_X_place_18 (by decide) ?_
  refine jw_istore (pc := 19) (lv' := [(0, .ref (ad 0)), (1, .int (nI r)), (2, .int (nI k)), (3, .int (nI 0)), (4, .int (nI 0))]) F d_X_place_19 (by decide) rfl ?_
  exact loop L.length 0 (by omega) (fun j _ hj => absurd hj (Nat.not_lt_zero j))
theorem jb_inj {a b : Bool} (h : jb a = jb b) : a = b := by cases a <;> cases b <;> first | rfl | exact absurd h (by decide)
set_option maxHeartbeats 4000000 in
set_option maxRecDepth 100000 in
theorem c_same (l : Launch) (D : va_G) (ad : Nat → Nat) (cB cI cL : ClassId) (f0 f1 f2 f3 f4 f5 f6 f7 : Nat → Int32) (v : Nat → Int64) (md ln : Int32) (a : AS) (L : List Nat) (hQ : cx_R a L f0 f1 f2 f3 f4 f5 f6 f7 v md ln) (r s9 : Nat) (hr : r < 4) (hs9 : s9 < 4) : jw_Ei l D vCl (vTy cB cI cL) y_X_same s_X_same rm_X_same [.ref (ad 0), .int (nI r), .int (nI s9)] (wX ad cB cI cL f0 f1 f2 f3 f4 f5 f6 f7 v md ln) ((jb (L.all (fun x => a_seen a r x == a_seen a s9 x)))) := by
  refine jw_ofi (cc := b_X_same) (nL := 4) (ret := (some .boolean)) (by decide) rfl (Nat.le_of_ble_eq_true rfl) (fun p e s m args below meth c A F hnm => ?_)
  refine jw_at (lv' := [(0, .ref (ad 0)), (1, .int (nI r)), (2, .int (nI s9))]) (st' := []) (ws' := wX ad cB cI cL f0 f1 f2 f3 f4 f5 f6 f7 v md ln) rfl rfl rfl ?_
  obtain ⟨hI, hA, hV, hL, hR⟩ := hQ
  have hB := cx_B_of hI
  have hn := hI.1
  obtain ⟨hM, hlen⟩ := cx_R_M hI hR
  have hln := hL.1
  subst hln
  refine jw_aload_n (pc := 0) F 0 d_X_same_0 rfl rfl ?_
  refine jw_iload_n (pc := 1) F 1 d_X_same_1 rfl rfl ?_
  refine jw_callV_Ev (pc := 2) (As := [.int (nI r)]) (rest := []) F ([]) ([]) (c_checkReplica l D ad cB cI cL f0 f1 f2 f3 f4 f5 f6 f7 v md (nI L.length) r hr) (jw_cwV F.1.2.2.2.2 wl_good w_93 w_95 w_0 w_29 w_96 hd_X_checkReplica ⟨by decide, by decide⟩) 0 0 rfl rfl rfl (by simp) rfl rfl (Nat.le_of_ble_eq_true rfl) d_X_same_2 ⟨rfl, rfl⟩ ⟨by decide, by decide⟩ ?_
  refine jw_aload_n (pc := 5) F 0 d_X_same_5 rfl rfl ?_
  refine jw_iload_n (pc := 6) F 2 d_X_same_6 rfl rfl ?_
  refine jw_callV_Ev (pc := 7) (As := [.int (nI s9)]) (rest := []) F ([]) ([]) (c_checkReplica l D ad cB cI cL f0 f1 f2 f3 f4 f5 f6 f7 v md (nI L.length) s9 hs9) (jw_cwV F.1.2.2.2.2 wl_good w_93 w_95 w_0 w_29 w_96 hd_X_checkReplica ⟨by decide, by decide⟩) 0 0 rfl rfl rfl (by simp) rfl rfl (Nat.le_of_ble_eq_true rfl) d_X_same_7 ⟨rfl, rfl⟩ ⟨by decide, by decide⟩ ?_
  have loop : ∀ (t i : Nat), i + t = L.length → (∀ (j : Nat) (h : j < L.length), j < i → a_seen a r L[j] = a_seen a s9 L[j]) → jw_J p l e rm_X_same s m args below meth c D vCl A 4 (MQ below (va_Qi (fun r9 w9 => r9 = (jb (L.all (fun x => a_seen a r x == a_seen a s9 x))) ∧ w9 = wX ad cB cI cL f0 f1 f2 f3 f4 f5 f6 f7 v md (nI L.length)) (jw_B D vCl (vTy cB cI cL) A) A) args s rm_X_same.cells rm_X_same.slots A) 0 0 12 [(0, .ref (ad 0)), (1, .int (nI r)), (2, .int (nI s9)), (3, .int (nI i))] [] (wX ad cB cI cL f0 f1 f2 f3 f4 f5 f6 f7 v md (nI L.length)) := by
    intro t
    induction t with
    | zero =>
      intro i hi hc
      obtain rfl : i = L.length := hi
      refine jw_iload_n (pc := 12) F 3 d_X_same_12 rfl rfl ?_
      refine jw_aload_n (pc := 13) F 0 d_X_same_13 rfl rfl ?_
      refine jw_get (pc := 14) F (jms inX) 0 rfl rfl 10 (by decide) (jm w_56) rfl d_X_same_14 ?_
      refine jw_icmp_ge (pc := 17) F 53 d_X_same_17 (by decide) (fun hz1 => ?_) (fun hz1 => False.elim (hz1 (nI_le (Nat.le_refl _) (by omega))))
      refine jw_iconst (pc := 53) (v := 1) F d_X_same_53 (by decide) ?_
      exact jw_zret F d_X_same_54 (by decide) ⟨by rw [show L.all (fun x => a_seen a r x == a_seen a s9 x) = true by rw [List.all_eq_true]; intro x hx; obtain ⟨j, hj, rfl⟩ := List.getElem_of_mem hx; exact beq_iff_eq.mpr (hc j hj hj)]; rfl, rfl⟩
    | succ t ih =>
      intro i hi hc
      have hlt : i < L.length := by omega
      have hm := hM _ (List.getElem_mem hlt)
      refine jw_iload_n (pc := 12) F 3 d_X_same_12 rfl rfl ?_
      refine jw_aload_n (pc := 13) F 0 d_X_same_13 rfl rfl ?_
      refine jw_get (pc := 14) F (jms inX) 0 rfl rfl 10 (by decide) (jm w_56) rfl d_X_same_14 ?_
      refine jw_icmp_ge (pc := 17) F 53 d_X_same_17 (by decide) (fun hz2 => False.elim (nI_ge hlt (by omega) hz2)) (fun hz2 => ?_)
      refine jw_aload_n (pc := 20) F 0 d_X_same_20 rfl rfl ?_
      refine jw_iload_n (pc := 21) F 1 d_X_same_21 rfl rfl ?_
      refine jw_aload_n (pc := 22) F 0 d_X_same_22 rfl rfl ?_
      refine jw_get (pc := 23) F (jms inX) 0 rfl rfl 9 (by decide) (jm w_55) rfl d_X_same_23 ?_
      refine jw_iload_n (pc := 26) F 3 d_X_same_26 rfl rfl ?_
      refine jw_ialdN (pc := 27) F 9 1 rfl rfl i rfl (by omega) (by decide) d_X_same_27 ?_
      rw [hL.2 i hlt]
      refine jw_callV_Ei (pc := 28) (As := [.int (nI r), .int (nI (L[i]'hlt))]) (rest := []) F ([]) ([]) (c_isSeen l D ad cB cI cL f0 f1 f2 f3 f4 f5 f6 f7 v md (nI L.length) a r (L[i]'hlt) hA hr hm) (jw_cwV F.1.2.2.2.2 wl_good w_283 w_285 w_13 w_29 w_286 hd_X_isSeen ⟨by decide, by decide⟩) 0 0 rfl rfl rfl (by simp) rfl rfl (Nat.le_of_ble_eq_true rfl) d_X_same_28 ⟨rfl, rfl⟩ ⟨by decide, by decide⟩ ?_
      refine jw_aload_n (pc := 31) F 0 d_X_same_31 rfl rfl ?_
      refine jw_iload_n (pc := 32) F 2 d_X_same_32 rfl rfl ?_
      refine jw_aload_n (pc := 33) F 0 d_X_same_33 rfl rfl ?_
      refine jw_get (pc := 34) F (jms inX) 0 rfl rfl 9 (by decide) (jm w_55) rfl d_X_same_34 ?_
      refine jw_iload_n (pc := 37) F 3 d_X_same_37 rfl rfl ?_
      refine jw_ialdN (pc := 38) F 9 1 rfl rfl i rfl (by omega) (by decide) d_X_same_38 ?_
      rw [hL.2 i hlt]
      refine jw_callV_Ei (pc := 39) (As := [.int (nI s9), .int (nI (L[i]'hlt))]) (rest := [.int (jb (a_seen a r (L[i]'hlt)))]) F ([]) ([]) (c_isSeen l D ad cB cI cL f0 f1 f2 f3 f4 f5 f6 f7 v md (nI L.length) a s9 (L[i]'hlt) hA hs9 hm) (jw_cwV F.1.2.2.2.2 wl_good w_283 w_285 w_13 w_29 w_286 hd_X_isSeen ⟨by decide, by decide⟩) 0 0 rfl rfl rfl (by simp) rfl rfl (Nat.le_of_ble_eq_true rfl) d_X_same_39 ⟨rfl, rfl⟩ ⟨by decide, by decide⟩ ?_
      refine jw_icmp_eq (pc := 42) F 47 d_X_same_42 (by decide) (fun h1 => ?_) (fun h1 => ?_)
      · refine jw_iinc (pc := 47) (v := nI (i + 1)) (lv' := [(0, .ref (ad 0)), (1, .int (nI r)), (2, .int (nI s9)), (3, .int (nI (i + 1)))]) F 3 d_X_same_47 rfl (jw_inc _) (by decide) rfl ?_
        refine jw_goto (pc := 50) F 12 d_X_same_50 (by decide) ?_
        exact ih (i + 1) (by omega) (fun j hj hji => by
            by_cases e1 : j = i
            · subst e1; exact jb_inj h1
            · exact hc j hj (by omega))
      · refine jw_iconst (pc := 45) (v := 0) F d_X_same_45 (by decide) ?_
        exact jw_zret F d_X_same_46 (by decide) ⟨by rw [show L.all (fun x => a_seen a r x == a_seen a s9 x) = false by rw [List.all_eq_false]; exact ⟨_, List.getElem_mem hlt, fun q => h1 (by rw [beq_iff_eq.mp q])⟩]; rfl, rfl⟩
  refine jw_iconst (pc := 10) (v := nI 0) F d_X_same_10 (by decide) ?_
  refine jw_istore_n (pc := 11) (lv' := [(0, .ref (ad 0)), (1, .int (nI r)), (2, .int (nI s9)), (3, .int (nI 0))]) F d_X_same_11 rfl (by decide) rfl ?_
  exact loop L.length 0 (by omega) (fun j _ hj => absurd hj (Nat.not_lt_zero j))
set_option maxHeartbeats 4000000 in
set_option maxRecDepth 100000 in
theorem c_tell (l : Launch) (D : va_G) (ad : Nat → Nat) (cB cI cL : ClassId) (f0 f1 f2 f3 f4 f5 f6 f7 : Nat → Int32) (v : Nat → Int64) (md ln : Int32) (a : AS) (L : List Nat) (hQ : cx_R a L f0 f1 f2 f3 f4 f5 f6 f7 v md ln) (r s9 : Nat) (hr : r < 4) (hs9 : s9 < 4) : jw_Mi l D vCl (vTy cB cI cL) y_X_tell s_X_tell rm_X_tell [.ref (ad 0), .int (nI r), .int (nI s9)] (wX ad cB cI cL f0 f1 f2 f3 f4 f5 f6 f7 v md ln) (fun r9 w9 => r9 = nI (ab_tell a r s9 (a_n a)).2 ∧ ∃ (g0 g1 g2 g3 g4 g5 g6 g7 : Nat → Int32) (gv : Nat → Int64) (gm gl : Int32), w9 = wX ad cB cI cL g0 g1 g2 g3 g4 g5 g6 g7 gv gm gl ∧ cx_R ((ab_tell a r s9 (a_n a)).1) L g0 g1 g2 g3 g4 g5 g6 g7 gv gm gl) := by
  refine jw_ofi (cc := b_X_tell) (nL := 5) (ret := (some .int)) (by decide) rfl (Nat.le_of_ble_eq_true rfl) (fun p e s m args below meth c A F hnm => ?_)
  refine jw_at (lv' := [(0, .ref (ad 0)), (1, .int (nI r)), (2, .int (nI s9))]) (st' := []) (ws' := wX ad cB cI cL f0 f1 f2 f3 f4 f5 f6 f7 v md ln) rfl rfl rfl ?_
  obtain ⟨hI, hA, hV, hL, hR⟩ := hQ
  have hB := cx_B_of hI
  have hn := hI.1
  obtain ⟨hM, hlen⟩ := cx_R_M hI hR
  have hmd := hA.1
  subst hmd
  refine jw_aload_n (pc := 0) F 0 d_X_tell_0 rfl rfl ?_
  refine jw_iload_n (pc := 1) F 1 d_X_tell_1 rfl rfl ?_
  refine jw_callV_Ev (pc := 2) (As := [.int (nI r)]) (rest := []) F ([]) ([]) (c_checkReplica l D ad cB cI cL f0 f1 f2 f3 f4 f5 f6 f7 v (nI (a_n a)) ln r hr) (jw_cwV F.1.2.2.2.2 wl_good w_93 w_95 w_0 w_29 w_96 hd_X_checkReplica ⟨by decide, by decide⟩) 0 0 rfl rfl rfl (by simp) rfl rfl (Nat.le_of_ble_eq_true rfl) d_X_tell_2 ⟨rfl, rfl⟩ ⟨by decide, by decide⟩ ?_
  refine jw_aload_n (pc := 5) F 0 d_X_tell_5 rfl rfl ?_
  refine jw_iload_n (pc := 6) F 2 d_X_tell_6 rfl rfl ?_
  refine jw_callV_Ev (pc := 7) (As := [.int (nI s9)]) (rest := []) F ([]) ([]) (c_checkReplica l D ad cB cI cL f0 f1 f2 f3 f4 f5 f6 f7 v (nI (a_n a)) ln s9 hs9) (jw_cwV F.1.2.2.2.2 wl_good w_93 w_95 w_0 w_29 w_96 hd_X_checkReplica ⟨by decide, by decide⟩) 0 0 rfl rfl rfl (by simp) rfl rfl (Nat.le_of_ble_eq_true rfl) d_X_tell_7 ⟨rfl, rfl⟩ ⟨by decide, by decide⟩ ?_
  have loop : ∀ (t i : Nat) (g4 g5 g6 : Nat → Int32), i + t = a_n a → cx_A (ab_tell a r s9 i).1 f0 f1 f2 f3 g4 g5 g6 (nI (a_n a)) → jw_J p l e rm_X_tell s m args below meth c D vCl A 5 (MQ below (va_Qi (fun r9 w9 => r9 = nI (ab_tell a r s9 (a_n a)).2 ∧ ∃ (g0 g1 g2 g3 g4 g5 g6 g7 : Nat → Int32) (gv : Nat → Int64) (gm gl : Int32), w9 = wX ad cB cI cL g0 g1 g2 g3 g4 g5 g6 g7 gv gm gl ∧ cx_R ((ab_tell a r s9 (a_n a)).1) L g0 g1 g2 g3 g4 g5 g6 g7 gv gm gl) (jw_B D vCl (vTy cB cI cL) A) A) args s rm_X_tell.cells rm_X_tell.slots A) 0 0 15 [(0, .ref (ad 0)), (1, .int (nI r)), (2, .int (nI s9)), (3, .int (nI (ab_tell a r s9 i).2)), (4, .int (nI i))] [] (wX ad cB cI cL f0 f1 f2 f3 g4 g5 g6 f7 v (nI (a_n a)) ln) := by
    intro t
    induction t with
    | zero =>
      intro i g4 g5 g6 hi hA9
      obtain rfl : i = a_n a := hi
      refine jw_iload (pc := 15) F 4 d_X_tell_15 rfl ?_
      refine jw_aload_n (pc := 17) F 0 d_X_tell_17 rfl rfl ?_
      refine jw_get (pc := 18) F (jms inX) 0 rfl rfl 0 (by decide) (jm w_46) rfl d_X_tell_18 ?_
      refine jw_icmp_ge (pc := 21) F 60 d_X_tell_21 (by decide) (fun hz1 => ?_) (fun hz1 => False.elim (hz1 (nI_le (Nat.le_refl _) (by omega))))
      refine jw_iload_n (pc := 60) F 3 d_X_tell_60 rfl rfl ?_
      exact jw_iret F d_X_tell_61 ⟨rfl, _, _, _, _, _, _, _, _, _, _, _, rfl, ab_tell_I hI (Nat.le_refl _), hA9, ab_tell_V hV, hL, ab_tell_row hR⟩
    | succ t ih =>
      intro i g4 g5 g6 hi hA9
      have hI9 : ab_I (ab_tell a r s9 i).1 := ab_tell_I hI (by omega)
      have hn9 := (ab_tell_n (a := a) (r := r) (s := s9) (i := i)).1
      refine jw_iload (pc := 15) F 4 d_X_tell_15 rfl ?_
      refine jw_aload_n (pc := 17) F 0 d_X_tell_17 rfl rfl ?_
      refine jw_get (pc := 18) F (jms inX) 0 rfl rfl 0 (by decide) (jm w_46) rfl d_X_tell_18 ?_
      refine jw_icmp_ge (pc := 21) F 60 d_X_tell_21 (by decide) (fun hz2 => False.elim (nI_ge (show i < a_n a by omega) (by omega) hz2)) (fun hz2 => ?_)
      refine jw_aload_n (pc := 24) F 0 d_X_tell_24 rfl rfl ?_
      refine jw_iload_n (pc := 25) F 2 d_X_tell_25 rfl rfl ?_
      refine jw_iload (pc := 26) F 4 d_X_tell_26 rfl ?_
      refine jw_callV_Ei (pc := 28) (As := [.int (nI s9), .int (nI i)]) (rest := []) F ([]) ([]) (c_isHeld l D ad cB cI cL f0 f1 f2 f3 g4 g5 g6 f7 v (nI (a_n a)) ln (ab_tell a r s9 i).1 s9 i hA9 hs9 (by omega)) (jw_cwV F.1.2.2.2.2 wl_good w_197 w_199 w_6 w_29 w_200 hd_X_isHeld ⟨by decide, by decide⟩) 0 0 rfl rfl rfl (by simp) rfl rfl (Nat.le_of_ble_eq_true rfl) d_X_tell_28 ⟨rfl, rfl⟩ ⟨by decide, by decide⟩ ?_
      refine jw_if_eq (pc := 31) F 54 d_X_tell_31 (by decide) (fun h1 => ?_) (fun h1 => ?_)
      · refine jw_iinc (pc := 54) (v := nI (i + 1)) (lv' := [(0, .ref (ad 0)), (1, .int (nI r)), (2, .int (nI s9)), (3, .int (nI (ab_tell a r s9 i).2)), (4, .int (nI (i + 1)))]) F 4 d_X_tell_54 rfl (jw_inc _) (by decide) rfl ?_
        refine jw_goto (pc := 57) F 15 d_X_tell_57 (by decide) ?_
        have hc : ¬ (a_hd (ab_tell a r s9 i).1 s9 i && !a_hd (ab_tell a r s9 i).1 r i) = true := by rw [jb_0.mp h1]; simp
        have he : ab_tell a r s9 (i + 1) = ab_tell a r s9 i := by show (if _ then _ else _) = _; rw [if_neg hc]
        have q := ih (i + 1) g4 g5 g6 (by omega) (by rw [he]; exact hA9)
        rw [he] at q
        exact q
      · refine jw_aload_n (pc := 34) F 0 d_X_tell_34 rfl rfl ?_
        refine jw_iload_n (pc := 35) F 1 d_X_tell_35 rfl rfl ?_
        refine jw_iload (pc := 36) F 4 d_X_tell_36 rfl ?_
        refine jw_callV_Ei (pc := 38) (As := [.int (nI r), .int (nI i)]) (rest := []) F ([]) ([]) (c_isHeld l D ad cB cI cL f0 f1 f2 f3 g4 g5 g6 f7 v (nI (a_n a)) ln (ab_tell a r s9 i).1 r i hA9 hr (by omega)) (jw_cwV F.1.2.2.2.2 wl_good w_197 w_199 w_6 w_29 w_200 hd_X_isHeld ⟨by decide, by decide⟩) 0 0 rfl rfl rfl (by simp) rfl rfl (Nat.le_of_ble_eq_true rfl) d_X_tell_38 ⟨rfl, rfl⟩ ⟨by decide, by decide⟩ ?_
        refine jw_if_ne (pc := 41) F 54 d_X_tell_41 (by decide) (fun h2 => ?_) (fun h2 => ?_)
        · refine jw_iinc (pc := 54) (v := nI (i + 1)) (lv' := [(0, .ref (ad 0)), (1, .int (nI r)), (2, .int (nI s9)), (3, .int (nI (ab_tell a r s9 i).2)), (4, .int (nI (i + 1)))]) F 4 d_X_tell_54 rfl (jw_inc _) (by decide) rfl ?_
          refine jw_goto (pc := 57) F 15 d_X_tell_57 (by decide) ?_
          have hc : ¬ (a_hd (ab_tell a r s9 i).1 s9 i && !a_hd (ab_tell a r s9 i).1 r i) = true := by rw [jb_n.mp h2]; simp
          have he : ab_tell a r s9 (i + 1) = ab_tell a r s9 i := by show (if _ then _ else _) = _; rw [if_neg hc]
          have q := ih (i + 1) g4 g5 g6 (by omega) (by rw [he]; exact hA9)
          rw [he] at q
          exact q
        · refine jw_aload_n (pc := 44) F 0 d_X_tell_44 rfl rfl ?_
          refine jw_iload_n (pc := 45) F 1 d_X_tell_45 rfl rfl ?_
          refine jw_iload (pc := 46) F 4 d_X_tell_46 rfl ?_
          refine jw_callV_Cv (pc := 48) (As := [.int (nI r), .int (nI i)]) (rest := []) F (c_take l D ad cB cI cL f0 f1 f2 f3 g4 g5 g6 f7 v (nI (a_n a)) ln (ab_tell a r s9 i).1 (cx_B_of hI9) hA9 r i hr (by omega)) (jw_cwV F.1.2.2.2.2 wl_good w_224 w_226 w_8 w_29 w_227 hd_X_take ⟨by decide, by decide⟩) 0 0 rfl rfl rfl rfl rfl rfl (Nat.le_of_ble_eq_true rfl) d_X_tell_48 ⟨rfl, rfl⟩ ⟨by decide, by decide⟩ (fun w hw => ?_)
          obtain ⟨k4, k5, k6, rfl, hA8⟩ := hw
          refine jw_iinc (pc := 51) (v := nI ((ab_tell a r s9 i).2 + 1)) (lv' := [(0, .ref (ad 0)), (1, .int (nI r)), (2, .int (nI s9)), (3, .int (nI ((ab_tell a r s9 i).2 + 1))), (4, .int (nI i))]) F 3 d_X_tell_51 rfl (jw_inc _) (by decide) rfl ?_
          refine jw_iinc (pc := 54) (v := nI (i + 1)) (lv' := [(0, .ref (ad 0)), (1, .int (nI r)), (2, .int (nI s9)), (3, .int (nI ((ab_tell a r s9 i).2 + 1))), (4, .int (nI (i + 1)))]) F 4 d_X_tell_54 rfl (jw_inc _) (by decide) rfl ?_
          refine jw_goto (pc := 57) F 15 d_X_tell_57 (by decide) ?_
          have he : ab_tell a r s9 (i + 1) = (ab_take (ab_tell a r s9 i).1 r i, (ab_tell a r s9 i).2 + 1) := by show (if _ then _ else _) = _; rw [if_pos (by rw [jb_n.mp h1, jb_0.mp h2]; rfl)]
          have q := ih (i + 1) k4 k5 k6 (by omega) (by rw [he]; exact hA8)
          rw [he] at q
          exact q
  refine jw_iconst (pc := 10) (v := nI 0) F d_X_tell_10 (by decide) ?_
  refine jw_istore_n (pc := 11) (lv' := [(0, .ref (ad 0)), (1, .int (nI r)), (2, .int (nI s9)), (3, .int (nI 0))]) F d_X_tell_11 rfl (by decide) rfl ?_
  refine jw_iconst (pc := 12) (v := nI 0) F d_X_tell_12 (by decide) ?_
  refine jw_istore (pc := 13) (lv' := [(0, .ref (ad 0)), (1, .int (nI r)), (2, .int (nI s9)), (3, .int (nI 0)), (4, .int (nI 0))]) F d_X_tell_13 (by decide) rfl ?_
  exact loop (a_n a) 0 f4 f5 f6 (by omega) hA
