theorem cx_own0 {a : AS} {r : Nat} {t : Int32} {vv : Int64} {L : List Nat} {p : Nat} (hI : ab_I a) (ht : ab_ok a r t false) (hR : ab_row a L) (hp : p ≤ L.length) (h0 : p = 0 → ∀ i (h : i < L.length), nI (L[i]) ≠ t) (h1 : ∀ q, p = q + 1 → ∃ h : q < L.length, nI (L[q]) = t) : gm_own (a_par (ab_new a r t false vv)) (a_lt (ab_new a r t false vv)) (a_n a) (L.take p).reverse := by
  have hn := hI.1
  have e0 : a_tg (ab_new a r t false vv) (a_n a) = t := ab_us
  rcases ht with ⟨rfl, -⟩ | ⟨j, hj, rfl, hd, hh⟩
  · cases p with
    | zero => exact ab_par_m1 e0
    | succ q =>
      obtain ⟨h, g⟩ := h1 q rfl
      have := ((hR.2.1 _).mp (List.getElem_mem h)).1
      exact absurd g (ab_nI_m1 (by omega))
  · cases p with
    | zero =>
      obtain ⟨i, hi, g⟩ := List.getElem_of_mem ((hR.2.1 j).mpr ⟨hj, hd⟩)
      exact absurd (by rw [g]) (h0 rfl i hi)
    | succ q =>
      obtain ⟨h, g⟩ := h1 q rfl
      have := ((hR.2.1 _).mp (List.getElem_mem h)).1
      have g2 : L[q] = j := ab_nI_inj (by omega) (by omega) g
      rw [List.take_succ_eq_append_getElem h, List.reverse_append]
      exact Or.inl (by rw [g2]; exact ab_par_nI (by omega) e0)
theorem cx_own1 {a : AS} {e : Nat} {L : List Nat} {p : Nat} (h : p < L.length) (ho : gm_own (a_par a) (a_lt a) e (L.take p).reverse) (hg : a_ltb a e L[p] = true) : gm_own (a_par a) (a_lt a) e (L.take (p + 1)).reverse := by
  rw [List.take_succ_eq_append_getElem h, List.reverse_append]
  exact Or.inr ⟨a_ltb_t.mp hg, ho⟩
theorem w_56 : Cond.fieldLink RX 43 "WovenRow" "rowLength" "I" ∈ WL := jwl 56 rfl rfl
theorem w_55 : Cond.fieldLink RX 40 "WovenRow" "row" "[I" ∈ WL := jwl 55 rfl rfl
theorem w_283 : Cond.methodLink RX 74 y_X_isSeen ∈ WL := jwl 283 rfl rfl
theorem w_285 : Cond.instanceMethod y_X_isSeen ∈ WL := jwl 285 rfl rfl
theorem w_13 : Cond.selects RX y_X_isSeen y_X_isSeen ∈ WL := jwl 13 rfl rfl
theorem w_286 : Cond.code y_X_isSeen b_X_isSeen 3 (some .boolean) ∈ WL := jwl 286 rfl rfl
theorem w_239 : Cond.methodLink RX 129 y_X_isGreater ∈ WL := jwl 239 rfl rfl
theorem w_241 : Cond.instanceMethod y_X_isGreater ∈ WL := jwl 241 rfl rfl
theorem w_11 : Cond.selects RX y_X_isGreater y_X_isGreater ∈ WL := jwl 11 rfl rfl
theorem w_242 : Cond.code y_X_isGreater b_X_isGreater 3 (some .boolean) ∈ WL := jwl 242 rfl rfl
theorem w_235 : Cond.methodLink RX 126 y_X_positionBehind ∈ WL := jwl 235 rfl rfl
theorem w_237 : Cond.instanceMethod y_X_positionBehind ∈ WL := jwl 237 rfl rfl
theorem w_10 : Cond.selects RX y_X_positionBehind y_X_positionBehind ∈ WL := jwl 10 rfl rfl
theorem w_238 : Cond.code y_X_positionBehind b_X_positionBehind 3 (some .int) ∈ WL := jwl 238 rfl rfl
abbrev rm_X_weave : Room := { frames := 1, cells := 0, slots := 0, locals := 22 }
abbrev rm_X_positionBehind : Room := { frames := 0, cells := 0, slots := 0, locals := 0 }
abbrev rm_X_countHeldElements : Room := { frames := 2, cells := 0, slots := 0, locals := 42 }
abbrev rm_X_countSeen : Room := { frames := 3, cells := 0, slots := 0, locals := 64 }
set_option maxHeartbeats 4000000 in
set_option maxRecDepth 100000 in
theorem c_countHeldElements (l : Launch) (D : va_G) (ad : Nat → Nat) (cB cI cL : ClassId) (f0 f1 f2 f3 f4 f5 f6 f7 : Nat → Int32) (v : Nat → Int64) (md ln : Int32) (a : AS) (hB : cx_B a) (hA : cx_A a f0 f1 f2 f3 f4 f5 f6 md) (L : List Nat) (hL : cx_L L f7 ln) (hM : ∀ x ∈ L, x < 160) (hl : L.length ≤ 160) (r : Nat) (hr : r < 4) : jw_Ei l D vCl (vTy cB cI cL) y_X_countHeldElements s_X_countHeldElements rm_X_countHeldElements [.ref (ad 0), .int (nI r)] (wX ad cB cI cL f0 f1 f2 f3 f4 f5 f6 f7 v md ln) ((nI (L.countP (a_hd a r)))) := by
  refine jw_ofi (cc := b_X_countHeldElements) (nL := 4) (ret := (some .int)) (by decide) rfl (Nat.le_of_ble_eq_true rfl) (fun p e s m args below meth c A F hnm => ?_)
  refine jw_at (lv' := [(0, .ref (ad 0)), (1, .int (nI r))]) (st' := []) (ws' := wX ad cB cI cL f0 f1 f2 f3 f4 f5 f6 f7 v md ln) rfl rfl rfl ?_
  have hn := hB.1
  have hln := hL.1
  subst hln
  have loop : ∀ (t i : Nat), i + t = L.length → jw_J p l e rm_X_countHeldElements s m args below meth c D vCl A 4 (MQ below (va_Qi (fun r9 w9 => r9 = (nI (L.countP (a_hd a r))) ∧ w9 = wX ad cB cI cL f0 f1 f2 f3 f4 f5 f6 f7 v md (nI L.length)) (jw_B D vCl (vTy cB cI cL) A) A) args s rm_X_countHeldElements.cells rm_X_countHeldElements.slots A) 0 0 4 [(0, .ref (ad 0)), (1, .int (nI r)), (2, .int (nI ((L.take i).countP (a_hd a r)))), (3, .int (nI i))] [] (wX ad cB cI cL f0 f1 f2 f3 f4 f5 f6 f7 v md (nI L.length)) := by
    intro t
    induction t with
    | zero =>
      intro i hi
      obtain rfl : i = L.length := hi
      refine jw_iload_n (pc := 4) F 3 d_X_countHeldElements_4 rfl rfl ?_
      refine jw_aload_n (pc := 5) F 0 d_X_countHeldElements_5 rfl rfl ?_
      refine jw_get (pc := 6) F (jms inX) 0 rfl rfl 10 (by decide) (jm w_56) rfl d_X_countHeldElements_6 ?_
      refine jw_icmp_ge (pc := 9) F 35 d_X_countHeldElements_9 (by decide) (fun hz1 => ?_) (fun hz1 => False.elim (hz1 (nI_le (Nat.le_refl _) (by omega))))
      refine jw_iload_n (pc := 35) F 2 d_X_countHeldElements_35 rfl rfl ?_
      exact jw_iret F d_X_countHeldElements_36 ⟨by rw [List.take_length], rfl⟩
    | succ t ih =>
      intro i hi
      have hlt : i < L.length := by omega
      refine jw_iload_n (pc := 4) F 3 d_X_countHeldElements_4 rfl rfl ?_
      refine jw_aload_n (pc := 5) F 0 d_X_countHeldElements_5 rfl rfl ?_
      refine jw_get (pc := 6) F (jms inX) 0 rfl rfl 10 (by decide) (jm w_56) rfl d_X_countHeldElements_6 ?_
      refine jw_icmp_ge (pc := 9) F 35 d_X_countHeldElements_9 (by decide) (fun hz2 => False.elim (nI_ge hlt (by omega) hz2)) (fun hz2 => ?_)
      refine jw_aload_n (pc := 12) F 0 d_X_countHeldElements_12 rfl rfl ?_
      refine jw_iload_n (pc := 13) F 1 d_X_countHeldElements_13 rfl rfl ?_
      refine jw_aload_n (pc := 14) F 0 d_X_countHeldElements_14 rfl rfl ?_
      refine jw_get (pc := 15) F (jms inX) 0 rfl rfl 9 (by decide) (jm w_55) rfl d_X_countHeldElements_15 ?_
      refine jw_iload_n (pc := 18) F 3 d_X_countHeldElements_18 rfl rfl ?_
      refine jw_ialdN (pc := 19) F 9 1 rfl rfl i rfl (by omega) (by decide) d_X_countHeldElements_19 ?_
      rw [hL.2 i hlt]
      refine jw_callV_Ei (pc := 20) (As := [.int (nI r), .int (nI (L[i]'hlt))]) (rest := []) F ([]) ([]) (c_isHeld l D ad cB cI cL f0 f1 f2 f3 f4 f5 f6 f7 v md (nI L.length) a r (L[i]'hlt) hA hr (hM _ (List.getElem_mem hlt))) (jw_cwV F.1.2.2.2.2 wl_good w_197 w_199 w_6 w_29 w_200 hd_X_isHeld ⟨by decide, by decide⟩) 0 0 rfl rfl rfl (by simp) rfl rfl (Nat.le_of_ble_eq_true rfl) d_X_countHeldElements_20 ⟨rfl, rfl⟩ ⟨by decide, by decide⟩ ?_
      refine jw_if_eq (pc := 23) F 29 d_X_countHeldElements_23 (by decide) (fun h1 => ?_) (fun h1 => ?_)
      · refine jw_iinc (pc := 29) (v := nI (i + 1)) (lv' := [(0, .ref (ad 0)), (1, .int (nI r)), (2, .int (nI ((L.take i).countP (a_hd a r)))), (3, .int (nI (i + 1)))]) F 3 d_X_countHeldElements_29 rfl (jw_inc _) (by decide) rfl ?_
        refine jw_goto (pc := 32) F 4 d_X_countHeldElements_32 (by decide) ?_
        have q := ih (i + 1) (by omega)
        rw [gl_cnt_s hlt, if_neg (by rw [jb_0.mp h1]; decide), Nat.add_zero] at q
        exact q
      · refine jw_iinc (pc := 26) (v := nI ((L.take i).countP (a_hd a r) + 1)) (lv' := [(0, .ref (ad 0)), (1, .int (nI r)), (2, .int (nI ((L.take i).countP (a_hd a r) + 1))), (3, .int (nI i))]) F 2 d_X_countHeldElements_26 rfl (jw_inc _) (by decide) rfl ?_
        refine jw_iinc (pc := 29) (v := nI (i + 1)) (lv' := [(0, .ref (ad 0)), (1, .int (nI r)), (2, .int (nI ((L.take i).countP (a_hd a r) + 1))), (3, .int (nI (i + 1)))]) F 3 d_X_countHeldElements_29 rfl (jw_inc _) (by decide) rfl ?_
        refine jw_goto (pc := 32) F 4 d_X_countHeldElements_32 (by decide) ?_
        have q := ih (i + 1) (by omega)
        rw [gl_cnt_s hlt, if_pos (jb_n.mp h1)] at q
        exact q
  refine jw_iconst (pc := 0) (v := nI 0) F d_X_countHeldElements_0 (by decide) ?_
  refine jw_istore_n (pc := 1) (lv' := [(0, .ref (ad 0)), (1, .int (nI r)), (2, .int (nI 0))]) F d_X_countHeldElements_1 rfl (by decide) rfl ?_
  refine jw_iconst (pc := 2) (v := nI 0) F d_X_countHeldElements_2 (by decide) ?_
  refine jw_istore_n (pc := 3) (lv' := [(0, .ref (ad 0)), (1, .int (nI r)), (2, .int (nI 0)), (3, .int (nI 0))]) F d_X_countHeldElements_3 rfl (by decide) rfl ?_
  exact loop L.length 0 (by omega)
set_option maxHeartbeats 4000000 in
set_option maxRecDepth 100000 in
theorem c_countSeen (l : Launch) (D : va_G) (ad : Nat → Nat) (cB cI cL : ClassId) (f0 f1 f2 f3 f4 f5 f6 f7 : Nat → Int32) (v : Nat → Int64) (md ln : Int32) (a : AS) (hB : cx_B a) (hA : cx_A a f0 f1 f2 f3 f4 f5 f6 md) (L : List Nat) (hL : cx_L L f7 ln) (hM : ∀ x ∈ L, x < 160) (hl : L.length ≤ 160) (r : Nat) (hr : r < 4) : jw_Ei l D vCl (vTy cB cI cL) y_X_countSeen s_X_countSeen rm_X_countSeen [.ref (ad 0), .int (nI r)] (wX ad cB cI cL f0 f1 f2 f3 f4 f5 f6 f7 v md ln) ((nI (L.countP (a_seen a r)))) := by
  refine jw_ofi (cc := b_X_countSeen) (nL := 4) (ret := (some .int)) (by decide) rfl (Nat.le_of_ble_eq_true rfl) (fun p e s m args below meth c A F hnm => ?_)
  refine jw_at (lv' := [(0, .ref (ad 0)), (1, .int (nI r))]) (st' := []) (ws' := wX ad cB cI cL f0 f1 f2 f3 f4 f5 f6 f7 v md ln) rfl rfl rfl ?_
  have hn := hB.1
  have hln := hL.1
  subst hln
  have loop : ∀ (t i : Nat), i + t = L.length → jw_J p l e rm_X_countSeen s m args below meth c D vCl A 4 (MQ below (va_Qi (fun r9 w9 => r9 = (nI (L.countP (a_seen a r))) ∧ w9 = wX ad cB cI cL f0 f1 f2 f3 f4 f5 f6 f7 v md (nI L.length)) (jw_B D vCl (vTy cB cI cL) A) A) args s rm_X_countSeen.cells rm_X_countSeen.slots A) 0 0 4 [(0, .ref (ad 0)), (1, .int (nI r)), (2, .int (nI ((L.take i).countP (a_seen a r)))), (3, .int (nI i))] [] (wX ad cB cI cL f0 f1 f2 f3 f4 f5 f6 f7 v md (nI L.length)) := by
    intro t
    induction t with
    | zero =>
      intro i hi
      obtain rfl : i = L.length := hi
      refine jw_iload_n (pc := 4) F 3 d_X_countSeen_4 rfl rfl ?_
      refine jw_aload_n (pc := 5) F 0 d_X_countSeen_5 rfl rfl ?_
      refine jw_get (pc := 6) F (jms inX) 0 rfl rfl 10 (by decide) (jm w_56) rfl d_X_countSeen_6 ?_
      refine jw_icmp_ge (pc := 9) F 35 d_X_countSeen_9 (by decide) (fun hz1 => ?_) (fun hz1 => False.elim (hz1 (nI_le (Nat.le_refl _) (by omega))))
      refine jw_iload_n (pc := 35) F 2 d_X_countSeen_35 rfl rfl ?_
      exact jw_iret F d_X_countSeen_36 ⟨by rw [List.take_length], rfl⟩
    | succ t ih =>
      intro i hi
      have hlt : i < L.length := by omega
      refine jw_iload_n (pc := 4) F 3 d_X_countSeen_4 rfl rfl ?_
      refine jw_aload_n (pc := 5) F 0 d_X_countSeen_5 rfl rfl ?_
      refine jw_get (pc := 6) F (jms inX) 0 rfl rfl 10 (by decide) (jm w_56) rfl d_X_countSeen_6 ?_
      refine jw_icmp_ge (pc := 9) F 35 d_X_countSeen_9 (by decide) (fun hz2 => False.elim (nI_ge hlt (by omega) hz2)) (fun hz2 => ?_)
      refine jw_aload_n (pc := 12) F 0 d_X_countSeen_12 rfl rfl ?_
      refine jw_iload_n (pc := 13) F 1 d_X_countSeen_13 rfl rfl ?_
      refine jw_aload_n (pc := 14) F 0 d_X_countSeen_14 rfl rfl ?_
      refine jw_get (pc := 15) F (jms inX) 0 rfl rfl 9 (by decide) (jm w_55) rfl d_X_countSeen_15 ?_
      refine jw_iload_n (pc := 18) F 3 d_X_countSeen_18 rfl rfl ?_
      refine jw_ialdN (pc := 19) F 9 1 rfl rfl i rfl (by omega) (by decide) d_X_countSeen_19 ?_
      rw [hL.2 i hlt]
      refine jw_callV_Ei (pc := 20) (As := [.int (nI r), .int (nI (L[i]'hlt))]) (rest := []) F ([]) ([]) (c_isSeen l D ad cB cI cL f0 f1 f2 f3 f4 f5 f6 f7 v md (nI L.length) a r (L[i]'hlt) hA hr (hM _ (List.getElem_mem hlt))) (jw_cwV F.1.2.2.2.2 wl_good w_283 w_285 w_13 w_29 w_286 hd_X_isSeen ⟨by decide, by decide⟩) 0 0 rfl rfl rfl (by simp) rfl rfl (Nat.le_of_ble_eq_true rfl) d_X_countSeen_20 ⟨rfl, rfl⟩ ⟨by decide, by decide⟩ ?_
      refine jw_if_eq (pc := 23) F 29 d_X_countSeen_23 (by decide) (fun h1 => ?_) (fun h1 => ?_)
      · refine jw_iinc (pc := 29) (v := nI (i + 1)) (lv' := [(0, .ref (ad 0)), (1, .int (nI r)), (2, .int (nI ((L.take i).countP (a_seen a r)))), (3, .int (nI (i + 1)))]) F 3 d_X_countSeen_29 rfl (jw_inc _) (by decide) rfl ?_
        refine jw_goto (pc := 32) F 4 d_X_countSeen_32 (by decide) ?_
        have q := ih (i + 1) (by omega)
        rw [gl_cnt_s hlt, if_neg (by rw [jb_0.mp h1]; decide), Nat.add_zero] at q
        exact q
      · refine jw_iinc (pc := 26) (v := nI ((L.take i).countP (a_seen a r) + 1)) (lv' := [(0, .ref (ad 0)), (1, .int (nI r)), (2, .int (nI ((L.take i).countP (a_seen a r) + 1))), (3, .int (nI i))]) F 2 d_X_countSeen_26 rfl (jw_inc _) (by decide) rfl ?_
        refine jw_iinc (pc := 29) (v := nI (i + 1)) (lv' := [(0, .ref (ad 0)), (1, .int (nI r)), (2, .int (nI ((L.take i).countP (a_seen a r) + 1))), (3, .int (nI (i + 1)))]) F 3 d_X_countSeen_29 rfl (jw_inc _) (by decide) rfl ?_
        refine jw_goto (pc := 32) F 4 d_X_countSeen_32 (by decide) ?_
        have q := ih (i + 1) (by omega)
        rw [gl_cnt_s hlt, if_pos (jb_n.mp h1)] at q
        exact q
  refine jw_iconst (pc := 0) (v := nI 0) F d_X_countSeen_0 (by decide) ?_
  refine jw_istore_n (pc := 1) (lv' := [(0, .ref (ad 0)), (1, .int (nI r)), (2, .int (nI 0))]) F d_X_countSeen_1 rfl (by decide) rfl ?_
  refine jw_iconst (pc := 2) (v := nI 0) F d_X_countSeen_2 (by decide) ?_
  refine jw_istore_n (pc := 3) (lv' := [(0, .ref (ad 0)), (1, .int (nI r)), (2, .int (nI 0)), (3, .int (nI 0))]) F d_X_countSeen_3 rfl (by decide) rfl ?_
  exact loop L.length 0 (by omega)
set_option maxHeartbeats 4000000 in
set_option maxRecDepth 100000 in
theorem c_positionBehind (l : Launch) (D : va_G) (ad : Nat → Nat) (cB cI cL : ClassId) (f0 f1 f2 f3 f4 f5 f6 f7 : Nat → Int32) (v : Nat → Int64) (md ln : Int32) (L : List Nat) (hL : cx_L L f7 ln) (hl : L.length ≤ 160) (x : Int32) : jw_Mi l D vCl (vTy cB cI cL) y_X_positionBehind s_X_positionBehind rm_X_positionBehind [.ref (ad 0), .int x] (wX ad cB cI cL f0 f1 f2 f3 f4 f5 f6 f7 v md ln) (fun r9 w9 => (∃ p, p ≤ L.length ∧ r9 = nI p ∧ (p = 0 → ∀ i (h : i < L.length), nI (L[i]) ≠ x) ∧ (∀ q, p = q + 1 → ∃ h : q < L.length, nI (L[q]) = x)) ∧ w9 = wX ad cB cI cL f0 f1 f2 f3 f4 f5 f6 f7 v md ln) := by
  refine jw_ofi (cc := b_X_positionBehind) (nL := 3) (ret := (some .int)) (by decide) rfl (Nat.le_of_ble_eq_true rfl) (fun p e s m args below meth c A F hnm => ?_)
  refine jw_at (lv' := [(0, .ref (ad 0)), (1, .int x)]) (st' := []) (ws' := wX ad cB cI cL f0 f1 f2 f3 f4 f5 f6 f7 v md ln) rfl rfl rfl ?_
  have hln := hL.1
  subst hln
  have loop : ∀ (t : Nat), t ≤ L.length → (∀ i (h : i < L.length), t ≤ i → nI (L[i]) ≠ x) → jw_J p l e rm_X_positionBehind s m args below meth c D vCl A 3 (MQ below (va_Qi (fun r9 w9 => (∃ p, p ≤ L.length ∧ r9 = nI p ∧ (p = 0 → ∀ i (h : i < L.length), nI (L[i]) ≠ x) ∧ (∀ q, p = q + 1 → ∃ h : q < L.length, nI (L[q]) = x)) ∧ w9 = wX ad cB cI cL f0 f1 f2 f3 f4 f5 f6 f7 v md (nI L.length)) (jw_B D vCl (vTy cB cI cL) A) A) args s rm_X_positionBehind.cells rm_X_positionBehind.slots A) 0 0 5 [(0, .ref (ad 0)), (1, .int x), (2, .int (nI t))] [] (wX ad cB cI cL f0 f1 f2 f3 f4 f5 f6 f7 v md (nI L.length)) := by
    intro t
    induction t with
    | zero =>
      intro hp hno
      refine jw_iload_n (pc := 5) F 2 d_X_positionBehind_5 rfl rfl ?_
      refine jw_if_le (pc := 6) F 27 d_X_positionBehind_6 (by decide) (fun hz1 => ?_) (fun hz1 => False.elim (hz1 (by decide)))
      refine jw_iload_n (pc := 27) F 2 d_X_positionBehind_27 rfl rfl ?_
      exact jw_iret F d_X_positionBehind_28 ⟨⟨0, by omega, rfl, fun _ i h => hno i h (by omega), fun q hq => by omega⟩, rfl⟩
    | succ t ih =>
      intro hp hno
      have hlt : t < L.length := by omega
      refine jw_iload_n (pc := 5) F 2 d_X_positionBehind_5 rfl rfl ?_
      refine jw_if_le (pc := 6) F 27 d_X_positionBehind_6 (by decide) (fun hz2 => False.elim (nI_nle (by omega) (by omega) hz2)) (fun hz2 => ?_)
      refine jw_aload_n (pc := 9) F 0 d_X_positionBehind_9 rfl rfl ?_
      refine jw_get (pc := 10) F (jms inX) 0 rfl rfl 9 (by decide) (jm w_55) rfl d_X_positionBehind_10 ?_
      refine jw_iload_n (pc := 13) F 2 d_X_positionBehind_13 rfl rfl ?_
      refine jw_iconst (pc := 14) (v := 1) F d_X_positionBehind_14 (by decide) ?_
      refine jw_isub (pc := 15) F d_X_positionBehind_15 ?_
      rw [nI_pred]
      refine jw_ialdN (pc := 16) F 9 1 rfl rfl t rfl (by omega) (by decide) d_X_positionBehind_16 ?_
      refine jw_iload_n (pc := 17) F 1 d_X_positionBehind_17 rfl rfl ?_
      refine jw_icmp_eq (pc := 18) F 27 d_X_positionBehind_18 (by decide) (fun h1 => ?_) (fun h1 => ?_)
      · refine jw_iload_n (pc := 27) F 2 d_X_positionBehind_27 rfl rfl ?_
        exact jw_iret F d_X_positionBehind_28 ⟨⟨t + 1, hp, rfl, fun q => by omega, fun q hq => (by have e1 : t = q := (by omega); subst e1; exact ⟨hlt, by rw [← hL.2 t hlt]; exact h1⟩)⟩, rfl⟩
      · refine jw_iinc (pc := 21) (v := nI t) (lv' := [(0, .ref (ad 0)), (1, .int x), (2, .int (nI t))]) F 2 d_X_positionBehind_21 rfl (jw_dec _) (by decide) rfl ?_
        refine jw_goto (pc := 24) F 5 d_X_positionBehind_24 (by decide) ?_
        refine ih (by omega) (fun i hi hti => ?_)
        by_cases e1 : i = t
        · subst e1; rw [← hL.2 i hi]; exact h1
        · exact hno i hi (by omega)
  refine jw_aload_n (pc := 0) F 0 d_X_positionBehind_0 rfl rfl ?_
  refine jw_get (pc := 1) F (jms inX) 0 rfl rfl 10 (by decide) (jm w_56) rfl d_X_positionBehind_1 ?_
  refine jw_istore_n (pc := 4) (lv' := [(0, .ref (ad 0)), (1, .int x), (2, .int (nI L.length))]) F d_X_positionBehind_4 rfl (by decide) rfl ?_
  exact loop L.length (Nat.le_refl _) (fun i h q => by omega)
set_option maxHeartbeats 4000000 in
set_option maxRecDepth 100000 in
theorem c_weave (l : Launch) (D : va_G) (ad : Nat → Nat) (cB cI cL : ClassId) (f0 f1 f2 f3 f4 f5 f6 f7 : Nat → Int32) (v : Nat → Int64) (md ln : Int32) (a : AS) (r : Nat) (t : Int32) (vv : Int64) (L : List Nat) (hI : ab_I a) (hn : a_n a < 160) (hr : r < 4) (ht : ab_ok a r t false) (hA : cx_A (ab_new a r t false vv) f0 f1 f2 f3 f4 f5 f6 md) (hL : cx_L L f7 ln) (hR : ab_row a L) : jw_Mv l D vCl (vTy cB cI cL) y_X_weave s_X_weave rm_X_weave [.ref (ad 0), .int (nI (a_n a))] (wX ad cB cI cL f0 f1 f2 f3 f4 f5 f6 f7 v md ln) (fun w9 => ∃ (g : Nat → Int32) (M : List Nat), w9 = wX ad cB cI cL f0 f1 f2 f3 f4 f5 f6 g v md (nI (L.length + 1)) ∧ cx_L M g (nI (L.length + 1)) ∧ ab_row (ab_new a r t false vv) M) := by
  refine jw_ofv (cc := b_X_weave) (nL := 4) (ret := none) (by decide) rfl (Nat.le_of_ble_eq_true rfl) (fun p e s m args below meth c A F hnm => ?_)
  refine jw_at (lv' := [(0, .ref (ad 0)), (1, .int (nI (a_n a)))]) (st' := []) (ws' := wX ad cB cI cL f0 f1 f2 f3 f4 f5 f6 f7 v md ln) rfl rfl rfl ?_
  have hln := hL.1
  subst hln
  have hI2 := ab_I_new (v := vv) hI hn hr ht
  have hl : L.length ≤ a_n a := gm_pig hR.1 (fun x hx => ((hR.2.1 x).mp hx).1)
  have hN : a_n (ab_new a r t false vv) = a_n a + 1 := rfl
  have htg : f1 (a_n a) = t := (hA.2.2.1 (a_n a) (by omega)).trans ab_us
  have fin : ∀ (q : Nat), q ≤ L.length → gm_own (a_par (ab_new a r t false vv)) (a_lt (ab_new a r t false vv)) (a_n a) (L.take q).reverse → (∀ y0, (L.drop q).head? = some y0 → a_lt (ab_new a r t false vv) y0 (a_n a)) → jw_J p l e rm_X_weave s m args below meth c D vCl A 4 (MQ below (va_Qv (fun w9 => ∃ (g : Nat → Int32) (M : List Nat), w9 = wX ad cB cI cL f0 f1 f2 f3 f4 f5 f6 g v md (nI (L.length + 1)) ∧ cx_L M g (nI (L.length + 1)) ∧ ab_row (ab_new a r t false vv) M) (jw_B D vCl (vTy cB cI cL) A) A) args s rm_X_weave.cells rm_X_weave.slots A) 0 0 39 [(0, .ref (ad 0)), (1, .int (nI (a_n a))), (2, .int (nI q))] [] (wX ad cB cI cL f0 f1 f2 f3 f4 f5 f6 f7 v md (nI L.length)) := by
    intro q hq ho hh
    have loop2 : ∀ (u : Nat) (g : Nat → Int32), q + u ≤ L.length → (∀ i, i ≤ L.length → g i = if q + u < i then f7 (i - 1) else f7 i) → jw_J p l e rm_X_weave s m args below meth c D vCl A 4 (MQ below (va_Qv (fun w9 => ∃ (g : Nat → Int32) (M : List Nat), w9 = wX ad cB cI cL f0 f1 f2 f3 f4 f5 f6 g v md (nI (L.length + 1)) ∧ cx_L M g (nI (L.length + 1)) ∧ ab_row (ab_new a r t false vv) M) (jw_B D vCl (vTy cB cI cL) A) A) args s rm_X_weave.cells rm_X_weave.slots A) 0 0 44 [(0, .ref (ad 0)), (1, .int (nI (a_n a))), (2, .int (nI q)), (3, .int (nI (q + u)))] [] (wX ad cB cI cL f0 f1 f2 f3 f4 f5 f6 g v md (nI L.length)) := by
      intro u
      induction u with
      | zero =>
        intro g hu hg
        refine jw_at (lv' := [(0, .ref (ad 0)), (1, .int (nI (a_n a))), (2, .int (nI q)), (3, .int (nI q))]) (st' := []) (ws' := wX ad cB cI cL f0 f1 f2 f3 f4 f5 f6 g v md (nI L.length)) rfl rfl rfl ?_
        refine jw_iload_n (pc := 44) F 3 d_X_weave_44 rfl rfl ?_
        refine jw_iload_n (pc := 45) F 2 d_X_weave_45 rfl rfl ?_
        refine jw_icmp_le (pc := 46) F 69 d_X_weave_46 (by decide) (fun hz1 => ?_) (fun hz1 => False.elim (hz1 (nI_le (Nat.le_refl _) (by omega))))
        refine jw_aload_n (pc := 69) F 0 d_X_weave_69 rfl rfl ?_
        refine jw_get (pc := 70) F (jms inX) 0 rfl rfl 9 (by decide) (jm w_55) rfl d_X_weave_70 ?_
        refine jw_iload_n (pc := 73) F 2 d_X_weave_73 rfl rfl ?_
        refine jw_iload_n (pc := 74) F 1 d_X_weave_74 rfl rfl ?_
        refine jw_iastN (pc := 75) (ws' := wX ad cB cI cL f0 f1 f2 f3 f4 f5 f6 (upd g q (nI (a_n a))) v md (nI L.length)) F 9 1 rfl rfl q rfl (by omega) (by decide) d_X_weave_75 rfl ?_
        refine jw_aload_n (pc := 76) F 0 d_X_weave_76 rfl rfl ?_
        refine jw_dup (pc := 77) F d_X_weave_77 rfl ?_
        refine jw_get (pc := 78) F (jms inX) 0 rfl rfl 10 (by decide) (jm w_56) rfl d_X_weave_78 ?_
        refine jw_iconst (pc := 81) (v := 1) F d_X_weave_81 (by decide) ?_
        refine jw_iadd (pc := 82) F d_X_weave_82 ?_
        rw [nI_1]
        refine jw_put (pc := 83) (v := .int (nI (L.length + 1))) (ty := .int) (ws' := wX ad cB cI cL f0 f1 f2 f3 f4 f5 f6 (upd g q (nI (a_n a))) v md (nI (L.length + 1))) F (jms inX) tX tX_ok nmX 0 rfl rfl 10 (by decide) (jm w_56) rfl (by decide +kernel) rfl rfl (Nat.le_of_ble_eq_true rfl) d_X_weave_83 rfl ?_
        exact jw_vret F d_X_weave_86 ⟨_, L.take q ++ a_n a :: L.drop q, rfl, gl_weave hq hL.2 hg, ab_row_ins (by rw [List.take_append_drop]; exact hR) ho hh⟩
      | succ u ih =>
        intro g hu hg
        refine jw_at (lv' := [(0, .ref (ad 0)), (1, .int (nI (a_n a))), (2, .int (nI q)), (3, .int (nI (q + u + 1)))]) (st' := []) (ws' := wX ad cB cI cL f0 f1 f2 f3 f4 f5 f6 g v md (nI L.length)) rfl rfl rfl ?_
        refine jw_iload_n (pc := 44) F 3 d_X_weave_44 rfl rfl ?_
        refine jw_iload_n (pc := 45) F 2 d_X_weave_45 rfl rfl ?_
        refine jw_icmp_le (pc := 46) F 69 d_X_weave_46 (by decide) (fun hz2 => False.elim (nI_ge (show q < q + u + 1 by omega) (by omega) hz2)) (fun hz2 => ?_)
        refine jw_aload_n (pc := 49) F 0 d_X_weave_49 rfl rfl ?_
        refine jw_get (pc := 50) F (jms inX) 0 rfl rfl 9 (by decide) (jm w_55) rfl d_X_weave_50 ?_
        refine jw_iload_n (pc := 53) F 3 d_X_weave_53 rfl rfl ?_
        refine jw_aload_n (pc := 54) F 0 d_X_weave_54 rfl rfl ?_
        refine jw_get (pc := 55) F (jms inX) 0 rfl rfl 9 (by decide) (jm w_55) rfl d_X_weave_55 ?_
        refine jw_iload_n (pc := 58) F 3 d_X_weave_58 rfl rfl ?_
        refine jw_iconst (pc := 59) (v := 1) F d_X_weave_59 (by decide) ?_
        refine jw_isub (pc := 60) F d_X_weave_60 ?_
        rw [nI_pred]
        refine jw_ialdN (pc := 61) F 9 1 rfl rfl (q + u) rfl (by omega) (by decide) d_X_weave_61 ?_
        refine jw_iastN (pc := 62) (ws' := wX ad cB cI cL f0 f1 f2 f3 f4 f5 f6 (upd g (q + u + 1) (g (q + u))) v md (nI L.length)) F 9 1 rfl rfl (q + u + 1) rfl (by omega) (by decide) d_X_weave_62 rfl ?_
        refine jw_iinc (pc := 63) (v := nI (q + u)) (lv' := [(0, .ref (ad 0)), (1, .int (nI (a_n a))), (2, .int (nI q)), (3, .int (nI (q + u)))]) F 3 d_X_weave_63 rfl (jw_dec _) (by decide) rfl ?_
        refine jw_goto (pc := 66) F 44 d_X_weave_66 (by decide) ?_
        refine ih _ (by omega) (fun i hi => ?_)
        by_cases e1 : i = q + u + 1
        · subst e1
          rw [pk_us, if_pos (by omega), hg _ (by omega), if_neg (by omega)]
          rfl
        · rw [pk_un e1, hg i hi]
          by_cases e2 : q + u < i
          · rw [if_pos e2, if_pos (by omega)]
          · rw [if_neg e2, if_neg (by omega)]
    refine jw_aload_n (pc := 39) F 0 d_X_weave_39 rfl rfl ?_
    refine jw_get (pc := 40) F (jms inX) 0 rfl rfl 10 (by decide) (jm w_56) rfl d_X_weave_40 ?_
    refine jw_istore_n (pc := 43) (lv' := [(0, .ref (ad 0)), (1, .int (nI (a_n a))), (2, .int (nI q)), (3, .int (nI L.length))]) F d_X_weave_43 rfl (by decide) rfl ?_
    have qq := loop2 (L.length - q) f7 (by omega) (fun i hi => by rw [if_neg (by omega)])
    rw [Nat.add_sub_cancel' hq] at qq
    exact qq
  have loop1 : ∀ (u q : Nat), q + u = L.length → gm_own (a_par (ab_new a r t false vv)) (a_lt (ab_new a r t false vv)) (a_n a) (L.take q).reverse → jw_J p l e rm_X_weave s m args below meth c D vCl A 4 (MQ below (va_Qv (fun w9 => ∃ (g : Nat → Int32) (M : List Nat), w9 = wX ad cB cI cL f0 f1 f2 f3 f4 f5 f6 g v md (nI (L.length + 1)) ∧ cx_L M g (nI (L.length + 1)) ∧ ab_row (ab_new a r t false vv) M) (jw_B D vCl (vTy cB cI cL) A) A) args s rm_X_weave.cells rm_X_weave.slots A) 0 0 11 [(0, .ref (ad 0)), (1, .int (nI (a_n a))), (2, .int (nI q))] [] (wX ad cB cI cL f0 f1 f2 f3 f4 f5 f6 f7 v md (nI L.length)) := by
    intro u
    induction u with
    | zero =>
      intro q hq ho
      obtain rfl : q = L.length := hq
      refine jw_iload_n (pc := 11) F 2 d_X_weave_11 rfl rfl ?_
      refine jw_aload_n (pc := 12) F 0 d_X_weave_12 rfl rfl ?_
      refine jw_get (pc := 13) F (jms inX) 0 rfl rfl 10 (by decide) (jm w_56) rfl d_X_weave_13 ?_
      refine jw_icmp_ge (pc := 16) F 39 d_X_weave_16 (by decide) (fun hz3 => ?_) (fun hz3 => False.elim (hz3 (nI_le (Nat.le_refl _) (by omega))))
      exact fin _ (Nat.le_refl _) ho (fun y0 hy => by rw [List.drop_length] at hy; cases hy)
    | succ u ih =>
      intro q hq ho
      have hlt : q < L.length := by omega
      have hmem := (hR.2.1 _).mp (List.getElem_mem hlt)
      refine jw_iload_n (pc := 11) F 2 d_X_weave_11 rfl rfl ?_
      refine jw_aload_n (pc := 12) F 0 d_X_weave_12 rfl rfl ?_
      refine jw_get (pc := 13) F (jms inX) 0 rfl rfl 10 (by decide) (jm w_56) rfl d_X_weave_13 ?_
      refine jw_icmp_ge (pc := 16) F 39 d_X_weave_16 (by decide) (fun hz4 => False.elim (nI_ge hlt (by omega) hz4)) (fun hz4 => ?_)
      refine jw_aload_n (pc := 19) F 0 d_X_weave_19 rfl rfl ?_
      refine jw_aload_n (pc := 20) F 0 d_X_weave_20 rfl rfl ?_
      refine jw_get (pc := 21) F (jms inX) 0 rfl rfl 9 (by decide) (jm w_55) rfl d_X_weave_21 ?_
      refine jw_iload_n (pc := 24) F 2 d_X_weave_24 rfl rfl ?_
      refine jw_ialdN (pc := 25) F 9 1 rfl rfl q rfl (by omega) (by decide) d_X_weave_25 ?_
      refine jw_iload_n (pc := 26) F 1 d_X_weave_26 rfl rfl ?_
      rw [hL.2 q hlt]
      refine jw_callV_Ei (pc := 27) (As := [.int (nI (L[q]'hlt)), .int (nI (a_n a))]) (rest := []) F ([]) ([]) (c_isGreater l D ad cB cI cL f0 f1 f2 f3 f4 f5 f6 f7 v md (nI L.length) (ab_new a r t false vv) (cx_B_of hI2) hA (fun k hk => (hI2.2.2.2.1 k hk).1) (L[q]'hlt) (a_n a) (by omega) (by omega)) (jw_cwV F.1.2.2.2.2 wl_good w_239 w_241 w_11 w_29 w_242 hd_X_isGreater ⟨by decide, by decide⟩) 0 0 rfl rfl rfl (by simp) rfl rfl (Nat.le_of_ble_eq_true rfl) d_X_weave_27 ⟨rfl, rfl⟩ ⟨by decide, by decide⟩ ?_
      refine jw_if_eq (pc := 30) F 39 d_X_weave_30 (by decide) (fun h1 => ?_) (fun h1 => ?_)
      · refine fin q (by omega) ho (fun y0 hy => ?_)
        rw [List.head?_drop, List.getElem?_eq_getElem hlt] at hy
        cases hy
        exact ab_tot hI2 (by omega) (by omega) (by omega) (fun z => by rw [a_ltb_t.mpr z] at h1; exact absurd h1 (by decide))
      · refine jw_iinc (pc := 33) (v := nI (q + 1)) (lv' := [(0, .ref (ad 0)), (1, .int (nI (a_n a))), (2, .int (nI (q + 1)))]) F 2 d_X_weave_33 rfl (jw_inc _) (by decide) rfl ?_
        refine jw_goto (pc := 36) F 11 d_X_weave_36 (by decide) ?_
        exact ih (q + 1) (by omega) (cx_own1 hlt ho (jb_n.mp h1))
  refine jw_aload_n (pc := 0) F 0 d_X_weave_0 rfl rfl ?_
  refine jw_aload_n (pc := 1) F 0 d_X_weave_1 rfl rfl ?_
  refine jw_get (pc := 2) F (jms inX) 0 rfl rfl 2 (by decide) (jm w_48) rfl d_X_weave_2 ?_
  refine jw_iload_n (pc := 5) F 1 d_X_weave_5 rfl rfl ?_
  refine jw_ialdN (pc := 6) F 2 1 rfl rfl (a_n a) rfl (by omega) (by decide) d_X_weave_6 ?_
  rw [htg]
  refine jw_callV_Ci (pc := 7) (As := [.int t]) (rest := []) F (c_positionBehind l D ad cB cI cL f0 f1 f2 f3 f4 f5 f6 f7 v md (nI L.length) L hL (by omega) t) (jw_cwV F.1.2.2.2.2 wl_good w_235 w_237 w_10 w_29 w_238 hd_X_positionBehind ⟨by decide, by decide⟩) 0 0 rfl rfl rfl rfl rfl rfl (Nat.le_of_ble_eq_true rfl) d_X_weave_7 ⟨rfl, rfl⟩ ⟨by decide, by decide⟩ (fun r w hw => ?_)
  obtain ⟨⟨p, hp, rfl, hp0, hp1⟩, rfl⟩ := hw
  refine jw_istore_n (pc := 10) (lv' := [(0, .ref (ad 0)), (1, .int (nI (a_n a))), (2, .int (nI p))]) F d_X_weave_10 rfl (by decide) rfl ?_
  exact loop1 (L.length - p) p (by omega) (cx_own0 hI ht hR hp hp0 hp1)
