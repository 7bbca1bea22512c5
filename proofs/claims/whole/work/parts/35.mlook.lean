theorem w_451 : Cond.methodLink RM 84 y_M_isLess ∈ WL := jwl 451 rfl rfl
theorem w_453 : Cond.instanceMethod y_M_isLess ∈ WL := jwl 453 rfl rfl
theorem w_26 : Cond.selects RM y_M_isLess y_M_isLess ∈ WL := jwl 26 rfl rfl
theorem w_454 : Cond.code y_M_isLess b_M_isLess 3 (some .boolean) ∈ WL := jwl 454 rfl rfl
theorem w_351 : Cond.fieldLink RM 33 "WovenRowModel" "todo" "[I" ∈ WL := jwl 351 rfl rfl
theorem w_350 : Cond.fieldLink RM 30 "WovenRowModel" "row" "[I" ∈ WL := jwl 350 rfl rfl
theorem w_353 : Cond.fieldLink RM 87 "WovenRowModel" "size" "I" ∈ WL := jwl 353 rfl rfl
theorem w_447 : Cond.methodLink RM 90 y_M_next ∈ WL := jwl 447 rfl rfl
theorem w_449 : Cond.instanceMethod y_M_next ∈ WL := jwl 449 rfl rfl
theorem w_25 : Cond.selects RM y_M_next y_M_next ∈ WL := jwl 25 rfl rfl
theorem w_450 : Cond.code y_M_next b_M_next 6 (some .int) ∈ WL := jwl 450 rfl rfl
abbrev rm_M_next : Room := { frames := 1, cells := 0, slots := 0, locals := 22 }
abbrev rm_M_look : Room := { frames := 2, cells := 0, slots := 0, locals := 47 }
set_option maxHeartbeats 4000000 in
set_option maxRecDepth 100000 in
theorem m_next0 (l : Launch) (D : va_G) (am : Nat → Nat) (cB cI cL : ClassId) (go gc gb gd gh gr gt gk : Nat → Int32) (gn : Nat → Int64) (er op sz : Int32) (a : AS) (hI : ab_I a) (hA : mx_A a go gc gb gd gh op) (r : Nat) (hr : r < 4) (pr : Option Nat) (hpr : ∀ e, pr = some e → e < a_n a) : jw_Mi l D vCl (vTy cB cI cL) y_M_next s_M_next rm_M_next [.ref (am 0), .int (nI r), .int (nx_on pr), .int (-1)] (wM am cB cI cL go gc gb gd gh gr gt gk gn er op sz) (fun r9 w9 => nx_inv (nx_P a r pr none) (a_lt a) (a_n a) r9 ∧ w9 = wM am cB cI cL go gc gb gd gh gr gt gk gn er op sz) := by
  refine jw_ofi (cc := b_M_next) (nL := 6) (ret := (some .int)) (by decide) rfl (Nat.le_of_ble_eq_true rfl) (fun p e s m args below meth c A F hnm => ?_)
  refine jw_at (lv' := [(0, .ref (am 0)), (1, .int (nI r)), (2, .int (nx_on pr)), (3, .int (-1))]) (st' := []) (ws' := wM am cB cI cL go gc gb gd gh gr gt gk gn er op sz) rfl rfl rfl ?_
  have hn := hI.1
  have hop := hA.1
  subst hop
  have loop : ∀ (u i : Nat) (bv : Int32), i + u = a_n a → nx_inv (nx_P a r pr none) (a_lt a) i bv → jw_J p l e rm_M_next s m args below meth c D vCl A 6 (MQ below (va_Qi (fun r9 w9 => nx_inv (nx_P a r pr none) (a_lt a) (a_n a) r9 ∧ w9 = wM am cB cI cL go gc gb gd gh gr gt gk gn er (nI (a_n a)) sz) (jw_B D vCl (vTy cB cI cL) A) A) args s rm_M_next.cells rm_M_next.slots A) 0 0 6 [(0, .ref (am 0)), (1, .int (nI r)), (2, .int (nx_on pr)), (3, .int (-1)), (4, .int bv), (5, .int (nI i))] [] (wM am cB cI cL go gc gb gd gh gr gt gk gn er (nI (a_n a)) sz) := by
    intro u
    induction u with
    | zero =>
      intro i bv hi hb
      obtain rfl : i = a_n a := hi
      refine jw_iload (pc := 6) F 5 d_M_next_6 rfl ?_
      refine jw_aload_n (pc := 8) F 0 d_M_next_8 rfl rfl ?_
      refine jw_get (pc := 9) F (jms inM) 0 rfl rfl 1 (by decide) (jm w_343) rfl d_M_next_9 ?_
      refine jw_icmp_ge (pc := 12) F 89 d_M_next_12 (by decide) (fun hz1 => ?_) (fun hz1 => False.elim (hz1 (nI_le (Nat.le_refl _) (by omega))))
      refine jw_iload (pc := 89) F 4 d_M_next_89 rfl ?_
      exact jw_iret F d_M_next_91 ⟨hb, rfl⟩
    | succ u ih =>
      intro i bv hi hb
      have hlt : i < a_n a := by omega
      refine jw_iload (pc := 6) F 5 d_M_next_6 rfl ?_
      refine jw_aload_n (pc := 8) F 0 d_M_next_8 rfl rfl ?_
      refine jw_get (pc := 9) F (jms inM) 0 rfl rfl 1 (by decide) (jm w_343) rfl d_M_next_9 ?_
      refine jw_icmp_ge (pc := 12) F 89 d_M_next_12 (by decide) (fun hz2 => False.elim (nI_ge hlt (by omega) hz2)) (fun hz2 => ?_)
      refine jw_aload_n (pc := 15) F 0 d_M_next_15 rfl rfl ?_
      refine jw_get (pc := 16) F (jms inM) 0 rfl rfl 6 (by decide) (jm w_348) rfl d_M_next_16 ?_
      refine jw_iload (pc := 19) F 5 d_M_next_19 rfl ?_
      refine jw_zaldN (pc := 21) F 5 0 rfl rfl i rfl (by omega) (by decide) d_M_next_21 ?_
      rw [hA.2.2.2.2.1 i hlt]
      refine jw_if_ne (pc := 22) F 83 d_M_next_22 (by decide) (fun h1 => ?_) (fun h1 => ?_)
      · refine jw_iinc (pc := 83) (v := nI (i + 1)) (lv' := [(0, .ref (am 0)), (1, .int (nI r)), (2, .int (nx_on pr)), (3, .int (-1)), (4, .int bv), (5, .int (nI (i + 1)))]) F 5 d_M_next_83 rfl (jw_inc _) (by decide) rfl ?_
        refine jw_goto (pc := 86) F 6 d_M_next_86 (by decide) ?_
        exact ih (i + 1) bv (by omega) (nx_skip hb (by simp [nx_P, jb_n.mp h1]))
      · refine jw_aload_n (pc := 25) F 0 d_M_next_25 rfl rfl ?_
        refine jw_iload_n (pc := 26) F 1 d_M_next_26 rfl rfl ?_
        refine jw_iload (pc := 27) F 5 d_M_next_27 rfl ?_
        refine jw_callV_Ei (pc := 29) (As := [.int (nI r), .int (nI i)]) (rest := []) F ([]) ([]) (m_has l D am cB cI cL go gc gb gd gh gr gt gk gn er (nI (a_n a)) sz a hI hA r i hr hlt) (jw_cwV F.1.2.2.2.2 wl_good w_406 w_408 w_20 w_30 w_409 hd_M_has ⟨by decide, by decide⟩) 0 1 rfl rfl rfl (by simp) rfl rfl (Nat.le_of_ble_eq_true rfl) d_M_next_29 ⟨rfl, rfl⟩ ⟨by decide, by decide⟩ ?_
        refine jw_if_eq (pc := 32) F 83 d_M_next_32 (by decide) (fun h2 => ?_) (fun h2 => ?_)
        · refine jw_iinc (pc := 83) (v := nI (i + 1)) (lv' := [(0, .ref (am 0)), (1, .int (nI r)), (2, .int (nx_on pr)), (3, .int (-1)), (4, .int bv), (5, .int (nI (i + 1)))]) F 5 d_M_next_83 rfl (jw_inc _) (by decide) rfl ?_
          refine jw_goto (pc := 86) F 6 d_M_next_86 (by decide) ?_
          exact ih (i + 1) bv (by omega) (nx_skip hb (by simp [nx_P, jb_0.mp h2]))
        · refine jw_aload_n (pc := 35) F 0 d_M_next_35 rfl rfl ?_
          refine jw_get (pc := 36) F (jms inM) 0 rfl rfl 2 (by decide) (jm w_344) rfl d_M_next_36 ?_
          refine jw_iload (pc := 39) F 5 d_M_next_39 rfl ?_
          refine jw_ialdN (pc := 41) F 1 1 rfl rfl i rfl (by omega) (by decide) d_M_next_41 ?_
          rw [hA.2.1 i hlt]
          refine jw_iload_n (pc := 42) F 2 d_M_next_42 rfl rfl ?_
          refine jw_icmp_ne (pc := 43) F 83 d_M_next_43 (by decide) (fun h3 => ?_) (fun h3 => ?_)
          · have hp : ¬ a_par a i = pr := fun q => h3 ((nx_on_iff hI hlt hpr).mpr q)
            refine jw_iinc (pc := 83) (v := nI (i + 1)) (lv' := [(0, .ref (am 0)), (1, .int (nI r)), (2, .int (nx_on pr)), (3, .int (-1)), (4, .int bv), (5, .int (nI (i + 1)))]) F 5 d_M_next_83 rfl (jw_inc _) (by decide) rfl ?_
            refine jw_goto (pc := 86) F 6 d_M_next_86 (by decide) ?_
            exact ih (i + 1) bv (by omega) (nx_skip hb (by simp [nx_P, hp]))
          · have hp : a_par a i = pr := (nx_on_iff hI hlt hpr).mp h3
            refine jw_iload_n (pc := 46) F 3 d_M_next_46 rfl rfl ?_
            refine jw_if_lt (pc := 47) F 63 d_M_next_47 (by decide) (fun hz3 => ?_) (fun hz3 => False.elim (absurd hz3 (by decide)))
            have hPi : (nx_P a r pr none) i = true := by simp [nx_P, jb_0.mp h1, jb_n.mp h2, hp]
            rcases hb with ⟨rfl, hno⟩ | ⟨b, hb1, rfl, hb2, hb3⟩
            · refine jw_iload (pc := 63) F 4 d_M_next_63 rfl ?_
              refine jw_if_lt (pc := 65) F 79 d_M_next_65 (by decide) (fun hz4 => ?_) (fun hz4 => False.elim (absurd hz4 (by decide)))
              refine jw_iload (pc := 79) F 5 d_M_next_79 rfl ?_
              refine jw_istore (pc := 81) (lv' := [(0, .ref (am 0)), (1, .int (nI r)), (2, .int (nx_on pr)), (3, .int (-1)), (4, .int (nI i)), (5, .int (nI i))]) F d_M_next_81 (by decide) rfl ?_
              refine jw_iinc (pc := 83) (v := nI (i + 1)) (lv' := [(0, .ref (am 0)), (1, .int (nI r)), (2, .int (nx_on pr)), (3, .int (-1)), (4, .int (nI i)), (5, .int (nI (i + 1)))]) F 5 d_M_next_83 rfl (jw_inc _) (by decide) rfl ?_
              refine jw_goto (pc := 86) F 6 d_M_next_86 (by decide) ?_
              exact ih (i + 1) (nI i) (by omega) (nx_new hno hPi)
            · refine jw_iload (pc := 63) F 4 d_M_next_63 rfl ?_
              refine jw_if_lt (pc := 65) F 79 d_M_next_65 (by decide) (fun hz5 => False.elim (nI_pos (by omega) hz5)) (fun hz5 => ?_)
              refine jw_aload_n (pc := 68) F 0 d_M_next_68 rfl rfl ?_
              refine jw_iload (pc := 69) F 5 d_M_next_69 rfl ?_
              refine jw_iload (pc := 71) F 4 d_M_next_71 rfl ?_
              refine jw_callV_Ei (pc := 73) (As := [.int (nI i), .int (nI b)]) (rest := []) F ([]) ([]) (m_isLess l D am cB cI cL go gc gb gd gh gr gt gk gn er (nI (a_n a)) sz a hI hA i b hlt (by omega)) (jw_cwV F.1.2.2.2.2 wl_good w_451 w_453 w_26 w_30 w_454 hd_M_isLess ⟨by decide, by decide⟩) 0 1 rfl rfl rfl (by simp) rfl rfl (Nat.le_of_ble_eq_true rfl) d_M_next_73 ⟨rfl, rfl⟩ ⟨by decide, by decide⟩ ?_
              refine jw_if_eq (pc := 76) F 83 d_M_next_76 (by decide) (fun h5 => ?_) (fun h5 => ?_)
              · refine jw_iinc (pc := 83) (v := nI (i + 1)) (lv' := [(0, .ref (am 0)), (1, .int (nI r)), (2, .int (nx_on pr)), (3, .int (-1)), (4, .int (nI b)), (5, .int (nI (i + 1)))]) F 5 d_M_next_83 rfl (jw_inc _) (by decide) rfl ?_
                refine jw_goto (pc := 86) F 6 d_M_next_86 (by decide) ?_
                exact ih (i + 1) (nI b) (by omega) (nx_keep hb1 hb2 hb3 (ab_tot hI hlt (by omega) (by omega) (fun q => by rw [a_ltb_t.mpr q] at h5; exact absurd h5 (by decide))))
              · refine jw_iload (pc := 79) F 5 d_M_next_79 rfl ?_
                refine jw_istore (pc := 81) (lv' := [(0, .ref (am 0)), (1, .int (nI r)), (2, .int (nx_on pr)), (3, .int (-1)), (4, .int (nI i)), (5, .int (nI i))]) F d_M_next_81 (by decide) rfl ?_
                refine jw_iinc (pc := 83) (v := nI (i + 1)) (lv' := [(0, .ref (am 0)), (1, .int (nI r)), (2, .int (nx_on pr)), (3, .int (-1)), (4, .int (nI i)), (5, .int (nI (i + 1)))]) F 5 d_M_next_83 rfl (jw_inc _) (by decide) rfl ?_
                refine jw_goto (pc := 86) F 6 d_M_next_86 (by decide) ?_
                exact ih (i + 1) (nI i) (by omega) (nx_less gm_lt_tr hb3 hPi (a_ltb_t.mp (jb_n.mp h5)))
  refine jw_iconst (pc := 0) (v := -1) F d_M_next_0 (by decide) ?_
  refine jw_istore (pc := 1) (lv' := [(0, .ref (am 0)), (1, .int (nI r)), (2, .int (nx_on pr)), (3, .int (-1)), (4, .int (-1))]) F d_M_next_1 (by decide) rfl ?_
  refine jw_iconst (pc := 3) (v := nI 0) F d_M_next_3 (by decide) ?_
  refine jw_istore (pc := 4) (lv' := [(0, .ref (am 0)), (1, .int (nI r)), (2, .int (nx_on pr)), (3, .int (-1)), (4, .int (-1)), (5, .int (nI 0))]) F d_M_next_4 (by decide) rfl ?_
  exact loop (a_n a) 0 (-1) (by omega) (Or.inl ⟨rfl, fun k hk => absurd hk (Nat.not_lt_zero k)⟩)
set_option maxHeartbeats 4000000 in
set_option maxRecDepth 100000 in
theorem m_next1 (l : Launch) (D : va_G) (am : Nat → Nat) (cB cI cL : ClassId) (go gc gb gd gh gr gt gk : Nat → Int32) (gn : Nat → Int64) (er op sz : Int32) (a : AS) (hI : ab_I a) (hA : mx_A a go gc gb gd gh op) (r : Nat) (hr : r < 4) (pr : Option Nat) (hpr : ∀ e, pr = some e → e < a_n a) (q9 : Nat) (hq9 : q9 < a_n a) : jw_Mi l D vCl (vTy cB cI cL) y_M_next s_M_next rm_M_next [.ref (am 0), .int (nI r), .int (nx_on pr), .int (nI q9)] (wM am cB cI cL go gc gb gd gh gr gt gk gn er op sz) (fun r9 w9 => nx_inv (nx_P a r pr (some q9)) (a_lt a) (a_n a) r9 ∧ w9 = wM am cB cI cL go gc gb gd gh gr gt gk gn er op sz) := by
  refine jw_ofi (cc := b_M_next) (nL := 6) (ret := (some .int)) (by decide) rfl (Nat.le_of_ble_eq_true rfl) (fun p e s m args below meth c A F hnm => ?_)
  refine jw_at (lv' := [(0, .ref (am 0)), (1, .int (nI r)), (2, .int (nx_on pr)), (3, .int (nI q9))]) (st' := []) (ws' := wM am cB cI cL go gc gb gd gh gr gt gk gn er op sz) rfl rfl rfl ?_
  have hn := hI.1
  have hop := hA.1
  subst hop
  have loop : ∀ (u i : Nat) (bv : Int32), i + u = a_n a → nx_inv (nx_P a r pr (some q9)) (a_lt a) i bv → jw_J p l e rm_M_next s m args below meth c D vCl A 6 (MQ below (va_Qi (fun r9 w9 => nx_inv (nx_P a r pr (some q9)) (a_lt a) (a_n a) r9 ∧ w9 = wM am cB cI cL go gc gb gd gh gr gt gk gn er (nI (a_n a)) sz) (jw_B D vCl (vTy cB cI cL) A) A) args s rm_M_next.cells rm_M_next.slots A) 0 0 6 [(0, .ref (am 0)), (1, .int (nI r)), (2, .int (nx_on pr)), (3, .int (nI q9)), (4, .int bv), (5, .int (nI i))] [] (wM am cB cI cL go gc gb gd gh gr gt gk gn er (nI (a_n a)) sz) := by
    intro u
    induction u with
    | zero =>
      intro i bv hi hb
      obtain rfl : i = a_n a := hi
      refine jw_iload (pc := 6) F 5 d_M_next_6 rfl ?_
      refine jw_aload_n (pc := 8) F 0 d_M_next_8 rfl rfl ?_
      refine jw_get (pc := 9) F (jms inM) 0 rfl rfl 1 (by decide) (jm w_343) rfl d_M_next_9 ?_
      refine jw_icmp_ge (pc := 12) F 89 d_M_next_12 (by decide) (fun hz1 => ?_) (fun hz1 => False.elim (hz1 (nI_le (Nat.le_refl _) (by omega))))
      refine jw_iload (pc := 89) F 4 d_M_next_89 rfl ?_
      exact jw_iret F d_M_next_91 ⟨hb, rfl⟩
    | succ u ih =>
      intro i bv hi hb
      have hlt : i < a_n a := by omega
      refine jw_iload (pc := 6) F 5 d_M_next_6 rfl ?_
      refine jw_aload_n (pc := 8) F 0 d_M_next_8 rfl rfl ?_
      refine jw_get (pc := 9) F (jms inM) 0 rfl rfl 1 (by decide) (jm w_343) rfl d_M_next_9 ?_
      refine jw_icmp_ge (pc := 12) F 89 d_M_next_12 (by decide) (fun hz2 => False.elim (nI_ge hlt (by omega) hz2)) (fun hz2 => ?_)
      refine jw_aload_n (pc := 15) F 0 d_M_next_15 rfl rfl ?_
      refine jw_get (pc := 16) F (jms inM) 0 rfl rfl 6 (by decide) (jm w_348) rfl d_M_next_16 ?_
      refine jw_iload (pc := 19) F 5 d_M_next_19 rfl ?_
      refine jw_zaldN (pc := 21) F 5 0 rfl rfl i rfl (by omega) (by decide) d_M_next_21 ?_
      rw [hA.2.2.2.2.1 i hlt]
      refine jw_if_ne (pc := 22) F 83 d_M_next_22 (by decide) (fun h1 => ?_) (fun h1 => ?_)
      · refine jw_iinc (pc := 83) (v := nI (i + 1)) (lv' := [(0, .ref (am 0)), (1, .int (nI r)), (2, .int (nx_on pr)), (3, .int (nI q9)), (4, .int bv), (5, .int (nI (i + 1)))]) F 5 d_M_next_83 rfl (jw_inc _) (by decide) rfl ?_
        refine jw_goto (pc := 86) F 6 d_M_next_86 (by decide) ?_
        exact ih (i + 1) bv (by omega) (nx_skip hb (by simp [nx_P, jb_n.mp h1]))
      · refine jw_aload_n (pc := 25) F 0 d_M_next_25 rfl rfl ?_
        refine jw_iload_n (pc := 26) F 1 d_M_next_26 rfl rfl ?_
        refine jw_iload (pc := 27) F 5 d_M_next_27 rfl ?_
        refine jw_callV_Ei (pc := 29) (As := [.int (nI r), .int (nI i)]) (rest := []) F ([]) ([]) (m_has l D am cB cI cL go gc gb gd gh gr gt gk gn er (nI (a_n a)) sz a hI hA r i hr hlt) (jw_cwV F.1.2.2.2.2 wl_good w_406 w_408 w_20 w_30 w_409 hd_M_has ⟨by decide, by decide⟩) 0 1 rfl rfl rfl (by simp) rfl rfl (Nat.le_of_ble_eq_true rfl) d_M_next_29 ⟨rfl, rfl⟩ ⟨by decide, by decide⟩ ?_
        refine jw_if_eq (pc := 32) F 83 d_M_next_32 (by decide) (fun h2 => ?_) (fun h2 => ?_)
        · refine jw_iinc (pc := 83) (v := nI (i + 1)) (lv' := [(0, .ref (am 0)), (1, .int (nI r)), (2, .int (nx_on pr)), (3, .int (nI q9)), (4, .int bv), (5, .int (nI (i + 1)))]) F 5 d_M_next_83 rfl (jw_inc _) (by decide) rfl ?_
          refine jw_goto (pc := 86) F 6 d_M_next_86 (by decide) ?_
          exact ih (i + 1) bv (by omega) (nx_skip hb (by simp [nx_P, jb_0.mp h2]))
        · refine jw_aload_n (pc := 35) F 0 d_M_next_35 rfl rfl ?_
          refine jw_get (pc := 36) F (jms inM) 0 rfl rfl 2 (by decide) (jm w_344) rfl d_M_next_36 ?_
          refine jw_iload (pc := 39) F 5 d_M_next_39 rfl ?_
          refine jw_ialdN (pc := 41) F 1 1 rfl rfl i rfl (by omega) (by decide) d_M_next_41 ?_
          rw [hA.2.1 i hlt]
          refine jw_iload_n (pc := 42) F 2 d_M_next_42 rfl rfl ?_
          refine jw_icmp_ne (pc := 43) F 83 d_M_next_43 (by decide) (fun h3 => ?_) (fun h3 => ?_)
          · have hp : ¬ a_par a i = pr := fun q => h3 ((nx_on_iff hI hlt hpr).mpr q)
            refine jw_iinc (pc := 83) (v := nI (i + 1)) (lv' := [(0, .ref (am 0)), (1, .int (nI r)), (2, .int (nx_on pr)), (3, .int (nI q9)), (4, .int bv), (5, .int (nI (i + 1)))]) F 5 d_M_next_83 rfl (jw_inc _) (by decide) rfl ?_
            refine jw_goto (pc := 86) F 6 d_M_next_86 (by decide) ?_
            exact ih (i + 1) bv (by omega) (nx_skip hb (by simp [nx_P, hp]))
          · have hp : a_par a i = pr := (nx_on_iff hI hlt hpr).mp h3
            refine jw_iload_n (pc := 46) F 3 d_M_next_46 rfl rfl ?_
            refine jw_if_lt (pc := 47) F 63 d_M_next_47 (by decide) (fun hz3 => False.elim (nI_pos (by omega) hz3)) (fun hz3 => ?_)
            refine jw_aload_n (pc := 50) F 0 d_M_next_50 rfl rfl ?_
            refine jw_iload_n (pc := 51) F 3 d_M_next_51 rfl rfl ?_
            refine jw_iload (pc := 52) F 5 d_M_next_52 rfl ?_
            refine jw_callV_Ei (pc := 54) (As := [.int (nI q9), .int (nI i)]) (rest := []) F ([]) ([]) (m_isLess l D am cB cI cL go gc gb gd gh gr gt gk gn er (nI (a_n a)) sz a hI hA q9 i hq9 hlt) (jw_cwV F.1.2.2.2.2 wl_good w_451 w_453 w_26 w_30 w_454 hd_M_isLess ⟨by decide, by decide⟩) 0 1 rfl rfl rfl (by simp) rfl rfl (Nat.le_of_ble_eq_true rfl) d_M_next_54 ⟨rfl, rfl⟩ ⟨by decide, by decide⟩ ?_
            refine jw_if_ne (pc := 57) F 63 d_M_next_57 (by decide) (fun h4 => ?_) (fun h4 => ?_)
            · have hPi : (nx_P a r pr (some q9)) i = true := by simp [nx_P, jb_0.mp h1, jb_n.mp h2, hp, jb_n.mp h4]
              rcases hb with ⟨rfl, hno⟩ | ⟨b, hb1, rfl, hb2, hb3⟩
              · refine jw_iload (pc := 63) F 4 d_M_next_63 rfl ?_
                refine jw_if_lt (pc := 65) F 79 d_M_next_65 (by decide) (fun hz4 => ?_) (fun hz4 => False.elim (absurd hz4 (by decide)))
                refine jw_iload (pc := 79) F 5 d_M_next_79 rfl ?_
                refine jw_istore (pc := 81) (lv' := [(0, .ref (am 0)), (1, .int (nI r)), (2, .int (nx_on pr)), (3, .int (nI q9)), (4, .int (nI i)), (5, .int (nI i))]) F d_M_next_81 (by decide) rfl ?_
                refine jw_iinc (pc := 83) (v := nI (i + 1)) (lv' := [(0, .ref (am 0)), (1, .int (nI r)), (2, .int (nx_on pr)), (3, .int (nI q9)), (4, .int (nI i)), (5, .int (nI (i + 1)))]) F 5 d_M_next_83 rfl (jw_inc _) (by decide) rfl ?_
                refine jw_goto (pc := 86) F 6 d_M_next_86 (by decide) ?_
                exact ih (i + 1) (nI i) (by omega) (nx_new hno hPi)
              · refine jw_iload (pc := 63) F 4 d_M_next_63 rfl ?_
                refine jw_if_lt (pc := 65) F 79 d_M_next_65 (by decide) (fun hz5 => False.elim (nI_pos (by omega) hz5)) (fun hz5 => ?_)
                refine jw_aload_n (pc := 68) F 0 d_M_next_68 rfl rfl ?_
                refine jw_iload (pc := 69) F 5 d_M_next_69 rfl ?_
                refine jw_iload (pc := 71) F 4 d_M_next_71 rfl ?_
                refine jw_callV_Ei (pc := 73) (As := [.int (nI i), .int (nI b)]) (rest := []) F ([]) ([]) (m_isLess l D am cB cI cL go gc gb gd gh gr gt gk gn er (nI (a_n a)) sz a hI hA i b hlt (by omega)) (jw_cwV F.1.2.2.2.2 wl_good w_451 w_453 w_26 w_30 w_454 hd_M_isLess ⟨by decide, by decide⟩) 0 1 rfl rfl rfl (by simp) rfl rfl (Nat.le_of_ble_eq_true rfl) d_M_next_73 ⟨rfl, rfl⟩ ⟨by decide, by decide⟩ ?_
                refine jw_if_eq (pc := 76) F 83 d_M_next_76 (by decide) (fun h5 => ?_) (fun h5 => ?_)
                · refine jw_iinc (pc := 83) (v := nI (i + 1)) (lv' := [(0, .ref (am 0)), (1, .int (nI r)), (2, .int (nx_on pr)), (3, .int (nI q9)), (4, .int (nI b)), (5, .int (nI (i + 1)))]) F 5 d_M_next_83 rfl (jw_inc _) (by decide) rfl ?_
                  refine jw_goto (pc := 86) F 6 d_M_next_86 (by decide) ?_
                  exact ih (i + 1) (nI b) (by omega) (nx_keep hb1 hb2 hb3 (ab_tot hI hlt (by omega) (by omega) (fun q => by rw [a_ltb_t.mpr q] at h5; exact absurd h5 (by decide))))
                · refine jw_iload (pc := 79) F 5 d_M_next_79 rfl ?_
                  refine jw_istore (pc := 81) (lv' := [(0, .ref (am 0)), (1, .int (nI r)), (2, .int (nx_on pr)), (3, .int (nI q9)), (4, .int (nI i)), (5, .int (nI i))]) F d_M_next_81 (by decide) rfl ?_
                  refine jw_iinc (pc := 83) (v := nI (i + 1)) (lv' := [(0, .ref (am 0)), (1, .int (nI r)), (2, .int (nx_on pr)), (3, .int (nI q9)), (4, .int (nI i)), (5, .int (nI (i + 1)))]) F 5 d_M_next_83 rfl (jw_inc _) (by decide) rfl ?_
                  refine jw_goto (pc := 86) F 6 d_M_next_86 (by decide) ?_
                  exact ih (i + 1) (nI i) (by omega) (nx_less gm_lt_tr hb3 hPi (a_ltb_t.mp (jb_n.mp h5)))
            · refine jw_goto (pc := 60) F 83 d_M_next_60 (by decide) ?_
              refine jw_iinc (pc := 83) (v := nI (i + 1)) (lv' := [(0, .ref (am 0)), (1, .int (nI r)), (2, .int (nx_on pr)), (3, .int (nI q9)), (4, .int bv), (5, .int (nI (i + 1)))]) F 5 d_M_next_83 rfl (jw_inc _) (by decide) rfl ?_
              refine jw_goto (pc := 86) F 6 d_M_next_86 (by decide) ?_
              exact ih (i + 1) bv (by omega) (nx_skip hb (by simp [nx_P, jb_0.mp h4]))
  refine jw_iconst (pc := 0) (v := -1) F d_M_next_0 (by decide) ?_
  refine jw_istore (pc := 1) (lv' := [(0, .ref (am 0)), (1, .int (nI r)), (2, .int (nx_on pr)), (3, .int (nI q9)), (4, .int (-1))]) F d_M_next_1 (by decide) rfl ?_
  refine jw_iconst (pc := 3) (v := nI 0) F d_M_next_3 (by decide) ?_
  refine jw_istore (pc := 4) (lv' := [(0, .ref (am 0)), (1, .int (nI r)), (2, .int (nx_on pr)), (3, .int (nI q9)), (4, .int (-1)), (5, .int (nI 0))]) F d_M_next_4 (by decide) rfl ?_
  exact loop (a_n a) 0 (-1) (by omega) (Or.inl ⟨rfl, fun k hk => absurd hk (Nat.not_lt_zero k)⟩)
set_option maxHeartbeats 4000000 in
set_option maxRecDepth 100000 in
theorem m_look (l : Launch) (D : va_G) (am : Nat → Nat) (cB cI cL : ClassId) (go gc gb gd gh gr gt gk : Nat → Int32) (gn : Nat → Int64) (er op sz : Int32) (a : AS) (hI : ab_I a) (hA : mx_A a go gc gb gd gh op) (r : Nat) (hr : r < 4) : jw_Mv l D vCl (vTy cB cI cL) y_M_look s_M_look rm_M_look [.ref (am 0), .int (nI r)] (wM am cB cI cL go gc gb gd gh gr gt gk gn er op sz) (fun w9 => ∃ (hr9 ht9 : Nat → Int32) (M : List Nat), w9 = wM am cB cI cL go gc gb gd gh hr9 ht9 gk gn er op (nI M.length) ∧ td_L M hr9 ∧ ab_own a r M) := by
  refine jw_ofv (cc := b_M_look) (nL := 5) (ret := none) (by decide) rfl (Nat.le_of_ble_eq_true rfl) (fun p e s m args below meth c A F hnm => ?_)
  refine jw_at (lv' := [(0, .ref (am 0)), (1, .int (nI r))]) (st' := []) (ws' := wM am cB cI cL go gc gb gd gh gr gt gk gn er op sz) rfl rfl rfl ?_
  have hn := hI.1
  have outer : ∀ (u : Nat) (R T : List Nat) (g7 g8 : Nat → Int32), R.length + u = a_n a → lk_I a r R T → lk_C a r R T → td_L R g7 → td_L T g8 → jw_J p l e rm_M_look s m args below meth c D vCl A 5 (MQ below (va_Qv (fun w9 => ∃ (hr9 ht9 : Nat → Int32) (M : List Nat), w9 = wM am cB cI cL go gc gb gd gh hr9 ht9 gk gn er op (nI M.length) ∧ td_L M hr9 ∧ ab_own a r M) (jw_B D vCl (vTy cB cI cL) A) A) args s rm_M_look.cells rm_M_look.slots A) 0 0 40 [(0, .ref (am 0)), (1, .int (nI r)), (2, .int (nI T.length))] [] (wM am cB cI cL go gc gb gd gh g7 g8 gk gn er op (nI R.length)) := by
    intro u
    induction u with
    | zero =>
      intro R T g7 g8 hu hi hc h7 h8
      have hlen := lk_len hi
      obtain rfl : T = [] := List.eq_nil_of_length_eq_zero (by omega)
      refine jw_at (lv' := [(0, .ref (am 0)), (1, .int (nI r)), (2, .int (nI 0))]) (st' := []) (ws' := wM am cB cI cL go gc gb gd gh g7 g8 gk gn er op (nI R.length)) rfl rfl rfl ?_
      refine jw_iload_n (pc := 40) F 2 d_M_look_40 rfl rfl ?_
      refine jw_if_le (pc := 41) F 112 d_M_look_41 (by decide) (fun hz1 => ?_) (fun hz1 => False.elim (hz1 (by decide)))
      exact jw_vret F d_M_look_112 ⟨_, _, R, rfl, h7, lk_end hI hi hc⟩
    | succ u ihw =>
      intro R T g7 g8 hu hi hc h7 h8
      have hlen := lk_len hi
      rcases List.eq_nil_or_concat T with rfl | ⟨T0, e9, rfl⟩
      · refine jw_at (lv' := [(0, .ref (am 0)), (1, .int (nI r)), (2, .int (nI 0))]) (st' := []) (ws' := wM am cB cI cL go gc gb gd gh g7 g8 gk gn er op (nI R.length)) rfl rfl rfl ?_
        refine jw_iload_n (pc := 40) F 2 d_M_look_40 rfl rfl ?_
        refine jw_if_le (pc := 41) F 112 d_M_look_41 (by decide) (fun hz2 => ?_) (fun hz2 => False.elim (hz2 (by decide)))
        exact jw_vret F d_M_look_112 ⟨_, _, R, rfl, h7, lk_end hI hi hc⟩
      · rw [List.concat_eq_append] at hi hc h8 hlen ⊢
        obtain ⟨h8a, h8b⟩ := td_pop h8
        have he9 := hi.2.1 e9 (by simp)
        have hlen2 : R.length + T0.length + 1 ≤ a_n a := by rw [List.length_append] at hlen; exact hlen
        refine jw_at (lv' := [(0, .ref (am 0)), (1, .int (nI r)), (2, .int (nI (T0.length + 1)))]) (st' := []) (ws' := wM am cB cI cL go gc gb gd gh g7 g8 gk gn er op (nI R.length)) (by rw [List.length_append]; rfl) rfl rfl ?_
        refine jw_iload_n (pc := 40) F 2 d_M_look_40 rfl rfl ?_
        refine jw_if_le (pc := 41) F 112 d_M_look_41 (by decide) (fun hz3 => False.elim (nI_nle (by omega) (by omega) hz3)) (fun hz3 => ?_)
        refine jw_aload_n (pc := 44) F 0 d_M_look_44 rfl rfl ?_
        refine jw_get (pc := 45) F (jms inM) 0 rfl rfl 9 (by decide) (jm w_351) rfl d_M_look_45 ?_
        refine jw_iinc (pc := 48) (v := nI T0.length) (lv' := [(0, .ref (am 0)), (1, .int (nI r)), (2, .int (nI T0.length))]) F 2 d_M_look_48 rfl (jw_dec _) (by decide) rfl ?_
        refine jw_iload_n (pc := 51) F 2 d_M_look_51 rfl rfl ?_
        refine jw_ialdN (pc := 52) F 8 1 rfl rfl T0.length rfl (by omega) (by decide) d_M_look_52 ?_
        rw [h8b]
        refine jw_istore_n (pc := 53) (lv' := [(0, .ref (am 0)), (1, .int (nI r)), (2, .int (nI T0.length)), (3, .int (nI e9))]) F d_M_look_53 rfl (by decide) rfl ?_
        refine jw_aload_n (pc := 54) F 0 d_M_look_54 rfl rfl ?_
        refine jw_get (pc := 55) F (jms inM) 0 rfl rfl 8 (by decide) (jm w_350) rfl d_M_look_55 ?_
        refine jw_aload_n (pc := 58) F 0 d_M_look_58 rfl rfl ?_
        refine jw_dup (pc := 59) F d_M_look_59 rfl ?_
        refine jw_get (pc := 60) F (jms inM) 0 rfl rfl 11 (by decide) (jm w_353) rfl d_M_look_60 ?_
        refine jw_dup_x1 (pc := 63) F d_M_look_63 rfl rfl ?_
        refine jw_iconst (pc := 64) (v := 1) F d_M_look_64 (by decide) ?_
        refine jw_iadd (pc := 65) F d_M_look_65 ?_
        rw [nI_1]
        refine jw_put (pc := 66) (v := .int (nI (R.length + 1))) (ty := .int) (ws' := wM am cB cI cL go gc gb gd gh g7 g8 gk gn er op (nI (R.length + 1))) F (jms inM) tM tM_ok nmM 0 rfl rfl 11 (by decide) (jm w_353) rfl (by decide +kernel) rfl rfl (Nat.le_of_ble_eq_true rfl) d_M_look_66 rfl ?_
        refine jw_iload_n (pc := 69) F 3 d_M_look_69 rfl rfl ?_
        refine jw_iastN (pc := 70) (ws' := wM am cB cI cL go gc gb gd gh (upd g7 R.length (nI e9)) g8 gk gn er op (nI (R.length + 1))) F 7 1 rfl rfl R.length rfl (by omega) (by decide) d_M_look_70 rfl ?_
        refine jw_aload_n (pc := 71) F 0 d_M_look_71 rfl rfl ?_
        refine jw_iload_n (pc := 72) F 1 d_M_look_72 rfl rfl ?_
        refine jw_iload_n (pc := 73) F 3 d_M_look_73 rfl rfl ?_
        refine jw_iconst (pc := 74) (v := -1) F d_M_look_74 (by decide) ?_
        refine jw_callV_Ci (pc := 75) (As := [.int (nI r), .int (nI e9), .int (-1)]) (rest := []) F (m_next0 l D am cB cI cL go gc gb gd gh (upd g7 R.length (nI e9)) g8 gk gn er op (nI (R.length + 1)) a hI hA r hr (some e9) (fun e h => by cases h; exact he9.1)) (jw_cwV F.1.2.2.2.2 wl_good w_447 w_449 w_25 w_30 w_450 hd_M_next ⟨by decide, by decide⟩) 0 1 rfl rfl rfl rfl rfl rfl (Nat.le_of_ble_eq_true rfl) d_M_look_75 ⟨rfl, rfl⟩ ⟨by decide, by decide⟩ (fun kv w hw => ?_)
        obtain ⟨hb, rfl⟩ := hw
        have hQ0 := lk_pop hi
        have h7a : td_L (R ++ [e9]) (upd g7 R.length (nI e9)) := td_push h7
        have inner : ∀ (n9 : Nat) (cs : List Nat) (g9 : Nat → Int32) (kv : Int32), R.length + 1 + (T0 ++ cs).length + n9 = a_n a → lk_Q a r (some e9) (R ++ [e9]) T0 cs → nx_inv (nx_P a r (some e9) cs.getLast?) (a_lt a) (a_n a) kv → td_L (T0 ++ cs) g9 → jw_J p l e rm_M_look s m args below meth c D vCl A 5 (MQ below (va_Qv (fun w9 => ∃ (hr9 ht9 : Nat → Int32) (M : List Nat), w9 = wM am cB cI cL go gc gb gd gh hr9 ht9 gk gn er op (nI M.length) ∧ td_L M hr9 ∧ ab_own a r M) (jw_B D vCl (vTy cB cI cL) A) A) args s rm_M_look.cells rm_M_look.slots A) 0 0 80 [(0, .ref (am 0)), (1, .int (nI r)), (2, .int (nI (T0 ++ cs).length)), (3, .int (nI e9)), (4, .int kv)] [] (wM am cB cI cL go gc gb gd gh (upd g7 R.length (nI e9)) g9 gk gn er op (nI (R.length + 1))) := by
          intro n9
          induction n9 with
          | zero =>
            intro cs g9 kv hc9 hq hb hg
            rcases hb with ⟨rfl, hno⟩ | ⟨k, hk, rfl, hk2, hk3⟩
            · refine jw_iload (pc := 80) F 4 d_M_look_80 rfl ?_
              refine jw_if_lt (pc := 82) F 109 d_M_look_82 (by decide) (fun hz4 => ?_) (fun hz4 => False.elim (absurd hz4 (by decide)))
              refine jw_goto (pc := 109) F 40 d_M_look_109 (by decide) ?_
              refine jw_loc (lv' := [(0, .ref (am 0)), (1, .int (nI r)), (2, .int (nI (T0 ++ cs).length))]) [0, 1, 2] rfl ?_
              have q := ihw (R ++ [e9]) (T0 ++ cs) _ g9 (by rw [List.length_append]; show R.length + 1 + u = _; omega) hq.1 (lk_Cp hc hq hno) h7a hg
              rw [List.length_append (as := R) (bs := [e9]), List.length_singleton] at q
              exact q
            · exfalso
              have := (lk_push hI hq hk hk2 hk3).2
              rw [List.length_append, List.length_singleton] at this
              omega
          | succ n9 ih =>
            intro cs g9 kv hc9 hq hb hg
            rcases hb with ⟨rfl, hno⟩ | ⟨k, hk, rfl, hk2, hk3⟩
            · refine jw_iload (pc := 80) F 4 d_M_look_80 rfl ?_
              refine jw_if_lt (pc := 82) F 109 d_M_look_82 (by decide) (fun hz5 => ?_) (fun hz5 => False.elim (absurd hz5 (by decide)))
              refine jw_goto (pc := 109) F 40 d_M_look_109 (by decide) ?_
              refine jw_loc (lv' := [(0, .ref (am 0)), (1, .int (nI r)), (2, .int (nI (T0 ++ cs).length))]) [0, 1, 2] rfl ?_
              have q := ihw (R ++ [e9]) (T0 ++ cs) _ g9 (by rw [List.length_append]; show R.length + 1 + u = _; omega) hq.1 (lk_Cp hc hq hno) h7a hg
              rw [List.length_append (as := R) (bs := [e9]), List.length_singleton] at q
              exact q
            · obtain ⟨hq2, hlt2⟩ := lk_push hI hq hk hk2 hk3
              refine jw_iload (pc := 80) F 4 d_M_look_80 rfl ?_
              refine jw_if_lt (pc := 82) F 109 d_M_look_82 (by decide) (fun hz6 => False.elim (nI_pos (by omega) hz6)) (fun hz6 => ?_)
              refine jw_aload_n (pc := 85) F 0 d_M_look_85 rfl rfl ?_
              refine jw_get (pc := 86) F (jms inM) 0 rfl rfl 9 (by decide) (jm w_351) rfl d_M_look_86 ?_
              refine jw_iload_n (pc := 89) F 2 d_M_look_89 rfl rfl ?_
              refine jw_iinc (pc := 90) (v := nI ((T0 ++ cs).length + 1)) (lv' := [(0, .ref (am 0)), (1, .int (nI r)), (2, .int (nI ((T0 ++ cs).length + 1))), (3, .int (nI e9)), (4, .int (nI k))]) F 2 d_M_look_90 rfl (jw_inc _) (by decide) rfl ?_
              refine jw_iload (pc := 93) F 4 d_M_look_93 rfl ?_
              refine jw_iastN (pc := 95) (ws' := wM am cB cI cL go gc gb gd gh (upd g7 R.length (nI e9)) (upd g9 ((T0 ++ cs).length) (nI k)) gk gn er op (nI (R.length + 1))) F 8 1 rfl rfl ((T0 ++ cs).length) rfl (by omega) (by decide) d_M_look_95 rfl ?_
              refine jw_aload_n (pc := 96) F 0 d_M_look_96 rfl rfl ?_
              refine jw_iload_n (pc := 97) F 1 d_M_look_97 rfl rfl ?_
              refine jw_iload_n (pc := 98) F 3 d_M_look_98 rfl rfl ?_
              refine jw_iload (pc := 99) F 4 d_M_look_99 rfl ?_
              refine jw_callV_Ci (pc := 101) (As := [.int (nI r), .int (nI e9), .int (nI k)]) (rest := []) F (m_next1 l D am cB cI cL go gc gb gd gh (upd g7 R.length (nI e9)) (upd g9 ((T0 ++ cs).length) (nI k)) gk gn er op (nI (R.length + 1)) a hI hA r hr (some e9) (fun e h => by cases h; exact he9.1) k hk) (jw_cwV F.1.2.2.2.2 wl_good w_447 w_449 w_25 w_30 w_450 hd_M_next ⟨by decide, by decide⟩) 0 1 rfl rfl rfl rfl rfl rfl (Nat.le_of_ble_eq_true rfl) d_M_look_101 ⟨rfl, rfl⟩ ⟨by decide, by decide⟩ (fun kw w hw => ?_)
              obtain ⟨hb2, rfl⟩ := hw
              refine jw_istore (pc := 104) (lv' := [(0, .ref (am 0)), (1, .int (nI r)), (2, .int (nI ((T0 ++ cs).length + 1))), (3, .int (nI e9)), (4, .int kw)]) F d_M_look_104 (by decide) rfl ?_
              refine jw_goto (pc := 106) F 80 d_M_look_106 (by decide) ?_
              have q := ih (cs ++ [k]) (upd g9 (T0 ++ cs).length (nI k)) kw (by rw [← List.append_assoc, List.length_append (bs := [k]), List.length_singleton]; omega) hq2 (by rw [List.getLast?_append]; exact hb2) (by rw [← List.append_assoc]; exact td_push hg)
              rw [← List.append_assoc, List.length_append (bs := [k]), List.length_singleton] at q
              exact q
        refine jw_istore (pc := 78) (lv' := [(0, .ref (am 0)), (1, .int (nI r)), (2, .int (nI T0.length)), (3, .int (nI e9)), (4, .int kv)]) F d_M_look_78 (by decide) rfl ?_
        have q := inner (a_n a - (R.length + 1 + T0.length)) [] g8 kv (by rw [List.append_nil]; omega) hQ0 hb (by rw [List.append_nil]; exact h8a)
        rw [List.append_nil] at q
        exact q
  have roots : ∀ (n9 : Nat) (cs : List Nat) (g8 : Nat → Int32) (kv : Int32), cs.length + n9 = a_n a → lk_Q a r none [] [] cs → nx_inv (nx_P a r none cs.getLast?) (a_lt a) (a_n a) kv → td_L cs g8 → jw_J p l e rm_M_look s m args below meth c D vCl A 5 (MQ below (va_Qv (fun w9 => ∃ (hr9 ht9 : Nat → Int32) (M : List Nat), w9 = wM am cB cI cL go gc gb gd gh hr9 ht9 gk gn er op (nI M.length) ∧ td_L M hr9 ∧ ab_own a r M) (jw_B D vCl (vTy cB cI cL) A) A) args s rm_M_look.cells rm_M_look.slots A) 0 0 15 [(0, .ref (am 0)), (1, .int (nI r)), (2, .int (nI cs.length)), (3, .int kv)] [] (wM am cB cI cL go gc gb gd gh gr g8 gk gn er op (nI 0)) := by
    intro n9
    induction n9 with
    | zero =>
      intro cs g8 kv hc9 hq hb hg
      rcases hb with ⟨rfl, hno⟩ | ⟨k, hk, rfl, hk2, hk3⟩
      · refine jw_iload_n (pc := 15) F 3 d_M_look_15 rfl rfl ?_
        refine jw_if_lt (pc := 16) F 40 d_M_look_16 (by decide) (fun hz7 => ?_) (fun hz7 => False.elim (absurd hz7 (by decide)))
        refine jw_loc (lv' := [(0, .ref (am 0)), (1, .int (nI r)), (2, .int (nI cs.length))]) [0, 1, 2] rfl ?_
        exact outer (a_n a) [] cs gr g8 (Nat.zero_add _) hq.1 (lk_C0 hq hno) (td_0 _) hg
      · exfalso
        have h9 : ([] : List Nat).length + ([] ++ cs).length < a_n a := (lk_push hI hq hk hk2 hk3).2
        rw [List.nil_append, List.length_nil] at h9
        omega
    | succ n9 ih =>
      intro cs g8 kv hc9 hq hb hg
      rcases hb with ⟨rfl, hno⟩ | ⟨k, hk, rfl, hk2, hk3⟩
      · refine jw_iload_n (pc := 15) F 3 d_M_look_15 rfl rfl ?_
        refine jw_if_lt (pc := 16) F 40 d_M_look_16 (by decide) (fun hz8 => ?_) (fun hz8 => False.elim (absurd hz8 (by decide)))
        refine jw_loc (lv' := [(0, .ref (am 0)), (1, .int (nI r)), (2, .int (nI cs.length))]) [0, 1, 2] rfl ?_
        exact outer (a_n a) [] cs gr g8 (Nat.zero_add _) hq.1 (lk_C0 hq hno) (td_0 _) hg
      · have hq2 := (lk_push hI hq hk hk2 hk3).1
        refine jw_iload_n (pc := 15) F 3 d_M_look_15 rfl rfl ?_
        refine jw_if_lt (pc := 16) F 40 d_M_look_16 (by decide) (fun hz9 => False.elim (nI_pos (by omega) hz9)) (fun hz9 => ?_)
        refine jw_aload_n (pc := 19) F 0 d_M_look_19 rfl rfl ?_
        refine jw_get (pc := 20) F (jms inM) 0 rfl rfl 9 (by decide) (jm w_351) rfl d_M_look_20 ?_
        refine jw_iload_n (pc := 23) F 2 d_M_look_23 rfl rfl ?_
        refine jw_iinc (pc := 24) (v := nI (cs.length + 1)) (lv' := [(0, .ref (am 0)), (1, .int (nI r)), (2, .int (nI (cs.length + 1))), (3, .int (nI k))]) F 2 d_M_look_24 rfl (jw_inc _) (by decide) rfl ?_
        refine jw_iload_n (pc := 27) F 3 d_M_look_27 rfl rfl ?_
        refine jw_iastN (pc := 28) (ws' := wM am cB cI cL go gc gb gd gh gr (upd g8 cs.length (nI k)) gk gn er op (nI 0)) F 8 1 rfl rfl cs.length rfl (by omega) (by decide) d_M_look_28 rfl ?_
        refine jw_aload_n (pc := 29) F 0 d_M_look_29 rfl rfl ?_
        refine jw_iload_n (pc := 30) F 1 d_M_look_30 rfl rfl ?_
        refine jw_iconst (pc := 31) (v := -1) F d_M_look_31 (by decide) ?_
        refine jw_iload_n (pc := 32) F 3 d_M_look_32 rfl rfl ?_
        refine jw_callV_Ci (pc := 33) (As := [.int (nI r), .int (-1), .int (nI k)]) (rest := []) F (m_next1 l D am cB cI cL go gc gb gd gh gr (upd g8 cs.length (nI k)) gk gn er op (nI 0) a hI hA r hr none (fun e h => by cases h) k hk) (jw_cwV F.1.2.2.2.2 wl_good w_447 w_449 w_25 w_30 w_450 hd_M_next ⟨by decide, by decide⟩) 0 1 rfl rfl rfl rfl rfl rfl (Nat.le_of_ble_eq_true rfl) d_M_look_33 ⟨rfl, rfl⟩ ⟨by decide, by decide⟩ (fun kw w hw => ?_)
        obtain ⟨hb2, rfl⟩ := hw
        refine jw_istore_n (pc := 36) (lv' := [(0, .ref (am 0)), (1, .int (nI r)), (2, .int (nI (cs.length + 1))), (3, .int kw)]) F d_M_look_36 rfl (by decide) rfl ?_
        refine jw_goto (pc := 37) F 15 d_M_look_37 (by decide) ?_
        have q := ih (cs ++ [k]) (upd g8 cs.length (nI k)) kw (by rw [List.length_append, List.length_singleton]; omega) hq2 (by rw [List.getLast?_append]; exact hb2) (td_push hg)
        rw [List.length_append, List.length_singleton] at q
        exact q
  refine jw_aload_n (pc := 0) F 0 d_M_look_0 rfl rfl ?_
  refine jw_iconst (pc := 1) (v := nI 0) F d_M_look_1 (by decide) ?_
  refine jw_put (pc := 2) (v := .int (nI 0)) (ty := .int) (ws' := wM am cB cI cL go gc gb gd gh gr gt gk gn er op (nI 0)) F (jms inM) tM tM_ok nmM 0 rfl rfl 11 (by decide) (jm w_353) rfl (by decide +kernel) rfl rfl (Nat.le_of_ble_eq_true rfl) d_M_look_2 rfl ?_
  refine jw_iconst (pc := 5) (v := nI 0) F d_M_look_5 (by decide) ?_
  refine jw_istore_n (pc := 6) (lv' := [(0, .ref (am 0)), (1, .int (nI r)), (2, .int (nI 0))]) F d_M_look_6 rfl (by decide) rfl ?_
  refine jw_aload_n (pc := 7) F 0 d_M_look_7 rfl rfl ?_
  refine jw_iload_n (pc := 8) F 1 d_M_look_8 rfl rfl ?_
  refine jw_iconst (pc := 9) (v := -1) F d_M_look_9 (by decide) ?_
  refine jw_iconst (pc := 10) (v := -1) F d_M_look_10 (by decide) ?_
  refine jw_callV_Ci (pc := 11) (As := [.int (nI r), .int (-1), .int (-1)]) (rest := []) F (m_next0 l D am cB cI cL go gc gb gd gh gr gt gk gn er op (nI 0) a hI hA r hr none (fun e h => by cases h)) (jw_cwV F.1.2.2.2.2 wl_good w_447 w_449 w_25 w_30 w_450 hd_M_next ⟨by decide, by decide⟩) 0 1 rfl rfl rfl rfl rfl rfl (Nat.le_of_ble_eq_true rfl) d_M_look_11 ⟨rfl, rfl⟩ ⟨by decide, by decide⟩ (fun kv w hw => ?_)
  obtain ⟨hb, rfl⟩ := hw
  refine jw_istore_n (pc := 14) (lv' := [(0, .ref (am 0)), (1, .int (nI r)), (2, .int (nI 0)), (3, .int kv)]) F d_M_look_14 rfl (by decide) rfl ?_
  exact roots (a_n a) [] gt kv (by rw [List.length_nil]; omega) lk_0 hb (td_0 _)
