theorem jw_perm {p : Program} {l : Launch} {e : Env} {R : Room} {s : State} {m : MethodId} {args : Array Value} {below : List Frame} {meth : Method} {c : Code} {Q : State → Prop} {cells slots pc nL : Nat} {D : va_G} {cl : List vw_C} {A : Nat → Prop} {lv : List (Nat × Value)} {st : List Value} {ws ws' : va_W} (h : ws'.Perm ws) (k : jw_J p l e R s m args below meth c D cl A nL Q cells slots pc lv st ws') : jw_J p l e R s m args below meth c D cl A nL Q cells slots pc lv st ws := by
  intro ls H locs hl hP hD hS
  refine k ls H locs hl ?_ ?_ hS
  · rw [jw_P_iff] at hP ⊢
    exact fun q hq => hP q (h.mem_iff.mp hq)
  · rw [jw_D_iff] at hD ⊢
    exact ⟨(h.map Prod.fst).nodup_iff.mpr hD.1, fun q hq => hD.2 q (h.mem_iff.mp hq)⟩
theorem jw_cwI {R : Room} {s : State} {args : Array Value} {own : String} {WL : List Cond} {c0 : Cond} {index maxL n : Nat} {y : MethodName} {bytes : ByteArray} {rm : Room} (hts : ∀ w ∈ c0 :: WL, w.before args s = true) (hg : ∀ w ∈ WL, goodWord w = true) (h1 : Cond.methodLink own index y ∈ WL) (h2 : Cond.instanceMethod y ∈ WL) (h4 : Cond.initialized y.cls ∈ WL) (h5 : Cond.code y bytes maxL none ∈ WL) (hy : y.name = "<init>")
    (hd : y.cls ≠ "java/lang/invoke/MethodHandle" ∧ y.cls ≠ "java/lang/invoke/VarHandle" ∧ (parseMethodDescriptor y.desc).map (fun d => d.parameters.length) = some n) (hR : rm.frames + 1 ≤ R.frames ∧ 8 + (maxL + 11) + rm.locals ≤ R.locals) : CallB R s args own index y bytes maxL none (Cond.code y bytes maxL none :: WL) rm rm.cells rm.slots n ∧ y.name = "<init>" ∧ (Cond.instanceMethod y).before args s = true := by
  refine cwI (Ts := c0 :: WL) n hts (fun w hw => ?_) rfl rfl rfl (hts _ (List.mem_cons_of_mem _ h4)) (hts _ (List.mem_cons_of_mem _ h1)) (hts _ (List.mem_cons_of_mem _ h2)) hy hd hR
  have hm : w ∈ WL := by
    rcases List.mem_cons.mp hw with h | h
    · rw [h]; exact h5
    · exact h
  exact ⟨List.mem_cons_of_mem _ hm, good_of_word (hg w hm)⟩
theorem jw_arrB {args : Array Value} {s : State} (h : (Cond.arrayClass .boolean).before args s = true) : ∃ cA : ClassId, ArrOfT s cA .boolean ∧ va_RA s cA .boolean := by
  obtain ⟨cA, kA, comp, h1, h2, h3⟩ := Cond.arrayClass_spec h
  exact ⟨cA, fun n z => ⟨fun k h => (by cases h), kA, h2, comp, h3⟩, h1⟩
theorem jw_arrI {args : Array Value} {s : State} (h : (Cond.arrayClass .int).before args s = true) : ∃ cA : ClassId, ArrOfT s cA .int ∧ va_RA s cA .int := by
  obtain ⟨cA, kA, comp, h1, h2, h3⟩ := Cond.arrayClass_spec h
  exact ⟨cA, fun n z => ⟨fun k h => (by cases h), kA, h2, comp, h3⟩, h1⟩
theorem jw_arrL {args : Array Value} {s : State} (h : (Cond.arrayClass .long).before args s = true) : ∃ cA : ClassId, ArrOfT s cA .long ∧ va_RA s cA .long := by
  obtain ⟨cA, kA, comp, h1, h2, h3⟩ := Cond.arrayClass_spec h
  exact ⟨cA, fun n z => ⟨fun k h => (by cases h), kA, h2, comp, h3⟩, h1⟩
theorem lw_cond {i LL : Nat} (hi : i < 1000000) (hL : LL < 1000000) : (nI LL - nI 5 < nI i) ↔ ¬ i + 5 ≤ LL := by
  rw [Int32.lt_iff_toInt_lt, pk_sub_toInt (by omega) (by omega), nI_toInt (by omega)]
  omega
theorem cx_R0 : cx_R ab_0 [] (fun _ => 0) (fun _ => 0) (fun _ => 0) (fun _ => 0) (fun _ => 0) (fun _ => 0) (fun _ => 0) (fun _ => 0) (fun _ => 0) 0 0 := by
  refine ⟨ab_I0, ⟨rfl, ?_, ?_, ?_, ?_, ?_, ?_, ?_⟩, ?_, ⟨rfl, ?_⟩, List.nodup_nil, ?_, trivial⟩
  · intro k hk; exact absurd hk (Nat.not_lt_zero k)
  · intro k hk; exact absurd hk (Nat.not_lt_zero k)
  · intro k hk; exact absurd hk (Nat.not_lt_zero k)
  · intro k hk; exact absurd hk (Nat.not_lt_zero k)
  · intro k hk; rfl
  · intro k hk; rfl
  · intro k hk; rfl
  · intro k hk; exact absurd hk (Nat.not_lt_zero k)
  · intro k hk; exact absurd hk (Nat.not_lt_zero k)
  · intro x
    exact ⟨fun h => (by cases h), fun h => absurd h.1 (Nat.not_lt_zero x)⟩
theorem mx_R0 : mx_R ab_0 (fun _ => 0) (fun _ => 0) (fun _ => 0) (fun _ => 0) (fun _ => 0) (fun _ => 0) 0 := by
  refine ⟨ab_I0, ⟨rfl, ?_, ?_, ?_, ?_, ?_⟩, ?_⟩
  · intro k hk; exact absurd hk (Nat.not_lt_zero k)
  · intro k hk; exact absurd hk (Nat.not_lt_zero k)
  · intro k hk; exact absurd hk (Nat.not_lt_zero k)
  · intro k hk; exact absurd hk (Nat.not_lt_zero k)
  · intro r hr k hk; exact absurd hk (Nat.not_lt_zero k)
  · intro k hk; exact absurd hk (Nat.not_lt_zero k)
theorem w_38 : Cond.classLink RL 8 RX ∈ WL := jwl 38 rfl rfl
theorem w_39 : Cond.instantiable RX 11 ∈ WL := jwl 39 rfl rfl
theorem w_40 : Cond.methodLink RL 54 y_X_init ∈ WL := jwl 40 rfl rfl
theorem w_41 : Cond.instanceMethod y_X_init ∈ WL := jwl 41 rfl rfl
theorem w_42 : Cond.code y_X_init b_X_init 1 none ∈ WL := jwl 42 rfl rfl
theorem w_336 : Cond.classLink RL 55 RM ∈ WL := jwl 336 rfl rfl
theorem w_337 : Cond.instantiable RM 12 ∈ WL := jwl 337 rfl rfl
theorem w_338 : Cond.methodLink RL 57 y_M_init ∈ WL := jwl 338 rfl rfl
theorem w_339 : Cond.instanceMethod y_M_init ∈ WL := jwl 339 rfl rfl
theorem w_340 : Cond.code y_M_init b_M_init 1 none ∈ WL := jwl 340 rfl rfl
set_option maxHeartbeats 4000000 in
set_option maxRecDepth 100000 in
theorem law_loop {p : Program} {e : Env} {s : State} {m : MethodId} {below : List Frame} {meth : Method} {c : Code} (l : Launch) (D : va_G) (ad am : Nat → Nat) (ao : Nat) (cB cI cL : ClassId) {b LL : Nat} {xs : Nat → Int32} {Q : State → Prop} {A : Nat → Prop} (hl : l.stackTraces = false) (F : jw_F p s m #[Value.ref b] meth c D vCl (vTy cB cI cL) A 8 b_L_law RL (Cond.initialized RL :: WL) ret) (hZ : jz_Y A s) (hX : va_X b LL xs s s.heap) (hbl : b < s.heap.size) (hbA : ¬ A b) (hLL : LL ≤ 2560)
    (fin : ∀ (j : Nat) (lv : List (Nat × Value)) (ws : va_W), j ≤ 513 → jw_J p l e room_1 s m #[Value.ref b] below meth c D vCl A 8 Q (21 + j) (3229 + 6 * j) 864 lv [.int 1] ws) : ∀ (u j : Nat) (a : AS) (L : List Nat) (f0 f1 f2 f3 f4 f5 f6 f7 : Nat → Int32) (v : Nat → Int64) (md ln : Int32) (go gc gb gd gh gr gt gk : Nat → Int32) (gn : Nat → Int64) (er op sz : Int32) (o : Nat → Int64), j + u = 513 → cx_R a L f0 f1 f2 f3 f4 f5 f6 f7 v md ln → mx_R a go gc gb gd gh gn op → jw_J p l e room_1 s m #[Value.ref b] below meth c D vCl A 8 Q (21 + j) (3229 + 6 * j) 23 [(0, .ref b), (1, .ref (ad 0)), (2, .ref (am 0)), (3, .ref ao), (4, .int (nI (5 * j)))] [] (wM am cB cI cL go gc gb gd gh gr gt gk gn er op sz ++ wX ad cB cI cL f0 f1 f2 f3 f4 f5 f6 f7 v md ln ++ wO ao cL o) := by
  intro u
  induction u with
  | zero =>
    intro j a L f0 f1 f2 f3 f4 f5 f6 f7 v md ln go gc gb gd gh gr gt gk gn er op sz o hj hQ hQm
    refine jw_iload (pc := 23) F 4 d_L_law_23 rfl ?_
    refine jw_aload_n (pc := 25) F 0 d_L_law_25 rfl rfl ?_
    refine jw_slen (pc := 26) F hX hbl hbA d_L_law_26 ?_
    refine jw_iconst (pc := 27) (v := nI 5) F d_L_law_27 (by decide) ?_
    refine jw_isub (pc := 28) F d_L_law_28 ?_
    refine jw_icmp_gt (pc := 29) F 863 d_L_law_29 (by decide) (fun hz1 => ?_) (fun hz1 => False.elim (hz1 ((lw_cond (by omega) (by omega)).mpr (by omega))))
    refine jw_iconst (pc := 863) (v := 1) F d_L_law_863 (by decide) ?_
    exact fin j _ _ (by omega)
  | succ u ih =>
    intro j a L f0 f1 f2 f3 f4 f5 f6 f7 v md ln go gc gb gd gh gr gt gk gn er op sz o hj hQ hQm
    refine jw_iload (pc := 23) F 4 d_L_law_23 rfl ?_
    refine jw_aload_n (pc := 25) F 0 d_L_law_25 rfl rfl ?_
    refine jw_slen (pc := 26) F hX hbl hbA d_L_law_26 ?_
    refine jw_iconst (pc := 27) (v := nI 5) F d_L_law_27 (by decide) ?_
    refine jw_isub (pc := 28) F d_L_law_28 ?_
    refine jw_icmp_gt (pc := 29) F 863 d_L_law_29 (by decide) (fun h1 => ?_) (fun h1 => ?_)
    · refine jw_iconst (pc := 863) (v := 1) F d_L_law_863 (by decide) ?_
      exact fin j _ _ (by omega)
    · have hi : 5 * j + 5 ≤ LL := Classical.byContradiction (fun q => h1 ((lw_cond (by omega) (by omega)).mpr q))
      have cont : ∀ (a : AS) (L : List Nat) (f0 f1 f2 f3 f4 f5 f6 f7 : Nat → Int32) (v : Nat → Int64) (md ln : Int32) (go gc gb gd gh gr gt gk : Nat → Int32) (gn : Nat → Int64) (er op sz : Int32) (o : Nat → Int64), cx_R a L f0 f1 f2 f3 f4 f5 f6 f7 v md ln → mx_R a go gc gb gd gh gn op → jw_J p l e room_1 s m #[Value.ref b] below meth c D vCl A 8 Q (21 + j + 1) (3229 + 6 * j + 6) 857 [(0, .ref b), (1, .ref (ad 0)), (2, .ref (am 0)), (3, .ref ao), (4, .int (nI (5 * j)))] [] (wM am cB cI cL go gc gb gd gh gr gt gk gn er op sz ++ wX ad cB cI cL f0 f1 f2 f3 f4 f5 f6 f7 v md ln ++ wO ao cL o) := by
        intro a L f0 f1 f2 f3 f4 f5 f6 f7 v md ln go gc gb gd gh gr gt gk gn er op sz o hQ hQm
        refine jw_iinc (pc := 857) (v := nI (5 * (j + 1))) (lv' := [(0, .ref b), (1, .ref (ad 0)), (2, .ref (am 0)), (3, .ref ao), (4, .int (nI (5 * (j + 1))))]) F 4 d_L_law_857 rfl (jw_inc5 _) (by decide) rfl ?_
        refine jw_goto (pc := 860) F 23 d_L_law_860 (by decide) ?_
        refine jw_widen (k := 21 + (j + 1)) (n := 3229 + 6 * (j + 1)) (by omega) (by omega) ?_
        exact ih (j + 1) a L f0 f1 f2 f3 f4 f5 f6 f7 v md ln go gc gb gd gh gr gt gk gn er op sz o (by omega) hQ hQm
      refine jw_aload_n (pc := 32) F 0 d_L_law_32 rfl rfl ?_
      refine jw_iload (pc := 33) F 4 d_L_law_33 rfl ?_
      refine jw_sld (pc := 35) F hX hbl hbA (5 * j) rfl (by omega) (by omega) d_L_law_35 ?_
      refine jw_bipush (pc := 36) (v := nI 15) F d_L_law_36 (by decide) ?_
      refine jw_iand (pc := 38) F d_L_law_38 ?_
      obtain ⟨cs, hcs, hce⟩ := pk_andE (xs (5 * j)) (m := nI 15) 4 (by decide)
      rw [hce]
      obtain rfl | rfl | rfl | rfl | rfl | rfl | rfl | rfl | rfl | rfl | rfl | hbig : cs = 0 ∨ cs = 1 ∨ cs = 2 ∨ cs = 3 ∨ cs = 4 ∨ cs = 5 ∨ cs = 6 ∨ cs = 7 ∨ cs = 8 ∨ cs = 9 ∨ cs = 10 ∨ 11 ≤ cs := by omega
      · refine jw_tableIn (pc := 39) (off := 57) F 96 d_L_law_39 (by decide) (by decide) (by decide) (by decide) ?_
        exact lawc_insert l D ad am ao cB cI cL hl F hZ hX hbl hbA hLL (5 * j) (21 + j) (3229 + 6 * j) hi (by omega) (by omega) a L f0 f1 f2 f3 f4 f5 f6 f7 v md ln go gc gb gd gh gr gt gk gn er op sz o hQ hQm cont
      · refine jw_tableIn (pc := 39) (off := 169) F 208 d_L_law_39 (by decide) (by decide) (by decide) (by decide) ?_
        exact lawc_delete l D ad am ao cB cI cL hl F hZ hX hbl hbA hLL (5 * j) (21 + j) (3229 + 6 * j) hi (by omega) (by omega) a L f0 f1 f2 f3 f4 f5 f6 f7 v md ln go gc gb gd gh gr gt gk gn er op sz o hQ hQm cont
      · refine jw_tableIn (pc := 39) (off := 237) F 276 d_L_law_39 (by decide) (by decide) (by decide) (by decide) ?_
        exact lawc_give l D ad am ao cB cI cL hl F hZ hX hbl hbA hLL (5 * j) (21 + j) (3229 + 6 * j) hi (by omega) (by omega) a L f0 f1 f2 f3 f4 f5 f6 f7 v md ln go gc gb gd gh gr gt gk gn er op sz o hQ hQm cont
      · refine jw_tableIn (pc := 39) (off := 285) F 324 d_L_law_39 (by decide) (by decide) (by decide) (by decide) ?_
        exact lawc_tell l D ad am ao cB cI cL hl F hZ hX hbl hbA hLL (5 * j) (21 + j) (3229 + 6 * j) hi (by omega) (by omega) a L f0 f1 f2 f3 f4 f5 f6 f7 v md ln go gc gb gd gh gr gt gk gn er op sz o hQ hQm cont
      · refine jw_tableIn (pc := 39) (off := 353) F 392 d_L_law_39 (by decide) (by decide) (by decide) (by decide) ?_
        exact lawc_holds l D ad am ao cB cI cL hl F hZ hX hbl hbA hLL (5 * j) (21 + j) (3229 + 6 * j) hi (by omega) (by omega) a L f0 f1 f2 f3 f4 f5 f6 f7 v md ln go gc gb gd gh gr gt gk gn er op sz o hQ hQm cont
      · refine jw_tableIn (pc := 39) (off := 428) F 467 d_L_law_39 (by decide) (by decide) (by decide) (by decide) ?_
        exact lawc_at l D ad am ao cB cI cL hl F hZ hX hbl hbA hLL (5 * j) (21 + j) (3229 + 6 * j) hi (by omega) (by omega) a L f0 f1 f2 f3 f4 f5 f6 f7 v md ln go gc gb gd gh gr gt gk gn er op sz o hQ hQm cont
      · refine jw_tableIn (pc := 39) (off := 496) F 535 d_L_law_39 (by decide) (by decide) (by decide) (by decide) ?_
        exact lawc_place l D ad am ao cB cI cL hl F hZ hX hbl hbA hLL (5 * j) (21 + j) (3229 + 6 * j) hi (by omega) (by omega) a L f0 f1 f2 f3 f4 f5 f6 f7 v md ln go gc gb gd gh gr gt gk gn er op sz o hQ hQm cont
      · refine jw_tableIn (pc := 39) (off := 564) F 603 d_L_law_39 (by decide) (by decide) (by decide) (by decide) ?_
        exact lawc_value l D ad am ao cB cI cL hl F hZ hX hbl hbA hLL (5 * j) (21 + j) (3229 + 6 * j) hi (by omega) (by omega) a L f0 f1 f2 f3 f4 f5 f6 f7 v md ln go gc gb gd gh gr gt gk gn er op sz o hQ hQm cont
      · refine jw_tableIn (pc := 39) (off := 619) F 658 d_L_law_39 (by decide) (by decide) (by decide) (by decide) ?_
        exact lawc_stamp l D ad am ao cB cI cL hl F hZ hX hbl hbA hLL (5 * j) (21 + j) (3229 + 6 * j) hi (by omega) (by omega) a L f0 f1 f2 f3 f4 f5 f6 f7 v md ln go gc gb gd gh gr gt gk gn er op sz o hQ hQm cont
      · refine jw_tableIn (pc := 39) (off := 675) F 714 d_L_law_39 (by decide) (by decide) (by decide) (by decide) ?_
        exact lawc_count l D ad am ao cB cI cL hl F hZ hX hbl hbA hLL (5 * j) (21 + j) (3229 + 6 * j) hi (by omega) (by omega) a L f0 f1 f2 f3 f4 f5 f6 f7 v md ln go gc gb gd gh gr gt gk gn er op sz o hQ hQm cont
      · refine jw_tableIn (pc := 39) (off := 743) F 782 d_L_law_39 (by decide) (by decide) (by decide) (by decide) ?_
        exact lawc_same l D ad am ao cB cI cL hl F hZ hX hbl hbA hLL (5 * j) (21 + j) (3229 + 6 * j) hi (by omega) (by omega) a L f0 f1 f2 f3 f4 f5 f6 f7 v md ln go gc gb gd gh gr gt gk gn er op sz o hQ hQm cont
      · refine jw_tableOut (pc := 39) F 857 d_L_law_39 (Or.inr (by rw [nI_toInt (by omega)]; omega)) (by decide) ?_
        refine jw_widen (k := 21 + j + 1) (n := 3229 + 6 * j + 6) (by omega) (by omega) ?_
        exact cont a L f0 f1 f2 f3 f4 f5 f6 f7 v md ln go gc gb gd gh gr gt gk gn er op sz o hQ hQm
set_option maxHeartbeats 4000000 in
set_option maxRecDepth 100000 in
theorem law_start {p : Program} {e : Env} {s : State} {m : MethodId} {below : List Frame} {meth : Method} {c : Code} (l : Launch) (D : va_G) (cB cI cL : ClassId) {b LL : Nat} {xs : Nat → Int32} {Q : State → Prop} {A : Nat → Prop} (hl : l.stackTraces = false) (F : jw_F p s m #[Value.ref b] meth c D vCl (vTy cB cI cL) A 8 b_L_law RL (Cond.initialized RL :: WL) ret) (hZ : jz_Y A s) (hX : va_X b LL xs s s.heap) (hbl : b < s.heap.size) (hbA : ¬ A b) (hLL : LL ≤ 2560)
    (fin : ∀ (j : Nat) (lv : List (Nat × Value)) (ws : va_W), j ≤ 513 → jw_J p l e room_1 s m #[Value.ref b] below meth c D vCl A 8 Q (21 + j) (3229 + 6 * j) 864 lv [.int 1] ws) : jw_J p l e room_1 s m #[Value.ref b] below meth c D vCl A 8 Q 0 0 0 [(0, .ref b)] [] [] := by
  refine jw_new (pc := 0) (fs := [.int 0, .null, .null, .null, .null, .null, .null, .null, .null, .null, .int 0]) F (jms inX) tX tX_ok (jm w_38) (jm w_39) (jm w_29) (ci := 0) rfl (fun j hj => by rcases (show (j = 0 ∨ j = 1 ∨ j = 2 ∨ j = 3 ∨ j = 4 ∨ j = 5 ∨ j = 6 ∨ j = 7 ∨ j = 8 ∨ j = 9 ∨ j = 10) by omega) with rfl | rfl | rfl | rfl | rfl | rfl | rfl | rfl | rfl | rfl | rfl <;> rfl) (by decide) (by decide) d_L_law_0 (fun q0 => ?_)
  refine jw_at (lv' := [(0, .ref b)]) (st' := [.ref q0]) (ws' := [(q0, .inr (0, [.int 0, .null, .null, .null, .null, .null, .null, .null, .null, .null, .int 0]))]) rfl rfl rfl ?_
  refine jw_dup (pc := 3) F d_L_law_3 rfl ?_
  refine jw_callI_v (pc := 4) (b := q0) (As := []) (rest := [.ref q0]) F [] [] (c_init l D cB cI cL q0) (jw_cwI F.1.2.2.2.2 wl_good w_40 w_41 w_29 w_42 rfl (by decide +kernel) ⟨by decide, by decide⟩) rfl rfl rfl (Nat.le_of_ble_eq_true rfl) d_L_law_4 ⟨by decide, by decide⟩ (fun w hw => ?_)
  obtain ⟨ad, had, rfl⟩ := hw
  subst had
  refine jw_at (lv' := [(0, .ref b)]) (st' := [.ref (ad 0)]) (ws' := wX ad cB cI cL (fun _ => 0) (fun _ => 0) (fun _ => 0) (fun _ => 0) (fun _ => 0) (fun _ => 0) (fun _ => 0) (fun _ => 0) (fun _ => 0) 0 0) rfl rfl (by rw [List.nil_append, List.append_nil]) ?_
  refine jw_widen (k := 10) (n := 1295) (by decide) (by decide) ?_
  refine jw_astore_n (pc := 7) (lv' := [(0, .ref b), (1, .ref (ad 0))]) F d_L_law_7 rfl (by decide) rfl ?_
  refine jw_new (pc := 8) (fs := [.int 0, .int 0, .null, .null, .null, .null, .null, .null, .null, .null, .null, .int 0]) F (jms inM) tM tM_ok (jm w_336) (jm w_337) (jm w_30) (ci := 1) rfl (fun j hj => by rcases (show (j = 0 ∨ j = 1 ∨ j = 2 ∨ j = 3 ∨ j = 4 ∨ j = 5 ∨ j = 6 ∨ j = 7 ∨ j = 8 ∨ j = 9 ∨ j = 10 ∨ j = 11) by omega) with rfl | rfl | rfl | rfl | rfl | rfl | rfl | rfl | rfl | rfl | rfl | rfl <;> rfl) (by decide) (by decide) d_L_law_8 (fun q1 => ?_)
  refine jw_dup (pc := 11) F d_L_law_11 rfl ?_
  refine jw_callI_v (pc := 12) (b := q1) (As := []) (rest := [.ref q1]) F (wX ad cB cI cL (fun _ => 0) (fun _ => 0) (fun _ => 0) (fun _ => 0) (fun _ => 0) (fun _ => 0) (fun _ => 0) (fun _ => 0) (fun _ => 0) 0 0) [] (m_init l D cB cI cL q1) (jw_cwI F.1.2.2.2.2 wl_good w_338 w_339 w_30 w_340 rfl (by decide +kernel) ⟨by decide, by decide⟩) (by rw [List.append_nil]) rfl rfl (Nat.le_of_ble_eq_true rfl) d_L_law_12 ⟨by decide, by decide⟩ (fun w hw => ?_)
  obtain ⟨am, ham, rfl⟩ := hw
  subst ham
  refine jw_at (lv' := [(0, .ref b), (1, .ref (ad 0))]) (st' := [.ref (am 0)]) (ws' := wX ad cB cI cL (fun _ => 0) (fun _ => 0) (fun _ => 0) (fun _ => 0) (fun _ => 0) (fun _ => 0) (fun _ => 0) (fun _ => 0) (fun _ => 0) 0 0 ++ wM am cB cI cL (fun _ => 0) (fun _ => 0) (fun _ => 0) (fun _ => 0) (fun _ => 0) (fun _ => 0) (fun _ => 0) (fun _ => 0) (fun _ => 0) 0 0 0) rfl rfl (by rw [List.append_nil]) ?_
  refine jw_perm (ws' := wM am cB cI cL (fun _ => 0) (fun _ => 0) (fun _ => 0) (fun _ => 0) (fun _ => 0) (fun _ => 0) (fun _ => 0) (fun _ => 0) (fun _ => 0) 0 0 0 ++ wX ad cB cI cL (fun _ => 0) (fun _ => 0) (fun _ => 0) (fun _ => 0) (fun _ => 0) (fun _ => 0) (fun _ => 0) (fun _ => 0) (fun _ => 0) 0 0) List.perm_append_comm ?_
  refine jw_widen (k := 20) (n := 3228) (by decide) (by decide) ?_
  refine jw_astore_n (pc := 15) (lv' := [(0, .ref b), (1, .ref (ad 0)), (2, .ref (am 0))]) F d_L_law_15 rfl (by decide) rfl ?_
  refine jw_iconst (pc := 16) (v := 1) F d_L_law_16 (by decide) ?_
  refine jw_newa (pc := 17) (atype := .long) (ty := .long) (N' := 1) (a0 := (1, .inr (.inl (fun _ => 0)))) F 2 rfl (fun C h => by cases h) (jm w_82) rfl (fun _ => rfl) (by decide) (by decide) (by decide) (by decide) (by decide) d_L_law_17 (fun ao => ?_)
  refine jw_at (lv' := [(0, .ref b), (1, .ref (ad 0)), (2, .ref (am 0))]) (st' := [.ref ao]) (ws' := wM am cB cI cL (fun _ => 0) (fun _ => 0) (fun _ => 0) (fun _ => 0) (fun _ => 0) (fun _ => 0) (fun _ => 0) (fun _ => 0) (fun _ => 0) 0 0 0 ++ wX ad cB cI cL (fun _ => 0) (fun _ => 0) (fun _ => 0) (fun _ => 0) (fun _ => 0) (fun _ => 0) (fun _ => 0) (fun _ => 0) (fun _ => 0) 0 0 ++ wO ao cL (fun _ => 0)) rfl rfl rfl ?_
  refine jw_astore_n (pc := 19) (lv' := [(0, .ref b), (1, .ref (ad 0)), (2, .ref (am 0)), (3, .ref ao)]) F d_L_law_19 rfl (by decide) rfl ?_
  refine jw_iconst (pc := 20) (v := nI 0) F d_L_law_20 (by decide) ?_
  refine jw_istore (pc := 21) (lv' := [(0, .ref b), (1, .ref (ad 0)), (2, .ref (am 0)), (3, .ref ao), (4, .int (nI 0))]) F d_L_law_21 (by decide) rfl ?_
  refine jw_widen (k := 21 + 0) (n := 3229 + 6 * 0) (by decide) (by decide) ?_
  exact law_loop l D ad am ao cB cI cL hl F hZ hX hbl hbA hLL fin 513 0 ab_0 [] (fun _ => 0) (fun _ => 0) (fun _ => 0) (fun _ => 0) (fun _ => 0) (fun _ => 0) (fun _ => 0) (fun _ => 0) (fun _ => 0) 0 0 (fun _ => 0) (fun _ => 0) (fun _ => 0) (fun _ => 0) (fun _ => 0) (fun _ => 0) (fun _ => 0) (fun _ => 0) (fun _ => 0) 0 0 0 (fun _ => 0) (by decide) cx_R0 mx_R0
