def mx_V (a : AS) (gn : Nat → Int64) : Prop := ∀ k, k < a_n a → a_dl a k = false → gn k = a_vl a k
def mx_R (a : AS) (go gc gb gd gh : Nat → Int32) (gn : Nat → Int64) (op : Int32) : Prop := ab_I a ∧ mx_A a go gc gb gd gh op ∧ mx_V a gn
theorem mx_new {a : AS} {go gc gb gd gh h : Nat → Int32} {op : Int32} {r : Nat} {tt : Int32} {d : Bool} {vv : Int64} (hI : ab_I a) (hA : mx_A a go gc gb gd gh op) (h1 : ∀ s, s < 4 → ∀ k, k < a_n a → h (160 * s + k) = gh (160 * s + k)) (h2 : ∀ s, s < 4 → h (160 * s + a_n a) = jb (decide (s = r))) :
    mx_A (ab_new a r tt d vv) (upd go (a_n a) tt) (upd gc (a_n a) (nI (a_gr a r + 1))) (upd gb (a_n a) (nI r)) (upd gd (a_n a) (jb d)) h (nI (a_n a + 1)) := by
  obtain ⟨g0, g1, g2, g3, g4, g5⟩ := hA
  refine ⟨rfl, ?_, ?_, ?_, ?_, ?_⟩
  · intro k hk
    have hk2 : k < a_n a + 1 := hk
    show upd go (a_n a) tt k = ab_up (a_tg a) (a_n a) tt k
    by_cases e : k = a_n a
    · subst e; rw [pk_us, ab_us]
    · rw [pk_un e, ab_un e]; exact g1 k (by omega)
  · intro k hk
    have hk2 : k < a_n a + 1 := hk
    show upd gc (a_n a) (nI (a_gr a r + 1)) k = nI (ab_up (a_ct a) (a_n a) (a_gr a r + 1) k)
    by_cases e : k = a_n a
    · subst e; rw [pk_us, ab_us]
    · rw [pk_un e, ab_un e]; exact g2 k (by omega)
  · intro k hk
    have hk2 : k < a_n a + 1 := hk
    show upd gb (a_n a) (nI r) k = nI (ab_up (a_mk a) (a_n a) r k)
    by_cases e : k = a_n a
    · subst e; rw [pk_us, ab_us]
    · rw [pk_un e, ab_un e]; exact g3 k (by omega)
  · intro k hk
    have hk2 : k < a_n a + 1 := hk
    show upd gd (a_n a) (jb d) k = jb (ab_up (a_dl a) (a_n a) d k)
    by_cases e : k = a_n a
    · subst e; rw [pk_us, ab_us]
    · rw [pk_un e, ab_un e]; exact g4 k (by omega)
  · intro s hs k hk
    have hk2 : k < a_n a + 1 := hk
    show h (160 * s + k) = jb (ab_up (a_hd a) r (ab_up (a_hd a r) (a_n a) true) s k)
    by_cases e : k = a_n a
    · subst e
      rw [h2 s hs]
      by_cases e2 : s = r
      · subst e2; rw [ab_us, ab_us]; simp
      · rw [ab_un e2, hI.2.1 s _ (Nat.le_refl _)]; simp [e2]
    · rw [ab_up_hdF e, h1 s hs k (by omega)]; exact g5 s hs k (by omega)
theorem mx_V_new {a : AS} {r : Nat} {t : Int32} {d : Bool} {vv : Int64} {v : Nat → Int64} (h : mx_V a v) : mx_V (ab_new a r t d vv) (vp_updL v (a_n a) vv) := cx_V_new h
theorem mx_take {a : AS} {go gc gb gd gh : Nat → Int32} {op : Int32} {r k : Nat} (hn : a_n a ≤ 160) (hk : k < a_n a) (hA : mx_A a go gc gb gd gh op) : mx_A (ab_take a r k) go gc gb gd (upd gh (160 * r + k) 1) op := by
  obtain ⟨g0, g1, g2, g3, g4, g5⟩ := hA
  refine ⟨g0, g1, g2, g3, g4, fun s hs i hi => ?_⟩
  have hi2 : i < a_n a := hi
  show _ = jb (ab_up (a_hd a) r (ab_up (a_hd a r) k true) s i)
  by_cases e1 : s = r
  · subst e1
    rw [ab_us]
    by_cases e2 : i = k
    · subst e2; rw [pk_us, ab_us]; rfl
    · rw [pk_un (by omega), ab_un e2]; exact g5 s hs i hi
  · rw [pk_un (by omega), ab_un e1]; exact g5 s hs i hi
theorem m_isrep_nI {r : Nat} (hr : r < 4) : a_isrep (nI r) = true := a_isop_nI (by decide) hr
theorem w_414 : Cond.methodLink RM 66 y_M_greatest ∈ WL := jwl 414 rfl rfl
theorem w_416 : Cond.instanceMethod y_M_greatest ∈ WL := jwl 416 rfl rfl
theorem w_22 : Cond.selects RM y_M_greatest y_M_greatest ∈ WL := jwl 22 rfl rfl
theorem w_417 : Cond.code y_M_greatest b_M_greatest 4 (some .int) ∈ WL := jwl 417 rfl rfl
theorem w_344 : Cond.fieldLink RM 9 "WovenRowModel" "of" "[I" ∈ WL := jwl 344 rfl rfl
theorem w_347 : Cond.fieldLink RM 19 "WovenRowModel" "numbers" "[J" ∈ WL := jwl 347 rfl rfl
theorem w_387 : Cond.methodLink RM 70 y_M_isReplica ∈ WL := jwl 387 rfl rfl
theorem w_388 : Cond.static y_M_isReplica ∈ WL := jwl 388 rfl rfl
theorem w_389 : Cond.code y_M_isReplica b_M_isReplica 1 (some .boolean) ∈ WL := jwl 389 rfl rfl
theorem w_394 : Cond.methodLink RM 73 y_M_fails ∈ WL := jwl 394 rfl rfl
theorem w_396 : Cond.instanceMethod y_M_fails ∈ WL := jwl 396 rfl rfl
theorem w_17 : Cond.selects RM y_M_fails y_M_fails ∈ WL := jwl 17 rfl rfl
theorem w_397 : Cond.code y_M_fails b_M_fails 3 (some .boolean) ∈ WL := jwl 397 rfl rfl
theorem w_398 : Cond.methodLink RM 77 y_M_hasElement ∈ WL := jwl 398 rfl rfl
theorem w_400 : Cond.instanceMethod y_M_hasElement ∈ WL := jwl 400 rfl rfl
theorem w_18 : Cond.selects RM y_M_hasElement y_M_hasElement ∈ WL := jwl 18 rfl rfl
theorem w_401 : Cond.code y_M_hasElement b_M_hasElement 3 (some .boolean) ∈ WL := jwl 401 rfl rfl
theorem w_410 : Cond.methodLink RM 80 y_M_made ∈ WL := jwl 410 rfl rfl
theorem w_412 : Cond.instanceMethod y_M_made ∈ WL := jwl 412 rfl rfl
theorem w_21 : Cond.selects RM y_M_made y_M_made ∈ WL := jwl 21 rfl rfl
theorem w_413 : Cond.code y_M_made b_M_made 8 (some .int) ∈ WL := jwl 413 rfl rfl
abbrev rm_M_made : Room := { frames := 2, cells := 0, slots := 0, locals := 45 }
abbrev rm_M_insert : Room := { frames := 3, cells := 0, slots := 0, locals := 72 }
abbrev rm_M_delete : Room := { frames := 3, cells := 0, slots := 0, locals := 72 }
set_option maxHeartbeats 4000000 in
set_option maxRecDepth 100000 in
theorem m_made (l : Launch) (D : va_G) (am : Nat → Nat) (cB cI cL : ClassId) (go gc gb gd gh gr gt gk : Nat → Int32) (gn : Nat → Int64) (er op sz : Int32) (a : AS) (hI : ab_I a) (hA : mx_A a go gc gb gd gh op) (hV : mx_V a gn) (r : Nat) (hr : r < 4) (hn1 : a_n a < 160) (tt : Int32) (d : Bool) (vv : Int64) : jw_Mi l D vCl (vTy cB cI cL) y_M_made s_M_made rm_M_made [.ref (am 0), .int (nI r), .int tt, .long vv, .int (jb d)] (wM am cB cI cL go gc gb gd gh gr gt gk gn er op sz) (fun r9 w9 => r9 = nI (a_n a) ∧ ∃ (ko kc kb kd kh : Nat → Int32) (kn : Nat → Int64), w9 = wM am cB cI cL ko kc kb kd kh gr gt gk kn er (nI (a_n a + 1)) sz ∧ mx_A (ab_new a r tt d vv) ko kc kb kd kh (nI (a_n a + 1)) ∧ mx_V (ab_new a r tt d vv) kn) := by
  refine jw_ofi (cc := b_M_made) (nL := 8) (ret := (some .int)) (by decide) rfl (Nat.le_of_ble_eq_true rfl) (fun p e s m args below meth c A F hnm => ?_)
  refine jw_at (lv' := [(0, .ref (am 0)), (1, .int (nI r)), (2, .int tt), (3, .long vv), (5, .int (jb d))]) (st' := []) (ws' := wM am cB cI cL go gc gb gd gh gr gt gk gn er op sz) rfl rfl rfl ?_
  have hop := hA.1
  subst hop
  refine jw_aload_n (pc := 0) F 0 d_M_made_0 rfl rfl ?_
  refine jw_get (pc := 1) F (jms inM) 0 rfl rfl 1 (by decide) (jm w_343) rfl d_M_made_1 ?_
  refine jw_istore (pc := 4) (lv' := [(0, .ref (am 0)), (1, .int (nI r)), (2, .int tt), (3, .long vv), (5, .int (jb d)), (6, .int (nI (a_n a)))]) F d_M_made_4 (by decide) rfl ?_
  refine jw_aload_n (pc := 6) F 0 d_M_made_6 rfl rfl ?_
  refine jw_get (pc := 7) F (jms inM) 0 rfl rfl 3 (by decide) (jm w_345) rfl d_M_made_7 ?_
  refine jw_iload (pc := 10) F 5 d_M_made_10 rfl ?_
  refine jw_aload_n (pc := 12) F 0 d_M_made_12 rfl rfl ?_
  refine jw_iload_n (pc := 13) F 1 d_M_made_13 rfl rfl ?_
  refine jw_callV_Ei (pc := 14) (As := [.int (nI r)]) (rest := [.int (nI (a_n a)), .ref (am 2)]) F ([]) ([]) (m_greatest l D am cB cI cL go gc gb gd gh gr gt gk gn er (nI (a_n a)) sz a hI hA r hr) (jw_cwV F.1.2.2.2.2 wl_good w_414 w_416 w_22 w_30 w_417 hd_M_greatest ⟨by decide, by decide⟩) 0 1 rfl rfl rfl (by simp) rfl rfl (Nat.le_of_ble_eq_true rfl) d_M_made_14 ⟨rfl, rfl⟩ ⟨by decide, by decide⟩ ?_
  refine jw_iconst (pc := 17) (v := 1) F d_M_made_17 (by decide) ?_
  refine jw_iadd (pc := 18) F d_M_made_18 ?_
  rw [nI_1]
  refine jw_iastN (pc := 19) (ws' := wM am cB cI cL go (upd gc (a_n a) (nI (a_gr a r + 1))) gb gd gh gr gt gk gn er (nI (a_n a)) sz) F 2 1 rfl rfl (a_n a) rfl (by omega) (by decide) d_M_made_19 rfl ?_
  refine jw_aload_n (pc := 20) F 0 d_M_made_20 rfl rfl ?_
  refine jw_get (pc := 21) F (jms inM) 0 rfl rfl 4 (by decide) (jm w_346) rfl d_M_made_21 ?_
  refine jw_iload (pc := 24) F 5 d_M_made_24 rfl ?_
  refine jw_iload_n (pc := 26) F 1 d_M_made_26 rfl rfl ?_
  refine jw_iastN (pc := 27) (ws' := wM am cB cI cL go (upd gc (a_n a) (nI (a_gr a r + 1))) (upd gb (a_n a) (nI r)) gd gh gr gt gk gn er (nI (a_n a)) sz) F 3 1 rfl rfl (a_n a) rfl (by omega) (by decide) d_M_made_27 rfl ?_
  refine jw_aload_n (pc := 28) F 0 d_M_made_28 rfl rfl ?_
  refine jw_get (pc := 29) F (jms inM) 0 rfl rfl 2 (by decide) (jm w_344) rfl d_M_made_29 ?_
  refine jw_iload (pc := 32) F 5 d_M_made_32 rfl ?_
  refine jw_iload_n (pc := 34) F 2 d_M_made_34 rfl rfl ?_
  refine jw_iastN (pc := 35) (ws' := wM am cB cI cL (upd go (a_n a) tt) (upd gc (a_n a) (nI (a_gr a r + 1))) (upd gb (a_n a) (nI r)) gd gh gr gt gk gn er (nI (a_n a)) sz) F 1 1 rfl rfl (a_n a) rfl (by omega) (by decide) d_M_made_35 rfl ?_
  refine jw_aload_n (pc := 36) F 0 d_M_made_36 rfl rfl ?_
  refine jw_get (pc := 37) F (jms inM) 0 rfl rfl 5 (by decide) (jm w_347) rfl d_M_made_37 ?_
  refine jw_iload (pc := 40) F 5 d_M_made_40 rfl ?_
  refine jw_lload_n (pc := 42) F 3 d_M_made_42 rfl rfl ?_
  refine jw_lastN (pc := 43) (ws' := wM am cB cI cL (upd go (a_n a) tt) (upd gc (a_n a) (nI (a_gr a r + 1))) (upd gb (a_n a) (nI r)) gd gh gr gt gk (vp_updL gn (a_n a) vv) er (nI (a_n a)) sz) F 4 2 rfl rfl (a_n a) rfl (by omega) (by decide) d_M_made_43 rfl ?_
  refine jw_aload_n (pc := 44) F 0 d_M_made_44 rfl rfl ?_
  refine jw_get (pc := 45) F (jms inM) 0 rfl rfl 6 (by decide) (jm w_348) rfl d_M_made_45 ?_
  refine jw_iload (pc := 48) F 5 d_M_made_48 rfl ?_
  refine jw_iload (pc := 50) F 4 d_M_made_50 rfl ?_
  refine jw_zastN (pc := 52) (ws' := wM am cB cI cL (upd go (a_n a) tt) (upd gc (a_n a) (nI (a_gr a r + 1))) (upd gb (a_n a) (nI r)) (upd gd (a_n a) (vp_nar .boolean (jb d))) gh gr gt gk (vp_updL gn (a_n a) vv) er (nI (a_n a)) sz) F 5 0 rfl rfl (a_n a) rfl (by omega) (by decide) d_M_made_52 rfl ?_
  rw [jb_nar]
  refine jw_iconst (pc := 53) (v := nI 0) F d_M_made_53 (by decide) ?_
  refine jw_istore (pc := 54) (lv' := [(0, .ref (am 0)), (1, .int (nI r)), (2, .int tt), (3, .long vv), (5, .int (jb d)), (6, .int (nI (a_n a))), (7, .int (nI 0))]) F d_M_made_54 (by decide) rfl ?_
  have loop : ∀ (u i : Nat) (h : Nat → Int32), i + u = 4 → (∀ s, s < 4 → ∀ k, k < a_n a → h (160 * s + k) = gh (160 * s + k)) → (∀ s, s < i → h (160 * s + a_n a) = jb (decide (s = r))) → jw_J p l e rm_M_made s m args below meth c D vCl A 8 (MQ below (va_Qi (fun r9 w9 => r9 = nI (a_n a) ∧ ∃ (ko kc kb kd kh : Nat → Int32) (kn : Nat → Int64), w9 = wM am cB cI cL ko kc kb kd kh gr gt gk kn er (nI (a_n a + 1)) sz ∧ mx_A (ab_new a r tt d vv) ko kc kb kd kh (nI (a_n a + 1)) ∧ mx_V (ab_new a r tt d vv) kn) (jw_B D vCl (vTy cB cI cL) A) A) args s rm_M_made.cells rm_M_made.slots A) 0 0 56 [(0, .ref (am 0)), (1, .int (nI r)), (2, .int tt), (3, .long vv), (5, .int (jb d)), (6, .int (nI (a_n a))), (7, .int (nI i))] [] (wM am cB cI cL (upd go (a_n a) tt) (upd gc (a_n a) (nI (a_gr a r + 1))) (upd gb (a_n a) (nI r)) (upd gd (a_n a) (jb d)) h gr gt gk (vp_updL gn (a_n a) vv) er (nI (a_n a)) sz) := by
    intro u
    induction u with
    | zero =>
      intro i h hi h1 h2
      obtain rfl : i = 4 := hi
      refine jw_iload (pc := 56) F 6 d_M_made_56 rfl ?_
      refine jw_iconst (pc := 58) (v := nI 4) F d_M_made_58 (by decide) ?_
      refine jw_icmp_ge (pc := 59) F 93 d_M_made_59 (by decide) (fun hz1 => ?_) (fun hz1 => False.elim (hz1 (by decide)))
      refine jw_aload_n (pc := 93) F 0 d_M_made_93 rfl rfl ?_
      refine jw_dup (pc := 94) F d_M_made_94 rfl ?_
      refine jw_get (pc := 95) F (jms inM) 0 rfl rfl 1 (by decide) (jm w_343) rfl d_M_made_95 ?_
      refine jw_iconst (pc := 98) (v := 1) F d_M_made_98 (by decide) ?_
      refine jw_iadd (pc := 99) F d_M_made_99 ?_
      rw [nI_1]
      refine jw_put (pc := 100) (v := .int (nI (a_n a + 1))) (ty := .int) (ws' := wM am cB cI cL (upd go (a_n a) tt) (upd gc (a_n a) (nI (a_gr a r + 1))) (upd gb (a_n a) (nI r)) (upd gd (a_n a) (jb d)) h gr gt gk (vp_updL gn (a_n a) vv) er (nI (a_n a + 1)) sz) F (jms inM) tM tM_ok nmM 0 rfl rfl 1 (by decide) (jm w_343) rfl (by decide +kernel) rfl rfl (Nat.le_of_ble_eq_true rfl) d_M_made_100 rfl ?_
      refine jw_iload (pc := 103) F 5 d_M_made_103 rfl ?_
      exact jw_iret F d_M_made_105 ⟨rfl, _, _, _, _, _, _, rfl, mx_new hI hA h1 h2, mx_V_new hV⟩
    | succ u ih =>
      intro i h hi h1 h2
      refine jw_iload (pc := 56) F 6 d_M_made_56 rfl ?_
      refine jw_iconst (pc := 58) (v := nI 4) F d_M_made_58 (by decide) ?_
      refine jw_icmp_ge (pc := 59) F 93 d_M_made_59 (by decide) (fun hz2 => False.elim (nI_ge (show i < 4 by omega) (by decide) hz2)) (fun hz2 => ?_)
      refine jw_aload_n (pc := 62) F 0 d_M_made_62 rfl rfl ?_
      refine jw_get (pc := 63) F (jms inM) 0 rfl rfl 7 (by decide) (jm w_349) rfl d_M_made_63 ?_
      refine jw_sipush (pc := 66) (v := nI 160) F d_M_made_66 (by decide) ?_
      refine jw_iload (pc := 69) F 6 d_M_made_69 rfl ?_
      refine jw_imul (pc := 71) F d_M_made_71 ?_
      rw [pk_mul]
      refine jw_iload (pc := 72) F 5 d_M_made_72 rfl ?_
      refine jw_iadd (pc := 74) F d_M_made_74 ?_
      rw [nI_add]
      refine jw_iload (pc := 75) F 6 d_M_made_75 rfl ?_
      refine jw_iload_n (pc := 77) F 1 d_M_made_77 rfl rfl ?_
      refine jw_icmp_ne (pc := 78) F 85 d_M_made_78 (by decide) (fun h3 => ?_) (fun h3 => ?_)
      · refine jw_iconst (pc := 85) (v := 0) F d_M_made_85 (by decide) ?_
        refine jw_zastN (pc := 86) (ws' := wM am cB cI cL (upd go (a_n a) tt) (upd gc (a_n a) (nI (a_gr a r + 1))) (upd gb (a_n a) (nI r)) (upd gd (a_n a) (jb d)) (upd h (160 * i + (a_n a)) (vp_nar .boolean 0)) gr gt gk (vp_updL gn (a_n a) vv) er (nI (a_n a)) sz) F 6 0 rfl rfl (160 * i + (a_n a)) rfl (by omega) (by decide) d_M_made_86 rfl ?_
        rw [show vp_nar .boolean 0 = 0 by decide]
        refine jw_iinc (pc := 87) (v := nI (i + 1)) (lv' := [(0, .ref (am 0)), (1, .int (nI r)), (2, .int tt), (3, .long vv), (5, .int (jb d)), (6, .int (nI (a_n a))), (7, .int (nI (i + 1)))]) F 6 d_M_made_87 rfl (jw_inc _) (by decide) rfl ?_
        refine jw_goto (pc := 90) F 56 d_M_made_90 (by decide) ?_
        refine ih (i + 1) _ (by omega) (fun s hs k hk => by rw [pk_un (by omega)]; exact h1 s hs k hk) (fun s hs => ?_)
        by_cases e1 : s = i
        · subst e1; rw [pk_us, decide_eq_false (fun q => h3 (by rw [q]))]; rfl
        · rw [pk_un (by omega)]; exact h2 s (by omega)
      · refine jw_iconst (pc := 81) (v := 1) F d_M_made_81 (by decide) ?_
        refine jw_goto (pc := 82) F 86 d_M_made_82 (by decide) ?_
        refine jw_zastN (pc := 86) (ws' := wM am cB cI cL (upd go (a_n a) tt) (upd gc (a_n a) (nI (a_gr a r + 1))) (upd gb (a_n a) (nI r)) (upd gd (a_n a) (jb d)) (upd h (160 * i + (a_n a)) (vp_nar .boolean 1)) gr gt gk (vp_updL gn (a_n a) vv) er (nI (a_n a)) sz) F 6 0 rfl rfl (160 * i + (a_n a)) rfl (by omega) (by decide) d_M_made_86 rfl ?_
        rw [show vp_nar .boolean 1 = 1 by decide]
        refine jw_iinc (pc := 87) (v := nI (i + 1)) (lv' := [(0, .ref (am 0)), (1, .int (nI r)), (2, .int tt), (3, .long vv), (5, .int (jb d)), (6, .int (nI (a_n a))), (7, .int (nI (i + 1)))]) F 6 d_M_made_87 rfl (jw_inc _) (by decide) rfl ?_
        refine jw_goto (pc := 90) F 56 d_M_made_90 (by decide) ?_
        refine ih (i + 1) _ (by omega) (fun s hs k hk => by rw [pk_un (by omega)]; exact h1 s hs k hk) (fun s hs => ?_)
        by_cases e1 : s = i
        · subst e1; rw [pk_us, decide_eq_true (ab_nI_inj (by omega) (by omega) h3)]; rfl
        · rw [pk_un (by omega)]; exact h2 s (by omega)
  exact loop 4 0 gh rfl (fun _ _ _ _ => rfl) (fun s hs => absurd hs (Nat.not_lt_zero s))
set_option maxHeartbeats 4000000 in
set_option maxRecDepth 100000 in
theorem m_insert_1 (l : Launch) (D : va_G) (am : Nat → Nat) (cB cI cL : ClassId) (go gc gb gd gh gr gt gk : Nat → Int32) (gn : Nat → Int64) (er op sz : Int32) (a : AS) (hQ : mx_R a go gc gb gd gh gn op) (r : Int32) (hr : a_isrep r = false) (tt : Int32) (vv : Int64) : jw_Mi l D vCl (vTy cB cI cL) y_M_insert s_M_insert rm_M_insert [.ref (am 0), .int r, .int tt, .long vv] (wM am cB cI cL go gc gb gd gh gr gt gk gn er op sz) (fun r9 w9 => r9 = 0 ∧ w9 = wM am cB cI cL go gc gb gd gh gr gt gk gn 1 op sz) := by
  refine jw_ofi (cc := b_M_insert) (nL := 5) (ret := (some .int)) (by decide) rfl (Nat.le_of_ble_eq_true rfl) (fun p e s m args below meth c A F hnm => ?_)
  refine jw_at (lv' := [(0, .ref (am 0)), (1, .int r), (2, .int tt), (3, .long vv)]) (st' := []) (ws' := wM am cB cI cL go gc gb gd gh gr gt gk gn er op sz) rfl rfl rfl ?_
  refine jw_aload_n (pc := 0) F 0 d_M_insert_0 rfl rfl ?_
  refine jw_iconst (pc := 1) (v := 0) F d_M_insert_1 (by decide) ?_
  refine jw_put (pc := 2) (v := .int 0) (ty := .int) (ws' := wM am cB cI cL go gc gb gd gh gr gt gk gn 0 op sz) F (jms inM) tM tM_ok nmM 0 rfl rfl 0 (by decide) (jm w_342) rfl (by decide +kernel) rfl rfl (Nat.le_of_ble_eq_true rfl) d_M_insert_2 rfl ?_
  refine jw_aload_n (pc := 5) F 0 d_M_insert_5 rfl rfl ?_
  refine jw_iload_n (pc := 6) F 1 d_M_insert_6 rfl rfl ?_
  refine jw_callS_Ei (pc := 7) (As := [.int r]) (rest := [.ref (am 0)]) F (m_isReplica l D cB cI cL r) (jw_cwS F.1.2.2.2.2 wl_good w_387 w_388 w_30 w_389 hd_M_isReplica ⟨by decide, by decide⟩) rfl rfl (Nat.le_of_ble_eq_true rfl) d_M_insert_7 ⟨rfl, rfl⟩ ⟨by decide, by decide⟩ ?_
  refine jw_if_ne (pc := 10) F 17 d_M_insert_10 (by decide) (fun hz1 => False.elim (absurd (jb_n.mp hz1) (by rw [hr]; decide))) (fun hz1 => ?_)
  refine jw_iconst (pc := 13) (v := 1) F d_M_insert_13 (by decide) ?_
  refine jw_goto (pc := 14) F 18 d_M_insert_14 (by decide) ?_
  refine jw_iconst (pc := 18) (v := 1) F d_M_insert_18 (by decide) ?_
  refine jw_callV_Ci (pc := 19) (As := [.int 1, .int 1]) (rest := []) F (m_failsT l D am cB cI cL go gc gb gd gh gr gt gk gn op sz true rfl 1 (by decide)) (jw_cwV F.1.2.2.2.2 wl_good w_394 w_396 w_17 w_30 w_397 hd_M_fails ⟨by decide, by decide⟩) 0 1 rfl rfl rfl rfl rfl rfl (Nat.le_of_ble_eq_true rfl) d_M_insert_19 ⟨rfl, rfl⟩ ⟨by decide, by decide⟩ (fun r w hw => ?_)
  obtain ⟨rfl, rfl⟩ := hw
  refine jw_if_ne (pc := 22) F 75 d_M_insert_22 (by decide) (fun hz2 => ?_) (fun hz2 => False.elim (absurd hz2 (by decide)))
  refine jw_iconst (pc := 75) (v := 0) F d_M_insert_75 (by decide) ?_
  exact jw_iret F d_M_insert_76 ⟨rfl, rfl⟩
set_option maxHeartbeats 4000000 in
set_option maxRecDepth 100000 in
theorem m_insert_2 (l : Launch) (D : va_G) (am : Nat → Nat) (cB cI cL : ClassId) (go gc gb gd gh gr gt gk : Nat → Int32) (gn : Nat → Int64) (er op sz : Int32) (a : AS) (hQ : mx_R a go gc gb gd gh gn op) (r : Nat) (hr : r < 4) (hn1 : a_n a = 160) (tt : Int32) (vv : Int64) : jw_Mi l D vCl (vTy cB cI cL) y_M_insert s_M_insert rm_M_insert [.ref (am 0), .int (nI r), .int tt, .long vv] (wM am cB cI cL go gc gb gd gh gr gt gk gn er op sz) (fun r9 w9 => r9 = 0 ∧ w9 = wM am cB cI cL go gc gb gd gh gr gt gk gn 2 op sz) := by
  refine jw_ofi (cc := b_M_insert) (nL := 5) (ret := (some .int)) (by decide) rfl (Nat.le_of_ble_eq_true rfl) (fun p e s m args below meth c A F hnm => ?_)
  refine jw_at (lv' := [(0, .ref (am 0)), (1, .int (nI r)), (2, .int tt), (3, .long vv)]) (st' := []) (ws' := wM am cB cI cL go gc gb gd gh gr gt gk gn er op sz) rfl rfl rfl ?_
  obtain ⟨hI, hA, hV⟩ := hQ
  have hn := hI.1
  refine jw_aload_n (pc := 0) F 0 d_M_insert_0 rfl rfl ?_
  refine jw_iconst (pc := 1) (v := 0) F d_M_insert_1 (by decide) ?_
  refine jw_put (pc := 2) (v := .int 0) (ty := .int) (ws' := wM am cB cI cL go gc gb gd gh gr gt gk gn 0 op sz) F (jms inM) tM tM_ok nmM 0 rfl rfl 0 (by decide) (jm w_342) rfl (by decide +kernel) rfl rfl (Nat.le_of_ble_eq_true rfl) d_M_insert_2 rfl ?_
  refine jw_aload_n (pc := 5) F 0 d_M_insert_5 rfl rfl ?_
  refine jw_iload_n (pc := 6) F 1 d_M_insert_6 rfl rfl ?_
  refine jw_callS_Ei (pc := 7) (As := [.int (nI r)]) (rest := [.ref (am 0)]) F (m_isReplica l D cB cI cL (nI r)) (jw_cwS F.1.2.2.2.2 wl_good w_387 w_388 w_30 w_389 hd_M_isReplica ⟨by decide, by decide⟩) rfl rfl (Nat.le_of_ble_eq_true rfl) d_M_insert_7 ⟨rfl, rfl⟩ ⟨by decide, by decide⟩ ?_
  refine jw_if_ne (pc := 10) F 17 d_M_insert_10 (by decide) (fun hz1 => ?_) (fun hz1 => False.elim (absurd (jb_0.mp hz1) (by rw [m_isrep_nI hr]; decide)))
  refine jw_iconst (pc := 17) (v := 0) F d_M_insert_17 (by decide) ?_
  refine jw_iconst (pc := 18) (v := 1) F d_M_insert_18 (by decide) ?_
  refine jw_callV_Ei (pc := 19) (As := [.int 0, .int 1]) (rest := []) F ([]) ([]) (m_failsF l D am cB cI cL go gc gb gd gh gr gt gk gn op sz false rfl 1) (jw_cwV F.1.2.2.2.2 wl_good w_394 w_396 w_17 w_30 w_397 hd_M_fails ⟨by decide, by decide⟩) 0 1 rfl rfl rfl (by simp) rfl rfl (Nat.le_of_ble_eq_true rfl) d_M_insert_19 ⟨rfl, rfl⟩ ⟨by decide, by decide⟩ ?_
  refine jw_if_ne (pc := 22) F 75 d_M_insert_22 (by decide) (fun hz2 => False.elim (hz2 rfl)) (fun hz2 => ?_)
  refine jw_aload_n (pc := 25) F 0 d_M_insert_25 rfl rfl ?_
  refine jw_aload_n (pc := 26) F 0 d_M_insert_26 rfl rfl ?_
  refine jw_get (pc := 27) F (jms inM) 0 rfl rfl 1 (by decide) (jm w_343) rfl d_M_insert_27 ?_
  refine jw_sipush (pc := 30) (v := 160) F d_M_insert_30 (by decide) ?_
  refine jw_icmp_ne (pc := 33) F 40 d_M_insert_33 (by decide) (fun hz3 => False.elim (hz3 (by rw [hA.1, hn1]; decide))) (fun hz3 => ?_)
  refine jw_iconst (pc := 36) (v := 1) F d_M_insert_36 (by decide) ?_
  refine jw_goto (pc := 37) F 41 d_M_insert_37 (by decide) ?_
  refine jw_iconst (pc := 41) (v := 2) F d_M_insert_41 (by decide) ?_
  refine jw_callV_Ci (pc := 42) (As := [.int 1, .int 2]) (rest := []) F (m_failsT l D am cB cI cL go gc gb gd gh gr gt gk gn op sz true rfl 2 (by decide)) (jw_cwV F.1.2.2.2.2 wl_good w_394 w_396 w_17 w_30 w_397 hd_M_fails ⟨by decide, by decide⟩) 0 1 rfl rfl rfl rfl rfl rfl (Nat.le_of_ble_eq_true rfl) d_M_insert_42 ⟨rfl, rfl⟩ ⟨by decide, by decide⟩ (fun r w hw => ?_)
  obtain ⟨rfl, rfl⟩ := hw
  refine jw_if_ne (pc := 45) F 75 d_M_insert_45 (by decide) (fun hz4 => ?_) (fun hz4 => False.elim (absurd hz4 (by decide)))
  refine jw_iconst (pc := 75) (v := 0) F d_M_insert_75 (by decide) ?_
  exact jw_iret F d_M_insert_76 ⟨rfl, rfl⟩
set_option maxHeartbeats 4000000 in
set_option maxRecDepth 100000 in
theorem m_insert_3 (l : Launch) (D : va_G) (am : Nat → Nat) (cB cI cL : ClassId) (go gc gb gd gh gr gt gk : Nat → Int32) (gn : Nat → Int64) (er op sz : Int32) (a : AS) (hQ : mx_R a go gc gb gd gh gn op) (r : Nat) (hr : r < 4) (hn1 : a_n a < 160) (tt : Int32) (vv : Int64) (ht : ¬ tt = -1) (hh : a_haseB a r tt = false) : jw_Mi l D vCl (vTy cB cI cL) y_M_insert s_M_insert rm_M_insert [.ref (am 0), .int (nI r), .int tt, .long vv] (wM am cB cI cL go gc gb gd gh gr gt gk gn er op sz) (fun r9 w9 => r9 = 0 ∧ w9 = wM am cB cI cL go gc gb gd gh gr gt gk gn 3 op sz) := by
  refine jw_ofi (cc := b_M_insert) (nL := 5) (ret := (some .int)) (by decide) rfl (Nat.le_of_ble_eq_true rfl) (fun p e s m args below meth c A F hnm => ?_)
  refine jw_at (lv' := [(0, .ref (am 0)), (1, .int (nI r)), (2, .int tt), (3, .long vv)]) (st' := []) (ws' := wM am cB cI cL go gc gb gd gh gr gt gk gn er op sz) rfl rfl rfl ?_
  obtain ⟨hI, hA, hV⟩ := hQ
  have hn := hI.1
  refine jw_aload_n (pc := 0) F 0 d_M_insert_0 rfl rfl ?_
  refine jw_iconst (pc := 1) (v := 0) F d_M_insert_1 (by decide) ?_
  refine jw_put (pc := 2) (v := .int 0) (ty := .int) (ws' := wM am cB cI cL go gc gb gd gh gr gt gk gn 0 op sz) F (jms inM) tM tM_ok nmM 0 rfl rfl 0 (by decide) (jm w_342) rfl (by decide +kernel) rfl rfl (Nat.le_of_ble_eq_true rfl) d_M_insert_2 rfl ?_
  refine jw_aload_n (pc := 5) F 0 d_M_insert_5 rfl rfl ?_
  refine jw_iload_n (pc := 6) F 1 d_M_insert_6 rfl rfl ?_
  refine jw_callS_Ei (pc := 7) (As := [.int (nI r)]) (rest := [.ref (am 0)]) F (m_isReplica l D cB cI cL (nI r)) (jw_cwS F.1.2.2.2.2 wl_good w_387 w_388 w_30 w_389 hd_M_isReplica ⟨by decide, by decide⟩) rfl rfl (Nat.le_of_ble_eq_true rfl) d_M_insert_7 ⟨rfl, rfl⟩ ⟨by decide, by decide⟩ ?_
  refine jw_if_ne (pc := 10) F 17 d_M_insert_10 (by decide) (fun hz1 => ?_) (fun hz1 => False.elim (absurd (jb_0.mp hz1) (by rw [m_isrep_nI hr]; decide)))
  refine jw_iconst (pc := 17) (v := 0) F d_M_insert_17 (by decide) ?_
  refine jw_iconst (pc := 18) (v := 1) F d_M_insert_18 (by decide) ?_
  refine jw_callV_Ei (pc := 19) (As := [.int 0, .int 1]) (rest := []) F ([]) ([]) (m_failsF l D am cB cI cL go gc gb gd gh gr gt gk gn op sz false rfl 1) (jw_cwV F.1.2.2.2.2 wl_good w_394 w_396 w_17 w_30 w_397 hd_M_fails ⟨by decide, by decide⟩) 0 1 rfl rfl rfl (by simp) rfl rfl (Nat.le_of_ble_eq_true rfl) d_M_insert_19 ⟨rfl, rfl⟩ ⟨by decide, by decide⟩ ?_
  refine jw_if_ne (pc := 22) F 75 d_M_insert_22 (by decide) (fun hz2 => False.elim (hz2 rfl)) (fun hz2 => ?_)
  refine jw_aload_n (pc := 25) F 0 d_M_insert_25 rfl rfl ?_
  refine jw_aload_n (pc := 26) F 0 d_M_insert_26 rfl rfl ?_
  refine jw_get (pc := 27) F (jms inM) 0 rfl rfl 1 (by decide) (jm w_343) rfl d_M_insert_27 ?_
  refine jw_sipush (pc := 30) (v := 160) F d_M_insert_30 (by decide) ?_
  refine jw_icmp_ne (pc := 33) F 40 d_M_insert_33 (by decide) (fun hz3 => ?_) (fun hz3 => False.elim (absurd (hz3) (by rw [hA.1]; exact fun q => absurd (ab_nI_inj (by omega) (by omega) (q.trans (show (160 : Int32) = nI 160 by decide))) (by omega))))
  refine jw_iconst (pc := 40) (v := 0) F d_M_insert_40 (by decide) ?_
  refine jw_iconst (pc := 41) (v := 2) F d_M_insert_41 (by decide) ?_
  refine jw_callV_Ei (pc := 42) (As := [.int 0, .int 2]) (rest := []) F ([]) ([]) (m_failsF l D am cB cI cL go gc gb gd gh gr gt gk gn op sz false rfl 2) (jw_cwV F.1.2.2.2.2 wl_good w_394 w_396 w_17 w_30 w_397 hd_M_fails ⟨by decide, by decide⟩) 0 1 rfl rfl rfl (by simp) rfl rfl (Nat.le_of_ble_eq_true rfl) d_M_insert_42 ⟨rfl, rfl⟩ ⟨by decide, by decide⟩ ?_
  refine jw_if_ne (pc := 45) F 75 d_M_insert_45 (by decide) (fun hz4 => False.elim (hz4 rfl)) (fun hz4 => ?_)
  refine jw_aload_n (pc := 48) F 0 d_M_insert_48 rfl rfl ?_
  refine jw_iload_n (pc := 49) F 2 d_M_insert_49 rfl rfl ?_
  refine jw_iconst (pc := 50) (v := -1) F d_M_insert_50 (by decide) ?_
  refine jw_icmp_eq (pc := 51) F 67 d_M_insert_51 (by decide) (fun hz5 => False.elim (ht hz5)) (fun hz5 => ?_)
  refine jw_aload_n (pc := 54) F 0 d_M_insert_54 rfl rfl ?_
  refine jw_iload_n (pc := 55) F 1 d_M_insert_55 rfl rfl ?_
  refine jw_iload_n (pc := 56) F 2 d_M_insert_56 rfl rfl ?_
  refine jw_callV_Ei (pc := 57) (As := [.int (nI r), .int tt]) (rest := [.ref (am 0)]) F ([]) ([]) (m_hasElement l D am cB cI cL go gc gb gd gh gr gt gk gn 0 op sz a hI hA r hr tt) (jw_cwV F.1.2.2.2.2 wl_good w_398 w_400 w_18 w_30 w_401 hd_M_hasElement ⟨by decide, by decide⟩) 0 1 rfl rfl rfl (by simp) rfl rfl (Nat.le_of_ble_eq_true rfl) d_M_insert_57 ⟨rfl, rfl⟩ ⟨by decide, by decide⟩ ?_
  refine jw_if_ne (pc := 60) F 67 d_M_insert_60 (by decide) (fun hz6 => False.elim (absurd (jb_n.mp hz6) (by rw [hh]; decide))) (fun hz6 => ?_)
  refine jw_iconst (pc := 63) (v := 1) F d_M_insert_63 (by decide) ?_
  refine jw_goto (pc := 64) F 68 d_M_insert_64 (by decide) ?_
  refine jw_iconst (pc := 68) (v := 3) F d_M_insert_68 (by decide) ?_
  refine jw_callV_Ci (pc := 69) (As := [.int 1, .int 3]) (rest := []) F (m_failsT l D am cB cI cL go gc gb gd gh gr gt gk gn op sz true rfl 3 (by decide)) (jw_cwV F.1.2.2.2.2 wl_good w_394 w_396 w_17 w_30 w_397 hd_M_fails ⟨by decide, by decide⟩) 0 1 rfl rfl rfl rfl rfl rfl (Nat.le_of_ble_eq_true rfl) d_M_insert_69 ⟨rfl, rfl⟩ ⟨by decide, by decide⟩ (fun r w hw => ?_)
  obtain ⟨rfl, rfl⟩ := hw
  refine jw_if_eq (pc := 72) F 77 d_M_insert_72 (by decide) (fun hz7 => False.elim (absurd hz7 (by decide))) (fun hz7 => ?_)
  refine jw_iconst (pc := 75) (v := 0) F d_M_insert_75 (by decide) ?_
  exact jw_iret F d_M_insert_76 ⟨rfl, rfl⟩
set_option maxHeartbeats 4000000 in
set_option maxRecDepth 100000 in
theorem m_insert_0 (l : Launch) (D : va_G) (am : Nat → Nat) (cB cI cL : ClassId) (go gc gb gd gh gr gt gk : Nat → Int32) (gn : Nat → Int64) (er op sz : Int32) (a : AS) (hQ : mx_R a go gc gb gd gh gn op) (r : Nat) (hr : r < 4) (hn1 : a_n a < 160) (tt : Int32) (vv : Int64) (ht : ab_ok a r tt false) : jw_Mi l D vCl (vTy cB cI cL) y_M_insert s_M_insert rm_M_insert [.ref (am 0), .int (nI r), .int tt, .long vv] (wM am cB cI cL go gc gb gd gh gr gt gk gn er op sz) (fun r9 w9 => r9 = nI (a_n a) ∧ ∃ (ko kc kb kd kh : Nat → Int32) (kn : Nat → Int64) (ko2 : Int32), w9 = wM am cB cI cL ko kc kb kd kh gr gt gk kn 0 ko2 sz ∧ mx_R (ab_new a r tt false vv) ko kc kb kd kh kn ko2) := by
  refine jw_ofi (cc := b_M_insert) (nL := 5) (ret := (some .int)) (by decide) rfl (Nat.le_of_ble_eq_true rfl) (fun p e s m args below meth c A F hnm => ?_)
  refine jw_at (lv' := [(0, .ref (am 0)), (1, .int (nI r)), (2, .int tt), (3, .long vv)]) (st' := []) (ws' := wM am cB cI cL go gc gb gd gh gr gt gk gn er op sz) rfl rfl rfl ?_
  obtain ⟨hI, hA, hV⟩ := hQ
  have hn := hI.1
  refine jw_aload_n (pc := 0) F 0 d_M_insert_0 rfl rfl ?_
  refine jw_iconst (pc := 1) (v := 0) F d_M_insert_1 (by decide) ?_
  refine jw_put (pc := 2) (v := .int 0) (ty := .int) (ws' := wM am cB cI cL go gc gb gd gh gr gt gk gn 0 op sz) F (jms inM) tM tM_ok nmM 0 rfl rfl 0 (by decide) (jm w_342) rfl (by decide +kernel) rfl rfl (Nat.le_of_ble_eq_true rfl) d_M_insert_2 rfl ?_
  refine jw_aload_n (pc := 5) F 0 d_M_insert_5 rfl rfl ?_
  refine jw_iload_n (pc := 6) F 1 d_M_insert_6 rfl rfl ?_
  refine jw_callS_Ei (pc := 7) (As := [.int (nI r)]) (rest := [.ref (am 0)]) F (m_isReplica l D cB cI cL (nI r)) (jw_cwS F.1.2.2.2.2 wl_good w_387 w_388 w_30 w_389 hd_M_isReplica ⟨by decide, by decide⟩) rfl rfl (Nat.le_of_ble_eq_true rfl) d_M_insert_7 ⟨rfl, rfl⟩ ⟨by decide, by decide⟩ ?_
  refine jw_if_ne (pc := 10) F 17 d_M_insert_10 (by decide) (fun hz1 => ?_) (fun hz1 => False.elim (absurd (jb_0.mp hz1) (by rw [m_isrep_nI hr]; decide)))
  refine jw_iconst (pc := 17) (v := 0) F d_M_insert_17 (by decide) ?_
  refine jw_iconst (pc := 18) (v := 1) F d_M_insert_18 (by decide) ?_
  refine jw_callV_Ei (pc := 19) (As := [.int 0, .int 1]) (rest := []) F ([]) ([]) (m_failsF l D am cB cI cL go gc gb gd gh gr gt gk gn op sz false rfl 1) (jw_cwV F.1.2.2.2.2 wl_good w_394 w_396 w_17 w_30 w_397 hd_M_fails ⟨by decide, by decide⟩) 0 1 rfl rfl rfl (by simp) rfl rfl (Nat.le_of_ble_eq_true rfl) d_M_insert_19 ⟨rfl, rfl⟩ ⟨by decide, by decide⟩ ?_
  refine jw_if_ne (pc := 22) F 75 d_M_insert_22 (by decide) (fun hz2 => False.elim (hz2 rfl)) (fun hz2 => ?_)
  refine jw_aload_n (pc := 25) F 0 d_M_insert_25 rfl rfl ?_
  refine jw_aload_n (pc := 26) F 0 d_M_insert_26 rfl rfl ?_
  refine jw_get (pc := 27) F (jms inM) 0 rfl rfl 1 (by decide) (jm w_343) rfl d_M_insert_27 ?_
  refine jw_sipush (pc := 30) (v := 160) F d_M_insert_30 (by decide) ?_
  refine jw_icmp_ne (pc := 33) F 40 d_M_insert_33 (by decide) (fun hz3 => ?_) (fun hz3 => False.elim (absurd (hz3) (by rw [hA.1]; exact fun q => absurd (ab_nI_inj (by omega) (by omega) (q.trans (show (160 : Int32) = nI 160 by decide))) (by omega))))
  refine jw_iconst (pc := 40) (v := 0) F d_M_insert_40 (by decide) ?_
  refine jw_iconst (pc := 41) (v := 2) F d_M_insert_41 (by decide) ?_
  refine jw_callV_Ei (pc := 42) (As := [.int 0, .int 2]) (rest := []) F ([]) ([]) (m_failsF l D am cB cI cL go gc gb gd gh gr gt gk gn op sz false rfl 2) (jw_cwV F.1.2.2.2.2 wl_good w_394 w_396 w_17 w_30 w_397 hd_M_fails ⟨by decide, by decide⟩) 0 1 rfl rfl rfl (by simp) rfl rfl (Nat.le_of_ble_eq_true rfl) d_M_insert_42 ⟨rfl, rfl⟩ ⟨by decide, by decide⟩ ?_
  refine jw_if_ne (pc := 45) F 75 d_M_insert_45 (by decide) (fun hz4 => False.elim (hz4 rfl)) (fun hz4 => ?_)
  refine jw_aload_n (pc := 48) F 0 d_M_insert_48 rfl rfl ?_
  refine jw_iload_n (pc := 49) F 2 d_M_insert_49 rfl rfl ?_
  refine jw_iconst (pc := 50) (v := -1) F d_M_insert_50 (by decide) ?_
  refine jw_icmp_eq (pc := 51) F 67 d_M_insert_51 (by decide) (fun h1 => ?_) (fun h1 => ?_)
  · refine jw_iconst (pc := 67) (v := 0) F d_M_insert_67 (by decide) ?_
    refine jw_iconst (pc := 68) (v := 3) F d_M_insert_68 (by decide) ?_
    refine jw_callV_Ei (pc := 69) (As := [.int 0, .int 3]) (rest := []) F ([]) ([]) (m_failsF l D am cB cI cL go gc gb gd gh gr gt gk gn op sz false rfl 3) (jw_cwV F.1.2.2.2.2 wl_good w_394 w_396 w_17 w_30 w_397 hd_M_fails ⟨by decide, by decide⟩) 0 1 rfl rfl rfl (by simp) rfl rfl (Nat.le_of_ble_eq_true rfl) d_M_insert_69 ⟨rfl, rfl⟩ ⟨by decide, by decide⟩ ?_
    refine jw_if_eq (pc := 72) F 77 d_M_insert_72 (by decide) (fun hz5 => ?_) (fun hz5 => False.elim (hz5 rfl))
    refine jw_aload_n (pc := 77) F 0 d_M_insert_77 rfl rfl ?_
    refine jw_iload_n (pc := 78) F 1 d_M_insert_78 rfl rfl ?_
    refine jw_iload_n (pc := 79) F 2 d_M_insert_79 rfl rfl ?_
    refine jw_lload_n (pc := 80) F 3 d_M_insert_80 rfl rfl ?_
    refine jw_iconst (pc := 81) (v := jb false) F d_M_insert_81 (by decide) ?_
    refine jw_callV_Ci (pc := 82) (As := [.int (nI r), .int tt, .long vv, .int (jb false)]) (rest := []) F (m_made l D am cB cI cL go gc gb gd gh gr gt gk gn 0 op sz a hI hA hV r hr hn1 tt false vv) (jw_cwV F.1.2.2.2.2 wl_good w_410 w_412 w_21 w_30 w_413 hd_M_made ⟨by decide, by decide⟩) 0 1 rfl rfl rfl rfl rfl rfl (Nat.le_of_ble_eq_true rfl) d_M_insert_82 ⟨rfl, rfl⟩ ⟨by decide, by decide⟩ (fun r w hw => ?_)
    obtain ⟨rfl, ko, kc, kb, kd, kh, kn, rfl, hA2, hV2⟩ := hw
    exact jw_iret F d_M_insert_85 ⟨rfl, _, _, _, _, _, _, _, rfl, ab_I_new hI hn1 hr ht, hA2, hV2⟩
  · refine jw_aload_n (pc := 54) F 0 d_M_insert_54 rfl rfl ?_
    refine jw_iload_n (pc := 55) F 1 d_M_insert_55 rfl rfl ?_
    refine jw_iload_n (pc := 56) F 2 d_M_insert_56 rfl rfl ?_
    refine jw_callV_Ei (pc := 57) (As := [.int (nI r), .int tt]) (rest := [.ref (am 0)]) F ([]) ([]) (m_hasElement l D am cB cI cL go gc gb gd gh gr gt gk gn 0 op sz a hI hA r hr tt) (jw_cwV F.1.2.2.2.2 wl_good w_398 w_400 w_18 w_30 w_401 hd_M_hasElement ⟨by decide, by decide⟩) 0 1 rfl rfl rfl (by simp) rfl rfl (Nat.le_of_ble_eq_true rfl) d_M_insert_57 ⟨rfl, rfl⟩ ⟨by decide, by decide⟩ ?_
    refine jw_if_ne (pc := 60) F 67 d_M_insert_60 (by decide) (fun hz6 => ?_) (fun hz6 => False.elim (absurd (jb_0.mp hz6) (by rw [ab_ok_hase hn ht h1]; decide)))
    refine jw_iconst (pc := 67) (v := 0) F d_M_insert_67 (by decide) ?_
    refine jw_iconst (pc := 68) (v := 3) F d_M_insert_68 (by decide) ?_
    refine jw_callV_Ei (pc := 69) (As := [.int 0, .int 3]) (rest := []) F ([]) ([]) (m_failsF l D am cB cI cL go gc gb gd gh gr gt gk gn op sz false rfl 3) (jw_cwV F.1.2.2.2.2 wl_good w_394 w_396 w_17 w_30 w_397 hd_M_fails ⟨by decide, by decide⟩) 0 1 rfl rfl rfl (by simp) rfl rfl (Nat.le_of_ble_eq_true rfl) d_M_insert_69 ⟨rfl, rfl⟩ ⟨by decide, by decide⟩ ?_
    refine jw_if_eq (pc := 72) F 77 d_M_insert_72 (by decide) (fun hz7 => ?_) (fun hz7 => False.elim (hz7 rfl))
    refine jw_aload_n (pc := 77) F 0 d_M_insert_77 rfl rfl ?_
    refine jw_iload_n (pc := 78) F 1 d_M_insert_78 rfl rfl ?_
    refine jw_iload_n (pc := 79) F 2 d_M_insert_79 rfl rfl ?_
    refine jw_lload_n (pc := 80) F 3 d_M_insert_80 rfl rfl ?_
    refine jw_iconst (pc := 81) (v := jb false) F d_M_insert_81 (by decide) ?_
    refine jw_callV_Ci (pc := 82) (As := [.int (nI r), .int tt, .long vv, .int (jb false)]) (rest := []) F (m_made l D am cB cI cL go gc gb gd gh gr gt gk gn 0 op sz a hI hA hV r hr hn1 tt false vv) (jw_cwV F.1.2.2.2.2 wl_good w_410 w_412 w_21 w_30 w_413 hd_M_made ⟨by decide, by decide⟩) 0 1 rfl rfl rfl rfl rfl rfl (Nat.le_of_ble_eq_true rfl) d_M_insert_82 ⟨rfl, rfl⟩ ⟨by decide, by decide⟩ (fun r w hw => ?_)
    obtain ⟨rfl, ko, kc, kb, kd, kh, kn, rfl, hA2, hV2⟩ := hw
    exact jw_iret F d_M_insert_85 ⟨rfl, _, _, _, _, _, _, _, rfl, ab_I_new hI hn1 hr ht, hA2, hV2⟩
set_option maxHeartbeats 4000000 in
set_option maxRecDepth 100000 in
theorem m_delete_1 (l : Launch) (D : va_G) (am : Nat → Nat) (cB cI cL : ClassId) (go gc gb gd gh gr gt gk : Nat → Int32) (gn : Nat → Int64) (er op sz : Int32) (a : AS) (hQ : mx_R a go gc gb gd gh gn op) (r : Int32) (hr : a_isrep r = false) (tt : Int32) : jw_Mi l D vCl (vTy cB cI cL) y_M_delete s_M_delete rm_M_delete [.ref (am 0), .int r, .int tt] (wM am cB cI cL go gc gb gd gh gr gt gk gn er op sz) (fun r9 w9 => r9 = 0 ∧ w9 = wM am cB cI cL go gc gb gd gh gr gt gk gn 1 op sz) := by
  refine jw_ofi (cc := b_M_delete) (nL := 3) (ret := (some .int)) (by decide) rfl (Nat.le_of_ble_eq_true rfl) (fun p e s m args below meth c A F hnm => ?_)
  refine jw_at (lv' := [(0, .ref (am 0)), (1, .int r), (2, .int tt)]) (st' := []) (ws' := wM am cB cI cL go gc gb gd gh gr gt gk gn er op sz) rfl rfl rfl ?_
  refine jw_aload_n (pc := 0) F 0 d_M_delete_0 rfl rfl ?_
  refine jw_iconst (pc := 1) (v := 0) F d_M_delete_1 (by decide) ?_
  refine jw_put (pc := 2) (v := .int 0) (ty := .int) (ws' := wM am cB cI cL go gc gb gd gh gr gt gk gn 0 op sz) F (jms inM) tM tM_ok nmM 0 rfl rfl 0 (by decide) (jm w_342) rfl (by decide +kernel) rfl rfl (Nat.le_of_ble_eq_true rfl) d_M_delete_2 rfl ?_
  refine jw_aload_n (pc := 5) F 0 d_M_delete_5 rfl rfl ?_
  refine jw_iload_n (pc := 6) F 1 d_M_delete_6 rfl rfl ?_
  refine jw_callS_Ei (pc := 7) (As := [.int r]) (rest := [.ref (am 0)]) F (m_isReplica l D cB cI cL r) (jw_cwS F.1.2.2.2.2 wl_good w_387 w_388 w_30 w_389 hd_M_isReplica ⟨by decide, by decide⟩) rfl rfl (Nat.le_of_ble_eq_true rfl) d_M_delete_7 ⟨rfl, rfl⟩ ⟨by decide, by decide⟩ ?_
  refine jw_if_ne (pc := 10) F 17 d_M_delete_10 (by decide) (fun hz1 => False.elim (absurd (jb_n.mp hz1) (by rw [hr]; decide))) (fun hz1 => ?_)
  refine jw_iconst (pc := 13) (v := 1) F d_M_delete_13 (by decide) ?_
  refine jw_goto (pc := 14) F 18 d_M_delete_14 (by decide) ?_
  refine jw_iconst (pc := 18) (v := 1) F d_M_delete_18 (by decide) ?_
  refine jw_callV_Ci (pc := 19) (As := [.int 1, .int 1]) (rest := []) F (m_failsT l D am cB cI cL go gc gb gd gh gr gt gk gn op sz true rfl 1 (by decide)) (jw_cwV F.1.2.2.2.2 wl_good w_394 w_396 w_17 w_30 w_397 hd_M_fails ⟨by decide, by decide⟩) 0 1 rfl rfl rfl rfl rfl rfl (Nat.le_of_ble_eq_true rfl) d_M_delete_19 ⟨rfl, rfl⟩ ⟨by decide, by decide⟩ (fun r w hw => ?_)
  obtain ⟨rfl, rfl⟩ := hw
  refine jw_if_ne (pc := 22) F 70 d_M_delete_22 (by decide) (fun hz2 => ?_) (fun hz2 => False.elim (absurd hz2 (by decide)))
  refine jw_iconst (pc := 70) (v := 0) F d_M_delete_70 (by decide) ?_
  exact jw_iret F d_M_delete_71 ⟨rfl, rfl⟩
set_option maxHeartbeats 4000000 in
set_option maxRecDepth 100000 in
theorem m_delete_2 (l : Launch) (D : va_G) (am : Nat → Nat) (cB cI cL : ClassId) (go gc gb gd gh gr gt gk : Nat → Int32) (gn : Nat → Int64) (er op sz : Int32) (a : AS) (hQ : mx_R a go gc gb gd gh gn op) (r : Nat) (hr : r < 4) (hn1 : a_n a = 160) (tt : Int32) : jw_Mi l D vCl (vTy cB cI cL) y_M_delete s_M_delete rm_M_delete [.ref (am 0), .int (nI r), .int tt] (wM am cB cI cL go gc gb gd gh gr gt gk gn er op sz) (fun r9 w9 => r9 = 0 ∧ w9 = wM am cB cI cL go gc gb gd gh gr gt gk gn 2 op sz) := by
  refine jw_ofi (cc := b_M_delete) (nL := 3) (ret := (some .int)) (by decide) rfl (Nat.le_of_ble_eq_true rfl) (fun p e s m args below meth c A F hnm => ?_)
  refine jw_at (lv' := [(0, .ref (am 0)), (1, .int (nI r)), (2, .int tt)]) (st' := []) (ws' := wM am cB cI cL go gc gb gd gh gr gt gk gn er op sz) rfl rfl rfl ?_
  obtain ⟨hI, hA, hV⟩ := hQ
  have hn := hI.1
  refine jw_aload_n (pc := 0) F 0 d_M_delete_0 rfl rfl ?_
  refine jw_iconst (pc := 1) (v := 0) F d_M_delete_1 (by decide) ?_
  refine jw_put (pc := 2) (v := .int 0) (ty := .int) (ws' := wM am cB cI cL go gc gb gd gh gr gt gk gn 0 op sz) F (jms inM) tM tM_ok nmM 0 rfl rfl 0 (by decide) (jm w_342) rfl (by decide +kernel) rfl rfl (Nat.le_of_ble_eq_true rfl) d_M_delete_2 rfl ?_
  refine jw_aload_n (pc := 5) F 0 d_M_delete_5 rfl rfl ?_
  refine jw_iload_n (pc := 6) F 1 d_M_delete_6 rfl rfl ?_
  refine jw_callS_Ei (pc := 7) (As := [.int (nI r)]) (rest := [.ref (am 0)]) F (m_isReplica l D cB cI cL (nI r)) (jw_cwS F.1.2.2.2.2 wl_good w_387 w_388 w_30 w_389 hd_M_isReplica ⟨by decide, by decide⟩) rfl rfl (Nat.le_of_ble_eq_true rfl) d_M_delete_7 ⟨rfl, rfl⟩ ⟨by decide, by decide⟩ ?_
  refine jw_if_ne (pc := 10) F 17 d_M_delete_10 (by decide) (fun hz1 => ?_) (fun hz1 => False.elim (absurd (jb_0.mp hz1) (by rw [m_isrep_nI hr]; decide)))
  refine jw_iconst (pc := 17) (v := 0) F d_M_delete_17 (by decide) ?_
  refine jw_iconst (pc := 18) (v := 1) F d_M_delete_18 (by decide) ?_
  refine jw_callV_Ei (pc := 19) (As := [.int 0, .int 1]) (rest := []) F ([]) ([]) (m_failsF l D am cB cI cL go gc gb gd gh gr gt gk gn op sz false rfl 1) (jw_cwV F.1.2.2.2.2 wl_good w_394 w_396 w_17 w_30 w_397 hd_M_fails ⟨by decide, by decide⟩) 0 1 rfl rfl rfl (by simp) rfl rfl (Nat.le_of_ble_eq_true rfl) d_M_delete_19 ⟨rfl, rfl⟩ ⟨by decide, by decide⟩ ?_
  refine jw_if_ne (pc := 22) F 70 d_M_delete_22 (by decide) (fun hz2 => False.elim (hz2 rfl)) (fun hz2 => ?_)
  refine jw_aload_n (pc := 25) F 0 d_M_delete_25 rfl rfl ?_
  refine jw_aload_n (pc := 26) F 0 d_M_delete_26 rfl rfl ?_
  refine jw_get (pc := 27) F (jms inM) 0 rfl rfl 1 (by decide) (jm w_343) rfl d_M_delete_27 ?_
  refine jw_sipush (pc := 30) (v := 160) F d_M_delete_30 (by decide) ?_
  refine jw_icmp_ne (pc := 33) F 40 d_M_delete_33 (by decide) (fun hz3 => False.elim (hz3 (by rw [hA.1, hn1]; decide))) (fun hz3 => ?_)
  refine jw_iconst (pc := 36) (v := 1) F d_M_delete_36 (by decide) ?_
  refine jw_goto (pc := 37) F 41 d_M_delete_37 (by decide) ?_
  refine jw_iconst (pc := 41) (v := 2) F d_M_delete_41 (by decide) ?_
  refine jw_callV_Ci (pc := 42) (As := [.int 1, .int 2]) (rest := []) F (m_failsT l D am cB cI cL go gc gb gd gh gr gt gk gn op sz true rfl 2 (by decide)) (jw_cwV F.1.2.2.2.2 wl_good w_394 w_396 w_17 w_30 w_397 hd_M_fails ⟨by decide, by decide⟩) 0 1 rfl rfl rfl rfl rfl rfl (Nat.le_of_ble_eq_true rfl) d_M_delete_42 ⟨rfl, rfl⟩ ⟨by decide, by decide⟩ (fun r w hw => ?_)
  obtain ⟨rfl, rfl⟩ := hw
  refine jw_if_ne (pc := 45) F 70 d_M_delete_45 (by decide) (fun hz4 => ?_) (fun hz4 => False.elim (absurd hz4 (by decide)))
  refine jw_iconst (pc := 70) (v := 0) F d_M_delete_70 (by decide) ?_
  exact jw_iret F d_M_delete_71 ⟨rfl, rfl⟩
set_option maxHeartbeats 4000000 in
set_option maxRecDepth 100000 in
theorem m_delete_3 (l : Launch) (D : va_G) (am : Nat → Nat) (cB cI cL : ClassId) (go gc gb gd gh gr gt gk : Nat → Int32) (gn : Nat → Int64) (er op sz : Int32) (a : AS) (hQ : mx_R a go gc gb gd gh gn op) (r : Nat) (hr : r < 4) (hn1 : a_n a < 160) (tt : Int32) (hh : a_haseB a r tt = false) : jw_Mi l D vCl (vTy cB cI cL) y_M_delete s_M_delete rm_M_delete [.ref (am 0), .int (nI r), .int tt] (wM am cB cI cL go gc gb gd gh gr gt gk gn er op sz) (fun r9 w9 => r9 = 0 ∧ w9 = wM am cB cI cL go gc gb gd gh gr gt gk gn 3 op sz) := by
  refine jw_ofi (cc := b_M_delete) (nL := 3) (ret := (some .int)) (by decide) rfl (Nat.le_of_ble_eq_true rfl) (fun p e s m args below meth c A F hnm => ?_)
  refine jw_at (lv' := [(0, .ref (am 0)), (1, .int (nI r)), (2, .int tt)]) (st' := []) (ws' := wM am cB cI cL go gc gb gd gh gr gt gk gn er op sz) rfl rfl rfl ?_
  obtain ⟨hI, hA, hV⟩ := hQ
  have hn := hI.1
  refine jw_aload_n (pc := 0) F 0 d_M_delete_0 rfl rfl ?_
  refine jw_iconst (pc := 1) (v := 0) F d_M_delete_1 (by decide) ?_
  refine jw_put (pc := 2) (v := .int 0) (ty := .int) (ws' := wM am cB cI cL go gc gb gd gh gr gt gk gn 0 op sz) F (jms inM) tM tM_ok nmM 0 rfl rfl 0 (by decide) (jm w_342) rfl (by decide +kernel) rfl rfl (Nat.le_of_ble_eq_true rfl) d_M_delete_2 rfl ?_
  refine jw_aload_n (pc := 5) F 0 d_M_delete_5 rfl rfl ?_
  refine jw_iload_n (pc := 6) F 1 d_M_delete_6 rfl rfl ?_
  refine jw_callS_Ei (pc := 7) (As := [.int (nI r)]) (rest := [.ref (am 0)]) F (m_isReplica l D cB cI cL (nI r)) (jw_cwS F.1.2.2.2.2 wl_good w_387 w_388 w_30 w_389 hd_M_isReplica ⟨by decide, by decide⟩) rfl rfl (Nat.le_of_ble_eq_true rfl) d_M_delete_7 ⟨rfl, rfl⟩ ⟨by decide, by decide⟩ ?_
  refine jw_if_ne (pc := 10) F 17 d_M_delete_10 (by decide) (fun hz1 => ?_) (fun hz1 => False.elim (absurd (jb_0.mp hz1) (by rw [m_isrep_nI hr]; decide)))
  refine jw_iconst (pc := 17) (v := 0) F d_M_delete_17 (by decide) ?_
  refine jw_iconst (pc := 18) (v := 1) F d_M_delete_18 (by decide) ?_
  refine jw_callV_Ei (pc := 19) (As := [.int 0, .int 1]) (rest := []) F ([]) ([]) (m_failsF l D am cB cI cL go gc gb gd gh gr gt gk gn op sz false rfl 1) (jw_cwV F.1.2.2.2.2 wl_good w_394 w_396 w_17 w_30 w_397 hd_M_fails ⟨by decide, by decide⟩) 0 1 rfl rfl rfl (by simp) rfl rfl (Nat.le_of_ble_eq_true rfl) d_M_delete_19 ⟨rfl, rfl⟩ ⟨by decide, by decide⟩ ?_
  refine jw_if_ne (pc := 22) F 70 d_M_delete_22 (by decide) (fun hz2 => False.elim (hz2 rfl)) (fun hz2 => ?_)
  refine jw_aload_n (pc := 25) F 0 d_M_delete_25 rfl rfl ?_
  refine jw_aload_n (pc := 26) F 0 d_M_delete_26 rfl rfl ?_
  refine jw_get (pc := 27) F (jms inM) 0 rfl rfl 1 (by decide) (jm w_343) rfl d_M_delete_27 ?_
  refine jw_sipush (pc := 30) (v := 160) F d_M_delete_30 (by decide) ?_
  refine jw_icmp_ne (pc := 33) F 40 d_M_delete_33 (by decide) (fun hz3 => ?_) (fun hz3 => False.elim (absurd (hz3) (by rw [hA.1]; exact fun q => absurd (ab_nI_inj (by omega) (by omega) (q.trans (show (160 : Int32) = nI 160 by decide))) (by omega))))
  refine jw_iconst (pc := 40) (v := 0) F d_M_delete_40 (by decide) ?_
  refine jw_iconst (pc := 41) (v := 2) F d_M_delete_41 (by decide) ?_
  refine jw_callV_Ei (pc := 42) (As := [.int 0, .int 2]) (rest := []) F ([]) ([]) (m_failsF l D am cB cI cL go gc gb gd gh gr gt gk gn op sz false rfl 2) (jw_cwV F.1.2.2.2.2 wl_good w_394 w_396 w_17 w_30 w_397 hd_M_fails ⟨by decide, by decide⟩) 0 1 rfl rfl rfl (by simp) rfl rfl (Nat.le_of_ble_eq_true rfl) d_M_delete_42 ⟨rfl, rfl⟩ ⟨by decide, by decide⟩ ?_
  refine jw_if_ne (pc := 45) F 70 d_M_delete_45 (by decide) (fun hz4 => False.elim (hz4 rfl)) (fun hz4 => ?_)
  refine jw_aload_n (pc := 48) F 0 d_M_delete_48 rfl rfl ?_
  refine jw_aload_n (pc := 49) F 0 d_M_delete_49 rfl rfl ?_
  refine jw_iload_n (pc := 50) F 1 d_M_delete_50 rfl rfl ?_
  refine jw_iload_n (pc := 51) F 2 d_M_delete_51 rfl rfl ?_
  refine jw_callV_Ei (pc := 52) (As := [.int (nI r), .int tt]) (rest := [.ref (am 0)]) F ([]) ([]) (m_hasElement l D am cB cI cL go gc gb gd gh gr gt gk gn 0 op sz a hI hA r hr tt) (jw_cwV F.1.2.2.2.2 wl_good w_398 w_400 w_18 w_30 w_401 hd_M_hasElement ⟨by decide, by decide⟩) 0 1 rfl rfl rfl (by simp) rfl rfl (Nat.le_of_ble_eq_true rfl) d_M_delete_52 ⟨rfl, rfl⟩ ⟨by decide, by decide⟩ ?_
  refine jw_if_ne (pc := 55) F 62 d_M_delete_55 (by decide) (fun hz5 => False.elim (absurd (jb_n.mp hz5) (by rw [hh]; decide))) (fun hz5 => ?_)
  refine jw_iconst (pc := 58) (v := 1) F d_M_delete_58 (by decide) ?_
  refine jw_goto (pc := 59) F 63 d_M_delete_59 (by decide) ?_
  refine jw_iconst (pc := 63) (v := 3) F d_M_delete_63 (by decide) ?_
  refine jw_callV_Ci (pc := 64) (As := [.int 1, .int 3]) (rest := []) F (m_failsT l D am cB cI cL go gc gb gd gh gr gt gk gn op sz true rfl 3 (by decide)) (jw_cwV F.1.2.2.2.2 wl_good w_394 w_396 w_17 w_30 w_397 hd_M_fails ⟨by decide, by decide⟩) 0 1 rfl rfl rfl rfl rfl rfl (Nat.le_of_ble_eq_true rfl) d_M_delete_64 ⟨rfl, rfl⟩ ⟨by decide, by decide⟩ (fun r w hw => ?_)
  obtain ⟨rfl, rfl⟩ := hw
  refine jw_if_eq (pc := 67) F 72 d_M_delete_67 (by decide) (fun hz6 => False.elim (absurd hz6 (by decide))) (fun hz6 => ?_)
  refine jw_iconst (pc := 70) (v := 0) F d_M_delete_70 (by decide) ?_
  exact jw_iret F d_M_delete_71 ⟨rfl, rfl⟩
set_option maxHeartbeats 4000000 in
set_option maxRecDepth 100000 in
theorem m_delete_0 (l : Launch) (D : va_G) (am : Nat → Nat) (cB cI cL : ClassId) (go gc gb gd gh gr gt gk : Nat → Int32) (gn : Nat → Int64) (er op sz : Int32) (a : AS) (hQ : mx_R a go gc gb gd gh gn op) (r : Nat) (hr : r < 4) (hn1 : a_n a < 160) (tt : Int32) (hh : a_haseB a r tt = true) : jw_Mi l D vCl (vTy cB cI cL) y_M_delete s_M_delete rm_M_delete [.ref (am 0), .int (nI r), .int tt] (wM am cB cI cL go gc gb gd gh gr gt gk gn er op sz) (fun r9 w9 => r9 = nI (a_n a) ∧ ∃ (ko kc kb kd kh : Nat → Int32) (kn : Nat → Int64) (ko2 : Int32), w9 = wM am cB cI cL ko kc kb kd kh gr gt gk kn 0 ko2 sz ∧ mx_R (ab_new a r tt true 0) ko kc kb kd kh kn ko2) := by
  refine jw_ofi (cc := b_M_delete) (nL := 3) (ret := (some .int)) (by decide) rfl (Nat.le_of_ble_eq_true rfl) (fun p e s m args below meth c A F hnm => ?_)
  refine jw_at (lv' := [(0, .ref (am 0)), (1, .int (nI r)), (2, .int tt)]) (st' := []) (ws' := wM am cB cI cL go gc gb gd gh gr gt gk gn er op sz) rfl rfl rfl ?_
  obtain ⟨hI, hA, hV⟩ := hQ
  have hn := hI.1
  refine jw_aload_n (pc := 0) F 0 d_M_delete_0 rfl rfl ?_
  refine jw_iconst (pc := 1) (v := 0) F d_M_delete_1 (by decide) ?_
  refine jw_put (pc := 2) (v := .int 0) (ty := .int) (ws' := wM am cB cI cL go gc gb gd gh gr gt gk gn 0 op sz) F (jms inM) tM tM_ok nmM 0 rfl rfl 0 (by decide) (jm w_342) rfl (by decide +kernel) rfl rfl (Nat.le_of_ble_eq_true rfl) d_M_delete_2 rfl ?_
  refine jw_aload_n (pc := 5) F 0 d_M_delete_5 rfl rfl ?_
  refine jw_iload_n (pc := 6) F 1 d_M_delete_6 rfl rfl ?_
  refine jw_callS_Ei (pc := 7) (As := [.int (nI r)]) (rest := [.ref (am 0)]) F (m_isReplica l D cB cI cL (nI r)) (jw_cwS F.1.2.2.2.2 wl_good w_387 w_388 w_30 w_389 hd_M_isReplica ⟨by decide, by decide⟩) rfl rfl (Nat.le_of_ble_eq_true rfl) d_M_delete_7 ⟨rfl, rfl⟩ ⟨by decide, by decide⟩ ?_
  refine jw_if_ne (pc := 10) F 17 d_M_delete_10 (by decide) (fun hz1 => ?_) (fun hz1 => False.elim (absurd (jb_0.mp hz1) (by rw [m_isrep_nI hr]; decide)))
  refine jw_iconst (pc := 17) (v := 0) F d_M_delete_17 (by decide) ?_
  refine jw_iconst (pc := 18) (v := 1) F d_M_delete_18 (by decide) ?_
  refine jw_callV_Ei (pc := 19) (As := [.int 0, .int 1]) (rest := []) F ([]) ([]) (m_failsF l D am cB cI cL go gc gb gd gh gr gt gk gn op sz false rfl 1) (jw_cwV F.1.2.2.2.2 wl_good w_394 w_396 w_17 w_30 w_397 hd_M_fails ⟨by decide, by decide⟩) 0 1 rfl rfl rfl (by simp) rfl rfl (Nat.le_of_ble_eq_true rfl) d_M_delete_19 ⟨rfl, rfl⟩ ⟨by decide, by decide⟩ ?_
  refine jw_if_ne (pc := 22) F 70 d_M_delete_22 (by decide) (fun hz2 => False.elim (hz2 rfl)) (fun hz2 => ?_)
  refine jw_aload_n (pc := 25) F 0 d_M_delete_25 rfl rfl ?_
  refine jw_aload_n (pc := 26) F 0 d_M_delete_26 rfl rfl ?_
  refine jw_get (pc := 27) F (jms inM) 0 rfl rfl 1 (by decide) (jm w_343) rfl d_M_delete_27 ?_
  refine jw_sipush (pc := 30) (v := 160) F d_M_delete_30 (by decide) ?_
  refine jw_icmp_ne (pc := 33) F 40 d_M_delete_33 (by decide) (fun hz3 => ?_) (fun hz3 => False.elim (absurd (hz3) (by rw [hA.1]; exact fun q => absurd (ab_nI_inj (by omega) (by omega) (q.trans (show (160 : Int32) = nI 160 by decide))) (by omega))))
  refine jw_iconst (pc := 40) (v := 0) F d_M_delete_40 (by decide) ?_
  refine jw_iconst (pc := 41) (v := 2) F d_M_delete_41 (by decide) ?_
  refine jw_callV_Ei (pc := 42) (As := [.int 0, .int 2]) (rest := []) F ([]) ([]) (m_failsF l D am cB cI cL go gc gb gd gh gr gt gk gn op sz false rfl 2) (jw_cwV F.1.2.2.2.2 wl_good w_394 w_396 w_17 w_30 w_397 hd_M_fails ⟨by decide, by decide⟩) 0 1 rfl rfl rfl (by simp) rfl rfl (Nat.le_of_ble_eq_true rfl) d_M_delete_42 ⟨rfl, rfl⟩ ⟨by decide, by decide⟩ ?_
  refine jw_if_ne (pc := 45) F 70 d_M_delete_45 (by decide) (fun hz4 => False.elim (hz4 rfl)) (fun hz4 => ?_)
  refine jw_aload_n (pc := 48) F 0 d_M_delete_48 rfl rfl ?_
  refine jw_aload_n (pc := 49) F 0 d_M_delete_49 rfl rfl ?_
  refine jw_iload_n (pc := 50) F 1 d_M_delete_50 rfl rfl ?_
  refine jw_iload_n (pc := 51) F 2 d_M_delete_51 rfl rfl ?_
  refine jw_callV_Ei (pc := 52) (As := [.int (nI r), .int tt]) (rest := [.ref (am 0)]) F ([]) ([]) (m_hasElement l D am cB cI cL go gc gb gd gh gr gt gk gn 0 op sz a hI hA r hr tt) (jw_cwV F.1.2.2.2.2 wl_good w_398 w_400 w_18 w_30 w_401 hd_M_hasElement ⟨by decide, by decide⟩) 0 1 rfl rfl rfl (by simp) rfl rfl (Nat.le_of_ble_eq_true rfl) d_M_delete_52 ⟨rfl, rfl⟩ ⟨by decide, by decide⟩ ?_
  refine jw_if_ne (pc := 55) F 62 d_M_delete_55 (by decide) (fun hz5 => ?_) (fun hz5 => False.elim (absurd (jb_0.mp hz5) (by rw [hh]; decide)))
  refine jw_iconst (pc := 62) (v := 0) F d_M_delete_62 (by decide) ?_
  refine jw_iconst (pc := 63) (v := 3) F d_M_delete_63 (by decide) ?_
  refine jw_callV_Ei (pc := 64) (As := [.int 0, .int 3]) (rest := []) F ([]) ([]) (m_failsF l D am cB cI cL go gc gb gd gh gr gt gk gn op sz false rfl 3) (jw_cwV F.1.2.2.2.2 wl_good w_394 w_396 w_17 w_30 w_397 hd_M_fails ⟨by decide, by decide⟩) 0 1 rfl rfl rfl (by simp) rfl rfl (Nat.le_of_ble_eq_true rfl) d_M_delete_64 ⟨rfl, rfl⟩ ⟨by decide, by decide⟩ ?_
  refine jw_if_eq (pc := 67) F 72 d_M_delete_67 (by decide) (fun hz6 => ?_) (fun hz6 => False.elim (hz6 rfl))
  refine jw_aload_n (pc := 72) F 0 d_M_delete_72 rfl rfl ?_
  refine jw_iload_n (pc := 73) F 1 d_M_delete_73 rfl rfl ?_
  refine jw_iload_n (pc := 74) F 2 d_M_delete_74 rfl rfl ?_
  refine jw_lconst (pc := 75) (v := 0) F d_M_delete_75 (by decide) ?_
  refine jw_iconst (pc := 76) (v := jb true) F d_M_delete_76 (by decide) ?_
  refine jw_callV_Ci (pc := 77) (As := [.int (nI r), .int tt, .long 0, .int (jb true)]) (rest := []) F (m_made l D am cB cI cL go gc gb gd gh gr gt gk gn 0 op sz a hI hA hV r hr hn1 tt true 0) (jw_cwV F.1.2.2.2.2 wl_good w_410 w_412 w_21 w_30 w_413 hd_M_made ⟨by decide, by decide⟩) 0 1 rfl rfl rfl rfl rfl rfl (Nat.le_of_ble_eq_true rfl) d_M_delete_77 ⟨rfl, rfl⟩ ⟨by decide, by decide⟩ (fun r w hw => ?_)
  obtain ⟨rfl, ko, kc, kb, kd, kh, kn, rfl, hA2, hV2⟩ := hw
  exact jw_iret F d_M_delete_80 ⟨rfl, _, _, _, _, _, _, _, rfl, ab_I_new hI hn1 hr (ab_ok_of hn hh), hA2, hV2⟩
