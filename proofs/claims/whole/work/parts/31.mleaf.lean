def wM (am : Nat → Nat) (cB cI cL : ClassId) (go gc gb gd gh gr gt gk : Nat → Int32) (gn : Nat → Int64) (er op sz : Int32) : va_W :=
  [(am 0, .inr (1, [.int er, .int op, .ref (am 1), .ref (am 2), .ref (am 3), .ref (am 4), .ref (am 5), .ref (am 6), .ref (am 7), .ref (am 8), .ref (am 9), .int sz])),
   (am 1, .inl (cI, 160, .inl go)), (am 2, .inl (cI, 160, .inl gc)), (am 3, .inl (cI, 160, .inl gb)), (am 4, .inl (cL, 160, .inr (.inl gn))), (am 5, .inl (cB, 160, .inl gd)), (am 6, .inl (cB, 640, .inl gh)), (am 7, .inl (cI, 160, .inl gr)), (am 8, .inl (cI, 161, .inl gt)), (am 9, .inl (cI, 160, .inl gk))]
def mx_A (a : AS) (go gc gb gd gh : Nat → Int32) (op : Int32) : Prop := op = nI (a_n a) ∧ (∀ k, k < a_n a → go k = a_tg a k) ∧ (∀ k, k < a_n a → gc k = nI (a_ct a k)) ∧ (∀ k, k < a_n a → gb k = nI (a_mk a k)) ∧ (∀ k, k < a_n a → gd k = jb (a_dl a k)) ∧ ∀ r, r < 4 → ∀ k, k < a_n a → gh (160 * r + k) = jb (a_hd a r k)
def m_in (v lo hi : Int64) : Bool := decide (¬ v < lo) && decide (¬ hi < v)
theorem m_in_rep (r : Int32) : m_in r.toInt64 0 3 = a_isrep r := by
  unfold m_in a_isrep a_isop
  rw [Bool.eq_iff_iff]
  simp only [Bool.and_eq_true, decide_eq_true_eq, Int64.lt_iff_toInt_lt, Int32.lt_iff_toInt_lt, Int32.toInt_toInt64]
  rw [show (0 : Int64).toInt = 0 by decide, show (3 : Int64).toInt = 3 by decide, show (0 : Int32).toInt = 0 by decide, show (nI 4).toInt = 4 by decide]
  omega
theorem m_in_op (k : Int32) {n : Nat} (hn : n ≤ 161) : m_in k.toInt64 0 (nI n - nI 1).toInt64 = a_isop n k := by
  unfold m_in a_isop
  rw [Bool.eq_iff_iff]
  simp only [Bool.and_eq_true, decide_eq_true_eq, Int64.lt_iff_toInt_lt, Int32.lt_iff_toInt_lt, Int32.toInt_toInt64]
  rw [show (0 : Int64).toInt = 0 by decide, show (0 : Int32).toInt = 0 by decide, pk_sub_toInt (by omega) (by omega), nI_toInt (by omega)]
  omega
theorem mx_ltb {a : AS} {go gc gb gd gh : Nat → Int32} {op : Int32} (hI : ab_I a) (hA : mx_A a go gc gb gd gh op) {i j : Nat} (hi : i < a_n a) (hj : j < a_n a) : a_ltb a i j = (decide (gc i < gc j) || (decide (gc i = gc j) && decide (gb i < gb j))) := by
  have hn := hI.1
  have b1 := (hI.2.2.2.1 i hi).2.2
  have b2 := (hI.2.2.2.1 j hj).2.2
  have b3 := (hI.2.2.2.1 i hi).1
  have b4 := (hI.2.2.2.1 j hj).1
  rw [hA.2.2.1 i hi, hA.2.2.1 j hj, hA.2.2.2.1 i hi, hA.2.2.2.1 j hj]
  unfold a_ltb
  simp only [nI_ltI (show a_ct a i < 2 ^ 31 by omega) (show a_ct a j < 2 ^ 31 by omega), nI_eq (show a_ct a i < 2 ^ 31 by omega) (show a_ct a j < 2 ^ 31 by omega), nI_ltI (show a_mk a i < 2 ^ 31 by omega) (show a_mk a j < 2 ^ 31 by omega)]
theorem w_342 : Cond.fieldLink RM 39 "WovenRowModel" "err" "I" ∈ WL := jwl 342 rfl rfl
theorem w_390 : Cond.constantLong RM 43 3 ∈ WL := jwl 390 rfl rfl
theorem w_391 : Cond.methodLink RM 45 y_M_in ∈ WL := jwl 391 rfl rfl
theorem w_392 : Cond.static y_M_in ∈ WL := jwl 392 rfl rfl
theorem w_30 : Cond.initialized RM ∈ WL := jwl 30 rfl rfl
theorem w_393 : Cond.code y_M_in b_M_in 6 (some .boolean) ∈ WL := jwl 393 rfl rfl
theorem w_343 : Cond.fieldLink RM 49 "WovenRowModel" "operations" "I" ∈ WL := jwl 343 rfl rfl
theorem w_349 : Cond.fieldLink RM 27 "WovenRowModel" "held" "[Z" ∈ WL := jwl 349 rfl rfl
theorem w_402 : Cond.methodLink RM 52 y_M_isThere ∈ WL := jwl 402 rfl rfl
theorem w_404 : Cond.instanceMethod y_M_isThere ∈ WL := jwl 404 rfl rfl
theorem w_19 : Cond.selects RM y_M_isThere y_M_isThere ∈ WL := jwl 19 rfl rfl
theorem w_405 : Cond.code y_M_isThere b_M_isThere 2 (some .boolean) ∈ WL := jwl 405 rfl rfl
theorem w_348 : Cond.fieldLink RM 23 "WovenRowModel" "deletes" "[Z" ∈ WL := jwl 348 rfl rfl
theorem w_406 : Cond.methodLink RM 56 y_M_has ∈ WL := jwl 406 rfl rfl
theorem w_408 : Cond.instanceMethod y_M_has ∈ WL := jwl 408 rfl rfl
theorem w_20 : Cond.selects RM y_M_has y_M_has ∈ WL := jwl 20 rfl rfl
theorem w_409 : Cond.code y_M_has b_M_has 3 (some .boolean) ∈ WL := jwl 409 rfl rfl
theorem w_345 : Cond.fieldLink RM 13 "WovenRowModel" "counts" "[I" ∈ WL := jwl 345 rfl rfl
theorem w_346 : Cond.fieldLink RM 16 "WovenRowModel" "by" "[I" ∈ WL := jwl 346 rfl rfl
theorem w_418 : Cond.methodLink RM 60 Lib.Math.max.name ∈ WL := jwl 418 rfl rfl
abbrev rm_M_thrown : Room := { frames := 0, cells := 0, slots := 0, locals := 0 }
abbrev rm_M_in : Room := { frames := 0, cells := 0, slots := 0, locals := 0 }
abbrev rm_M_fails : Room := { frames := 0, cells := 0, slots := 0, locals := 0 }
abbrev rm_M_isReplica : Room := { frames := 1, cells := 0, slots := 0, locals := 25 }
abbrev rm_M_isThere : Room := { frames := 1, cells := 0, slots := 0, locals := 25 }
abbrev rm_M_has : Room := { frames := 0, cells := 0, slots := 0, locals := 0 }
abbrev rm_M_hasElement : Room := { frames := 2, cells := 0, slots := 0, locals := 46 }
abbrev rm_M_greatest : Room := { frames := 1, cells := 0, slots := 0, locals := 22 }
abbrev rm_M_isLess : Room := { frames := 0, cells := 0, slots := 0, locals := 0 }
set_option maxHeartbeats 4000000 in
set_option maxRecDepth 100000 in
theorem m_thrown (l : Launch) (D : va_G) (am : Nat → Nat) (cB cI cL : ClassId) (go gc gb gd gh gr gt gk : Nat → Int32) (gn : Nat → Int64) (er op sz : Int32) : jw_Ei l D vCl (vTy cB cI cL) y_M_thrown s_M_thrown rm_M_thrown [.ref (am 0)] (wM am cB cI cL go gc gb gd gh gr gt gk gn er op sz) er := by
  refine jw_ofi (cc := b_M_thrown) (nL := 1) (ret := (some .int)) (by decide) rfl (Nat.le_of_ble_eq_true rfl) (fun p e s m args below meth c A F hnm => ?_)
  refine jw_at (lv' := [(0, .ref (am 0))]) (st' := []) (ws' := wM am cB cI cL go gc gb gd gh gr gt gk gn er op sz) rfl rfl rfl ?_
  refine jw_aload_n (pc := 0) F 0 d_M_thrown_0 rfl rfl ?_
  refine jw_get (pc := 1) F (jms inM) 0 rfl rfl 0 (by decide) (jm w_342) rfl d_M_thrown_1 ?_
  exact jw_iret F d_M_thrown_4 ⟨rfl, rfl⟩
set_option maxHeartbeats 4000000 in
set_option maxRecDepth 100000 in
theorem m_in_c (l : Launch) (D : va_G) (cB cI cL : ClassId) (x lo hi : Int64) : jw_Ei l D vCl (vTy cB cI cL) y_M_in s_M_in rm_M_in [.long x, .long lo, .long hi] ([]) ((jb (m_in x lo hi))) := by
  refine jw_ofi (cc := b_M_in) (nL := 6) (ret := (some .boolean)) (by decide) rfl (Nat.le_of_ble_eq_true rfl) (fun p e s m args below meth c A F hnm => ?_)
  refine jw_at (lv' := [(0, .long x), (2, .long lo), (4, .long hi)]) (st' := []) (ws' := []) rfl rfl rfl ?_
  refine jw_lload_n (pc := 0) F 0 d_M_in_0 rfl rfl ?_
  refine jw_lload_n (pc := 1) F 1 d_M_in_1 rfl rfl ?_
  refine jw_lcmp (pc := 2) F d_M_in_2 ?_
  refine jw_if_lt (pc := 3) F 17 d_M_in_3 (by decide) (fun h1 => ?_) (fun h1 => ?_)
  · refine jw_iconst (pc := 17) (v := 0) F d_M_in_17 (by decide) ?_
    exact jw_zret F d_M_in_18 (by decide) ⟨by rw [lg_cmp_lt] at h1; simp [m_in, jb, h1], rfl⟩
  · refine jw_lload_n (pc := 6) F 0 d_M_in_6 rfl rfl ?_
    refine jw_lload (pc := 7) F 2 d_M_in_7 rfl ?_
    refine jw_lcmp (pc := 9) F d_M_in_9 ?_
    refine jw_if_gt (pc := 10) F 17 d_M_in_10 (by decide) (fun h2 => ?_) (fun h2 => ?_)
    · refine jw_iconst (pc := 17) (v := 0) F d_M_in_17 (by decide) ?_
      exact jw_zret F d_M_in_18 (by decide) ⟨by rw [lg_cmp_gt] at h2; simp only [m_in, h2, not_true, decide_false, Bool.and_false]; rfl, rfl⟩
    · refine jw_iconst (pc := 13) (v := 1) F d_M_in_13 (by decide) ?_
      refine jw_goto (pc := 14) F 18 d_M_in_14 (by decide) ?_
      exact jw_zret F d_M_in_18 (by decide) ⟨by rw [lg_cmp_lt] at h1; rw [lg_cmp_gt] at h2; simp only [m_in, h1, h2, not_false_eq_true, decide_true, Bool.and_self]; rfl, rfl⟩
set_option maxHeartbeats 4000000 in
set_option maxRecDepth 100000 in
theorem m_failsF (l : Launch) (D : va_G) (am : Nat → Nat) (cB cI cL : ClassId) (go gc gb gd gh gr gt gk : Nat → Int32) (gn : Nat → Int64) (op sz : Int32) (b9 : Bool) (hb9 : b9 = false) (c9 : Int32) : jw_Ei l D vCl (vTy cB cI cL) y_M_fails s_M_fails rm_M_fails [.ref (am 0), .int (jb b9), .int c9] (wM am cB cI cL go gc gb gd gh gr gt gk gn 0 op sz) 0 := by
  refine jw_ofi (cc := b_M_fails) (nL := 3) (ret := (some .boolean)) (by decide) rfl (Nat.le_of_ble_eq_true rfl) (fun p e s m args below meth c A F hnm => ?_)
  refine jw_at (lv' := [(0, .ref (am 0)), (1, .int (jb b9)), (2, .int c9)]) (st' := []) (ws' := wM am cB cI cL go gc gb gd gh gr gt gk gn 0 op sz) rfl rfl rfl ?_
  refine jw_iload_n (pc := 0) F 1 d_M_fails_0 rfl rfl ?_
  refine jw_if_eq (pc := 1) F 16 d_M_fails_1 (by decide) (fun hz1 => ?_) (fun hz1 => False.elim (absurd (jb_n.mp hz1) (by rw [hb9]; decide)))
  refine jw_aload_n (pc := 16) F 0 d_M_fails_16 rfl rfl ?_
  refine jw_get (pc := 17) F (jms inM) 0 rfl rfl 0 (by decide) (jm w_342) rfl d_M_fails_17 ?_
  refine jw_if_eq (pc := 20) F 27 d_M_fails_20 (by decide) (fun hz2 => ?_) (fun hz2 => False.elim (hz2 rfl))
  refine jw_iconst (pc := 27) (v := 0) F d_M_fails_27 (by decide) ?_
  exact jw_zret F d_M_fails_28 (by decide) ⟨rfl, rfl⟩
set_option maxHeartbeats 4000000 in
set_option maxRecDepth 100000 in
theorem m_failsT (l : Launch) (D : va_G) (am : Nat → Nat) (cB cI cL : ClassId) (go gc gb gd gh gr gt gk : Nat → Int32) (gn : Nat → Int64) (op sz : Int32) (b9 : Bool) (hb9 : b9 = true) (c9 : Int32) (hc9 : ¬ c9 = 0) : jw_Mi l D vCl (vTy cB cI cL) y_M_fails s_M_fails rm_M_fails [.ref (am 0), .int (jb b9), .int c9] (wM am cB cI cL go gc gb gd gh gr gt gk gn 0 op sz) (fun r9 w9 => r9 = 1 ∧ w9 = wM am cB cI cL go gc gb gd gh gr gt gk gn c9 op sz) := by
  refine jw_ofi (cc := b_M_fails) (nL := 3) (ret := (some .boolean)) (by decide) rfl (Nat.le_of_ble_eq_true rfl) (fun p e s m args below meth c A F hnm => ?_)
  refine jw_at (lv' := [(0, .ref (am 0)), (1, .int (jb b9)), (2, .int c9)]) (st' := []) (ws' := wM am cB cI cL go gc gb gd gh gr gt gk gn 0 op sz) rfl rfl rfl ?_
  refine jw_iload_n (pc := 0) F 1 d_M_fails_0 rfl rfl ?_
  refine jw_if_eq (pc := 1) F 16 d_M_fails_1 (by decide) (fun hz1 => False.elim (absurd (jb_0.mp hz1) (by rw [hb9]; decide))) (fun hz1 => ?_)
  refine jw_aload_n (pc := 4) F 0 d_M_fails_4 rfl rfl ?_
  refine jw_get (pc := 5) F (jms inM) 0 rfl rfl 0 (by decide) (jm w_342) rfl d_M_fails_5 ?_
  refine jw_if_ne (pc := 8) F 16 d_M_fails_8 (by decide) (fun hz2 => False.elim (hz2 rfl)) (fun hz2 => ?_)
  refine jw_aload_n (pc := 11) F 0 d_M_fails_11 rfl rfl ?_
  refine jw_iload_n (pc := 12) F 2 d_M_fails_12 rfl rfl ?_
  refine jw_put (pc := 13) (v := .int c9) (ty := .int) (ws' := wM am cB cI cL go gc gb gd gh gr gt gk gn c9 op sz) F (jms inM) tM tM_ok nmM 0 rfl rfl 0 (by decide) (jm w_342) rfl (by decide +kernel) rfl rfl (Nat.le_of_ble_eq_true rfl) d_M_fails_13 rfl ?_
  refine jw_aload_n (pc := 16) F 0 d_M_fails_16 rfl rfl ?_
  refine jw_get (pc := 17) F (jms inM) 0 rfl rfl 0 (by decide) (jm w_342) rfl d_M_fails_17 ?_
  refine jw_if_eq (pc := 20) F 27 d_M_fails_20 (by decide) (fun hz3 => False.elim (hc9 hz3)) (fun hz3 => ?_)
  refine jw_iconst (pc := 23) (v := 1) F d_M_fails_23 (by decide) ?_
  refine jw_goto (pc := 24) F 28 d_M_fails_24 (by decide) ?_
  exact jw_zret F d_M_fails_28 (by decide) ⟨rfl, rfl⟩
set_option maxHeartbeats 4000000 in
set_option maxRecDepth 100000 in
theorem m_isReplica (l : Launch) (D : va_G) (cB cI cL : ClassId) (r : Int32) : jw_Ei l D vCl (vTy cB cI cL) y_M_isReplica s_M_isReplica rm_M_isReplica [.int r] ([]) ((jb (a_isrep r))) := by
  refine jw_ofi (cc := b_M_isReplica) (nL := 1) (ret := (some .boolean)) (by decide) rfl (Nat.le_of_ble_eq_true rfl) (fun p e s m args below meth c A F hnm => ?_)
  refine jw_at (lv' := [(0, .int r)]) (st' := []) (ws' := []) rfl rfl rfl ?_
  refine jw_iload_n (pc := 0) F 0 d_M_isReplica_0 rfl rfl ?_
  refine jw_i2l (pc := 1) F d_M_isReplica_1 ?_
  refine jw_lconst (pc := 2) (v := 0) F d_M_isReplica_2 (by decide) ?_
  refine jw_ldc2 (pc := 3) (v := 3) F d_M_isReplica_3 (jm w_390) ?_
  refine jw_callS_Ei (pc := 6) (As := [.long (r.toInt64), .long 0, .long 3]) (rest := []) F (m_in_c l D cB cI cL r.toInt64 0 3) (jw_cwS F.1.2.2.2.2 wl_good w_391 w_392 w_30 w_393 hd_M_in ⟨by decide, by decide⟩) rfl rfl (Nat.le_of_ble_eq_true rfl) d_M_isReplica_6 ⟨rfl, rfl⟩ ⟨by decide, by decide⟩ ?_
  exact jw_zret F d_M_isReplica_9 (jb_narrow _) ⟨by rw [m_in_rep], rfl⟩
set_option maxHeartbeats 4000000 in
set_option maxRecDepth 100000 in
theorem m_isThere (l : Launch) (D : va_G) (am : Nat → Nat) (cB cI cL : ClassId) (go gc gb gd gh gr gt gk : Nat → Int32) (gn : Nat → Int64) (er op sz : Int32) (n : Nat) (hn : n ≤ 160) (hop : op = nI n) (k : Int32) : jw_Ei l D vCl (vTy cB cI cL) y_M_isThere s_M_isThere rm_M_isThere [.ref (am 0), .int k] (wM am cB cI cL go gc gb gd gh gr gt gk gn er op sz) ((jb (a_isop n k))) := by
  refine jw_ofi (cc := b_M_isThere) (nL := 2) (ret := (some .boolean)) (by decide) rfl (Nat.le_of_ble_eq_true rfl) (fun p e s m args below meth c A F hnm => ?_)
  refine jw_at (lv' := [(0, .ref (am 0)), (1, .int k)]) (st' := []) (ws' := wM am cB cI cL go gc gb gd gh gr gt gk gn er op sz) rfl rfl rfl ?_
  subst hop
  refine jw_iload_n (pc := 0) F 1 d_M_isThere_0 rfl rfl ?_
  refine jw_i2l (pc := 1) F d_M_isThere_1 ?_
  refine jw_lconst (pc := 2) (v := 0) F d_M_isThere_2 (by decide) ?_
  refine jw_aload_n (pc := 3) F 0 d_M_isThere_3 rfl rfl ?_
  refine jw_get (pc := 4) F (jms inM) 0 rfl rfl 1 (by decide) (jm w_343) rfl d_M_isThere_4 ?_
  refine jw_iconst (pc := 7) (v := nI 1) F d_M_isThere_7 (by decide) ?_
  refine jw_isub (pc := 8) F d_M_isThere_8 ?_
  refine jw_i2l (pc := 9) F d_M_isThere_9 ?_
  refine jw_callS_Ei (pc := 10) (As := [.long (k.toInt64), .long 0, .long (((nI n) - (nI 1)).toInt64)]) (rest := []) F (m_in_c l D cB cI cL k.toInt64 0 (nI n - nI 1).toInt64) (jw_cwS F.1.2.2.2.2 wl_good w_391 w_392 w_30 w_393 hd_M_in ⟨by decide, by decide⟩) rfl rfl (Nat.le_of_ble_eq_true rfl) d_M_isThere_10 ⟨rfl, rfl⟩ ⟨by decide, by decide⟩ ?_
  exact jw_zret F d_M_isThere_13 (jb_narrow _) ⟨by rw [m_in_op k (by omega)], rfl⟩
set_option maxHeartbeats 4000000 in
set_option maxRecDepth 100000 in
theorem m_has (l : Launch) (D : va_G) (am : Nat → Nat) (cB cI cL : ClassId) (go gc gb gd gh gr gt gk : Nat → Int32) (gn : Nat → Int64) (er op sz : Int32) (a : AS) (hI : ab_I a) (hA : mx_A a go gc gb gd gh op) (r k : Nat) (hr : r < 4) (hk : k < a_n a) : jw_Ei l D vCl (vTy cB cI cL) y_M_has s_M_has rm_M_has [.ref (am 0), .int (nI r), .int (nI k)] (wM am cB cI cL go gc gb gd gh gr gt gk gn er op sz) ((jb (a_hd a r k))) := by
  refine jw_ofi (cc := b_M_has) (nL := 3) (ret := (some .boolean)) (by decide) rfl (Nat.le_of_ble_eq_true rfl) (fun p e s m args below meth c A F hnm => ?_)
  refine jw_at (lv' := [(0, .ref (am 0)), (1, .int (nI r)), (2, .int (nI k))]) (st' := []) (ws' := wM am cB cI cL go gc gb gd gh gr gt gk gn er op sz) rfl rfl rfl ?_
  have hn := hI.1
  refine jw_aload_n (pc := 0) F 0 d_M_has_0 rfl rfl ?_
  refine jw_get (pc := 1) F (jms inM) 0 rfl rfl 7 (by decide) (jm w_349) rfl d_M_has_1 ?_
  refine jw_sipush (pc := 4) (v := nI 160) F d_M_has_4 (by decide) ?_
  refine jw_iload_n (pc := 7) F 1 d_M_has_7 rfl rfl ?_
  refine jw_imul (pc := 8) F d_M_has_8 ?_
  rw [pk_mul]
  refine jw_iload_n (pc := 9) F 2 d_M_has_9 rfl rfl ?_
  refine jw_iadd (pc := 10) F d_M_has_10 ?_
  rw [nI_add]
  refine jw_zaldN (pc := 11) F 6 0 rfl rfl (160 * r + k) rfl (by omega) (by decide) d_M_has_11 ?_
  rw [hA.2.2.2.2.2 r hr k hk]
  exact jw_zret F d_M_has_12 (jb_narrow _) ⟨rfl, rfl⟩
set_option maxHeartbeats 4000000 in
set_option maxRecDepth 100000 in
theorem m_hasElement (l : Launch) (D : va_G) (am : Nat → Nat) (cB cI cL : ClassId) (go gc gb gd gh gr gt gk : Nat → Int32) (gn : Nat → Int64) (er op sz : Int32) (a : AS) (hI : ab_I a) (hA : mx_A a go gc gb gd gh op) (r : Nat) (hr : r < 4) (k : Int32) : jw_Ei l D vCl (vTy cB cI cL) y_M_hasElement s_M_hasElement rm_M_hasElement [.ref (am 0), .int (nI r), .int k] (wM am cB cI cL go gc gb gd gh gr gt gk gn er op sz) ((jb (a_haseB a r k))) := by
  refine jw_ofi (cc := b_M_hasElement) (nL := 3) (ret := (some .boolean)) (by decide) rfl (Nat.le_of_ble_eq_true rfl) (fun p e s m args below meth c A F hnm => ?_)
  refine jw_at (lv' := [(0, .ref (am 0)), (1, .int (nI r)), (2, .int k)]) (st' := []) (ws' := wM am cB cI cL go gc gb gd gh gr gt gk gn er op sz) rfl rfl rfl ?_
  have hn := hI.1
  refine jw_aload_n (pc := 0) F 0 d_M_hasElement_0 rfl rfl ?_
  refine jw_iload_n (pc := 1) F 2 d_M_hasElement_1 rfl rfl ?_
  refine jw_callV_Ei (pc := 2) (As := [.int k]) (rest := []) F ([]) ([]) (m_isThere l D am cB cI cL go gc gb gd gh gr gt gk gn er op sz (a_n a) hn hA.1 k) (jw_cwV F.1.2.2.2.2 wl_good w_402 w_404 w_19 w_30 w_405 hd_M_isThere ⟨by decide, by decide⟩) 0 1 rfl rfl rfl (by simp) rfl rfl (Nat.le_of_ble_eq_true rfl) d_M_hasElement_2 ⟨rfl, rfl⟩ ⟨by decide, by decide⟩ ?_
  refine jw_if_eq (pc := 5) F 30 d_M_hasElement_5 (by decide) (fun h1 => ?_) (fun h1 => ?_)
  · refine jw_iconst (pc := 30) (v := 0) F d_M_hasElement_30 (by decide) ?_
    exact jw_zret F d_M_hasElement_31 (by decide) ⟨by unfold a_haseB; rw [jb_0.mp h1]; rfl, rfl⟩
  · obtain ⟨j, hj, rfl⟩ := a_isop_t (by omega) (jb_n.mp h1)
    refine jw_aload_n (pc := 8) F 0 d_M_hasElement_8 rfl rfl ?_
    refine jw_get (pc := 9) F (jms inM) 0 rfl rfl 6 (by decide) (jm w_348) rfl d_M_hasElement_9 ?_
    refine jw_iload_n (pc := 12) F 2 d_M_hasElement_12 rfl rfl ?_
    refine jw_zaldN (pc := 13) F 5 0 rfl rfl j rfl (by omega) (by decide) d_M_hasElement_13 ?_
    rw [hA.2.2.2.2.1 j hj]
    refine jw_if_ne (pc := 14) F 30 d_M_hasElement_14 (by decide) (fun h2 => ?_) (fun h2 => ?_)
    · refine jw_iconst (pc := 30) (v := 0) F d_M_hasElement_30 (by decide) ?_
      exact jw_zret F d_M_hasElement_31 (by decide) ⟨by rw [a_haseB_nI hn hj, jb_n.mp h2]; rfl, rfl⟩
    · refine jw_aload_n (pc := 17) F 0 d_M_hasElement_17 rfl rfl ?_
      refine jw_iload_n (pc := 18) F 1 d_M_hasElement_18 rfl rfl ?_
      refine jw_iload_n (pc := 19) F 2 d_M_hasElement_19 rfl rfl ?_
      refine jw_callV_Ei (pc := 20) (As := [.int (nI r), .int (nI j)]) (rest := []) F ([]) ([]) (m_has l D am cB cI cL go gc gb gd gh gr gt gk gn er op sz a hI hA r j hr hj) (jw_cwV F.1.2.2.2.2 wl_good w_406 w_408 w_20 w_30 w_409 hd_M_has ⟨by decide, by decide⟩) 0 1 rfl rfl rfl (by simp) rfl rfl (Nat.le_of_ble_eq_true rfl) d_M_hasElement_20 ⟨rfl, rfl⟩ ⟨by decide, by decide⟩ ?_
      refine jw_if_eq (pc := 23) F 30 d_M_hasElement_23 (by decide) (fun h3 => ?_) (fun h3 => ?_)
      · refine jw_iconst (pc := 30) (v := 0) F d_M_hasElement_30 (by decide) ?_
        exact jw_zret F d_M_hasElement_31 (by decide) ⟨by rw [a_haseB_nI hn hj, jb_0.mp h2, jb_0.mp h3]; rfl, rfl⟩
      · refine jw_iconst (pc := 26) (v := 1) F d_M_hasElement_26 (by decide) ?_
        refine jw_goto (pc := 27) F 31 d_M_hasElement_27 (by decide) ?_
        exact jw_zret F d_M_hasElement_31 (by decide) ⟨by rw [a_haseB_nI hn hj, jb_0.mp h2, jb_n.mp h3]; rfl, rfl⟩
set_option maxHeartbeats 4000000 in
set_option maxRecDepth 100000 in
theorem m_isLess (l : Launch) (D : va_G) (am : Nat → Nat) (cB cI cL : ClassId) (go gc gb gd gh gr gt gk : Nat → Int32) (gn : Nat → Int64) (er op sz : Int32) (a : AS) (hI : ab_I a) (hA : mx_A a go gc gb gd gh op) (i j : Nat) (hi : i < a_n a) (hj : j < a_n a) : jw_Ei l D vCl (vTy cB cI cL) y_M_isLess s_M_isLess rm_M_isLess [.ref (am 0), .int (nI i), .int (nI j)] (wM am cB cI cL go gc gb gd gh gr gt gk gn er op sz) ((jb (a_ltb a i j))) := by
  refine jw_ofi (cc := b_M_isLess) (nL := 3) (ret := (some .boolean)) (by decide) rfl (Nat.le_of_ble_eq_true rfl) (fun p e s m args below meth c A F hnm => ?_)
  refine jw_at (lv' := [(0, .ref (am 0)), (1, .int (nI i)), (2, .int (nI j))]) (st' := []) (ws' := wM am cB cI cL go gc gb gd gh gr gt gk gn er op sz) rfl rfl rfl ?_
  have hn := hI.1
  have hq := mx_ltb hI hA hi hj
  refine jw_aload_n (pc := 0) F 0 d_M_isLess_0 rfl rfl ?_
  refine jw_get (pc := 1) F (jms inM) 0 rfl rfl 3 (by decide) (jm w_345) rfl d_M_isLess_1 ?_
  refine jw_iload_n (pc := 4) F 1 d_M_isLess_4 rfl rfl ?_
  refine jw_ialdN (pc := 5) F 2 1 rfl rfl i rfl (by omega) (by decide) d_M_isLess_5 ?_
  refine jw_aload_n (pc := 6) F 0 d_M_isLess_6 rfl rfl ?_
  refine jw_get (pc := 7) F (jms inM) 0 rfl rfl 3 (by decide) (jm w_345) rfl d_M_isLess_7 ?_
  refine jw_iload_n (pc := 10) F 2 d_M_isLess_10 rfl rfl ?_
  refine jw_ialdN (pc := 11) F 2 1 rfl rfl j rfl (by omega) (by decide) d_M_isLess_11 ?_
  refine jw_icmp_eq (pc := 12) F 38 d_M_isLess_12 (by decide) (fun h1 => ?_) (fun h1 => ?_)
  · refine jw_aload_n (pc := 38) F 0 d_M_isLess_38 rfl rfl ?_
    refine jw_get (pc := 39) F (jms inM) 0 rfl rfl 4 (by decide) (jm w_346) rfl d_M_isLess_39 ?_
    refine jw_iload_n (pc := 42) F 1 d_M_isLess_42 rfl rfl ?_
    refine jw_ialdN (pc := 43) F 3 1 rfl rfl i rfl (by omega) (by decide) d_M_isLess_43 ?_
    refine jw_aload_n (pc := 44) F 0 d_M_isLess_44 rfl rfl ?_
    refine jw_get (pc := 45) F (jms inM) 0 rfl rfl 4 (by decide) (jm w_346) rfl d_M_isLess_45 ?_
    refine jw_iload_n (pc := 48) F 2 d_M_isLess_48 rfl rfl ?_
    refine jw_ialdN (pc := 49) F 3 1 rfl rfl j rfl (by omega) (by decide) d_M_isLess_49 ?_
    refine jw_icmp_ge (pc := 50) F 57 d_M_isLess_50 (by decide) (fun h2 => ?_) (fun h2 => ?_)
    · refine jw_iconst (pc := 57) (v := 0) F d_M_isLess_57 (by decide) ?_
      exact jw_zret F d_M_isLess_58 (by decide) ⟨by rw [hq]; simp [jb, h1, Int32.not_lt.mpr h2], rfl⟩
    · refine jw_iconst (pc := 53) (v := 1) F d_M_isLess_53 (by decide) ?_
      refine jw_goto (pc := 54) F 58 d_M_isLess_54 (by decide) ?_
      exact jw_zret F d_M_isLess_58 (by decide) ⟨by rw [hq]; simp [jb, h1, Int32.not_le.mp h2], rfl⟩
  · refine jw_aload_n (pc := 15) F 0 d_M_isLess_15 rfl rfl ?_
    refine jw_get (pc := 16) F (jms inM) 0 rfl rfl 3 (by decide) (jm w_345) rfl d_M_isLess_16 ?_
    refine jw_iload_n (pc := 19) F 1 d_M_isLess_19 rfl rfl ?_
    refine jw_ialdN (pc := 20) F 2 1 rfl rfl i rfl (by omega) (by decide) d_M_isLess_20 ?_
    refine jw_aload_n (pc := 21) F 0 d_M_isLess_21 rfl rfl ?_
    refine jw_get (pc := 22) F (jms inM) 0 rfl rfl 3 (by decide) (jm w_345) rfl d_M_isLess_22 ?_
    refine jw_iload_n (pc := 25) F 2 d_M_isLess_25 rfl rfl ?_
    refine jw_ialdN (pc := 26) F 2 1 rfl rfl j rfl (by omega) (by decide) d_M_isLess_26 ?_
    refine jw_icmp_ge (pc := 27) F 34 d_M_isLess_27 (by decide) (fun h2 => ?_) (fun h2 => ?_)
    · refine jw_iconst (pc := 34) (v := 0) F d_M_isLess_34 (by decide) ?_
      refine jw_goto (pc := 35) F 58 d_M_isLess_35 (by decide) ?_
      exact jw_zret F d_M_isLess_58 (by decide) ⟨by rw [hq]; simp [jb, Int32.not_lt.mpr h2, h1], rfl⟩
    · refine jw_iconst (pc := 30) (v := 1) F d_M_isLess_30 (by decide) ?_
      refine jw_goto (pc := 31) F 58 d_M_isLess_31 (by decide) ?_
      exact jw_zret F d_M_isLess_58 (by decide) ⟨by rw [hq]; simp [jb, Int32.not_le.mp h2], rfl⟩
set_option maxHeartbeats 4000000 in
set_option maxRecDepth 100000 in
theorem m_greatest (l : Launch) (D : va_G) (am : Nat → Nat) (cB cI cL : ClassId) (go gc gb gd gh gr gt gk : Nat → Int32) (gn : Nat → Int64) (er op sz : Int32) (a : AS) (hI : ab_I a) (hA : mx_A a go gc gb gd gh op) (r : Nat) (hr : r < 4) : jw_Ei l D vCl (vTy cB cI cL) y_M_greatest s_M_greatest rm_M_greatest [.ref (am 0), .int (nI r)] (wM am cB cI cL go gc gb gd gh gr gt gk gn er op sz) ((nI (a_gr a r))) := by
  refine jw_ofi (cc := b_M_greatest) (nL := 4) (ret := (some .int)) (by decide) rfl (Nat.le_of_ble_eq_true rfl) (fun p e s m args below meth c A F hnm => ?_)
  refine jw_at (lv' := [(0, .ref (am 0)), (1, .int (nI r))]) (st' := []) (ws' := wM am cB cI cL go gc gb gd gh gr gt gk gn er op sz) rfl rfl rfl ?_
  have hn := hI.1
  have hop := hA.1
  subst hop
  have loop : ∀ (t i : Nat), i + t = a_n a → jw_J p l e rm_M_greatest s m args below meth c D vCl A 4 (MQ below (va_Qi (fun r9 w9 => r9 = (nI (a_gr a r)) ∧ w9 = wM am cB cI cL go gc gb gd gh gr gt gk gn er (nI (a_n a)) sz) (jw_B D vCl (vTy cB cI cL) A) A) args s rm_M_greatest.cells rm_M_greatest.slots A) 0 0 4 [(0, .ref (am 0)), (1, .int (nI r)), (2, .int (nI (ab_max (a_hd a r) (a_ct a) i))), (3, .int (nI i))] [] (wM am cB cI cL go gc gb gd gh gr gt gk gn er (nI (a_n a)) sz) := by
    intro t
    induction t with
    | zero =>
      intro i hi
      obtain rfl : i = a_n a := hi
      refine jw_iload_n (pc := 4) F 3 d_M_greatest_4 rfl rfl ?_
      refine jw_aload_n (pc := 5) F 0 d_M_greatest_5 rfl rfl ?_
      refine jw_get (pc := 6) F (jms inM) 0 rfl rfl 1 (by decide) (jm w_343) rfl d_M_greatest_6 ?_
      refine jw_icmp_ge (pc := 9) F 38 d_M_greatest_9 (by decide) (fun hz1 => ?_) (fun hz1 => False.elim (hz1 (nI_le (Nat.le_refl _) (by omega))))
      refine jw_iload_n (pc := 38) F 2 d_M_greatest_38 rfl rfl ?_
      exact jw_iret F d_M_greatest_39 ⟨rfl, rfl⟩
    | succ t ih =>
      intro i hi
      have hlt : i < a_n a := by omega
      have b1 := (hI.2.2.2.1 i hlt).2.2
      have b2 : ab_max (a_hd a r) (a_ct a) i ≤ 161 := ab_max_le (fun k hk _ => by have := (hI.2.2.2.1 k (by omega)).2.2; omega)
      refine jw_iload_n (pc := 4) F 3 d_M_greatest_4 rfl rfl ?_
      refine jw_aload_n (pc := 5) F 0 d_M_greatest_5 rfl rfl ?_
      refine jw_get (pc := 6) F (jms inM) 0 rfl rfl 1 (by decide) (jm w_343) rfl d_M_greatest_6 ?_
      refine jw_icmp_ge (pc := 9) F 38 d_M_greatest_9 (by decide) (fun hz2 => False.elim (nI_ge hlt (by omega) hz2)) (fun hz2 => ?_)
      refine jw_aload_n (pc := 12) F 0 d_M_greatest_12 rfl rfl ?_
      refine jw_iload_n (pc := 13) F 1 d_M_greatest_13 rfl rfl ?_
      refine jw_iload_n (pc := 14) F 3 d_M_greatest_14 rfl rfl ?_
      refine jw_callV_Ei (pc := 15) (As := [.int (nI r), .int (nI i)]) (rest := []) F ([]) ([]) (m_has l D am cB cI cL go gc gb gd gh gr gt gk gn er (nI (a_n a)) sz a hI hA r i hr hlt) (jw_cwV F.1.2.2.2.2 wl_good w_406 w_408 w_20 w_30 w_409 hd_M_has ⟨by decide, by decide⟩) 0 1 rfl rfl rfl (by simp) rfl rfl (Nat.le_of_ble_eq_true rfl) d_M_greatest_15 ⟨rfl, rfl⟩ ⟨by decide, by decide⟩ ?_
      refine jw_if_eq (pc := 18) F 32 d_M_greatest_18 (by decide) (fun h1 => ?_) (fun h1 => ?_)
      · refine jw_iinc (pc := 32) (v := nI (i + 1)) (lv' := [(0, .ref (am 0)), (1, .int (nI r)), (2, .int (nI (ab_max (a_hd a r) (a_ct a) i))), (3, .int (nI (i + 1)))]) F 3 d_M_greatest_32 rfl (jw_inc _) (by decide) rfl ?_
        refine jw_goto (pc := 35) F 4 d_M_greatest_35 (by decide) ?_
        have q := ih (i + 1) (by omega)
        rw [show ab_max (a_hd a r) (a_ct a) (i + 1) = ab_max (a_hd a r) (a_ct a) i by show (if _ then _ else _) = _; rw [if_neg (by rw [jb_0.mp h1]; decide)]] at q
        exact q
      · refine jw_iload_n (pc := 21) F 2 d_M_greatest_21 rfl rfl ?_
        refine jw_aload_n (pc := 22) F 0 d_M_greatest_22 rfl rfl ?_
        refine jw_get (pc := 23) F (jms inM) 0 rfl rfl 3 (by decide) (jm w_345) rfl d_M_greatest_23 ?_
        refine jw_iload_n (pc := 26) F 3 d_M_greatest_26 rfl rfl ?_
        refine jw_ialdN (pc := 27) F 2 1 rfl rfl i rfl (by omega) (by decide) d_M_greatest_27 ?_
        refine jw_mmax (pc := 28) F (jm w_418) (jm w_229) (jm w_37) (jm w_230) (by decide) (Nat.le_of_ble_eq_true rfl) (by decide) (by decide) d_M_greatest_28 ?_
        rw [hA.2.2.1 i hlt, ab_imax (by omega) (by omega)]
        refine jw_istore_n (pc := 31) (lv' := [(0, .ref (am 0)), (1, .int (nI r)), (2, .int (nI (Nat.max (ab_max (a_hd a r) (a_ct a) i) (a_ct a i)))), (3, .int (nI i))]) F d_M_greatest_31 rfl (by decide) rfl ?_
        refine jw_iinc (pc := 32) (v := nI (i + 1)) (lv' := [(0, .ref (am 0)), (1, .int (nI r)), (2, .int (nI (Nat.max (ab_max (a_hd a r) (a_ct a) i) (a_ct a i)))), (3, .int (nI (i + 1)))]) F 3 d_M_greatest_32 rfl (jw_inc _) (by decide) rfl ?_
        refine jw_goto (pc := 35) F 4 d_M_greatest_35 (by decide) ?_
        have q := ih (i + 1) (by omega)
        rw [show ab_max (a_hd a r) (a_ct a) (i + 1) = Nat.max (ab_max (a_hd a r) (a_ct a) i) (a_ct a i) by show (if _ then _ else _) = _; rw [if_pos (jb_n.mp h1)]] at q
        exact q
  refine jw_iconst (pc := 0) (v := nI 0) F d_M_greatest_0 (by decide) ?_
  refine jw_istore_n (pc := 1) (lv' := [(0, .ref (am 0)), (1, .int (nI r)), (2, .int (nI 0))]) F d_M_greatest_1 rfl (by decide) rfl ?_
  refine jw_iconst (pc := 2) (v := nI 0) F d_M_greatest_2 (by decide) ?_
  refine jw_istore_n (pc := 3) (lv' := [(0, .ref (am 0)), (1, .int (nI r)), (2, .int (nI 0)), (3, .int (nI 0))]) F d_M_greatest_3 rfl (by decide) rfl ?_
  exact loop (a_n a) 0 (by omega)
