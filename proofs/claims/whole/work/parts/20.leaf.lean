/-! the class's cells: the object and its nine arrays -/
def wX (ad : Nat → Nat) (cB cI cL : ClassId) (f0 f1 f2 f3 f4 f5 f6 f7 : Nat → Int32) (v : Nat → Int64) (md ln : Int32) : va_W :=
  [(ad 0, .inr (0, [.int md, .ref (ad 1), .ref (ad 2), .ref (ad 3), .ref (ad 4), .ref (ad 5), .ref (ad 6), .ref (ad 7), .ref (ad 8), .ref (ad 9), .int ln])),
   (ad 1, .inl (cB, 160, .inl f0)), (ad 2, .inl (cI, 160, .inl f1)), (ad 3, .inl (cL, 160, .inr (.inl v))), (ad 4, .inl (cI, 160, .inl f2)), (ad 5, .inl (cI, 160, .inl f3)), (ad 6, .inl (cI, 160, .inl f4)), (ad 7, .inl (cI, 160, .inl f5)), (ad 8, .inl (cI, 4, .inl f6)), (ad 9, .inl (cI, 160, .inl f7))]
theorem cx_h0 {a : AS} {f4 : Nat → Int32} {r k : Nat} (h4 : ∀ k, k < 160 → f4 k = nI (ab_mask (fun r => a_hd a r k))) (hk : k < 160) (hr : r < 4) : f4 k &&& ab_bit r = 0 ↔ a_hd a r k = false := by rw [h4 k hk]; exact ab_mask_bit (h := fun r => a_hd a r k) hr
theorem cx_d0 {a : AS} {f5 : Nat → Int32} {r k : Nat} (h5 : ∀ e, e < 160 → f5 e = nI (ab_mask (fun r => a_del a r e))) (hk : k < 160) (hr : r < 4) : f5 k &&& ab_bit r = 0 ↔ a_del a r k = false := by rw [h5 k hk]; exact ab_mask_bit (h := fun r => a_del a r k) hr
theorem ts_nf9 {x : Bool} (h : ¬ x = false) : x = true := by cases x <;> simp_all
theorem w_46 : Cond.fieldLink RX 7 "WovenRow" "made" "I" ∈ WL := jwl 46 rfl rfl
theorem w_52 : Cond.fieldLink RX 31 "WovenRow" "holders" "[I" ∈ WL := jwl 52 rfl rfl
theorem w_201 : Cond.methodLink RX 117 y_X_bitOf ∈ WL := jwl 201 rfl rfl
theorem w_202 : Cond.static y_X_bitOf ∈ WL := jwl 202 rfl rfl
theorem w_29 : Cond.initialized RX ∈ WL := jwl 29 rfl rfl
theorem w_203 : Cond.code y_X_bitOf b_X_bitOf 1 (some .int) ∈ WL := jwl 203 rfl rfl
abbrev rm_X_isOperation : Room := { frames := 0, cells := 0, slots := 0, locals := 0 }
abbrev rm_X_isHeld : Room := { frames := 1, cells := 0, slots := 0, locals := 20 }
abbrev rm_X_bitOf : Room := { frames := 0, cells := 0, slots := 0, locals := 0 }
set_option maxHeartbeats 4000000 in
set_option maxRecDepth 100000 in
theorem c_bitOf (l : Launch) (D : va_G) (cB cI cL : ClassId) (r : Nat) : jw_Ei l D vCl (vTy cB cI cL) y_X_bitOf s_X_bitOf rm_X_bitOf [.int (nI r)] ([]) ((ab_bit r)) := by
  refine jw_ofi (cc := b_X_bitOf) (nL := 1) (ret := (some .int)) (by decide) rfl (Nat.le_of_ble_eq_true rfl) (fun p e s m args below meth c A F hnm => ?_)
  refine jw_at (lv' := [(0, .int (nI r))]) (st' := []) (ws' := []) rfl rfl rfl ?_
  refine jw_iconst (pc := 0) (v := 1) F d_X_bitOf_0 (by decide) ?_
  refine jw_iload_n (pc := 1) F 0 d_X_bitOf_1 rfl rfl ?_
  refine jw_ishl (pc := 2) F d_X_bitOf_2 ?_
  exact jw_iret F d_X_bitOf_3 ⟨rfl, rfl⟩
set_option maxHeartbeats 4000000 in
set_option maxRecDepth 100000 in
theorem c_isOperation (l : Launch) (D : va_G) (ad : Nat → Nat) (cB cI cL : ClassId) (f0 f1 f2 f3 f4 f5 f6 f7 : Nat → Int32) (v : Nat → Int64) (md ln : Int32) (n : Nat) (hmd : md = nI n) (k : Int32) : jw_Ei l D vCl (vTy cB cI cL) y_X_isOperation s_X_isOperation rm_X_isOperation [.ref (ad 0), .int k] (wX ad cB cI cL f0 f1 f2 f3 f4 f5 f6 f7 v md ln) ((jb (a_isop n k))) := by
  refine jw_ofi (cc := b_X_isOperation) (nL := 2) (ret := (some .boolean)) (by decide) rfl (Nat.le_of_ble_eq_true rfl) (fun p e s m args below meth c A F hnm => ?_)
  refine jw_at (lv' := [(0, .ref (ad 0)), (1, .int k)]) (st' := []) (ws' := wX ad cB cI cL f0 f1 f2 f3 f4 f5 f6 f7 v md ln) rfl rfl rfl ?_
  refine jw_iload_n (pc := 0) F 1 d_X_isOperation_0 rfl rfl ?_
  refine jw_if_lt (pc := 1) F 16 d_X_isOperation_1 (by decide) (fun h1 => ?_) (fun h1 => ?_)
  · refine jw_iconst (pc := 16) (v := 0) F d_X_isOperation_16 (by decide) ?_
    exact jw_zret F d_X_isOperation_17 (by decide) ⟨by simp [a_isop, jb, h1], rfl⟩
  · refine jw_iload_n (pc := 4) F 1 d_X_isOperation_4 rfl rfl ?_
    refine jw_aload_n (pc := 5) F 0 d_X_isOperation_5 rfl rfl ?_
    refine jw_get (pc := 6) F (jms inX) 0 rfl rfl 0 (by decide) (jm w_46) rfl d_X_isOperation_6 ?_
    refine jw_icmp_ge (pc := 9) F 16 d_X_isOperation_9 (by decide) (fun h2 => ?_) (fun h2 => ?_)
    · refine jw_iconst (pc := 16) (v := 0) F d_X_isOperation_16 (by decide) ?_
      exact jw_zret F d_X_isOperation_17 (by decide) ⟨by rw [hmd] at h2; rw [show a_isop n k = false by simp [a_isop, Int32.not_lt.mpr h2]]; rfl, rfl⟩
    · refine jw_iconst (pc := 12) (v := 1) F d_X_isOperation_12 (by decide) ?_
      refine jw_goto (pc := 13) F 17 d_X_isOperation_13 (by decide) ?_
      exact jw_zret F d_X_isOperation_17 (by decide) ⟨by rw [hmd] at h2; rw [show a_isop n k = true by simp [a_isop, h1, Int32.not_le.mp h2]]; rfl, rfl⟩
set_option maxHeartbeats 4000000 in
set_option maxRecDepth 100000 in
theorem c_isHeld (l : Launch) (D : va_G) (ad : Nat → Nat) (cB cI cL : ClassId) (f0 f1 f2 f3 f4 f5 f6 f7 : Nat → Int32) (v : Nat → Int64) (md ln : Int32) (a : AS) (r k : Nat) (hA : cx_A a f0 f1 f2 f3 f4 f5 f6 md) (hr : r < 4) (hk : k < 160) : jw_Ei l D vCl (vTy cB cI cL) y_X_isHeld s_X_isHeld rm_X_isHeld [.ref (ad 0), .int (nI r), .int (nI k)] (wX ad cB cI cL f0 f1 f2 f3 f4 f5 f6 f7 v md ln) ((jb (a_hd a r k))) := by
  refine jw_ofi (cc := b_X_isHeld) (nL := 3) (ret := (some .boolean)) (by decide) rfl (Nat.le_of_ble_eq_true rfl) (fun p e s m args below meth c A F hnm => ?_)
  refine jw_at (lv' := [(0, .ref (ad 0)), (1, .int (nI r)), (2, .int (nI k))]) (st' := []) (ws' := wX ad cB cI cL f0 f1 f2 f3 f4 f5 f6 f7 v md ln) rfl rfl rfl ?_
  refine jw_aload_n (pc := 0) F 0 d_X_isHeld_0 rfl rfl ?_
  refine jw_get (pc := 1) F (jms inX) 0 rfl rfl 6 (by decide) (jm w_52) rfl d_X_isHeld_1 ?_
  refine jw_iload_n (pc := 4) F 2 d_X_isHeld_4 rfl rfl ?_
  refine jw_ialdN (pc := 5) F 6 1 rfl rfl k rfl (by omega) (by decide) d_X_isHeld_5 ?_
  refine jw_iload_n (pc := 6) F 1 d_X_isHeld_6 rfl rfl ?_
  refine jw_callS_Ei (pc := 7) (As := [.int (nI r)]) (rest := [.int (f4 k)]) F (c_bitOf l D cB cI cL r) (jw_cwS F.1.2.2.2.2 wl_good w_201 w_202 w_29 w_203 hd_X_bitOf ⟨by decide, by decide⟩) rfl rfl (Nat.le_of_ble_eq_true rfl) d_X_isHeld_7 ⟨rfl, rfl⟩ ⟨by decide, by decide⟩ ?_
  refine jw_iand (pc := 10) F d_X_isHeld_10 ?_
  refine jw_if_eq (pc := 11) F 18 d_X_isHeld_11 (by decide) (fun h1 => ?_) (fun h1 => ?_)
  · refine jw_iconst (pc := 18) (v := 0) F d_X_isHeld_18 (by decide) ?_
    exact jw_zret F d_X_isHeld_19 (by decide) ⟨by rw [(cx_h0 hA.2.2.2.2.2.1 hk hr).mp h1]; rfl, rfl⟩
  · refine jw_iconst (pc := 14) (v := 1) F d_X_isHeld_14 (by decide) ?_
    refine jw_goto (pc := 15) F 19 d_X_isHeld_15 (by decide) ?_
    exact jw_zret F d_X_isHeld_19 (by decide) ⟨by rw [ts_nf9 (fun q => h1 ((cx_h0 hA.2.2.2.2.2.1 hk hr).mpr q))]; rfl, rfl⟩
