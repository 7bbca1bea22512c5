def a_isel (a : AS) (k : Int32) : Bool := a_isop (a_n a) k && !a_dl a k.toNatClampNeg
theorem a_isel_nI {a : AS} {j : Nat} (hn : a_n a ≤ 160) (hj : j < a_n a) : a_isel a (nI j) = !a_dl a j := by
  unfold a_isel
  rw [a_isop_nI (by omega) hj, nI_clamp (by omega)]
  rfl
theorem cx_ltb {a : AS} {f0 f1 f2 f3 f4 f5 f6 : Nat → Int32} {md : Int32} (hB : cx_B a) (hm : ∀ k, k < a_n a → a_mk a k < 4) (hA : cx_A a f0 f1 f2 f3 f4 f5 f6 md) {i j : Nat} (hi : i < a_n a) (hj : j < a_n a) : a_ltb a j i = (decide (f2 j < f2 i) || (decide (f2 j = f2 i) && decide (f3 j < f3 i))) := by
  have b1 := hB.2.1 i hi
  have b2 := hB.2.1 j hj
  have b3 := hm i hi
  have b4 := hm j hj
  rw [hA.2.2.2.1 i hi, hA.2.2.2.1 j hj, hA.2.2.2.2.1 i hi, hA.2.2.2.2.1 j hj]
  unfold a_ltb
  simp only [nI_ltI (show a_ct a j < 2 ^ 31 by omega) (show a_ct a i < 2 ^ 31 by omega), nI_eq (show a_ct a j < 2 ^ 31 by omega) (show a_ct a i < 2 ^ 31 by omega), nI_ltI (show a_mk a j < 2 ^ 31 by omega) (show a_mk a i < 2 ^ 31 by omega)]
theorem gl_range_s {f : Nat → Bool} {i : Nat} : (List.range (i + 1)).countP f = (List.range i).countP f + (if f i = true then 1 else 0) := by
  rw [List.range_succ, List.countP_append, List.countP_cons, List.countP_nil]
  simp
theorem w_193 : Cond.methodLink RX 107 y_X_isOperation ∈ WL := jwl 193 rfl rfl
theorem w_195 : Cond.instanceMethod y_X_isOperation ∈ WL := jwl 195 rfl rfl
theorem w_5 : Cond.selects RX y_X_isOperation y_X_isOperation ∈ WL := jwl 5 rfl rfl
theorem w_196 : Cond.code y_X_isOperation b_X_isOperation 2 (some .boolean) ∈ WL := jwl 196 rfl rfl
theorem w_47 : Cond.fieldLink RX 13 "WovenRow" "isDelete" "[Z" ∈ WL := jwl 47 rfl rfl
theorem w_197 : Cond.methodLink RX 70 y_X_isHeld ∈ WL := jwl 197 rfl rfl
theorem w_199 : Cond.instanceMethod y_X_isHeld ∈ WL := jwl 199 rfl rfl
theorem w_6 : Cond.selects RX y_X_isHeld y_X_isHeld ∈ WL := jwl 6 rfl rfl
theorem w_200 : Cond.code y_X_isHeld b_X_isHeld 3 (some .boolean) ∈ WL := jwl 200 rfl rfl
theorem w_53 : Cond.fieldLink RX 34 "WovenRow" "deleters" "[I" ∈ WL := jwl 53 rfl rfl
theorem w_50 : Cond.fieldLink RX 25 "WovenRow" "stampCount" "[I" ∈ WL := jwl 50 rfl rfl
theorem w_51 : Cond.fieldLink RX 28 "WovenRow" "maker" "[I" ∈ WL := jwl 51 rfl rfl
theorem w_54 : Cond.fieldLink RX 37 "WovenRow" "greatestCount" "[I" ∈ WL := jwl 54 rfl rfl
theorem w_228 : Cond.methodLink RX 120 Lib.Math.max.name ∈ WL := jwl 228 rfl rfl
theorem w_229 : Cond.static Lib.Math.max.name ∈ WL := jwl 229 rfl rfl
theorem w_37 : Cond.initialized "java/lang/Math" ∈ WL := jwl 37 rfl rfl
theorem w_230 : Cond.code Lib.Math.max.name Lib.Math.max.code 2 (some .int) ∈ WL := jwl 230 rfl rfl
theorem w_48 : Cond.fieldLink RX 17 "WovenRow" "target" "[I" ∈ WL := jwl 48 rfl rfl
theorem w_224 : Cond.methodLink RX 67 y_X_take ∈ WL := jwl 224 rfl rfl
theorem w_226 : Cond.instanceMethod y_X_take ∈ WL := jwl 226 rfl rfl
theorem w_8 : Cond.selects RX y_X_take y_X_take ∈ WL := jwl 8 rfl rfl
theorem w_227 : Cond.code y_X_take b_X_take 3 none ∈ WL := jwl 227 rfl rfl
abbrev rm_X_isElement : Room := { frames := 1, cells := 0, slots := 0, locals := 21 }
abbrev rm_X_isSeen : Room := { frames := 2, cells := 0, slots := 0, locals := 42 }
abbrev rm_X_make : Room := { frames := 2, cells := 0, slots := 0, locals := 43 }
abbrev rm_X_take : Room := { frames := 1, cells := 0, slots := 0, locals := 21 }
abbrev rm_X_isGreater : Room := { frames := 0, cells := 0, slots := 0, locals := 0 }
abbrev rm_X_countHeldOperations : Room := { frames := 2, cells := 0, slots := 0, locals := 42 }
set_option maxHeartbeats 4000000 in
set_option maxRecDepth 100000 in
theorem c_isElement (l : Launch) (D : va_G) (ad : Nat → Nat) (cB cI cL : ClassId) (f0 f1 f2 f3 f4 f5 f6 f7 : Nat → Int32) (v : Nat → Int64) (md ln : Int32) (a : AS) (hB : cx_B a) (hA : cx_A a f0 f1 f2 f3 f4 f5 f6 md) (k : Int32) : jw_Ei l D vCl (vTy cB cI cL) y_X_isElement s_X_isElement rm_X_isElement [.ref (ad 0), .int k] (wX ad cB cI cL f0 f1 f2 f3 f4 f5 f6 f7 v md ln) ((jb (a_isel a k))) := by
  refine jw_ofi (cc := b_X_isElement) (nL := 2) (ret := (some .boolean)) (by decide) rfl (Nat.le_of_ble_eq_true rfl) (fun p e s m args below meth c A F hnm => ?_)
  refine jw_at (lv' := [(0, .ref (ad 0)), (1, .int k)]) (st' := []) (ws' := wX ad cB cI cL f0 f1 f2 f3 f4 f5 f6 f7 v md ln) rfl rfl rfl ?_
  have hn := hB.1
  refine jw_aload_n (pc := 0) F 0 d_X_isElement_0 rfl rfl ?_
  refine jw_iload_n (pc := 1) F 1 d_X_isElement_1 rfl rfl ?_
  refine jw_callV_Ei (pc := 2) (As := [.int k]) (rest := []) F ([]) ([]) (c_isOperation l D ad cB cI cL f0 f1 f2 f3 f4 f5 f6 f7 v md ln (a_n a) hA.1 k) (jw_cwV F.1.2.2.2.2 wl_good w_193 w_195 w_5 w_29 w_196 hd_X_isOperation ⟨by decide, by decide⟩) 0 0 rfl rfl rfl (by simp) rfl rfl (Nat.le_of_ble_eq_true rfl) d_X_isElement_2 ⟨rfl, rfl⟩ ⟨by decide, by decide⟩ ?_
  refine jw_if_eq (pc := 5) F 21 d_X_isElement_5 (by decide) (fun h1 => ?_) (fun h1 => ?_)
  · refine jw_iconst (pc := 21) (v := 0) F d_X_isElement_21 (by decide) ?_
    exact jw_zret F d_X_isElement_22 (by decide) ⟨by rw [show a_isel a k = false by unfold a_isel; rw [jb_0.mp h1]; rfl]; rfl, rfl⟩
  · obtain ⟨j, hj, rfl⟩ := a_isop_t (by omega) (jb_n.mp h1)
    refine jw_aload_n (pc := 8) F 0 d_X_isElement_8 rfl rfl ?_
    refine jw_get (pc := 9) F (jms inX) 0 rfl rfl 1 (by decide) (jm w_47) rfl d_X_isElement_9 ?_
    refine jw_iload_n (pc := 12) F 1 d_X_isElement_12 rfl rfl ?_
    refine jw_zaldN (pc := 13) F 1 0 rfl rfl j rfl (by omega) (by decide) d_X_isElement_13 ?_
    rw [hA.2.1 j hj]
    refine jw_if_ne (pc := 14) F 21 d_X_isElement_14 (by decide) (fun h2 => ?_) (fun h2 => ?_)
    · refine jw_iconst (pc := 21) (v := 0) F d_X_isElement_21 (by decide) ?_
      exact jw_zret F d_X_isElement_22 (by decide) ⟨by rw [a_isel_nI hn hj, jb_n.mp h2]; rfl, rfl⟩
    · refine jw_iconst (pc := 17) (v := 1) F d_X_isElement_17 (by decide) ?_
      refine jw_goto (pc := 18) F 22 d_X_isElement_18 (by decide) ?_
      exact jw_zret F d_X_isElement_22 (by decide) ⟨by rw [a_isel_nI hn hj, jb_0.mp h2]; rfl, rfl⟩
set_option maxHeartbeats 4000000 in
set_option maxRecDepth 100000 in
theorem c_isSeen (l : Launch) (D : va_G) (ad : Nat → Nat) (cB cI cL : ClassId) (f0 f1 f2 f3 f4 f5 f6 f7 : Nat → Int32) (v : Nat → Int64) (md ln : Int32) (a : AS) (r k : Nat) (hA : cx_A a f0 f1 f2 f3 f4 f5 f6 md) (hr : r < 4) (hk : k < 160) : jw_Ei l D vCl (vTy cB cI cL) y_X_isSeen s_X_isSeen rm_X_isSeen [.ref (ad 0), .int (nI r), .int (nI k)] (wX ad cB cI cL f0 f1 f2 f3 f4 f5 f6 f7 v md ln) ((jb (a_seen a r k))) := by
  refine jw_ofi (cc := b_X_isSeen) (nL := 3) (ret := (some .boolean)) (by decide) rfl (Nat.le_of_ble_eq_true rfl) (fun p e s m args below meth c A F hnm => ?_)
  refine jw_at (lv' := [(0, .ref (ad 0)), (1, .int (nI r)), (2, .int (nI k))]) (st' := []) (ws' := wX ad cB cI cL f0 f1 f2 f3 f4 f5 f6 f7 v md ln) rfl rfl rfl ?_
  refine jw_aload_n (pc := 0) F 0 d_X_isSeen_0 rfl rfl ?_
  refine jw_iload_n (pc := 1) F 1 d_X_isSeen_1 rfl rfl ?_
  refine jw_iload_n (pc := 2) F 2 d_X_isSeen_2 rfl rfl ?_
  refine jw_callV_Ei (pc := 3) (As := [.int (nI r), .int (nI k)]) (rest := []) F ([]) ([]) (c_isHeld l D ad cB cI cL f0 f1 f2 f3 f4 f5 f6 f7 v md ln a r k hA hr hk) (jw_cwV F.1.2.2.2.2 wl_good w_197 w_199 w_6 w_29 w_200 hd_X_isHeld ⟨by decide, by decide⟩) 0 0 rfl rfl rfl (by simp) rfl rfl (Nat.le_of_ble_eq_true rfl) d_X_isSeen_3 ⟨rfl, rfl⟩ ⟨by decide, by decide⟩ ?_
  refine jw_if_eq (pc := 6) F 27 d_X_isSeen_6 (by decide) (fun h1 => ?_) (fun h1 => ?_)
  · refine jw_iconst (pc := 27) (v := 0) F d_X_isSeen_27 (by decide) ?_
    exact jw_zret F d_X_isSeen_28 (by decide) ⟨by unfold a_seen; rw [jb_0.mp h1]; rfl, rfl⟩
  · refine jw_aload_n (pc := 9) F 0 d_X_isSeen_9 rfl rfl ?_
    refine jw_get (pc := 10) F (jms inX) 0 rfl rfl 7 (by decide) (jm w_53) rfl d_X_isSeen_10 ?_
    refine jw_iload_n (pc := 13) F 2 d_X_isSeen_13 rfl rfl ?_
    refine jw_ialdN (pc := 14) F 7 1 rfl rfl k rfl (by omega) (by decide) d_X_isSeen_14 ?_
    refine jw_iload_n (pc := 15) F 1 d_X_isSeen_15 rfl rfl ?_
    refine jw_callS_Ei (pc := 16) (As := [.int (nI r)]) (rest := [.int (f5 k)]) F (c_bitOf l D cB cI cL r) (jw_cwS F.1.2.2.2.2 wl_good w_201 w_202 w_29 w_203 hd_X_bitOf ⟨by decide, by decide⟩) rfl rfl (Nat.le_of_ble_eq_true rfl) d_X_isSeen_16 ⟨rfl, rfl⟩ ⟨by decide, by decide⟩ ?_
    refine jw_iand (pc := 19) F d_X_isSeen_19 ?_
    refine jw_if_ne (pc := 20) F 27 d_X_isSeen_20 (by decide) (fun h2 => ?_) (fun h2 => ?_)
    · refine jw_iconst (pc := 27) (v := 0) F d_X_isSeen_27 (by decide) ?_
      exact jw_zret F d_X_isSeen_28 (by decide) ⟨by unfold a_seen; rw [jb_n.mp h1, ts_nf9 (fun q => h2 ((cx_d0 hA.2.2.2.2.2.2.1 hk hr).mpr q))]; rfl, rfl⟩
    · refine jw_iconst (pc := 23) (v := 1) F d_X_isSeen_23 (by decide) ?_
      refine jw_goto (pc := 24) F 28 d_X_isSeen_24 (by decide) ?_
      exact jw_zret F d_X_isSeen_28 (by decide) ⟨by unfold a_seen; rw [jb_n.mp h1, (cx_d0 hA.2.2.2.2.2.2.1 hk hr).mp h2]; rfl, rfl⟩
set_option maxHeartbeats 4000000 in
set_option maxRecDepth 100000 in
theorem c_isGreater (l : Launch) (D : va_G) (ad : Nat → Nat) (cB cI cL : ClassId) (f0 f1 f2 f3 f4 f5 f6 f7 : Nat → Int32) (v : Nat → Int64) (md ln : Int32) (a : AS) (hB : cx_B a) (hA : cx_A a f0 f1 f2 f3 f4 f5 f6 md) (hm : ∀ k, k < a_n a → a_mk a k < 4) (i j : Nat) (hi : i < a_n a) (hj : j < a_n a) : jw_Ei l D vCl (vTy cB cI cL) y_X_isGreater s_X_isGreater rm_X_isGreater [.ref (ad 0), .int (nI i), .int (nI j)] (wX ad cB cI cL f0 f1 f2 f3 f4 f5 f6 f7 v md ln) ((jb (a_ltb a j i))) := by
  refine jw_ofi (cc := b_X_isGreater) (nL := 3) (ret := (some .boolean)) (by decide) rfl (Nat.le_of_ble_eq_true rfl) (fun p e s m args below meth c A F hnm => ?_)
  refine jw_at (lv' := [(0, .ref (ad 0)), (1, .int (nI i)), (2, .int (nI j))]) (st' := []) (ws' := wX ad cB cI cL f0 f1 f2 f3 f4 f5 f6 f7 v md ln) rfl rfl rfl ?_
  have hn := hB.1
  have hq := cx_ltb hB hm hA hi hj
  refine jw_aload_n (pc := 0) F 0 d_X_isGreater_0 rfl rfl ?_
  refine jw_get (pc := 1) F (jms inX) 0 rfl rfl 4 (by decide) (jm w_50) rfl d_X_isGreater_1 ?_
  refine jw_iload_n (pc := 4) F 1 d_X_isGreater_4 rfl rfl ?_
  refine jw_ialdN (pc := 5) F 4 1 rfl rfl i rfl (by omega) (by decide) d_X_isGreater_5 ?_
  refine jw_aload_n (pc := 6) F 0 d_X_isGreater_6 rfl rfl ?_
  refine jw_get (pc := 7) F (jms inX) 0 rfl rfl 4 (by decide) (jm w_50) rfl d_X_isGreater_7 ?_
  refine jw_iload_n (pc := 10) F 2 d_X_isGreater_10 rfl rfl ?_
  refine jw_ialdN (pc := 11) F 4 1 rfl rfl j rfl (by omega) (by decide) d_X_isGreater_11 ?_
  refine jw_icmp_eq (pc := 12) F 36 d_X_isGreater_12 (by decide) (fun h1 => ?_) (fun h1 => ?_)
  · refine jw_aload_n (pc := 36) F 0 d_X_isGreater_36 rfl rfl ?_
    refine jw_get (pc := 37) F (jms inX) 0 rfl rfl 5 (by decide) (jm w_51) rfl d_X_isGreater_37 ?_
    refine jw_iload_n (pc := 40) F 1 d_X_isGreater_40 rfl rfl ?_
    refine jw_ialdN (pc := 41) F 5 1 rfl rfl i rfl (by omega) (by decide) d_X_isGreater_41 ?_
    refine jw_aload_n (pc := 42) F 0 d_X_isGreater_42 rfl rfl ?_
    refine jw_get (pc := 43) F (jms inX) 0 rfl rfl 5 (by decide) (jm w_51) rfl d_X_isGreater_43 ?_
    refine jw_iload_n (pc := 46) F 2 d_X_isGreater_46 rfl rfl ?_
    refine jw_ialdN (pc := 47) F 5 1 rfl rfl j rfl (by omega) (by decide) d_X_isGreater_47 ?_
    refine jw_icmp_le (pc := 48) F 55 d_X_isGreater_48 (by decide) (fun h2 => ?_) (fun h2 => ?_)
    · refine jw_iconst (pc := 55) (v := 0) F d_X_isGreater_55 (by decide) ?_
      exact jw_zret F d_X_isGreater_56 (by decide) ⟨by rw [hq]; simp [jb, h1, Int32.not_lt.mpr h2], rfl⟩
    · refine jw_iconst (pc := 51) (v := 1) F d_X_isGreater_51 (by decide) ?_
      refine jw_goto (pc := 52) F 56 d_X_isGreater_52 (by decide) ?_
      exact jw_zret F d_X_isGreater_56 (by decide) ⟨by rw [hq]; simp [jb, h1, Int32.not_le.mp h2], rfl⟩
  · refine jw_aload_n (pc := 15) F 0 d_X_isGreater_15 rfl rfl ?_
    refine jw_get (pc := 16) F (jms inX) 0 rfl rfl 4 (by decide) (jm w_50) rfl d_X_isGreater_16 ?_
    refine jw_iload_n (pc := 19) F 1 d_X_isGreater_19 rfl rfl ?_
    refine jw_ialdN (pc := 20) F 4 1 rfl rfl i rfl (by omega) (by decide) d_X_isGreater_20 ?_
    refine jw_aload_n (pc := 21) F 0 d_X_isGreater_21 rfl rfl ?_
    refine jw_get (pc := 22) F (jms inX) 0 rfl rfl 4 (by decide) (jm w_50) rfl d_X_isGreater_22 ?_
    refine jw_iload_n (pc := 25) F 2 d_X_isGreater_25 rfl rfl ?_
    refine jw_ialdN (pc := 26) F 4 1 rfl rfl j rfl (by omega) (by decide) d_X_isGreater_26 ?_
    refine jw_icmp_le (pc := 27) F 34 d_X_isGreater_27 (by decide) (fun h2 => ?_) (fun h2 => ?_)
    · refine jw_iconst (pc := 34) (v := 0) F d_X_isGreater_34 (by decide) ?_
      exact jw_zret F d_X_isGreater_35 (by decide) ⟨by have h3 : ¬ f2 j = f2 i := fun q => h1 q.symm; rw [hq]; simp [jb, Int32.not_lt.mpr h2, h3], rfl⟩
    · refine jw_iconst (pc := 30) (v := 1) F d_X_isGreater_30 (by decide) ?_
      refine jw_goto (pc := 31) F 35 d_X_isGreater_31 (by decide) ?_
      exact jw_zret F d_X_isGreater_35 (by decide) ⟨by rw [hq]; simp [jb, Int32.not_le.mp h2], rfl⟩
set_option maxHeartbeats 4000000 in
set_option maxRecDepth 100000 in
theorem c_take (l : Launch) (D : va_G) (ad : Nat → Nat) (cB cI cL : ClassId) (f0 f1 f2 f3 f4 f5 f6 f7 : Nat → Int32) (v : Nat → Int64) (md ln : Int32) (a : AS) (hB : cx_B a) (hA : cx_A a f0 f1 f2 f3 f4 f5 f6 md) (r k : Nat) (hr : r < 4) (hk : k < a_n a) : jw_Mv l D vCl (vTy cB cI cL) y_X_take s_X_take rm_X_take [.ref (ad 0), .int (nI r), .int (nI k)] (wX ad cB cI cL f0 f1 f2 f3 f4 f5 f6 f7 v md ln) (fun w => ∃ g4 g5 g6 : Nat → Int32, w = wX ad cB cI cL f0 f1 f2 f3 g4 g5 g6 f7 v md ln ∧ cx_A (ab_take a r k) f0 f1 f2 f3 g4 g5 g6 md) := by
  refine jw_ofv (cc := b_X_take) (nL := 3) (ret := none) (by decide) rfl (Nat.le_of_ble_eq_true rfl) (fun p e s m args below meth c A F hnm => ?_)
  refine jw_at (lv' := [(0, .ref (ad 0)), (1, .int (nI r)), (2, .int (nI k))]) (st' := []) (ws' := wX ad cB cI cL f0 f1 f2 f3 f4 f5 f6 f7 v md ln) rfl rfl rfl ?_
  have hn := hB.1
  refine jw_aload_n (pc := 0) F 0 d_X_take_0 rfl rfl ?_
  refine jw_get (pc := 1) F (jms inX) 0 rfl rfl 6 (by decide) (jm w_52) rfl d_X_take_1 ?_
  refine jw_iload_n (pc := 4) F 2 d_X_take_4 rfl rfl ?_
  refine jw_dup2 (pc := 5) F d_X_take_5 rfl rfl ?_
  refine jw_ialdN (pc := 6) F 6 1 rfl rfl k rfl (by omega) (by decide) d_X_take_6 ?_
  refine jw_iload_n (pc := 7) F 1 d_X_take_7 rfl rfl ?_
  refine jw_callS_Ei (pc := 8) (As := [.int (nI r)]) (rest := [.int (f4 k), .int (nI k), .ref (ad 6)]) F (c_bitOf l D cB cI cL r) (jw_cwS F.1.2.2.2.2 wl_good w_201 w_202 w_29 w_203 hd_X_bitOf ⟨by decide, by decide⟩) rfl rfl (Nat.le_of_ble_eq_true rfl) d_X_take_8 ⟨rfl, rfl⟩ ⟨by decide, by decide⟩ ?_
  refine jw_ior (pc := 11) F d_X_take_11 ?_
  refine jw_iastN (pc := 12) (ws' := wX ad cB cI cL f0 f1 f2 f3 (upd f4 k ((f4 k) ||| (ab_bit r))) f5 f6 f7 v md ln) F 6 1 rfl rfl k rfl (by omega) (by decide) d_X_take_12 rfl ?_
  refine jw_aload_n (pc := 13) F 0 d_X_take_13 rfl rfl ?_
  refine jw_get (pc := 14) F (jms inX) 0 rfl rfl 1 (by decide) (jm w_47) rfl d_X_take_14 ?_
  refine jw_iload_n (pc := 17) F 2 d_X_take_17 rfl rfl ?_
  refine jw_zaldN (pc := 18) F 1 0 rfl rfl k rfl (by omega) (by decide) d_X_take_18 ?_
  rw [hA.2.1 k hk]
  refine jw_if_eq (pc := 19) F 40 d_X_take_19 (by decide) (fun h1 => ?_) (fun h1 => ?_)
  · refine jw_aload_n (pc := 40) F 0 d_X_take_40 rfl rfl ?_
    refine jw_get (pc := 41) F (jms inX) 0 rfl rfl 8 (by decide) (jm w_54) rfl d_X_take_41 ?_
    refine jw_iload_n (pc := 44) F 1 d_X_take_44 rfl rfl ?_
    refine jw_aload_n (pc := 45) F 0 d_X_take_45 rfl rfl ?_
    refine jw_get (pc := 46) F (jms inX) 0 rfl rfl 8 (by decide) (jm w_54) rfl d_X_take_46 ?_
    refine jw_iload_n (pc := 49) F 1 d_X_take_49 rfl rfl ?_
    refine jw_ialdN (pc := 50) F 8 1 rfl rfl r rfl (by omega) (by decide) d_X_take_50 ?_
    refine jw_aload_n (pc := 51) F 0 d_X_take_51 rfl rfl ?_
    refine jw_get (pc := 52) F (jms inX) 0 rfl rfl 4 (by decide) (jm w_50) rfl d_X_take_52 ?_
    refine jw_iload_n (pc := 55) F 2 d_X_take_55 rfl rfl ?_
    refine jw_ialdN (pc := 56) F 4 1 rfl rfl k rfl (by omega) (by decide) d_X_take_56 ?_
    refine jw_mmax (pc := 57) F (jm w_228) (jm w_229) (jm w_37) (jm w_230) (by decide) (Nat.le_of_ble_eq_true rfl) (by decide) (by decide) d_X_take_57 ?_
    refine jw_iastN (pc := 60) (ws' := wX ad cB cI cL f0 f1 f2 f3 (upd f4 k ((f4 k) ||| (ab_bit r))) f5 (upd f6 r (if f6 r < f2 k then f2 k else f6 r)) f7 v md ln) F 8 1 rfl rfl r rfl (by omega) (by decide) d_X_take_60 rfl ?_
    exact jw_vret F d_X_take_61 ⟨_, _, _, rfl, cx_take_i hB hk hr (jb_0.mp h1) hA⟩
  · obtain ⟨j, hj, hj2⟩ := hB.2.2 k hk (jb_n.mp h1)
    refine jw_aload_n (pc := 22) F 0 d_X_take_22 rfl rfl ?_
    refine jw_get (pc := 23) F (jms inX) 0 rfl rfl 7 (by decide) (jm w_53) rfl d_X_take_23 ?_
    refine jw_aload_n (pc := 26) F 0 d_X_take_26 rfl rfl ?_
    refine jw_get (pc := 27) F (jms inX) 0 rfl rfl 2 (by decide) (jm w_48) rfl d_X_take_27 ?_
    refine jw_iload_n (pc := 30) F 2 d_X_take_30 rfl rfl ?_
    refine jw_ialdN (pc := 31) F 2 1 rfl rfl k rfl (by omega) (by decide) d_X_take_31 ?_
    refine jw_dup2 (pc := 32) F d_X_take_32 rfl rfl ?_
    refine jw_ialdN (pc := 33) F 7 1 rfl rfl j ((hA.2.2.1 k hk).trans hj2) hj (by decide) d_X_take_33 ?_
    refine jw_iload_n (pc := 34) F 1 d_X_take_34 rfl rfl ?_
    refine jw_callS_Ei (pc := 35) (As := [.int (nI r)]) (rest := [.int (f5 j), .int (f1 k), .ref (ad 7)]) F (c_bitOf l D cB cI cL r) (jw_cwS F.1.2.2.2.2 wl_good w_201 w_202 w_29 w_203 hd_X_bitOf ⟨by decide, by decide⟩) rfl rfl (Nat.le_of_ble_eq_true rfl) d_X_take_35 ⟨rfl, rfl⟩ ⟨by decide, by decide⟩ ?_
    refine jw_ior (pc := 38) F d_X_take_38 ?_
    refine jw_iastN (pc := 39) (ws' := wX ad cB cI cL f0 f1 f2 f3 (upd f4 k ((f4 k) ||| (ab_bit r))) (upd f5 j ((f5 j) ||| (ab_bit r))) f6 f7 v md ln) F 7 1 rfl rfl j ((hA.2.2.1 k hk).trans hj2) hj (by decide) d_X_take_39 rfl ?_
    refine jw_aload_n (pc := 40) F 0 d_X_take_40 rfl rfl ?_
    refine jw_get (pc := 41) F (jms inX) 0 rfl rfl 8 (by decide) (jm w_54) rfl d_X_take_41 ?_
    refine jw_iload_n (pc := 44) F 1 d_X_take_44 rfl rfl ?_
    refine jw_aload_n (pc := 45) F 0 d_X_take_45 rfl rfl ?_
    refine jw_get (pc := 46) F (jms inX) 0 rfl rfl 8 (by decide) (jm w_54) rfl d_X_take_46 ?_
    refine jw_iload_n (pc := 49) F 1 d_X_take_49 rfl rfl ?_
    refine jw_ialdN (pc := 50) F 8 1 rfl rfl r rfl (by omega) (by decide) d_X_take_50 ?_
    refine jw_aload_n (pc := 51) F 0 d_X_take_51 rfl rfl ?_
    refine jw_get (pc := 52) F (jms inX) 0 rfl rfl 4 (by decide) (jm w_50) rfl d_X_take_52 ?_
    refine jw_iload_n (pc := 55) F 2 d_X_take_55 rfl rfl ?_
    refine jw_ialdN (pc := 56) F 4 1 rfl rfl k rfl (by omega) (by decide) d_X_take_56 ?_
    refine jw_mmax (pc := 57) F (jm w_228) (jm w_229) (jm w_37) (jm w_230) (by decide) (Nat.le_of_ble_eq_true rfl) (by decide) (by decide) d_X_take_57 ?_
    refine jw_iastN (pc := 60) (ws' := wX ad cB cI cL f0 f1 f2 f3 (upd f4 k ((f4 k) ||| (ab_bit r))) (upd f5 j ((f5 j) ||| (ab_bit r))) (upd f6 r (if f6 r < f2 k then f2 k else f6 r)) f7 v md ln) F 8 1 rfl rfl r rfl (by omega) (by decide) d_X_take_60 rfl ?_
    exact jw_vret F d_X_take_61 ⟨_, _, _, rfl, cx_take_d hB hk hr (jb_n.mp h1) hj hj2 hA⟩
set_option maxHeartbeats 4000000 in
set_option maxRecDepth 100000 in
theorem c_make (l : Launch) (D : va_G) (ad : Nat → Nat) (cB cI cL : ClassId) (f0 f1 f2 f3 f4 f5 f6 f7 : Nat → Int32) (v : Nat → Int64) (md ln : Int32) (a : AS) (r : Nat) (t : Int32) (d : Bool) (vv : Int64) (hI : ab_I a) (hn : a_n a < 160) (hr : r < 4) (ht : ab_ok a r t d) (hA : cx_A a f0 f1 f2 f3 f4 f5 f6 md) : jw_Mi l D vCl (vTy cB cI cL) y_X_make s_X_make rm_X_make [.ref (ad 0), .int (nI r), .int t, .int (jb d)] (wX ad cB cI cL f0 f1 f2 f3 f4 f5 f6 f7 v md ln) (fun r0 w => r0 = nI (a_n a) ∧ ∃ g0 g1 g2 g3 g4 g5 g6 : Nat → Int32, w = wX ad cB cI cL g0 g1 g2 g3 g4 g5 g6 f7 v (nI (a_n a + 1)) ln ∧ cx_A (ab_new a r t d vv) g0 g1 g2 g3 g4 g5 g6 (nI (a_n a + 1))) := by
  refine jw_ofi (cc := b_X_make) (nL := 5) (ret := (some .int)) (by decide) rfl (Nat.le_of_ble_eq_true rfl) (fun p e s m args below meth c A F hnm => ?_)
  refine jw_at (lv' := [(0, .ref (ad 0)), (1, .int (nI r)), (2, .int t), (3, .int (jb d))]) (st' := []) (ws' := wX ad cB cI cL f0 f1 f2 f3 f4 f5 f6 f7 v md ln) rfl rfl rfl ?_
  have hmd := hA.1
  subst hmd
  refine jw_aload_n (pc := 0) F 0 d_X_make_0 rfl rfl ?_
  refine jw_get (pc := 1) F (jms inX) 0 rfl rfl 0 (by decide) (jm w_46) rfl d_X_make_1 ?_
  refine jw_istore (pc := 4) (lv' := [(0, .ref (ad 0)), (1, .int (nI r)), (2, .int t), (3, .int (jb d)), (4, .int (nI (a_n a)))]) F d_X_make_4 (by decide) rfl ?_
  refine jw_aload_n (pc := 6) F 0 d_X_make_6 rfl rfl ?_
  refine jw_get (pc := 7) F (jms inX) 0 rfl rfl 1 (by decide) (jm w_47) rfl d_X_make_7 ?_
  refine jw_iload (pc := 10) F 4 d_X_make_10 rfl ?_
  refine jw_iload_n (pc := 12) F 3 d_X_make_12 rfl rfl ?_
  refine jw_zastN (pc := 13) (ws' := wX ad cB cI cL (upd f0 (a_n a) (vp_nar .boolean (jb d))) f1 f2 f3 f4 f5 f6 f7 v (nI (a_n a)) ln) F 1 0 rfl rfl (a_n a) rfl (by omega) (by decide) d_X_make_13 rfl ?_
  rw [jb_nar]
  refine jw_aload_n (pc := 14) F 0 d_X_make_14 rfl rfl ?_
  refine jw_get (pc := 15) F (jms inX) 0 rfl rfl 2 (by decide) (jm w_48) rfl d_X_make_15 ?_
  refine jw_iload (pc := 18) F 4 d_X_make_18 rfl ?_
  refine jw_iload_n (pc := 20) F 2 d_X_make_20 rfl rfl ?_
  refine jw_iastN (pc := 21) (ws' := wX ad cB cI cL (upd f0 (a_n a) (jb d)) (upd f1 (a_n a) t) f2 f3 f4 f5 f6 f7 v (nI (a_n a)) ln) F 2 1 rfl rfl (a_n a) rfl (by omega) (by decide) d_X_make_21 rfl ?_
  refine jw_aload_n (pc := 22) F 0 d_X_make_22 rfl rfl ?_
  refine jw_get (pc := 23) F (jms inX) 0 rfl rfl 4 (by decide) (jm w_50) rfl d_X_make_23 ?_
  refine jw_iload (pc := 26) F 4 d_X_make_26 rfl ?_
  refine jw_aload_n (pc := 28) F 0 d_X_make_28 rfl rfl ?_
  refine jw_get (pc := 29) F (jms inX) 0 rfl rfl 8 (by decide) (jm w_54) rfl d_X_make_29 ?_
  refine jw_iload_n (pc := 32) F 1 d_X_make_32 rfl rfl ?_
  refine jw_ialdN (pc := 33) F 8 1 rfl rfl r rfl (by omega) (by decide) d_X_make_33 ?_
  refine jw_iconst (pc := 34) (v := 1) F d_X_make_34 (by decide) ?_
  refine jw_iadd (pc := 35) F d_X_make_35 ?_
  refine jw_iastN (pc := 36) (ws' := wX ad cB cI cL (upd f0 (a_n a) (jb d)) (upd f1 (a_n a) t) (upd f2 (a_n a) ((f6 r) + 1)) f3 f4 f5 f6 f7 v (nI (a_n a)) ln) F 4 1 rfl rfl (a_n a) rfl (by omega) (by decide) d_X_make_36 rfl ?_
  refine jw_aload_n (pc := 37) F 0 d_X_make_37 rfl rfl ?_
  refine jw_get (pc := 38) F (jms inX) 0 rfl rfl 5 (by decide) (jm w_51) rfl d_X_make_38 ?_
  refine jw_iload (pc := 41) F 4 d_X_make_41 rfl ?_
  refine jw_iload_n (pc := 43) F 1 d_X_make_43 rfl rfl ?_
  refine jw_iastN (pc := 44) (ws' := wX ad cB cI cL (upd f0 (a_n a) (jb d)) (upd f1 (a_n a) t) (upd f2 (a_n a) ((f6 r) + 1)) (upd f3 (a_n a) (nI r)) f4 f5 f6 f7 v (nI (a_n a)) ln) F 5 1 rfl rfl (a_n a) rfl (by omega) (by decide) d_X_make_44 rfl ?_
  refine jw_aload_n (pc := 45) F 0 d_X_make_45 rfl rfl ?_
  refine jw_dup (pc := 46) F d_X_make_46 rfl ?_
  refine jw_get (pc := 47) F (jms inX) 0 rfl rfl 0 (by decide) (jm w_46) rfl d_X_make_47 ?_
  refine jw_iconst (pc := 50) (v := 1) F d_X_make_50 (by decide) ?_
  refine jw_iadd (pc := 51) F d_X_make_51 ?_
  rw [nI_1]
  refine jw_put (pc := 52) (v := .int (nI (a_n a + 1))) (ty := .int) (ws' := wX ad cB cI cL (upd f0 (a_n a) (jb d)) (upd f1 (a_n a) t) (upd f2 (a_n a) ((f6 r) + 1)) (upd f3 (a_n a) (nI r)) f4 f5 f6 f7 v (nI (a_n a + 1)) ln) F (jms inX) tX tX_ok nmX 0 rfl rfl 0 (by decide) (jm w_46) rfl (by decide +kernel) rfl rfl (Nat.le_of_ble_eq_true rfl) d_X_make_52 rfl ?_
  refine jw_aload_n (pc := 55) F 0 d_X_make_55 rfl rfl ?_
  refine jw_iload_n (pc := 56) F 1 d_X_make_56 rfl rfl ?_
  refine jw_iload (pc := 57) F 4 d_X_make_57 rfl ?_
  refine jw_callV_Cv (pc := 59) (As := [.int (nI r), .int (nI (a_n a))]) (rest := []) F (c_take l D ad cB cI cL (upd f0 (a_n a) (jb d)) (upd f1 (a_n a) t) (upd f2 (a_n a) ((f6 r) + 1)) (upd f3 (a_n a) (nI r)) f4 f5 f6 f7 v (nI (a_n a + 1)) ln (ab_pre a r t d vv) (cx_B_pre hI hn ht) (cx_pre hI hr hA) r (a_n a) hr (Nat.lt_succ_self _)) (jw_cwV F.1.2.2.2.2 wl_good w_224 w_226 w_8 w_29 w_227 hd_X_take ⟨by decide, by decide⟩) 0 0 rfl rfl rfl rfl rfl rfl (Nat.le_of_ble_eq_true rfl) d_X_make_59 ⟨rfl, rfl⟩ ⟨by decide, by decide⟩ (fun w hw => ?_)
  obtain ⟨g4, g5, g6, rfl, hA2⟩ := hw
  refine jw_iload (pc := 62) F 4 d_X_make_62 rfl ?_
  exact jw_iret F d_X_make_64 ⟨rfl, _, _, _, _, _, _, _, rfl, hA2⟩
set_option maxHeartbeats 4000000 in
set_option maxRecDepth 100000 in
theorem c_countHeldOperations (l : Launch) (D : va_G) (ad : Nat → Nat) (cB cI cL : ClassId) (f0 f1 f2 f3 f4 f5 f6 f7 : Nat → Int32) (v : Nat → Int64) (md ln : Int32) (a : AS) (hB : cx_B a) (hA : cx_A a f0 f1 f2 f3 f4 f5 f6 md) (r : Nat) (hr : r < 4) : jw_Ei l D vCl (vTy cB cI cL) y_X_countHeldOperations s_X_countHeldOperations rm_X_countHeldOperations [.ref (ad 0), .int (nI r)] (wX ad cB cI cL f0 f1 f2 f3 f4 f5 f6 f7 v md ln) ((nI ((List.range (a_n a)).countP (a_hd a r)))) := by
  refine jw_ofi (cc := b_X_countHeldOperations) (nL := 4) (ret := (some .int)) (by decide) rfl (Nat.le_of_ble_eq_true rfl) (fun p e s m args below meth c A F hnm => ?_)
  refine jw_at (lv' := [(0, .ref (ad 0)), (1, .int (nI r))]) (st' := []) (ws' := wX ad cB cI cL f0 f1 f2 f3 f4 f5 f6 f7 v md ln) rfl rfl rfl ?_
  have hn := hB.1
  have hmd := hA.1
  subst hmd
  have loop : ∀ (t i : Nat), i + t = a_n a → jw_J p l e rm_X_countHeldOperations s m args below meth c D vCl A 4 (MQ below (va_Qi (fun r9 w9 => r9 = (nI ((List.range (a_n a)).countP (a_hd a r))) ∧ w9 = wX ad cB cI cL f0 f1 f2 f3 f4 f5 f6 f7 v (nI (a_n a)) ln) (jw_B D vCl (vTy cB cI cL) A) A) args s rm_X_countHeldOperations.cells rm_X_countHeldOperations.slots A) 0 0 4 [(0, .ref (ad 0)), (1, .int (nI r)), (2, .int (nI ((List.range i).countP (a_hd a r)))), (3, .int (nI i))] [] (wX ad cB cI cL f0 f1 f2 f3 f4 f5 f6 f7 v (nI (a_n a)) ln) := by
    intro t
    induction t with
    | zero =>
      intro i hi
      obtain rfl : i = a_n a := hi
      refine jw_iload_n (pc := 4) F 3 d_X_countHeldOperations_4 rfl rfl ?_
      refine jw_aload_n (pc := 5) F 0 d_X_countHeldOperations_5 rfl rfl ?_
      refine jw_get (pc := 6) F (jms inX) 0 rfl rfl 0 (by decide) (jm w_46) rfl d_X_countHeldOperations_6 ?_
      refine jw_icmp_ge (pc := 9) F 30 d_X_countHeldOperations_9 (by decide) (fun hz1 => ?_) (fun hz1 => False.elim (hz1 (nI_le (Nat.le_refl _) (by omega))))
      refine jw_iload_n (pc := 30) F 2 d_X_countHeldOperations_30 rfl rfl ?_
      exact jw_iret F d_X_countHeldOperations_31 ⟨rfl, rfl⟩
    | succ t ih =>
      intro i hi
      refine jw_iload_n (pc := 4) F 3 d_X_countHeldOperations_4 rfl rfl ?_
      refine jw_aload_n (pc := 5) F 0 d_X_countHeldOperations_5 rfl rfl ?_
      refine jw_get (pc := 6) F (jms inX) 0 rfl rfl 0 (by decide) (jm w_46) rfl d_X_countHeldOperations_6 ?_
      refine jw_icmp_ge (pc := 9) F 30 d_X_countHeldOperations_9 (by decide) (fun hz2 => False.elim (nI_ge (show i < a_n a by omega) (by omega) hz2)) (fun hz2 => ?_)
      refine jw_aload_n (pc := 12) F 0 d_X_countHeldOperations_12 rfl rfl ?_
      refine jw_iload_n (pc := 13) F 1 d_X_countHeldOperations_13 rfl rfl ?_
      refine jw_iload_n (pc := 14) F 3 d_X_countHeldOperations_14 rfl rfl ?_
      refine jw_callV_Ei (pc := 15) (As := [.int (nI r), .int (nI i)]) (rest := []) F ([]) ([]) (c_isHeld l D ad cB cI cL f0 f1 f2 f3 f4 f5 f6 f7 v _ ln a r i hA hr (by omega)) (jw_cwV F.1.2.2.2.2 wl_good w_197 w_199 w_6 w_29 w_200 hd_X_isHeld ⟨by decide, by decide⟩) 0 0 rfl rfl rfl (by simp) rfl rfl (Nat.le_of_ble_eq_true rfl) d_X_countHeldOperations_15 ⟨rfl, rfl⟩ ⟨by decide, by decide⟩ ?_
      refine jw_if_eq (pc := 18) F 24 d_X_countHeldOperations_18 (by decide) (fun h1 => ?_) (fun h1 => ?_)
      · refine jw_iinc (pc := 24) (v := nI (i + 1)) (lv' := [(0, .ref (ad 0)), (1, .int (nI r)), (2, .int (nI ((List.range i).countP (a_hd a r)))), (3, .int (nI (i + 1)))]) F 3 d_X_countHeldOperations_24 rfl (jw_inc _) (by decide) rfl ?_
        refine jw_goto (pc := 27) F 4 d_X_countHeldOperations_27 (by decide) ?_
        have q := ih (i + 1) (by omega)
        rw [gl_range_s, if_neg (by rw [jb_0.mp h1]; decide), Nat.add_zero] at q
        exact q
      · refine jw_iinc (pc := 21) (v := nI ((List.range i).countP (a_hd a r) + 1)) (lv' := [(0, .ref (ad 0)), (1, .int (nI r)), (2, .int (nI ((List.range i).countP (a_hd a r) + 1))), (3, .int (nI i))]) F 2 d_X_countHeldOperations_21 rfl (jw_inc _) (by decide) rfl ?_
        refine jw_iinc (pc := 24) (v := nI (i + 1)) (lv' := [(0, .ref (ad 0)), (1, .int (nI r)), (2, .int (nI ((List.range i).countP (a_hd a r) + 1))), (3, .int (nI (i + 1)))]) F 3 d_X_countHeldOperations_24 rfl (jw_inc _) (by decide) rfl ?_
        refine jw_goto (pc := 27) F 4 d_X_countHeldOperations_27 (by decide) ?_
        have q := ih (i + 1) (by omega)
        rw [gl_range_s, if_pos (jb_n.mp h1)] at q
        exact q
  refine jw_iconst (pc := 0) (v := nI 0) F d_X_countHeldOperations_0 (by decide) ?_
  refine jw_istore_n (pc := 1) (lv' := [(0, .ref (ad 0)), (1, .int (nI r)), (2, .int (nI 0))]) F d_X_countHeldOperations_1 rfl (by decide) rfl ?_
  refine jw_iconst (pc := 2) (v := nI 0) F d_X_countHeldOperations_2 (by decide) ?_
  refine jw_istore_n (pc := 3) (lv' := [(0, .ref (ad 0)), (1, .int (nI r)), (2, .int (nI 0)), (3, .int (nI 0))]) F d_X_countHeldOperations_3 rfl (by decide) rfl ?_
  exact loop (a_n a) 0 (by omega)
