section JL
variable {p : Program} {l : Launch} {e : Env} {R : Room} {s : State} {m : MethodId} {args : Array Value} {below : List Frame} {meth : Method} {c : Code} {Q : State → Prop} {cells slots : Nat}
variable {D : va_G} {cl : List vw_C} {tys : List (ClassId × FieldType)} {A : Nat → Prop} {nL : Nat} {cc : ByteArray} {own : String} {Ts : List Cond} {ret : Option FieldType}
variable {pc : Nat} {lv lv' : List (Nat × Value)} {rest : List Value} {ws ws' : va_W}
def jw_Ni (l : Launch) (D : va_G) (cl : List vw_C) (tys : List (ClassId × FieldType)) (y : MethodName) (Ts : List Cond) (rm : Room) (av : List Value) (wc : va_W) (Z : (Nat → Prop) → State → Prop) (post : Int32 → va_W → Prop) : Prop := ∀ sz : Nat, Met l y Ts rm (jw_PX D cl tys av wc Z sz) (va_Qi post (jw_B D cl tys (va_A wc sz)) (va_A wc sz)) rm.cells rm.slots (va_A wc sz)
theorem jw_ofWM {y : MethodName} {ws0 : List Cond} {rm : Room} {av : List Value} {wc : va_W} {hh : List (Nat × Nat × Nat × Nat)} {post : Int32 → va_W → Prop} (hy : plainName y.cls = true) (hw : Ts = Cond.codeWith y cc nL ret hh :: ws0) (hlen : (lg_sl av).length ≤ nL)
    (body : ∀ (p : Program) (e : Env) (s : State) (m : MethodId) (args : Array Value) (below : List Frame) (meth : Method) (c : Code) (A : Nat → Prop), jw_F p s m args meth c D cl tys A nL cc y.cls Ts ret → c.exceptionTable.toList = tableOf hh → jw_J p l e rm s m args below meth c D cl A nL (MQ below (va_Qi post (jw_B D cl tys A) A) args s rm.cells rm.slots A) (0) (0) (0) (lv_args 0 av) ([]) (wc)) : jw_Mi l D cl tys y Ts rm av wc post := by
  intro sz
  refine va_MetW (cc := cc) (maxL := nL) (ret := ret) (hh := hh) hy hw ?_
  intro p e s m args below meth c s₁ B hml hv
  obtain ⟨rfl, hsz, hP, hK, hD0⟩ := hv
  subst hsz
  have hts := atoms_spec (ws := Ts) B.pre
  have htab := vx_table (x := y) B (hts (Cond.codeWith y cc nL ret hh) (by rw [hw]; exact List.mem_cons_self))
  rw [lg_entry_eq]
  exact body p e s m _ below meth c (va_A wc s.heap.size) ⟨⟨B.exec, B.bytes, hml, findClass_of_methodNamed B.named, hts⟩, hK, fun q h => Or.inr h, B.notSynchronized, B.returns⟩ htab _ s.heap [] (lv_entry av hlen) hP hD0.self va_S.rf
theorem jw_ofWN {y : MethodName} {ws0 : List Cond} {rm : Room} {av : List Value} {wc : va_W} {Z : (Nat → Prop) → State → Prop} {hh : List (Nat × Nat × Nat × Nat)} {post : Int32 → va_W → Prop} (hy : plainName y.cls = true) (hw : Ts = Cond.codeWith y cc nL ret hh :: ws0) (hlen : (lg_sl av).length ≤ nL)
    (body : ∀ (p : Program) (e : Env) (s : State) (m : MethodId) (args : Array Value) (below : List Frame) (meth : Method) (c : Code) (A : Nat → Prop), jw_F p s m args meth c D cl tys A nL cc y.cls Ts ret → c.exceptionTable.toList = tableOf hh → Z A s → jw_J p l e rm s m args below meth c D cl A nL (MQ below (va_Qi post (jw_B D cl tys A) A) args s rm.cells rm.slots A) (0) (0) (0) (lv_args 0 av) ([]) (wc)) : jw_Ni l D cl tys y Ts rm av wc Z post := by
  intro sz
  refine va_MetW (cc := cc) (maxL := nL) (ret := ret) (hh := hh) hy hw ?_
  intro p e s m args below meth c s₁ B hml hv
  obtain ⟨rfl, hsz, hP, hK, hD0, hZ⟩ := hv
  subst hsz
  have hts := atoms_spec (ws := Ts) B.pre
  have htab := vx_table (x := y) B (hts (Cond.codeWith y cc nL ret hh) (by rw [hw]; exact List.mem_cons_self))
  rw [lg_entry_eq]
  exact body p e s m _ below meth c (va_A wc s.heap.size) ⟨⟨B.exec, B.bytes, hml, findClass_of_methodNamed B.named, hts⟩, hK, fun q h => Or.inr h, B.notSynchronized, B.returns⟩ htab hZ _ s.heap [] (lv_entry av hlen) hP hD0.self va_S.rf
theorem jw_cwSW {WL : List Cond} {c0 : Cond} {index maxL n : Nat} {y : MethodName} {bytes : ByteArray} {ty : Option FieldType} {hh : List (Nat × Nat × Nat × Nat)} {rm : Room} (hts : ∀ w ∈ c0 :: WL, w.before args s = true) (hg : ∀ w ∈ WL, goodWord w = true) (h1 : Cond.methodLink own index y ∈ WL) (h2 : Cond.static y ∈ WL) (h4 : Cond.initialized y.cls ∈ WL) (h5 : Cond.codeWith y bytes maxL ty hh ∈ WL)
    (hd : y.cls ≠ "java/lang/invoke/MethodHandle" ∧ y.cls ≠ "java/lang/invoke/VarHandle" ∧ (parseMethodDescriptor y.desc).map (fun d => d.parameters.length) = some n) (hR : rm.frames + 1 ≤ R.frames ∧ 8 + (maxL + 11) + rm.locals ≤ R.locals) : vx_CSW R s args own index y bytes maxL ty hh (Cond.codeWith y bytes maxL ty hh :: WL) rm rm.cells rm.slots n := by
  refine vx_cwSW (Ts := c0 :: WL) n hts (fun w hw => ?_) rfl rfl rfl hd hR
  have hm : w ∈ WL := by
    unfold va_wsS at hw
    rcases List.mem_append.mp hw with h | h
    · simp only [List.mem_cons, List.not_mem_nil, or_false] at h
      rcases h with h | h | h <;> rw [h] <;> assumption
    · rcases List.mem_cons.mp h with h | h
      · rw [h]; exact h5
      · exact h
  exact ⟨List.mem_cons_of_mem _ hm, good_of_word (hg w hm)⟩
theorem jw_callSW_M (F : jw_F p s m args meth c D cl tys A nL cc own Ts ret) {y : MethodName} {bytes : ByteArray} {maxL n index : Nat} {ty : Option FieldType} {hh : List (Nat × Nat × Nat × Nat)} {Ts2 : List Cond} {rm : Room} {As st0 : List Value} {wc : va_W} {post : Int32 → va_W → Prop} (w0 w2 : va_W) (hM : jw_Mi l D cl tys y Ts2 rm As wc post) (cw : vx_CSW R s args own index y bytes maxL ty hh Ts2 rm rm.cells rm.slots n) (hws : ws = w0 ++ wc ++ w2) (hst : st0 = As.reverse ++ rest) (hn : As.length = n) (hr : (rest.map fun v => v.category).sum ≤ 8) (d : decode cc pc = .ok (.invokestatic index, 3)) (hf : cells + rm.cells ≤ R.cells ∧ slots + rm.slots ≤ R.slots) (kk : ∀ (r : Int32) (w : va_W), post r w → jw_J p l e R s m args below meth c D cl A nL (Q) (cells + rm.cells) (slots + rm.slots) (pc + 3) (lv) (.int r :: rest) (w0 ++ w ++ w2)) : jw_J p l e R s m args below meth c D cl A nL (Q) (cells) (slots) (pc) (lv) (st0) (ws) := by
  subst hws; subst hst
  intro ls H locs hl hP hD hS
  have hPc := jw_part hP
  have hDc := jw_partD hD
  have hFc := jw_partF hDc hS F.2.2.1
  refine va_calli (vx_runSW (As := As) (rest := rest) F.1 (hM H.size) cw ⟨jw_Pc_blind, fun U hU hW => ⟨rfl, by rw [hU], by rw [hU]; exact hPc, va_K.moved hW.alike F.2.1, hDc.weaken (fun _ _ _ _ => trivial)⟩⟩ rfl hn hl.1 rfl (lv_room hr) d hf) hS (fun x _ h => hFc x h) hFc (fun r w t H1 locs1 ht hvm hp hB hz1 hk hS1 => ?_)
  obtain ⟨hP1, hK1, hD1⟩ := hB
  rw [ht] at hP1
  obtain ⟨hP2, hD2⟩ := jw_join hP hD hk hFc hP1 hD1
  exact kk r w hp ls H1 locs1 hl hP2 hD2 hS1
theorem jw_callSW_N (F : jw_F p s m args meth c D cl tys A nL cc own Ts ret) {y : MethodName} {bytes : ByteArray} {maxL n index : Nat} {ty : Option FieldType} {hh : List (Nat × Nat × Nat × Nat)} {Ts2 : List Cond} {rm : Room} {As st0 : List Value} {wc : va_W} {post : Int32 → va_W → Prop} {Z : (Nat → Prop) → State → Prop} (hZk : jw_Zok Z) (hz : Z A s) (w0 w2 : va_W) (hM : jw_Ni l D cl tys y Ts2 rm As wc Z post) (cw : vx_CSW R s args own index y bytes maxL ty hh Ts2 rm rm.cells rm.slots n) (hws : ws = w0 ++ wc ++ w2) (hst : st0 = As.reverse ++ rest) (hn : As.length = n) (hr : (rest.map fun v => v.category).sum ≤ 8) (d : decode cc pc = .ok (.invokestatic index, 3)) (hf : cells + rm.cells ≤ R.cells ∧ slots + rm.slots ≤ R.slots) (kk : ∀ (r : Int32) (w : va_W), post r w → jw_J p l e R s m args below meth c D cl A nL (Q) (cells + rm.cells) (slots + rm.slots) (pc + 3) (lv) (.int r :: rest) (w0 ++ w ++ w2)) : jw_J p l e R s m args below meth c D cl A nL (Q) (cells) (slots) (pc) (lv) (st0) (ws) := by
  subst hws; subst hst
  intro ls H locs hl hP hD hS
  have hPc := jw_part hP
  have hDc := jw_partD hD
  have hFc := jw_partF hDc hS F.2.2.1
  refine va_calli (vx_runSW (As := As) (rest := rest) F.1 (hM H.size) cw ⟨jw_PX_blind hZk, fun U hU hW => ⟨rfl, by rw [hU], by rw [hU]; exact hPc, va_K.moved hW.alike F.2.1, hDc.weaken (fun _ _ _ _ => trivial), hZk.2 A _ s U hW hz (fun q h1 h2 => by rw [hU]; exact hS.2.1 q h1 h2) hFc⟩⟩ rfl hn hl.1 rfl (lv_room hr) d hf) hS (fun x _ h => hFc x h) hFc (fun r w t H1 locs1 ht hvm hp hB hz1 hk hS1 => ?_)
  obtain ⟨hP1, hK1, hD1⟩ := hB
  rw [ht] at hP1
  obtain ⟨hP2, hD2⟩ := jw_join hP hD hk hFc hP1 hD1
  exact kk r w hp ls H1 locs1 hl hP2 hD2 hS1
theorem jw_callV_Gi (F : jw_F p s m args meth c D cl tys A nL cc own Ts ret) {y : MethodName} {bytes : ByteArray} {maxL n index : Nat} {ty : Option FieldType} {Ts2 : List Cond} {rm : Room} {C : String} {b : Nat} {As st0 : List Value} {wc : va_W} {post : Int32 → va_W → Prop} (w0 w2 : va_W) (hM : jw_Mi l D cl tys y Ts2 rm (.ref b :: As) wc post) (cw : CallW R s args own C index y bytes maxL ty Ts2 rm rm.cells rm.slots n) (q0 ci : Nat) {fs : List Value} {q : vw_C} (hc : cl[ci]? = some q) (hq : q.1 = C) (he : wc[q0]? = some (b, .inr (ci, fs))) (hws : ws = w0 ++ wc ++ w2) (hst : st0 = As.reverse ++ .ref b :: rest) (hn : As.length = n) (hr : (rest.map fun v => v.category).sum ≤ 8) (d : decode cc pc = .ok (.invokevirtual index, 3)) (h0 : rm.cells = 0 ∧ rm.slots = 0) (hf : cells ≤ R.cells ∧ slots ≤ R.slots) (kk : ∀ (r : Int32) (w : va_W), post r w → jw_J p l e R s m args below meth c D cl A nL (Q) (cells) (slots) (pc + 3) (lv) (.int r :: rest) (w0 ++ w ++ w2)) : jw_J p l e R s m args below meth c D cl A nL (Q) (cells) (slots) (pc) (lv) (st0) (ws) := by
  refine jw_callV_i F w0 w2 hM cw q0 ci hc hq he hws hst hn hr d ⟨by rw [h0.1]; exact hf.1, by rw [h0.2]; exact hf.2⟩ (fun r w hw => ?_)
  have h9 := kk r w hw
  rw [h0.1, h0.2]
  exact h9
theorem jw_callV_Gl (F : jw_F p s m args meth c D cl tys A nL cc own Ts ret) {y : MethodName} {bytes : ByteArray} {maxL n index : Nat} {ty : Option FieldType} {Ts2 : List Cond} {rm : Room} {C : String} {b : Nat} {As st0 : List Value} {wc : va_W} {post : Int64 → va_W → Prop} (w0 w2 : va_W) (hM : jw_Ml l D cl tys y Ts2 rm (.ref b :: As) wc post) (cw : CallW R s args own C index y bytes maxL ty Ts2 rm rm.cells rm.slots n) (q0 ci : Nat) {fs : List Value} {q : vw_C} (hc : cl[ci]? = some q) (hq : q.1 = C) (he : wc[q0]? = some (b, .inr (ci, fs))) (hws : ws = w0 ++ wc ++ w2) (hst : st0 = As.reverse ++ .ref b :: rest) (hn : As.length = n) (hr : (rest.map fun v => v.category).sum ≤ 8) (d : decode cc pc = .ok (.invokevirtual index, 3)) (h0 : rm.cells = 0 ∧ rm.slots = 0) (hf : cells ≤ R.cells ∧ slots ≤ R.slots) (kk : ∀ (r : Int64) (w : va_W), post r w → jw_J p l e R s m args below meth c D cl A nL (Q) (cells) (slots) (pc + 3) (lv) (.long r :: rest) (w0 ++ w ++ w2)) : jw_J p l e R s m args below meth c D cl A nL (Q) (cells) (slots) (pc) (lv) (st0) (ws) := by
  refine jw_callV_l F w0 w2 hM cw q0 ci hc hq he hws hst hn hr d ⟨by rw [h0.1]; exact hf.1, by rw [h0.2]; exact hf.2⟩ (fun r w hw => ?_)
  have h9 := kk r w hw
  rw [h0.1, h0.2]
  exact h9
theorem jw_callV_Gv (F : jw_F p s m args meth c D cl tys A nL cc own Ts ret) {y : MethodName} {bytes : ByteArray} {maxL n index : Nat} {ty : Option FieldType} {Ts2 : List Cond} {rm : Room} {C : String} {b : Nat} {As st0 : List Value} {wc : va_W} {post : va_W → Prop} (w0 w2 : va_W) (hM : jw_Mv l D cl tys y Ts2 rm (.ref b :: As) wc post) (cw : CallW R s args own C index y bytes maxL ty Ts2 rm rm.cells rm.slots n) (q0 ci : Nat) {fs : List Value} {q : vw_C} (hc : cl[ci]? = some q) (hq : q.1 = C) (he : wc[q0]? = some (b, .inr (ci, fs))) (hws : ws = w0 ++ wc ++ w2) (hst : st0 = As.reverse ++ .ref b :: rest) (hn : As.length = n) (hr : (rest.map fun v => v.category).sum ≤ 8) (d : decode cc pc = .ok (.invokevirtual index, 3)) (h0 : rm.cells = 0 ∧ rm.slots = 0) (hf : cells ≤ R.cells ∧ slots ≤ R.slots) (kk : ∀ (w : va_W), post w → jw_J p l e R s m args below meth c D cl A nL (Q) (cells) (slots) (pc + 3) (lv) (rest) (w0 ++ w ++ w2)) : jw_J p l e R s m args below meth c D cl A nL (Q) (cells) (slots) (pc) (lv) (st0) (ws) := by
  refine jw_callV_v F w0 w2 hM cw q0 ci hc hq he hws hst hn hr d ⟨by rw [h0.1]; exact hf.1, by rw [h0.2]; exact hf.2⟩ (fun w hw => ?_)
  have h9 := kk w hw
  rw [h0.1, h0.2]
  exact h9
theorem jw_xcatch (F : jw_F p s m args meth c D cl tys A nL cc own Ts ret) {y : MethodName} {bytes : ByteArray} {maxL n index : Nat} {ty : Option FieldType} {Ts2 : List Cond} {rm : Room} {C : String} {b : Nat} {As st0 : List Value} {wc : va_W} {Z : (Nat → Prop) → State → Prop} {E0 name : String} (w0 w2 : va_W) (hZk : jw_Zok Z) (hz : Z A s) (hM : jw_Tx l D cl tys y Ts2 rm (.ref b :: As) wc Z E0) (cw : CallW R s args own C index y bytes maxL ty Ts2 rm rm.cells rm.slots n) (q0 ci : Nat) {fs : List Value} {q : vw_C} (hcq : cl[ci]? = some q) (hq : q.1 = C) (he : wc[q0]? = some (b, .inr (ci, fs))) (hws : ws = w0 ++ wc ++ w2) (hst : st0 = As.reverse ++ .ref b :: rest) (hn : As.length = n) (hr : (rest.map fun v => v.category).sum ≤ 8) (d : decode cc pc = .ok (.invokevirtual index, 3)) (hf : cells + rm.cells ≤ R.cells ∧ slots + rm.slots ≤ R.slots)
    (pre : List ExceptionTableEntry) (x : ExceptionTableEntry) (suf : List ExceptionTableEntry) (hsplit : c.exceptionTable.toList = pre ++ x :: suf) (hpass : ∀ z ∈ pre, covers z pc = false ∨ (z.catchType ≠ 0 ∧ ∃ nm : String, (Cond.classLink own z.catchType nm).before args s = true ∧ va_Nc E0 nm s)) (hx : covers x pc = true) (h0 : x.catchType ≠ 0) (hlink : (Cond.classLink own x.catchType name).before args s = true) (hcast : (Cond.castable E0 name).before args s = true)
    (kk : ∀ q9 : Nat, jw_J p l e R s m args below meth c D cl A nL (Q) (cells + rm.cells) (slots + rm.slots) (x.handlerPc) (lv) ([.ref q9]) (ws)) : jw_J p l e R s m args below meth c D cl A nL (Q) (cells) (slots) (pc) (lv) (st0) (ws) := by
  subst hws; subst hst
  intro ls H locs hl hP hD hS
  have hPc := jw_part hP
  have hDc := jw_partD hD
  have hFc := jw_partF hDc hS F.2.2.1
  have hrecv : ∃ cellB : Cell, H[b]? = some cellB ∧ cellB.vm.isStatics = false ∧ s.vm.findClass C = some cellB.cls := by rw [← hq]; exact va_recv F.2.1 hPc hcq he
  have hrun := vx_runV (e := e) (below := below) (meth := meth) (locs := locs) (cells := cells) (slots := slots) (g := F0 m pc ls (As.reverse ++ .ref b :: rest)) (C := C) (b := b) (As := As) (rest := rest) F.1 (hM H.size) cw ⟨jw_PX_blind hZk, hrecv, fun U hU hW => ⟨rfl, by rw [hU], by rw [hU]; exact hPc, va_K.moved hW.alike F.2.1, hDc.weaken (fun _ _ _ _ => trivial), hZk.2 A _ s U hW hz (fun q h1 h2 => by rw [hU]; exact hS.2.1 q h1 h2) hFc⟩⟩ rfl hn hl.1 rfl (lv_room hr) d hf
  intro T hTT X
  rcases hrun T hTT X with ⟨v, st₀, t, T', L, h0, X', hL, e1, e2, hq9, st⟩ | ⟨q9, st₀, t, T', L, E, ce, h9, X', hL, e1, e2, ⟨u, hp, ⟨hE, hP1, hK1, hD1⟩, hF⟩, hce, hcv, hcl, st⟩
  · exact hq9.elim
  · obtain ⟨k1, k2, k3⟩ := vx_keep h9 e1 hS (fun x _ h => hFc x h) hFc hL hF
    subst hE
    rw [← e1] at hP1
    obtain ⟨hP2, hD2⟩ := jw_join hP hD k2 hFc hP1 hD1
    obtain ⟨t2, a1, b1⟩ := vx_catch (pc := pc) (ls := ls) (rest := rest) F.1.2.2.2.1 pre x suf hsplit hpass hx h0 hlink hcast (by rw [e1]; exact hce) hcv hcl (kk q9 ls T'.heap (locs ++ L) hl hP2 hD2 k3) T' rfl X'
    exact ⟨t2, st.trans a1, b1⟩
theorem jw_sld (F : jw_F p s m args meth c D cl tys A nL cc own Ts ret) {b L : Nat} {xs : Nat → Int32} (hX : va_X b L xs s s.heap) (hbl : b < s.heap.size) (hbA : ¬ A b) {i : Int32} (j : Nat) (hj : i = nI j) (hlt : j < L) (hL : L < 2147483648) (d : decode cc pc = .ok (.iaload, 1)) (k : jw_J p l e R s m args below meth c D cl A nL (Q) (cells) (slots) (pc + 1) (lv) (.int (xs j) :: rest) (ws)) : jw_J p l e R s m args below meth c D cl A nL (Q) (cells) (slots) (pc) (lv) (.int i :: .ref b :: rest) (ws) := by
  subst hj
  intro ls H locs hl hP hD hS
  refine va_sld F.1.1 F.1.2.1 hX hbl hbA hS (vp_in_nI hlt hL) d ?_
  rw [nI_clamp (Nat.lt_trans hlt hL)]
  exact k ls H locs hl hP hD hS
theorem jw_slen (F : jw_F p s m args meth c D cl tys A nL cc own Ts ret) {b L : Nat} {xs : Nat → Int32} (hX : va_X b L xs s s.heap) (hbl : b < s.heap.size) (hbA : ¬ A b) (d : decode cc pc = .ok (.arraylength, 1)) (k : jw_J p l e R s m args below meth c D cl A nL (Q) (cells) (slots) (pc + 1) (lv) (.int (nI L) :: rest) (ws)) : jw_J p l e R s m args below meth c D cl A nL (Q) (cells) (slots) (pc) (lv) (.ref b :: rest) (ws) := fun ls H locs hl hP hD hS => va_slen F.1.1 F.1.2.1 hX hbl hbA hS d (k ls H locs hl hP hD hS)
end JL
def jz_Y (A : Nat → Prop) (U : State) : Prop := jz_Z A U ∧ va_Nc "java/lang/IndexOutOfBoundsException" "java/lang/IllegalArgumentException" U ∧ va_Nc "java/lang/IllegalStateException" "java/lang/IllegalArgumentException" U ∧ va_Nc "java/lang/IllegalStateException" "java/lang/IndexOutOfBoundsException" U
theorem jz_okY : jw_Zok jz_Y := by
  refine ⟨fun A U U1 hv hh h => ?_, fun A B s U hW h hk hAB => ?_⟩
  · exact ⟨jz_ok.1 A U U1 hv hh h.1, va_Nc.moved (by rw [hv]; exact Vm.Alike.refl _) h.2.1, va_Nc.moved (by rw [hv]; exact Vm.Alike.refl _) h.2.2.1, va_Nc.moved (by rw [hv]; exact Vm.Alike.refl _) h.2.2.2⟩
  · exact ⟨jz_ok.2 A B s U hW h.1 hk hAB, va_Nc.moved hW.alike h.2.1, va_Nc.moved hW.alike h.2.2.1, va_Nc.moved hW.alike h.2.2.2⟩
def wO (ao : Nat) (cL : ClassId) (o : Nat → Int64) : va_W := [(ao, .inl (cL, 1, .inr (.inl o)))]
theorem jz_castIAE {A : Nat → Prop} {s : State} {args : Array Value} (hZ : jz_Z A s) : (Cond.castable "java/lang/IllegalArgumentException" "java/lang/IllegalArgumentException").before args s = true := jz_same rfl rfl (hZ.2.2.1 (Cond.castable "java/lang/IllegalArgumentException" "java/lang/IllegalArgumentException") (by decide +kernel))
theorem jz_castIOB {A : Nat → Prop} {s : State} {args : Array Value} (hZ : jz_Z A s) : (Cond.castable "java/lang/IndexOutOfBoundsException" "java/lang/IndexOutOfBoundsException").before args s = true := jz_same rfl rfl (hZ.2.2.1 (Cond.castable "java/lang/IndexOutOfBoundsException" "java/lang/IndexOutOfBoundsException") (by decide +kernel))
theorem jz_castISE {A : Nat → Prop} {s : State} {args : Array Value} (hZ : jz_Z A s) : (Cond.castable "java/lang/IllegalStateException" "java/lang/IllegalStateException").before args s = true := jz_same rfl rfl (hZ.2.2.1 (Cond.castable "java/lang/IllegalStateException" "java/lang/IllegalStateException") (by decide +kernel))
