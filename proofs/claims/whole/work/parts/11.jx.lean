section JX
variable {p : Program} {l : Launch} {e : Env} {R : Room} {s : State} {m : MethodId} {args : Array Value} {below : List Frame} {meth : Method} {c : Code} {Q : State → Prop} {cells slots : Nat}
variable {D : va_G} {cl : List vw_C} {tys : List (ClassId × FieldType)} {A : Nat → Prop} {nL : Nat} {cc : ByteArray} {own : String} {Ts : List Cond} {ret : Option FieldType}
variable {pc : Nat} {lv lv' : List (Nat × Value)} {rest : List Value} {ws ws' : va_W}
theorem jw_ofx {y : MethodName} {ws0 : List Cond} {rm : Room} {av : List Value} {wc : va_W} {Z : (Nat → Prop) → State → Prop} {E0 : String} (hy : plainName y.cls = true) (hw : Ts = Cond.code y cc nL ret :: ws0) (hlen : (lg_sl av).length ≤ nL)
    (body : ∀ (p : Program) (e : Env) (s : State) (m : MethodId) (args : Array Value) (below : List Frame) (meth : Method) (c : Code) (A : Nat → Prop), jw_F p s m args meth c D cl tys A nL cc y.cls Ts ret → (∀ x ∈ c.exceptionTable.toList, False) → Z A s → jw_J p l e rm s m args below meth c D cl A nL (vx_MQ below (fun _ _ _ _ => False) (jw_XC D cl tys A wc E0) args s rm.cells rm.slots A) (0) (0) (0) (lv_args 0 av) ([]) (wc)) : jw_Tx l D cl tys y Ts rm av wc Z E0 := by
  intro sz
  refine vx_ofW (cc := cc) (maxL := nL) (ret := ret) hy hw ?_
  intro p e s m args below meth c s₁ B hml hT hv
  obtain ⟨rfl, hsz, hP, hK, hD0, hZ⟩ := hv
  subst hsz
  rw [lg_entry_eq]
  exact body p e s m _ below meth c (va_A wc s.heap.size) ⟨⟨B.exec, B.bytes, hml, findClass_of_methodNamed B.named, atoms_spec (ws := Ts) B.pre⟩, hK, fun q h => Or.inr h, B.notSynchronized, B.returns⟩ hT hZ _ s.heap [] (lv_entry av hlen) hP hD0.self va_S.rf
theorem jw_throw (F : jw_F p s m args meth c D cl tys A nL cc own Ts ret) {E0 text : String} {names : List String} {ik is ic mc ms sa : Nat} (hT : ∀ x ∈ c.exceptionTable.toList, False) (hl : l.stackTraces = false) (hcls : Bundle.fit E0 = true) (hnames : ∀ n ∈ names, Bundle.fit n = true)
    (hk : Cond.classLink own ik E0 ∈ Ts) (hini : Cond.initialized E0 ∈ Ts) (hstr : vk_R own is text sa s) (hat : ∀ w ∈ vx_atS own ic E0 names, w.before args s = true)
    (hgood : ∀ w ∈ Cond.classLink own ik E0 :: Cond.initialized E0 :: vx_atS own ic E0 names, vx_ot w = true)
    (hU : vx_Zq Bundle.tN "UNASSIGNED_STACK" Bundle.steD A s s.heap) (hN : vx_Zq Bundle.tN "SUPPRESSED_SENTINEL" Bundle.listD A s s.heap)
    (d0 : decode cc pc = .ok (.new ik, 3)) (d3 : decode cc (pc + 3) = .ok (.dup, 1)) (d4 : decode cc (pc + 4) = .ok (.ldc is, 2)) (d6 : decode cc (pc + 6) = .ok (.invokespecial ic, 3)) (d9 : decode cc (pc + 9) = .ok (.athrow, 1))
    (hRf : names.length + 3 < R.frames) (hRl : (rest.map fun v => v.category).sum + (13 * (names.length + 1) + 43) ≤ R.locals) (hRc : cells + 1 ≤ R.cells) (hRs : slots + 6 ≤ R.slots) (hc : cells + 1 ≤ mc) (hs : slots + 6 ≤ ms) :
    jw_J p l e R s m args below meth c D cl A nL (vx_MQ below (fun _ _ _ _ => False) (jw_XC D cl tys A ws E0) args s mc ms A) (cells) (slots) (pc) (lv) (rest) (ws) := by
  intro ls H locs hlv hP hD hS
  refine vx_throwS (A := A) (text := text) (sa := sa) F.1.1 F.1.2.1 hl F.1.2.2.2.1 hcls hnames (F.1.2.2.2.2 _ hk) (F.1.2.2.2.2 _ hini) hstr hat hgood hU hN hS (hlv.1.trans F.1.2.2.1.symm) d0 d3 d4 d6 d9 (fun x hx => (hT x hx).elim) hRf hRl hRc hRs F.2.2.2.1 (fun t ha hz hk => ?_) hS.2.2 hc hs
  refine ⟨(), trivial, ⟨rfl, fun k q hq => (hP k q hq).kept (hk _ (hP k q hq).lt), va_K.moved ha F.2.1, hD⟩, Nat.le_trans hS.1 hz, fun q h1 h2 => ?_⟩
  rw [hk q (Nat.lt_of_lt_of_le h1 hS.1)]
  exact hS.2.1 q h1 h2
theorem jw_xcallV (F : jw_F p s m args meth c D cl tys A nL cc own Ts ret) {y : MethodName} {bytes : ByteArray} {maxL n index mc ms : Nat} {ty : Option FieldType} {Ts2 : List Cond} {rm : Room} {C : String} {b : Nat} {As st0 : List Value} {wc : va_W} {Z : (Nat → Prop) → State → Prop} {E0 : String} (w0 w2 : va_W) (hT : ∀ x ∈ c.exceptionTable.toList, False) (hZk : jw_Zok Z) (hz : Z A s) (hM : jw_Tx l D cl tys y Ts2 rm (.ref b :: As) wc Z E0) (cw : CallW R s args own C index y bytes maxL ty Ts2 rm rm.cells rm.slots n) (q0 ci : Nat) {fs : List Value} {q : vw_C} (hcq : cl[ci]? = some q) (hq : q.1 = C) (he : wc[q0]? = some (b, .inr (ci, fs))) (hws : ws = w0 ++ wc ++ w2) (hst : st0 = As.reverse ++ .ref b :: rest) (hn : As.length = n) (hr : (rest.map fun v => v.category).sum ≤ 8) (d : decode cc pc = .ok (.invokevirtual index, 3)) (hf : cells + rm.cells ≤ R.cells ∧ slots + rm.slots ≤ R.slots) (hc : cells + rm.cells ≤ mc) (hs : slots + rm.slots ≤ ms) : jw_J p l e R s m args below meth c D cl A nL (vx_MQ below (fun _ _ _ _ => False) (jw_XC D cl tys A ws E0) args s mc ms A) (cells) (slots) (pc) (lv) (st0) (ws) := by
  subst hws; subst hst
  intro ls H locs hl hP hD hS
  have hPc := jw_part hP
  have hDc := jw_partD hD
  have hFc := jw_partF hDc hS F.2.2.1
  have hrecv : ∃ cellB : Cell, H[b]? = some cellB ∧ cellB.vm.isStatics = false ∧ s.vm.findClass C = some cellB.cls := by rw [← hq]; exact va_recv F.2.1 hPc hcq he
  have hrun := vx_runV (e := e) (below := below) (meth := meth) (locs := locs) (cells := cells) (slots := slots) (g := F0 m pc ls (As.reverse ++ .ref b :: rest)) (C := C) (b := b) (As := As) (rest := rest) F.1 (hM H.size) cw ⟨jw_PX_blind hZk, hrecv, fun U hU hW => ⟨rfl, by rw [hU], by rw [hU]; exact hPc, va_K.moved hW.alike F.2.1, hDc.weaken (fun _ _ _ _ => trivial), hZk.2 A _ s U hW hz (fun q h1 h2 => by rw [hU]; exact hS.2.1 q h1 h2) hFc⟩⟩ rfl hn hl.1 rfl (lv_room hr) d hf
  intro T hTT X
  rcases hrun T hTT X with ⟨v, st₀, t, T', L, h0, X', hL, e1, e2, hq9, st⟩ | ⟨q9, st₀, t, T', L, E, ce, h0, X', hL, e1, e2, ⟨u, hp, ⟨hE, hP1, hK1, hD1⟩, hF⟩, hce, hcv, hcl, st⟩
  · exact hq9.elim
  · obtain ⟨k1, k2, k3⟩ := vx_keep h0 e1 hS (fun x _ h => hFc x h) hFc hL hF
    subst hE
    rw [← e1] at hP1
    obtain ⟨hP2, hD2⟩ := jw_join hP hD k2 hFc hP1 hD1
    obtain ⟨t2, a1, b1⟩ := vx_out (pc := pc) (ls := ls) (rest := rest) (XC := jw_XC D cl tys A (w0 ++ wc ++ w2) E) (Qc := fun _ _ _ _ => False) (mc := mc) (ms := ms) (free := A) (fun x hx => (hT x hx).elim) F.2.2.2.1 (by rw [e1]; exact hce) hcv hcl (fun t ht ha => ⟨(), trivial, ⟨rfl, by rw [ht]; exact hP2, va_K.moved ha F.2.1, hD2⟩, k3.F ht⟩) k3.2.2 hc hs T' rfl X'
    exact ⟨t2, st.trans a1, b1⟩
end JX
