section
def lw_okq (q : MethodName × Nat) : Prop := (q.1.cls ≠ "java/lang/invoke/MethodHandle" ∧ q.1.cls ≠ "java/lang/invoke/VarHandle") ∧ Cond.instantiable q.1.cls q.2 ∈ tables_1 ∧ Cond.privateMethod q.1 ∈ tables_1 ∧ Cond.instanceMethod q.1 ∈ tables_1
theorem lw_p0 : lw_okq (⟨"WovenRow", "checkReplica", "(I)V"⟩, 11) := ⟨⟨by decide +kernel, by decide +kernel⟩, List.mem_of_getElem? (i := 11) (by decide +kernel), List.mem_of_getElem? (i := 66) (by decide +kernel), List.mem_of_getElem? (i := 67) (by decide +kernel)⟩
theorem lw_p1 : lw_okq (⟨"java/lang/Throwable", "fillInStackTrace", "(I)Ljava/lang/Throwable;"⟩, 6) := ⟨⟨by decide +kernel, by decide +kernel⟩, List.mem_of_getElem? (i := 108) (by decide +kernel), List.mem_of_getElem? (i := 106) (by decide +kernel), List.mem_of_getElem? (i := 107) (by decide +kernel)⟩
theorem lw_p2 : lw_okq (⟨"WovenRow", "checkRoom", "()V"⟩, 11) := ⟨⟨by decide +kernel, by decide +kernel⟩, List.mem_of_getElem? (i := 11) (by decide +kernel), List.mem_of_getElem? (i := 138) (by decide +kernel), List.mem_of_getElem? (i := 139) (by decide +kernel)⟩
theorem lw_p3 : lw_okq (⟨"WovenRow", "checkHeldElement", "(II)V"⟩, 11) := ⟨⟨by decide +kernel, by decide +kernel⟩, List.mem_of_getElem? (i := 11) (by decide +kernel), List.mem_of_getElem? (i := 158) (by decide +kernel), List.mem_of_getElem? (i := 159) (by decide +kernel)⟩
theorem lw_p4 : lw_okq (⟨"WovenRow", "isElement", "(I)Z"⟩, 11) := ⟨⟨by decide +kernel, by decide +kernel⟩, List.mem_of_getElem? (i := 11) (by decide +kernel), List.mem_of_getElem? (i := 162) (by decide +kernel), List.mem_of_getElem? (i := 163) (by decide +kernel)⟩
theorem lw_p5 : lw_okq (⟨"WovenRow", "isOperation", "(I)Z"⟩, 11) := ⟨⟨by decide +kernel, by decide +kernel⟩, List.mem_of_getElem? (i := 11) (by decide +kernel), List.mem_of_getElem? (i := 166) (by decide +kernel), List.mem_of_getElem? (i := 167) (by decide +kernel)⟩
theorem lw_p6 : lw_okq (⟨"WovenRow", "isHeld", "(II)Z"⟩, 11) := ⟨⟨by decide +kernel, by decide +kernel⟩, List.mem_of_getElem? (i := 11) (by decide +kernel), List.mem_of_getElem? (i := 170) (by decide +kernel), List.mem_of_getElem? (i := 171) (by decide +kernel)⟩
theorem lw_p7 : lw_okq (⟨"WovenRow", "make", "(IIZ)I"⟩, 11) := ⟨⟨by decide +kernel, by decide +kernel⟩, List.mem_of_getElem? (i := 11) (by decide +kernel), List.mem_of_getElem? (i := 193) (by decide +kernel), List.mem_of_getElem? (i := 194) (by decide +kernel)⟩
theorem lw_p8 : lw_okq (⟨"WovenRow", "take", "(II)V"⟩, 11) := ⟨⟨by decide +kernel, by decide +kernel⟩, List.mem_of_getElem? (i := 11) (by decide +kernel), List.mem_of_getElem? (i := 197) (by decide +kernel), List.mem_of_getElem? (i := 198) (by decide +kernel)⟩
theorem lw_p9 : lw_okq (⟨"WovenRow", "weave", "(I)V"⟩, 11) := ⟨⟨by decide +kernel, by decide +kernel⟩, List.mem_of_getElem? (i := 11) (by decide +kernel), List.mem_of_getElem? (i := 204) (by decide +kernel), List.mem_of_getElem? (i := 205) (by decide +kernel)⟩
theorem lw_p10 : lw_okq (⟨"WovenRow", "positionBehind", "(I)I"⟩, 11) := ⟨⟨by decide +kernel, by decide +kernel⟩, List.mem_of_getElem? (i := 11) (by decide +kernel), List.mem_of_getElem? (i := 208) (by decide +kernel), List.mem_of_getElem? (i := 209) (by decide +kernel)⟩
theorem lw_p11 : lw_okq (⟨"WovenRow", "isGreater", "(II)Z"⟩, 11) := ⟨⟨by decide +kernel, by decide +kernel⟩, List.mem_of_getElem? (i := 11) (by decide +kernel), List.mem_of_getElem? (i := 212) (by decide +kernel), List.mem_of_getElem? (i := 213) (by decide +kernel)⟩
theorem lw_p12 : lw_okq (⟨"WovenRow", "checkOperation", "(I)V"⟩, 11) := ⟨⟨by decide +kernel, by decide +kernel⟩, List.mem_of_getElem? (i := 11) (by decide +kernel), List.mem_of_getElem? (i := 230) (by decide +kernel), List.mem_of_getElem? (i := 231) (by decide +kernel)⟩
theorem lw_p13 : lw_okq (⟨"WovenRow", "isSeen", "(II)Z"⟩, 11) := ⟨⟨by decide +kernel, by decide +kernel⟩, List.mem_of_getElem? (i := 11) (by decide +kernel), List.mem_of_getElem? (i := 256) (by decide +kernel), List.mem_of_getElem? (i := 257) (by decide +kernel)⟩
theorem lw_p14 : lw_okq (⟨"WovenRow", "countHeldOperations", "(I)I"⟩, 11) := ⟨⟨by decide +kernel, by decide +kernel⟩, List.mem_of_getElem? (i := 11) (by decide +kernel), List.mem_of_getElem? (i := 289) (by decide +kernel), List.mem_of_getElem? (i := 290) (by decide +kernel)⟩
theorem lw_p15 : lw_okq (⟨"WovenRow", "countHeldElements", "(I)I"⟩, 11) := ⟨⟨by decide +kernel, by decide +kernel⟩, List.mem_of_getElem? (i := 11) (by decide +kernel), List.mem_of_getElem? (i := 293) (by decide +kernel), List.mem_of_getElem? (i := 294) (by decide +kernel)⟩
def lw_privs_1 : List (MethodName × Nat) := [(⟨"WovenRow", "checkReplica", "(I)V"⟩, 11), (⟨"java/lang/Throwable", "fillInStackTrace", "(I)Ljava/lang/Throwable;"⟩, 6), (⟨"WovenRow", "checkRoom", "()V"⟩, 11), (⟨"WovenRow", "checkHeldElement", "(II)V"⟩, 11), (⟨"WovenRow", "isElement", "(I)Z"⟩, 11), (⟨"WovenRow", "isOperation", "(I)Z"⟩, 11), (⟨"WovenRow", "isHeld", "(II)Z"⟩, 11), (⟨"WovenRow", "make", "(IIZ)I"⟩, 11), (⟨"WovenRow", "take", "(II)V"⟩, 11), (⟨"WovenRow", "weave", "(I)V"⟩, 11), (⟨"WovenRow", "positionBehind", "(I)I"⟩, 11), (⟨"WovenRow", "isGreater", "(II)Z"⟩, 11), (⟨"WovenRow", "checkOperation", "(I)V"⟩, 11), (⟨"WovenRow", "isSeen", "(II)Z"⟩, 11), (⟨"WovenRow", "countHeldOperations", "(I)I"⟩, 11), (⟨"WovenRow", "countHeldElements", "(I)I"⟩, 11)]
theorem lw_r1 : ∀ q ∈ lw_privs_1, lw_okq q := List.forall_mem_cons.mpr ⟨lw_p0, List.forall_mem_cons.mpr ⟨lw_p1, List.forall_mem_cons.mpr ⟨lw_p2, List.forall_mem_cons.mpr ⟨lw_p3, List.forall_mem_cons.mpr ⟨lw_p4, List.forall_mem_cons.mpr ⟨lw_p5, List.forall_mem_cons.mpr ⟨lw_p6, List.forall_mem_cons.mpr ⟨lw_p7, List.forall_mem_cons.mpr ⟨lw_p8, List.forall_mem_cons.mpr ⟨lw_p9, List.forall_mem_cons.mpr ⟨lw_p10, List.forall_mem_cons.mpr ⟨lw_p11, List.forall_mem_cons.mpr ⟨lw_p12, List.forall_mem_cons.mpr ⟨lw_p13, List.forall_mem_cons.mpr ⟨lw_p14, List.forall_mem_cons.mpr ⟨lw_p15, fun _ h => absurd h List.not_mem_nil⟩⟩⟩⟩⟩⟩⟩⟩⟩⟩⟩⟩⟩⟩⟩⟩
theorem lw_p16 : lw_okq (⟨"WovenRow", "countSeen", "(I)I"⟩, 11) := ⟨⟨by decide +kernel, by decide +kernel⟩, List.mem_of_getElem? (i := 11) (by decide +kernel), List.mem_of_getElem? (i := 297) (by decide +kernel), List.mem_of_getElem? (i := 298) (by decide +kernel)⟩
theorem lw_p17 : lw_okq (⟨"WovenRowModel", "fails", "(ZI)Z"⟩, 12) := ⟨⟨by decide +kernel, by decide +kernel⟩, List.mem_of_getElem? (i := 309) (by decide +kernel), List.mem_of_getElem? (i := 367) (by decide +kernel), List.mem_of_getElem? (i := 368) (by decide +kernel)⟩
theorem lw_p18 : lw_okq (⟨"WovenRowModel", "hasElement", "(II)Z"⟩, 12) := ⟨⟨by decide +kernel, by decide +kernel⟩, List.mem_of_getElem? (i := 309) (by decide +kernel), List.mem_of_getElem? (i := 371) (by decide +kernel), List.mem_of_getElem? (i := 372) (by decide +kernel)⟩
theorem lw_p19 : lw_okq (⟨"WovenRowModel", "isThere", "(I)Z"⟩, 12) := ⟨⟨by decide +kernel, by decide +kernel⟩, List.mem_of_getElem? (i := 309) (by decide +kernel), List.mem_of_getElem? (i := 375) (by decide +kernel), List.mem_of_getElem? (i := 376) (by decide +kernel)⟩
theorem lw_p20 : lw_okq (⟨"WovenRowModel", "has", "(II)Z"⟩, 12) := ⟨⟨by decide +kernel, by decide +kernel⟩, List.mem_of_getElem? (i := 309) (by decide +kernel), List.mem_of_getElem? (i := 379) (by decide +kernel), List.mem_of_getElem? (i := 380) (by decide +kernel)⟩
theorem lw_p21 : lw_okq (⟨"WovenRowModel", "made", "(IIJZ)I"⟩, 12) := ⟨⟨by decide +kernel, by decide +kernel⟩, List.mem_of_getElem? (i := 309) (by decide +kernel), List.mem_of_getElem? (i := 383) (by decide +kernel), List.mem_of_getElem? (i := 384) (by decide +kernel)⟩
theorem lw_p22 : lw_okq (⟨"WovenRowModel", "greatest", "(I)I"⟩, 12) := ⟨⟨by decide +kernel, by decide +kernel⟩, List.mem_of_getElem? (i := 309) (by decide +kernel), List.mem_of_getElem? (i := 387) (by decide +kernel), List.mem_of_getElem? (i := 388) (by decide +kernel)⟩
theorem lw_p23 : lw_okq (⟨"WovenRowModel", "lookSeen", "(I)V"⟩, 12) := ⟨⟨by decide +kernel, by decide +kernel⟩, List.mem_of_getElem? (i := 309) (by decide +kernel), List.mem_of_getElem? (i := 412) (by decide +kernel), List.mem_of_getElem? (i := 413) (by decide +kernel)⟩
theorem lw_p24 : lw_okq (⟨"WovenRowModel", "look", "(I)V"⟩, 12) := ⟨⟨by decide +kernel, by decide +kernel⟩, List.mem_of_getElem? (i := 309) (by decide +kernel), List.mem_of_getElem? (i := 416) (by decide +kernel), List.mem_of_getElem? (i := 417) (by decide +kernel)⟩
theorem lw_p25 : lw_okq (⟨"WovenRowModel", "next", "(III)I"⟩, 12) := ⟨⟨by decide +kernel, by decide +kernel⟩, List.mem_of_getElem? (i := 309) (by decide +kernel), List.mem_of_getElem? (i := 420) (by decide +kernel), List.mem_of_getElem? (i := 421) (by decide +kernel)⟩
theorem lw_p26 : lw_okq (⟨"WovenRowModel", "isLess", "(II)Z"⟩, 12) := ⟨⟨by decide +kernel, by decide +kernel⟩, List.mem_of_getElem? (i := 309) (by decide +kernel), List.mem_of_getElem? (i := 424) (by decide +kernel), List.mem_of_getElem? (i := 425) (by decide +kernel)⟩
theorem lw_p27 : lw_okq (⟨"WovenRowModel", "isSeen", "(II)Z"⟩, 12) := ⟨⟨by decide +kernel, by decide +kernel⟩, List.mem_of_getElem? (i := 309) (by decide +kernel), List.mem_of_getElem? (i := 428) (by decide +kernel), List.mem_of_getElem? (i := 429) (by decide +kernel)⟩
def lw_privs_2 : List (MethodName × Nat) := [(⟨"WovenRow", "countSeen", "(I)I"⟩, 11), (⟨"WovenRowModel", "fails", "(ZI)Z"⟩, 12), (⟨"WovenRowModel", "hasElement", "(II)Z"⟩, 12), (⟨"WovenRowModel", "isThere", "(I)Z"⟩, 12), (⟨"WovenRowModel", "has", "(II)Z"⟩, 12), (⟨"WovenRowModel", "made", "(IIJZ)I"⟩, 12), (⟨"WovenRowModel", "greatest", "(I)I"⟩, 12), (⟨"WovenRowModel", "lookSeen", "(I)V"⟩, 12), (⟨"WovenRowModel", "look", "(I)V"⟩, 12), (⟨"WovenRowModel", "next", "(III)I"⟩, 12), (⟨"WovenRowModel", "isLess", "(II)Z"⟩, 12), (⟨"WovenRowModel", "isSeen", "(II)Z"⟩, 12)]
theorem lw_r2 : ∀ q ∈ lw_privs_2, lw_okq q := List.forall_mem_cons.mpr ⟨lw_p16, List.forall_mem_cons.mpr ⟨lw_p17, List.forall_mem_cons.mpr ⟨lw_p18, List.forall_mem_cons.mpr ⟨lw_p19, List.forall_mem_cons.mpr ⟨lw_p20, List.forall_mem_cons.mpr ⟨lw_p21, List.forall_mem_cons.mpr ⟨lw_p22, List.forall_mem_cons.mpr ⟨lw_p23, List.forall_mem_cons.mpr ⟨lw_p24, List.forall_mem_cons.mpr ⟨lw_p25, List.forall_mem_cons.mpr ⟨lw_p26, List.forall_mem_cons.mpr ⟨lw_p27, fun _ h => absurd h List.not_mem_nil⟩⟩⟩⟩⟩⟩⟩⟩⟩⟩⟩⟩
def lw_privs : List (MethodName × Nat) := lw_privs_1 ++ (lw_privs_2)
def lw_tbl : List Cond := k2_sels lw_privs ++ tables_1
theorem lw_privs_ok : ∀ q ∈ lw_privs, lw_okq q := by
  show ∀ q ∈ lw_privs_1 ++ (lw_privs_2), lw_okq q
  exact List.forall_mem_append.mpr ⟨lw_r1, lw_r2⟩
end
section
theorem goodIn_r {big : List Cond} (ws : List Cond) (ps : List Nat) (hp : ws = ps.filterMap (fun i => big[i]?)) (h : ws.all goodWord = true) : GoodIn big ws := by
  intro w hw
  have h1 := List.all_eq_true.mp h w hw
  rw [hp] at hw
  obtain ⟨i, -, hi⟩ := List.mem_filterMap.mp hw
  have hm : w ∈ big := by first | exact List.mem_of_getElem? hi | exact List.getElem?_mem hi
  exact ⟨hm, good_of_word h1⟩
theorem goodIn_app {big a b : List Cond} (ha : GoodIn big a) (hb : GoodIn big b) : GoodIn big (a ++ b) := fun w h => (List.mem_append.mp h).elim (ha w) (hb w)
theorem goodIn_ca {big a b : List Cond} {c : Cond} (ha : GoodIn big (c :: a)) (hb : GoodIn big b) : GoodIn big (c :: (a ++ b)) := fun w h => (List.mem_cons.mp h).elim (fun e => ha w (List.mem_cons.mpr (Or.inl e))) (fun h => (List.mem_append.mp h).elim (fun h => ha w (List.mem_cons.mpr (Or.inr h))) (hb w))
theorem goodIn_sub {big ws : List Cond} (hm : ∀ w ∈ ws, w ∈ big) (h : ws.all goodWord = true) : GoodIn big ws := fun w hw => ⟨hm w hw, good_of_word (List.all_eq_true.mp h w hw)⟩

section VXA
def vx_T (XC : String → State → State → Prop) (st : State) (q : Addr) (t : State) (mc ms : Nat) (free : Addr → Prop) : Prop :=
  ∃ (E : String) (ce : Cell) (L : List Loc), XC E st t ∧ t.heap[q]? = some ce ∧ ce.vm = .none ∧ st.vm.findClass E = some ce.cls ∧ st.WarmedH t.vm ∧ st.sameButNew ({ t with vm := st.vm } : State) L mc ms ∧ ∀ z ∈ L, free z.base
def vx_Q (Qc : Array Value → State → Outcome → State → Prop) (XC : String → State → State → Prop) (mc ms : Nat) (free : Addr → Prop) : Array Value → State → Outcome → State → Prop := fun a st o t =>
  (Qc a st o t ∧ ∃ L, FrameEnd st o t L mc ms ∧ ∀ q ∈ L, free q.base) ∨ ∃ q, o = .threw q ∧ vx_T XC st q t mc ms free
def vx_Met (l : Launch) (y : MethodName) (ws : List Cond) (rm : Room) (Pc : Array Value → State → Prop) (Qc : Array Value → State → Outcome → State → Prop) (XC : String → State → State → Prop) (mc ms : Nat) (free : Addr → Prop) : Prop :=
  MetFree l y (headSpec ws rm) Pc (fun _ _ _ _ _ => True) (vx_Q Qc XC mc ms free)
def vx_Post (XC : String → State → State → Prop) (mc ms : Nat) (free : Addr → Prop) : Pt → Array Value → Addr → Pt → Prop := fun A a q B =>
  ∃ (g : JFrame) (mk : MethodId) (t : State) (L : List Loc) (E : String) (ce : Cell), B.U.heap = t.heap ∧ B.U.vm = t.vm ∧ XC E (A.U.calling g mk a) t ∧ t.heap[q]? = some ce ∧ ce.vm = .none ∧ A.U.vm.findClass E = some ce.cls ∧ B.locs = A.locs ++ L ∧ (∀ z ∈ L, free z.base) ∧ B.cells = A.cells + mc ∧ B.slots = A.slots + ms
def vx_Back (l : Launch) (R : Room) (p : Program) (e : Env) (below : List Frame) (s : State) (sargs : Array Value) (y : MethodName) (len W9 : Nat)
    (Pre : Pt → Array Value → Prop) (Post : Pt → Array Value → Option Value → Pt → Prop) (PostX : Pt → Array Value → Addr → Pt → Prop) : Prop :=
  ∀ (m : MethodId) (meth : Method) (c : Code) (A : Pt) (g : JFrame) (ig : Instr) (mk : MethodId) (a : Array Value),
    Stand p l e R s m sargs below meth c A.U A.locs A.cells A.slots → g.method = m → g.locals.size = c.maxLocals → decode c.code g.pc = .ok (ig, len) →
    2 * g.monitorRoom + (g.stack.map fun v => v.category).sum ≤ W9 → A.U.methodNamed? y = some mk → Pre A a →
    (∃ (v : Option Value) (B : Pt), Stand p l e R s m sargs below meth c B.U B.locs B.cells B.slots ∧ Post A a v B ∧
      Steps p.tables e below (doInvoke e (A.U.setTop g) [] mk a).1 (B.U.setTop { g with pc := g.pc + len, stack := v.toList ++ g.stack })) ∨
    (∃ (q : Addr) (B : Pt), Stand p l e R s m sargs below meth c B.U B.locs B.cells B.slots ∧ PostX A a q B ∧
      Steps p.tables e below (doInvoke e (A.U.setTop g) [] mk a).1 ((B.U.setTop g).pushFrame (.throwing q)))
section Payer
variable {l : Launch} {R : Room} {p : Program} {e : Env} {below : List Frame} {s : State} {sargs : Array Value} {y : MethodName} {len W9 : Nat}
theorem vx_back {ws : List Cond} {rm : Room} {Pc : Array Value → State → Prop} {Qc : Array Value → State → Outcome → State → Prop} {XC : String → State → State → Prop} {mc ms : Nat} {free : Addr → Prop} {bytes : ByteArray} {maxL : Nat} {ret : Option FieldType}
    (hM : vx_Met l y ws rm Pc Qc XC mc ms free) (hblind : FrameBlind Pc) (hrc : rm.cells = mc) (hrs : rm.slots = ms)
    (hframes : rm.frames + 1 ≤ R.frames) (hlocals : W9 + (maxL + 11) + rm.locals ≤ R.locals)
    (hws : ∀ w ∈ ws, ∀ a' U, s.WarmedH U.vm → w.before a' U = true) (hcode : Cond.code y bytes maxL ret ∈ ws) (hinit : ∀ a' U, s.WarmedH U.vm → (Cond.initialized y.cls).before a' U = true) :
    vx_Back l R p e below s sargs y len W9 (PreOf R mc ms Pc) (PostOf Qc mc ms free) (vx_Post XC mc ms free) := by
  intro m meth c A g ig mk a X hg hsize hdg hW hn hp
  have h1 : (headSpec ws rm).pre.before a A.U = true := atoms_intro fun w hw => hws w hw _ _ X.warmed
  have h2 : (Cond.code y bytes maxL ret).before a A.U = true := hws _ hcode _ _ X.warmed
  have h3 : (Cond.initialized y.cls).before a A.U = true := hinit _ _ X.warmed
  have h4 : A.cells + (headSpec ws rm).room.cells ≤ R.cells := by rw [show (headSpec ws rm).room.cells = mc from hrc]; exact hp.1
  have h5 : A.slots + (headSpec ws rm).room.slots ≤ R.slots := by rw [show (headSpec ws rm).room.slots = ms from hrs]; exact hp.2.1
  have hPc : Pc a (A.U.calling g mk a) := hblind _ _ _ _ hp.2.2
  obtain ⟨U, Ls, c0, s0⟩ := A
  dsimp only [Pt.U, Pt.locs, Pt.cells, Pt.slots] at h1 h2 h3 h4 h5 X hn hPc ⊢
  obtain ⟨methY, cY, hmY, hcY, -, hlY, -, -, -, -⟩ := Cond.code_spec hn h2
  obtain ⟨kY, hkY, -⟩ := className_of_methodNamed hn
  have hinitY : kY.init = .initialized := Cond.initialized_spec (findClass_of_methodNamed hn) hkY h3
  have h : At U g.method c below := by rw [hg]; exact X.here
  have hlocals9 : W9 + (maxL + 11) + (headSpec ws rm).room.locals ≤ R.locals := hlocals
  have happ : (headSpec ws rm).appliesLoose y e.platform (U.calling g mk a) = true :=
    Spec.appliesLoose_calling (g := g) h hdg hn hkY hinitY
      (X.room_calling (g := g) (R' := (headSpec ws rm).room) hsize hmY hcY hframes (by rw [hlY]; omega) h4 h5) h1
  obtain ⟨mid, hmid⟩ := h.above
  have hfr : (U.setTop g).frames = (.java g :: mid) ++ below := by rw [State.frames_setTop' g h.top, hmid]; rfl
  obtain ⟨o, s₂, hsteps, -, hend, hq⟩ := Steps.callFree hM p X.admits X.cas X.clock (acts := []) hfr happ hPc trivial
  have hq' : vx_Q Qc XC mc ms free a (U.calling g mk a) o s₂ := hq
  rw [State.frames_setTop' g h.top] at hend
  obtain ⟨g₀, hg0⟩ := Option.isSome_iff_exists.mp h.top
  obtain ⟨r, hr⟩ := State.topJava?_eq_some.mp hg0
  have hr' : (({ U with heap := s₂.heap, slotsUsed := s₂.slotsUsed } : State).setVm s₂.vm).frames = .java g₀ :: r := hr
  rcases hq' with ⟨hqc, L, hfe, hL⟩ | ⟨q, rfl, E, ce, L, hx, hce, hcv, hcl, hW₂, hsm, hL⟩
  · obtain ⟨⟨v, rfl⟩, hW₂, e2, q2, q3, q4, q5, q6⟩ := id hfe
    have e3 : s₂ = ({ (U.calling g mk a).setFrames s₂.frames with heap := s₂.heap, slotsUsed := s₂.slotsUsed } : State).setVm s₂.vm := by
      have : s₂ = ({ s₂ with vm := (U.calling g mk a).vm } : State).setVm s₂.vm := rfl
      rw [e2] at this
      exact this
    obtain ⟨c₂, i₂, len₂, hc₂, hd₂, hf₂⟩ := hend
    have hW' : U.WarmedH s₂.vm := hW₂
    have hcc : c₂ = c := by
      have h1 : s₂.code? g.method = U.code? g.method := by
        rw [State.code?_eq, State.code?_eq, hW'.alike.method?]
      exact Option.some.inj (hc₂.symm.trans (h1.trans h.code))
    subst hcc
    have hlen : len₂ = len := by rw [hdg] at hd₂; cases hd₂; rfl
    subst hlen
    have hs₂ : s₂ = (({ U with heap := s₂.heap, slotsUsed := s₂.slotsUsed } : State).setVm s₂.vm).setTop { g with pc := g.pc + len₂, stack := v.toList ++ g.stack } := by
      refine e3.trans ?_
      rw [hf₂, State.calling_eq h.top, State.setFrames_setFrames, State.setTop_of_frames _ hr', hr]
      rfl
    have hsame : U.sameButNew ({ U with heap := s₂.heap, slotsUsed := s₂.slotsUsed } : State) L mc ms := by
      refine ⟨?_, q2, q3, q4, q5, q6⟩
      obtain ⟨t, ht, -⟩ := State.frames_cons hr
      show ({ U with heap := s₂.heap, slotsUsed := s₂.slotsUsed } : State) = { U.setFrames U.frames with heap := s₂.heap, slotsUsed := s₂.slotsUsed }
      rw [State.setFrames_self ht]
    subst hg
    refine Or.inl ⟨v, ⟨(({ U with heap := s₂.heap, slotsUsed := s₂.slotsUsed } : State).setVm s₂.vm), Ls ++ L, c0 + mc, s0 + ms⟩,
      ⟨X.admits, X.cas, X.clock, X.frames, X.room, X.hears, X.method, X.code, (X.here.setHeapUsed s₂.heap s₂.slotsUsed).setVm hW'.alike, X.tail, State.WarmedH.trans X.warmed hW', X.limits, X.bytes, X.same.trans (hsame.setVm s.vm)⟩,
      ⟨g, mk, s₂, L, rfl, rfl, hqc, rfl, hL, rfl, rfl⟩, ?_⟩
    show Steps p.tables e below _ ((({ U with heap := s₂.heap, slotsUsed := s₂.slotsUsed } : State).setVm s₂.vm).setTop { g with pc := g.pc + len₂, stack := v.toList ++ g.stack })
    rw [← hs₂]
    exact hsteps
  · obtain ⟨e2, q2, q3, q4, q5, q6⟩ := id hsm
    have e3 : s₂ = ({ (U.calling g mk a).setFrames s₂.frames with heap := s₂.heap, slotsUsed := s₂.slotsUsed } : State).setVm s₂.vm := by
      have : s₂ = ({ s₂ with vm := (U.calling g mk a).vm } : State).setVm s₂.vm := rfl
      rw [e2] at this
      exact this
    have hf₂ : s₂.frames = .throwing q :: .java g :: U.frames.tail := hend
    have hW' : U.WarmedH s₂.vm := hW₂
    have hs₂ : s₂ = ((({ U with heap := s₂.heap, slotsUsed := s₂.slotsUsed } : State).setVm s₂.vm).setTop g).pushFrame (.throwing q) := by
      refine e3.trans ?_
      rw [hf₂, State.calling_eq h.top, State.setFrames_setFrames, State.pushFrame, State.frames_setTop _ hr', State.setTop_of_frames _ hr', State.setFrames_setFrames, hr]
      rfl
    have hsame : U.sameButNew ({ U with heap := s₂.heap, slotsUsed := s₂.slotsUsed } : State) L mc ms := by
      refine ⟨?_, q2, q3, q4, q5, q6⟩
      obtain ⟨t, ht, -⟩ := State.frames_cons hr
      show ({ U with heap := s₂.heap, slotsUsed := s₂.slotsUsed } : State) = { U.setFrames U.frames with heap := s₂.heap, slotsUsed := s₂.slotsUsed }
      rw [State.setFrames_self ht]
    subst hg
    refine Or.inr ⟨q, ⟨(({ U with heap := s₂.heap, slotsUsed := s₂.slotsUsed } : State).setVm s₂.vm), Ls ++ L, c0 + mc, s0 + ms⟩,
      ⟨X.admits, X.cas, X.clock, X.frames, X.room, X.hears, X.method, X.code, (X.here.setHeapUsed s₂.heap s₂.slotsUsed).setVm hW'.alike, X.tail, State.WarmedH.trans X.warmed hW', X.limits, X.bytes, X.same.trans (hsame.setVm s.vm)⟩,
      ⟨g, mk, s₂, L, E, ce, rfl, rfl, hx, hce, hcv, hcl, rfl, hL, rfl, rfl⟩, ?_⟩
    show Steps p.tables e below _ (((({ U with heap := s₂.heap, slotsUsed := s₂.slotsUsed } : State).setVm s₂.vm).setTop g).pushFrame (.throwing q))
    rw [← hs₂]
    exact hsteps
end Payer
section Calls
variable {p : Program} {l : Launch} {e : Env} {R : Room} {s : State} {m : MethodId} {args : Array Value} {below : List Frame} {meth : Method} {c : Code} {T : State} {locs : List Loc} {cells slots : Nat}
theorem vx_callV (X : Stand p l e R s m args below meth c T locs cells slots) (hexec : p.tables.exec = Jvm.exec) {own C : String} {index : Nat} {y : MethodName} {bytes : ByteArray} {maxL : Nat} {ret : Option FieldType}
    (hown : s.vm.findClass own = some m.cls) (hlink : (Cond.methodLink own index y).before args s = true) (hinst : (Cond.instanceMethod y).before args s = true) (hsel : (Cond.selects C y y).before args s = true)
    (hcode : (Cond.code y bytes maxL ret).before args s = true) (hy : y.cls ≠ "java/lang/invoke/MethodHandle" ∧ y.cls ≠ "java/lang/invoke/VarHandle")
    {W9 : Nat} {Pre : Pt → Array Value → Prop} {Post : Pt → Array Value → Option Value → Pt → Prop} {PostX : Pt → Array Value → Addr → Pt → Prop} (hK : vx_Back l R p e below s args y 3 W9 Pre Post PostX)
    {b : Addr} {cellB : Cell} (hcell : T.heap[b]? = some cellB) (hobj : cellB.vm.isStatics = false) (hcls : s.vm.findClass C = some cellB.cls)
    {g : JFrame} (hg : g.method = m) (hsize : g.locals.size = c.maxLocals) {argsL rest : List Value} (hlen : ∀ sig, parseMethodDescriptor y.desc = some sig → argsL.length = sig.parameters.length)
    (hstack : g.stack = argsL.reverse ++ .ref b :: rest) (hW : 2 * g.monitorRoom + (rest.map fun v => v.category).sum ≤ W9) (hdg : decode c.code g.pc = .ok (.invokevirtual index, 3))
    (hpre : ∀ vm₁, s.WarmedH vm₁ → Pre ⟨T.setVm vm₁, locs, cells, slots⟩ (Value.ref b :: argsL).toArray) :
    (∃ (v : Option Value) (vm₁ : Vm) (B : Pt), s.WarmedH vm₁ ∧ Stand p l e R s m args below meth c B.U B.locs B.cells B.slots ∧ Post ⟨T.setVm vm₁, locs, cells, slots⟩ (Value.ref b :: argsL).toArray v B ∧
      ∀ target, Steps p.tables e below (B.U.setTop { g with pc := g.pc + 3, stack := v.toList ++ rest }) target → Steps p.tables e below (T.setTop g) target) ∨
    (∃ (q : Addr) (vm₁ : Vm) (B : Pt), s.WarmedH vm₁ ∧ Stand p l e R s m args below meth c B.U B.locs B.cells B.slots ∧ PostX ⟨T.setVm vm₁, locs, cells, slots⟩ (Value.ref b :: argsL).toArray q B ∧
      Steps p.tables e below (T.setTop g) ((B.U.setTop { g with stack := rest }).pushFrame (.throwing q))) := by
  obtain ⟨mk, methM, hnamed, hmethM, hstM, habM⟩ := Cond.instanceMethod_spec hinst
  obtain ⟨methM', cM, hmethM', -, -, -, -, -, -, hsigM⟩ := Cond.code_spec hnamed hcode
  cases hmethM.symm.trans hmethM'
  obtain ⟨c2, r2, m2, q1, q2, q3, q4, kP, hkP, hkPi⟩ := Cond.selects_spec hsel
  cases hcls.symm.trans q1
  cases (State.methodFound?_of_named hnamed hy).symm.trans q2
  cases hnamed.symm.trans q3
  have hselP : selectMethod e.platform s.vm cellB.cls mk = .method mk := by rw [Launch.admits_selectMethod X.admits]; exact q4
  obtain ⟨vm₁, X₁, hstep₁⟩ := X.invokevirtual hexec hown hlink hnamed hmethM hstM hkP hkPi hy (a := b) (cell := cellB) hcell
    (fun z h => by rw [h] at hobj; cases hobj) hselP hmethM habM hkP hkPi (g := g) hg (argsL := argsL) (rest := rest) (hlen _ hsigM) hstack hdg
  rcases hK m meth c ⟨T.setVm vm₁, locs, cells, slots⟩ { g with stack := rest } (.invokevirtual index) mk (Value.ref b :: argsL).toArray X₁ hg hsize hdg hW (X₁.named hnamed) (hpre vm₁ X₁.warmed) with ⟨v, B, X', hpost, hsteps⟩ | ⟨q, B, X', hpost, hsteps⟩
  · exact Or.inl ⟨v, vm₁, B, X₁.warmed, X', hpost, fun target h => hstep₁ _ fun acts => by rw [doInvoke_state]; exact hsteps.trans h⟩
  · exact Or.inr ⟨q, vm₁, B, X₁.warmed, X', hpost, hstep₁ _ fun acts => by rw [doInvoke_state]; exact hsteps⟩
theorem vx_callS (X : Stand p l e R s m args below meth c T locs cells slots) (hexec : p.tables.exec = Jvm.exec) {own : String} {index : Nat} {y : MethodName} {bytes : ByteArray} {maxL : Nat} {ret : Option FieldType}
    (hown : s.vm.findClass own = some m.cls) (hlink : (Cond.methodLink own index y).before args s = true) (hstat : (Cond.static y).before args s = true) (hinit : (Cond.initialized y.cls).before args s = true)
    (hcode : (Cond.code y bytes maxL ret).before args s = true) (hy : y.cls ≠ "java/lang/invoke/MethodHandle" ∧ y.cls ≠ "java/lang/invoke/VarHandle")
    {W9 : Nat} {Pre : Pt → Array Value → Prop} {Post : Pt → Array Value → Option Value → Pt → Prop} {PostX : Pt → Array Value → Addr → Pt → Prop} (hK : vx_Back l R p e below s args y 3 W9 Pre Post PostX)
    {g : JFrame} (hg : g.method = m) (hsize : g.locals.size = c.maxLocals) {argsL rest : List Value} (hlen : ∀ sig, parseMethodDescriptor y.desc = some sig → argsL.length = sig.parameters.length)
    (hstack : g.stack = argsL.reverse ++ rest) (hW : 2 * g.monitorRoom + (rest.map fun v => v.category).sum ≤ W9) (hdg : decode c.code g.pc = .ok (.invokestatic index, 3))
    (hpre : ∀ vm₁, s.WarmedH vm₁ → Pre ⟨T.setVm vm₁, locs, cells, slots⟩ argsL.toArray) :
    (∃ (v : Option Value) (vm₁ : Vm) (B : Pt), s.WarmedH vm₁ ∧ Stand p l e R s m args below meth c B.U B.locs B.cells B.slots ∧ Post ⟨T.setVm vm₁, locs, cells, slots⟩ argsL.toArray v B ∧
      ∀ target, Steps p.tables e below (B.U.setTop { g with pc := g.pc + 3, stack := v.toList ++ rest }) target → Steps p.tables e below (T.setTop g) target) ∨
    (∃ (q : Addr) (vm₁ : Vm) (B : Pt), s.WarmedH vm₁ ∧ Stand p l e R s m args below meth c B.U B.locs B.cells B.slots ∧ PostX ⟨T.setVm vm₁, locs, cells, slots⟩ argsL.toArray q B ∧
      Steps p.tables e below (T.setTop g) ((B.U.setTop { g with stack := rest }).pushFrame (.throwing q))) := by
  obtain ⟨mk, hnamed⟩ := Cond.code_named hcode
  obtain ⟨methM, cM, hmethM, -, -, -, -, -, -, hsigM⟩ := Cond.code_spec hnamed hcode
  have hstatic : methM.isStatic = true := Cond.static_spec hnamed hmethM hstat
  obtain ⟨kP, hkP, -⟩ := className_of_methodNamed hnamed
  have hinitP : kP.init = .initialized := Cond.initialized_spec (findClass_of_methodNamed hnamed) hkP hinit
  obtain ⟨vm₁, X₁, hstep₁⟩ := X.invokestatic hexec hown hlink hnamed hmethM hstatic hkP hinitP hy (g := g) hg (argsL := argsL) (rest := rest) (hlen _ hsigM) hstack hdg
  rcases hK m meth c ⟨T.setVm vm₁, locs, cells, slots⟩ { g with stack := rest } (.invokestatic index) mk argsL.toArray X₁ hg hsize hdg hW (X₁.named hnamed) (hpre vm₁ X₁.warmed) with ⟨v, B, X', hpost, hsteps⟩ | ⟨q, B, X', hpost, hsteps⟩
  · exact Or.inl ⟨v, vm₁, B, X₁.warmed, X', hpost, fun target h => hstep₁ _ fun acts => by rw [doInvoke_state]; exact hsteps.trans h⟩
  · exact Or.inr ⟨q, vm₁, B, X₁.warmed, X', hpost, hstep₁ _ fun acts => by rw [doInvoke_state]; exact hsteps⟩
end Calls
theorem vx_cls {s : State} {T : State} {vm₁ : Vm} {E : String} {k : ClassId} (hW : s.WarmedH vm₁) (h : (T.setVm vm₁).vm.findClass E = some k) : s.vm.findClass E = some k := by
  have h1 : vm₁.findClass E = some k := h
  rw [hW.alike.findClass] at h1
  exact h1
def vx_W (p : Program) (l : Launch) (e : Env) (R : Room) (s : State) (m : MethodId) (args : Array Value) (below : List Frame) (meth : Method) (c : Code) (H : Heap) (locs : List Loc) (cells slots : Nat) (Q : State → Prop) (g : JFrame) (q : Addr) : Prop :=
  ∀ T : State, T.heap = H → Stand p l e R s m args below meth c T locs cells slots → ∃ t, Steps p.tables e below ((T.setTop g).pushFrame (.throwing q)) t ∧ Q t
def vx_Run (p : Program) (l : Launch) (e : Env) (R : Room) (s : State) (m : MethodId) (args : Array Value) (below : List Frame) (meth : Method) (c : Code) (H : Heap) (locs : List Loc) (cells slots mc ms : Nat) (g : JFrame) (rest : List Value) (Qa : State → Outcome → State → Prop) (XC : String → State → State → Prop) (free : Addr → Prop) : Prop :=
  ∀ T : State, T.heap = H → Stand p l e R s m args below meth c T locs cells slots →
    (∃ (v : Option Value) (st₀ t T' : State) (L : List Loc), st₀.heap = H ∧ Stand p l e R s m args below meth c T' (locs ++ L) (cells + mc) (slots + ms) ∧ (∀ q ∈ L, free q.base) ∧ T'.heap = t.heap ∧ T'.vm = t.vm ∧ Qa st₀ (.returned v) t ∧
      Goes p e below T g T' { g with pc := g.pc + 3, stack := v.toList ++ rest }) ∨
    (∃ (q : Addr) (st₀ t T' : State) (L : List Loc) (E : String) (ce : Cell), st₀.heap = H ∧ Stand p l e R s m args below meth c T' (locs ++ L) (cells + mc) (slots + ms) ∧ (∀ z ∈ L, free z.base) ∧ T'.heap = t.heap ∧ T'.vm = t.vm ∧ XC E st₀ t ∧ t.heap[q]? = some ce ∧ ce.vm = .none ∧ s.vm.findClass E = some ce.cls ∧
      Steps p.tables e below (T.setTop g) ((T'.setTop { g with stack := rest }).pushFrame (.throwing q)))
def vx_X {S : Type} (px : S → Prop) (B : String → S → State → Prop) (A : Nat → Prop) : String → State → State → Prop := fun E st t => ∃ u : S, px u ∧ B E u t ∧ va_F A st t
section Runs
variable {p : Program} {l : Launch} {e : Env} {R : Room} {s : State} {m : MethodId} {args : Array Value} {below : List Frame} {meth : Method} {c : Code} {H : Heap} {locs : List Loc} {cells slots : Nat}
variable {y : MethodName} {bytes cc : ByteArray} {maxL nL mc ms n index : Nat} {ret : Option FieldType} {ws : List Cond} {rm : Room} {Pc : Array Value → State → Prop} {Qc : Array Value → State → Outcome → State → Prop} {XC : String → State → State → Prop} {free : Addr → Prop} {Ts : List Cond} {own C : String} {b : Addr} {As rest : List Value} {g : JFrame}
theorem vx_callBack (cb : CallB R s args own index y bytes maxL ret ws rm mc ms n) (hM : vx_Met l y ws rm Pc Qc XC mc ms free) (hbl : FrameBlind Pc) : vx_Back l R p e below s args y 3 8 (PreOf R mc ms Pc) (PostOf Qc mc ms free) (vx_Post XC mc ms free) := by
  obtain ⟨hrc, hrs, hfr, hlo, hws, hcw, -, hini, -⟩ := cb
  exact vx_back (bytes := bytes) (maxL := maxL) (ret := ret) hM hbl hrc hrs hfr hlo hws hcw (fun a' U hW => word_at hW (Or.inl (by first | rfl | simp [Cond.onTables, Cond.keeps, Cond.steady])) hini)
theorem vx_runV (S : CallFix p m c cc nL s args Ts own) (hM : vx_Met l y ws rm Pc Qc XC mc ms free) (cw : CallW R s args own C index y bytes maxL ret ws rm mc ms n) (hp : PreV s H C b Pc As)
    (hg : g.method = m) (hn : As.length = n) (hsize : g.locals.size = nL) (hstack : g.stack = As.reverse ++ .ref b :: rest) (hW : 2 * g.monitorRoom + (rest.map fun v => v.category).sum ≤ 8) (hdg : decode cc g.pc = .ok (.invokevirtual index, 3)) (hf : cells + mc ≤ R.cells ∧ slots + ms ≤ R.slots) :
    vx_Run p l e R s m args below meth c H locs cells slots mc ms g rest (Qc (Value.ref b :: As).toArray) XC free := by
  have hK : vx_Back l R p e below s args y 3 8 (PreOf R mc ms Pc) (PostOf Qc mc ms free) (vx_Post XC mc ms free) := vx_callBack cw.1 hM hp.1
  obtain ⟨⟨-, -, -, -, -, -, hcode, -, hy, hlen, hl⟩, hin, hse⟩ := cw
  obtain ⟨hx, hb, hml, ho, -⟩ := S
  obtain ⟨-, ⟨cellB, hcB, hoB, hclB⟩, hPc⟩ := hp
  intro T hT X
  rcases vx_callV X hx (C := C) (bytes := bytes) (maxL := maxL) (ret := ret) ho hl hin hse hcode hy hK (by rw [hT]; exact hcB) hoB hclB hg (hsize.trans hml.symm) (argsL := As) (rest := rest) (fun sig h => hn.trans (hlen sig h)) hstack hW (by rw [hb]; exact hdg)
    (fun vm₁ hW₁ => ⟨hf.1, hf.2, hPc (T.setVm vm₁) hT hW₁⟩) with ⟨v, vm₁, ⟨U', l2, c2, s2⟩, hW₁, X', ⟨g', mk, t, L, e1, e2, hq, h1, hL, h2, h3⟩, st⟩ | ⟨q, vm₁, ⟨U', l2, c2, s2⟩, hW₁, X', ⟨g', mk, t, L, E, ce, e1, e2, hq, hce, hcv, hcl, h1, hL, h2, h3⟩, st⟩
  · dsimp only [Pt.U, Pt.locs, Pt.cells, Pt.slots] at X' e1 e2 h1 h2 h3 st
    subst h1; subst h2; subst h3
    exact Or.inl ⟨v, (T.setVm vm₁).calling g' mk (Value.ref b :: As).toArray, t, U', L, hT, X', hL, e1, e2, hq, st⟩
  · dsimp only [Pt.U, Pt.locs, Pt.cells, Pt.slots] at X' e1 e2 h1 h2 h3 st hcl
    subst h1; subst h2; subst h3
    exact Or.inr ⟨q, (T.setVm vm₁).calling g' mk (Value.ref b :: As).toArray, t, U', L, E, ce, hT, X', hL, e1, e2, hq, hce, hcv, vx_cls hW₁ hcl, st⟩
theorem vx_runS (S : CallFix p m c cc nL s args Ts own) (hM : vx_Met l y ws rm Pc Qc XC mc ms free) (cw : CallB R s args own index y bytes maxL ret ws rm mc ms n ∧ (Cond.static y).before args s = true) (hp : PreS s H Pc As)
    (hg : g.method = m) (hn : As.length = n) (hsize : g.locals.size = nL) (hstack : g.stack = As.reverse ++ rest) (hW : 2 * g.monitorRoom + (rest.map fun v => v.category).sum ≤ 8) (hdg : decode cc g.pc = .ok (.invokestatic index, 3)) (hf : cells + mc ≤ R.cells ∧ slots + ms ≤ R.slots) :
    vx_Run p l e R s m args below meth c H locs cells slots mc ms g rest (Qc As.toArray) XC free := by
  have hK : vx_Back l R p e below s args y 3 8 (PreOf R mc ms Pc) (PostOf Qc mc ms free) (vx_Post XC mc ms free) := vx_callBack cw.1 hM hp.1
  obtain ⟨⟨-, -, -, -, -, -, hcode, hini, hy, hlen, hl⟩, hstt⟩ := cw
  obtain ⟨hx, hb, hml, ho, -⟩ := S
  intro T hT X
  rcases vx_callS X hx (bytes := bytes) (maxL := maxL) (ret := ret) ho hl hstt hini hcode hy hK hg (hsize.trans hml.symm) (argsL := As) (rest := rest) (fun sig h => hn.trans (hlen sig h)) hstack hW (by rw [hb]; exact hdg)
    (fun vm₁ hW₁ => ⟨hf.1, hf.2, hp.2 (T.setVm vm₁) hT hW₁⟩) with ⟨v, vm₁, ⟨U', l2, c2, s2⟩, hW₁, X', ⟨g', mk, t, L, e1, e2, hq, h1, hL, h2, h3⟩, st⟩ | ⟨q, vm₁, ⟨U', l2, c2, s2⟩, hW₁, X', ⟨g', mk, t, L, E, ce, e1, e2, hq, hce, hcv, hcl, h1, hL, h2, h3⟩, st⟩
  · dsimp only [Pt.U, Pt.locs, Pt.cells, Pt.slots] at X' e1 e2 h1 h2 h3 st
    subst h1; subst h2; subst h3
    exact Or.inl ⟨v, (T.setVm vm₁).calling g' mk As.toArray, t, U', L, hT, X', hL, e1, e2, hq, st⟩
  · dsimp only [Pt.U, Pt.locs, Pt.cells, Pt.slots] at X' e1 e2 h1 h2 h3 st hcl
    subst h1; subst h2; subst h3
    exact Or.inr ⟨q, (T.setVm vm₁).calling g' mk As.toArray, t, U', L, E, ce, hT, X', hL, e1, e2, hq, hce, hcv, vx_cls hW₁ hcl, st⟩
end Runs
section Rows
variable {p : Program} {l : Launch} {e : Env} {R : Room} {s : State} {m : MethodId} {args : Array Value} {below : List Frame} {meth : Method} {c : Code} {H : Heap} {locs : List Loc} {cells slots : Nat} {Q : State → Prop}
variable {mc ms : Nat} {free : Addr → Prop} {A0 A1 : Nat → Prop} {H0 : Heap} {a : Array Value} {pc : Nat} {ls : Array Slot} {st0 rest : List Value}
theorem vx_keep {st₀ t T' : State} {L : List Loc} (h0 : st₀.heap = H) (e1 : T'.heap = t.heap) (hS : va_S A0 H0 H locs) (hA : ∀ q, q < H.size → A1 q → A0 q) (hf : ∀ q, free q → A0 q) (hL : ∀ q ∈ L, free q.base) (hF : va_F A1 st₀ t) :
    H.size ≤ T'.heap.size ∧ (∀ q : Nat, q < H.size → ¬ A1 q → T'.heap[q]? = H[q]?) ∧ va_S A0 H0 T'.heap (locs ++ L) := by
  obtain ⟨hz, hk⟩ := hF
  rw [h0] at hz hk
  exact ⟨by rw [e1]; exact hz, fun q h1 h2 => by rw [e1]; exact hk q h1 h2,
    ⟨Nat.le_trans hS.1 (by rw [e1]; exact hz), fun q h1 h2 => by rw [e1, hk q (Nat.lt_of_lt_of_le h1 hS.1) (fun z => h2 (hA q (Nat.lt_of_lt_of_le h1 hS.1) z))]; exact hS.2.1 q h1 h2, fun q hq => by
      rcases List.mem_append.mp hq with h | h
      · exact hS.2.2 q h
      · exact hf _ (hL q h)⟩⟩
theorem vx_calli {S SX : Type} {post : Int32 → S → Prop} {px : SX → Prop} {B : S → State → Prop} {BX : String → SX → State → Prop} {AX : Nat → Prop} (hr : vx_Run p l e R s m args below meth c H locs cells slots mc ms (F0 m pc ls st0) rest (va_Qi post B A1 a) (vx_X px BX AX) free) (hS : va_S A0 H0 H locs) (hA : ∀ q, q < H.size → A1 q → A0 q) (hf : ∀ q, free q → A0 q) (hAX : ∀ q, q < H.size → AX q → A0 q)
    (kx : ∀ (E : String) (ce : Cell) (q9 : Addr) (u : SX) (t : State) (H1 : Heap) (locs1 : List Loc), t.heap = H1 → s.vm.Alike t.vm → px u → BX E u t → H.size ≤ H1.size → (∀ q : Nat, q < H.size → ¬ AX q → H1[q]? = H[q]?) → va_S A0 H0 H1 locs1 → H1[q9]? = some ce → ce.vm = .none → s.vm.findClass E = some ce.cls → vx_W p l e R s m args below meth c H1 locs1 (cells + mc) (slots + ms) Q (F0 m pc ls rest) q9)
    (kk : ∀ (r : Int32) (u : S) (t : State) (H1 : Heap) (locs1 : List Loc), t.heap = H1 → s.vm.Alike t.vm → post r u → B u t → H.size ≤ H1.size → (∀ q : Nat, q < H.size → ¬ A1 q → H1[q]? = H[q]?) → va_S A0 H0 H1 locs1 → W p l e R s m args below meth c H1 locs1 (cells + mc) (slots + ms) Q (F0 m (pc + 3) ls (.int r :: rest))) : W p l e R s m args below meth c H locs cells slots Q (F0 m pc ls st0) := by
  intro T hT X
  rcases hr T hT X with ⟨v, st₀, t, T', L, h0, X', hL, e1, e2, ⟨⟨r, u, hv, hp, hb⟩, hF⟩, st⟩ | ⟨q, st₀, t, T', L, E, ce, h0, X', hL, e1, e2, ⟨u, hp, hb, hF⟩, hce, hcv, hcl, st⟩
  · cases hv
    obtain ⟨k1, k2, k3⟩ := vx_keep h0 e1 hS hA hf hL hF
    obtain ⟨t2, a1, b1⟩ := kk r u t T'.heap (locs ++ L) e1.symm (by rw [← e2]; exact X'.warmed.alike) hp hb k1 k2 k3 T' rfl X'
    exact ⟨t2, st t2 a1, b1⟩
  · obtain ⟨k1, k2, k3⟩ := vx_keep h0 e1 hS hAX hf hL hF
    obtain ⟨t2, a1, b1⟩ := kx E ce q u t T'.heap (locs ++ L) e1.symm (by rw [← e2]; exact X'.warmed.alike) hp hb k1 k2 k3 (by rw [e1]; exact hce) hcv hcl T' rfl X'
    exact ⟨t2, st.trans a1, b1⟩
theorem vx_calll {S SX : Type} {post : Int64 → S → Prop} {px : SX → Prop} {B : S → State → Prop} {BX : String → SX → State → Prop} {AX : Nat → Prop} (hr : vx_Run p l e R s m args below meth c H locs cells slots mc ms (F0 m pc ls st0) rest (va_Ql post B A1 a) (vx_X px BX AX) free) (hS : va_S A0 H0 H locs) (hA : ∀ q, q < H.size → A1 q → A0 q) (hf : ∀ q, free q → A0 q) (hAX : ∀ q, q < H.size → AX q → A0 q)
    (kx : ∀ (E : String) (ce : Cell) (q9 : Addr) (u : SX) (t : State) (H1 : Heap) (locs1 : List Loc), t.heap = H1 → s.vm.Alike t.vm → px u → BX E u t → H.size ≤ H1.size → (∀ q : Nat, q < H.size → ¬ AX q → H1[q]? = H[q]?) → va_S A0 H0 H1 locs1 → H1[q9]? = some ce → ce.vm = .none → s.vm.findClass E = some ce.cls → vx_W p l e R s m args below meth c H1 locs1 (cells + mc) (slots + ms) Q (F0 m pc ls rest) q9)
    (kk : ∀ (r : Int64) (u : S) (t : State) (H1 : Heap) (locs1 : List Loc), t.heap = H1 → s.vm.Alike t.vm → post r u → B u t → H.size ≤ H1.size → (∀ q : Nat, q < H.size → ¬ A1 q → H1[q]? = H[q]?) → va_S A0 H0 H1 locs1 → W p l e R s m args below meth c H1 locs1 (cells + mc) (slots + ms) Q (F0 m (pc + 3) ls (.long r :: rest))) : W p l e R s m args below meth c H locs cells slots Q (F0 m pc ls st0) := by
  intro T hT X
  rcases hr T hT X with ⟨v, st₀, t, T', L, h0, X', hL, e1, e2, ⟨⟨r, u, hv, hp, hb⟩, hF⟩, st⟩ | ⟨q, st₀, t, T', L, E, ce, h0, X', hL, e1, e2, ⟨u, hp, hb, hF⟩, hce, hcv, hcl, st⟩
  · cases hv
    obtain ⟨k1, k2, k3⟩ := vx_keep h0 e1 hS hA hf hL hF
    obtain ⟨t2, a1, b1⟩ := kk r u t T'.heap (locs ++ L) e1.symm (by rw [← e2]; exact X'.warmed.alike) hp hb k1 k2 k3 T' rfl X'
    exact ⟨t2, st t2 a1, b1⟩
  · obtain ⟨k1, k2, k3⟩ := vx_keep h0 e1 hS hAX hf hL hF
    obtain ⟨t2, a1, b1⟩ := kx E ce q u t T'.heap (locs ++ L) e1.symm (by rw [← e2]; exact X'.warmed.alike) hp hb k1 k2 k3 (by rw [e1]; exact hce) hcv hcl T' rfl X'
    exact ⟨t2, st.trans a1, b1⟩
theorem vx_callf {S SX : Type} {post : UInt32 → S → Prop} {px : SX → Prop} {B : S → State → Prop} {BX : String → SX → State → Prop} {AX : Nat → Prop} (hr : vx_Run p l e R s m args below meth c H locs cells slots mc ms (F0 m pc ls st0) rest (va_Qf post B A1 a) (vx_X px BX AX) free) (hS : va_S A0 H0 H locs) (hA : ∀ q, q < H.size → A1 q → A0 q) (hf : ∀ q, free q → A0 q) (hAX : ∀ q, q < H.size → AX q → A0 q)
    (kx : ∀ (E : String) (ce : Cell) (q9 : Addr) (u : SX) (t : State) (H1 : Heap) (locs1 : List Loc), t.heap = H1 → s.vm.Alike t.vm → px u → BX E u t → H.size ≤ H1.size → (∀ q : Nat, q < H.size → ¬ AX q → H1[q]? = H[q]?) → va_S A0 H0 H1 locs1 → H1[q9]? = some ce → ce.vm = .none → s.vm.findClass E = some ce.cls → vx_W p l e R s m args below meth c H1 locs1 (cells + mc) (slots + ms) Q (F0 m pc ls rest) q9)
    (kk : ∀ (r : UInt32) (u : S) (t : State) (H1 : Heap) (locs1 : List Loc), t.heap = H1 → s.vm.Alike t.vm → post r u → B u t → H.size ≤ H1.size → (∀ q : Nat, q < H.size → ¬ A1 q → H1[q]? = H[q]?) → va_S A0 H0 H1 locs1 → W p l e R s m args below meth c H1 locs1 (cells + mc) (slots + ms) Q (F0 m (pc + 3) ls (.float r :: rest))) : W p l e R s m args below meth c H locs cells slots Q (F0 m pc ls st0) := by
  intro T hT X
  rcases hr T hT X with ⟨v, st₀, t, T', L, h0, X', hL, e1, e2, ⟨⟨r, u, hv, hp, hb⟩, hF⟩, st⟩ | ⟨q, st₀, t, T', L, E, ce, h0, X', hL, e1, e2, ⟨u, hp, hb, hF⟩, hce, hcv, hcl, st⟩
  · cases hv
    obtain ⟨k1, k2, k3⟩ := vx_keep h0 e1 hS hA hf hL hF
    obtain ⟨t2, a1, b1⟩ := kk r u t T'.heap (locs ++ L) e1.symm (by rw [← e2]; exact X'.warmed.alike) hp hb k1 k2 k3 T' rfl X'
    exact ⟨t2, st t2 a1, b1⟩
  · obtain ⟨k1, k2, k3⟩ := vx_keep h0 e1 hS hAX hf hL hF
    obtain ⟨t2, a1, b1⟩ := kx E ce q u t T'.heap (locs ++ L) e1.symm (by rw [← e2]; exact X'.warmed.alike) hp hb k1 k2 k3 (by rw [e1]; exact hce) hcv hcl T' rfl X'
    exact ⟨t2, st.trans a1, b1⟩
theorem vx_calld {S SX : Type} {post : UInt64 → S → Prop} {px : SX → Prop} {B : S → State → Prop} {BX : String → SX → State → Prop} {AX : Nat → Prop} (hr : vx_Run p l e R s m args below meth c H locs cells slots mc ms (F0 m pc ls st0) rest (va_Qd post B A1 a) (vx_X px BX AX) free) (hS : va_S A0 H0 H locs) (hA : ∀ q, q < H.size → A1 q → A0 q) (hf : ∀ q, free q → A0 q) (hAX : ∀ q, q < H.size → AX q → A0 q)
    (kx : ∀ (E : String) (ce : Cell) (q9 : Addr) (u : SX) (t : State) (H1 : Heap) (locs1 : List Loc), t.heap = H1 → s.vm.Alike t.vm → px u → BX E u t → H.size ≤ H1.size → (∀ q : Nat, q < H.size → ¬ AX q → H1[q]? = H[q]?) → va_S A0 H0 H1 locs1 → H1[q9]? = some ce → ce.vm = .none → s.vm.findClass E = some ce.cls → vx_W p l e R s m args below meth c H1 locs1 (cells + mc) (slots + ms) Q (F0 m pc ls rest) q9)
    (kk : ∀ (r : UInt64) (u : S) (t : State) (H1 : Heap) (locs1 : List Loc), t.heap = H1 → s.vm.Alike t.vm → post r u → B u t → H.size ≤ H1.size → (∀ q : Nat, q < H.size → ¬ A1 q → H1[q]? = H[q]?) → va_S A0 H0 H1 locs1 → W p l e R s m args below meth c H1 locs1 (cells + mc) (slots + ms) Q (F0 m (pc + 3) ls (.double r :: rest))) : W p l e R s m args below meth c H locs cells slots Q (F0 m pc ls st0) := by
  intro T hT X
  rcases hr T hT X with ⟨v, st₀, t, T', L, h0, X', hL, e1, e2, ⟨⟨r, u, hv, hp, hb⟩, hF⟩, st⟩ | ⟨q, st₀, t, T', L, E, ce, h0, X', hL, e1, e2, ⟨u, hp, hb, hF⟩, hce, hcv, hcl, st⟩
  · cases hv
    obtain ⟨k1, k2, k3⟩ := vx_keep h0 e1 hS hA hf hL hF
    obtain ⟨t2, a1, b1⟩ := kk r u t T'.heap (locs ++ L) e1.symm (by rw [← e2]; exact X'.warmed.alike) hp hb k1 k2 k3 T' rfl X'
    exact ⟨t2, st t2 a1, b1⟩
  · obtain ⟨k1, k2, k3⟩ := vx_keep h0 e1 hS hAX hf hL hF
    obtain ⟨t2, a1, b1⟩ := kx E ce q u t T'.heap (locs ++ L) e1.symm (by rw [← e2]; exact X'.warmed.alike) hp hb k1 k2 k3 (by rw [e1]; exact hce) hcv hcl T' rfl X'
    exact ⟨t2, st.trans a1, b1⟩
theorem vx_callv {S SX : Type} {post : S → Prop} {px : SX → Prop} {B : S → State → Prop} {BX : String → SX → State → Prop} {AX : Nat → Prop} (hr : vx_Run p l e R s m args below meth c H locs cells slots mc ms (F0 m pc ls st0) rest (va_Qv post B A1 a) (vx_X px BX AX) free) (hS : va_S A0 H0 H locs) (hA : ∀ q, q < H.size → A1 q → A0 q) (hf : ∀ q, free q → A0 q) (hAX : ∀ q, q < H.size → AX q → A0 q)
    (kx : ∀ (E : String) (ce : Cell) (q9 : Addr) (u : SX) (t : State) (H1 : Heap) (locs1 : List Loc), t.heap = H1 → s.vm.Alike t.vm → px u → BX E u t → H.size ≤ H1.size → (∀ q : Nat, q < H.size → ¬ AX q → H1[q]? = H[q]?) → va_S A0 H0 H1 locs1 → H1[q9]? = some ce → ce.vm = .none → s.vm.findClass E = some ce.cls → vx_W p l e R s m args below meth c H1 locs1 (cells + mc) (slots + ms) Q (F0 m pc ls rest) q9)
    (kk : ∀ (u : S) (t : State) (H1 : Heap) (locs1 : List Loc), t.heap = H1 → s.vm.Alike t.vm → post u → B u t → H.size ≤ H1.size → (∀ q : Nat, q < H.size → ¬ A1 q → H1[q]? = H[q]?) → va_S A0 H0 H1 locs1 → W p l e R s m args below meth c H1 locs1 (cells + mc) (slots + ms) Q (F0 m (pc + 3) ls (rest))) : W p l e R s m args below meth c H locs cells slots Q (F0 m pc ls st0) := by
  intro T hT X
  rcases hr T hT X with ⟨v, st₀, t, T', L, h0, X', hL, e1, e2, ⟨⟨u, hv, hp, hb⟩, hF⟩, st⟩ | ⟨q, st₀, t, T', L, E, ce, h0, X', hL, e1, e2, ⟨u, hp, hb, hF⟩, hce, hcv, hcl, st⟩
  · cases hv
    obtain ⟨k1, k2, k3⟩ := vx_keep h0 e1 hS hA hf hL hF
    obtain ⟨t2, a1, b1⟩ := kk u t T'.heap (locs ++ L) e1.symm (by rw [← e2]; exact X'.warmed.alike) hp hb k1 k2 k3 T' rfl X'
    exact ⟨t2, st t2 a1, b1⟩
  · obtain ⟨k1, k2, k3⟩ := vx_keep h0 e1 hS hAX hf hL hF
    obtain ⟨t2, a1, b1⟩ := kx E ce q u t T'.heap (locs ++ L) e1.symm (by rw [← e2]; exact X'.warmed.alike) hp hb k1 k2 k3 (by rw [e1]; exact hce) hcv hcl T' rfl X'
    exact ⟨t2, st.trans a1, b1⟩
theorem vx_catch {own name : String} {E : String} {ce : Cell} {q : Addr} (hown : s.vm.findClass own = some m.cls) (pre : List ExceptionTableEntry) (x : ExceptionTableEntry) (suf : List ExceptionTableEntry) (hsplit : c.exceptionTable.toList = pre ++ x :: suf)
    (hpass : ∀ z ∈ pre, covers z pc = false ∨ (z.catchType ≠ 0 ∧ ∃ nm : String, (Cond.classLink own z.catchType nm).before args s = true ∧ va_Nc E nm s)) (hx : covers x pc = true) (h0 : x.catchType ≠ 0)
    (hlink : (Cond.classLink own x.catchType name).before args s = true) (hcast : (Cond.castable E name).before args s = true) (hcell : H[q]? = some ce) (hv : ce.vm = .none) (hcl : s.vm.findClass E = some ce.cls)
    (kk : W p l e R s m args below meth c H locs cells slots Q (F0 m x.handlerPc ls [.ref q])) : vx_W p l e R s m args below meth c H locs cells slots Q (F0 m pc ls rest) q := by
  intro T hT X
  have hpl : e.platform.magicAccessors = ({} : Platform).magicAccessors := by rw [X.admits.platform]
  obtain ⟨c3, c4, hc3, hc4, hasg⟩ := Cond.castable_spec hcast
  cases Option.some.inj (hc3.symm.trans hcl)
  obtain ⟨c5, hc5, hcl5⟩ := Cond.classLink_spec hown hlink e.platform hpl
  cases Option.some.inj (hc4.symm.trans hc5)
  obtain ⟨vm', X', st⟩ := X.thenCaughtThrough q (g := F0 m pc ls rest) rfl (Steps.refl _) (by rw [hT]; exact hcell) (by rw [hv]; rfl) (by obtain ⟨k9, h9, -⟩ := Vm.findClass_spec hcl; exact ⟨k9, h9⟩) pre x suf hsplit
    (fun z hz => by
      rcases hpass z hz with h | ⟨hz0, nm, hl1, hn1⟩
      · exact Or.inl h
      · obtain ⟨c6, hc6, hcl6⟩ := Cond.classLink_spec hown hl1 e.platform hpl
        obtain ⟨a8, b8, h1, h2, h3⟩ := hn1
        cases Option.some.inj (h1.symm.trans hcl)
        cases Option.some.inj (h2.symm.trans hc6)
        exact Or.inr ⟨hz0, _, hcl6, h3⟩) hx (Or.inr ⟨h0, c4, hcl5, hasg⟩)
  obtain ⟨t, a1, b1⟩ := kk (T.setVm vm') hT X'
  exact ⟨t, st.trans a1, b1⟩
end Rows
section Ends
variable {p : Program} {l : Launch} {e : Env} {R : Room} {s : State} {m : MethodId} {args : Array Value} {below : List Frame} {meth : Method} {c : Code} {H : Heap} {locs : List Loc} {cells slots : Nat} {Q : State → Prop}
variable {mc ms : Nat} {free : Addr → Prop} {A0 A1 : Nat → Prop} {H0 : Heap} {a : Array Value} {ls : Array Slot} {st0 rest : List Value}
variable {Qc : Array Value → State → Outcome → State → Prop} {XC : String → State → State → Prop}
def vx_MQ (below : List Frame) (Qc : Array Value → State → Outcome → State → Prop) (XC : String → State → State → Prop) (a : Array Value) (s : State) (mc ms : Nat) (free : Addr → Prop) : State → Prop := fun t =>
  ∃ o, t.status = .running ∧ Ended t below o ∧ vx_Q Qc XC mc ms free a s o t
theorem vx_ret {g : JFrame} {mc ms : Nat} (k : W p l e R s m args below meth c H locs cells slots (MQ below Qc args s mc ms free) g) : W p l e R s m args below meth c H locs cells slots (vx_MQ below Qc XC args s mc ms free) g := by
  intro T hT X
  obtain ⟨t, a1, o, b1, b2, b3, b4⟩ := k T hT X
  exact ⟨t, a1, o, b1, b2, Or.inl ⟨b3, b4⟩⟩
theorem vx_widen {g : JFrame} {q : Addr} {k n : Nat} (h1 : cells ≤ k) (h2 : slots ≤ n) (kk : vx_W p l e R s m args below meth c H locs k n Q g q) : vx_W p l e R s m args below meth c H locs cells slots Q g q := fun T hT X => kk T hT (stand_widen X h1 h2)
theorem vx_out {pc : Nat} {E : String} {ce : Cell} {q : Addr} {mc ms : Nat} (hout : ∀ x ∈ c.exceptionTable.toList, covers x pc = false) (hlocks : meth.locks = false) (hcell : H[q]? = some ce) (hv : ce.vm = .none) (hcl : s.vm.findClass E = some ce.cls)
    (hx : ∀ t : State, t.heap = H → s.vm.Alike t.vm → XC E s t) (hf : ∀ z ∈ locs, free z.base) (hc : cells ≤ mc) (hs : slots ≤ ms) :
    vx_W p l e R s m args below meth c H locs cells slots (vx_MQ below Qc XC args s mc ms free) (F0 m pc ls rest) q := by
  intro T hT X
  obtain ⟨st1, hrun, hend, hW, hsm⟩ := X.leaveThrown q (g := F0 m pc ls rest) rfl rfl rfl hout hlocks
  have hcell9 : (T.setFrames (.throwing q :: below)).heap[q]? = some ce := by
    show T.heap[q]? = some ce
    rw [hT]; exact hcell
  exact ⟨_, st1, .threw q, hrun, hend, Or.inr ⟨q, rfl, E, ce, locs, hx _ hT hW.alike, hcell9, hv, hcl, hW, hsm.mono hc hs, hf⟩⟩
theorem vx_frame {U : State} {k n : Nat} (h : s.sameButNew ({ U with vm := s.vm } : State) locs k n) : s.heap.size ≤ U.heap.size ∧ ∀ q : Nat, q < s.heap.size → (∀ z ∈ locs, z.base ≠ q) → U.heap[q]? = s.heap[q]? := by
  obtain ⟨-, h2, -, -, -, h6⟩ := h
  refine ⟨h2, fun q hq hz => ?_⟩
  obtain ⟨c9, e1, e2, e3, e4⟩ := h6 q _ (Array.getElem?_eq_getElem hq)
  have hs : c9.slots = (s.heap[q]).slots := Array.ext_getElem? fun i => e4 i fun hm => hz _ hm rfl
  have h9 : c9 = s.heap[q] := by
    rw [hs] at e2
    exact e2
  have e5 : U.heap[q]? = some c9 := e1
  rw [e5, h9, Array.getElem?_eq_getElem hq]
def vx_no (w : Cond) : Bool := decide (w ≠ .isRef (.static Bundle.tN "UNASSIGNED_STACK" Bundle.steD)) && decide (w ≠ .isRef (.static Bundle.tN "SUPPRESSED_SENTINEL" Bundle.listD)) && decide (w ≠ .laysStatic Bundle.tN "UNASSIGNED_STACK" Bundle.steD) && decide (w ≠ .laysStatic Bundle.tN "SUPPRESSED_SENTINEL" Bundle.listD)
def vx_at0 (own : String) (ic : Nat) (X : String) (names : List String) : List Cond := (Bundle.ownAtoms0 own ic X names).filter vx_no
def vx_atS (own : String) (ic : Nat) (X : String) (names : List String) : List Cond := (Bundle.ownAtoms own ic X names).filter vx_no
def vx_ot (w : Cond) : Bool := w.onTables || goodWord w
theorem vx_ot_at {args a' : Array Value} {s U : State} {w : Cond} (hW : s.WarmedH U.vm) (hvm : s.vm = U.vm) (hg : vx_ot w = true) (h : w.before args s = true) : w.before a' U = true := by
  simp only [vx_ot, Bool.or_eq_true] at hg
  rcases hg with hg | hg
  · exact va_tabs hg hvm h
  · exact word_at hW (good_of_word hg) h
theorem vx_hat {args : Array Value} {s : State} {L B : List Cond} (h1 : ∀ w ∈ L.filter goodWord, w.before args s = true) (h2 : ∀ w ∈ L.filter (fun w => !goodWord w), w ∈ B) (h3 : ∀ w ∈ B, w.before args s = true) : ∀ w ∈ L, w.before args s = true := by
  intro w hw
  by_cases g : goodWord w = true
  · exact h1 w (List.mem_filter.mpr ⟨hw, g⟩)
  · refine h3 w (h2 w (List.mem_filter.mpr ⟨hw, ?_⟩))
    show (!goodWord w) = true
    cases hgw : goodWord w
    · rfl
    · exact absurd hgw g
theorem vx_c {args : Array Value} {s : State} {w : Cond} {B : List Cond} (h : w.before args s = true) (t : ∀ w ∈ B, w.before args s = true) : ∀ w' ∈ w :: B, w'.before args s = true := fun w' h' => (List.mem_cons.mp h').elim (fun e => by rw [e]; exact h) (t w')
theorem vx_n {args : Array Value} {s : State} : ∀ w ∈ ([] : List Cond), w.before args s = true := fun _ h => nomatch h
theorem vx_own {args : Array Value} {s : State} {L : List Cond} (h1 : ∀ w ∈ L.filter vx_no, w.before args s = true)
    (hU : (Cond.isRef (.static Bundle.tN "UNASSIGNED_STACK" Bundle.steD)).before args s = true) (hN : (Cond.isRef (.static Bundle.tN "SUPPRESSED_SENTINEL" Bundle.listD)).before args s = true)
    (lU : (Cond.laysStatic Bundle.tN "UNASSIGNED_STACK" Bundle.steD).before args s = true) (lN : (Cond.laysStatic Bundle.tN "SUPPRESSED_SENTINEL" Bundle.listD).before args s = true) : ∀ w ∈ L, w.before args s = true := by
  intro w hw
  by_cases e1 : w = .isRef (.static Bundle.tN "UNASSIGNED_STACK" Bundle.steD)
  · rw [e1]; exact hU
  · by_cases e2 : w = .isRef (.static Bundle.tN "SUPPRESSED_SENTINEL" Bundle.listD)
    · rw [e2]; exact hN
    · by_cases e3 : w = .laysStatic Bundle.tN "UNASSIGNED_STACK" Bundle.steD
      · rw [e3]; exact lU
      · by_cases e4 : w = .laysStatic Bundle.tN "SUPPRESSED_SENTINEL" Bundle.listD
        · rw [e4]; exact lN
        · exact h1 w (List.mem_filter.mpr ⟨hw, by unfold vx_no; rw [decide_eq_true e1, decide_eq_true e2, decide_eq_true e3, decide_eq_true e4]; rfl⟩)
def vx_L (C n d : String) (A : Nat → Prop) (U : State) (H : Heap) : Prop := ∃ (c : ClassId) (k : Class) (i : Nat) (f : Field) (a : Nat) (cell : Cell), U.vm.findClass C = some c ∧ U.fieldFound? C n d = some (c, k, i, f) ∧ f.isStatic = true ∧ k.statics = some a ∧ H[a]? = some cell ∧ cell.vm.isStatics = true ∧ cell.cls = c ∧ f.slot < cell.slots.size ∧ k.staticTypes[f.slot]? = some f.type ∧ ¬ A a
theorem vx_L.moved {C n d : String} {A : Nat → Prop} {u U : State} {H : Heap} (hvm : u.vm.Alike U.vm) (h : vx_L C n d A u H) : vx_L C n d A U H := by
  obtain ⟨c, k, i, f, a, cell, h1, h2, h3, h4, h5, h6, h7, h8, h9, h10⟩ := h
  obtain ⟨k', hi', he⟩ := State.fieldFound?_setVm hvm h2
  exact ⟨c, k', i, f, a, cell, by rw [hvm.findClass]; exact h1, hi', h3, by rw [he]; exact h4, h5, h6, h7, h8, by rw [he]; exact h9, h10⟩
theorem vx_L.kept {C n d : String} {A : Nat → Prop} {U : State} {H H1 : Heap} (h : vx_L C n d A U H) (hq : ∀ a : Nat, a < H.size → ¬ A a → H1[a]? = H[a]?) : vx_L C n d A U H1 := by
  obtain ⟨c, k, i, f, a, cell, h1, h2, h3, h4, h5, h6, h7, h8, h9, h10⟩ := h
  exact ⟨c, k, i, f, a, cell, h1, h2, h3, h4, by rw [hq a (Array.getElem?_eq_some_iff.mp h5).1 h10]; exact h5, h6, h7, h8, h9, h10⟩
theorem vx_L.narrow {C n d : String} {A B : Nat → Prop} {U : State} {H : Heap} (h : vx_L C n d A U H) (hAB : ∀ q, B q → A q) : vx_L C n d B U H := by
  obtain ⟨c, k, i, f, a, cell, h1, h2, h3, h4, h5, h6, h7, h8, h9, h10⟩ := h
  exact ⟨c, k, i, f, a, cell, h1, h2, h3, h4, h5, h6, h7, h8, h9, fun z => h10 (hAB _ z)⟩
theorem vx_L.word {C n d : String} {A : Nat → Prop} {s : State} {args : Array Value} (h : vx_L C n d A s s.heap) : (Cond.laysStatic C n d).before args s = true := by
  obtain ⟨c, k, i, f, a, cell, h1, h2, h3, h4, h5, h6, h7, h8, h9, -⟩ := h
  show (Cond.laysStatic C n d).holds args s none s [] = true
  exact Cond.laysStatic_of h1 h2 h3 h4 h5 h6 h7 h8 h9
def vx_Zq (C n d : String) (A : Nat → Prop) (U : State) (H : Heap) : Prop := va_Zq C n d A U H ∧ vx_L C n d A U H
theorem vx_Zq.moved {C n d : String} {A : Nat → Prop} {u U : State} {H : Heap} (hvm : u.vm.Alike U.vm) (h : vx_Zq C n d A u H) : vx_Zq C n d A U H := ⟨va_Zq.moved hvm h.1, vx_L.moved hvm h.2⟩
theorem vx_Zq.kept {C n d : String} {A : Nat → Prop} {U : State} {H H1 : Heap} (h : vx_Zq C n d A U H) (hq : ∀ a : Nat, a < H.size → ¬ A a → H1[a]? = H[a]?) : vx_Zq C n d A U H1 := ⟨va_Zq.kept h.1 hq, vx_L.kept h.2 hq⟩
theorem vx_Zq.narrow {C n d : String} {A B : Nat → Prop} {U : State} {H : Heap} (h : vx_Zq C n d A U H) (hAB : ∀ q, B q → A q) : vx_Zq C n d B U H := ⟨va_Zq.narrow h.1 hAB, vx_L.narrow h.2 hAB⟩
theorem vx_Zqof {args : Array Value} {s : State} {C n d : String} {A : Nat → Prop} (hl : (Cond.laysStatic C n d).before args s = true) (hini : (Cond.initialized C).before args s = true) (h : (Cond.isRef (.static C n d)).before args s = true) (hA : ∀ a : Nat, a < s.heap.size → ¬ A a) : vx_Zq C n d A s s.heap := by
  refine ⟨va_Zqof hl hini h hA, ?_⟩
  obtain ⟨c, k, i, f, a, cell, h1, h2, h3, h4, h5, h6, h7, h8, h9⟩ := Cond.laysStatic_spec hl
  exact ⟨c, k, i, f, a, cell, h1, h2, h3, h4, h5, h6, h7, h8, h9, hA a (Array.getElem?_eq_some_iff.mp h5).1⟩
theorem vx_isRef {C n d : String} {v : Value} {A : Nat → Prop} {s : State} {args : Array Value} (h : va_Z C n d v A s s.heap) (hv : v.isRef = true) : (Cond.isRef (.static C n d)).before args s = true := by
  obtain ⟨cf, kf, fi, f, a, cell, h1, h2, h3, h4, h5, h6, h7, -⟩ := h
  have he : (Term.static C n d).eval args s none [] s = some v := by
    simp [Term.eval, State.fieldNamed?, h1, h2, h4, h5, h6, h7]
  simp only [Cond.before, Cond.holds, Cond.value, he]
  cases v <;> simp_all [Value.isRef]
theorem vx_isRefq {C n d : String} {A : Nat → Prop} {s : State} {args : Array Value} (h : va_Zq C n d A s s.heap) : (Cond.isRef (.static C n d)).before args s = true := by
  rcases h with h | ⟨t, h⟩
  · exact vx_isRef h rfl
  · exact vx_isRef h rfl
theorem vx_rebase {T : State} (X : Stand p l e R s m args below meth c T locs cells slots) {R' : Room} (hf : R'.frames ≤ R.frames) (hl : R'.locals ≤ R.locals) (hc : cells + R'.cells ≤ R.cells) (hs : slots + R'.slots ≤ R.slots) :
    Stand p l e R' ((T.setVm s.vm).setFrames (.invoking m args :: below)) m args below meth c T [] 0 0 := by
  have htop : (T.setVm s.vm).topJava?.isSome := X.here.top
  have hF : ((T.setVm s.vm).setFrames (.invoking m args :: below)).frames = .invoking m args :: below := State.frames_setFrames _ (State.cur_lt_of_top htop)
  obtain ⟨g₀, hg0⟩ := Option.isSome_iff_exists.mp htop
  obtain ⟨r, hr⟩ := State.topJava?_eq_some.mp hg0
  have hl9 : e.platform.stackLimits (T.setVm s.vm).me = e.platform.stackLimits s.me := X.limits
  have hb9 : (T.setVm s.vm).me.stackBytes = s.me.stackBytes := X.bytes
  refine ⟨X.admits, X.cas, X.clock, hF, ?_, X.hears, X.method, X.code, X.here, X.tail, X.warmed, ?_, ?_, ?_⟩
  · have h := X.room
    have hU : ((T.setVm s.vm).setFrames (.invoking m args :: below)).localsInUse = s.localsInUse := by
      rw [State.localsInUse_invoking hF (meth := meth) (c := c) X.method X.code, State.localsInUse_invoking X.frames X.method X.code]
    simp only [State.hasRoom, Bool.and_eq_true, decide_eq_true_eq] at h ⊢
    obtain ⟨⟨⟨⟨h1, h2, h3, h4, h5, h6⟩, h7⟩, h8⟩, h9⟩ := h
    rw [X.frames, List.length_cons] at h2 h3
    have q1 := X.heapSize
    have q2 := X.used
    simp only [hF, hU, List.length_cons, State.stackLimits_setFrames, State.stackBytes_setFrames, hl9, hb9]
    refine ⟨⟨⟨⟨by omega, by omega, by omega, by omega, by omega, h6⟩, ?_⟩, ?_⟩, X.book⟩
    · show T.heap.size + R'.cells ≤ e.platform.maxCells
      omega
    · show T.slotsUsed + R'.slots ≤ e.platform.maxSlots
      omega
  · rw [State.stackLimits_setFrames]; rfl
  · rw [State.stackBytes_setFrames]; rfl
  · refine ⟨?_, Nat.le_refl _, Nat.le_refl _, ?_, ?_, fun a c9 h9 => ⟨c9, h9, rfl, rfl, fun _ _ => rfl⟩⟩
    · obtain ⟨t, ht, -⟩ := State.frames_cons hr
      show T.setVm s.vm = { ((T.setVm s.vm).setFrames (.invoking m args :: below)).setFrames (T.setVm s.vm).frames with heap := T.heap, slotsUsed := T.slotsUsed }
      rw [State.setFrames_setFrames, State.setFrames_self ht]
      rfl
    · show T.slotsUsed = T.slotsUsed + ((T.heap.toList.drop T.heap.size).map (·.slots.size)).sum
      rw [List.drop_eq_nil_of_le (Nat.le_of_eq Array.length_toList)]
      rfl
    · show ((T.heap.toList.drop T.heap.size).map (·.slots.size)).sum ≤ 0
      rw [List.drop_eq_nil_of_le (Nat.le_of_eq Array.length_toList)]
      exact Nat.le_refl _
theorem vx_throw0 {cc : ByteArray} {pc : Nat} (hexec : p.tables.exec = Jvm.exec) (hb : c.code = cc) (hl : l.stackTraces = false) {own cls : String} {names : List String} {ik ic mc ms : Nat} {A : Nat → Prop}
    (hown : s.vm.findClass own = some m.cls) (hcls : Bundle.fit cls = true) (hnames : ∀ n ∈ names, Bundle.fit n = true)
    (hk : (Cond.classLink own ik cls).before args s = true) (hini : (Cond.initialized cls).before args s = true) (hat : ∀ w ∈ vx_at0 own ic cls names, w.before args s = true)
    (hgood : ∀ w ∈ Cond.classLink own ik cls :: Cond.initialized cls :: vx_at0 own ic cls names, vx_ot w = true)
    (hU : vx_Zq Bundle.tN "UNASSIGNED_STACK" Bundle.steD A s s.heap) (hN : vx_Zq Bundle.tN "SUPPRESSED_SENTINEL" Bundle.listD A s s.heap) (hS : va_S A s.heap H locs) (hsize : ls.size = c.maxLocals)
    (d0 : decode cc pc = .ok (.new ik, 3)) (d3 : decode cc (pc + 3) = .ok (.dup, 1)) (d4 : decode cc (pc + 4) = .ok (.invokespecial ic, 3)) (d7 : decode cc (pc + 7) = .ok (.athrow, 1))
    (hout : ∀ x ∈ c.exceptionTable.toList, covers x (pc + 7) = false)
    (hRframes : names.length + 3 < R.frames) (hRlocals : (rest.map fun v => v.category).sum + (13 * (names.length + 1) + 42) ≤ R.locals) (hRcells : cells + 1 ≤ R.cells) (hRslots : slots + 6 ≤ R.slots) (hlocks : meth.locks = false)
    (hx : ∀ t : State, s.vm.Alike t.vm → H.size ≤ t.heap.size → (∀ q : Nat, q < H.size → t.heap[q]? = H[q]?) → XC cls s t)
    (hf : ∀ z ∈ locs, free z.base) (hc : cells + 1 ≤ mc) (hs : slots + 6 ≤ ms) :
    W p l e R s m args below meth c H locs cells slots (vx_MQ below Qc XC args s mc ms free) (F0 m pc ls rest) := by
  intro T hT X
  have htr : e.platform.stackTraces = false := (show e.platform.stackTraces = l.stackTraces by rw [X.admits.platform]).trans hl
  have Y := vx_rebase X (R' := { frames := R.frames, locals := R.locals, cells := 1, slots := 6 }) (Nat.le_refl _) (Nat.le_refl _) hRcells hRslots
  obtain ⟨s', hA⟩ : ∃ z, z = (T.setVm s.vm).setFrames (.invoking m args :: below) := ⟨_, rfl⟩
  rw [← hA] at Y
  have hvm : s'.vm = s.vm := by rw [hA]; rfl
  have hhp : s'.heap = H := by rw [hA]; exact hT
  have hW0 : s.WarmedH s'.vm := by rw [hvm]; exact State.WarmedH.refl s
  have hat' : ∀ w ∈ vx_at0 own ic cls names, w.before args s' = true := fun w hw => vx_ot_at hW0 hvm.symm (hgood w (List.mem_cons_of_mem _ (List.mem_cons_of_mem _ hw))) (hat w hw)
  have hk' : (Cond.classLink own ik cls).before args s' = true := vx_ot_at hW0 hvm.symm (hgood _ List.mem_cons_self) hk
  have hini' : (Cond.initialized cls).before args s' = true := vx_ot_at hW0 hvm.symm (hgood _ (List.mem_cons_of_mem _ List.mem_cons_self)) hini
  have hU' : vx_Zq Bundle.tN "UNASSIGNED_STACK" Bundle.steD A s' s'.heap := by rw [hhp]; exact vx_Zq.moved hW0.alike (hU.kept hS.2.1)
  have hN' : vx_Zq Bundle.tN "SUPPRESSED_SENTINEL" Bundle.listD A s' s'.heap := by rw [hhp]; exact vx_Zq.moved hW0.alike (hN.kept hS.2.1)
  have h : ∀ w ∈ Bundle.ownAtoms0 own ic cls names, w.before args s' = true := vx_own hat' (vx_isRefq hU'.1) (vx_isRefq hN'.1) hU'.2.word hN'.2.word
  have hown' : s'.vm.findClass own = some m.cls := by rw [hvm]; exact hown
  have hins : (Cond.instantiable cls 6).before args s' = true := h _ (by simp [Bundle.ownAtoms0])
  obtain ⟨vm₁, cX, kX, hfX, hkX, -, -, X₁, st1⟩ := Y.newCold hexec (own := own) (C := cls) (index := ik) (n := 6) hown' hk' hins hini'
    (g := F0 m pc ls rest) rfl (by rw [hb]; exact d0) (Nat.le_refl _) (Nat.le_refl _)
  generalize hT1 : (T.setVm vm₁).pushCell { cls := cX, slots := kX.instanceTypes.map defaultValue, vm := .none } = T1 at X₁ st1
  have hcat : (Value.ref T.heap.size).category = 1 := rfl
  have hcellA : T1.heap[T.heap.size]? = some (freshCell cX kX) := by rw [← hT1]; exact State.heap_pushCell_size _ _
  have d3' : decode c.code (pc + 3) = .ok (.dup, 1) := by rw [hb]; exact d3
  obtain ⟨U, hsteps, hrun, hend, hW, hsame, ce, hce, hO⟩ := X₁.ctorThrow0 hexec htr (own := own) (cls := cls) (names := names) (ic := ic) hown' hcls hnames h (fun x hx => nomatch hx) hfX hkX hcellA (by rw [hhp, hT]; exact Nat.le_refl _)
    (g := { method := m, pc := pc + 4, locals := ls, stack := .ref T.heap.size :: .ref T.heap.size :: rest, locked := none }) rfl hsize rfl rfl (rest := rest) rfl
    (by rw [hb]; exact d4) (by rw [hb]; exact d7) hout hRframes (by simp only [List.map_cons, List.sum_cons, hcat]; omega) hlocks
  obtain ⟨f1, f2⟩ := vx_frame hsame
  rw [hhp] at f1 f2
  have hWs : s.WarmedH U.vm := State.WarmedH.trans hW0 hW
  have hcl : s.vm.findClass cls = some ce.cls := by
    have h9 := hO.cls
    rw [hvm] at h9
    exact h9
  have hall : s.sameButNew ({ U with vm := s.vm } : State) locs mc ms := by
    subst hA
    obtain ⟨e1, e2⟩ := hsame
    rw [State.setFrames_setFrames] at e1
    have h2 : (T.setVm s.vm).sameButNew ({ U with vm := s.vm } : State) [] (0 + 1) (0 + 6) := ⟨e1, e2⟩
    have h3 := X.same.trans h2
    rw [List.append_nil] at h3
    exact h3.mono hc hs
  refine ⟨U, ?_, .threw T.heap.size, hrun, hend, Or.inr ⟨T.heap.size, rfl, cls, ce, locs, hx U hWs.alike f1 (fun q hq => f2 q hq (fun z hz => nomatch hz)), hce, hO.vm, hcl, hWs, hall, hf⟩⟩
  refine st1 _ ?_
  show Steps p.tables e below (T1.setTop { method := m, pc := pc + 3, locals := ls, stack := .ref T.heap.size :: rest, locked := none }) _
  jvm_step X₁.here [X₁.here.top, hexec, d3', Value.category]
  exact hsteps
theorem vx_throwS {cc : ByteArray} {pc : Nat} (hexec : p.tables.exec = Jvm.exec) (hb : c.code = cc) (hl : l.stackTraces = false) {own cls text : String} {names : List String} {ik is ic mc ms sa : Nat} {A : Nat → Prop}
    (hown : s.vm.findClass own = some m.cls) (hcls : Bundle.fit cls = true) (hnames : ∀ n ∈ names, Bundle.fit n = true)
    (hk : (Cond.classLink own ik cls).before args s = true) (hini : (Cond.initialized cls).before args s = true) (hstr : vk_R own is text sa s) (hat : ∀ w ∈ vx_atS own ic cls names, w.before args s = true)
    (hgood : ∀ w ∈ Cond.classLink own ik cls :: Cond.initialized cls :: vx_atS own ic cls names, vx_ot w = true)
    (hU : vx_Zq Bundle.tN "UNASSIGNED_STACK" Bundle.steD A s s.heap) (hN : vx_Zq Bundle.tN "SUPPRESSED_SENTINEL" Bundle.listD A s s.heap) (hS : va_S A s.heap H locs) (hsize : ls.size = c.maxLocals)
    (d0 : decode cc pc = .ok (.new ik, 3)) (d3 : decode cc (pc + 3) = .ok (.dup, 1)) (d4 : decode cc (pc + 4) = .ok (.ldc is, 2)) (d6 : decode cc (pc + 6) = .ok (.invokespecial ic, 3)) (d9 : decode cc (pc + 9) = .ok (.athrow, 1))
    (hout : ∀ x ∈ c.exceptionTable.toList, covers x (pc + 9) = false)
    (hRframes : names.length + 3 < R.frames) (hRlocals : (rest.map fun v => v.category).sum + (13 * (names.length + 1) + 43) ≤ R.locals) (hRcells : cells + 1 ≤ R.cells) (hRslots : slots + 6 ≤ R.slots) (hlocks : meth.locks = false)
    (hx : ∀ t : State, s.vm.Alike t.vm → H.size ≤ t.heap.size → (∀ q : Nat, q < H.size → t.heap[q]? = H[q]?) → XC cls s t)
    (hf : ∀ z ∈ locs, free z.base) (hc : cells + 1 ≤ mc) (hs : slots + 6 ≤ ms) :
    W p l e R s m args below meth c H locs cells slots (vx_MQ below Qc XC args s mc ms free) (F0 m pc ls rest) := by
  intro T hT X
  have htr : e.platform.stackTraces = false := (show e.platform.stackTraces = l.stackTraces by rw [X.admits.platform]).trans hl
  have Y := vx_rebase X (R' := { frames := R.frames, locals := R.locals, cells := 1, slots := 6 }) (Nat.le_refl _) (Nat.le_refl _) hRcells hRslots
  obtain ⟨s', hA⟩ : ∃ z, z = (T.setVm s.vm).setFrames (.invoking m args :: below) := ⟨_, rfl⟩
  rw [← hA] at Y
  have hvm : s'.vm = s.vm := by rw [hA]; rfl
  have hhp : s'.heap = H := by rw [hA]; exact hT
  have hW0 : s.WarmedH s'.vm := by rw [hvm]; exact State.WarmedH.refl s
  have hat' : ∀ w ∈ vx_atS own ic cls names, w.before args s' = true := fun w hw => vx_ot_at hW0 hvm.symm (hgood w (List.mem_cons_of_mem _ (List.mem_cons_of_mem _ hw))) (hat w hw)
  have hk' : (Cond.classLink own ik cls).before args s' = true := vx_ot_at hW0 hvm.symm (hgood _ List.mem_cons_self) hk
  have hini' : (Cond.initialized cls).before args s' = true := vx_ot_at hW0 hvm.symm (hgood _ (List.mem_cons_of_mem _ List.mem_cons_self)) hini
  have hU' : vx_Zq Bundle.tN "UNASSIGNED_STACK" Bundle.steD A s' s'.heap := by rw [hhp]; exact vx_Zq.moved hW0.alike (hU.kept hS.2.1)
  have hN' : vx_Zq Bundle.tN "SUPPRESSED_SENTINEL" Bundle.listD A s' s'.heap := by rw [hhp]; exact vx_Zq.moved hW0.alike (hN.kept hS.2.1)
  have h : ∀ w ∈ Bundle.ownAtoms own ic cls names, w.before args s' = true := vx_own hat' (vx_isRefq hU'.1) (vx_isRefq hN'.1) hU'.2.word hN'.2.word
  have hown' : s'.vm.findClass own = some m.cls := by rw [hvm]; exact hown
  have hins : (Cond.instantiable cls 6).before args s' = true := h _ (by simp [Bundle.ownAtoms])
  obtain ⟨vm₁, cX, kX, hfX, hkX, -, -, X₁, st1⟩ := Y.newCold hexec (own := own) (C := cls) (index := ik) (n := 6) hown' hk' hins hini'
    (g := F0 m pc ls rest) rfl (by rw [hb]; exact d0) (Nat.le_refl _) (Nat.le_refl _)
  generalize hT1 : (T.setVm vm₁).pushCell { cls := cX, slots := kX.instanceTypes.map defaultValue, vm := .none } = T1 at X₁ st1
  have hcat : (Value.ref T.heap.size).category = 1 := rfl
  have hcellA : T1.heap[T.heap.size]? = some (freshCell cX kX) := by rw [← hT1]; exact State.heap_pushCell_size _ _
  have d3' : decode c.code (pc + 3) = .ok (.dup, 1) := by rw [hb]; exact d3
  have d4' : decode c.code (pc + 4) = .ok (.ldc is, 2) := by rw [hb]; exact d4
  have hstr' : vk_R own is text sa s' := vk_R.warm hW0 hstr
  obtain ⟨U, hsteps, hrun, hend, hW, hsame, ce, hce, hO⟩ := X₁.ctorThrowS hexec htr (own := own) (cls := cls) (names := names) (ic := ic) hown' hcls hnames h (fun x hx => nomatch hx) hfX hkX hcellA (by rw [hhp, hT]; exact Nat.le_refl _) (msg := .ref sa) rfl
    (g := { method := m, pc := pc + 6, locals := ls, stack := .ref sa :: .ref T.heap.size :: .ref T.heap.size :: rest, locked := none }) rfl hsize rfl rfl (rest := rest) rfl
    (by rw [hb]; exact d6) (by rw [hb]; exact d9) hout hRframes (by simp only [List.map_cons, List.sum_cons, hcat]; omega) hlocks
  obtain ⟨f1, f2⟩ := vx_frame hsame
  rw [hhp] at f1 f2
  have hWs : s.WarmedH U.vm := State.WarmedH.trans hW0 hW
  have hcl : s.vm.findClass cls = some ce.cls := by
    have h9 := hO.cls
    rw [hvm] at h9
    exact h9
  have hall : s.sameButNew ({ U with vm := s.vm } : State) locs mc ms := by
    subst hA
    obtain ⟨e1, e2⟩ := hsame
    rw [State.setFrames_setFrames] at e1
    have h2 : (T.setVm s.vm).sameButNew ({ U with vm := s.vm } : State) [] (0 + 1) (0 + 6) := ⟨e1, e2⟩
    have h3 := X.same.trans h2
    rw [List.append_nil] at h3
    exact h3.mono hc hs
  refine ⟨U, ?_, .threw T.heap.size, hrun, hend, Or.inr ⟨T.heap.size, rfl, cls, ce, locs, hx U hWs.alike f1 (fun q hq => f2 q hq (fun z hz => nomatch hz)), hce, hO.vm, hcl, hWs, hall, hf⟩⟩
  refine st1 _ ?_
  show Steps p.tables e below (T1.setTop { method := m, pc := pc + 3, locals := ls, stack := .ref T.heap.size :: rest, locked := none }) _
  jvm_step X₁.here [X₁.here.top, hexec, d3', Value.category]
  exact X₁.ldcString hexec (own := own) (text := text) (index := is) (a := sa) hown' hstr'.1 hstr'.2
    (g := { method := m, pc := pc + 4, locals := ls, stack := .ref T.heap.size :: .ref T.heap.size :: rest, locked := none }) rfl d4' _ hsteps
theorem vx_throwSW {cc : ByteArray} {pc : Nat} (hexec : p.tables.exec = Jvm.exec) (hb : c.code = cc) (hl : l.stackTraces = false) {own cls text : String} {names : List String} {ik is ic mc ms sa : Nat} {A : Nat → Prop}
    (hown : s.vm.findClass own = some m.cls) (hcls : Bundle.fit cls = true) (hnames : ∀ n ∈ names, Bundle.fit n = true)
    (hk : (Cond.classLink own ik cls).before args s = true) (hini : (Cond.initialized cls).before args s = true) (hstr : vk_R own is text sa s) (hat : ∀ w ∈ vx_atS own ic cls names, w.before args s = true)
    (hgood : ∀ w ∈ Cond.classLink own ik cls :: Cond.initialized cls :: vx_atS own ic cls names, vx_ot w = true)
    (hU : vx_Zq Bundle.tN "UNASSIGNED_STACK" Bundle.steD A s s.heap) (hN : vx_Zq Bundle.tN "SUPPRESSED_SENTINEL" Bundle.listD A s s.heap) (hS : va_S A s.heap H locs) (hsize : ls.size = c.maxLocals)
    (d0 : decode cc pc = .ok (.new ik, 3)) (d3 : decode cc (pc + 3) = .ok (.dup, 1)) (d4 : decode cc (pc + 4) = .ok (.ldc_w is, 3)) (d7 : decode cc (pc + 7) = .ok (.invokespecial ic, 3)) (d10 : decode cc (pc + 10) = .ok (.athrow, 1))
    (hout : ∀ x ∈ c.exceptionTable.toList, covers x (pc + 10) = false)
    (hRframes : names.length + 3 < R.frames) (hRlocals : (rest.map fun v => v.category).sum + (13 * (names.length + 1) + 43) ≤ R.locals) (hRcells : cells + 1 ≤ R.cells) (hRslots : slots + 6 ≤ R.slots) (hlocks : meth.locks = false)
    (hx : ∀ t : State, s.vm.Alike t.vm → H.size ≤ t.heap.size → (∀ q : Nat, q < H.size → t.heap[q]? = H[q]?) → XC cls s t)
    (hf : ∀ z ∈ locs, free z.base) (hc : cells + 1 ≤ mc) (hs : slots + 6 ≤ ms) :
    W p l e R s m args below meth c H locs cells slots (vx_MQ below Qc XC args s mc ms free) (F0 m pc ls rest) := by
  intro T hT X
  have htr : e.platform.stackTraces = false := (show e.platform.stackTraces = l.stackTraces by rw [X.admits.platform]).trans hl
  have Y := vx_rebase X (R' := { frames := R.frames, locals := R.locals, cells := 1, slots := 6 }) (Nat.le_refl _) (Nat.le_refl _) hRcells hRslots
  obtain ⟨s', hA⟩ : ∃ z, z = (T.setVm s.vm).setFrames (.invoking m args :: below) := ⟨_, rfl⟩
  rw [← hA] at Y
  have hvm : s'.vm = s.vm := by rw [hA]; rfl
  have hhp : s'.heap = H := by rw [hA]; exact hT
  have hW0 : s.WarmedH s'.vm := by rw [hvm]; exact State.WarmedH.refl s
  have hat' : ∀ w ∈ vx_atS own ic cls names, w.before args s' = true := fun w hw => vx_ot_at hW0 hvm.symm (hgood w (List.mem_cons_of_mem _ (List.mem_cons_of_mem _ hw))) (hat w hw)
  have hk' : (Cond.classLink own ik cls).before args s' = true := vx_ot_at hW0 hvm.symm (hgood _ List.mem_cons_self) hk
  have hini' : (Cond.initialized cls).before args s' = true := vx_ot_at hW0 hvm.symm (hgood _ (List.mem_cons_of_mem _ List.mem_cons_self)) hini
  have hU' : vx_Zq Bundle.tN "UNASSIGNED_STACK" Bundle.steD A s' s'.heap := by rw [hhp]; exact vx_Zq.moved hW0.alike (hU.kept hS.2.1)
  have hN' : vx_Zq Bundle.tN "SUPPRESSED_SENTINEL" Bundle.listD A s' s'.heap := by rw [hhp]; exact vx_Zq.moved hW0.alike (hN.kept hS.2.1)
  have h : ∀ w ∈ Bundle.ownAtoms own ic cls names, w.before args s' = true := vx_own hat' (vx_isRefq hU'.1) (vx_isRefq hN'.1) hU'.2.word hN'.2.word
  have hown' : s'.vm.findClass own = some m.cls := by rw [hvm]; exact hown
  have hins : (Cond.instantiable cls 6).before args s' = true := h _ (by simp [Bundle.ownAtoms])
  obtain ⟨vm₁, cX, kX, hfX, hkX, -, -, X₁, st1⟩ := Y.newCold hexec (own := own) (C := cls) (index := ik) (n := 6) hown' hk' hins hini'
    (g := F0 m pc ls rest) rfl (by rw [hb]; exact d0) (Nat.le_refl _) (Nat.le_refl _)
  generalize hT1 : (T.setVm vm₁).pushCell { cls := cX, slots := kX.instanceTypes.map defaultValue, vm := .none } = T1 at X₁ st1
  have hcat : (Value.ref T.heap.size).category = 1 := rfl
  have hcellA : T1.heap[T.heap.size]? = some (freshCell cX kX) := by rw [← hT1]; exact State.heap_pushCell_size _ _
  have d3' : decode c.code (pc + 3) = .ok (.dup, 1) := by rw [hb]; exact d3
  have d4' : decode c.code (pc + 4) = .ok (.ldc_w is, 3) := by rw [hb]; exact d4
  have hstr' : vk_R own is text sa s' := vk_R.warm hW0 hstr
  obtain ⟨U, hsteps, hrun, hend, hW, hsame, ce, hce, hO⟩ := X₁.ctorThrowS hexec htr (own := own) (cls := cls) (names := names) (ic := ic) hown' hcls hnames h (fun x hx => nomatch hx) hfX hkX hcellA (by rw [hhp, hT]; exact Nat.le_refl _) (msg := .ref sa) rfl
    (g := { method := m, pc := pc + 7, locals := ls, stack := .ref sa :: .ref T.heap.size :: .ref T.heap.size :: rest, locked := none }) rfl hsize rfl rfl (rest := rest) rfl
    (by rw [hb]; exact d7) (by rw [hb]; exact d10) hout hRframes (by simp only [List.map_cons, List.sum_cons, hcat]; omega) hlocks
  obtain ⟨f1, f2⟩ := vx_frame hsame
  rw [hhp] at f1 f2
  have hWs : s.WarmedH U.vm := State.WarmedH.trans hW0 hW
  have hcl : s.vm.findClass cls = some ce.cls := by
    have h9 := hO.cls
    rw [hvm] at h9
    exact h9
  have hall : s.sameButNew ({ U with vm := s.vm } : State) locs mc ms := by
    subst hA
    obtain ⟨e1, e2⟩ := hsame
    rw [State.setFrames_setFrames] at e1
    have h2 : (T.setVm s.vm).sameButNew ({ U with vm := s.vm } : State) [] (0 + 1) (0 + 6) := ⟨e1, e2⟩
    have h3 := X.same.trans h2
    rw [List.append_nil] at h3
    exact h3.mono hc hs
  refine ⟨U, ?_, .threw T.heap.size, hrun, hend, Or.inr ⟨T.heap.size, rfl, cls, ce, locs, hx U hWs.alike f1 (fun q hq => f2 q hq (fun z hz => nomatch hz)), hce, hO.vm, hcl, hWs, hall, hf⟩⟩
  refine st1 _ ?_
  show Steps p.tables e below (T1.setTop { method := m, pc := pc + 3, locals := ls, stack := .ref T.heap.size :: rest, locked := none }) _
  jvm_step X₁.here [X₁.here.top, hexec, d3', Value.category]
  exact X₁.ldcStringW hexec (own := own) (text := text) (index := is) (a := sa) hown' hstr'.1 hstr'.2
    (g := { method := m, pc := pc + 4, locals := ls, stack := .ref T.heap.size :: .ref T.heap.size :: rest, locked := none }) rfl d4' _ hsteps
end Ends
section Bodies
variable {l : Launch}
theorem vx_ofW {y : MethodName} {ws ws' : List Cond} {rm : Room} {Pc : Array Value → State → Prop} {Qc : Array Value → State → Outcome → State → Prop} {XC : String → State → State → Prop} {mc ms : Nat} {free : Addr → Prop} {cc : ByteArray} {maxL : Nat} {ret : Option FieldType}
    (hy : plainName y.cls = true) (hw : ws = Cond.code y cc maxL ret :: ws')
    (body : ∀ p e s m args below meth c s₁, BodyLoose p l y (headSpec ws rm) cc maxL ret e s m args below meth c s₁ → c.maxLocals = maxL → (∀ x ∈ c.exceptionTable.toList, False) → Pc args s →
      W p l e (headSpec ws rm).room s m args below meth c s.heap [] 0 0 (vx_MQ below Qc XC args s mc ms free) (entryFrame m args maxL)) : vx_Met l y ws rm Pc Qc XC mc ms free := by
  refine MetFree.of_bodyS (code := cc) (maxLocals := maxL) (ret := ret) hy ?_ ?_
  · intro args s m h hn
    obtain ⟨meth, c, h1, h2, h3, h4, h5, h6, -, -⟩ := Cond.code_spec hn (atoms_spec (ws := ws) h _ (by rw [hw]; exact List.mem_cons_self))
    exact ⟨meth, c, h1, h2, h3, h4, h5, h6⟩
  · intro p e s m args below meth c s₁ B hml hP _
    have hh0 : s₁.heap = s.heap := by rw [B.state]; rfl
    have ht : ∀ x ∈ c.exceptionTable.toList, False := by
      obtain ⟨meth9, c9, h1, h2, -, -, -, -, h7, -⟩ := Cond.code_spec B.named (atoms_spec (ws := ws) B.pre _ (by rw [hw]; exact List.mem_cons_self))
      cases Option.some.inj (h1.symm.trans B.method)
      cases Option.some.inj (h2.symm.trans (Stand.of_body B).code)
      intro x hx
      rw [Array.isEmpty_iff.mp h7] at hx
      cases hx
    obtain ⟨t, a1, o, b1, b2, b3⟩ := body p e s m args below meth c s₁ B hml ht hP s₁ hh0 (Stand.of_body B)
    exact ⟨t, o, a1, b1, b2, b3⟩
theorem vx_table {p : Program} {x y : MethodName} {S : Spec} {cc bytes : ByteArray} {maxL maxL' : Nat} {ret ret' : Option FieldType} {e : Env} {s s₁ : State} {m : MethodId} {args : Array Value} {below : List Frame} {meth : Method} {c : Code} {hh : List (Nat × Nat × Nat × Nat)}
    (B : BodyLoose p l y S cc maxL ret e s m args below meth c s₁) (h : (Cond.codeWith y bytes maxL' ret' hh).before args s = true) : c.exceptionTable.toList = tableOf hh := by
  obtain ⟨m9, meth9, c9, hn9, h1, h2, -, -, h6, -⟩ := Cond.codeWith_spec h
  cases Option.some.inj (hn9.symm.trans B.named)
  cases Option.some.inj (h1.symm.trans B.method)
  cases Option.some.inj (h2.symm.trans (Stand.of_body B).code)
  rw [← h6, table_eq]
end Bodies
end VXA
section VXS
variable {p : Program} {l : Launch} {e : Env} {R : Room} {s : State} {m : MethodId} {args : Array Value} {below : List Frame} {meth : Method} {c : Code} {T : State} {H : Heap} {locs : List Loc} {cells slots : Nat}
abbrev vx_CSW (R : Room) (s : State) (args : Array Value) (own : String) (index : Nat) (y : MethodName) (bytes : ByteArray) (maxL : Nat) (ret : Option FieldType) (hh : List (Nat × Nat × Nat × Nat)) (ws : List Cond) (rm : Room) (mc ms n : Nat) : Prop :=
  (rm.cells = mc ∧ rm.slots = ms ∧ rm.frames + 1 ≤ R.frames ∧ 8 + (maxL + 11) + rm.locals ≤ R.locals ∧ (∀ w ∈ ws, ∀ (a' : Array Value) (U : State), s.WarmedH U.vm → w.before a' U = true) ∧ Cond.codeWith y bytes maxL ret hh ∈ ws) ∧
  (Cond.codeWith y bytes maxL ret hh).before args s = true ∧ (Cond.initialized y.cls).before args s = true ∧ (y.cls ≠ "java/lang/invoke/MethodHandle" ∧ y.cls ≠ "java/lang/invoke/VarHandle") ∧
  (∀ sig, parseMethodDescriptor y.desc = some sig → n = sig.parameters.length) ∧ (Cond.methodLink own index y).before args s = true ∧ (Cond.static y).before args s = true
theorem vx_cwSW {own : String} {index maxL mc ms : Nat} {y : MethodName} {bytes : ByteArray} {ret : Option FieldType} {hh : List (Nat × Nat × Nat × Nat)} {Ts ws ws' : List Cond} {rm : Room} (n : Nat) (ht : ∀ w ∈ Ts, w.before args s = true) (hT : GoodIn Ts (va_wsS own index y ws)) (hw : ws = Cond.codeWith y bytes maxL ret hh :: ws') (hrc : rm.cells = mc) (hrs : rm.slots = ms)
    (hd : y.cls ≠ "java/lang/invoke/MethodHandle" ∧ y.cls ≠ "java/lang/invoke/VarHandle" ∧ (parseMethodDescriptor y.desc).map (fun d => d.parameters.length) = some n) (hR : rm.frames + 1 ≤ R.frames ∧ 8 + (maxL + 11) + rm.locals ≤ R.locals) :
    vx_CSW R s args own index y bytes maxL ret hh ws rm mc ms n := by
  have ok : ∀ w ∈ va_wsS own index y ws, w.before args s = true := fun w h => ht w (hT w h).1
  have hG : GoodIn Ts ws := fun w h => hT w (by unfold va_wsS; exact List.mem_append_right _ h)
  have hc : Cond.codeWith y bytes maxL ret hh ∈ ws := by rw [hw]; exact List.mem_cons_self
  refine ⟨⟨hrc, hrs, hR.1, hR.2, pay_in ht hG, hc⟩, ht _ (hG _ hc).1, ok _ (by simp [va_wsS]), ⟨hd.1, hd.2.1⟩, fun sig h => ?_, ok _ (by simp [va_wsS]), ok _ (by simp [va_wsS])⟩
  have h2 := hd.2.2
  rw [h] at h2
  exact (Option.some.inj h2).symm
theorem vx_callSW (X : Stand p l e R s m args below meth c T locs cells slots) (hexec : p.tables.exec = Jvm.exec) {own : String} {index : Nat} {y : MethodName} {bytes : ByteArray} {maxL : Nat} {ret : Option FieldType} {hh : List (Nat × Nat × Nat × Nat)}
    (hown : s.vm.findClass own = some m.cls) (hlink : (Cond.methodLink own index y).before args s = true) (hstat : (Cond.static y).before args s = true) (hinit : (Cond.initialized y.cls).before args s = true)
    (hcode : (Cond.codeWith y bytes maxL ret hh).before args s = true) (hy : y.cls ≠ "java/lang/invoke/MethodHandle" ∧ y.cls ≠ "java/lang/invoke/VarHandle")
    {W9 : Nat} {Pre : Pt → Array Value → Prop} {Post : Pt → Array Value → Option Value → Pt → Prop} (hK : Back l R p e below s args y 3 W9 Pre Post)
    {g : JFrame} (hg : g.method = m) (hsize : g.locals.size = c.maxLocals) {argsL rest : List Value} (hlen : ∀ sig, parseMethodDescriptor y.desc = some sig → argsL.length = sig.parameters.length)
    (hstack : g.stack = argsL.reverse ++ rest) (hW : 2 * g.monitorRoom + (rest.map fun v => v.category).sum ≤ W9) (hdg : decode c.code g.pc = .ok (.invokestatic index, 3))
    (hpre : ∀ vm₁, s.WarmedH vm₁ → Pre ⟨T.setVm vm₁, locs, cells, slots⟩ argsL.toArray) :
    ∃ (v : Option Value) (vm₁ : Vm) (B : Pt), s.WarmedH vm₁ ∧ Stand p l e R s m args below meth c B.U B.locs B.cells B.slots ∧ Post ⟨T.setVm vm₁, locs, cells, slots⟩ argsL.toArray v B ∧
      ∀ target, Steps p.tables e below (B.U.setTop { g with pc := g.pc + 3, stack := v.toList ++ rest }) target → Steps p.tables e below (T.setTop g) target := by
  obtain ⟨mk, methM, cM, hnamed, hmethM, -, -, -, -, -, -, hsigM⟩ := Cond.codeWith_spec hcode
  have hstatic : methM.isStatic = true := Cond.static_spec hnamed hmethM hstat
  obtain ⟨kP, hkP, -⟩ := className_of_methodNamed hnamed
  have hinitP : kP.init = .initialized := Cond.initialized_spec (findClass_of_methodNamed hnamed) hkP hinit
  obtain ⟨vm₁, X₁, hstep₁⟩ := X.invokestatic hexec hown hlink hnamed hmethM hstatic hkP hinitP hy (g := g) hg (argsL := argsL) (rest := rest) (hlen _ hsigM) hstack hdg
  obtain ⟨v, B, X', hpost, hsteps⟩ := hK m meth c ⟨T.setVm vm₁, locs, cells, slots⟩ { g with stack := rest } (.invokestatic index) mk argsL.toArray X₁ hg hsize hdg hW (X₁.named hnamed) (hpre vm₁ X₁.warmed)
  exact ⟨v, vm₁, B, X₁.warmed, X', hpost, fun target h => hstep₁ _ fun acts => by rw [doInvoke_state]; exact hsteps.trans h⟩
theorem vx_runSW {y : MethodName} {bytes cc : ByteArray} {maxL nL mc ms n index : Nat} {ret : Option FieldType} {hh : List (Nat × Nat × Nat × Nat)} {ws : List Cond} {rm : Room} {Pc : Array Value → State → Prop} {Qc : Array Value → State → Outcome → State → Prop} {free : Addr → Prop} {Ts : List Cond} {own : String} {As rest : List Value} {g : JFrame}
    (S : CallFix p m c cc nL s args Ts own) (hM : Met l y ws rm Pc Qc mc ms free) (cw : vx_CSW R s args own index y bytes maxL ret hh ws rm mc ms n) (hp : PreS s H Pc As)
    (hg : g.method = m) (hn : As.length = n) (hsize : g.locals.size = nL) (hstack : g.stack = As.reverse ++ rest) (hW : 2 * g.monitorRoom + (rest.map fun v => v.category).sum ≤ 8) (hdg : decode cc g.pc = .ok (.invokestatic index, 3)) (hf : cells + mc ≤ R.cells ∧ slots + ms ≤ R.slots) :
    va_Run p l e R s m args below meth c H locs cells slots mc ms g rest (Qc As.toArray) (free) := by
  obtain ⟨⟨hrc, hrs, hfr, hlo, hws, hcw⟩, hcode, hini, hy, hlen, hl, hstt⟩ := cw
  have hK : Back l R p e below s args y 3 8 (PreOf R mc ms Pc) (PostOf Qc mc ms free) := va_backW (hh := hh) (bytes := bytes) (maxL := maxL) (ret := ret) hM hp.1 hrc hrs hfr hlo hws hcw (fun a' U hW => word_at hW (Or.inl (by first | rfl | simp [Cond.onTables, Cond.keeps, Cond.steady])) hini)
  obtain ⟨hx, hb, hml, ho, -⟩ := S
  intro T hT X
  obtain ⟨v, vm₁, ⟨U', l2, c2, s2⟩, hW₁, X', ⟨g', mk, t, L, e1, e2, hq, h1, hL, h2, h3⟩, st⟩ := vx_callSW X hx (hh := hh) (bytes := bytes) (maxL := maxL) (ret := ret) ho hl hstt hini hcode hy hK hg (hsize.trans hml.symm) (argsL := As) (rest := rest) (fun sig h => hn.trans (hlen sig h)) hstack hW (by rw [hb]; exact hdg)
    (fun vm₁ hW₁ => ⟨hf.1, hf.2, hp.2 (T.setVm vm₁) hT hW₁⟩)
  dsimp only [Pt.U, Pt.locs, Pt.cells, Pt.slots] at X' e1 e2 h1 h2 h3 st
  subst h1; subst h2; subst h3
  exact ⟨v, (T.setVm vm₁).calling g' mk As.toArray, t, U', L, hT, X', hL, e1, e2, hq, st⟩
theorem vx_lt {D : va_G} {cl : List vw_C} {ws : va_W} {H1 : Heap} (h : va_P D cl ws H1) {k : Nat} {q : Nat × va_E} (hk : ws[k]? = some q) : q.1 < H1.size := (h k q hk).lt
end VXS
section VXH
section
variable {l : Launch} {R : Room} {p : Program} {e : Env} {below : List Frame} {s : State} {sargs : Array Value} {y : MethodName} {len W9 : Nat}
theorem vx_backW {ws : List Cond} {rm : Room} {Pc : Array Value → State → Prop} {Qc : Array Value → State → Outcome → State → Prop} {XC : String → State → State → Prop} {mc ms : Nat} {free : Addr → Prop} {bytes : ByteArray} {maxL : Nat} {ret : Option FieldType} {hh : List (Nat × Nat × Nat × Nat)}
    (hM : vx_Met l y ws rm Pc Qc XC mc ms free) (hblind : FrameBlind Pc) (hrc : rm.cells = mc) (hrs : rm.slots = ms)
    (hframes : rm.frames + 1 ≤ R.frames) (hlocals : W9 + (maxL + 11) + rm.locals ≤ R.locals)
    (hws : ∀ w ∈ ws, ∀ a' U, s.WarmedH U.vm → w.before a' U = true) (hcode : Cond.codeWith y bytes maxL ret hh ∈ ws) (hinit : ∀ a' U, s.WarmedH U.vm → (Cond.initialized y.cls).before a' U = true) :
    vx_Back l R p e below s sargs y len W9 (PreOf R mc ms Pc) (PostOf Qc mc ms free) (vx_Post XC mc ms free) := by
  intro m meth c A g ig mk a X hg hsize hdg hW hn hp
  have h1 : (headSpec ws rm).pre.before a A.U = true := atoms_intro fun w hw => hws w hw _ _ X.warmed
  have h2 : (Cond.codeWith y bytes maxL ret hh).before a A.U = true := hws _ hcode _ _ X.warmed
  have h3 : (Cond.initialized y.cls).before a A.U = true := hinit _ _ X.warmed
  have h4 : A.cells + (headSpec ws rm).room.cells ≤ R.cells := by rw [show (headSpec ws rm).room.cells = mc from hrc]; exact hp.1
  have h5 : A.slots + (headSpec ws rm).room.slots ≤ R.slots := by rw [show (headSpec ws rm).room.slots = ms from hrs]; exact hp.2.1
  have hPc : Pc a (A.U.calling g mk a) := hblind _ _ _ _ hp.2.2
  obtain ⟨U, Ls, c0, s0⟩ := A
  dsimp only [Pt.U, Pt.locs, Pt.cells, Pt.slots] at h1 h2 h3 h4 h5 X hn hPc ⊢
  obtain ⟨m9, methY, cY, hn9, hmY, hcY, -, hlY, -⟩ := Cond.codeWith_spec h2
  cases Option.some.inj (hn9.symm.trans hn)
  obtain ⟨kY, hkY, -⟩ := className_of_methodNamed hn
  have hinitY : kY.init = .initialized := Cond.initialized_spec (findClass_of_methodNamed hn) hkY h3
  have h : At U g.method c below := by rw [hg]; exact X.here
  have hlocals9 : W9 + (maxL + 11) + (headSpec ws rm).room.locals ≤ R.locals := hlocals
  have happ : (headSpec ws rm).appliesLoose y e.platform (U.calling g mk a) = true :=
    Spec.appliesLoose_calling (g := g) h hdg hn hkY hinitY
      (X.room_calling (g := g) (R' := (headSpec ws rm).room) hsize hmY hcY hframes (by rw [hlY]; omega) h4 h5) h1
  obtain ⟨mid, hmid⟩ := h.above
  have hfr : (U.setTop g).frames = (.java g :: mid) ++ below := by rw [State.frames_setTop' g h.top, hmid]; rfl
  obtain ⟨o, s₂, hsteps, -, hend, hq⟩ := Steps.callFree hM p X.admits X.cas X.clock (acts := []) hfr happ hPc trivial
  have hq' : vx_Q Qc XC mc ms free a (U.calling g mk a) o s₂ := hq
  rw [State.frames_setTop' g h.top] at hend
  obtain ⟨g₀, hg0⟩ := Option.isSome_iff_exists.mp h.top
  obtain ⟨r, hr⟩ := State.topJava?_eq_some.mp hg0
  have hr' : (({ U with heap := s₂.heap, slotsUsed := s₂.slotsUsed } : State).setVm s₂.vm).frames = .java g₀ :: r := hr
  rcases hq' with ⟨hqc, L, hfe, hL⟩ | ⟨q, rfl, E, ce, L, hx, hce, hcv, hcl, hW₂, hsm, hL⟩
  · obtain ⟨⟨v, rfl⟩, hW₂, e2, q2, q3, q4, q5, q6⟩ := id hfe
    have e3 : s₂ = ({ (U.calling g mk a).setFrames s₂.frames with heap := s₂.heap, slotsUsed := s₂.slotsUsed } : State).setVm s₂.vm := by
      have : s₂ = ({ s₂ with vm := (U.calling g mk a).vm } : State).setVm s₂.vm := rfl
      rw [e2] at this
      exact this
    obtain ⟨c₂, i₂, len₂, hc₂, hd₂, hf₂⟩ := hend
    have hW' : U.WarmedH s₂.vm := hW₂
    have hcc : c₂ = c := by
      have h1 : s₂.code? g.method = U.code? g.method := by
        rw [State.code?_eq, State.code?_eq, hW'.alike.method?]
      exact Option.some.inj (hc₂.symm.trans (h1.trans h.code))
    subst hcc
    have hlen : len₂ = len := by rw [hdg] at hd₂; cases hd₂; rfl
    subst hlen
    have hs₂ : s₂ = (({ U with heap := s₂.heap, slotsUsed := s₂.slotsUsed } : State).setVm s₂.vm).setTop { g with pc := g.pc + len₂, stack := v.toList ++ g.stack } := by
      refine e3.trans ?_
      rw [hf₂, State.calling_eq h.top, State.setFrames_setFrames, State.setTop_of_frames _ hr', hr]
      rfl
    have hsame : U.sameButNew ({ U with heap := s₂.heap, slotsUsed := s₂.slotsUsed } : State) L mc ms := by
      refine ⟨?_, q2, q3, q4, q5, q6⟩
      obtain ⟨t, ht, -⟩ := State.frames_cons hr
      show ({ U with heap := s₂.heap, slotsUsed := s₂.slotsUsed } : State) = { U.setFrames U.frames with heap := s₂.heap, slotsUsed := s₂.slotsUsed }
      rw [State.setFrames_self ht]
    subst hg
    refine Or.inl ⟨v, ⟨(({ U with heap := s₂.heap, slotsUsed := s₂.slotsUsed } : State).setVm s₂.vm), Ls ++ L, c0 + mc, s0 + ms⟩,
      ⟨X.admits, X.cas, X.clock, X.frames, X.room, X.hears, X.method, X.code, (X.here.setHeapUsed s₂.heap s₂.slotsUsed).setVm hW'.alike, X.tail, State.WarmedH.trans X.warmed hW', X.limits, X.bytes, X.same.trans (hsame.setVm s.vm)⟩,
      ⟨g, mk, s₂, L, rfl, rfl, hqc, rfl, hL, rfl, rfl⟩, ?_⟩
    show Steps p.tables e below _ ((({ U with heap := s₂.heap, slotsUsed := s₂.slotsUsed } : State).setVm s₂.vm).setTop { g with pc := g.pc + len₂, stack := v.toList ++ g.stack })
    rw [← hs₂]
    exact hsteps
  · obtain ⟨e2, q2, q3, q4, q5, q6⟩ := id hsm
    have e3 : s₂ = ({ (U.calling g mk a).setFrames s₂.frames with heap := s₂.heap, slotsUsed := s₂.slotsUsed } : State).setVm s₂.vm := by
      have : s₂ = ({ s₂ with vm := (U.calling g mk a).vm } : State).setVm s₂.vm := rfl
      rw [e2] at this
      exact this
    have hf₂ : s₂.frames = .throwing q :: .java g :: U.frames.tail := hend
    have hW' : U.WarmedH s₂.vm := hW₂
    have hs₂ : s₂ = ((({ U with heap := s₂.heap, slotsUsed := s₂.slotsUsed } : State).setVm s₂.vm).setTop g).pushFrame (.throwing q) := by
      refine e3.trans ?_
      rw [hf₂, State.calling_eq h.top, State.setFrames_setFrames, State.pushFrame, State.frames_setTop _ hr', State.setTop_of_frames _ hr', State.setFrames_setFrames, hr]
      rfl
    have hsame : U.sameButNew ({ U with heap := s₂.heap, slotsUsed := s₂.slotsUsed } : State) L mc ms := by
      refine ⟨?_, q2, q3, q4, q5, q6⟩
      obtain ⟨t, ht, -⟩ := State.frames_cons hr
      show ({ U with heap := s₂.heap, slotsUsed := s₂.slotsUsed } : State) = { U.setFrames U.frames with heap := s₂.heap, slotsUsed := s₂.slotsUsed }
      rw [State.setFrames_self ht]
    subst hg
    refine Or.inr ⟨q, ⟨(({ U with heap := s₂.heap, slotsUsed := s₂.slotsUsed } : State).setVm s₂.vm), Ls ++ L, c0 + mc, s0 + ms⟩,
      ⟨X.admits, X.cas, X.clock, X.frames, X.room, X.hears, X.method, X.code, (X.here.setHeapUsed s₂.heap s₂.slotsUsed).setVm hW'.alike, X.tail, State.WarmedH.trans X.warmed hW', X.limits, X.bytes, X.same.trans (hsame.setVm s.vm)⟩,
      ⟨g, mk, s₂, L, E, ce, rfl, rfl, hx, hce, hcv, hcl, rfl, hL, rfl, rfl⟩, ?_⟩
    show Steps p.tables e below _ (((({ U with heap := s₂.heap, slotsUsed := s₂.slotsUsed } : State).setVm s₂.vm).setTop g).pushFrame (.throwing q))
    rw [← hs₂]
    exact hsteps
end
variable {p : Program} {l : Launch} {e : Env} {R : Room} {s : State} {m : MethodId} {args : Array Value} {below : List Frame} {meth : Method} {c : Code} {T : State} {H : Heap} {locs : List Loc} {cells slots : Nat}
theorem vx_callVX (X : Stand p l e R s m args below meth c T locs cells slots) (hexec : p.tables.exec = Jvm.exec) {own C : String} {index : Nat} {y : MethodName} {bytes : ByteArray} {maxL : Nat} {ret : Option FieldType} {hh : List (Nat × Nat × Nat × Nat)}
    (hown : s.vm.findClass own = some m.cls) (hlink : (Cond.methodLink own index y).before args s = true) (hinst : (Cond.instanceMethod y).before args s = true) (hsel : (Cond.selects C y y).before args s = true)
    (hcode : (Cond.codeWith y bytes maxL ret hh).before args s = true) (hy : y.cls ≠ "java/lang/invoke/MethodHandle" ∧ y.cls ≠ "java/lang/invoke/VarHandle")
    {W9 : Nat} {Pre : Pt → Array Value → Prop} {Post : Pt → Array Value → Option Value → Pt → Prop} {PostX : Pt → Array Value → Addr → Pt → Prop} (hK : vx_Back l R p e below s args y 3 W9 Pre Post PostX)
    {b : Addr} {cellB : Cell} (hcell : T.heap[b]? = some cellB) (hobj : cellB.vm.isStatics = false) (hcls : s.vm.findClass C = some cellB.cls)
    {g : JFrame} (hg : g.method = m) (hsize : g.locals.size = c.maxLocals) {argsL rest : List Value} (hlen : ∀ sig, parseMethodDescriptor y.desc = some sig → argsL.length = sig.parameters.length)
    (hstack : g.stack = argsL.reverse ++ .ref b :: rest) (hW : 2 * g.monitorRoom + (rest.map fun v => v.category).sum ≤ W9) (hdg : decode c.code g.pc = .ok (.invokevirtual index, 3))
    (hpre : ∀ vm₁, s.WarmedH vm₁ → Pre ⟨T.setVm vm₁, locs, cells, slots⟩ (Value.ref b :: argsL).toArray) :
    (∃ (v : Option Value) (vm₁ : Vm) (B : Pt), s.WarmedH vm₁ ∧ Stand p l e R s m args below meth c B.U B.locs B.cells B.slots ∧ Post ⟨T.setVm vm₁, locs, cells, slots⟩ (Value.ref b :: argsL).toArray v B ∧
      ∀ target, Steps p.tables e below (B.U.setTop { g with pc := g.pc + 3, stack := v.toList ++ rest }) target → Steps p.tables e below (T.setTop g) target) ∨
    (∃ (q : Addr) (vm₁ : Vm) (B : Pt), s.WarmedH vm₁ ∧ Stand p l e R s m args below meth c B.U B.locs B.cells B.slots ∧ PostX ⟨T.setVm vm₁, locs, cells, slots⟩ (Value.ref b :: argsL).toArray q B ∧
      Steps p.tables e below (T.setTop g) ((B.U.setTop { g with stack := rest }).pushFrame (.throwing q))) := by
  obtain ⟨mk, methM, hnamed, hmethM, hstM, habM⟩ := Cond.instanceMethod_spec hinst
  obtain ⟨m8, methM', cM, hn8, hmethM', -, -, -, -, -, -, hsigM⟩ := Cond.codeWith_spec hcode
  cases Option.some.inj (hn8.symm.trans hnamed)
  cases hmethM.symm.trans hmethM'
  obtain ⟨c2, r2, m2, q1, q2, q3, q4, kP, hkP, hkPi⟩ := Cond.selects_spec hsel
  cases hcls.symm.trans q1
  cases (State.methodFound?_of_named hnamed hy).symm.trans q2
  cases hnamed.symm.trans q3
  have hselP : selectMethod e.platform s.vm cellB.cls mk = .method mk := by rw [Launch.admits_selectMethod X.admits]; exact q4
  obtain ⟨vm₁, X₁, hstep₁⟩ := X.invokevirtual hexec hown hlink hnamed hmethM hstM hkP hkPi hy (a := b) (cell := cellB) hcell
    (fun z h => by rw [h] at hobj; cases hobj) hselP hmethM habM hkP hkPi (g := g) hg (argsL := argsL) (rest := rest) (hlen _ hsigM) hstack hdg
  rcases hK m meth c ⟨T.setVm vm₁, locs, cells, slots⟩ { g with stack := rest } (.invokevirtual index) mk (Value.ref b :: argsL).toArray X₁ hg hsize hdg hW (X₁.named hnamed) (hpre vm₁ X₁.warmed) with ⟨v, B, X', hpost, hsteps⟩ | ⟨q, B, X', hpost, hsteps⟩
  · exact Or.inl ⟨v, vm₁, B, X₁.warmed, X', hpost, fun target h => hstep₁ _ fun acts => by rw [doInvoke_state]; exact hsteps.trans h⟩
  · exact Or.inr ⟨q, vm₁, B, X₁.warmed, X', hpost, hstep₁ _ fun acts => by rw [doInvoke_state]; exact hsteps⟩
theorem vx_callSX (X : Stand p l e R s m args below meth c T locs cells slots) (hexec : p.tables.exec = Jvm.exec) {own : String} {index : Nat} {y : MethodName} {bytes : ByteArray} {maxL : Nat} {ret : Option FieldType} {hh : List (Nat × Nat × Nat × Nat)}
    (hown : s.vm.findClass own = some m.cls) (hlink : (Cond.methodLink own index y).before args s = true) (hstat : (Cond.static y).before args s = true) (hinit : (Cond.initialized y.cls).before args s = true)
    (hcode : (Cond.codeWith y bytes maxL ret hh).before args s = true) (hy : y.cls ≠ "java/lang/invoke/MethodHandle" ∧ y.cls ≠ "java/lang/invoke/VarHandle")
    {W9 : Nat} {Pre : Pt → Array Value → Prop} {Post : Pt → Array Value → Option Value → Pt → Prop} {PostX : Pt → Array Value → Addr → Pt → Prop} (hK : vx_Back l R p e below s args y 3 W9 Pre Post PostX)
    {g : JFrame} (hg : g.method = m) (hsize : g.locals.size = c.maxLocals) {argsL rest : List Value} (hlen : ∀ sig, parseMethodDescriptor y.desc = some sig → argsL.length = sig.parameters.length)
    (hstack : g.stack = argsL.reverse ++ rest) (hW : 2 * g.monitorRoom + (rest.map fun v => v.category).sum ≤ W9) (hdg : decode c.code g.pc = .ok (.invokestatic index, 3))
    (hpre : ∀ vm₁, s.WarmedH vm₁ → Pre ⟨T.setVm vm₁, locs, cells, slots⟩ argsL.toArray) :
    (∃ (v : Option Value) (vm₁ : Vm) (B : Pt), s.WarmedH vm₁ ∧ Stand p l e R s m args below meth c B.U B.locs B.cells B.slots ∧ Post ⟨T.setVm vm₁, locs, cells, slots⟩ argsL.toArray v B ∧
      ∀ target, Steps p.tables e below (B.U.setTop { g with pc := g.pc + 3, stack := v.toList ++ rest }) target → Steps p.tables e below (T.setTop g) target) ∨
    (∃ (q : Addr) (vm₁ : Vm) (B : Pt), s.WarmedH vm₁ ∧ Stand p l e R s m args below meth c B.U B.locs B.cells B.slots ∧ PostX ⟨T.setVm vm₁, locs, cells, slots⟩ argsL.toArray q B ∧
      Steps p.tables e below (T.setTop g) ((B.U.setTop { g with stack := rest }).pushFrame (.throwing q))) := by
  obtain ⟨mk, methM, cM, hnamed, hmethM, -, -, -, -, -, -, hsigM⟩ := Cond.codeWith_spec hcode
  have hstatic : methM.isStatic = true := Cond.static_spec hnamed hmethM hstat
  obtain ⟨kP, hkP, -⟩ := className_of_methodNamed hnamed
  have hinitP : kP.init = .initialized := Cond.initialized_spec (findClass_of_methodNamed hnamed) hkP hinit
  obtain ⟨vm₁, X₁, hstep₁⟩ := X.invokestatic hexec hown hlink hnamed hmethM hstatic hkP hinitP hy (g := g) hg (argsL := argsL) (rest := rest) (hlen _ hsigM) hstack hdg
  rcases hK m meth c ⟨T.setVm vm₁, locs, cells, slots⟩ { g with stack := rest } (.invokestatic index) mk argsL.toArray X₁ hg hsize hdg hW (X₁.named hnamed) (hpre vm₁ X₁.warmed) with ⟨v, B, X', hpost, hsteps⟩ | ⟨q, B, X', hpost, hsteps⟩
  · exact Or.inl ⟨v, vm₁, B, X₁.warmed, X', hpost, fun target h => hstep₁ _ fun acts => by rw [doInvoke_state]; exact hsteps.trans h⟩
  · exact Or.inr ⟨q, vm₁, B, X₁.warmed, X', hpost, hstep₁ _ fun acts => by rw [doInvoke_state]; exact hsteps⟩
theorem vx_callVW (X : Stand p l e R s m args below meth c T locs cells slots) (hexec : p.tables.exec = Jvm.exec) {own C : String} {index : Nat} {y : MethodName} {bytes : ByteArray} {maxL : Nat} {ret : Option FieldType} {hh : List (Nat × Nat × Nat × Nat)}
    (hown : s.vm.findClass own = some m.cls) (hlink : (Cond.methodLink own index y).before args s = true) (hinst : (Cond.instanceMethod y).before args s = true) (hsel : (Cond.selects C y y).before args s = true)
    (hcode : (Cond.codeWith y bytes maxL ret hh).before args s = true) (hy : y.cls ≠ "java/lang/invoke/MethodHandle" ∧ y.cls ≠ "java/lang/invoke/VarHandle")
    {W9 : Nat} {Pre : Pt → Array Value → Prop} {Post : Pt → Array Value → Option Value → Pt → Prop} (hK : Back l R p e below s args y 3 W9 Pre Post)
    {b : Addr} {cellB : Cell} (hcell : T.heap[b]? = some cellB) (hobj : cellB.vm.isStatics = false) (hcls : s.vm.findClass C = some cellB.cls)
    {g : JFrame} (hg : g.method = m) (hsize : g.locals.size = c.maxLocals) {argsL rest : List Value} (hlen : ∀ sig, parseMethodDescriptor y.desc = some sig → argsL.length = sig.parameters.length)
    (hstack : g.stack = argsL.reverse ++ .ref b :: rest) (hW : 2 * g.monitorRoom + (rest.map fun v => v.category).sum ≤ W9) (hdg : decode c.code g.pc = .ok (.invokevirtual index, 3))
    (hpre : ∀ vm₁, s.WarmedH vm₁ → Pre ⟨T.setVm vm₁, locs, cells, slots⟩ (Value.ref b :: argsL).toArray) :
    ∃ (v : Option Value) (vm₁ : Vm) (B : Pt), s.WarmedH vm₁ ∧ Stand p l e R s m args below meth c B.U B.locs B.cells B.slots ∧ Post ⟨T.setVm vm₁, locs, cells, slots⟩ (Value.ref b :: argsL).toArray v B ∧
      ∀ target, Steps p.tables e below (B.U.setTop { g with pc := g.pc + 3, stack := v.toList ++ rest }) target → Steps p.tables e below (T.setTop g) target := by
  obtain ⟨mk, methM, hnamed, hmethM, hstM, habM⟩ := Cond.instanceMethod_spec hinst
  obtain ⟨m8, methM', cM, hn8, hmethM', -, -, -, -, -, -, hsigM⟩ := Cond.codeWith_spec hcode
  cases Option.some.inj (hn8.symm.trans hnamed)
  cases hmethM.symm.trans hmethM'
  obtain ⟨c2, r2, m2, q1, q2, q3, q4, kP, hkP, hkPi⟩ := Cond.selects_spec hsel
  cases hcls.symm.trans q1
  cases (State.methodFound?_of_named hnamed hy).symm.trans q2
  cases hnamed.symm.trans q3
  have hselP : selectMethod e.platform s.vm cellB.cls mk = .method mk := by rw [Launch.admits_selectMethod X.admits]; exact q4
  obtain ⟨vm₁, X₁, hstep₁⟩ := X.invokevirtual hexec hown hlink hnamed hmethM hstM hkP hkPi hy (a := b) (cell := cellB) hcell
    (fun z h => by rw [h] at hobj; cases hobj) hselP hmethM habM hkP hkPi (g := g) hg (argsL := argsL) (rest := rest) (hlen _ hsigM) hstack hdg
  obtain ⟨v, B, X', hpost, hsteps⟩ := hK m meth c ⟨T.setVm vm₁, locs, cells, slots⟩ { g with stack := rest } (.invokevirtual index) mk (Value.ref b :: argsL).toArray X₁ hg hsize hdg hW (X₁.named hnamed) (hpre vm₁ X₁.warmed)
  exact ⟨v, vm₁, B, X₁.warmed, X', hpost, fun target h => hstep₁ _ fun acts => by rw [doInvoke_state]; exact hsteps.trans h⟩
abbrev vx_CVW (R : Room) (s : State) (args : Array Value) (own C : String) (index : Nat) (y : MethodName) (bytes : ByteArray) (maxL : Nat) (ret : Option FieldType) (hh : List (Nat × Nat × Nat × Nat)) (ws : List Cond) (rm : Room) (mc ms n : Nat) : Prop :=
  (rm.cells = mc ∧ rm.slots = ms ∧ rm.frames + 1 ≤ R.frames ∧ 8 + (maxL + 11) + rm.locals ≤ R.locals ∧ (∀ w ∈ ws, ∀ (a' : Array Value) (U : State), s.WarmedH U.vm → w.before a' U = true) ∧ Cond.codeWith y bytes maxL ret hh ∈ ws) ∧
  (Cond.codeWith y bytes maxL ret hh).before args s = true ∧ (Cond.initialized y.cls).before args s = true ∧ (y.cls ≠ "java/lang/invoke/MethodHandle" ∧ y.cls ≠ "java/lang/invoke/VarHandle") ∧
  (∀ sig, parseMethodDescriptor y.desc = some sig → n = sig.parameters.length) ∧ (Cond.methodLink own index y).before args s = true ∧ (Cond.instanceMethod y).before args s = true ∧ (Cond.selects C y y).before args s = true
theorem vx_cwVW {own C : String} {index maxL mc ms : Nat} {y : MethodName} {bytes : ByteArray} {ret : Option FieldType} {hh : List (Nat × Nat × Nat × Nat)} {Ts ws ws' : List Cond} {rm : Room} (n : Nat) (ht : ∀ w ∈ Ts, w.before args s = true) (hT : GoodIn Ts (wsV own index C y ws)) (hw : ws = Cond.codeWith y bytes maxL ret hh :: ws') (hrc : rm.cells = mc) (hrs : rm.slots = ms)
    (hd : y.cls = C ∧ y.cls ≠ "java/lang/invoke/MethodHandle" ∧ y.cls ≠ "java/lang/invoke/VarHandle" ∧ (parseMethodDescriptor y.desc).map (fun d => d.parameters.length) = some n) (hR : rm.frames + 1 ≤ R.frames ∧ 8 + (maxL + 11) + rm.locals ≤ R.locals) :
    vx_CVW R s args own C index y bytes maxL ret hh ws rm mc ms n := by
  obtain ⟨hC, hd⟩ := hd
  subst hC
  have ok : ∀ w ∈ wsV own index y.cls y ws, w.before args s = true := fun w h => ht w (hT w h).1
  have hG : GoodIn Ts ws := fun w h => hT w (by unfold wsV; exact List.mem_append_right _ h)
  have hc : Cond.codeWith y bytes maxL ret hh ∈ ws := by rw [hw]; exact List.mem_cons_self
  refine ⟨⟨hrc, hrs, hR.1, hR.2, pay_in ht hG, hc⟩, ht _ (hG _ hc).1, ok _ (by simp [wsV]), ⟨hd.1, hd.2.1⟩, fun sig h => ?_, ok _ (by simp [wsV]), ok _ (by simp [wsV]), ok _ (by simp [wsV])⟩
  have h2 := hd.2.2
  rw [h] at h2
  exact (Option.some.inj h2).symm
theorem vx_runVW {y : MethodName} {bytes cc : ByteArray} {maxL nL mc ms n index : Nat} {ret : Option FieldType} {hh : List (Nat × Nat × Nat × Nat)} {ws : List Cond} {rm : Room} {Pc : Array Value → State → Prop} {Qc : Array Value → State → Outcome → State → Prop} {free : Addr → Prop} {Ts : List Cond} {own C : String} {b : Addr} {As rest : List Value} {g : JFrame}
    (S : CallFix p m c cc nL s args Ts own) (hM : Met l y ws rm Pc Qc mc ms free) (cw : vx_CVW R s args own C index y bytes maxL ret hh ws rm mc ms n) (hp : PreV s H C b Pc As)
    (hg : g.method = m) (hn : As.length = n) (hsize : g.locals.size = nL) (hstack : g.stack = As.reverse ++ .ref b :: rest) (hW : 2 * g.monitorRoom + (rest.map fun v => v.category).sum ≤ 8) (hdg : decode cc g.pc = .ok (.invokevirtual index, 3)) (hf : cells + mc ≤ R.cells ∧ slots + ms ≤ R.slots) :
    va_Run p l e R s m args below meth c H locs cells slots mc ms g rest (Qc (Value.ref b :: As).toArray) free := by
  obtain ⟨⟨hrc, hrs, hfr, hlo, hws, hcw⟩, hcode, hini, hy, hlen, hl, hin, hse⟩ := cw
  have hK : Back l R p e below s args y 3 8 (PreOf R mc ms Pc) (PostOf Qc mc ms free) := va_backW (hh := hh) (bytes := bytes) (maxL := maxL) (ret := ret) hM hp.1 hrc hrs hfr hlo hws hcw (fun a' U hW => word_at hW (Or.inl (by first | rfl | simp [Cond.onTables, Cond.keeps, Cond.steady])) hini)
  obtain ⟨hx, hb, hml, ho, -⟩ := S
  obtain ⟨-, ⟨cellB, hcB, hoB, hclB⟩, hPc⟩ := hp
  intro T hT X
  obtain ⟨v, vm₁, ⟨U', l2, c2, s2⟩, hW₁, X', ⟨g', mk, t, L, e1, e2, hq, h1, hL, h2, h3⟩, st⟩ := vx_callVW X hx (C := C) (hh := hh) (bytes := bytes) (maxL := maxL) (ret := ret) ho hl hin hse hcode hy hK (by rw [hT]; exact hcB) hoB hclB hg (hsize.trans hml.symm) (argsL := As) (rest := rest) (fun sig h => hn.trans (hlen sig h)) hstack hW (by rw [hb]; exact hdg)
    (fun vm₁ hW₁ => ⟨hf.1, hf.2, hPc (T.setVm vm₁) hT hW₁⟩)
  dsimp only [Pt.U, Pt.locs, Pt.cells, Pt.slots] at X' e1 e2 h1 h2 h3 st
  subst h1; subst h2; subst h3
  exact ⟨v, (T.setVm vm₁).calling g' mk (Value.ref b :: As).toArray, t, U', L, hT, X', hL, e1, e2, hq, st⟩
section
variable {y : MethodName} {bytes cc : ByteArray} {maxL nL mc ms n index : Nat} {ret : Option FieldType} {ws : List Cond} {rm : Room} {Pc : Array Value → State → Prop} {Qc : Array Value → State → Outcome → State → Prop} {XC : String → State → State → Prop} {free : Addr → Prop} {Ts : List Cond} {own C : String} {b : Addr} {As rest : List Value} {g : JFrame}
theorem vx_runVX {hh : List (Nat × Nat × Nat × Nat)} (S : CallFix p m c cc nL s args Ts own) (hM : vx_Met l y ws rm Pc Qc XC mc ms free) (cw : vx_CVW R s args own C index y bytes maxL ret hh ws rm mc ms n) (hp : PreV s H C b Pc As)
    (hg : g.method = m) (hn : As.length = n) (hsize : g.locals.size = nL) (hstack : g.stack = As.reverse ++ .ref b :: rest) (hW : 2 * g.monitorRoom + (rest.map fun v => v.category).sum ≤ 8) (hdg : decode cc g.pc = .ok (.invokevirtual index, 3)) (hf : cells + mc ≤ R.cells ∧ slots + ms ≤ R.slots) :
    vx_Run p l e R s m args below meth c H locs cells slots mc ms g rest (Qc (Value.ref b :: As).toArray) XC free := by
  obtain ⟨⟨hrc, hrs, hfr, hlo, hws, hcw⟩, hcode, hini, hy, hlen, hl, hin, hse⟩ := cw
  have hK : vx_Back l R p e below s args y 3 8 (PreOf R mc ms Pc) (PostOf Qc mc ms free) (vx_Post XC mc ms free) := vx_backW (hh := hh) (bytes := bytes) (maxL := maxL) (ret := ret) hM hp.1 hrc hrs hfr hlo hws hcw (fun a' U hW => word_at hW (Or.inl (by first | rfl | simp [Cond.onTables, Cond.keeps, Cond.steady])) hini)
  obtain ⟨hx, hb, hml, ho, -⟩ := S
  obtain ⟨-, ⟨cellB, hcB, hoB, hclB⟩, hPc⟩ := hp
  intro T hT X
  rcases vx_callVX X hx (C := C) (hh := hh) (bytes := bytes) (maxL := maxL) (ret := ret) ho hl hin hse hcode hy hK (by rw [hT]; exact hcB) hoB hclB hg (hsize.trans hml.symm) (argsL := As) (rest := rest) (fun sig h => hn.trans (hlen sig h)) hstack hW (by rw [hb]; exact hdg)
    (fun vm₁ hW₁ => ⟨hf.1, hf.2, hPc (T.setVm vm₁) hT hW₁⟩) with ⟨v, vm₁, ⟨U', l2, c2, s2⟩, hW₁, X', ⟨g', mk, t, L, e1, e2, hq, h1, hL, h2, h3⟩, st⟩ | ⟨q, vm₁, ⟨U', l2, c2, s2⟩, hW₁, X', ⟨g', mk, t, L, E, ce, e1, e2, hq, hce, hcv, hcl, h1, hL, h2, h3⟩, st⟩
  · dsimp only [Pt.U, Pt.locs, Pt.cells, Pt.slots] at X' e1 e2 h1 h2 h3 st
    subst h1; subst h2; subst h3
    exact Or.inl ⟨v, (T.setVm vm₁).calling g' mk (Value.ref b :: As).toArray, t, U', L, hT, X', hL, e1, e2, hq, st⟩
  · dsimp only [Pt.U, Pt.locs, Pt.cells, Pt.slots] at X' e1 e2 h1 h2 h3 st hcl
    subst h1; subst h2; subst h3
    exact Or.inr ⟨q, (T.setVm vm₁).calling g' mk (Value.ref b :: As).toArray, t, U', L, E, ce, hT, X', hL, e1, e2, hq, hce, hcv, vx_cls hW₁ hcl, st⟩
theorem vx_runSX {hh : List (Nat × Nat × Nat × Nat)} (S : CallFix p m c cc nL s args Ts own) (hM : vx_Met l y ws rm Pc Qc XC mc ms free) (cw : vx_CSW R s args own index y bytes maxL ret hh ws rm mc ms n) (hp : PreS s H Pc As)
    (hg : g.method = m) (hn : As.length = n) (hsize : g.locals.size = nL) (hstack : g.stack = As.reverse ++ rest) (hW : 2 * g.monitorRoom + (rest.map fun v => v.category).sum ≤ 8) (hdg : decode cc g.pc = .ok (.invokestatic index, 3)) (hf : cells + mc ≤ R.cells ∧ slots + ms ≤ R.slots) :
    vx_Run p l e R s m args below meth c H locs cells slots mc ms g rest (Qc As.toArray) XC free := by
  obtain ⟨⟨hrc, hrs, hfr, hlo, hws, hcw⟩, hcode, hini, hy, hlen, hl, hstt⟩ := cw
  have hK : vx_Back l R p e below s args y 3 8 (PreOf R mc ms Pc) (PostOf Qc mc ms free) (vx_Post XC mc ms free) := vx_backW (hh := hh) (bytes := bytes) (maxL := maxL) (ret := ret) hM hp.1 hrc hrs hfr hlo hws hcw (fun a' U hW => word_at hW (Or.inl (by first | rfl | simp [Cond.onTables, Cond.keeps, Cond.steady])) hini)
  obtain ⟨hx, hb, hml, ho, -⟩ := S
  intro T hT X
  rcases vx_callSX X hx (hh := hh) (bytes := bytes) (maxL := maxL) (ret := ret) ho hl hstt hini hcode hy hK hg (hsize.trans hml.symm) (argsL := As) (rest := rest) (fun sig h => hn.trans (hlen sig h)) hstack hW (by rw [hb]; exact hdg)
    (fun vm₁ hW₁ => ⟨hf.1, hf.2, hp.2 (T.setVm vm₁) hT hW₁⟩) with ⟨v, vm₁, ⟨U', l2, c2, s2⟩, hW₁, X', ⟨g', mk, t, L, e1, e2, hq, h1, hL, h2, h3⟩, st⟩ | ⟨q, vm₁, ⟨U', l2, c2, s2⟩, hW₁, X', ⟨g', mk, t, L, E, ce, e1, e2, hq, hce, hcv, hcl, h1, hL, h2, h3⟩, st⟩
  · dsimp only [Pt.U, Pt.locs, Pt.cells, Pt.slots] at X' e1 e2 h1 h2 h3 st
    subst h1; subst h2; subst h3
    exact Or.inl ⟨v, (T.setVm vm₁).calling g' mk As.toArray, t, U', L, hT, X', hL, e1, e2, hq, st⟩
  · dsimp only [Pt.U, Pt.locs, Pt.cells, Pt.slots] at X' e1 e2 h1 h2 h3 st hcl
    subst h1; subst h2; subst h3
    exact Or.inr ⟨q, (T.setVm vm₁).calling g' mk As.toArray, t, U', L, E, ce, hT, X', hL, e1, e2, hq, hce, hcv, vx_cls hW₁ hcl, st⟩
end
end VXH
theorem vx_ofWH {l : Launch} {y : MethodName} {ws ws' : List Cond} {rm : Room} {Pc : Array Value → State → Prop} {Qc : Array Value → State → Outcome → State → Prop} {XC : String → State → State → Prop} {mc ms : Nat} {free : Addr → Prop} {cc : ByteArray} {maxL : Nat} {ret : Option FieldType} {hh : List (Nat × Nat × Nat × Nat)}
    (hy : plainName y.cls = true) (hw : ws = Cond.codeWith y cc maxL ret hh :: ws')
    (body : ∀ p e s m args below meth c s₁, BodyLoose p l y (headSpec ws rm) cc maxL ret e s m args below meth c s₁ → c.maxLocals = maxL → Pc args s →
      W p l e (headSpec ws rm).room s m args below meth c s.heap [] 0 0 (vx_MQ below Qc XC args s mc ms free) (entryFrame m args maxL)) : vx_Met l y ws rm Pc Qc XC mc ms free := by
  refine MetFree.of_bodyS (code := cc) (maxLocals := maxL) (ret := ret) hy ?_ ?_
  · intro args s m h hn
    obtain ⟨m9, meth, c, hn9, h1, h2, h3, h4, -, h5, h6, -⟩ := Cond.codeWith_spec (atoms_spec (ws := ws) h _ (by rw [hw]; exact List.mem_cons_self))
    cases hn.symm.trans hn9
    exact ⟨meth, c, h1, h2, h3, h4, h5, h6⟩
  · intro p e s m args below meth c s₁ B hml hP _
    have hh0 : s₁.heap = s.heap := by rw [B.state]; rfl
    obtain ⟨t, a1, o, b1, b2, b3⟩ := body p e s m args below meth c s₁ B hml hP s₁ hh0 (Stand.of_body B)
    exact ⟨t, o, a1, b1, b2, b3⟩
end
section
/-! The order of the row, without machine: a list is good if each element, walking back from it, steps over greater ones until it meets the one that it is behind (the front, if none). -/
section GM
def gm_own (par : Nat → Option Nat) (lt : Nat → Nat → Prop) (e : Nat) : List Nat → Prop
  | [] => par e = none
  | x :: acc => par e = some x ∨ (lt e x ∧ gm_own par lt e acc)
def gm_good (par : Nat → Option Nat) (lt : Nat → Nat → Prop) : List Nat → List Nat → Prop
  | _, [] => True
  | acc, e :: l => gm_own par lt e acc ∧ gm_good par lt (e :: acc) l
variable {par : Nat → Option Nat} {lt : Nat → Nat → Prop}
theorem gm_good_app {xs ys : List Nat} : ∀ {acc : List Nat}, gm_good par lt acc (xs ++ ys) ↔ gm_good par lt acc xs ∧ gm_good par lt (xs.reverse ++ acc) ys := by
  induction xs with
  | nil => intro acc; simp [gm_good]
  | cons x xs ih =>
    intro acc
    simp only [List.cons_append, gm_good, ih, List.reverse_cons, List.append_assoc, and_assoc, List.nil_append]
theorem gm_own_ins {e y : Nat} {acc : List Nat} (htr : ∀ a b c, lt a b → lt b c → lt a c) : ∀ {b : List Nat}, gm_own par lt y (b ++ acc) → (∀ y0, b.getLast? = some y0 → lt y0 e) → (b = [] → lt y e) → gm_own par lt y (b ++ e :: acc)
  | [], h, _, h0 => Or.inr ⟨h0 rfl, h⟩
  | x :: b, h, hl, _ => by
    rcases h with h | ⟨h1, h2⟩
    · exact Or.inl h
    · refine Or.inr ⟨h1, gm_own_ins htr h2 (fun y0 hy => ?_) (fun hb => ?_)⟩
      · refine hl y0 ?_
        cases b with
        | nil => cases hy
        | cons z b => rw [List.getLast?_cons_cons]; exact hy
      · subst hb
        exact htr _ _ _ h1 (hl x rfl)
theorem gm_good_ins {e : Nat} {acc : List Nat} (htr : ∀ a b c, lt a b → lt b c → lt a c) : ∀ {ys b : List Nat}, gm_good par lt (b ++ acc) ys → (∀ y0, b.getLast? = some y0 → lt y0 e) → (b = [] → ∀ y0, ys.head? = some y0 → lt y0 e) → gm_good par lt (b ++ e :: acc) ys
  | [], _, _, _, _ => trivial
  | y :: ys, b, h, hl, h0 => by
    obtain ⟨h1, h2⟩ := h
    refine ⟨gm_own_ins htr h1 hl (fun hb => h0 hb y rfl), ?_⟩
    refine gm_good_ins (b := y :: b) htr h2 (fun y0 hy => ?_) (fun hb => by cases hb)
    cases b with
    | nil => exact h0 rfl y0 (by simpa using hy)
    | cons z b => rw [List.getLast?_cons_cons] at hy; exact hl y0 hy
/-- a new element, directly ahead of a smaller one (or at the end), behind its own and greater ones -/
theorem gm_insert {e : Nat} {xs ys : List Nat} (htr : ∀ a b c, lt a b → lt b c → lt a c) (h : gm_good par lt [] (xs ++ ys)) (ho : gm_own par lt e xs.reverse) (h0 : ∀ y0, ys.head? = some y0 → lt y0 e) : gm_good par lt [] (xs ++ e :: ys) := by
  rw [gm_good_app] at h ⊢
  refine ⟨h.1, ?_, ?_⟩
  · rw [List.append_nil]; exact ho
  · exact gm_good_ins (b := []) htr h.2 (fun _ q => by cases q) (fun _ => h0)
theorem gm_own_filter {S : Nat → Bool} {e : Nat} (hS : ∀ p, par e = some p → S p = true) : ∀ {acc : List Nat}, gm_own par lt e acc → gm_own par lt e (acc.filter S)
  | [], h => h
  | x :: acc, h => by
    rcases h with h | ⟨h1, h2⟩
    · rw [List.filter_cons_of_pos (hS x h)]
      exact Or.inl h
    · by_cases hx : S x = true
      · rw [List.filter_cons_of_pos hx]
        exact Or.inr ⟨h1, gm_own_filter hS h2⟩
      · rw [List.filter_cons_of_neg hx]
        exact gm_own_filter hS h2
/-- the part of it that a replica holds is good again -/
theorem gm_good_filter {S : Nat → Bool} (hS : ∀ e p, S e = true → par e = some p → S p = true) : ∀ {l acc : List Nat}, gm_good par lt acc l → gm_good par lt (acc.filter S) (l.filter S)
  | [], _, _ => trivial
  | e :: l, acc, h => by
    obtain ⟨h1, h2⟩ := h
    have ih := gm_good_filter hS h2
    by_cases hx : S e = true
    · rw [List.filter_cons_of_pos hx] at ih
      rw [List.filter_cons_of_pos hx]
      exact ⟨gm_own_filter (fun p hp => hS e p hx hp) h1, ih⟩
    · rw [List.filter_cons_of_neg hx] at ih
      rw [List.filter_cons_of_neg hx]
      exact ih
theorem gm_own_mem {e : Nat} : ∀ {acc : List Nat}, gm_own par lt e acc → par e = none ∨ ∃ p ∈ acc, par e = some p
  | [], h => Or.inl h
  | x :: acc, h => by
    rcases h with h | ⟨-, h⟩
    · exact Or.inr ⟨x, List.mem_cons_self, h⟩
    · rcases gm_own_mem h with h | ⟨p, hp, h⟩
      · exact Or.inl h
      · exact Or.inr ⟨p, List.mem_cons_of_mem _ hp, h⟩
theorem gm_own_skip {e a : Nat} {acc : List Nat} (hm : par e = none ∨ ∃ p ∈ acc, par e = some p) (ha : a ∉ acc) : ∀ {st : List Nat}, (∀ x ∈ acc, x ∉ st) → gm_own par lt e (st ++ a :: acc) → lt e a
  | [], _, h => by
    rcases h with h | h
    · exfalso
      rcases hm with g | ⟨p, hp, g⟩
      · rw [h] at g; cases g
      · rw [h] at g; cases g; exact ha hp
    · exact h.1
  | x :: st, hd, h => by
    rcases h with h | h
    · exfalso
      rcases hm with g | ⟨p, hp, g⟩
      · rw [h] at g; cases g
      · rw [h] at g; cases g; exact hd x hp List.mem_cons_self
    · exact gm_own_skip hm ha (fun y hy q => hd y hy (List.mem_cons_of_mem _ q)) h.2
theorem gm_step {a b : Nat} {l acc : List Nat} (h : gm_good par lt acc (a :: l)) (hb : gm_own par lt b acc) (hl : b ∈ l) (hn : ∀ x ∈ acc, x ∉ a :: l) : lt b a := by
  obtain ⟨st, t, rfl⟩ := List.append_of_mem hl
  have h2 := (gm_good_app.mp h.2).2.1
  have hm := gm_own_mem hb
  refine gm_own_skip (st := st.reverse) hm (fun q => hn a q List.mem_cons_self) (fun x hx q => hn x hx ?_) h2
  simp at q
  simp [q]
/-- one set has at most one good list -/
theorem gm_unique (has : ∀ a b, lt a b → ¬ lt b a) : ∀ {l1 l2 acc : List Nat}, gm_good par lt acc l1 → gm_good par lt acc l2 → l1.Nodup → l2.Nodup → (∀ x ∈ acc, x ∉ l1) → (∀ x, x ∈ l1 ↔ x ∈ l2) → l1 = l2
  | [], [], _, _, _, _, _, _, _ => rfl
  | [], b :: l2, _, _, _, _, _, _, hm => absurd ((hm b).mpr List.mem_cons_self) (by simp)
  | a :: l1, [], _, _, _, _, _, _, hm => absurd ((hm a).mp List.mem_cons_self) (by simp)
  | a :: l1, b :: l2, acc, h1, h2, n1, n2, hd, hm => by
    have hd2 : ∀ x ∈ acc, x ∉ b :: l2 := fun x hx q => hd x hx ((hm x).mpr q)
    by_cases hab : a = b
    · subst hab
      rw [List.nodup_cons] at n1 n2
      have ih := gm_unique has (acc := a :: acc) h1.2 h2.2 n1.2 n2.2 (fun x hx q => by
        rcases List.mem_cons.mp hx with h | h
        · rw [h] at q; exact n1.1 q
        · exact hd x h (List.mem_cons_of_mem _ q)) (fun x => by
        constructor
        · intro q
          rcases List.mem_cons.mp ((hm x).mp (List.mem_cons_of_mem _ q)) with h | h
          · rw [h] at q; exact absurd q n1.1
          · exact h
        · intro q
          rcases List.mem_cons.mp ((hm x).mpr (List.mem_cons_of_mem _ q)) with h | h
          · rw [h] at q; exact absurd q n2.1
          · exact h)
      rw [ih]
    · exfalso
      have hb : b ∈ l1 := by
        rcases List.mem_cons.mp ((hm b).mpr List.mem_cons_self) with h | h
        · exact absurd h.symm hab
        · exact h
      have ha : a ∈ l2 := by
        rcases List.mem_cons.mp ((hm a).mp List.mem_cons_self) with h | h
        · exact absurd h hab
        · exact h
      exact has _ _ (gm_step h1 h2.1 hb hd) (gm_step h2 h1.1 ha hd2)
/-- stamps -/
def gm_lt (ct mk : Nat → Nat) (a b : Nat) : Prop := ct a < ct b ∨ (ct a = ct b ∧ mk a < mk b)
theorem gm_lt_tr {ct mk : Nat → Nat} (a b c : Nat) (h1 : gm_lt ct mk a b) (h2 : gm_lt ct mk b c) : gm_lt ct mk a c := by
  unfold gm_lt at *; omega
theorem gm_lt_as {ct mk : Nat → Nat} (a b : Nat) (h1 : gm_lt ct mk a b) : ¬ gm_lt ct mk b a := by
  unfold gm_lt at *; omega
theorem gm_pig {n : Nat} {l : List Nat} (hn : l.Nodup) (h : ∀ x ∈ l, x < n) : l.length ≤ n := by
  have h1 := List.Nodup.length_le_of_subset (l₂ := List.range n) hn (fun x hx => List.mem_range.mpr (h x hx))
  simpa using h1
theorem gm_filter_eq {L : List Nat} {f g : Nat → Bool} : L.filter f = L.filter g ↔ ∀ x ∈ L, f x = g x := by
  constructor
  · intro h x hx
    have h1 : x ∈ L.filter f ↔ x ∈ L.filter g := by rw [h]
    simp only [List.mem_filter, hx, true_and] at h1
    cases hf : f x <;> cases hg : g x <;> simp_all
  · intro h
    exact List.filter_congr h
theorem gm_count {L : List Nat} {n : Nat} {d f : Nat → Bool} (hn : L.Nodup) (hm : ∀ x, x ∈ L ↔ x < n ∧ d x = false) : L.countP f = (List.range n).countP (fun k => f k && !d k) := by
  have hp : L.Perm ((List.range n).filter (fun k => !d k)) := by
    rw [List.perm_ext_iff_of_nodup hn (List.Pairwise.filter _ List.nodup_range)]
    intro x
    rw [hm, List.mem_filter, List.mem_range]
    simp
  rw [hp.countP_eq, List.countP_filter]
end GM
end
section
/-! The state as mathematics: n operations; each a delete or not, what it speaks of, its stamp (count, maker), who holds it, its number. -/
section AB
def ab_up {α : Type} (f : Nat → α) (k : Nat) (v : α) : Nat → α := fun j => if j = k then v else f j
theorem ab_us {α : Type} {f : Nat → α} {k : Nat} {v : α} : ab_up f k v k = v := by simp [ab_up]
theorem ab_un {α : Type} {f : Nat → α} {k j : Nat} {v : α} (h : j ≠ k) : ab_up f k v j = f j := by simp [ab_up, h]
def ab_max (h : Nat → Bool) (f : Nat → Nat) : Nat → Nat
  | 0 => 0
  | k + 1 => if h k = true then Nat.max (ab_max h f k) (f k) else ab_max h f k
theorem ab_max_ge {h : Nat → Bool} {f : Nat → Nat} : ∀ {n k : Nat}, k < n → h k = true → f k ≤ ab_max h f n
  | 0, _, hk, _ => by omega
  | n + 1, k, hk, hh => by
    unfold ab_max
    by_cases e : k = n
    · subst e
      rw [if_pos hh]
      exact Nat.le_max_right _ _
    · have ih := ab_max_ge (h := h) (f := f) (n := n) (k := k) (by omega) hh
      split
      · exact Nat.le_trans ih (Nat.le_max_left _ _)
      · exact ih
theorem ab_max_le {h : Nat → Bool} {f : Nat → Nat} {B : Nat} : ∀ {n : Nat}, (∀ k, k < n → h k = true → f k ≤ B) → ab_max h f n ≤ B
  | 0, _ => Nat.zero_le _
  | n + 1, hb => by
    have ih := ab_max_le (h := h) (f := f) (B := B) (n := n) (fun k hk => hb k (by omega))
    unfold ab_max
    split
    · exact Nat.max_le.mpr ⟨ih, hb n (by omega) (by assumption)⟩
    · exact ih
theorem ab_max_congr {h h' : Nat → Bool} {f f' : Nat → Nat} : ∀ {n : Nat}, (∀ k, k < n → h k = h' k ∧ f k = f' k) → ab_max h f n = ab_max h' f' n
  | 0, _ => rfl
  | n + 1, hb => by
    have ih := ab_max_congr (h := h) (h' := h') (f := f) (f' := f') (n := n) (fun k hk => hb k (by omega))
    unfold ab_max
    rw [ih, (hb n (by omega)).1, (hb n (by omega)).2]
/-- one more held: the greatest is the greater of both -/
theorem ab_max_up {h : Nat → Bool} {f : Nat → Nat} {j : Nat} : ∀ {n : Nat}, j < n → ab_max (ab_up h j true) f n = Nat.max (ab_max h f n) (f j)
  | 0, hj => by omega
  | n + 1, hj => by
    by_cases e : j = n
    · subst e
      have h1 : ab_max (ab_up h j true) f j = ab_max h f j := ab_max_congr (fun k hk => ⟨ab_un (by omega), rfl⟩)
      unfold ab_max
      rw [ab_us, if_pos rfl, h1]
      show Nat.max (ab_max h f j) (f j) = Nat.max (if h j = true then Nat.max (ab_max h f j) (f j) else ab_max h f j) (f j)
      split
      · simp only [Nat.max_def]
        repeat' split
        all_goals omega
      · rfl
    · have ih := ab_max_up (h := h) (f := f) (j := j) (n := n) (by omega)
      show (if ab_up h j true n = true then Nat.max (ab_max (ab_up h j true) f n) (f n) else ab_max (ab_up h j true) f n) = Nat.max (if h n = true then Nat.max (ab_max h f n) (f n) else ab_max h f n) (f j)
      rw [ab_un (fun q => e q.symm), ih]
      split
      · simp only [Nat.max_def]
        repeat' split
        all_goals omega
      · rfl
abbrev AS : Type := Nat × (Nat → Bool) × (Nat → Int32) × (Nat → Nat) × (Nat → Nat) × (Nat → Nat → Bool) × (Nat → Int64)
def a_n (a : AS) : Nat := a.1
def a_dl (a : AS) : Nat → Bool := a.2.1
def a_tg (a : AS) : Nat → Int32 := a.2.2.1
def a_ct (a : AS) : Nat → Nat := a.2.2.2.1
def a_mk (a : AS) : Nat → Nat := a.2.2.2.2.1
def a_hd (a : AS) : Nat → Nat → Bool := a.2.2.2.2.2.1
def a_vl (a : AS) : Nat → Int64 := a.2.2.2.2.2.2
def a_gr (a : AS) (r : Nat) : Nat := ab_max (a_hd a r) (a_ct a) (a_n a)
def a_par (a : AS) (k : Nat) : Option Nat := if a_tg a k = -1 then none else some (a_tg a k).toNatClampNeg
def a_lt (a : AS) : Nat → Nat → Prop := gm_lt (a_ct a) (a_mk a)
/-- r holds a delete of e -/
def a_del (a : AS) (r e : Nat) : Bool := (List.range (a_n a)).any (fun k => a_dl a k && (a_tg a k == nI e) && a_hd a r k)
def a_seen (a : AS) (r e : Nat) : Bool := a_hd a r e && !a_del a r e
def ab_0 : AS := (0, fun _ => false, fun _ => 0, fun _ => 0, fun _ => 0, fun _ _ => false, fun _ => 0)
def ab_new (a : AS) (r : Nat) (t : Int32) (d : Bool) (v : Int64) : AS :=
  (a_n a + 1, ab_up (a_dl a) (a_n a) d, ab_up (a_tg a) (a_n a) t, ab_up (a_ct a) (a_n a) (a_gr a r + 1), ab_up (a_mk a) (a_n a) r, ab_up (a_hd a) r (ab_up (a_hd a r) (a_n a) true), ab_up (a_vl a) (a_n a) v)
def ab_take (a : AS) (r k : Nat) : AS := (a_n a, a_dl a, a_tg a, a_ct a, a_mk a, ab_up (a_hd a) r (ab_up (a_hd a r) k true), a_vl a)
def ab_I (a : AS) : Prop :=
  a_n a ≤ 160 ∧ (∀ r k, a_n a ≤ k → a_hd a r k = false) ∧
  (∀ k, k < a_n a → (a_tg a k = -1 ∧ a_dl a k = false) ∨ ∃ j, j < k ∧ a_tg a k = nI j ∧ a_dl a j = false ∧ a_ct a j < a_ct a k ∧ ∀ r, a_hd a r k = true → a_hd a r j = true) ∧
  (∀ k, k < a_n a → a_mk a k < 4 ∧ a_hd a (a_mk a k) k = true ∧ a_ct a k ≤ k + 1) ∧
  (∀ j k, j < k → k < a_n a → a_mk a j = a_mk a k → a_ct a j < a_ct a k)
theorem ab_I0 : ab_I ab_0 := ⟨by decide, fun _ _ _ => rfl, fun k h => absurd h (Nat.not_lt_zero k), fun k h => absurd h (Nat.not_lt_zero k), fun _ k _ h => absurd h (Nat.not_lt_zero k)⟩
theorem ab_gr_le {a : AS} (h : ab_I a) (r : Nat) : a_gr a r ≤ a_n a := ab_max_le (fun k hk _ => by have := (h.2.2.2.1 k hk).2.2; omega)
theorem ab_gr_ge {a : AS} {r k : Nat} (hk : k < a_n a) (h : a_hd a r k = true) : a_ct a k ≤ a_gr a r := ab_max_ge hk h
theorem ab_hd_lt {a : AS} (h : ab_I a) {r k : Nat} (hk : a_hd a r k = true) : k < a_n a := by
  rcases Nat.lt_or_ge k (a_n a) with h1 | h1
  · exact h1
  · rw [h.2.1 r k h1] at hk; cases hk
theorem ab_up_hd {f : Nat → Nat → Bool} {r k s i : Nat} : ab_up f r (ab_up (f r) k true) s i = true ↔ (s = r ∧ i = k) ∨ f s i = true := by
  by_cases h1 : s = r
  · subst h1
    rw [ab_us]
    by_cases h2 : i = k
    · subst h2; rw [ab_us]; simp
    · rw [ab_un h2]; simp [h2]
  · rw [ab_un h1]; simp [h1]
theorem ab_up_hdF {f : Nat → Nat → Bool} {r k s i : Nat} (h : i ≠ k) : ab_up f r (ab_up (f r) k true) s i = f s i := by
  by_cases h1 : s = r
  · subst h1
    rw [ab_us, ab_un h]
  · rw [ab_un h1]
/-- what a new operation may speak of -/
def ab_ok (a : AS) (r : Nat) (t : Int32) (d : Bool) : Prop := (t = -1 ∧ d = false) ∨ ∃ j, j < a_n a ∧ t = nI j ∧ a_dl a j = false ∧ a_hd a r j = true
theorem ab_I_new {a : AS} {r : Nat} {t : Int32} {d : Bool} {v : Int64} (h : ab_I a) (hn : a_n a < 160) (hr : r < 4) (ht : ab_ok a r t d) : ab_I (ab_new a r t d v) := by
  obtain ⟨h1, h2, h3, h4, h5⟩ := id h
  refine ⟨?_, ?_, ?_, ?_, ?_⟩
  · show a_n a + 1 ≤ 160
    omega
  · intro s k hk
    have hk' : a_n a + 1 ≤ k := hk
    show ab_up (a_hd a) r (ab_up (a_hd a r) (a_n a) true) s k = false
    rw [ab_up_hdF (by omega)]
    exact h2 s k (by omega)
  · intro k hk
    have hk' : k < a_n a + 1 := hk
    show (ab_up (a_tg a) (a_n a) t k = -1 ∧ ab_up (a_dl a) (a_n a) d k = false) ∨ ∃ j, j < k ∧ ab_up (a_tg a) (a_n a) t k = nI j ∧ ab_up (a_dl a) (a_n a) d j = false ∧ ab_up (a_ct a) (a_n a) (a_gr a r + 1) j < ab_up (a_ct a) (a_n a) (a_gr a r + 1) k ∧ ∀ s, ab_up (a_hd a) r (ab_up (a_hd a r) (a_n a) true) s k = true → ab_up (a_hd a) r (ab_up (a_hd a r) (a_n a) true) s j = true
    by_cases e : k = a_n a
    · subst e
      rw [ab_us, ab_us]
      rcases ht with ht | ⟨j, hj, e1, e2, e3⟩
      · exact Or.inl ht
      · refine Or.inr ⟨j, hj, e1, ?_, ?_, ?_⟩
        · rw [ab_un (by omega)]; exact e2
        · rw [ab_un (by omega), ab_us]
          have := ab_gr_ge hj e3
          omega
        · intro s hs
          rw [ab_up_hd] at hs
          rw [ab_up_hd]
          rcases hs with ⟨hs, -⟩ | hs
          · rw [hs]; exact Or.inr e3
          · rw [h2 s _ (Nat.le_refl _)] at hs; cases hs
    · have hk2 : k < a_n a := by omega
      rw [ab_un e, ab_un e, ab_un e]
      rcases h3 k hk2 with g | ⟨j, hj, g1, g2, g3, g4⟩
      · exact Or.inl g
      · refine Or.inr ⟨j, hj, g1, ?_, ?_, ?_⟩
        · rw [ab_un (by omega)]; exact g2
        · rw [ab_un (by omega)]; exact g3
        · intro s hs
          rw [ab_up_hdF e] at hs
          rw [ab_up_hdF (by omega)]
          exact g4 s hs
  · intro k hk
    have hk' : k < a_n a + 1 := hk
    show ab_up (a_mk a) (a_n a) r k < 4 ∧ ab_up (a_hd a) r (ab_up (a_hd a r) (a_n a) true) (ab_up (a_mk a) (a_n a) r k) k = true ∧ ab_up (a_ct a) (a_n a) (a_gr a r + 1) k ≤ k + 1
    by_cases e : k = a_n a
    · subst e
      rw [ab_us, ab_us, ab_us, ab_us]
      refine ⟨hr, rfl, ?_⟩
      have := ab_gr_le h r
      omega
    · rw [ab_un e, ab_un e, ab_up_hdF e]
      exact h4 k (by omega)
  · intro j k hjk hk hm
    have hk' : k < a_n a + 1 := hk
    have hm' : ab_up (a_mk a) (a_n a) r j = ab_up (a_mk a) (a_n a) r k := hm
    show ab_up (a_ct a) (a_n a) (a_gr a r + 1) j < ab_up (a_ct a) (a_n a) (a_gr a r + 1) k
    rw [ab_un (show j ≠ a_n a by omega)] at hm' ⊢
    by_cases e : k = a_n a
    · subst e
      rw [ab_us] at hm' ⊢
      have g := (h4 j hjk).2.1
      rw [hm'] at g
      have := ab_gr_ge hjk g
      omega
    · rw [ab_un e] at hm' ⊢
      exact h5 j k hjk (by omega) hm'
theorem ab_nI_inj {i j : Nat} (hi : i < 2147483648) (hj : j < 2147483648) (h : nI i = nI j) : i = j := (nI_eq hi hj).mp h
theorem ab_nI_m1 {i : Nat} (hi : i < 2147483648) : nI i ≠ -1 := by
  intro h
  have h1 := nI_pos (n := i) hi
  rw [h] at h1
  exact h1 (by decide)
theorem ab_I_take {a : AS} {r k : Nat} (h : ab_I a) (hk : k < a_n a) (ht : ∀ j, j < k → a_tg a k = nI j → a_hd a r j = true) : ab_I (ab_take a r k) := by
  obtain ⟨h1, h2, h3, h4, h5⟩ := id h
  refine ⟨h1, ?_, ?_, ?_, h5⟩
  · intro s i hi
    have hi' : a_n a ≤ i := hi
    show ab_up (a_hd a) r (ab_up (a_hd a r) k true) s i = false
    rw [ab_up_hdF (by omega)]
    exact h2 s i hi'
  · intro i hi
    rcases h3 i hi with g | ⟨j, hj, g1, g2, g3, g4⟩
    · exact Or.inl g
    · refine Or.inr ⟨j, hj, g1, g2, g3, fun s hs => ?_⟩
      have hs' : ab_up (a_hd a) r (ab_up (a_hd a r) k true) s i = true := hs
      show ab_up (a_hd a) r (ab_up (a_hd a r) k true) s j = true
      rw [ab_up_hd] at hs' ⊢
      rcases hs' with ⟨rfl, rfl⟩ | hs'
      · exact Or.inr (ht j hj g1)
      · exact Or.inr (g4 s hs')
  · intro i hi
    refine ⟨(h4 i hi).1, ?_, (h4 i hi).2.2⟩
    show ab_up (a_hd a) r (ab_up (a_hd a r) k true) (a_mk a i) i = true
    exact ab_up_hd.mpr (Or.inr (h4 i hi).2.1)
/-- stamps of different operations differ -/
theorem ab_tot {a : AS} (h : ab_I a) {i j : Nat} (hi : i < a_n a) (hj : j < a_n a) (hne : i ≠ j) (hn : ¬ a_lt a i j) : a_lt a j i := by
  unfold a_lt gm_lt at *
  rcases Nat.lt_trichotomy i j with g | g | g
  · by_cases e : a_mk a i = a_mk a j
    · have := h.2.2.2.2 i j g hj e
      omega
    · omega
  · exact absurd g hne
  · by_cases e : a_mk a j = a_mk a i
    · have := h.2.2.2.2 j i g hi e
      omega
    · omega
theorem ab_par_lt {a : AS} (h : ab_I a) {k p : Nat} (hk : k < a_n a) (hp : a_par a k = some p) : p < k ∧ a_tg a k = nI p ∧ a_dl a p = false ∧ a_ct a p < a_ct a k ∧ ∀ r, a_hd a r k = true → a_hd a r p = true := by
  have hn := h.1
  rcases h.2.2.1 k hk with g | ⟨j, hj, g1, g2, g3, g4⟩
  · unfold a_par at hp
    rw [g.1] at hp
    simp at hp
  · unfold a_par at hp
    rw [if_neg (by rw [g1]; exact ab_nI_m1 (by omega)), g1, nI_clamp (by omega)] at hp
    cases hp
    exact ⟨hj, g1, g2, g3, g4⟩
theorem ab_par_nI {a : AS} {k j : Nat} (hj : j < 2147483648) (h : a_tg a k = nI j) : a_par a k = some j := by
  unfold a_par
  rw [if_neg (by rw [h]; exact ab_nI_m1 hj), h, nI_clamp hj]
theorem ab_par_m1 {a : AS} {k : Nat} (h : a_tg a k = -1) : a_par a k = none := by
  unfold a_par
  rw [if_pos h]
/-- the list speaks of old operations only: nothing changes for it where theirs doesn't -/
theorem gm_own_congr {par par' : Nat → Option Nat} {lt lt' : Nat → Nat → Prop} {e : Nat} (hp : par e = par' e) : ∀ {acc : List Nat}, (∀ x ∈ acc, lt e x → lt' e x) → gm_own par lt e acc → gm_own par' lt' e acc
  | [], _, h => by
    have h' : par e = none := h
    show par' e = none
    rw [← hp]; exact h'
  | x :: acc, hl, h => by
    rcases h with h | ⟨h1, h2⟩
    · exact Or.inl (by rw [← hp]; exact h)
    · exact Or.inr ⟨hl x List.mem_cons_self h1, gm_own_congr hp (fun y hy => hl y (List.mem_cons_of_mem _ hy)) h2⟩
theorem gm_good_congr {par par' : Nat → Option Nat} {lt lt' : Nat → Nat → Prop} : ∀ {l acc : List Nat}, (∀ e ∈ l, par e = par' e) → (∀ e ∈ l, ∀ x, x ∈ acc ∨ x ∈ l → lt e x → lt' e x) → gm_good par lt acc l → gm_good par' lt' acc l
  | [], _, _, _, _ => trivial
  | e :: l, acc, hp, hl, h => by
    obtain ⟨h1, h2⟩ := h
    refine ⟨gm_own_congr (hp e List.mem_cons_self) (fun x hx => hl e List.mem_cons_self x (Or.inl hx)) h1, ?_⟩
    refine gm_good_congr (fun y hy => hp y (List.mem_cons_of_mem _ hy)) (fun y hy x hx => hl y (List.mem_cons_of_mem _ hy) x ?_) h2
    rcases hx with hx | hx
    · rcases List.mem_cons.mp hx with hx | hx
      · exact Or.inr (by rw [hx]; exact List.mem_cons_self)
      · exact Or.inl hx
    · exact Or.inr (List.mem_cons_of_mem _ hx)
/-- the good list of all elements -/
def ab_row (a : AS) (L : List Nat) : Prop := L.Nodup ∧ (∀ x, x ∈ L ↔ x < a_n a ∧ a_dl a x = false) ∧ gm_good (a_par a) (a_lt a) [] L
/-- the good list of what r holds -/
def ab_own (a : AS) (r : Nat) (L : List Nat) : Prop := L.Nodup ∧ (∀ x, x ∈ L ↔ x < a_n a ∧ a_dl a x = false ∧ a_hd a r x = true) ∧ gm_good (a_par a) (a_lt a) [] L
theorem ab_own_eq {a : AS} {r : Nat} {L M : List Nat} (h : ab_I a) (hL : ab_row a L) (hM : ab_own a r M) : M = L.filter (a_hd a r) := by
  refine gm_unique (par := a_par a) (lt := a_lt a) gm_lt_as hM.2.2 ?_ hM.1 (List.Pairwise.filter _ hL.1) (fun x hx => by cases hx) (fun x => ?_)
  · have hg := gm_good_filter (S := fun e => decide (e < a_n a) && a_hd a r e) (fun e p he hp => ?_) hL.2.2
    · have he : L.filter (fun e => decide (e < a_n a) && a_hd a r e) = L.filter (a_hd a r) := gm_filter_eq.mpr (fun x hx => by simp [((hL.2.1 x).mp hx).1])
      rw [he] at hg
      exact hg
    · simp only [Bool.and_eq_true, decide_eq_true_eq] at he ⊢
      have g := ab_par_lt h he.1 hp
      exact ⟨by omega, g.2.2.2.2 r he.2⟩
  · rw [hM.2.1, List.mem_filter, hL.2.1]
    exact ⟨fun q => ⟨⟨q.1, q.2.1⟩, q.2.2⟩, fun q => ⟨q.1.1, q.1.2, q.2⟩⟩
theorem ab_row_take {a : AS} {r k : Nat} {L : List Nat} (h : ab_row a L) : ab_row (ab_take a r k) L := h
theorem ab_lt_old {a : AS} {r : Nat} {t : Int32} {d : Bool} {v : Int64} {i j : Nat} (hi : i < a_n a) (hj : j < a_n a) : a_lt (ab_new a r t d v) i j ↔ a_lt a i j := by
  show gm_lt (ab_up (a_ct a) (a_n a) _) (ab_up (a_mk a) (a_n a) _) i j ↔ _
  unfold gm_lt a_lt gm_lt
  rw [ab_un (show i ≠ a_n a by omega), ab_un (show j ≠ a_n a by omega), ab_un (show i ≠ a_n a by omega), ab_un (show j ≠ a_n a by omega)]
theorem ab_par_old {a : AS} {r : Nat} {t : Int32} {d : Bool} {v : Int64} {i : Nat} (hi : i < a_n a) : a_par (ab_new a r t d v) i = a_par a i := by
  show (if ab_up (a_tg a) (a_n a) t i = -1 then none else some (ab_up (a_tg a) (a_n a) t i).toNatClampNeg) = _
  rw [ab_un (show i ≠ a_n a by omega)]
  rfl
theorem ab_good_new {a : AS} {r : Nat} {t : Int32} {d : Bool} {v : Int64} {L : List Nat} (h : ab_row a L) : gm_good (a_par (ab_new a r t d v)) (a_lt (ab_new a r t d v)) [] L := by
  refine gm_good_congr (fun e he => (ab_par_old ((h.2.1 e).mp he).1).symm) (fun e he x hx hl => ?_) h.2.2
  rcases hx with hx | hx
  · cases hx
  · exact (ab_lt_old ((h.2.1 e).mp he).1 ((h.2.1 x).mp hx).1).mpr hl
/-- a delete: the row stays -/
theorem ab_row_del {a : AS} {r : Nat} {t : Int32} {v : Int64} {L : List Nat} (h : ab_row a L) : ab_row (ab_new a r t true v) L := by
  refine ⟨h.1, fun x => ?_, ab_good_new h⟩
  show x ∈ L ↔ x < a_n a + 1 ∧ ab_up (a_dl a) (a_n a) true x = false
  rw [h.2.1]
  by_cases e : x = a_n a
  · subst e; rw [ab_us]; simp
  · rw [ab_un e]
    exact ⟨fun q => ⟨by omega, q.2⟩, fun q => ⟨by omega, q.2⟩⟩
/-- an insert: woven in -/
theorem ab_row_ins {a : AS} {r : Nat} {t : Int32} {v : Int64} {xs ys : List Nat} (h : ab_row a (xs ++ ys)) (ho : gm_own (a_par (ab_new a r t false v)) (a_lt (ab_new a r t false v)) (a_n a) xs.reverse) (h0 : ∀ y0, ys.head? = some y0 → a_lt (ab_new a r t false v) y0 (a_n a)) : ab_row (ab_new a r t false v) (xs ++ a_n a :: ys) := by
  have hnm : a_n a ∉ xs ++ ys := fun q => by have := ((h.2.1 _).mp q).1; omega
  refine ⟨?_, fun x => ?_, gm_insert gm_lt_tr (ab_good_new h) ho h0⟩
  · have h1 := h.1
    have hp : (xs ++ a_n a :: ys).Perm (a_n a :: (xs ++ ys)) := List.perm_middle
    rw [hp.nodup_iff, List.nodup_cons]
    exact ⟨hnm, h1⟩
  · have hm : x ∈ xs ++ a_n a :: ys ↔ x = a_n a ∨ x ∈ xs ++ ys := by
      simp only [List.mem_append, List.mem_cons]
      constructor
      · rintro (q | q | q)
        · exact Or.inr (Or.inl q)
        · exact Or.inl q
        · exact Or.inr (Or.inr q)
      · rintro (q | q | q)
        · exact Or.inr (Or.inl q)
        · exact Or.inl q
        · exact Or.inr (Or.inr q)
    rw [hm, h.2.1]
    show _ ↔ x < a_n a + 1 ∧ ab_up (a_dl a) (a_n a) false x = false
    by_cases e : x = a_n a
    · subst e; rw [ab_us]; simp
    · rw [ab_un e]
      constructor
      · rintro (q | q)
        · exact absurd q e
        · exact ⟨by omega, q.2⟩
      · intro q
        exact Or.inr ⟨by omega, q.2⟩
end AB
end
section
/-! The class's arrays against the state: raw functions of the cells, and what they say. -/
section CX
def jb (b : Bool) : Int32 := if b = true then 1 else 0
theorem jb_t : jb true = 1 := rfl
theorem jb_f : jb false = 0 := rfl
theorem jb_0 {b : Bool} : jb b = 0 ↔ b = false := by cases b <;> decide
theorem jb_n {b : Bool} : ¬ jb b = 0 ↔ b = true := by cases b <;> decide
theorem jb_nar (b : Bool) : vp_nar .boolean (jb b) = jb b := by cases b <;> decide
theorem jb_narrow (b : Bool) : narrow .boolean (.int (jb b)) = .int (jb b) := by cases b <;> decide
def ab_mask (h : Nat → Bool) : Nat := (if h 0 = true then 1 else 0) + (if h 1 = true then 2 else 0) + (if h 2 = true then 4 else 0) + (if h 3 = true then 8 else 0)
def ab_bit (r : Nat) : Int32 := (1 : Int32) <<< (nI r &&& 31)
theorem ab_mask_congr {h h' : Nat → Bool} (e : ∀ r, r < 4 → h r = h' r) : ab_mask h = ab_mask h' := by
  unfold ab_mask
  rw [e 0 (by omega), e 1 (by omega), e 2 (by omega), e 3 (by omega)]
theorem ab_mask_bit {h : Nat → Bool} : ∀ {r : Nat}, r < 4 → ((nI (ab_mask h) &&& ab_bit r) = 0 ↔ h r = false)
  | 0, _ => by unfold ab_mask; cases h 0 <;> cases h 1 <;> cases h 2 <;> cases h 3 <;> decide
  | 1, _ => by unfold ab_mask; cases h 0 <;> cases h 1 <;> cases h 2 <;> cases h 3 <;> decide
  | 2, _ => by unfold ab_mask; cases h 0 <;> cases h 1 <;> cases h 2 <;> cases h 3 <;> decide
  | 3, _ => by unfold ab_mask; cases h 0 <;> cases h 1 <;> cases h 2 <;> cases h 3 <;> decide
  | n + 4, q => by omega
theorem ab_mask_or {h : Nat → Bool} : ∀ {r : Nat}, r < 4 → nI (ab_mask h) ||| ab_bit r = nI (ab_mask (ab_up h r true))
  | 0, _ => by
    show _ = nI ((if (true : Bool) = true then 1 else 0) + (if h 1 = true then 2 else 0) + (if h 2 = true then 4 else 0) + (if h 3 = true then 8 else 0))
    unfold ab_mask; cases h 0 <;> cases h 1 <;> cases h 2 <;> cases h 3 <;> decide
  | 1, _ => by
    show _ = nI ((if h 0 = true then 1 else 0) + (if (true : Bool) = true then 2 else 0) + (if h 2 = true then 4 else 0) + (if h 3 = true then 8 else 0))
    unfold ab_mask; cases h 0 <;> cases h 1 <;> cases h 2 <;> cases h 3 <;> decide
  | 2, _ => by
    show _ = nI ((if h 0 = true then 1 else 0) + (if h 1 = true then 2 else 0) + (if (true : Bool) = true then 4 else 0) + (if h 3 = true then 8 else 0))
    unfold ab_mask; cases h 0 <;> cases h 1 <;> cases h 2 <;> cases h 3 <;> decide
  | 3, _ => by
    show _ = nI ((if h 0 = true then 1 else 0) + (if h 1 = true then 2 else 0) + (if h 2 = true then 4 else 0) + (if (true : Bool) = true then 8 else 0))
    unfold ab_mask; cases h 0 <;> cases h 1 <;> cases h 2 <;> cases h 3 <;> decide
  | n + 4, q => by omega
theorem ab_imax {i j : Nat} (hi : i < 2147483648) (hj : j < 2147483648) : (if nI i < nI j then nI j else nI i) = nI (Nat.max i j) := by
  simp only [nI_ltI hi hj, Nat.max_def]
  by_cases h : i < j
  · rw [if_pos h, if_pos (by omega)]
  · rw [if_neg h]
    by_cases h2 : i ≤ j
    · rw [if_pos h2, show i = j by omega]
    · rw [if_neg h2]
theorem ab_any_up {n : Nat} {g : Nat → Bool} {h : Nat → Bool} {k : Nat} (hk : k < n) : (List.range n).any (fun i => g i && ab_up h k true i) = ((List.range n).any (fun i => g i && h i) || g k) := by
  rw [Bool.eq_iff_iff]
  simp only [List.any_eq_true, Bool.or_eq_true, List.mem_range, Bool.and_eq_true]
  constructor
  · rintro ⟨i, hi, h1, h2⟩
    by_cases e : i = k
    · subst e; exact Or.inr h1
    · rw [ab_un e] at h2; exact Or.inl ⟨i, hi, h1, h2⟩
  · rintro (⟨i, hi, h1, h2⟩ | h1)
    · refine ⟨i, hi, h1, ?_⟩
      by_cases e : i = k
      · subst e; rw [ab_us]
      · rw [ab_un e]; exact h2
    · exact ⟨k, hk, h1, ab_us⟩
theorem ab_del_take {a : AS} {r k s e : Nat} (hk : k < a_n a) : a_del (ab_take a r k) s e = (a_del a s e || (decide (s = r) && a_dl a k && (a_tg a k == nI e))) := by
  show (List.range (a_n a)).any (fun i => a_dl a i && (a_tg a i == nI e) && ab_up (a_hd a) r (ab_up (a_hd a r) k true) s i) = _
  by_cases h : s = r
  · subst h
    rw [ab_us, ab_any_up (g := fun i => a_dl a i && (a_tg a i == nI e)) hk]
    simp [a_del]
  · rw [ab_un h]
    simp [a_del, h]
def cx_A (a : AS) (f0 f1 f2 f3 f4 f5 f6 : Nat → Int32) (md : Int32) : Prop :=
  md = nI (a_n a) ∧ (∀ k, k < a_n a → f0 k = jb (a_dl a k)) ∧ (∀ k, k < a_n a → f1 k = a_tg a k) ∧ (∀ k, k < a_n a → f2 k = nI (a_ct a k)) ∧ (∀ k, k < a_n a → f3 k = nI (a_mk a k)) ∧
  (∀ k, k < 160 → f4 k = nI (ab_mask (fun r => a_hd a r k))) ∧ (∀ e, e < 160 → f5 e = nI (ab_mask (fun r => a_del a r e))) ∧ (∀ r, r < 4 → f6 r = nI (a_gr a r))
def cx_V (a : AS) (v : Nat → Int64) : Prop := ∀ k, k < a_n a → a_dl a k = false → v k = a_vl a k
def cx_L (L : List Nat) (f7 : Nat → Int32) (ln : Int32) : Prop := ln = nI L.length ∧ ∀ i (h : i < L.length), f7 i = nI L[i]
theorem cx_hold {a : AS} {f4 : Nat → Int32} {r k : Nat} (h4 : ∀ k, k < 160 → f4 k = nI (ab_mask (fun r => a_hd a r k))) (hk : k < 160) (hr : r < 4) : f4 k ||| ab_bit r = nI (ab_mask (fun s => ab_up (a_hd a) r (ab_up (a_hd a r) k true) s k)) := by
  rw [h4 k hk, ab_mask_or hr]
  congr 1
  apply ab_mask_congr
  intro s _
  by_cases e : s = r
  · subst e; rw [ab_us, ab_us, ab_us]
  · rw [ab_un e, ab_un e]
/-- bounds: a state whose operations number at most 160, with counts at most 161 -/
def cx_B (a : AS) : Prop := a_n a ≤ 160 ∧ (∀ k, k < a_n a → a_ct a k ≤ 161) ∧ ∀ k, k < a_n a → a_dl a k = true → ∃ j, j < 160 ∧ a_tg a k = nI j
theorem cx_gr_le {a : AS} (h : cx_B a) (r : Nat) : a_gr a r ≤ 161 := ab_max_le (fun k hk _ => h.2.1 k hk)
theorem cx_take_gr {a : AS} {f2 f6 : Nat → Int32} {r k : Nat} (hB : cx_B a) (hk : k < a_n a) (hr : r < 4) (h2 : ∀ k, k < a_n a → f2 k = nI (a_ct a k)) (h6 : ∀ r, r < 4 → f6 r = nI (a_gr a r)) : ∀ s, s < 4 → upd f6 r (if f6 r < f2 k then f2 k else f6 r) s = nI (a_gr (ab_take a r k) s) := by
  intro s hs
  show _ = nI (ab_max (ab_up (a_hd a) r (ab_up (a_hd a r) k true) s) (a_ct a) (a_n a))
  by_cases e : s = r
  · subst e
    have g1 := cx_gr_le hB s
    have g2 := hB.2.1 k hk
    rw [pk_us, ab_us, ab_max_up hk, h2 k hk, h6 s hs, ab_imax (by omega) (by omega)]
    rfl
  · rw [pk_un e, ab_un e]
    exact h6 s hs
theorem cx_take_hold {a : AS} {f4 : Nat → Int32} {r k : Nat} (hk : k < 160) (hr : r < 4) (h4 : ∀ k, k < 160 → f4 k = nI (ab_mask (fun r => a_hd a r k))) : ∀ i, i < 160 → upd f4 k (f4 k ||| ab_bit r) i = nI (ab_mask (fun s => a_hd (ab_take a r k) s i)) := by
  intro i hi
  show _ = nI (ab_mask (fun s => ab_up (a_hd a) r (ab_up (a_hd a r) k true) s i))
  by_cases e : i = k
  · subst e
    rw [pk_us]
    exact cx_hold h4 hi hr
  · rw [pk_un e, h4 i hi]
    congr 1
    apply ab_mask_congr
    intro s _
    rw [ab_up_hdF e]
theorem cx_take_i {a : AS} {f0 f1 f2 f3 f4 f5 f6 : Nat → Int32} {md : Int32} {r k : Nat} (hB : cx_B a) (hk : k < a_n a) (hr : r < 4) (hd : a_dl a k = false) (h : cx_A a f0 f1 f2 f3 f4 f5 f6 md) :
    cx_A (ab_take a r k) f0 f1 f2 f3 (upd f4 k (f4 k ||| ab_bit r)) f5 (upd f6 r (if f6 r < f2 k then f2 k else f6 r)) md := by
  obtain ⟨g0, g1, g2, g3, g4, g5, g6, g7⟩ := h
  have hn := hB.1
  refine ⟨g0, g1, g2, g3, g4, cx_take_hold (by omega) hr g5, fun e he => ?_, cx_take_gr hB hk hr g3 g7⟩
  rw [g6 e he]
  congr 1
  apply ab_mask_congr
  intro s _
  rw [ab_del_take hk, hd]
  simp
theorem cx_take_d {a : AS} {f0 f1 f2 f3 f4 f5 f6 : Nat → Int32} {md : Int32} {r k j : Nat} (hB : cx_B a) (hk : k < a_n a) (hr : r < 4) (hd : a_dl a k = true) (hj : j < 160) (ht : a_tg a k = nI j) (h : cx_A a f0 f1 f2 f3 f4 f5 f6 md) :
    cx_A (ab_take a r k) f0 f1 f2 f3 (upd f4 k (f4 k ||| ab_bit r)) (upd f5 j (f5 j ||| ab_bit r)) (upd f6 r (if f6 r < f2 k then f2 k else f6 r)) md := by
  obtain ⟨g0, g1, g2, g3, g4, g5, g6, g7⟩ := h
  have hn := hB.1
  refine ⟨g0, g1, g2, g3, g4, cx_take_hold (by omega) hr g5, fun e he => ?_, cx_take_gr hB hk hr g3 g7⟩
  by_cases e1 : e = j
  · subst e1
    rw [pk_us, g6 e he, ab_mask_or hr]
    congr 1
    apply ab_mask_congr
    intro s _
    show ab_up (fun s => a_del a s e) r true s = _
    rw [ab_del_take hk, hd, ht]
    by_cases e2 : s = r
    · subst e2; rw [ab_us]; simp
    · rw [ab_un e2]; simp [e2]
  · rw [pk_un e1, g6 e he]
    congr 1
    apply ab_mask_congr
    intro s _
    rw [ab_del_take hk, hd, ht]
    have : (nI j == nI e) = false := by
      rw [beq_eq_false_iff_ne]
      intro q
      exact e1 (ab_nI_inj (by omega) (by omega) q).symm
    simp [this]
/-- the new operation before anyone holds it -/
def ab_pre (a : AS) (r : Nat) (t : Int32) (d : Bool) (v : Int64) : AS :=
  (a_n a + 1, ab_up (a_dl a) (a_n a) d, ab_up (a_tg a) (a_n a) t, ab_up (a_ct a) (a_n a) (a_gr a r + 1), ab_up (a_mk a) (a_n a) r, a_hd a, ab_up (a_vl a) (a_n a) v)
theorem ab_pre_take {a : AS} {r : Nat} {t : Int32} {d : Bool} {v : Int64} : ab_take (ab_pre a r t d v) r (a_n a) = ab_new a r t d v := rfl
theorem ab_pre_gr {a : AS} {r s : Nat} {t : Int32} {d : Bool} {v : Int64} (h : ab_I a) : a_gr (ab_pre a r t d v) s = a_gr a s := by
  show ab_max (a_hd a s) (ab_up (a_ct a) (a_n a) (a_gr a r + 1)) (a_n a + 1) = ab_max (a_hd a s) (a_ct a) (a_n a)
  show (if a_hd a s (a_n a) = true then _ else ab_max (a_hd a s) (ab_up (a_ct a) (a_n a) (a_gr a r + 1)) (a_n a)) = _
  rw [h.2.1 s _ (Nat.le_refl _), if_neg (by decide)]
  exact ab_max_congr (fun k hk => ⟨rfl, ab_un (by omega)⟩)
theorem ab_pre_del {a : AS} {r s e : Nat} {t : Int32} {d : Bool} {v : Int64} (h : ab_I a) : a_del (ab_pre a r t d v) s e = a_del a s e := by
  show (List.range (a_n a + 1)).any (fun i => ab_up (a_dl a) (a_n a) d i && (ab_up (a_tg a) (a_n a) t i == nI e) && a_hd a s i) = (List.range (a_n a)).any (fun i => a_dl a i && (a_tg a i == nI e) && a_hd a s i)
  rw [Bool.eq_iff_iff]
  simp only [List.any_eq_true, List.mem_range, Bool.and_eq_true]
  constructor
  · rintro ⟨i, hi, ⟨h1, h2⟩, h3⟩
    have hlt := ab_hd_lt h h3
    rw [ab_un (show i ≠ a_n a by omega)] at h1 h2
    exact ⟨i, hlt, ⟨h1, h2⟩, h3⟩
  · rintro ⟨i, hi, ⟨h1, h2⟩, h3⟩
    refine ⟨i, by omega, ⟨?_, ?_⟩, h3⟩
    · rw [ab_un (show i ≠ a_n a by omega)]; exact h1
    · rw [ab_un (show i ≠ a_n a by omega)]; exact h2
theorem cx_pre {a : AS} {f0 f1 f2 f3 f4 f5 f6 : Nat → Int32} {md : Int32} {r : Nat} {t : Int32} {d : Bool} {v : Int64} (hI : ab_I a) (hr : r < 4) (h : cx_A a f0 f1 f2 f3 f4 f5 f6 md) :
    cx_A (ab_pre a r t d v) (upd f0 (a_n a) (jb d)) (upd f1 (a_n a) t) (upd f2 (a_n a) (f6 r + 1)) (upd f3 (a_n a) (nI r)) f4 f5 f6 (nI (a_n a + 1)) := by
  obtain ⟨g0, g1, g2, g3, g4, g5, g6, g7⟩ := h
  refine ⟨rfl, ?_, ?_, ?_, ?_, g5, ?_, ?_⟩
  · intro k hk
    show upd f0 (a_n a) (jb d) k = jb (ab_up (a_dl a) (a_n a) d k)
    have hk' : k < a_n a + 1 := hk
    by_cases e : k = a_n a
    · subst e; rw [pk_us, ab_us]
    · rw [pk_un e, ab_un e]; exact g1 k (by omega)
  · intro k hk
    show upd f1 (a_n a) t k = ab_up (a_tg a) (a_n a) t k
    have hk' : k < a_n a + 1 := hk
    by_cases e : k = a_n a
    · subst e; rw [pk_us, ab_us]
    · rw [pk_un e, ab_un e]; exact g2 k (by omega)
  · intro k hk
    show upd f2 (a_n a) (f6 r + 1) k = nI (ab_up (a_ct a) (a_n a) (a_gr a r + 1) k)
    have hk' : k < a_n a + 1 := hk
    by_cases e : k = a_n a
    · subst e; rw [pk_us, ab_us, g7 r hr, nI_1]
    · rw [pk_un e, ab_un e]; exact g3 k (by omega)
  · intro k hk
    show upd f3 (a_n a) (nI r) k = nI (ab_up (a_mk a) (a_n a) r k)
    have hk' : k < a_n a + 1 := hk
    by_cases e : k = a_n a
    · subst e; rw [pk_us, ab_us]
    · rw [pk_un e, ab_un e]; exact g4 k (by omega)
  · intro e he
    rw [g6 e he]
    congr 1
    apply ab_mask_congr
    intro s _
    exact (ab_pre_del hI).symm
  · intro s hs
    rw [g7 s hs, ab_pre_gr hI]
theorem cx_B_of {a : AS} (h : ab_I a) : cx_B a := by
  refine ⟨h.1, fun k hk => ?_, fun k hk hd => ?_⟩
  · have := (h.2.2.2.1 k hk).2.2
    have := h.1
    omega
  · rcases h.2.2.1 k hk with g | ⟨j, hj, g1, -⟩
    · rw [g.2] at hd; cases hd
    · have := h.1
      exact ⟨j, by omega, g1⟩
theorem cx_B_pre {a : AS} {r : Nat} {t : Int32} {d : Bool} {v : Int64} (h : ab_I a) (hn : a_n a < 160) (ht : ab_ok a r t d) : cx_B (ab_pre a r t d v) := by
  have hB := cx_B_of h
  refine ⟨?_, fun k hk => ?_, fun k hk hd => ?_⟩
  · show a_n a + 1 ≤ 160
    omega
  · show ab_up (a_ct a) (a_n a) (a_gr a r + 1) k ≤ 161
    have hk' : k < a_n a + 1 := hk
    by_cases e : k = a_n a
    · subst e; rw [ab_us]
      have := ab_gr_le h r
      omega
    · rw [ab_un e]; exact hB.2.1 k (by omega)
  · show ∃ j, j < 160 ∧ ab_up (a_tg a) (a_n a) t k = nI j
    have hk' : k < a_n a + 1 := hk
    have hd' : ab_up (a_dl a) (a_n a) d k = true := hd
    by_cases e : k = a_n a
    · subst e
      rw [ab_us] at hd' ⊢
      rcases ht with ht | ⟨j, hj, e1, -⟩
      · rw [ht.2] at hd'; cases hd'
      · exact ⟨j, by omega, e1⟩
    · rw [ab_un e] at hd' ⊢
      exact hB.2.2 k (by omega) hd'
end CX
end
section
/-! Lists walked by an index: what the class's loops count and find. -/
section GL
theorem gl_cnt_s {f : Nat → Bool} {L : List Nat} {i : Nat} (h : i < L.length) : (L.take (i + 1)).countP f = (L.take i).countP f + (if f L[i] = true then 1 else 0) := by
  rw [List.take_succ_eq_append_getElem h, List.countP_append, List.countP_cons, List.countP_nil]
  simp
theorem gl_cnt_le {f : Nat → Bool} {L : List Nat} {i : Nat} : (L.take i).countP f ≤ L.length := by
  refine Nat.le_trans List.countP_le_length ?_
  rw [List.length_take]
  exact Nat.min_le_right _ _
theorem gl_cnt_i {f : Nat → Bool} {L : List Nat} {i : Nat} : (L.take i).countP f ≤ i := by
  refine Nat.le_trans List.countP_le_length ?_
  rw [List.length_take]
  exact Nat.min_le_left _ _
theorem gl_nth {f : Nat → Bool} {L : List Nat} {i : Nat} (h : i < L.length) (hf : f L[i] = true) : (L.filter f)[(L.take i).countP f]? = some L[i] := by
  have e : L = L.take i ++ L[i] :: L.drop (i + 1) := by
    rw [List.getElem_cons_drop, List.take_append_drop]
  have e2 : L.filter f = (L.take i).filter f ++ L[i] :: (L.drop (i + 1)).filter f := by
    conv => lhs; rw [e]
    rw [List.filter_append, List.filter_cons_of_pos hf]
  rw [e2, List.countP_eq_length_filter, List.getElem?_append_right (Nat.le_refl _), Nat.sub_self]
  rfl
theorem gl_len {f : Nat → Bool} {L : List Nat} : (L.filter f).length = L.countP f := by rw [List.countP_eq_length_filter]
/-- the k-th of a list, -1 if there is none -/
def gl_at (M : List Nat) (k : Int32) : Int32 := if k < 0 then -1 else match M[k.toNatClampNeg]? with
  | some e => nI e
  | none => -1
theorem gl_at_nI {M : List Nat} {j e : Nat} (hj : j < 2147483648) (h : M[j]? = some e) : gl_at M (nI j) = nI e := by
  unfold gl_at
  rw [if_neg (nI_pos hj), nI_clamp hj, h]
theorem gl_at_none {M : List Nat} {k : Int32} (h : ∀ j : Nat, j < 2147483648 → k = nI j → M.length ≤ j) : gl_at M k = -1 := by
  unfold gl_at
  by_cases hk : k < 0
  · rw [if_pos hk]
  · rw [if_neg hk]
    obtain ⟨j, hj, rfl⟩ := nI_of hk
    have h1 := h j hj rfl
    rw [nI_clamp hj, List.getElem?_eq_none h1]
/-- is k the number of an operation -/
def a_isop (n : Nat) (k : Int32) : Bool := decide (¬ k < 0) && decide (k < nI n)
theorem a_isop_nI {n j : Nat} (hn : n < 2147483648) (h : j < n) : a_isop n (nI j) = true := by
  unfold a_isop
  simp only [Bool.and_eq_true, decide_eq_true_eq]
  exact ⟨nI_pos (by omega), nI_lt h hn⟩
theorem a_isop_t {n : Nat} {k : Int32} (hn : n < 2147483648) (h : a_isop n k = true) : ∃ j, j < n ∧ k = nI j := by
  unfold a_isop at h
  simp only [Bool.and_eq_true, decide_eq_true_eq] at h
  obtain ⟨j, hj, rfl⟩ := nI_of h.1
  exact ⟨j, (nI_ltI hj hn).mp h.2, rfl⟩
/-- is r a replica -/
def a_isrep (r : Int32) : Bool := a_isop 4 r
theorem a_isrep_t {r : Int32} (h : a_isrep r = true) : ∃ j, j < 4 ∧ r = nI j := a_isop_t (by decide) h
/-- r holds such an element -/
def a_haseB (a : AS) (r : Nat) (e : Int32) : Bool := a_isop (a_n a) e && (!a_dl a e.toNatClampNeg && a_hd a r e.toNatClampNeg)
theorem a_haseB_nI {a : AS} {r j : Nat} (hn : a_n a ≤ 160) (hj : j < a_n a) : a_haseB a r (nI j) = (!a_dl a j && a_hd a r j) := by
  unfold a_haseB
  rw [a_isop_nI (by omega) hj, nI_clamp (by omega)]
  rfl
theorem a_haseB_t {a : AS} {r : Nat} {e : Int32} (hn : a_n a ≤ 160) (h : a_haseB a r e = true) : ∃ j, j < a_n a ∧ e = nI j ∧ a_dl a j = false ∧ a_hd a r j = true := by
  have h1 : a_isop (a_n a) e = true := by
    unfold a_haseB at h
    simp only [Bool.and_eq_true] at h
    exact h.1
  obtain ⟨j, hj, rfl⟩ := a_isop_t (by omega) h1
  rw [a_haseB_nI hn hj] at h
  simp only [Bool.and_eq_true, Bool.not_eq_true'] at h
  exact ⟨j, hj, rfl, h.1, h.2⟩
def a_ltb (a : AS) (i j : Nat) : Bool := decide (a_ct a i < a_ct a j) || (decide (a_ct a i = a_ct a j) && decide (a_mk a i < a_mk a j))
theorem a_ltb_t {a : AS} {i j : Nat} : a_ltb a i j = true ↔ a_lt a i j := by
  unfold a_ltb a_lt gm_lt
  simp only [Bool.or_eq_true, Bool.and_eq_true, decide_eq_true_eq]
theorem gl_cx {L : List Nat} {f7 : Nat → Int32} {ln : Int32} (h : cx_L L f7 ln) {i : Nat} (hi : i < L.length) : f7 i = nI L[i] := h.2 i hi
/-- weaving in, seen in the array -/
theorem gl_weave {L : List Nat} {f7 g : Nat → Int32} {e p : Nat} (hp : p ≤ L.length) (h : ∀ i (h : i < L.length), f7 i = nI L[i]) (hg : ∀ t, t ≤ L.length → g t = if p < t then f7 (t - 1) else f7 t) : cx_L (L.take p ++ e :: L.drop p) (upd g p (nI e)) (nI (L.length + 1)) := by
  refine ⟨?_, fun i hi => ?_⟩
  · congr 1
    rw [List.length_append, List.length_cons, List.length_take, List.length_drop]
    omega
  · have hi' : i < L.length + 1 := by
      rw [List.length_append, List.length_cons, List.length_take, List.length_drop] at hi
      omega
    have hlt : (L.take p).length = p := by rw [List.length_take]; omega
    by_cases e1 : i = p
    · subst e1
      rw [pk_us]
      congr 1
      rw [List.getElem_append_right (by omega)]
      simp [hlt]
    · rw [pk_un e1, hg i (by omega)]
      by_cases e2 : p < i
      · rw [if_pos e2, h (i - 1) (by omega)]
        congr 1
        rw [List.getElem_append_right (by omega)]
        have e3 : i - (L.take p).length = (i - p - 1) + 1 := by omega
        simp only [e3, List.getElem_cons_succ, List.getElem_drop]
        congr 1
        omega
      · rw [if_neg e2, h i (by omega)]
        congr 1
        rw [List.getElem_append_left (by omega), List.getElem_take]
end GL
end
section
/-! the judgement over pictures: jw_J says W at every frame whose locals are lv and every heap that holds the cells ws -/
section JW1
theorem jw_P_iff {D : va_G} {cl : List vw_C} {ws : va_W} {H : Heap} : va_P D cl ws H ↔ ∀ q ∈ ws, va_at D cl q H :=
  ⟨fun h q hq => by obtain ⟨k, hk⟩ := List.getElem?_of_mem hq; exact h k q hk, fun h k q hk => h q (List.mem_of_getElem? hk)⟩
theorem jw_D_iff {A : Nat → Prop} {ws : va_W} : va_D A ws ↔ (ws.map Prod.fst).Nodup ∧ ∀ q ∈ ws, A q.1 := by
  constructor
  · intro h
    refine ⟨?_, fun q hq => ?_⟩
    · unfold List.Nodup
      rw [List.pairwise_iff_getElem]
      intro i j hi hj hij he
      rw [List.getElem_map, List.getElem_map] at he
      rw [List.length_map] at hi hj
      have h1 := h.1 i j _ _ (List.getElem?_eq_getElem hi) (List.getElem?_eq_getElem hj) he
      omega
    · obtain ⟨k, hk⟩ := List.getElem?_of_mem hq
      exact h.2 k q hk
  · intro h
    refine ⟨fun i j p q hi hj he => ?_, fun k q hk => h.2 q (List.mem_of_getElem? hk)⟩
    obtain ⟨h1, h2⟩ := List.getElem?_eq_some_iff.mp hi
    obtain ⟨h3, h4⟩ := List.getElem?_eq_some_iff.mp hj
    have hn := h.1
    unfold List.Nodup at hn
    rw [List.pairwise_iff_getElem] at hn
    rcases Nat.lt_trichotomy i j with g | g | g
    · exact absurd (show (ws.map Prod.fst)[i]'(by rw [List.length_map]; exact h1) = (ws.map Prod.fst)[j]'(by rw [List.length_map]; exact h3) by rw [List.getElem_map, List.getElem_map, h2, h4]; exact he) (hn i j _ _ g)
    · exact g
    · exact absurd (show (ws.map Prod.fst)[j]'(by rw [List.length_map]; exact h3) = (ws.map Prod.fst)[i]'(by rw [List.length_map]; exact h1) by rw [List.getElem_map, List.getElem_map, h2, h4]; exact he.symm) (hn j i _ _ g)
theorem jw_join {A0 : Nat → Prop} {D : va_G} {cl : List vw_C} {w0 wc w2 w1 : va_W} {H H1 : Heap} (hP : va_P D cl (w0 ++ wc ++ w2) H) (hD : va_D A0 (w0 ++ wc ++ w2))
    (hk : ∀ q : Nat, q < H.size → ¬ va_A wc H.size q → H1[q]? = H[q]?) (hF : ∀ q, va_A wc H.size q → A0 q) (hP1 : va_P D cl w1 H1) (hD1 : va_D (va_A wc H.size) w1) : va_P D cl (w0 ++ w1 ++ w2) H1 ∧ va_D A0 (w0 ++ w1 ++ w2) := by
  rw [jw_P_iff] at hP hP1 ⊢
  rw [jw_D_iff] at hD hD1 ⊢
  obtain ⟨hn, hA⟩ := hD
  obtain ⟨hn1, hA1⟩ := hD1
  rw [List.map_append, List.map_append] at hn ⊢
  rw [List.nodup_append] at hn ⊢
  obtain ⟨hn0c, hn2, hx⟩ := hn
  rw [List.nodup_append] at hn0c
  obtain ⟨hn0, hnc, hx0⟩ := hn0c
  have ap0 : ∀ q ∈ w0, q.1 < H.size ∧ ¬ va_A wc H.size q.1 := by
    intro q hq
    have hl := (hP q (by simp [hq])).lt
    refine ⟨hl, fun h => ?_⟩
    rcases h with ⟨k, e, h⟩ | h
    · exact hx0 q.1 (List.mem_map_of_mem hq) q.1 (List.mem_map.mpr ⟨_, List.mem_of_getElem? h, rfl⟩) rfl
    · omega
  have ap2 : ∀ q ∈ w2, q.1 < H.size ∧ ¬ va_A wc H.size q.1 := by
    intro q hq
    have hl := (hP q (by simp [hq])).lt
    refine ⟨hl, fun h => ?_⟩
    rcases h with ⟨k, e, h⟩ | h
    · exact hx q.1 (List.mem_append_right _ (List.mem_map.mpr ⟨_, List.mem_of_getElem? h, rfl⟩)) q.1 (List.mem_map_of_mem hq) rfl
    · omega
  refine ⟨fun q hq => ?_, ⟨List.nodup_append.mpr ⟨hn0, hn1, ?_⟩, hn2, ?_⟩, fun q hq => ?_⟩
  · rcases List.mem_append.mp hq with h | h
    · rcases List.mem_append.mp h with h | h
      · exact (hP q (by simp [h])).kept (hk _ (ap0 q h).1 (ap0 q h).2)
      · exact hP1 q h
    · exact (hP q (by simp [h])).kept (hk _ (ap2 q h).1 (ap2 q h).2)
  · intro a ha b hb hab
    obtain ⟨x, hx, rfl⟩ := List.mem_map.mp ha
    obtain ⟨y, hy, rfl⟩ := List.mem_map.mp hb
    exact (ap0 x hx).2 (by rw [hab]; exact hA1 y hy)
  · intro a ha b hb hab
    obtain ⟨y, hy, rfl⟩ := List.mem_map.mp hb
    rcases List.mem_append.mp ha with h | h
    · exact hx a (List.mem_append_left _ h) y.1 (List.mem_map_of_mem hy) hab
    · obtain ⟨x, hx', rfl⟩ := List.mem_map.mp h
      exact (ap2 y hy).2 (by rw [← hab]; exact hA1 x hx')
  · rcases List.mem_append.mp hq with h | h
    · rcases List.mem_append.mp h with h | h
      · exact hA q (by simp [h])
      · exact hF _ (hA1 q h)
    · exact hA q (by simp [h])
def jw_ins (i : Nat) (v : Value) : List (Nat × Value) → List (Nat × Value)
  | [] => [(i, v)]
  | q :: r => if i ≤ q.1 then (i, v) :: q :: r else q :: jw_ins i v r
theorem jw_ins_mem {i : Nat} {v : Value} {q : Nat × Value} : ∀ {l : List (Nat × Value)}, q ∈ jw_ins i v l → q ∈ (i, v) :: l
  | [], h => h
  | a :: r, h => by
    unfold jw_ins at h
    split at h
    · exact h
    · rcases List.mem_cons.mp h with h | h
      · rw [h]; simp
      · rcases List.mem_cons.mp (jw_ins_mem h) with h | h
        · rw [h]; simp
        · simp [h]
def jw_set1 (i : Nat) (v : Value) (lv : List (Nat × Value)) : List (Nat × Value) := jw_ins i v (lv.filter (fun q => !(q.1 == i) && !(q.1 + 1 == i && q.2.category == 2)))
def jw_set2 (i : Nat) (v : Value) (lv : List (Nat × Value)) : List (Nat × Value) := jw_ins i v (lv.filter (fun q => !(q.1 == i) && (!(q.1 == i + 1) && !(q.1 + 1 == i && q.2.category == 2))))
theorem jw_has {ls : Array Slot} {nL i : Nat} {v : Value} {l : List (Nat × Value)} (h : lv_has ls nL ((i, v) :: l)) : lv_has ls nL (jw_ins i v l) := ⟨h.1, h.2.1, fun q hq => h.2.2 q (jw_ins_mem hq)⟩
/-- what holds all along a body: tables, words, classes, the part of the heap that it may change -/
def jw_F (p : Program) (s : State) (m : MethodId) (args : Array Value) (meth : Method) (c : Code) (D : va_G) (cl : List vw_C) (tys : List (ClassId × FieldType)) (A : Nat → Prop) (nL : Nat) (cc : ByteArray) (own : String) (Ts : List Cond) (ret : Option FieldType) : Prop :=
  (p.tables.exec = Jvm.exec ∧ c.code = cc ∧ c.maxLocals = nL ∧ s.vm.findClass own = some m.cls ∧ ∀ w ∈ Ts, w.before args s = true) ∧ va_K D cl tys s ∧ (∀ q : Nat, s.heap.size ≤ q → A q) ∧ meth.locks = false ∧ meth.sig.returnType = ret
def jw_J (p : Program) (l : Launch) (e : Env) (R : Room) (s : State) (m : MethodId) (args : Array Value) (below : List Frame) (meth : Method) (c : Code) (D : va_G) (cl : List vw_C) (A : Nat → Prop) (nL : Nat) (Q : State → Prop) (cells slots pc : Nat) (lv : List (Nat × Value)) (st : List Value) (ws : va_W) : Prop :=
  ∀ (ls : Array Slot) (H : Heap) (locs : List Loc), lv_has ls nL lv → va_P D cl ws H → va_D A ws → va_S A s.heap H locs → W p l e R s m args below meth c H locs cells slots Q (F0 m pc ls st)
/-- the world behind a method -/
def jw_B (D : va_G) (cl : List vw_C) (tys : List (ClassId × FieldType)) (A : Nat → Prop) : va_W → State → Prop := fun w t => va_P D cl w t.heap ∧ va_K D cl tys t ∧ va_D A w
def jw_Pc (D : va_G) (cl : List vw_C) (tys : List (ClassId × FieldType)) (av : List Value) (wc : va_W) (sz : Nat) : Array Value → State → Prop := va_Pc av (fun U => U.heap.size = sz ∧ va_P D cl wc U.heap ∧ va_K D cl tys U ∧ va_D (fun _ => True) wc)
def jw_PX (D : va_G) (cl : List vw_C) (tys : List (ClassId × FieldType)) (av : List Value) (wc : va_W) (Z : (Nat → Prop) → State → Prop) (sz : Nat) : Array Value → State → Prop := va_Pc av (fun U => U.heap.size = sz ∧ va_P D cl wc U.heap ∧ va_K D cl tys U ∧ va_D (fun _ => True) wc ∧ Z (va_A wc sz) U)
theorem jw_Pc_blind {D : va_G} {cl : List vw_C} {tys : List (ClassId × FieldType)} {av : List Value} {wc : va_W} {sz : Nat} : FrameBlind (jw_Pc D cl tys av wc sz) := fun a U g mk q => by
  obtain ⟨q0, q1, qP, qK, qD⟩ := q
  exact ⟨q0, q1, qP, va_K.moved (u := U) (U := U.calling g mk a) (Vm.Alike.refl U.vm) qK, qD⟩
def jw_Zok (Z : (Nat → Prop) → State → Prop) : Prop := (∀ (A : Nat → Prop) (U U' : State), U'.vm = U.vm → U'.heap = U.heap → Z A U → Z A U') ∧ ∀ (A B : Nat → Prop) (s U : State), s.WarmedH U.vm → Z A s → (∀ q : Nat, q < s.heap.size → ¬ A q → U.heap[q]? = s.heap[q]?) → (∀ q, B q → A q) → Z B U
theorem jw_PX_blind {D : va_G} {cl : List vw_C} {tys : List (ClassId × FieldType)} {av : List Value} {wc : va_W} {Z : (Nat → Prop) → State → Prop} (hZ : jw_Zok Z) {sz : Nat} : FrameBlind (jw_PX D cl tys av wc Z sz) := fun a U g mk q => by
  obtain ⟨q0, q1, qP, qK, qD, qZ⟩ := q
  exact ⟨q0, q1, qP, va_K.moved (u := U) (U := U.calling g mk a) (Vm.Alike.refl U.vm) qK, qD, hZ.1 _ U _ rfl rfl qZ⟩
def jw_Mi (l : Launch) (D : va_G) (cl : List vw_C) (tys : List (ClassId × FieldType)) (y : MethodName) (Ts : List Cond) (rm : Room) (av : List Value) (wc : va_W) (post : Int32 → va_W → Prop) : Prop := ∀ sz : Nat, Met l y Ts rm (jw_Pc D cl tys av wc sz) (va_Qi post (jw_B D cl tys (va_A wc sz)) (va_A wc sz)) rm.cells rm.slots (va_A wc sz)
def jw_Ml (l : Launch) (D : va_G) (cl : List vw_C) (tys : List (ClassId × FieldType)) (y : MethodName) (Ts : List Cond) (rm : Room) (av : List Value) (wc : va_W) (post : Int64 → va_W → Prop) : Prop := ∀ sz : Nat, Met l y Ts rm (jw_Pc D cl tys av wc sz) (va_Ql post (jw_B D cl tys (va_A wc sz)) (va_A wc sz)) rm.cells rm.slots (va_A wc sz)
def jw_Mv (l : Launch) (D : va_G) (cl : List vw_C) (tys : List (ClassId × FieldType)) (y : MethodName) (Ts : List Cond) (rm : Room) (av : List Value) (wc : va_W) (post : va_W → Prop) : Prop := ∀ sz : Nat, Met l y Ts rm (jw_Pc D cl tys av wc sz) (va_Qv post (jw_B D cl tys (va_A wc sz)) (va_A wc sz)) rm.cells rm.slots (va_A wc sz)
/-- it throws an object of class E, and the cells stay -/
def jw_XC (D : va_G) (cl : List vw_C) (tys : List (ClassId × FieldType)) (A : Nat → Prop) (wc : va_W) (E0 : String) : String → State → State → Prop := vx_X (fun _ : Unit => True) (fun E _ t => E = E0 ∧ jw_B D cl tys A wc t) A
def jw_Tx (l : Launch) (D : va_G) (cl : List vw_C) (tys : List (ClassId × FieldType)) (y : MethodName) (Ts : List Cond) (rm : Room) (av : List Value) (wc : va_W) (Z : (Nat → Prop) → State → Prop) (E0 : String) : Prop := ∀ sz : Nat, vx_Met l y Ts rm (jw_PX D cl tys av wc Z sz) (fun _ _ _ _ => False) (jw_XC D cl tys (va_A wc sz) wc E0) rm.cells rm.slots (va_A wc sz)
/-- reads: the answer is v, the cells stay -/
abbrev jw_Ei (l : Launch) (D : va_G) (cl : List vw_C) (tys : List (ClassId × FieldType)) (y : MethodName) (Ts : List Cond) (rm : Room) (av : List Value) (wc : va_W) (v : Int32) : Prop := jw_Mi l D cl tys y Ts rm av wc (fun r w => r = v ∧ w = wc)
abbrev jw_El (l : Launch) (D : va_G) (cl : List vw_C) (tys : List (ClassId × FieldType)) (y : MethodName) (Ts : List Cond) (rm : Room) (av : List Value) (wc : va_W) (v : Int64) : Prop := jw_Ml l D cl tys y Ts rm av wc (fun r w => r = v ∧ w = wc)
abbrev jw_Ev (l : Launch) (D : va_G) (cl : List vw_C) (tys : List (ClassId × FieldType)) (y : MethodName) (Ts : List Cond) (rm : Room) (av : List Value) (wc : va_W) : Prop := jw_Mv l D cl tys y Ts rm av wc (fun w => w = wc)
end JW1
theorem jm {c0 w : Cond} {WL : List Cond} (h : w ∈ WL) : w ∈ c0 :: WL := List.mem_cons_of_mem _ h
theorem jms {c0 : Cond} {us WL : List Cond} (h : ∀ w ∈ us, w ∈ WL) : ∀ w ∈ us, w ∈ c0 :: WL := fun w hw => List.mem_cons_of_mem _ (h w hw)
theorem jw_inc (i : Nat) : nI i + Int32.ofInt 1 = nI (i + 1) := by rw [show Int32.ofInt 1 = 1 by decide]; exact nI_1 i
theorem jw_dec (i : Nat) : nI (i + 1) + Int32.ofInt (-1) = nI i := by rw [show Int32.ofInt (-1) = -1 by decide]; exact pk_m1 i
theorem jw_inc5 (i : Nat) : nI i + Int32.ofInt 5 = nI (i + 5) := by rw [show Int32.ofInt 5 = nI 5 by decide]; exact nI_add i 5
section JW2
variable {p : Program} {l : Launch} {e : Env} {R : Room} {s : State} {m : MethodId} {args : Array Value} {below : List Frame} {meth : Method} {c : Code} {Q : State → Prop} {cells slots : Nat}
variable {D : va_G} {cl : List vw_C} {tys : List (ClassId × FieldType)} {A : Nat → Prop} {nL : Nat} {cc : ByteArray} {own : String} {Ts : List Cond} {ret : Option FieldType}
variable {pc : Nat} {lv lv' : List (Nat × Value)} {rest : List Value} {ws ws' : va_W}
theorem jw_iconst (F : jw_F p s m args meth c D cl tys A nL cc own Ts ret) {n : Int} {v : Int32} (d : decode cc pc = .ok (.iconst n, 1)) (hv : Int32.ofInt n = v) (k : jw_J p l e R s m args below meth c D cl A nL (Q) (cells) (slots) (pc + 1) (lv) (.int v :: rest) (ws)) : jw_J p l e R s m args below meth c D cl A nL (Q) (cells) (slots) (pc) (lv) (rest) (ws) := fun ls H locs hl hP hD hS => lv_iconst F.1.1 F.1.2.1 d hv (k ls H locs hl hP hD hS)
theorem jw_bipush (F : jw_F p s m args meth c D cl tys A nL cc own Ts ret) {n : Int} {v : Int32} (d : decode cc pc = .ok (.bipush n, 2)) (hv : (Int8.ofInt n).toInt32 = v) (k : jw_J p l e R s m args below meth c D cl A nL (Q) (cells) (slots) (pc + 2) (lv) (.int v :: rest) (ws)) : jw_J p l e R s m args below meth c D cl A nL (Q) (cells) (slots) (pc) (lv) (rest) (ws) := fun ls H locs hl hP hD hS => lv_bipush F.1.1 F.1.2.1 d hv (k ls H locs hl hP hD hS)
theorem jw_sipush (F : jw_F p s m args meth c D cl tys A nL cc own Ts ret) {n : Int} {v : Int32} (d : decode cc pc = .ok (.sipush n, 3)) (hv : (Int16.ofInt n).toInt32 = v) (k : jw_J p l e R s m args below meth c D cl A nL (Q) (cells) (slots) (pc + 3) (lv) (.int v :: rest) (ws)) : jw_J p l e R s m args below meth c D cl A nL (Q) (cells) (slots) (pc) (lv) (rest) (ws) := fun ls H locs hl hP hD hS => lv_sipush F.1.1 F.1.2.1 d hv (k ls H locs hl hP hD hS)
theorem jw_lconst (F : jw_F p s m args meth c D cl tys A nL cc own Ts ret) {n : Fin 2} {v : Int64} (d : decode cc pc = .ok (.lconst n, 1)) (hv : Int64.ofNat (n : Nat) = v) (k : jw_J p l e R s m args below meth c D cl A nL (Q) (cells) (slots) (pc + 1) (lv) (.long v :: rest) (ws)) : jw_J p l e R s m args below meth c D cl A nL (Q) (cells) (slots) (pc) (lv) (rest) (ws) := fun ls H locs hl hP hD hS => lv_lconst F.1.1 F.1.2.1 d hv (k ls H locs hl hP hD hS)
theorem jw_ldc (F : jw_F p s m args meth c D cl tys A nL cc own Ts ret) {index : Nat} {v : Int32} (d : decode cc pc = .ok (.ldc index, 2)) (hw : Cond.constant own index v ∈ Ts) (k : jw_J p l e R s m args below meth c D cl A nL (Q) (cells) (slots) (pc + 2) (lv) (.int v :: rest) (ws)) : jw_J p l e R s m args below meth c D cl A nL (Q) (cells) (slots) (pc) (lv) (rest) (ws) := fun ls H locs hl hP hD hS => lv_ldc F.1.1 F.1.2.1 F.1.2.2.2.1 (F.1.2.2.2.2 _ hw) d (k ls H locs hl hP hD hS)
theorem jw_ldc2 (F : jw_F p s m args meth c D cl tys A nL cc own Ts ret) {index : Nat} {v : Int64} (d : decode cc pc = .ok (.ldc2_w index, 3)) (hw : Cond.constantLong own index v ∈ Ts) (k : jw_J p l e R s m args below meth c D cl A nL (Q) (cells) (slots) (pc + 3) (lv) (.long v :: rest) (ws)) : jw_J p l e R s m args below meth c D cl A nL (Q) (cells) (slots) (pc) (lv) (rest) (ws) := fun ls H locs hl hP hD hS => lv_ldc2 F.1.1 F.1.2.1 F.1.2.2.2.1 (F.1.2.2.2.2 _ hw) d (k ls H locs hl hP hD hS)
theorem jw_iload_n (F : jw_F p s m args meth c D cl tys A nL cc own Ts ret) (q : Nat) {i : Nat} {kf : Fin 4} {x : Int32} (d : decode cc pc = .ok (.iload_n kf, 1)) (hi : (kf : Nat) = i) (h : lv[q]? = some (i, .int x)) (k : jw_J p l e R s m args below meth c D cl A nL (Q) (cells) (slots) (pc + 1) (lv) (.int x :: rest) (ws)) : jw_J p l e R s m args below meth c D cl A nL (Q) (cells) (slots) (pc) (lv) (rest) (ws) := fun ls H locs hl hP hD hS => lv_iload_n F.1.1 F.1.2.1 d hi (lv_at hl q h) (k ls H locs hl hP hD hS)
theorem jw_iload (F : jw_F p s m args meth c D cl tys A nL cc own Ts ret) (q : Nat) {i : Nat} {x : Int32} (d : decode cc pc = .ok (.iload i, 2)) (h : lv[q]? = some (i, .int x)) (k : jw_J p l e R s m args below meth c D cl A nL (Q) (cells) (slots) (pc + 2) (lv) (.int x :: rest) (ws)) : jw_J p l e R s m args below meth c D cl A nL (Q) (cells) (slots) (pc) (lv) (rest) (ws) := fun ls H locs hl hP hD hS => lv_iload F.1.1 F.1.2.1 d (lv_at hl q h) (k ls H locs hl hP hD hS)
theorem jw_istore_n (F : jw_F p s m args meth c D cl tys A nL cc own Ts ret) {i : Nat} {kf : Fin 4} {x : Int32} (d : decode cc pc = .ok (.istore_n kf, 1)) (hi : (kf : Nat) = i) (hn : i < nL) (hl' : jw_set1 i (.int x) lv = lv') (k : jw_J p l e R s m args below meth c D cl A nL (Q) (cells) (slots) (pc + 1) (lv') (rest) (ws)) : jw_J p l e R s m args below meth c D cl A nL (Q) (cells) (slots) (pc) (lv) (.int x :: rest) (ws) := fun ls H locs hl hP hD hS => lv_istore_n F.1.1 F.1.2.1 d hi hl hn rfl (fun ls' h' => k ls' H locs (hl' ▸ jw_has h') hP hD hS)
theorem jw_istore (F : jw_F p s m args meth c D cl tys A nL cc own Ts ret) {i : Nat} {x : Int32} (d : decode cc pc = .ok (.istore i, 2)) (hn : i < nL) (hl' : jw_set1 i (.int x) lv = lv') (k : jw_J p l e R s m args below meth c D cl A nL (Q) (cells) (slots) (pc + 2) (lv') (rest) (ws)) : jw_J p l e R s m args below meth c D cl A nL (Q) (cells) (slots) (pc) (lv) (.int x :: rest) (ws) := fun ls H locs hl hP hD hS => lv_istore F.1.1 F.1.2.1 d hl hn rfl (fun ls' h' => k ls' H locs (hl' ▸ jw_has h') hP hD hS)
theorem jw_lload_n (F : jw_F p s m args meth c D cl tys A nL cc own Ts ret) (q : Nat) {i : Nat} {kf : Fin 4} {x : Int64} (d : decode cc pc = .ok (.lload_n kf, 1)) (hi : (kf : Nat) = i) (h : lv[q]? = some (i, .long x)) (k : jw_J p l e R s m args below meth c D cl A nL (Q) (cells) (slots) (pc + 1) (lv) (.long x :: rest) (ws)) : jw_J p l e R s m args below meth c D cl A nL (Q) (cells) (slots) (pc) (lv) (rest) (ws) := fun ls H locs hl hP hD hS => lv_lload_n F.1.1 F.1.2.1 d hi (lv_at hl q h) (k ls H locs hl hP hD hS)
theorem jw_lload (F : jw_F p s m args meth c D cl tys A nL cc own Ts ret) (q : Nat) {i : Nat} {x : Int64} (d : decode cc pc = .ok (.lload i, 2)) (h : lv[q]? = some (i, .long x)) (k : jw_J p l e R s m args below meth c D cl A nL (Q) (cells) (slots) (pc + 2) (lv) (.long x :: rest) (ws)) : jw_J p l e R s m args below meth c D cl A nL (Q) (cells) (slots) (pc) (lv) (rest) (ws) := fun ls H locs hl hP hD hS => lv_lload F.1.1 F.1.2.1 d (lv_at hl q h) (k ls H locs hl hP hD hS)
theorem jw_lstore_n (F : jw_F p s m args meth c D cl tys A nL cc own Ts ret) {i : Nat} {kf : Fin 4} {x : Int64} (d : decode cc pc = .ok (.lstore_n kf, 1)) (hi : (kf : Nat) = i) (hn : i + 1 < nL) (hl' : jw_set2 i (.long x) lv = lv') (k : jw_J p l e R s m args below meth c D cl A nL (Q) (cells) (slots) (pc + 1) (lv') (rest) (ws)) : jw_J p l e R s m args below meth c D cl A nL (Q) (cells) (slots) (pc) (lv) (.long x :: rest) (ws) := fun ls H locs hl hP hD hS => lv_lstore_n F.1.1 F.1.2.1 d hi hl hn rfl (fun ls' h' => k ls' H locs (hl' ▸ jw_has h') hP hD hS)
theorem jw_lstore (F : jw_F p s m args meth c D cl tys A nL cc own Ts ret) {i : Nat} {x : Int64} (d : decode cc pc = .ok (.lstore i, 2)) (hn : i + 1 < nL) (hl' : jw_set2 i (.long x) lv = lv') (k : jw_J p l e R s m args below meth c D cl A nL (Q) (cells) (slots) (pc + 2) (lv') (rest) (ws)) : jw_J p l e R s m args below meth c D cl A nL (Q) (cells) (slots) (pc) (lv) (.long x :: rest) (ws) := fun ls H locs hl hP hD hS => lv_lstore F.1.1 F.1.2.1 d hl hn rfl (fun ls' h' => k ls' H locs (hl' ▸ jw_has h') hP hD hS)
theorem jw_aload_n (F : jw_F p s m args meth c D cl tys A nL cc own Ts ret) (q : Nat) {i : Nat} {kf : Fin 4} {x : Nat} (d : decode cc pc = .ok (.aload_n kf, 1)) (hi : (kf : Nat) = i) (h : lv[q]? = some (i, .ref x)) (k : jw_J p l e R s m args below meth c D cl A nL (Q) (cells) (slots) (pc + 1) (lv) (.ref x :: rest) (ws)) : jw_J p l e R s m args below meth c D cl A nL (Q) (cells) (slots) (pc) (lv) (rest) (ws) := fun ls H locs hl hP hD hS => lv_aload_n F.1.1 F.1.2.1 d hi (lv_at hl q h) (k ls H locs hl hP hD hS)
theorem jw_aload (F : jw_F p s m args meth c D cl tys A nL cc own Ts ret) (q : Nat) {i : Nat} {x : Nat} (d : decode cc pc = .ok (.aload i, 2)) (h : lv[q]? = some (i, .ref x)) (k : jw_J p l e R s m args below meth c D cl A nL (Q) (cells) (slots) (pc + 2) (lv) (.ref x :: rest) (ws)) : jw_J p l e R s m args below meth c D cl A nL (Q) (cells) (slots) (pc) (lv) (rest) (ws) := fun ls H locs hl hP hD hS => lv_aload F.1.1 F.1.2.1 d (lv_at hl q h) (k ls H locs hl hP hD hS)
theorem jw_astore_n (F : jw_F p s m args meth c D cl tys A nL cc own Ts ret) {i : Nat} {kf : Fin 4} {x : Nat} (d : decode cc pc = .ok (.astore_n kf, 1)) (hi : (kf : Nat) = i) (hn : i < nL) (hl' : jw_set1 i (.ref x) lv = lv') (k : jw_J p l e R s m args below meth c D cl A nL (Q) (cells) (slots) (pc + 1) (lv') (rest) (ws)) : jw_J p l e R s m args below meth c D cl A nL (Q) (cells) (slots) (pc) (lv) (.ref x :: rest) (ws) := fun ls H locs hl hP hD hS => lv_astore_n F.1.1 F.1.2.1 d hi hl hn rfl (fun ls' h' => k ls' H locs (hl' ▸ jw_has h') hP hD hS)
theorem jw_astore (F : jw_F p s m args meth c D cl tys A nL cc own Ts ret) {i : Nat} {x : Nat} (d : decode cc pc = .ok (.astore i, 2)) (hn : i < nL) (hl' : jw_set1 i (.ref x) lv = lv') (k : jw_J p l e R s m args below meth c D cl A nL (Q) (cells) (slots) (pc + 2) (lv') (rest) (ws)) : jw_J p l e R s m args below meth c D cl A nL (Q) (cells) (slots) (pc) (lv) (.ref x :: rest) (ws) := fun ls H locs hl hP hD hS => lv_astore F.1.1 F.1.2.1 d hl hn rfl (fun ls' h' => k ls' H locs (hl' ▸ jw_has h') hP hD hS)
theorem jw_iinc (F : jw_F p s m args meth c D cl tys A nL cc own Ts ret) (q : Nat) {i : Nat} {n : Int} {x v : Int32} (d : decode cc pc = .ok (.iinc i n, 3)) (h : lv[q]? = some (i, .int x)) (hv : x + Int32.ofInt n = v) (hn : i < nL) (hl' : jw_set1 i (.int v) lv = lv') (k : jw_J p l e R s m args below meth c D cl A nL (Q) (cells) (slots) (pc + 3) (lv') (rest) (ws)) : jw_J p l e R s m args below meth c D cl A nL (Q) (cells) (slots) (pc) (lv) (rest) (ws) := fun ls H locs hl hP hD hS => lv_iinc F.1.1 F.1.2.1 d hl h hv hn rfl (fun ls' h' => k ls' H locs (hl' ▸ jw_has h') hP hD hS)
theorem jw_iadd (F : jw_F p s m args meth c D cl tys A nL cc own Ts ret) {x y : Int32} (d : decode cc pc = .ok (.iadd, 1))  (k : jw_J p l e R s m args below meth c D cl A nL (Q) (cells) (slots) (pc + 1) (lv) (.int (x + y) :: rest) (ws)) : jw_J p l e R s m args below meth c D cl A nL (Q) (cells) (slots) (pc) (lv) (.int y :: .int x :: rest) (ws) := fun ls H locs hl hP hD hS => lv_iadd F.1.1 F.1.2.1 d (k ls H locs hl hP hD hS)
theorem jw_isub (F : jw_F p s m args meth c D cl tys A nL cc own Ts ret) {x y : Int32} (d : decode cc pc = .ok (.isub, 1))  (k : jw_J p l e R s m args below meth c D cl A nL (Q) (cells) (slots) (pc + 1) (lv) (.int (x - y) :: rest) (ws)) : jw_J p l e R s m args below meth c D cl A nL (Q) (cells) (slots) (pc) (lv) (.int y :: .int x :: rest) (ws) := fun ls H locs hl hP hD hS => lv_isub F.1.1 F.1.2.1 d (k ls H locs hl hP hD hS)
theorem jw_imul (F : jw_F p s m args meth c D cl tys A nL cc own Ts ret) {x y : Int32} (d : decode cc pc = .ok (.imul, 1))  (k : jw_J p l e R s m args below meth c D cl A nL (Q) (cells) (slots) (pc + 1) (lv) (.int (x * y) :: rest) (ws)) : jw_J p l e R s m args below meth c D cl A nL (Q) (cells) (slots) (pc) (lv) (.int y :: .int x :: rest) (ws) := fun ls H locs hl hP hD hS => lv_imul F.1.1 F.1.2.1 d (k ls H locs hl hP hD hS)
theorem jw_iand (F : jw_F p s m args meth c D cl tys A nL cc own Ts ret) {x y : Int32} (d : decode cc pc = .ok (.iand, 1))  (k : jw_J p l e R s m args below meth c D cl A nL (Q) (cells) (slots) (pc + 1) (lv) (.int (x &&& y) :: rest) (ws)) : jw_J p l e R s m args below meth c D cl A nL (Q) (cells) (slots) (pc) (lv) (.int y :: .int x :: rest) (ws) := fun ls H locs hl hP hD hS => lv_iand F.1.1 F.1.2.1 d (k ls H locs hl hP hD hS)
theorem jw_ior (F : jw_F p s m args meth c D cl tys A nL cc own Ts ret) {x y : Int32} (d : decode cc pc = .ok (.ior, 1))  (k : jw_J p l e R s m args below meth c D cl A nL (Q) (cells) (slots) (pc + 1) (lv) (.int (x ||| y) :: rest) (ws)) : jw_J p l e R s m args below meth c D cl A nL (Q) (cells) (slots) (pc) (lv) (.int y :: .int x :: rest) (ws) := fun ls H locs hl hP hD hS => lv_ior F.1.1 F.1.2.1 d (k ls H locs hl hP hD hS)
theorem jw_ixor (F : jw_F p s m args meth c D cl tys A nL cc own Ts ret) {x y : Int32} (d : decode cc pc = .ok (.ixor, 1))  (k : jw_J p l e R s m args below meth c D cl A nL (Q) (cells) (slots) (pc + 1) (lv) (.int (x ^^^ y) :: rest) (ws)) : jw_J p l e R s m args below meth c D cl A nL (Q) (cells) (slots) (pc) (lv) (.int y :: .int x :: rest) (ws) := fun ls H locs hl hP hD hS => lv_ixor F.1.1 F.1.2.1 d (k ls H locs hl hP hD hS)
theorem jw_ishl (F : jw_F p s m args meth c D cl tys A nL cc own Ts ret) {x y : Int32} (d : decode cc pc = .ok (.ishl, 1))  (k : jw_J p l e R s m args below meth c D cl A nL (Q) (cells) (slots) (pc + 1) (lv) (.int (x <<< (y &&& 31)) :: rest) (ws)) : jw_J p l e R s m args below meth c D cl A nL (Q) (cells) (slots) (pc) (lv) (.int y :: .int x :: rest) (ws) := fun ls H locs hl hP hD hS => lv_ishl F.1.1 F.1.2.1 d (k ls H locs hl hP hD hS)
theorem jw_ishr (F : jw_F p s m args meth c D cl tys A nL cc own Ts ret) {x y : Int32} (d : decode cc pc = .ok (.ishr, 1))  (k : jw_J p l e R s m args below meth c D cl A nL (Q) (cells) (slots) (pc + 1) (lv) (.int (x >>> (y &&& 31)) :: rest) (ws)) : jw_J p l e R s m args below meth c D cl A nL (Q) (cells) (slots) (pc) (lv) (.int y :: .int x :: rest) (ws) := fun ls H locs hl hP hD hS => lv_ishr F.1.1 F.1.2.1 d (k ls H locs hl hP hD hS)
theorem jw_ladd (F : jw_F p s m args meth c D cl tys A nL cc own Ts ret) {x y : Int64} (d : decode cc pc = .ok (.ladd, 1))  (k : jw_J p l e R s m args below meth c D cl A nL (Q) (cells) (slots) (pc + 1) (lv) (.long (x + y) :: rest) (ws)) : jw_J p l e R s m args below meth c D cl A nL (Q) (cells) (slots) (pc) (lv) (.long y :: .long x :: rest) (ws) := fun ls H locs hl hP hD hS => lv_ladd F.1.1 F.1.2.1 d (k ls H locs hl hP hD hS)
theorem jw_lsub (F : jw_F p s m args meth c D cl tys A nL cc own Ts ret) {x y : Int64} (d : decode cc pc = .ok (.lsub, 1))  (k : jw_J p l e R s m args below meth c D cl A nL (Q) (cells) (slots) (pc + 1) (lv) (.long (x - y) :: rest) (ws)) : jw_J p l e R s m args below meth c D cl A nL (Q) (cells) (slots) (pc) (lv) (.long y :: .long x :: rest) (ws) := fun ls H locs hl hP hD hS => lv_lsub F.1.1 F.1.2.1 d (k ls H locs hl hP hD hS)
theorem jw_land (F : jw_F p s m args meth c D cl tys A nL cc own Ts ret) {x y : Int64} (d : decode cc pc = .ok (.land, 1))  (k : jw_J p l e R s m args below meth c D cl A nL (Q) (cells) (slots) (pc + 1) (lv) (.long (x &&& y) :: rest) (ws)) : jw_J p l e R s m args below meth c D cl A nL (Q) (cells) (slots) (pc) (lv) (.long y :: .long x :: rest) (ws) := fun ls H locs hl hP hD hS => lv_land F.1.1 F.1.2.1 d (k ls H locs hl hP hD hS)
theorem jw_lor (F : jw_F p s m args meth c D cl tys A nL cc own Ts ret) {x y : Int64} (d : decode cc pc = .ok (.lor, 1))  (k : jw_J p l e R s m args below meth c D cl A nL (Q) (cells) (slots) (pc + 1) (lv) (.long (x ||| y) :: rest) (ws)) : jw_J p l e R s m args below meth c D cl A nL (Q) (cells) (slots) (pc) (lv) (.long y :: .long x :: rest) (ws) := fun ls H locs hl hP hD hS => lv_lor F.1.1 F.1.2.1 d (k ls H locs hl hP hD hS)
theorem jw_i2l (F : jw_F p s m args meth c D cl tys A nL cc own Ts ret) {x : Int32} (d : decode cc pc = .ok (.i2l, 1))  (k : jw_J p l e R s m args below meth c D cl A nL (Q) (cells) (slots) (pc + 1) (lv) (.long x.toInt64 :: rest) (ws)) : jw_J p l e R s m args below meth c D cl A nL (Q) (cells) (slots) (pc) (lv) (.int x :: rest) (ws) := fun ls H locs hl hP hD hS => lv_i2l F.1.1 F.1.2.1 d rfl (k ls H locs hl hP hD hS)
theorem jw_lshl (F : jw_F p s m args meth c D cl tys A nL cc own Ts ret) {x : Int64} {y : Int32} (d : decode cc pc = .ok (.lshl, 1))  (k : jw_J p l e R s m args below meth c D cl A nL (Q) (cells) (slots) (pc + 1) (lv) (.long (x <<< (y.toInt64 &&& 63)) :: rest) (ws)) : jw_J p l e R s m args below meth c D cl A nL (Q) (cells) (slots) (pc) (lv) (.int y :: .long x :: rest) (ws) := fun ls H locs hl hP hD hS => lv_lshl F.1.1 F.1.2.1 d rfl (k ls H locs hl hP hD hS)
theorem jw_lcmp (F : jw_F p s m args meth c D cl tys A nL cc own Ts ret) {x y : Int64} (d : decode cc pc = .ok (.lcmp, 1))  (k : jw_J p l e R s m args below meth c D cl A nL (Q) (cells) (slots) (pc + 1) (lv) (.int (lg_cmp x y) :: rest) (ws)) : jw_J p l e R s m args below meth c D cl A nL (Q) (cells) (slots) (pc) (lv) (.long y :: .long x :: rest) (ws) := fun ls H locs hl hP hD hS => W.lcmp F.1.1 F.1.2.1 d (k ls H locs hl hP hD hS)
theorem jw_dup (F : jw_F p s m args meth c D cl tys A nL cc own Ts ret) {va : Value} (d : decode cc pc = .ok (.dup, 1)) (h1 : va.category = 1) (k : jw_J p l e R s m args below meth c D cl A nL (Q) (cells) (slots) (pc + 1) (lv) (va :: va :: rest) (ws)) : jw_J p l e R s m args below meth c D cl A nL (Q) (cells) (slots) (pc) (lv) (va :: rest) (ws) := fun ls H locs hl hP hD hS => lv_dup F.1.1 F.1.2.1 d h1 (k ls H locs hl hP hD hS)
theorem jw_pop (F : jw_F p s m args meth c D cl tys A nL cc own Ts ret) {va : Value} (d : decode cc pc = .ok (.pop, 1)) (h1 : va.category = 1) (k : jw_J p l e R s m args below meth c D cl A nL (Q) (cells) (slots) (pc + 1) (lv) (rest) (ws)) : jw_J p l e R s m args below meth c D cl A nL (Q) (cells) (slots) (pc) (lv) (va :: rest) (ws) := fun ls H locs hl hP hD hS => lv_pop F.1.1 F.1.2.1 d h1 (k ls H locs hl hP hD hS)
theorem jw_dup_x1 (F : jw_F p s m args meth c D cl tys A nL cc own Ts ret) {va vb : Value} (d : decode cc pc = .ok (.dup_x1, 1)) (h1 : va.category = 1) (h2 : vb.category = 1) (k : jw_J p l e R s m args below meth c D cl A nL (Q) (cells) (slots) (pc + 1) (lv) (va :: vb :: va :: rest) (ws)) : jw_J p l e R s m args below meth c D cl A nL (Q) (cells) (slots) (pc) (lv) (va :: vb :: rest) (ws) := fun ls H locs hl hP hD hS => lv_dup_x1 F.1.1 F.1.2.1 d h1 h2 (k ls H locs hl hP hD hS)
theorem jw_dup2 (F : jw_F p s m args meth c D cl tys A nL cc own Ts ret) {va vb : Value} (d : decode cc pc = .ok (.dup2, 1)) (h1 : va.category = 1) (h2 : vb.category = 1) (k : jw_J p l e R s m args below meth c D cl A nL (Q) (cells) (slots) (pc + 1) (lv) (va :: vb :: va :: vb :: rest) (ws)) : jw_J p l e R s m args below meth c D cl A nL (Q) (cells) (slots) (pc) (lv) (va :: vb :: rest) (ws) := fun ls H locs hl hP hD hS => lv_dup2_11 F.1.1 F.1.2.1 d h1 h2 (k ls H locs hl hP hD hS)
theorem jw_if_eq (F : jw_F p s m args meth c D cl tys A nL cc own Ts ret) {x : Int32} {off : Int} (tgt : Nat) (d : decode cc pc = .ok (.ifCond .eq off, 3)) (ht : (pc : Int) + off = (tgt : Int)) (kt : x = 0 → jw_J p l e R s m args below meth c D cl A nL (Q) (cells) (slots) (tgt) (lv) (rest) (ws)) (kf : ¬ x = 0 → jw_J p l e R s m args below meth c D cl A nL (Q) (cells) (slots) (pc + 3) (lv) (rest) (ws)) : jw_J p l e R s m args below meth c D cl A nL (Q) (cells) (slots) (pc) (lv) (.int x :: rest) (ws) := fun ls H locs hl hP hD hS => lv_if_eq F.1.1 F.1.2.1 d ht (fun h => kt h ls H locs hl hP hD hS) (fun h => kf h ls H locs hl hP hD hS)
theorem jw_icmp_eq (F : jw_F p s m args meth c D cl tys A nL cc own Ts ret) {x y : Int32} {off : Int} (tgt : Nat) (d : decode cc pc = .ok (.if_icmp .eq off, 3)) (ht : (pc : Int) + off = (tgt : Int)) (kt : x = y → jw_J p l e R s m args below meth c D cl A nL (Q) (cells) (slots) (tgt) (lv) (rest) (ws)) (kf : ¬ x = y → jw_J p l e R s m args below meth c D cl A nL (Q) (cells) (slots) (pc + 3) (lv) (rest) (ws)) : jw_J p l e R s m args below meth c D cl A nL (Q) (cells) (slots) (pc) (lv) (.int y :: .int x :: rest) (ws) := fun ls H locs hl hP hD hS => lv_icmp_eq F.1.1 F.1.2.1 d ht (fun h => kt h ls H locs hl hP hD hS) (fun h => kf h ls H locs hl hP hD hS)
theorem jw_if_ne (F : jw_F p s m args meth c D cl tys A nL cc own Ts ret) {x : Int32} {off : Int} (tgt : Nat) (d : decode cc pc = .ok (.ifCond .ne off, 3)) (ht : (pc : Int) + off = (tgt : Int)) (kt : ¬ x = 0 → jw_J p l e R s m args below meth c D cl A nL (Q) (cells) (slots) (tgt) (lv) (rest) (ws)) (kf : x = 0 → jw_J p l e R s m args below meth c D cl A nL (Q) (cells) (slots) (pc + 3) (lv) (rest) (ws)) : jw_J p l e R s m args below meth c D cl A nL (Q) (cells) (slots) (pc) (lv) (.int x :: rest) (ws) := fun ls H locs hl hP hD hS => lv_if_ne F.1.1 F.1.2.1 d ht (fun h => kt h ls H locs hl hP hD hS) (fun h => kf h ls H locs hl hP hD hS)
theorem jw_icmp_ne (F : jw_F p s m args meth c D cl tys A nL cc own Ts ret) {x y : Int32} {off : Int} (tgt : Nat) (d : decode cc pc = .ok (.if_icmp .ne off, 3)) (ht : (pc : Int) + off = (tgt : Int)) (kt : ¬ x = y → jw_J p l e R s m args below meth c D cl A nL (Q) (cells) (slots) (tgt) (lv) (rest) (ws)) (kf : x = y → jw_J p l e R s m args below meth c D cl A nL (Q) (cells) (slots) (pc + 3) (lv) (rest) (ws)) : jw_J p l e R s m args below meth c D cl A nL (Q) (cells) (slots) (pc) (lv) (.int y :: .int x :: rest) (ws) := fun ls H locs hl hP hD hS => lv_icmp_ne F.1.1 F.1.2.1 d ht (fun h => kt h ls H locs hl hP hD hS) (fun h => kf h ls H locs hl hP hD hS)
theorem jw_if_lt (F : jw_F p s m args meth c D cl tys A nL cc own Ts ret) {x : Int32} {off : Int} (tgt : Nat) (d : decode cc pc = .ok (.ifCond .lt off, 3)) (ht : (pc : Int) + off = (tgt : Int)) (kt : x < 0 → jw_J p l e R s m args below meth c D cl A nL (Q) (cells) (slots) (tgt) (lv) (rest) (ws)) (kf : ¬ x < 0 → jw_J p l e R s m args below meth c D cl A nL (Q) (cells) (slots) (pc + 3) (lv) (rest) (ws)) : jw_J p l e R s m args below meth c D cl A nL (Q) (cells) (slots) (pc) (lv) (.int x :: rest) (ws) := fun ls H locs hl hP hD hS => lv_if_lt F.1.1 F.1.2.1 d ht (fun h => kt h ls H locs hl hP hD hS) (fun h => kf h ls H locs hl hP hD hS)
theorem jw_icmp_lt (F : jw_F p s m args meth c D cl tys A nL cc own Ts ret) {x y : Int32} {off : Int} (tgt : Nat) (d : decode cc pc = .ok (.if_icmp .lt off, 3)) (ht : (pc : Int) + off = (tgt : Int)) (kt : x < y → jw_J p l e R s m args below meth c D cl A nL (Q) (cells) (slots) (tgt) (lv) (rest) (ws)) (kf : ¬ x < y → jw_J p l e R s m args below meth c D cl A nL (Q) (cells) (slots) (pc + 3) (lv) (rest) (ws)) : jw_J p l e R s m args below meth c D cl A nL (Q) (cells) (slots) (pc) (lv) (.int y :: .int x :: rest) (ws) := fun ls H locs hl hP hD hS => lv_icmp_lt F.1.1 F.1.2.1 d ht (fun h => kt h ls H locs hl hP hD hS) (fun h => kf h ls H locs hl hP hD hS)
theorem jw_if_ge (F : jw_F p s m args meth c D cl tys A nL cc own Ts ret) {x : Int32} {off : Int} (tgt : Nat) (d : decode cc pc = .ok (.ifCond .ge off, 3)) (ht : (pc : Int) + off = (tgt : Int)) (kt : 0 ≤ x → jw_J p l e R s m args below meth c D cl A nL (Q) (cells) (slots) (tgt) (lv) (rest) (ws)) (kf : ¬ 0 ≤ x → jw_J p l e R s m args below meth c D cl A nL (Q) (cells) (slots) (pc + 3) (lv) (rest) (ws)) : jw_J p l e R s m args below meth c D cl A nL (Q) (cells) (slots) (pc) (lv) (.int x :: rest) (ws) := fun ls H locs hl hP hD hS => lv_if_ge F.1.1 F.1.2.1 d ht (fun h => kt h ls H locs hl hP hD hS) (fun h => kf h ls H locs hl hP hD hS)
theorem jw_icmp_ge (F : jw_F p s m args meth c D cl tys A nL cc own Ts ret) {x y : Int32} {off : Int} (tgt : Nat) (d : decode cc pc = .ok (.if_icmp .ge off, 3)) (ht : (pc : Int) + off = (tgt : Int)) (kt : y ≤ x → jw_J p l e R s m args below meth c D cl A nL (Q) (cells) (slots) (tgt) (lv) (rest) (ws)) (kf : ¬ y ≤ x → jw_J p l e R s m args below meth c D cl A nL (Q) (cells) (slots) (pc + 3) (lv) (rest) (ws)) : jw_J p l e R s m args below meth c D cl A nL (Q) (cells) (slots) (pc) (lv) (.int y :: .int x :: rest) (ws) := fun ls H locs hl hP hD hS => lv_icmp_ge F.1.1 F.1.2.1 d ht (fun h => kt h ls H locs hl hP hD hS) (fun h => kf h ls H locs hl hP hD hS)
theorem jw_if_gt (F : jw_F p s m args meth c D cl tys A nL cc own Ts ret) {x : Int32} {off : Int} (tgt : Nat) (d : decode cc pc = .ok (.ifCond .gt off, 3)) (ht : (pc : Int) + off = (tgt : Int)) (kt : 0 < x → jw_J p l e R s m args below meth c D cl A nL (Q) (cells) (slots) (tgt) (lv) (rest) (ws)) (kf : ¬ 0 < x → jw_J p l e R s m args below meth c D cl A nL (Q) (cells) (slots) (pc + 3) (lv) (rest) (ws)) : jw_J p l e R s m args below meth c D cl A nL (Q) (cells) (slots) (pc) (lv) (.int x :: rest) (ws) := fun ls H locs hl hP hD hS => lv_if_gt F.1.1 F.1.2.1 d ht (fun h => kt h ls H locs hl hP hD hS) (fun h => kf h ls H locs hl hP hD hS)
theorem jw_icmp_gt (F : jw_F p s m args meth c D cl tys A nL cc own Ts ret) {x y : Int32} {off : Int} (tgt : Nat) (d : decode cc pc = .ok (.if_icmp .gt off, 3)) (ht : (pc : Int) + off = (tgt : Int)) (kt : y < x → jw_J p l e R s m args below meth c D cl A nL (Q) (cells) (slots) (tgt) (lv) (rest) (ws)) (kf : ¬ y < x → jw_J p l e R s m args below meth c D cl A nL (Q) (cells) (slots) (pc + 3) (lv) (rest) (ws)) : jw_J p l e R s m args below meth c D cl A nL (Q) (cells) (slots) (pc) (lv) (.int y :: .int x :: rest) (ws) := fun ls H locs hl hP hD hS => lv_icmp_gt F.1.1 F.1.2.1 d ht (fun h => kt h ls H locs hl hP hD hS) (fun h => kf h ls H locs hl hP hD hS)
theorem jw_if_le (F : jw_F p s m args meth c D cl tys A nL cc own Ts ret) {x : Int32} {off : Int} (tgt : Nat) (d : decode cc pc = .ok (.ifCond .le off, 3)) (ht : (pc : Int) + off = (tgt : Int)) (kt : x ≤ 0 → jw_J p l e R s m args below meth c D cl A nL (Q) (cells) (slots) (tgt) (lv) (rest) (ws)) (kf : ¬ x ≤ 0 → jw_J p l e R s m args below meth c D cl A nL (Q) (cells) (slots) (pc + 3) (lv) (rest) (ws)) : jw_J p l e R s m args below meth c D cl A nL (Q) (cells) (slots) (pc) (lv) (.int x :: rest) (ws) := fun ls H locs hl hP hD hS => lv_if_le F.1.1 F.1.2.1 d ht (fun h => kt h ls H locs hl hP hD hS) (fun h => kf h ls H locs hl hP hD hS)
theorem jw_icmp_le (F : jw_F p s m args meth c D cl tys A nL cc own Ts ret) {x y : Int32} {off : Int} (tgt : Nat) (d : decode cc pc = .ok (.if_icmp .le off, 3)) (ht : (pc : Int) + off = (tgt : Int)) (kt : x ≤ y → jw_J p l e R s m args below meth c D cl A nL (Q) (cells) (slots) (tgt) (lv) (rest) (ws)) (kf : ¬ x ≤ y → jw_J p l e R s m args below meth c D cl A nL (Q) (cells) (slots) (pc + 3) (lv) (rest) (ws)) : jw_J p l e R s m args below meth c D cl A nL (Q) (cells) (slots) (pc) (lv) (.int y :: .int x :: rest) (ws) := fun ls H locs hl hP hD hS => lv_icmp_le F.1.1 F.1.2.1 d ht (fun h => kt h ls H locs hl hP hD hS) (fun h => kf h ls H locs hl hP hD hS)
theorem jw_goto (F : jw_F p s m args meth c D cl tys A nL cc own Ts ret) {off : Int} (tgt : Nat) (d : decode cc pc = .ok (.goto off, 3)) (ht : (pc : Int) + off = (tgt : Int)) (k : jw_J p l e R s m args below meth c D cl A nL (Q) (cells) (slots) (tgt) (lv) (rest) (ws)) : jw_J p l e R s m args below meth c D cl A nL (Q) (cells) (slots) (pc) (lv) (rest) (ws) := fun ls H locs hl hP hD hS => lv_goto F.1.1 F.1.2.1 d ht (k ls H locs hl hP hD hS)
theorem jw_tableIn (F : jw_F p s m args meth c D cl tys A nL cc own Ts ret) {dflt lo hi : Int} {offs : Array Int} {len : Nat} {x : Int32} {off : Int} (tgt : Nat) (d : decode cc pc = .ok (.tableswitch dflt lo hi offs, len)) (h1 : ¬ x.toInt < lo) (h2 : ¬ hi < x.toInt) (ho : offs[(x.toInt - lo).toNat]? = some off) (ht : (pc : Int) + off = (tgt : Int)) (k : jw_J p l e R s m args below meth c D cl A nL (Q) (cells) (slots) (tgt) (lv) (rest) (ws)) : jw_J p l e R s m args below meth c D cl A nL (Q) (cells) (slots) (pc) (lv) (.int x :: rest) (ws) := fun ls H locs hl hP hD hS => lv_tableIn F.1.1 F.1.2.1 d h1 h2 ho ht (k ls H locs hl hP hD hS)
theorem jw_tableOut (F : jw_F p s m args meth c D cl tys A nL cc own Ts ret) {dflt lo hi : Int} {offs : Array Int} {len : Nat} {x : Int32} (tgt : Nat) (d : decode cc pc = .ok (.tableswitch dflt lo hi offs, len)) (h : x.toInt < lo ∨ hi < x.toInt) (ht : (pc : Int) + dflt = (tgt : Int)) (k : jw_J p l e R s m args below meth c D cl A nL (Q) (cells) (slots) (tgt) (lv) (rest) (ws)) : jw_J p l e R s m args below meth c D cl A nL (Q) (cells) (slots) (pc) (lv) (.int x :: rest) (ws) := fun ls H locs hl hP hD hS => lv_tableOut F.1.1 F.1.2.1 d h ht (k ls H locs hl hP hD hS)
theorem jw_top {x : Int32} (k : ∀ y : Int32, y = x → jw_J p l e R s m args below meth c D cl A nL (Q) (cells) (slots) (pc) (lv) (.int y :: rest) (ws)) : jw_J p l e R s m args below meth c D cl A nL (Q) (cells) (slots) (pc) (lv) (.int x :: rest) (ws) := k x rfl
theorem jw_topl {x : Int64} (k : ∀ y : Int64, y = x → jw_J p l e R s m args below meth c D cl A nL (Q) (cells) (slots) (pc) (lv) (.long y :: rest) (ws)) : jw_J p l e R s m args below meth c D cl A nL (Q) (cells) (slots) (pc) (lv) (.long x :: rest) (ws) := k x rfl
theorem jw_at {st st' : List Value} (h1 : lv = lv') (h2 : st = st') (h3 : ws = ws') (k : jw_J p l e R s m args below meth c D cl A nL (Q) (cells) (slots) (pc) (lv') (st') (ws')) : jw_J p l e R s m args below meth c D cl A nL (Q) (cells) (slots) (pc) (lv) (st) (ws) := by subst h1; subst h2; subst h3; exact k
theorem jw_loc {st : List Value} (ks : List Nat) (h : lv_pick lv ks = lv') (k : jw_J p l e R s m args below meth c D cl A nL (Q) (cells) (slots) (pc) (lv') (st) (ws)) : jw_J p l e R s m args below meth c D cl A nL (Q) (cells) (slots) (pc) (lv) (st) (ws) := fun ls H locs hl hP hD hS => k ls H locs (lv_sub hl ks h) hP hD hS
theorem jw_widen {st : List Value} {k n : Nat} (h1 : cells ≤ k) (h2 : slots ≤ n) (kk : jw_J p l e R s m args below meth c D cl A nL (Q) (k) (n) (pc) (lv) (st) (ws)) : jw_J p l e R s m args below meth c D cl A nL (Q) (cells) (slots) (pc) (lv) (st) (ws) := fun ls H locs hl hP hD hS => W.widen h1 h2 (kk ls H locs hl hP hD hS)
theorem jw_get (F : jw_F p s m args meth c D cl tys A nL cc own Ts ret) {C : String} {T : u_T} {N ci index a : Nat} (hin : ∀ w ∈ u_ws C T N, w ∈ Ts) (q0 : Nat) {fs : List Value} (he : ws[q0]? = some (a, .inr (ci, fs))) (hc : cl[ci]? = some (C, T, N)) (k : Nat) (hk : k < N) (hw : Cond.fieldLink own index (T k).1 (T k).2.1 (T k).2.2.1 ∈ Ts) {v : Value} (hv : fs[k]? = some v) (d : decode cc pc = .ok (.getfield index, 3)) (kk : jw_J p l e R s m args below meth c D cl A nL (Q) (cells) (slots) (pc + 3) (lv) (v :: rest) (ws)) : jw_J p l e R s m args below meth c D cl A nL (Q) (cells) (slots) (pc) (lv) (.ref a :: rest) (ws) := fun ls H locs hl hP hD hS => va_get F.1.1 F.1.2.1 F.1.2.2.2.2 hin F.1.2.2.2.1 F.2.1 hP q0 he hc k hk (F.1.2.2.2.2 _ hw) (fun _ h9 => h9) hv d (kk ls H locs hl hP hD hS)
theorem jw_put (F : jw_F p s m args meth c D cl tys A nL cc own Ts ret) {C : String} {T : u_T} {N ci index a : Nat} (hin : ∀ w ∈ u_ws C T N, w ∈ Ts) (ty0 : Nat → FieldType) (hty : ∀ k, k < N → parseFieldDescriptor (T k).2.2.1 = some (ty0 k)) (hnm : ∀ a, a < N → ∀ b, b < N → a ≠ b → (T a).2.1 ≠ (T b).2.1) (q0 : Nat) {fs : List Value} (he : ws[q0]? = some (a, .inr (ci, fs))) (hc : cl[ci]? = some (C, T, N)) (k : Nat) (hk : k < N) (hw : Cond.fieldLink own index (T k).1 (T k).2.1 (T k).2.2.1 ∈ Ts) (hfin : (T k).2.2.2 = false)  {ty : FieldType} {v : Value} (hd : parseFieldDescriptor (T k).2.2.1 = some ty) (hn : narrow ty v = v) (hfit : fits ty v = true) (hlen : k < fs.length) (d : decode cc pc = .ok (.putfield index, 3)) (hs : ws.set q0 (a, .inr (ci, fs.set k v)) = ws') (kk : jw_J p l e R s m args below meth c D cl A nL (Q) (cells) (slots) (pc + 3) (lv) (rest) (ws')) : jw_J p l e R s m args below meth c D cl A nL (Q) (cells) (slots) (pc) (lv) (v :: .ref a :: rest) (ws) := fun ls H locs hl hP hD hS => va_put F.1.1 F.1.2.1 F.1.2.2.2.2 hin ty0 hty hnm F.1.2.2.2.1 F.2.1 hP hD hS q0 he hc k hk (F.1.2.2.2.2 _ hw) (fun _ h9 => h9) hfin  hd hn hfit hlen d (fun H1 locs1 hP1 hD1 hS1 => by rw [hs] at hP1 hD1; exact kk ls H1 locs1 hl hP1 hD1 hS1)
theorem jw_putF (F : jw_F p s m args meth c D cl tys A nL cc own Ts ret) {C : String} {T : u_T} {N ci index a : Nat} (hin : ∀ w ∈ u_ws C T N, w ∈ Ts) (ty0 : Nat → FieldType) (hty : ∀ k, k < N → parseFieldDescriptor (T k).2.2.1 = some (ty0 k)) (hnm : ∀ a, a < N → ∀ b, b < N → a ≠ b → (T a).2.1 ≠ (T b).2.1) (q0 : Nat) {fs : List Value} (he : ws[q0]? = some (a, .inr (ci, fs))) (hc : cl[ci]? = some (C, T, N)) (k : Nat) (hk : k < N) (hw : Cond.fieldLink own index (T k).1 (T k).2.1 (T k).2.2.1 ∈ Ts) (hfin : (T k).2.2.2 = true) (hin2 : meth.name = "<init>") (hdecl : (T k).1 = own) {ty : FieldType} {v : Value} (hd : parseFieldDescriptor (T k).2.2.1 = some ty) (hn : narrow ty v = v) (hfit : fits ty v = true) (hlen : k < fs.length) (d : decode cc pc = .ok (.putfield index, 3)) (hs : ws.set q0 (a, .inr (ci, fs.set k v)) = ws') (kk : jw_J p l e R s m args below meth c D cl A nL (Q) (cells) (slots) (pc + 3) (lv) (rest) (ws')) : jw_J p l e R s m args below meth c D cl A nL (Q) (cells) (slots) (pc) (lv) (v :: .ref a :: rest) (ws) := fun ls H locs hl hP hD hS => va_putF F.1.1 F.1.2.1 F.1.2.2.2.2 hin ty0 hty hnm F.1.2.2.2.1 F.2.1 hP hD hS q0 he hc k hk (F.1.2.2.2.2 _ hw) (fun _ h9 => h9) hfin hin2 hdecl hd hn hfit hlen d (fun H1 locs1 hP1 hD1 hS1 => by rw [hs] at hP1 hD1; exact kk ls H1 locs1 hl hP1 hD1 hS1)
theorem jw_iald (F : jw_F p s m args meth c D cl tys A nL cc own Ts ret) {a : Nat} (q0 t0 : Nat) {cA : ClassId} {n : Nat} {f : Nat → Int32} (ha : ws[q0]? = some (a, .inl (cA, n, .inl f))) (ht : tys[t0]? = some (cA, .int)) {i : Int32} (hin : vp_in i n) (d : decode cc pc = .ok (.iaload, 1)) (k : jw_J p l e R s m args below meth c D cl A nL (Q) (cells) (slots) (pc + 1) (lv) (.int (f i.toNatClampNeg) :: rest) (ws)) : jw_J p l e R s m args below meth c D cl A nL (Q) (cells) (slots) (pc) (lv) (.int i :: .ref a :: rest) (ws) := fun ls H locs hl hP hD hS => va_iald F.1.1 F.1.2.1 F.2.1 hP q0 t0 ha ht hin d (k ls H locs hl hP hD hS)
theorem jw_iast (F : jw_F p s m args meth c D cl tys A nL cc own Ts ret) {a : Nat} (q0 t0 : Nat) {cA : ClassId} {n : Nat} {f : Nat → Int32} (ha : ws[q0]? = some (a, .inl (cA, n, .inl f))) (ht : tys[t0]? = some (cA, .int)) {i : Int32} {x : Int32} (hin : vp_in i n) (d : decode cc pc = .ok (.iastore, 1)) (hs : ws.set q0 (a, .inl (cA, n, .inl (upd f i.toNatClampNeg x))) = ws') (k : jw_J p l e R s m args below meth c D cl A nL (Q) (cells) (slots) (pc + 1) (lv) (rest) (ws')) : jw_J p l e R s m args below meth c D cl A nL (Q) (cells) (slots) (pc) (lv) (.int x :: .int i :: .ref a :: rest) (ws) := fun ls H locs hl hP hD hS => va_iast F.1.1 F.1.2.1 F.2.1 hP hD hS q0 t0 ha ht hin d (fun H1 locs1 hP1 hD1 hS1 => by rw [hs] at hP1 hD1; exact k ls H1 locs1 hl hP1 hD1 hS1)
theorem jw_zald (F : jw_F p s m args meth c D cl tys A nL cc own Ts ret) {a : Nat} (q0 t0 : Nat) {cA : ClassId} {n : Nat} {f : Nat → Int32} (ha : ws[q0]? = some (a, .inl (cA, n, .inl f))) (ht : tys[t0]? = some (cA, .boolean)) {i : Int32} (hin : vp_in i n) (d : decode cc pc = .ok (.baload, 1)) (k : jw_J p l e R s m args below meth c D cl A nL (Q) (cells) (slots) (pc + 1) (lv) (.int (f i.toNatClampNeg) :: rest) (ws)) : jw_J p l e R s m args below meth c D cl A nL (Q) (cells) (slots) (pc) (lv) (.int i :: .ref a :: rest) (ws) := fun ls H locs hl hP hD hS => va_zald F.1.1 F.1.2.1 F.2.1 hP q0 t0 ha ht hin d (k ls H locs hl hP hD hS)
theorem jw_zast (F : jw_F p s m args meth c D cl tys A nL cc own Ts ret) {a : Nat} (q0 t0 : Nat) {cA : ClassId} {n : Nat} {f : Nat → Int32} (ha : ws[q0]? = some (a, .inl (cA, n, .inl f))) (ht : tys[t0]? = some (cA, .boolean)) {i : Int32} {x : Int32} (hin : vp_in i n) (d : decode cc pc = .ok (.bastore, 1)) (hs : ws.set q0 (a, .inl (cA, n, .inl (upd f i.toNatClampNeg (vp_nar .boolean x)))) = ws') (k : jw_J p l e R s m args below meth c D cl A nL (Q) (cells) (slots) (pc + 1) (lv) (rest) (ws')) : jw_J p l e R s m args below meth c D cl A nL (Q) (cells) (slots) (pc) (lv) (.int x :: .int i :: .ref a :: rest) (ws) := fun ls H locs hl hP hD hS => va_zast F.1.1 F.1.2.1 F.2.1 hP hD hS q0 t0 ha ht hin d (fun H1 locs1 hP1 hD1 hS1 => by rw [hs] at hP1 hD1; exact k ls H1 locs1 hl hP1 hD1 hS1)
theorem jw_lald (F : jw_F p s m args meth c D cl tys A nL cc own Ts ret) {a : Nat} (q0 t0 : Nat) {cA : ClassId} {n : Nat} {f : Nat → Int64} (ha : ws[q0]? = some (a, .inl (cA, n, .inr (.inl f)))) (ht : tys[t0]? = some (cA, .long)) {i : Int32} (hin : vp_in i n) (d : decode cc pc = .ok (.laload, 1)) (k : jw_J p l e R s m args below meth c D cl A nL (Q) (cells) (slots) (pc + 1) (lv) (.long (f i.toNatClampNeg) :: rest) (ws)) : jw_J p l e R s m args below meth c D cl A nL (Q) (cells) (slots) (pc) (lv) (.int i :: .ref a :: rest) (ws) := fun ls H locs hl hP hD hS => va_lald F.1.1 F.1.2.1 F.2.1 hP q0 t0 ha ht hin d (k ls H locs hl hP hD hS)
theorem jw_last (F : jw_F p s m args meth c D cl tys A nL cc own Ts ret) {a : Nat} (q0 t0 : Nat) {cA : ClassId} {n : Nat} {f : Nat → Int64} (ha : ws[q0]? = some (a, .inl (cA, n, .inr (.inl f)))) (ht : tys[t0]? = some (cA, .long)) {i : Int32} {x : Int64} (hin : vp_in i n) (d : decode cc pc = .ok (.lastore, 1)) (hs : ws.set q0 (a, .inl (cA, n, .inr (.inl (vp_updL f i.toNatClampNeg x)))) = ws') (k : jw_J p l e R s m args below meth c D cl A nL (Q) (cells) (slots) (pc + 1) (lv) (rest) (ws')) : jw_J p l e R s m args below meth c D cl A nL (Q) (cells) (slots) (pc) (lv) (.long x :: .int i :: .ref a :: rest) (ws) := fun ls H locs hl hP hD hS => va_last F.1.1 F.1.2.1 F.2.1 hP hD hS q0 t0 ha ht hin d (fun H1 locs1 hP1 hD1 hS1 => by rw [hs] at hP1 hD1; exact k ls H1 locs1 hl hP1 hD1 hS1)
theorem jw_ialdN (F : jw_F p s m args meth c D cl tys A nL cc own Ts ret) {a : Nat} (q0 t0 : Nat) {cA : ClassId} {n : Nat} {f : Nat → Int32} (ha : ws[q0]? = some (a, .inl (cA, n, .inl f))) (ht : tys[t0]? = some (cA, .int)) {i : Int32} (j : Nat) (hj : i = nI j) (hlt : j < n) (hn : n < 2147483648) (d : decode cc pc = .ok (.iaload, 1)) (k : jw_J p l e R s m args below meth c D cl A nL (Q) (cells) (slots) (pc + 1) (lv) (.int (f j) :: rest) (ws)) : jw_J p l e R s m args below meth c D cl A nL (Q) (cells) (slots) (pc) (lv) (.int i :: .ref a :: rest) (ws) := by
  subst hj
  refine jw_iald F q0 t0 ha ht (vp_in_nI hlt hn) d ?_
  rw [nI_clamp (Nat.lt_trans hlt hn)]
  exact k
theorem jw_iastN (F : jw_F p s m args meth c D cl tys A nL cc own Ts ret) {a : Nat} (q0 t0 : Nat) {cA : ClassId} {n : Nat} {f : Nat → Int32} (ha : ws[q0]? = some (a, .inl (cA, n, .inl f))) (ht : tys[t0]? = some (cA, .int)) {i : Int32} {x : Int32} (j : Nat) (hj : i = nI j) (hlt : j < n) (hn : n < 2147483648) (d : decode cc pc = .ok (.iastore, 1)) (hs : ws.set q0 (a, .inl (cA, n, .inl (upd f j x))) = ws') (k : jw_J p l e R s m args below meth c D cl A nL (Q) (cells) (slots) (pc + 1) (lv) (rest) (ws')) : jw_J p l e R s m args below meth c D cl A nL (Q) (cells) (slots) (pc) (lv) (.int x :: .int i :: .ref a :: rest) (ws) := by
  subst hj
  refine jw_iast F q0 t0 ha ht (vp_in_nI hlt hn) d ?_ k
  rw [nI_clamp (Nat.lt_trans hlt hn)]
  exact hs
theorem jw_zaldN (F : jw_F p s m args meth c D cl tys A nL cc own Ts ret) {a : Nat} (q0 t0 : Nat) {cA : ClassId} {n : Nat} {f : Nat → Int32} (ha : ws[q0]? = some (a, .inl (cA, n, .inl f))) (ht : tys[t0]? = some (cA, .boolean)) {i : Int32} (j : Nat) (hj : i = nI j) (hlt : j < n) (hn : n < 2147483648) (d : decode cc pc = .ok (.baload, 1)) (k : jw_J p l e R s m args below meth c D cl A nL (Q) (cells) (slots) (pc + 1) (lv) (.int (f j) :: rest) (ws)) : jw_J p l e R s m args below meth c D cl A nL (Q) (cells) (slots) (pc) (lv) (.int i :: .ref a :: rest) (ws) := by
  subst hj
  refine jw_zald F q0 t0 ha ht (vp_in_nI hlt hn) d ?_
  rw [nI_clamp (Nat.lt_trans hlt hn)]
  exact k
theorem jw_zastN (F : jw_F p s m args meth c D cl tys A nL cc own Ts ret) {a : Nat} (q0 t0 : Nat) {cA : ClassId} {n : Nat} {f : Nat → Int32} (ha : ws[q0]? = some (a, .inl (cA, n, .inl f))) (ht : tys[t0]? = some (cA, .boolean)) {i : Int32} {x : Int32} (j : Nat) (hj : i = nI j) (hlt : j < n) (hn : n < 2147483648) (d : decode cc pc = .ok (.bastore, 1)) (hs : ws.set q0 (a, .inl (cA, n, .inl (upd f j (vp_nar .boolean x)))) = ws') (k : jw_J p l e R s m args below meth c D cl A nL (Q) (cells) (slots) (pc + 1) (lv) (rest) (ws')) : jw_J p l e R s m args below meth c D cl A nL (Q) (cells) (slots) (pc) (lv) (.int x :: .int i :: .ref a :: rest) (ws) := by
  subst hj
  refine jw_zast F q0 t0 ha ht (vp_in_nI hlt hn) d ?_ k
  rw [nI_clamp (Nat.lt_trans hlt hn)]
  exact hs
theorem jw_laldN (F : jw_F p s m args meth c D cl tys A nL cc own Ts ret) {a : Nat} (q0 t0 : Nat) {cA : ClassId} {n : Nat} {f : Nat → Int64} (ha : ws[q0]? = some (a, .inl (cA, n, .inr (.inl f)))) (ht : tys[t0]? = some (cA, .long)) {i : Int32} (j : Nat) (hj : i = nI j) (hlt : j < n) (hn : n < 2147483648) (d : decode cc pc = .ok (.laload, 1)) (k : jw_J p l e R s m args below meth c D cl A nL (Q) (cells) (slots) (pc + 1) (lv) (.long (f j) :: rest) (ws)) : jw_J p l e R s m args below meth c D cl A nL (Q) (cells) (slots) (pc) (lv) (.int i :: .ref a :: rest) (ws) := by
  subst hj
  refine jw_lald F q0 t0 ha ht (vp_in_nI hlt hn) d ?_
  rw [nI_clamp (Nat.lt_trans hlt hn)]
  exact k
theorem jw_lastN (F : jw_F p s m args meth c D cl tys A nL cc own Ts ret) {a : Nat} (q0 t0 : Nat) {cA : ClassId} {n : Nat} {f : Nat → Int64} (ha : ws[q0]? = some (a, .inl (cA, n, .inr (.inl f)))) (ht : tys[t0]? = some (cA, .long)) {i : Int32} {x : Int64} (j : Nat) (hj : i = nI j) (hlt : j < n) (hn : n < 2147483648) (d : decode cc pc = .ok (.lastore, 1)) (hs : ws.set q0 (a, .inl (cA, n, .inr (.inl (vp_updL f j x)))) = ws') (k : jw_J p l e R s m args below meth c D cl A nL (Q) (cells) (slots) (pc + 1) (lv) (rest) (ws')) : jw_J p l e R s m args below meth c D cl A nL (Q) (cells) (slots) (pc) (lv) (.long x :: .int i :: .ref a :: rest) (ws) := by
  subst hj
  refine jw_last F q0 t0 ha ht (vp_in_nI hlt hn) d ?_ k
  rw [nI_clamp (Nat.lt_trans hlt hn)]
  exact hs
theorem jw_new (F : jw_F p s m args meth c D cl tys A nL cc own Ts ret) {C : String} {T : u_T} {N ci index : Nat} (hin : ∀ w ∈ u_ws C T N, w ∈ Ts) (ty : Nat → FieldType) (hty : ∀ k, k < N → parseFieldDescriptor (T k).2.2.1 = some (ty k)) (h1 : Cond.classLink own index C ∈ Ts) (h2 : Cond.instantiable C N ∈ Ts) (h3 : Cond.initialized C ∈ Ts) (hc : cl[ci]? = some (C, T, N)) {fs : List Value} (hfs : ∀ j, j < N → defaultValue (ty j) = vp_V fs j) (hcells : cells + 1 ≤ R.cells) (hslots : slots + N ≤ R.slots) (d : decode cc pc = .ok (.new index, 3)) (kk : ∀ q : Nat, jw_J p l e R s m args below meth c D cl A nL (Q) (cells + 1) (slots + N) (pc + 3) (lv) (.ref q :: rest) (ws ++ [(q, .inr (ci, fs))])) : jw_J p l e R s m args below meth c D cl A nL (Q) (cells) (slots) (pc) (lv) (rest) (ws) := fun ls H locs hl hP hD hS => va_new F.1.1 F.1.2.1 F.1.2.2.2.2 hin ty hty F.1.2.2.2.1 (F.1.2.2.2.2 _ h1) (F.1.2.2.2.2 _ h2) (F.1.2.2.2.2 _ h3) F.2.1 hP hD hS F.2.2.1 hc hfs hcells hslots d (fun q H1 hP1 hD1 hS1 => kk q ls H1 locs hl hP1 hD1 hS1)
theorem jw_RA {U : State} {c1 c2 : ClassId} {ty : FieldType} (hty : ∀ C, ty ≠ .object C) (h1 : va_RA U c1 ty) (h2 : va_RA U c2 ty) : c1 = c2 := by
  cases ty with
  | object C => exact absurd rfl (hty C)
  | _ => exact Option.some.inj (Eq.trans (Eq.symm h1) h2)
theorem jw_newa (F : jw_F p s m args meth c D cl tys A nL cc own Ts ret) {atype : ArrayType} (t0 : Nat) {cA : ClassId} {ty : FieldType} (ht : tys[t0]? = some (cA, ty)) (hno : ∀ C, ty ≠ .object C) (harr : Cond.arrayClass (newarray.typeOf atype) ∈ Ts) (hty : newarray.typeOf atype = ty) {n : Int32} {N' : Nat} {a0 : vp_A} (ha : ∀ cA : ClassId, vp_cell cA a0 = arrV cA N' (fun _ => defaultValue ty)) (hn : ¬ n < 0) (hN : n.toNatClampNeg = N') (hbytes : N' * componentBytes ty ≤ 536870912) (hcells : cells + 1 ≤ R.cells) (hslots : slots + N' ≤ R.slots) (d : decode cc pc = .ok (.newarray atype, 2)) (kk : ∀ q : Nat, jw_J p l e R s m args below meth c D cl A nL (Q) (cells + 1) (slots + N') (pc + 2) (lv) (.ref q :: rest) (ws ++ [(q, .inl (cA, a0))])) : jw_J p l e R s m args below meth c D cl A nL (Q) (cells) (slots) (pc) (lv) (.int n :: rest) (ws) := by
  intro ls H locs hl hP hD hS
  refine va_newa F.1.1 F.1.2.1 (F.1.2.2.2.2 _ harr) hty F.2.1 hP hD hS F.2.2.1 ha hn hN hbytes hcells hslots d (fun q cA' H1 hK1 hP1 hD1 hS1 => ?_)
  have e1 : cA' = cA := jw_RA hno (hK1.2 tys.length (cA', ty) (by simp)).2 (F.2.1.2 t0 _ ht).2
  subst e1
  exact kk q ls H1 locs hl hP1 hD1 hS1
theorem jw_objInit (F : jw_F p s m args meth c D cl tys A nL cc own Ts ret) {a idx : Nat} (h1 : Cond.methodLink own idx Lib.objectInit ∈ Ts) (h2 : Cond.instanceMethod Lib.objectInit ∈ Ts) (h3 : Cond.code Lib.objectInit ⟨#[0xb1]⟩ 1 none ∈ Ts) (d : decode cc pc = .ok (.invokespecial idx, 3)) (hfr : 1 ≤ R.frames) (hlo : (rest.map fun v => v.category).sum + 12 ≤ R.locals) (k : jw_J p l e R s m args below meth c D cl A nL (Q) (cells) (slots) (pc + 3) (lv) (rest) (ws)) : jw_J p l e R s m args below meth c D cl A nL (Q) (cells) (slots) (pc) (lv) (.ref a :: rest) (ws) := fun ls H locs hl hP hD hS => W.objInit F.1.1 F.1.2.1 F.1.2.2.2.1 (F.1.2.2.2.2 _ h1) (F.1.2.2.2.2 _ h2) (F.1.2.2.2.2 _ h3) rfl (by rw [F.1.2.2.1]; exact hl.1) rfl d hfr (by show 2 * 0 + _ + 12 ≤ _; omega) (k ls H locs hl hP hD hS)
theorem jw_mmax (F : jw_F p s m args meth c D cl tys A nL cc own Ts ret) {x y : Int32} {index : Nat} (h1 : Cond.methodLink own index Lib.Math.max.name ∈ Ts) (h2 : Cond.static Lib.Math.max.name ∈ Ts) (h3 : Cond.initialized "java/lang/Math" ∈ Ts) (h4 : Cond.code Lib.Math.max.name Lib.Math.max.code 2 (some .int) ∈ Ts) (hfr : 1 ≤ R.frames) (hlo : (rest.map fun v => v.category).sum + 13 ≤ R.locals) (hc : cells ≤ R.cells) (hs : slots ≤ R.slots) (d : decode cc pc = .ok (.invokestatic index, 3)) (k : jw_J p l e R s m args below meth c D cl A nL (Q) (cells) (slots) (pc + 3) (lv) (.int (if x < y then y else x) :: rest) (ws)) : jw_J p l e R s m args below meth c D cl A nL (Q) (cells) (slots) (pc) (lv) (.int y :: .int x :: rest) (ws) := fun ls H locs hl hP hD hS => va_mmax F.1.1 F.1.2.1 (by rw [F.1.2.2.1]; exact hl.1.symm) F.1.2.2.2.1 (F.1.2.2.2.2 _ h1) (F.1.2.2.2.2 _ h2) (F.1.2.2.2.2 _ h3) (F.1.2.2.2.2 _ h4) hfr hlo hc hs d (k ls H locs hl hP hD hS)
theorem jw_iret (F : jw_F p s m args meth c D cl tys A nL cc own Ts (some .int)) {post : Int32 → va_W → Prop} {r : Int32} (d : decode cc pc = .ok (.ireturn, 1)) (hp : post r ws) : jw_J p l e R s m args below meth c D cl A nL (MQ below (va_Qi post (jw_B D cl tys A) A) args s cells slots A) (cells) (slots) (pc) (lv) ([.int r]) (ws) := fun ls H locs hl hP hD hS => W.iret F.1.1 F.1.2.1 F.2.2.2.2 (fun t ht hW => ⟨⟨r, ws, rfl, hp, by rw [ht]; exact hP, va_K.moved hW.alike F.2.1, hD⟩, hS.F ht⟩) hS.2.2 d F.2.2.2.1
theorem jw_lret (F : jw_F p s m args meth c D cl tys A nL cc own Ts (some .long)) {post : Int64 → va_W → Prop} {r : Int64} (d : decode cc pc = .ok (.lreturn, 1)) (hp : post r ws) : jw_J p l e R s m args below meth c D cl A nL (MQ below (va_Ql post (jw_B D cl tys A) A) args s cells slots A) (cells) (slots) (pc) (lv) ([.long r]) (ws) := fun ls H locs hl hP hD hS => W.lret F.1.1 F.1.2.1 F.2.2.2.2 (fun t ht hW => ⟨⟨r, ws, rfl, hp, by rw [ht]; exact hP, va_K.moved hW.alike F.2.1, hD⟩, hS.F ht⟩) hS.2.2 d F.2.2.2.1
theorem jw_zret (F : jw_F p s m args meth c D cl tys A nL cc own Ts (some .boolean)) {post : Int32 → va_W → Prop} {r : Int32} (d : decode cc pc = .ok (.ireturn, 1)) (hn : narrow .boolean (.int r) = .int r) (hp : post r ws) : jw_J p l e R s m args below meth c D cl A nL (MQ below (va_Qi post (jw_B D cl tys A) A) args s cells slots A) (cells) (slots) (pc) (lv) ([.int r]) (ws) := fun ls H locs hl hP hD hS => W.zret F.1.1 F.1.2.1 F.2.2.2.2 hn (fun t ht hW => ⟨⟨r, ws, rfl, hp, by rw [ht]; exact hP, va_K.moved hW.alike F.2.1, hD⟩, hS.F ht⟩) hS.2.2 d F.2.2.2.1
theorem jw_vret (F : jw_F p s m args meth c D cl tys A nL cc own Ts none) {post : va_W → Prop} (d : decode cc pc = .ok (.return_, 1)) (hp : post ws) : jw_J p l e R s m args below meth c D cl A nL (MQ below (va_Qv post (jw_B D cl tys A) A) args s cells slots A) (cells) (slots) (pc) (lv) ([]) (ws) := fun ls H locs hl hP hD hS => W.vret F.1.1 F.1.2.1 F.2.2.2.2 (fun t ht hW => ⟨⟨ws, rfl, hp, by rw [ht]; exact hP, va_K.moved hW.alike F.2.1, hD⟩, hS.F ht⟩) hS.2.2 d F.2.2.2.1
theorem jw_ofi {y : MethodName} {ws0 : List Cond} {rm : Room} {av : List Value} {wc : va_W} {post : Int32 → va_W → Prop} (hy : plainName y.cls = true) (hw : Ts = Cond.code y cc nL ret :: ws0) (hlen : (lg_sl av).length ≤ nL)
    (body : ∀ (p : Program) (e : Env) (s : State) (m : MethodId) (args : Array Value) (below : List Frame) (meth : Method) (c : Code) (A : Nat → Prop), jw_F p s m args meth c D cl tys A nL cc y.cls Ts ret → meth.name = y.name → jw_J p l e rm s m args below meth c D cl A nL (MQ below (va_Qi post (jw_B D cl tys A) A) args s rm.cells rm.slots A) (0) (0) (0) (lv_args 0 av) ([]) (wc)) : jw_Mi l D cl tys y Ts rm av wc post := by
  intro sz
  refine Met.ofW (cc := cc) (maxL := nL) (ret := ret) hy hw ?_
  intro p e s m args below meth c s₁ B hml hv
  obtain ⟨rfl, hsz, hP, hK, hD0⟩ := hv
  subst hsz
  rw [lg_entry_eq]
  exact body p e s m _ below meth c (va_A wc s.heap.size) ⟨⟨B.exec, B.bytes, hml, findClass_of_methodNamed B.named, atoms_spec (ws := Ts) B.pre⟩, hK, fun q h => Or.inr h, B.notSynchronized, B.returns⟩ (name_of_methodNamed B.named B.method).1 _ s.heap [] (lv_entry av hlen) hP hD0.self va_S.rf
theorem jw_ofl {y : MethodName} {ws0 : List Cond} {rm : Room} {av : List Value} {wc : va_W} {post : Int64 → va_W → Prop} (hy : plainName y.cls = true) (hw : Ts = Cond.code y cc nL ret :: ws0) (hlen : (lg_sl av).length ≤ nL)
    (body : ∀ (p : Program) (e : Env) (s : State) (m : MethodId) (args : Array Value) (below : List Frame) (meth : Method) (c : Code) (A : Nat → Prop), jw_F p s m args meth c D cl tys A nL cc y.cls Ts ret → meth.name = y.name → jw_J p l e rm s m args below meth c D cl A nL (MQ below (va_Ql post (jw_B D cl tys A) A) args s rm.cells rm.slots A) (0) (0) (0) (lv_args 0 av) ([]) (wc)) : jw_Ml l D cl tys y Ts rm av wc post := by
  intro sz
  refine Met.ofW (cc := cc) (maxL := nL) (ret := ret) hy hw ?_
  intro p e s m args below meth c s₁ B hml hv
  obtain ⟨rfl, hsz, hP, hK, hD0⟩ := hv
  subst hsz
  rw [lg_entry_eq]
  exact body p e s m _ below meth c (va_A wc s.heap.size) ⟨⟨B.exec, B.bytes, hml, findClass_of_methodNamed B.named, atoms_spec (ws := Ts) B.pre⟩, hK, fun q h => Or.inr h, B.notSynchronized, B.returns⟩ (name_of_methodNamed B.named B.method).1 _ s.heap [] (lv_entry av hlen) hP hD0.self va_S.rf
theorem jw_ofv {y : MethodName} {ws0 : List Cond} {rm : Room} {av : List Value} {wc : va_W} {post : va_W → Prop} (hy : plainName y.cls = true) (hw : Ts = Cond.code y cc nL ret :: ws0) (hlen : (lg_sl av).length ≤ nL)
    (body : ∀ (p : Program) (e : Env) (s : State) (m : MethodId) (args : Array Value) (below : List Frame) (meth : Method) (c : Code) (A : Nat → Prop), jw_F p s m args meth c D cl tys A nL cc y.cls Ts ret → meth.name = y.name → jw_J p l e rm s m args below meth c D cl A nL (MQ below (va_Qv post (jw_B D cl tys A) A) args s rm.cells rm.slots A) (0) (0) (0) (lv_args 0 av) ([]) (wc)) : jw_Mv l D cl tys y Ts rm av wc post := by
  intro sz
  refine Met.ofW (cc := cc) (maxL := nL) (ret := ret) hy hw ?_
  intro p e s m args below meth c s₁ B hml hv
  obtain ⟨rfl, hsz, hP, hK, hD0⟩ := hv
  subst hsz
  rw [lg_entry_eq]
  exact body p e s m _ below meth c (va_A wc s.heap.size) ⟨⟨B.exec, B.bytes, hml, findClass_of_methodNamed B.named, atoms_spec (ws := Ts) B.pre⟩, hK, fun q h => Or.inr h, B.notSynchronized, B.returns⟩ (name_of_methodNamed B.named B.method).1 _ s.heap [] (lv_entry av hlen) hP hD0.self va_S.rf
end JW2
section JW3
variable {p : Program} {l : Launch} {e : Env} {R : Room} {s : State} {m : MethodId} {args : Array Value} {below : List Frame} {meth : Method} {c : Code} {Q : State → Prop} {cells slots : Nat}
variable {D : va_G} {cl : List vw_C} {tys : List (ClassId × FieldType)} {A : Nat → Prop} {nL : Nat} {cc : ByteArray} {own : String} {Ts : List Cond} {ret : Option FieldType}
variable {pc : Nat} {lv lv' : List (Nat × Value)} {rest : List Value} {ws ws' : va_W}
theorem jw_part {w0 wc w2 : va_W} {H : Heap} (hP : va_P D cl (w0 ++ wc ++ w2) H) : va_P D cl wc H := by
  rw [jw_P_iff] at hP ⊢
  exact fun q hq => hP q (by simp [hq])
theorem jw_partD {w0 wc w2 : va_W} (hD : va_D A (w0 ++ wc ++ w2)) : va_D A wc := by
  rw [jw_D_iff] at hD ⊢
  obtain ⟨hn, hA⟩ := hD
  rw [List.map_append, List.map_append, List.nodup_append] at hn
  exact ⟨(List.nodup_append.mp hn.1).2.1, fun q hq => hA q (by simp [hq])⟩
theorem jw_partF {wc : va_W} {H0 H : Heap} {locs : List Loc} (hD : va_D A wc) (hS : va_S A H0 H locs) (hA : ∀ q : Nat, H0.size ≤ q → A q) : ∀ q, va_A wc H.size q → A q := by
  intro q h
  rcases h with ⟨k, e, h⟩ | h
  · exact hD.2 k _ h
  · exact hA q (Nat.le_trans hS.1 h)
theorem jw_cwV {WL : List Cond} {c0 : Cond} {C : String} {index maxL n : Nat} {y : MethodName} {bytes : ByteArray} {ty : Option FieldType} {rm : Room} (hts : ∀ w ∈ c0 :: WL, w.before args s = true) (hg : ∀ w ∈ WL, goodWord w = true) (h1 : Cond.methodLink own index y ∈ WL) (h2 : Cond.instanceMethod y ∈ WL) (h3 : Cond.selects C y y ∈ WL) (h4 : Cond.initialized C ∈ WL) (h5 : Cond.code y bytes maxL ty ∈ WL)
    (hd : y.cls = C ∧ y.cls ≠ "java/lang/invoke/MethodHandle" ∧ y.cls ≠ "java/lang/invoke/VarHandle" ∧ (parseMethodDescriptor y.desc).map (fun d => d.parameters.length) = some n) (hR : rm.frames + 1 ≤ R.frames ∧ 8 + (maxL + 11) + rm.locals ≤ R.locals) : CallW R s args own C index y bytes maxL ty (Cond.code y bytes maxL ty :: WL) rm rm.cells rm.slots n := by
  refine cwV (Ts := c0 :: WL) n hts (fun w hw => ?_) rfl rfl rfl hd hR
  have hm : w ∈ WL := by
    unfold wsV at hw
    rcases List.mem_append.mp hw with h | h
    · simp only [List.mem_cons, List.not_mem_nil, or_false] at h
      rcases h with h | h | h | h <;> rw [h] <;> assumption
    · rcases List.mem_cons.mp h with h | h
      · rw [h]; exact h5
      · exact h
  exact ⟨List.mem_cons_of_mem _ hm, good_of_word (hg w hm)⟩
theorem jw_cwS {WL : List Cond} {c0 : Cond} {index maxL n : Nat} {y : MethodName} {bytes : ByteArray} {ty : Option FieldType} {rm : Room} (hts : ∀ w ∈ c0 :: WL, w.before args s = true) (hg : ∀ w ∈ WL, goodWord w = true) (h1 : Cond.methodLink own index y ∈ WL) (h2 : Cond.static y ∈ WL) (h4 : Cond.initialized own ∈ WL) (h5 : Cond.code y bytes maxL ty ∈ WL)
    (hd : y.cls = own ∧ y.cls ≠ "java/lang/invoke/MethodHandle" ∧ y.cls ≠ "java/lang/invoke/VarHandle" ∧ (parseMethodDescriptor y.desc).map (fun d => d.parameters.length) = some n) (hR : rm.frames + 1 ≤ R.frames ∧ 8 + (maxL + 11) + rm.locals ≤ R.locals) : CallB R s args own index y bytes maxL ty (Cond.code y bytes maxL ty :: WL) rm rm.cells rm.slots n ∧ (Cond.static y).before args s = true := by
  refine cwS (Ts := c0 :: WL) n hts (fun w hw => ?_) rfl rfl rfl hd hR
  have hm : w ∈ WL := by
    unfold wsS at hw
    rcases List.mem_append.mp hw with h | h
    · simp only [List.mem_cons, List.not_mem_nil, or_false] at h
      rcases h with h | h | h <;> rw [h] <;> assumption
    · rcases List.mem_cons.mp h with h | h
      · rw [h]; exact h5
      · exact h
  exact ⟨List.mem_cons_of_mem _ hm, good_of_word (hg w hm)⟩
theorem jw_callV_i (F : jw_F p s m args meth c D cl tys A nL cc own Ts ret) {y : MethodName} {bytes : ByteArray} {maxL n index : Nat} {ty : Option FieldType} {Ts2 : List Cond} {rm : Room} {C : String} {b : Nat} {As st0 : List Value} {wc : va_W} {post : Int32 → va_W → Prop} (w0 w2 : va_W) (hM : jw_Mi l D cl tys y Ts2 rm (.ref b :: As) wc post) (cw : CallW R s args own C index y bytes maxL ty Ts2 rm rm.cells rm.slots n) (q0 ci : Nat) {fs : List Value} {q : vw_C} (hc : cl[ci]? = some q) (hq : q.1 = C) (he : wc[q0]? = some (b, .inr (ci, fs))) (hws : ws = w0 ++ wc ++ w2) (hst : st0 = As.reverse ++ .ref b :: rest) (hn : As.length = n) (hr : (rest.map fun v => v.category).sum ≤ 8) (d : decode cc pc = .ok (.invokevirtual index, 3)) (hf : cells + rm.cells ≤ R.cells ∧ slots + rm.slots ≤ R.slots) (kk : ∀ (r : Int32) (w : va_W), post r w → jw_J p l e R s m args below meth c D cl A nL (Q) (cells + rm.cells) (slots + rm.slots) (pc + 3) (lv) (.int r :: rest) (w0 ++ w ++ w2)) : jw_J p l e R s m args below meth c D cl A nL (Q) (cells) (slots) (pc) (lv) (st0) (ws) := by
  subst hws; subst hst
  intro ls H locs hl hP hD hS
  have hPc := jw_part hP
  have hDc := jw_partD hD
  have hFc := jw_partF hDc hS F.2.2.1
  have hrecv : ∃ cellB : Cell, H[b]? = some cellB ∧ cellB.vm.isStatics = false ∧ s.vm.findClass C = some cellB.cls := by rw [← hq]; exact va_recv F.2.1 hPc hc he
  refine va_calli (va_runV (C := C) (b := b) (As := As) (rest := rest) F.1 (hM H.size) cw ⟨jw_Pc_blind, hrecv, fun U hU hW => ⟨rfl, by rw [hU], by rw [hU]; exact hPc, va_K.moved hW.alike F.2.1, hDc.weaken (fun _ _ _ _ => trivial)⟩⟩ rfl hn hl.1 rfl (lv_room hr) d hf) hS (fun x _ h => hFc x h) hFc (fun r w t H1 locs1 ht hvm hp hB hz hk hS1 => ?_)
  obtain ⟨hP1, hK1, hD1⟩ := hB
  rw [ht] at hP1
  obtain ⟨hP2, hD2⟩ := jw_join hP hD hk hFc hP1 hD1
  exact kk r w hp ls H1 locs1 hl hP2 hD2 hS1
theorem jw_callS_i (F : jw_F p s m args meth c D cl tys A nL cc own Ts ret) {y : MethodName} {bytes : ByteArray} {maxL n index : Nat} {ty : Option FieldType} {Ts2 : List Cond} {rm : Room} {As st0 : List Value} {wc : va_W} {post : Int32 → va_W → Prop} (w0 w2 : va_W) (hM : jw_Mi l D cl tys y Ts2 rm (As) wc post) (cw : CallB R s args own index y bytes maxL ty Ts2 rm rm.cells rm.slots n ∧ (Cond.static y).before args s = true) (hws : ws = w0 ++ wc ++ w2) (hst : st0 = As.reverse ++ rest) (hn : As.length = n) (hr : (rest.map fun v => v.category).sum ≤ 8) (d : decode cc pc = .ok (.invokestatic index, 3)) (hf : cells + rm.cells ≤ R.cells ∧ slots + rm.slots ≤ R.slots) (kk : ∀ (r : Int32) (w : va_W), post r w → jw_J p l e R s m args below meth c D cl A nL (Q) (cells + rm.cells) (slots + rm.slots) (pc + 3) (lv) (.int r :: rest) (w0 ++ w ++ w2)) : jw_J p l e R s m args below meth c D cl A nL (Q) (cells) (slots) (pc) (lv) (st0) (ws) := by
  subst hws; subst hst
  intro ls H locs hl hP hD hS
  have hPc := jw_part hP
  have hDc := jw_partD hD
  have hFc := jw_partF hDc hS F.2.2.1
  refine va_calli (va_runS (As := As) (rest := rest) F.1 (hM H.size) cw ⟨jw_Pc_blind, fun U hU hW => ⟨rfl, by rw [hU], by rw [hU]; exact hPc, va_K.moved hW.alike F.2.1, hDc.weaken (fun _ _ _ _ => trivial)⟩⟩ rfl hn hl.1 rfl (lv_room hr) d hf) hS (fun x _ h => hFc x h) hFc (fun r w t H1 locs1 ht hvm hp hB hz hk hS1 => ?_)
  obtain ⟨hP1, hK1, hD1⟩ := hB
  rw [ht] at hP1
  obtain ⟨hP2, hD2⟩ := jw_join hP hD hk hFc hP1 hD1
  exact kk r w hp ls H1 locs1 hl hP2 hD2 hS1
theorem jw_callV_l (F : jw_F p s m args meth c D cl tys A nL cc own Ts ret) {y : MethodName} {bytes : ByteArray} {maxL n index : Nat} {ty : Option FieldType} {Ts2 : List Cond} {rm : Room} {C : String} {b : Nat} {As st0 : List Value} {wc : va_W} {post : Int64 → va_W → Prop} (w0 w2 : va_W) (hM : jw_Ml l D cl tys y Ts2 rm (.ref b :: As) wc post) (cw : CallW R s args own C index y bytes maxL ty Ts2 rm rm.cells rm.slots n) (q0 ci : Nat) {fs : List Value} {q : vw_C} (hc : cl[ci]? = some q) (hq : q.1 = C) (he : wc[q0]? = some (b, .inr (ci, fs))) (hws : ws = w0 ++ wc ++ w2) (hst : st0 = As.reverse ++ .ref b :: rest) (hn : As.length = n) (hr : (rest.map fun v => v.category).sum ≤ 8) (d : decode cc pc = .ok (.invokevirtual index, 3)) (hf : cells + rm.cells ≤ R.cells ∧ slots + rm.slots ≤ R.slots) (kk : ∀ (r : Int64) (w : va_W), post r w → jw_J p l e R s m args below meth c D cl A nL (Q) (cells + rm.cells) (slots + rm.slots) (pc + 3) (lv) (.long r :: rest) (w0 ++ w ++ w2)) : jw_J p l e R s m args below meth c D cl A nL (Q) (cells) (slots) (pc) (lv) (st0) (ws) := by
  subst hws; subst hst
  intro ls H locs hl hP hD hS
  have hPc := jw_part hP
  have hDc := jw_partD hD
  have hFc := jw_partF hDc hS F.2.2.1
  have hrecv : ∃ cellB : Cell, H[b]? = some cellB ∧ cellB.vm.isStatics = false ∧ s.vm.findClass C = some cellB.cls := by rw [← hq]; exact va_recv F.2.1 hPc hc he
  refine va_calll (va_runV (C := C) (b := b) (As := As) (rest := rest) F.1 (hM H.size) cw ⟨jw_Pc_blind, hrecv, fun U hU hW => ⟨rfl, by rw [hU], by rw [hU]; exact hPc, va_K.moved hW.alike F.2.1, hDc.weaken (fun _ _ _ _ => trivial)⟩⟩ rfl hn hl.1 rfl (lv_room hr) d hf) hS (fun x _ h => hFc x h) hFc (fun r w t H1 locs1 ht hvm hp hB hz hk hS1 => ?_)
  obtain ⟨hP1, hK1, hD1⟩ := hB
  rw [ht] at hP1
  obtain ⟨hP2, hD2⟩ := jw_join hP hD hk hFc hP1 hD1
  exact kk r w hp ls H1 locs1 hl hP2 hD2 hS1
theorem jw_callS_l (F : jw_F p s m args meth c D cl tys A nL cc own Ts ret) {y : MethodName} {bytes : ByteArray} {maxL n index : Nat} {ty : Option FieldType} {Ts2 : List Cond} {rm : Room} {As st0 : List Value} {wc : va_W} {post : Int64 → va_W → Prop} (w0 w2 : va_W) (hM : jw_Ml l D cl tys y Ts2 rm (As) wc post) (cw : CallB R s args own index y bytes maxL ty Ts2 rm rm.cells rm.slots n ∧ (Cond.static y).before args s = true) (hws : ws = w0 ++ wc ++ w2) (hst : st0 = As.reverse ++ rest) (hn : As.length = n) (hr : (rest.map fun v => v.category).sum ≤ 8) (d : decode cc pc = .ok (.invokestatic index, 3)) (hf : cells + rm.cells ≤ R.cells ∧ slots + rm.slots ≤ R.slots) (kk : ∀ (r : Int64) (w : va_W), post r w → jw_J p l e R s m args below meth c D cl A nL (Q) (cells + rm.cells) (slots + rm.slots) (pc + 3) (lv) (.long r :: rest) (w0 ++ w ++ w2)) : jw_J p l e R s m args below meth c D cl A nL (Q) (cells) (slots) (pc) (lv) (st0) (ws) := by
  subst hws; subst hst
  intro ls H locs hl hP hD hS
  have hPc := jw_part hP
  have hDc := jw_partD hD
  have hFc := jw_partF hDc hS F.2.2.1
  refine va_calll (va_runS (As := As) (rest := rest) F.1 (hM H.size) cw ⟨jw_Pc_blind, fun U hU hW => ⟨rfl, by rw [hU], by rw [hU]; exact hPc, va_K.moved hW.alike F.2.1, hDc.weaken (fun _ _ _ _ => trivial)⟩⟩ rfl hn hl.1 rfl (lv_room hr) d hf) hS (fun x _ h => hFc x h) hFc (fun r w t H1 locs1 ht hvm hp hB hz hk hS1 => ?_)
  obtain ⟨hP1, hK1, hD1⟩ := hB
  rw [ht] at hP1
  obtain ⟨hP2, hD2⟩ := jw_join hP hD hk hFc hP1 hD1
  exact kk r w hp ls H1 locs1 hl hP2 hD2 hS1
theorem jw_callV_v (F : jw_F p s m args meth c D cl tys A nL cc own Ts ret) {y : MethodName} {bytes : ByteArray} {maxL n index : Nat} {ty : Option FieldType} {Ts2 : List Cond} {rm : Room} {C : String} {b : Nat} {As st0 : List Value} {wc : va_W} {post : va_W → Prop} (w0 w2 : va_W) (hM : jw_Mv l D cl tys y Ts2 rm (.ref b :: As) wc post) (cw : CallW R s args own C index y bytes maxL ty Ts2 rm rm.cells rm.slots n) (q0 ci : Nat) {fs : List Value} {q : vw_C} (hc : cl[ci]? = some q) (hq : q.1 = C) (he : wc[q0]? = some (b, .inr (ci, fs))) (hws : ws = w0 ++ wc ++ w2) (hst : st0 = As.reverse ++ .ref b :: rest) (hn : As.length = n) (hr : (rest.map fun v => v.category).sum ≤ 8) (d : decode cc pc = .ok (.invokevirtual index, 3)) (hf : cells + rm.cells ≤ R.cells ∧ slots + rm.slots ≤ R.slots) (kk : ∀ (w : va_W), post w → jw_J p l e R s m args below meth c D cl A nL (Q) (cells + rm.cells) (slots + rm.slots) (pc + 3) (lv) (rest) (w0 ++ w ++ w2)) : jw_J p l e R s m args below meth c D cl A nL (Q) (cells) (slots) (pc) (lv) (st0) (ws) := by
  subst hws; subst hst
  intro ls H locs hl hP hD hS
  have hPc := jw_part hP
  have hDc := jw_partD hD
  have hFc := jw_partF hDc hS F.2.2.1
  have hrecv : ∃ cellB : Cell, H[b]? = some cellB ∧ cellB.vm.isStatics = false ∧ s.vm.findClass C = some cellB.cls := by rw [← hq]; exact va_recv F.2.1 hPc hc he
  refine va_callv (va_runV (C := C) (b := b) (As := As) (rest := rest) F.1 (hM H.size) cw ⟨jw_Pc_blind, hrecv, fun U hU hW => ⟨rfl, by rw [hU], by rw [hU]; exact hPc, va_K.moved hW.alike F.2.1, hDc.weaken (fun _ _ _ _ => trivial)⟩⟩ rfl hn hl.1 rfl (lv_room hr) d hf) hS (fun x _ h => hFc x h) hFc (fun w t H1 locs1 ht hvm hp hB hz hk hS1 => ?_)
  obtain ⟨hP1, hK1, hD1⟩ := hB
  rw [ht] at hP1
  obtain ⟨hP2, hD2⟩ := jw_join hP hD hk hFc hP1 hD1
  exact kk w hp ls H1 locs1 hl hP2 hD2 hS1
theorem jw_callS_v (F : jw_F p s m args meth c D cl tys A nL cc own Ts ret) {y : MethodName} {bytes : ByteArray} {maxL n index : Nat} {ty : Option FieldType} {Ts2 : List Cond} {rm : Room} {As st0 : List Value} {wc : va_W} {post : va_W → Prop} (w0 w2 : va_W) (hM : jw_Mv l D cl tys y Ts2 rm (As) wc post) (cw : CallB R s args own index y bytes maxL ty Ts2 rm rm.cells rm.slots n ∧ (Cond.static y).before args s = true) (hws : ws = w0 ++ wc ++ w2) (hst : st0 = As.reverse ++ rest) (hn : As.length = n) (hr : (rest.map fun v => v.category).sum ≤ 8) (d : decode cc pc = .ok (.invokestatic index, 3)) (hf : cells + rm.cells ≤ R.cells ∧ slots + rm.slots ≤ R.slots) (kk : ∀ (w : va_W), post w → jw_J p l e R s m args below meth c D cl A nL (Q) (cells + rm.cells) (slots + rm.slots) (pc + 3) (lv) (rest) (w0 ++ w ++ w2)) : jw_J p l e R s m args below meth c D cl A nL (Q) (cells) (slots) (pc) (lv) (st0) (ws) := by
  subst hws; subst hst
  intro ls H locs hl hP hD hS
  have hPc := jw_part hP
  have hDc := jw_partD hD
  have hFc := jw_partF hDc hS F.2.2.1
  refine va_callv (va_runS (As := As) (rest := rest) F.1 (hM H.size) cw ⟨jw_Pc_blind, fun U hU hW => ⟨rfl, by rw [hU], by rw [hU]; exact hPc, va_K.moved hW.alike F.2.1, hDc.weaken (fun _ _ _ _ => trivial)⟩⟩ rfl hn hl.1 rfl (lv_room hr) d hf) hS (fun x _ h => hFc x h) hFc (fun w t H1 locs1 ht hvm hp hB hz hk hS1 => ?_)
  obtain ⟨hP1, hK1, hD1⟩ := hB
  rw [ht] at hP1
  obtain ⟨hP2, hD2⟩ := jw_join hP hD hk hFc hP1 hD1
  exact kk w hp ls H1 locs1 hl hP2 hD2 hS1
theorem jw_callI_v (F : jw_F p s m args meth c D cl tys A nL cc own Ts ret) {y : MethodName} {bytes : ByteArray} {maxL n index : Nat} {Ts2 : List Cond} {rm : Room} {b : Nat} {As st0 : List Value} {wc : va_W} {post : va_W → Prop} (w0 w2 : va_W) (hM : jw_Mv l D cl tys y Ts2 rm (.ref b :: As) wc post) (cw : CallB R s args own index y bytes maxL none Ts2 rm rm.cells rm.slots n ∧ y.name = "<init>" ∧ (Cond.instanceMethod y).before args s = true) (hws : ws = w0 ++ wc ++ w2) (hst : st0 = As.reverse ++ .ref b :: rest) (hn : As.length = n) (hr : (rest.map fun v => v.category).sum ≤ 8) (d : decode cc pc = .ok (.invokespecial index, 3)) (hf : cells + rm.cells ≤ R.cells ∧ slots + rm.slots ≤ R.slots) (kk : ∀ (w : va_W), post w → jw_J p l e R s m args below meth c D cl A nL (Q) (cells + rm.cells) (slots + rm.slots) (pc + 3) (lv) (rest) (w0 ++ w ++ w2)) : jw_J p l e R s m args below meth c D cl A nL (Q) (cells) (slots) (pc) (lv) (st0) (ws) := by
  subst hws; subst hst
  intro ls H locs hl hP hD hS
  have hPc := jw_part hP
  have hDc := jw_partD hD
  have hFc := jw_partF hDc hS F.2.2.1
  refine va_callv (va_runI (b := b) (As := As) (rest := rest) F.1 (hM H.size) cw ⟨jw_Pc_blind, fun U hU hW => ⟨rfl, by rw [hU], by rw [hU]; exact hPc, va_K.moved hW.alike F.2.1, hDc.weaken (fun _ _ _ _ => trivial)⟩⟩ rfl hn hl.1 rfl (lv_room hr) d hf) hS (fun x _ h => hFc x h) hFc (fun w t H1 locs1 ht hvm hp hB hz hk hS1 => ?_)
  obtain ⟨hP1, hK1, hD1⟩ := hB
  rw [ht] at hP1
  obtain ⟨hP2, hD2⟩ := jw_join hP hD hk hFc hP1 hD1
  exact kk w hp ls H1 locs1 hl hP2 hD2 hS1
theorem jw_callV_Ei (F : jw_F p s m args meth c D cl tys A nL cc own Ts ret) {y : MethodName} {bytes : ByteArray} {maxL n index : Nat} {ty : Option FieldType} {Ts2 : List Cond} {rm : Room} {C : String} {b : Nat} {As st0 : List Value} {wc : va_W} {v : Int32} (w0 w2 : va_W) (hM : jw_Ei l D cl tys y Ts2 rm (.ref b :: As) wc v) (cw : CallW R s args own C index y bytes maxL ty Ts2 rm rm.cells rm.slots n) (q0 ci : Nat) {fs : List Value} {q : vw_C} (hc : cl[ci]? = some q) (hq : q.1 = C) (he : wc[q0]? = some (b, .inr (ci, fs))) (hws : ws = w0 ++ wc ++ w2) (hst : st0 = As.reverse ++ .ref b :: rest) (hn : As.length = n) (hr : (rest.map fun v => v.category).sum ≤ 8) (d : decode cc pc = .ok (.invokevirtual index, 3)) (h0 : rm.cells = 0 ∧ rm.slots = 0) (hf : cells ≤ R.cells ∧ slots ≤ R.slots) (kk : jw_J p l e R s m args below meth c D cl A nL (Q) (cells) (slots) (pc + 3) (lv) (.int v :: rest) (ws)) : jw_J p l e R s m args below meth c D cl A nL (Q) (cells) (slots) (pc) (lv) (st0) (ws) := by
  refine jw_callV_i F w0 w2 hM cw q0 ci hc hq he hws hst hn hr d ⟨by rw [h0.1]; exact hf.1, by rw [h0.2]; exact hf.2⟩ (fun r w hw => ?_)
  obtain ⟨rfl, rfl⟩ := hw
  rw [h0.1, h0.2, ← hws]
  exact kk
theorem jw_callS_Ei (F : jw_F p s m args meth c D cl tys A nL cc own Ts ret) {y : MethodName} {bytes : ByteArray} {maxL n index : Nat} {ty : Option FieldType} {Ts2 : List Cond} {rm : Room} {As st0 : List Value} {v : Int32} (hM : jw_Ei l D cl tys y Ts2 rm As [] v) (cw : CallB R s args own index y bytes maxL ty Ts2 rm rm.cells rm.slots n ∧ (Cond.static y).before args s = true) (hst : st0 = As.reverse ++ rest) (hn : As.length = n) (hr : (rest.map fun v => v.category).sum ≤ 8) (d : decode cc pc = .ok (.invokestatic index, 3)) (h0 : rm.cells = 0 ∧ rm.slots = 0) (hf : cells ≤ R.cells ∧ slots ≤ R.slots) (kk : jw_J p l e R s m args below meth c D cl A nL (Q) (cells) (slots) (pc + 3) (lv) (.int v :: rest) (ws)) : jw_J p l e R s m args below meth c D cl A nL (Q) (cells) (slots) (pc) (lv) (st0) (ws) := by
  refine jw_callS_i F ws [] hM cw (by simp) hst hn hr d ⟨by rw [h0.1]; exact hf.1, by rw [h0.2]; exact hf.2⟩ (fun r w hw => ?_)
  obtain ⟨rfl, rfl⟩ := hw
  rw [h0.1, h0.2, List.append_nil, List.append_nil]
  exact kk
theorem jw_callV_Ci (F : jw_F p s m args meth c D cl tys A nL cc own Ts ret) {y : MethodName} {bytes : ByteArray} {maxL n index : Nat} {ty : Option FieldType} {Ts2 : List Cond} {rm : Room} {C : String} {b : Nat} {As st0 : List Value} {wc : va_W} {post : Int32 → va_W → Prop} (hM : jw_Mi l D cl tys y Ts2 rm (.ref b :: As) wc post) (cw : CallW R s args own C index y bytes maxL ty Ts2 rm rm.cells rm.slots n) (q0 ci : Nat) {fs : List Value} {q : vw_C} (hc : cl[ci]? = some q) (hq : q.1 = C) (he : wc[q0]? = some (b, .inr (ci, fs))) (hws : ws = wc) (hst : st0 = As.reverse ++ .ref b :: rest) (hn : As.length = n) (hr : (rest.map fun v => v.category).sum ≤ 8) (d : decode cc pc = .ok (.invokevirtual index, 3)) (h0 : rm.cells = 0 ∧ rm.slots = 0) (hf : cells ≤ R.cells ∧ slots ≤ R.slots) (kk : ∀ (r : Int32) (w : va_W), post r w → jw_J p l e R s m args below meth c D cl A nL (Q) (cells) (slots) (pc + 3) (lv) (.int r :: rest) (w)) : jw_J p l e R s m args below meth c D cl A nL (Q) (cells) (slots) (pc) (lv) (st0) (ws) := by
  subst hws
  refine jw_callV_i F [] [] hM cw q0 ci hc hq he (by simp) hst hn hr d ⟨by rw [h0.1]; exact hf.1, by rw [h0.2]; exact hf.2⟩ (fun r w hw => ?_)
  have h9 := kk r w hw
  rw [h0.1, h0.2, List.append_nil, List.nil_append]
  exact h9
theorem jw_callV_El (F : jw_F p s m args meth c D cl tys A nL cc own Ts ret) {y : MethodName} {bytes : ByteArray} {maxL n index : Nat} {ty : Option FieldType} {Ts2 : List Cond} {rm : Room} {C : String} {b : Nat} {As st0 : List Value} {wc : va_W} {v : Int64} (w0 w2 : va_W) (hM : jw_El l D cl tys y Ts2 rm (.ref b :: As) wc v) (cw : CallW R s args own C index y bytes maxL ty Ts2 rm rm.cells rm.slots n) (q0 ci : Nat) {fs : List Value} {q : vw_C} (hc : cl[ci]? = some q) (hq : q.1 = C) (he : wc[q0]? = some (b, .inr (ci, fs))) (hws : ws = w0 ++ wc ++ w2) (hst : st0 = As.reverse ++ .ref b :: rest) (hn : As.length = n) (hr : (rest.map fun v => v.category).sum ≤ 8) (d : decode cc pc = .ok (.invokevirtual index, 3)) (h0 : rm.cells = 0 ∧ rm.slots = 0) (hf : cells ≤ R.cells ∧ slots ≤ R.slots) (kk : jw_J p l e R s m args below meth c D cl A nL (Q) (cells) (slots) (pc + 3) (lv) (.long v :: rest) (ws)) : jw_J p l e R s m args below meth c D cl A nL (Q) (cells) (slots) (pc) (lv) (st0) (ws) := by
  refine jw_callV_l F w0 w2 hM cw q0 ci hc hq he hws hst hn hr d ⟨by rw [h0.1]; exact hf.1, by rw [h0.2]; exact hf.2⟩ (fun r w hw => ?_)
  obtain ⟨rfl, rfl⟩ := hw
  rw [h0.1, h0.2, ← hws]
  exact kk
theorem jw_callS_El (F : jw_F p s m args meth c D cl tys A nL cc own Ts ret) {y : MethodName} {bytes : ByteArray} {maxL n index : Nat} {ty : Option FieldType} {Ts2 : List Cond} {rm : Room} {As st0 : List Value} {v : Int64} (hM : jw_El l D cl tys y Ts2 rm As [] v) (cw : CallB R s args own index y bytes maxL ty Ts2 rm rm.cells rm.slots n ∧ (Cond.static y).before args s = true) (hst : st0 = As.reverse ++ rest) (hn : As.length = n) (hr : (rest.map fun v => v.category).sum ≤ 8) (d : decode cc pc = .ok (.invokestatic index, 3)) (h0 : rm.cells = 0 ∧ rm.slots = 0) (hf : cells ≤ R.cells ∧ slots ≤ R.slots) (kk : jw_J p l e R s m args below meth c D cl A nL (Q) (cells) (slots) (pc + 3) (lv) (.long v :: rest) (ws)) : jw_J p l e R s m args below meth c D cl A nL (Q) (cells) (slots) (pc) (lv) (st0) (ws) := by
  refine jw_callS_l F ws [] hM cw (by simp) hst hn hr d ⟨by rw [h0.1]; exact hf.1, by rw [h0.2]; exact hf.2⟩ (fun r w hw => ?_)
  obtain ⟨rfl, rfl⟩ := hw
  rw [h0.1, h0.2, List.append_nil, List.append_nil]
  exact kk
theorem jw_callV_Cl (F : jw_F p s m args meth c D cl tys A nL cc own Ts ret) {y : MethodName} {bytes : ByteArray} {maxL n index : Nat} {ty : Option FieldType} {Ts2 : List Cond} {rm : Room} {C : String} {b : Nat} {As st0 : List Value} {wc : va_W} {post : Int64 → va_W → Prop} (hM : jw_Ml l D cl tys y Ts2 rm (.ref b :: As) wc post) (cw : CallW R s args own C index y bytes maxL ty Ts2 rm rm.cells rm.slots n) (q0 ci : Nat) {fs : List Value} {q : vw_C} (hc : cl[ci]? = some q) (hq : q.1 = C) (he : wc[q0]? = some (b, .inr (ci, fs))) (hws : ws = wc) (hst : st0 = As.reverse ++ .ref b :: rest) (hn : As.length = n) (hr : (rest.map fun v => v.category).sum ≤ 8) (d : decode cc pc = .ok (.invokevirtual index, 3)) (h0 : rm.cells = 0 ∧ rm.slots = 0) (hf : cells ≤ R.cells ∧ slots ≤ R.slots) (kk : ∀ (r : Int64) (w : va_W), post r w → jw_J p l e R s m args below meth c D cl A nL (Q) (cells) (slots) (pc + 3) (lv) (.long r :: rest) (w)) : jw_J p l e R s m args below meth c D cl A nL (Q) (cells) (slots) (pc) (lv) (st0) (ws) := by
  subst hws
  refine jw_callV_l F [] [] hM cw q0 ci hc hq he (by simp) hst hn hr d ⟨by rw [h0.1]; exact hf.1, by rw [h0.2]; exact hf.2⟩ (fun r w hw => ?_)
  have h9 := kk r w hw
  rw [h0.1, h0.2, List.append_nil, List.nil_append]
  exact h9
theorem jw_callV_Ev (F : jw_F p s m args meth c D cl tys A nL cc own Ts ret) {y : MethodName} {bytes : ByteArray} {maxL n index : Nat} {ty : Option FieldType} {Ts2 : List Cond} {rm : Room} {C : String} {b : Nat} {As st0 : List Value} {wc : va_W} (w0 w2 : va_W) (hM : jw_Ev l D cl tys y Ts2 rm (.ref b :: As) wc) (cw : CallW R s args own C index y bytes maxL ty Ts2 rm rm.cells rm.slots n) (q0 ci : Nat) {fs : List Value} {q : vw_C} (hc : cl[ci]? = some q) (hq : q.1 = C) (he : wc[q0]? = some (b, .inr (ci, fs))) (hws : ws = w0 ++ wc ++ w2) (hst : st0 = As.reverse ++ .ref b :: rest) (hn : As.length = n) (hr : (rest.map fun v => v.category).sum ≤ 8) (d : decode cc pc = .ok (.invokevirtual index, 3)) (h0 : rm.cells = 0 ∧ rm.slots = 0) (hf : cells ≤ R.cells ∧ slots ≤ R.slots) (kk : jw_J p l e R s m args below meth c D cl A nL (Q) (cells) (slots) (pc + 3) (lv) (rest) (ws)) : jw_J p l e R s m args below meth c D cl A nL (Q) (cells) (slots) (pc) (lv) (st0) (ws) := by
  refine jw_callV_v F w0 w2 hM cw q0 ci hc hq he hws hst hn hr d ⟨by rw [h0.1]; exact hf.1, by rw [h0.2]; exact hf.2⟩ (fun w hw => ?_)
  obtain rfl := hw
  rw [h0.1, h0.2, ← hws]
  exact kk
theorem jw_callS_Ev (F : jw_F p s m args meth c D cl tys A nL cc own Ts ret) {y : MethodName} {bytes : ByteArray} {maxL n index : Nat} {ty : Option FieldType} {Ts2 : List Cond} {rm : Room} {As st0 : List Value} (hM : jw_Ev l D cl tys y Ts2 rm As []) (cw : CallB R s args own index y bytes maxL ty Ts2 rm rm.cells rm.slots n ∧ (Cond.static y).before args s = true) (hst : st0 = As.reverse ++ rest) (hn : As.length = n) (hr : (rest.map fun v => v.category).sum ≤ 8) (d : decode cc pc = .ok (.invokestatic index, 3)) (h0 : rm.cells = 0 ∧ rm.slots = 0) (hf : cells ≤ R.cells ∧ slots ≤ R.slots) (kk : jw_J p l e R s m args below meth c D cl A nL (Q) (cells) (slots) (pc + 3) (lv) (rest) (ws)) : jw_J p l e R s m args below meth c D cl A nL (Q) (cells) (slots) (pc) (lv) (st0) (ws) := by
  refine jw_callS_v F ws [] hM cw (by simp) hst hn hr d ⟨by rw [h0.1]; exact hf.1, by rw [h0.2]; exact hf.2⟩ (fun w hw => ?_)
  obtain rfl := hw
  rw [h0.1, h0.2, List.append_nil, List.append_nil]
  exact kk
theorem jw_callV_Cv (F : jw_F p s m args meth c D cl tys A nL cc own Ts ret) {y : MethodName} {bytes : ByteArray} {maxL n index : Nat} {ty : Option FieldType} {Ts2 : List Cond} {rm : Room} {C : String} {b : Nat} {As st0 : List Value} {wc : va_W} {post : va_W → Prop} (hM : jw_Mv l D cl tys y Ts2 rm (.ref b :: As) wc post) (cw : CallW R s args own C index y bytes maxL ty Ts2 rm rm.cells rm.slots n) (q0 ci : Nat) {fs : List Value} {q : vw_C} (hc : cl[ci]? = some q) (hq : q.1 = C) (he : wc[q0]? = some (b, .inr (ci, fs))) (hws : ws = wc) (hst : st0 = As.reverse ++ .ref b :: rest) (hn : As.length = n) (hr : (rest.map fun v => v.category).sum ≤ 8) (d : decode cc pc = .ok (.invokevirtual index, 3)) (h0 : rm.cells = 0 ∧ rm.slots = 0) (hf : cells ≤ R.cells ∧ slots ≤ R.slots) (kk : ∀ (w : va_W), post w → jw_J p l e R s m args below meth c D cl A nL (Q) (cells) (slots) (pc + 3) (lv) (rest) (w)) : jw_J p l e R s m args below meth c D cl A nL (Q) (cells) (slots) (pc) (lv) (st0) (ws) := by
  subst hws
  refine jw_callV_v F [] [] hM cw q0 ci hc hq he (by simp) hst hn hr d ⟨by rw [h0.1]; exact hf.1, by rw [h0.2]; exact hf.2⟩ (fun w hw => ?_)
  have h9 := kk w hw
  rw [h0.1, h0.2, List.append_nil, List.nil_append]
  exact h9
end JW3
end
section
section JX
variable {p : Program} {l : Launch} {e : Env} {R : Room} {s : State} {m : MethodId} {args : Array Value} {below : List Frame} {meth : Method} {c : Code} {Q : State → Prop} {cells slots : Nat}
variable {D : va_G} {cl : List vw_C} {tys : List (ClassId × FieldType)} {A : Nat → Prop} {nL : Nat} {cc : ByteArray} {own : String} {Ts : List Cond} {ret : Option FieldType}
variable {pc : Nat} {lv lv' : List (Nat × Value)} {rest : List Value} {ws ws' : va_W}
theorem jw_ofx {y : MethodName} {ws0 : List Cond} {rm : Room} {av : List Value} {wc : va_W} {Z : (Nat → Prop) → State → Prop} {E0 : String} (hy : plainName y.cls = true) (hw : Ts = Cond.code y cc nL ret :: ws0) (hlen : (lg_sl av).length ≤ nL)
    (body : ∀ (p : Program) (e : Env) (s : State) (m : MethodId) (args : Array Value) (below : List Frame) (meth : Method) (c : Code) (A : Nat → Prop), jw_F p s m args meth c D cl tys A nL cc y.cls Ts ret → (∀ x ∈ c.exceptionTable.toList, False) → Z A s → jw_J p l e rm s m args below meth c D cl A nL (vx_MQ below (fun _ _ _ _ => False) (jw_XC D cl tys A wc E0) args s rm.cells rm.slots A) (0) (0) (0) (lv_args 0 av) ([]) (wc)) : jw_Tx l D cl tys y Ts rm av wc Z E0 := by
  intro sz
  refine vx_ofW (cc := cc) (maxL := nL) (ret := ret) hy hw ?_
  intro p e s m args below meth c s₁ B hml hT hv
  obtain ⟨rfl, hsz, hP, hK, hD0, hZ⟩ := hv
  subst hsz
  rw [lg_entry_eq]
  exact body p e s m _ below meth c (va_A wc s.heap.size) ⟨⟨B.exec, B.bytes, hml, findClass_of_methodNamed B.named, atoms_spec (ws := Ts) B.pre⟩, hK, fun q h => Or.inr h, B.notSynchronized, B.returns⟩ hT hZ _ s.heap [] (lv_entry av hlen) hP hD0.self va_S.rf
theorem jw_throw (F : jw_F p s m args meth c D cl tys A nL cc own Ts ret) {E0 text : String} {names : List String} {ik is ic mc ms sa : Nat} (hT : ∀ x ∈ c.exceptionTable.toList, False) (hl : l.stackTraces = false) (hcls : Bundle.fit E0 = true) (hnames : ∀ n ∈ names, Bundle.fit n = true)
    (hk : Cond.classLink own ik E0 ∈ Ts) (hini : Cond.initialized E0 ∈ Ts) (hstr : vk_R own is text sa s) (hat : ∀ w ∈ vx_atS own ic E0 names, w.before args s = true)
    (hgood : ∀ w ∈ Cond.classLink own ik E0 :: Cond.initialized E0 :: vx_atS own ic E0 names, vx_ot w = true)
    (hU : vx_Zq Bundle.tN "UNASSIGNED_STACK" Bundle.steD A s s.heap) (hN : vx_Zq Bundle.tN "SUPPRESSED_SENTINEL" Bundle.listD A s s.heap)
    (d0 : decode cc pc = .ok (.new ik, 3)) (d3 : decode cc (pc + 3) = .ok (.dup, 1)) (d4 : decode cc (pc + 4) = .ok (.ldc is, 2)) (d6 : decode cc (pc + 6) = .ok (.invokespecial ic, 3)) (d9 : decode cc (pc + 9) = .ok (.athrow, 1))
    (hRf : names.length + 3 < R.frames) (hRl : (rest.map fun v => v.category).sum + (13 * (names.length + 1) + 43) ≤ R.locals) (hRc : cells + 1 ≤ R.cells) (hRs : slots + 6 ≤ R.slots) (hc : cells + 1 ≤ mc) (hs : slots + 6 ≤ ms) :
    jw_J p l e R s m args below meth c D cl A nL (vx_MQ below (fun _ _ _ _ => False) (jw_XC D cl tys A ws E0) args s mc ms A) (cells) (slots) (pc) (lv) (rest) (ws) := by
  intro ls H locs hlv hP hD hS
  refine vx_throwS (A := A) (text := text) (sa := sa) F.1.1 F.1.2.1 hl F.1.2.2.2.1 hcls hnames (F.1.2.2.2.2 _ hk) (F.1.2.2.2.2 _ hini) hstr hat hgood hU hN hS (hlv.1.trans F.1.2.2.1.symm) d0 d3 d4 d6 d9 (fun x hx => (hT x hx).elim) hRf hRl hRc hRs F.2.2.2.1 (fun t ha hz hk => ?_) hS.2.2 hc hs
  refine ⟨(), trivial, ⟨rfl, fun k q hq => (hP k q hq).kept (hk _ (hP k q hq).lt), va_K.moved ha F.2.1, hD⟩, Nat.le_trans hS.1 hz, fun q h1 h2 => ?_⟩
  rw [hk q (Nat.lt_of_lt_of_le h1 hS.1)]
  exact hS.2.1 q h1 h2
theorem jw_xcallV (F : jw_F p s m args meth c D cl tys A nL cc own Ts ret) {y : MethodName} {bytes : ByteArray} {maxL n index mc ms : Nat} {ty : Option FieldType} {Ts2 : List Cond} {rm : Room} {C : String} {b : Nat} {As st0 : List Value} {wc : va_W} {Z : (Nat → Prop) → State → Prop} {E0 : String} (w0 w2 : va_W) (hT : ∀ x ∈ c.exceptionTable.toList, False) (hZk : jw_Zok Z) (hz : Z A s) (hM : jw_Tx l D cl tys y Ts2 rm (.ref b :: As) wc Z E0) (cw : CallW R s args own C index y bytes maxL ty Ts2 rm rm.cells rm.slots n) (q0 ci : Nat) {fs : List Value} {q : vw_C} (hcq : cl[ci]? = some q) (hq : q.1 = C) (he : wc[q0]? = some (b, .inr (ci, fs))) (hws : ws = w0 ++ wc ++ w2) (hst : st0 = As.reverse ++ .ref b :: rest) (hn : As.length = n) (hr : (rest.map fun v => v.category).sum ≤ 8) (d : decode cc pc = .ok (.invokevirtual index, 3)) (hf : cells + rm.cells ≤ R.cells ∧ slots + rm.slots ≤ R.slots) (hc : cells + rm.cells ≤ mc) (hs : slots + rm.slots ≤ ms) : jw_J p l e R s m args below meth c D cl A nL (vx_MQ below (fun _ _ _ _ => False) (jw_XC D cl tys A ws E0) args s mc ms A) (cells) (slots) (pc) (lv) (st0) (ws) := by
  subst hws; subst hst
  intro ls H locs hl hP hD hS
  have hPc := jw_part hP
  have hDc := jw_partD hD
  have hFc := jw_partF hDc hS F.2.2.1
  have hrecv : ∃ cellB : Cell, H[b]? = some cellB ∧ cellB.vm.isStatics = false ∧ s.vm.findClass C = some cellB.cls := by rw [← hq]; exact va_recv F.2.1 hPc hcq he
  have hrun := vx_runV (e := e) (below := below) (meth := meth) (locs := locs) (cells := cells) (slots := slots) (g := F0 m pc ls (As.reverse ++ .ref b :: rest)) (C := C) (b := b) (As := As) (rest := rest) F.1 (hM H.size) cw ⟨jw_PX_blind hZk, hrecv, fun U hU hW => ⟨rfl, by rw [hU], by rw [hU]; exact hPc, va_K.moved hW.alike F.2.1, hDc.weaken (fun _ _ _ _ => trivial), hZk.2 A _ s U hW hz (fun q h1 h2 => by rw [hU]; exact hS.2.1 q h1 h2) hFc⟩⟩ rfl hn hl.1 rfl (lv_room hr) d hf
  intro T hTT X
  rcases hrun T hTT X with ⟨v, st₀, t, T', L, h0, X', hL, e1, e2, hq9, st⟩ | ⟨q9, st₀, t, T', L, E, ce, h0, X', hL, e1, e2, ⟨u, hp, ⟨hE, hP1, hK1, hD1⟩, hF⟩, hce, hcv, hcl, st⟩
  · exact hq9.elim
  · obtain ⟨k1, k2, k3⟩ := vx_keep h0 e1 hS (fun x _ h => hFc x h) hFc hL hF
    subst hE
    rw [← e1] at hP1
    obtain ⟨hP2, hD2⟩ := jw_join hP hD k2 hFc hP1 hD1
    obtain ⟨t2, a1, b1⟩ := vx_out (pc := pc) (ls := ls) (rest := rest) (XC := jw_XC D cl tys A (w0 ++ wc ++ w2) E) (Qc := fun _ _ _ _ => False) (mc := mc) (ms := ms) (free := A) (fun x hx => (hT x hx).elim) F.2.2.2.1 (by rw [e1]; exact hce) hcv hcl (fun t ht ha => ⟨(), trivial, ⟨rfl, by rw [ht]; exact hP2, va_K.moved ha F.2.1, hD2⟩, k3.F ht⟩) k3.2.2 hc hs T' rfl X'
    exact ⟨t2, st.trans a1, b1⟩
end JX
end
section
def WL : List Cond := lw_tbl.filter goodWord
theorem jwl {w : Cond} (i : Nat) (h : lw_tbl[i]? = some w) (g : goodWord w = true) : w ∈ WL := List.mem_filter.mpr ⟨List.mem_of_getElem? h, g⟩
theorem wl_good : ∀ w ∈ WL, goodWord w = true := fun w h => (List.mem_filter.mp h).2
theorem wl_tbl : ∀ w ∈ WL, w ∈ lw_tbl := fun w h => (List.mem_filter.mp h).1
def RX : String := "WovenRow"
def TX : u_T := fun k => match k with
  | 0 => ("WovenRow", "made", "I", false)
  | 1 => ("WovenRow", "isDelete", "[Z", true)
  | 2 => ("WovenRow", "target", "[I", true)
  | 3 => ("WovenRow", "number", "[J", true)
  | 4 => ("WovenRow", "stampCount", "[I", true)
  | 5 => ("WovenRow", "maker", "[I", true)
  | 6 => ("WovenRow", "holders", "[I", true)
  | 7 => ("WovenRow", "deleters", "[I", true)
  | 8 => ("WovenRow", "greatestCount", "[I", true)
  | 9 => ("WovenRow", "row", "[I", true)
  | _ => ("WovenRow", "rowLength", "I", false)
def tX : Nat → FieldType := fun k => match k with
  | 0 => .int
  | 1 => .array .boolean
  | 2 => .array .int
  | 3 => .array .long
  | 4 => .array .int
  | 5 => .array .int
  | 6 => .array .int
  | 7 => .array .int
  | 8 => .array .int
  | 9 => .array .int
  | _ => .int
theorem nmX : ∀ a, a < 11 → ∀ b, b < 11 → a ≠ b → (TX a).2.1 ≠ (TX b).2.1 := by decide +kernel
theorem tX_ok : ∀ k, k < 11 → parseFieldDescriptor (TX k).2.2.1 = some (tX k) := by decide +kernel
theorem inX : ∀ w ∈ u_ws RX TX 11, w ∈ WL := by decide +kernel
def RM : String := "WovenRowModel"
def TM : u_T := fun k => match k with
  | 0 => ("WovenRowModel", "err", "I", false)
  | 1 => ("WovenRowModel", "operations", "I", false)
  | 2 => ("WovenRowModel", "of", "[I", true)
  | 3 => ("WovenRowModel", "counts", "[I", true)
  | 4 => ("WovenRowModel", "by", "[I", true)
  | 5 => ("WovenRowModel", "numbers", "[J", true)
  | 6 => ("WovenRowModel", "deletes", "[Z", true)
  | 7 => ("WovenRowModel", "held", "[Z", true)
  | 8 => ("WovenRowModel", "row", "[I", true)
  | 9 => ("WovenRowModel", "todo", "[I", true)
  | 10 => ("WovenRowModel", "kept", "[I", true)
  | _ => ("WovenRowModel", "size", "I", false)
def tM : Nat → FieldType := fun k => match k with
  | 0 => .int
  | 1 => .int
  | 2 => .array .int
  | 3 => .array .int
  | 4 => .array .int
  | 5 => .array .long
  | 6 => .array .boolean
  | 7 => .array .boolean
  | 8 => .array .int
  | 9 => .array .int
  | 10 => .array .int
  | _ => .int
theorem nmM : ∀ a, a < 12 → ∀ b, b < 12 → a ≠ b → (TM a).2.1 ≠ (TM b).2.1 := by decide +kernel
theorem tM_ok : ∀ k, k < 12 → parseFieldDescriptor (TM k).2.2.1 = some (tM k) := by decide +kernel
theorem inM : ∀ w ∈ u_ws RM TM 12, w ∈ WL := by decide +kernel
def RL : String := "WovenRowLaw"
abbrev vCl : List vw_C := [(RX, TX, 11), (RM, TM, 12)]
abbrev vTy (cB cI cL : ClassId) : List (ClassId × FieldType) := [(cB, .boolean), (cI, .int), (cL, .long)]
abbrev b_X_init : ByteArray := prog_1_method_1_code
def y_X_init : MethodName := ⟨RX, "<init>", "()V"⟩
abbrev s_X_init : List Cond := Cond.code y_X_init b_X_init 1 none :: WL
abbrev b_X_insert : ByteArray := prog_1_method_2_code
def y_X_insert : MethodName := ⟨RX, "insert", "(IIJ)I"⟩
abbrev s_X_insert : List Cond := Cond.code y_X_insert b_X_insert 6 (some .int) :: WL
theorem hd_X_insert : y_X_insert.cls = RX ∧ y_X_insert.cls ≠ "java/lang/invoke/MethodHandle" ∧ y_X_insert.cls ≠ "java/lang/invoke/VarHandle" ∧ (parseMethodDescriptor y_X_insert.desc).map (fun d => d.parameters.length) = some 3 := by decide +kernel
abbrev b_X_delete : ByteArray := prog_1_method_3_code
def y_X_delete : MethodName := ⟨RX, "delete", "(II)I"⟩
abbrev s_X_delete : List Cond := Cond.code y_X_delete b_X_delete 3 (some .int) :: WL
theorem hd_X_delete : y_X_delete.cls = RX ∧ y_X_delete.cls ≠ "java/lang/invoke/MethodHandle" ∧ y_X_delete.cls ≠ "java/lang/invoke/VarHandle" ∧ (parseMethodDescriptor y_X_delete.desc).map (fun d => d.parameters.length) = some 2 := by decide +kernel
abbrev b_X_give : ByteArray := prog_1_method_4_code
def y_X_give : MethodName := ⟨RX, "give", "(II)V"⟩
abbrev s_X_give : List Cond := Cond.code y_X_give b_X_give 3 none :: WL
theorem hd_X_give : y_X_give.cls = RX ∧ y_X_give.cls ≠ "java/lang/invoke/MethodHandle" ∧ y_X_give.cls ≠ "java/lang/invoke/VarHandle" ∧ (parseMethodDescriptor y_X_give.desc).map (fun d => d.parameters.length) = some 2 := by decide +kernel
abbrev b_X_tell : ByteArray := prog_1_method_5_code
def y_X_tell : MethodName := ⟨RX, "tell", "(II)I"⟩
abbrev s_X_tell : List Cond := Cond.code y_X_tell b_X_tell 5 (some .int) :: WL
theorem hd_X_tell : y_X_tell.cls = RX ∧ y_X_tell.cls ≠ "java/lang/invoke/MethodHandle" ∧ y_X_tell.cls ≠ "java/lang/invoke/VarHandle" ∧ (parseMethodDescriptor y_X_tell.desc).map (fun d => d.parameters.length) = some 2 := by decide +kernel
abbrev b_X_holds : ByteArray := prog_1_method_6_code
def y_X_holds : MethodName := ⟨RX, "holds", "(II)Z"⟩
abbrev s_X_holds : List Cond := Cond.code y_X_holds b_X_holds 3 (some .boolean) :: WL
theorem hd_X_holds : y_X_holds.cls = RX ∧ y_X_holds.cls ≠ "java/lang/invoke/MethodHandle" ∧ y_X_holds.cls ≠ "java/lang/invoke/VarHandle" ∧ (parseMethodDescriptor y_X_holds.desc).map (fun d => d.parameters.length) = some 2 := by decide +kernel
abbrev b_X_at : ByteArray := prog_1_method_7_code
def y_X_at : MethodName := ⟨RX, "at", "(II)I"⟩
abbrev s_X_at : List Cond := Cond.code y_X_at b_X_at 5 (some .int) :: WL
theorem hd_X_at : y_X_at.cls = RX ∧ y_X_at.cls ≠ "java/lang/invoke/MethodHandle" ∧ y_X_at.cls ≠ "java/lang/invoke/VarHandle" ∧ (parseMethodDescriptor y_X_at.desc).map (fun d => d.parameters.length) = some 2 := by decide +kernel
abbrev b_X_place : ByteArray := prog_1_method_8_code
def y_X_place : MethodName := ⟨RX, "place", "(II)I"⟩
abbrev s_X_place : List Cond := Cond.code y_X_place b_X_place 5 (some .int) :: WL
theorem hd_X_place : y_X_place.cls = RX ∧ y_X_place.cls ≠ "java/lang/invoke/MethodHandle" ∧ y_X_place.cls ≠ "java/lang/invoke/VarHandle" ∧ (parseMethodDescriptor y_X_place.desc).map (fun d => d.parameters.length) = some 2 := by decide +kernel
abbrev b_X_value : ByteArray := prog_1_method_9_code
def y_X_value : MethodName := ⟨RX, "value", "(I)J"⟩
abbrev s_X_value : List Cond := Cond.code y_X_value b_X_value 2 (some .long) :: WL
theorem hd_X_value : y_X_value.cls = RX ∧ y_X_value.cls ≠ "java/lang/invoke/MethodHandle" ∧ y_X_value.cls ≠ "java/lang/invoke/VarHandle" ∧ (parseMethodDescriptor y_X_value.desc).map (fun d => d.parameters.length) = some 1 := by decide +kernel
abbrev b_X_stamp : ByteArray := prog_1_method_10_code
def y_X_stamp : MethodName := ⟨RX, "stamp", "(I)I"⟩
abbrev s_X_stamp : List Cond := Cond.code y_X_stamp b_X_stamp 2 (some .int) :: WL
theorem hd_X_stamp : y_X_stamp.cls = RX ∧ y_X_stamp.cls ≠ "java/lang/invoke/MethodHandle" ∧ y_X_stamp.cls ≠ "java/lang/invoke/VarHandle" ∧ (parseMethodDescriptor y_X_stamp.desc).map (fun d => d.parameters.length) = some 1 := by decide +kernel
abbrev b_X_count : ByteArray := prog_1_method_11_code
def y_X_count : MethodName := ⟨RX, "count", "(II)I"⟩
abbrev s_X_count : List Cond := Cond.code y_X_count b_X_count 3 (some .int) :: WL
theorem hd_X_count : y_X_count.cls = RX ∧ y_X_count.cls ≠ "java/lang/invoke/MethodHandle" ∧ y_X_count.cls ≠ "java/lang/invoke/VarHandle" ∧ (parseMethodDescriptor y_X_count.desc).map (fun d => d.parameters.length) = some 2 := by decide +kernel
abbrev b_X_same : ByteArray := prog_1_method_12_code
def y_X_same : MethodName := ⟨RX, "same", "(II)Z"⟩
abbrev s_X_same : List Cond := Cond.code y_X_same b_X_same 4 (some .boolean) :: WL
theorem hd_X_same : y_X_same.cls = RX ∧ y_X_same.cls ≠ "java/lang/invoke/MethodHandle" ∧ y_X_same.cls ≠ "java/lang/invoke/VarHandle" ∧ (parseMethodDescriptor y_X_same.desc).map (fun d => d.parameters.length) = some 2 := by decide +kernel
abbrev b_X_checkReplica : ByteArray := prog_1_method_13_code
def y_X_checkReplica : MethodName := ⟨RX, "checkReplica", "(I)V"⟩
abbrev s_X_checkReplica : List Cond := Cond.code y_X_checkReplica b_X_checkReplica 2 none :: WL
theorem hd_X_checkReplica : y_X_checkReplica.cls = RX ∧ y_X_checkReplica.cls ≠ "java/lang/invoke/MethodHandle" ∧ y_X_checkReplica.cls ≠ "java/lang/invoke/VarHandle" ∧ (parseMethodDescriptor y_X_checkReplica.desc).map (fun d => d.parameters.length) = some 1 := by decide +kernel
abbrev b_X_checkRoom : ByteArray := prog_1_method_14_code
def y_X_checkRoom : MethodName := ⟨RX, "checkRoom", "()V"⟩
abbrev s_X_checkRoom : List Cond := Cond.code y_X_checkRoom b_X_checkRoom 1 none :: WL
theorem hd_X_checkRoom : y_X_checkRoom.cls = RX ∧ y_X_checkRoom.cls ≠ "java/lang/invoke/MethodHandle" ∧ y_X_checkRoom.cls ≠ "java/lang/invoke/VarHandle" ∧ (parseMethodDescriptor y_X_checkRoom.desc).map (fun d => d.parameters.length) = some 0 := by decide +kernel
abbrev b_X_checkOperation : ByteArray := prog_1_method_15_code
def y_X_checkOperation : MethodName := ⟨RX, "checkOperation", "(I)V"⟩
abbrev s_X_checkOperation : List Cond := Cond.code y_X_checkOperation b_X_checkOperation 2 none :: WL
theorem hd_X_checkOperation : y_X_checkOperation.cls = RX ∧ y_X_checkOperation.cls ≠ "java/lang/invoke/MethodHandle" ∧ y_X_checkOperation.cls ≠ "java/lang/invoke/VarHandle" ∧ (parseMethodDescriptor y_X_checkOperation.desc).map (fun d => d.parameters.length) = some 1 := by decide +kernel
abbrev b_X_checkHeldElement : ByteArray := prog_1_method_16_code
def y_X_checkHeldElement : MethodName := ⟨RX, "checkHeldElement", "(II)V"⟩
abbrev s_X_checkHeldElement : List Cond := Cond.code y_X_checkHeldElement b_X_checkHeldElement 3 none :: WL
theorem hd_X_checkHeldElement : y_X_checkHeldElement.cls = RX ∧ y_X_checkHeldElement.cls ≠ "java/lang/invoke/MethodHandle" ∧ y_X_checkHeldElement.cls ≠ "java/lang/invoke/VarHandle" ∧ (parseMethodDescriptor y_X_checkHeldElement.desc).map (fun d => d.parameters.length) = some 2 := by decide +kernel
abbrev b_X_isOperation : ByteArray := prog_1_method_17_code
def y_X_isOperation : MethodName := ⟨RX, "isOperation", "(I)Z"⟩
abbrev s_X_isOperation : List Cond := Cond.code y_X_isOperation b_X_isOperation 2 (some .boolean) :: WL
theorem hd_X_isOperation : y_X_isOperation.cls = RX ∧ y_X_isOperation.cls ≠ "java/lang/invoke/MethodHandle" ∧ y_X_isOperation.cls ≠ "java/lang/invoke/VarHandle" ∧ (parseMethodDescriptor y_X_isOperation.desc).map (fun d => d.parameters.length) = some 1 := by decide +kernel
abbrev b_X_isElement : ByteArray := prog_1_method_18_code
def y_X_isElement : MethodName := ⟨RX, "isElement", "(I)Z"⟩
abbrev s_X_isElement : List Cond := Cond.code y_X_isElement b_X_isElement 2 (some .boolean) :: WL
theorem hd_X_isElement : y_X_isElement.cls = RX ∧ y_X_isElement.cls ≠ "java/lang/invoke/MethodHandle" ∧ y_X_isElement.cls ≠ "java/lang/invoke/VarHandle" ∧ (parseMethodDescriptor y_X_isElement.desc).map (fun d => d.parameters.length) = some 1 := by decide +kernel
abbrev b_X_isHeld : ByteArray := prog_1_method_19_code
def y_X_isHeld : MethodName := ⟨RX, "isHeld", "(II)Z"⟩
abbrev s_X_isHeld : List Cond := Cond.code y_X_isHeld b_X_isHeld 3 (some .boolean) :: WL
theorem hd_X_isHeld : y_X_isHeld.cls = RX ∧ y_X_isHeld.cls ≠ "java/lang/invoke/MethodHandle" ∧ y_X_isHeld.cls ≠ "java/lang/invoke/VarHandle" ∧ (parseMethodDescriptor y_X_isHeld.desc).map (fun d => d.parameters.length) = some 2 := by decide +kernel
abbrev b_X_isSeen : ByteArray := prog_1_method_20_code
def y_X_isSeen : MethodName := ⟨RX, "isSeen", "(II)Z"⟩
abbrev s_X_isSeen : List Cond := Cond.code y_X_isSeen b_X_isSeen 3 (some .boolean) :: WL
theorem hd_X_isSeen : y_X_isSeen.cls = RX ∧ y_X_isSeen.cls ≠ "java/lang/invoke/MethodHandle" ∧ y_X_isSeen.cls ≠ "java/lang/invoke/VarHandle" ∧ (parseMethodDescriptor y_X_isSeen.desc).map (fun d => d.parameters.length) = some 2 := by decide +kernel
abbrev b_X_bitOf : ByteArray := prog_1_method_21_code
def y_X_bitOf : MethodName := ⟨RX, "bitOf", "(I)I"⟩
abbrev s_X_bitOf : List Cond := Cond.code y_X_bitOf b_X_bitOf 1 (some .int) :: WL
theorem hd_X_bitOf : y_X_bitOf.cls = RX ∧ y_X_bitOf.cls ≠ "java/lang/invoke/MethodHandle" ∧ y_X_bitOf.cls ≠ "java/lang/invoke/VarHandle" ∧ (parseMethodDescriptor y_X_bitOf.desc).map (fun d => d.parameters.length) = some 1 := by decide +kernel
abbrev b_X_make : ByteArray := prog_1_method_22_code
def y_X_make : MethodName := ⟨RX, "make", "(IIZ)I"⟩
abbrev s_X_make : List Cond := Cond.code y_X_make b_X_make 5 (some .int) :: WL
theorem hd_X_make : y_X_make.cls = RX ∧ y_X_make.cls ≠ "java/lang/invoke/MethodHandle" ∧ y_X_make.cls ≠ "java/lang/invoke/VarHandle" ∧ (parseMethodDescriptor y_X_make.desc).map (fun d => d.parameters.length) = some 3 := by decide +kernel
abbrev b_X_take : ByteArray := prog_1_method_23_code
def y_X_take : MethodName := ⟨RX, "take", "(II)V"⟩
abbrev s_X_take : List Cond := Cond.code y_X_take b_X_take 3 none :: WL
theorem hd_X_take : y_X_take.cls = RX ∧ y_X_take.cls ≠ "java/lang/invoke/MethodHandle" ∧ y_X_take.cls ≠ "java/lang/invoke/VarHandle" ∧ (parseMethodDescriptor y_X_take.desc).map (fun d => d.parameters.length) = some 2 := by decide +kernel
abbrev b_X_weave : ByteArray := prog_1_method_24_code
def y_X_weave : MethodName := ⟨RX, "weave", "(I)V"⟩
abbrev s_X_weave : List Cond := Cond.code y_X_weave b_X_weave 4 none :: WL
theorem hd_X_weave : y_X_weave.cls = RX ∧ y_X_weave.cls ≠ "java/lang/invoke/MethodHandle" ∧ y_X_weave.cls ≠ "java/lang/invoke/VarHandle" ∧ (parseMethodDescriptor y_X_weave.desc).map (fun d => d.parameters.length) = some 1 := by decide +kernel
abbrev b_X_positionBehind : ByteArray := prog_1_method_25_code
def y_X_positionBehind : MethodName := ⟨RX, "positionBehind", "(I)I"⟩
abbrev s_X_positionBehind : List Cond := Cond.code y_X_positionBehind b_X_positionBehind 3 (some .int) :: WL
theorem hd_X_positionBehind : y_X_positionBehind.cls = RX ∧ y_X_positionBehind.cls ≠ "java/lang/invoke/MethodHandle" ∧ y_X_positionBehind.cls ≠ "java/lang/invoke/VarHandle" ∧ (parseMethodDescriptor y_X_positionBehind.desc).map (fun d => d.parameters.length) = some 1 := by decide +kernel
abbrev b_X_isGreater : ByteArray := prog_1_method_26_code
def y_X_isGreater : MethodName := ⟨RX, "isGreater", "(II)Z"⟩
abbrev s_X_isGreater : List Cond := Cond.code y_X_isGreater b_X_isGreater 3 (some .boolean) :: WL
theorem hd_X_isGreater : y_X_isGreater.cls = RX ∧ y_X_isGreater.cls ≠ "java/lang/invoke/MethodHandle" ∧ y_X_isGreater.cls ≠ "java/lang/invoke/VarHandle" ∧ (parseMethodDescriptor y_X_isGreater.desc).map (fun d => d.parameters.length) = some 2 := by decide +kernel
abbrev b_X_countHeldOperations : ByteArray := prog_1_method_27_code
def y_X_countHeldOperations : MethodName := ⟨RX, "countHeldOperations", "(I)I"⟩
abbrev s_X_countHeldOperations : List Cond := Cond.code y_X_countHeldOperations b_X_countHeldOperations 4 (some .int) :: WL
theorem hd_X_countHeldOperations : y_X_countHeldOperations.cls = RX ∧ y_X_countHeldOperations.cls ≠ "java/lang/invoke/MethodHandle" ∧ y_X_countHeldOperations.cls ≠ "java/lang/invoke/VarHandle" ∧ (parseMethodDescriptor y_X_countHeldOperations.desc).map (fun d => d.parameters.length) = some 1 := by decide +kernel
abbrev b_X_countHeldElements : ByteArray := prog_1_method_28_code
def y_X_countHeldElements : MethodName := ⟨RX, "countHeldElements", "(I)I"⟩
abbrev s_X_countHeldElements : List Cond := Cond.code y_X_countHeldElements b_X_countHeldElements 4 (some .int) :: WL
theorem hd_X_countHeldElements : y_X_countHeldElements.cls = RX ∧ y_X_countHeldElements.cls ≠ "java/lang/invoke/MethodHandle" ∧ y_X_countHeldElements.cls ≠ "java/lang/invoke/VarHandle" ∧ (parseMethodDescriptor y_X_countHeldElements.desc).map (fun d => d.parameters.length) = some 1 := by decide +kernel
abbrev b_X_countSeen : ByteArray := prog_1_method_29_code
def y_X_countSeen : MethodName := ⟨RX, "countSeen", "(I)I"⟩
abbrev s_X_countSeen : List Cond := Cond.code y_X_countSeen b_X_countSeen 4 (some .int) :: WL
theorem hd_X_countSeen : y_X_countSeen.cls = RX ∧ y_X_countSeen.cls ≠ "java/lang/invoke/MethodHandle" ∧ y_X_countSeen.cls ≠ "java/lang/invoke/VarHandle" ∧ (parseMethodDescriptor y_X_countSeen.desc).map (fun d => d.parameters.length) = some 1 := by decide +kernel
abbrev b_M_init : ByteArray := prog_3_method_1_code
def y_M_init : MethodName := ⟨RM, "<init>", "()V"⟩
abbrev s_M_init : List Cond := Cond.code y_M_init b_M_init 1 none :: WL
abbrev b_M_thrown : ByteArray := prog_3_method_2_code
def y_M_thrown : MethodName := ⟨RM, "thrown", "()I"⟩
abbrev s_M_thrown : List Cond := Cond.code y_M_thrown b_M_thrown 1 (some .int) :: WL
theorem hd_M_thrown : y_M_thrown.cls = RM ∧ y_M_thrown.cls ≠ "java/lang/invoke/MethodHandle" ∧ y_M_thrown.cls ≠ "java/lang/invoke/VarHandle" ∧ (parseMethodDescriptor y_M_thrown.desc).map (fun d => d.parameters.length) = some 0 := by decide +kernel
abbrev b_M_in : ByteArray := prog_3_method_3_code
def y_M_in : MethodName := ⟨RM, "in", "(JJJ)Z"⟩
abbrev s_M_in : List Cond := Cond.code y_M_in b_M_in 6 (some .boolean) :: WL
theorem hd_M_in : y_M_in.cls = RM ∧ y_M_in.cls ≠ "java/lang/invoke/MethodHandle" ∧ y_M_in.cls ≠ "java/lang/invoke/VarHandle" ∧ (parseMethodDescriptor y_M_in.desc).map (fun d => d.parameters.length) = some 3 := by decide +kernel
abbrev b_M_fails : ByteArray := prog_3_method_4_code
def y_M_fails : MethodName := ⟨RM, "fails", "(ZI)Z"⟩
abbrev s_M_fails : List Cond := Cond.code y_M_fails b_M_fails 3 (some .boolean) :: WL
theorem hd_M_fails : y_M_fails.cls = RM ∧ y_M_fails.cls ≠ "java/lang/invoke/MethodHandle" ∧ y_M_fails.cls ≠ "java/lang/invoke/VarHandle" ∧ (parseMethodDescriptor y_M_fails.desc).map (fun d => d.parameters.length) = some 2 := by decide +kernel
abbrev b_M_isReplica : ByteArray := prog_3_method_5_code
def y_M_isReplica : MethodName := ⟨RM, "isReplica", "(I)Z"⟩
abbrev s_M_isReplica : List Cond := Cond.code y_M_isReplica b_M_isReplica 1 (some .boolean) :: WL
theorem hd_M_isReplica : y_M_isReplica.cls = RM ∧ y_M_isReplica.cls ≠ "java/lang/invoke/MethodHandle" ∧ y_M_isReplica.cls ≠ "java/lang/invoke/VarHandle" ∧ (parseMethodDescriptor y_M_isReplica.desc).map (fun d => d.parameters.length) = some 1 := by decide +kernel
abbrev b_M_isThere : ByteArray := prog_3_method_6_code
def y_M_isThere : MethodName := ⟨RM, "isThere", "(I)Z"⟩
abbrev s_M_isThere : List Cond := Cond.code y_M_isThere b_M_isThere 2 (some .boolean) :: WL
theorem hd_M_isThere : y_M_isThere.cls = RM ∧ y_M_isThere.cls ≠ "java/lang/invoke/MethodHandle" ∧ y_M_isThere.cls ≠ "java/lang/invoke/VarHandle" ∧ (parseMethodDescriptor y_M_isThere.desc).map (fun d => d.parameters.length) = some 1 := by decide +kernel
abbrev b_M_has : ByteArray := prog_3_method_7_code
def y_M_has : MethodName := ⟨RM, "has", "(II)Z"⟩
abbrev s_M_has : List Cond := Cond.code y_M_has b_M_has 3 (some .boolean) :: WL
theorem hd_M_has : y_M_has.cls = RM ∧ y_M_has.cls ≠ "java/lang/invoke/MethodHandle" ∧ y_M_has.cls ≠ "java/lang/invoke/VarHandle" ∧ (parseMethodDescriptor y_M_has.desc).map (fun d => d.parameters.length) = some 2 := by decide +kernel
abbrev b_M_hasElement : ByteArray := prog_3_method_8_code
def y_M_hasElement : MethodName := ⟨RM, "hasElement", "(II)Z"⟩
abbrev s_M_hasElement : List Cond := Cond.code y_M_hasElement b_M_hasElement 3 (some .boolean) :: WL
theorem hd_M_hasElement : y_M_hasElement.cls = RM ∧ y_M_hasElement.cls ≠ "java/lang/invoke/MethodHandle" ∧ y_M_hasElement.cls ≠ "java/lang/invoke/VarHandle" ∧ (parseMethodDescriptor y_M_hasElement.desc).map (fun d => d.parameters.length) = some 2 := by decide +kernel
abbrev b_M_greatest : ByteArray := prog_3_method_9_code
def y_M_greatest : MethodName := ⟨RM, "greatest", "(I)I"⟩
abbrev s_M_greatest : List Cond := Cond.code y_M_greatest b_M_greatest 4 (some .int) :: WL
theorem hd_M_greatest : y_M_greatest.cls = RM ∧ y_M_greatest.cls ≠ "java/lang/invoke/MethodHandle" ∧ y_M_greatest.cls ≠ "java/lang/invoke/VarHandle" ∧ (parseMethodDescriptor y_M_greatest.desc).map (fun d => d.parameters.length) = some 1 := by decide +kernel
abbrev b_M_made : ByteArray := prog_3_method_10_code
def y_M_made : MethodName := ⟨RM, "made", "(IIJZ)I"⟩
abbrev s_M_made : List Cond := Cond.code y_M_made b_M_made 8 (some .int) :: WL
theorem hd_M_made : y_M_made.cls = RM ∧ y_M_made.cls ≠ "java/lang/invoke/MethodHandle" ∧ y_M_made.cls ≠ "java/lang/invoke/VarHandle" ∧ (parseMethodDescriptor y_M_made.desc).map (fun d => d.parameters.length) = some 4 := by decide +kernel
abbrev b_M_insert : ByteArray := prog_3_method_11_code
def y_M_insert : MethodName := ⟨RM, "insert", "(IIJ)I"⟩
abbrev s_M_insert : List Cond := Cond.code y_M_insert b_M_insert 5 (some .int) :: WL
theorem hd_M_insert : y_M_insert.cls = RM ∧ y_M_insert.cls ≠ "java/lang/invoke/MethodHandle" ∧ y_M_insert.cls ≠ "java/lang/invoke/VarHandle" ∧ (parseMethodDescriptor y_M_insert.desc).map (fun d => d.parameters.length) = some 3 := by decide +kernel
abbrev b_M_delete : ByteArray := prog_3_method_12_code
def y_M_delete : MethodName := ⟨RM, "delete", "(II)I"⟩
abbrev s_M_delete : List Cond := Cond.code y_M_delete b_M_delete 3 (some .int) :: WL
theorem hd_M_delete : y_M_delete.cls = RM ∧ y_M_delete.cls ≠ "java/lang/invoke/MethodHandle" ∧ y_M_delete.cls ≠ "java/lang/invoke/VarHandle" ∧ (parseMethodDescriptor y_M_delete.desc).map (fun d => d.parameters.length) = some 2 := by decide +kernel
abbrev b_M_give : ByteArray := prog_3_method_13_code
def y_M_give : MethodName := ⟨RM, "give", "(II)V"⟩
abbrev s_M_give : List Cond := Cond.code y_M_give b_M_give 3 none :: WL
theorem hd_M_give : y_M_give.cls = RM ∧ y_M_give.cls ≠ "java/lang/invoke/MethodHandle" ∧ y_M_give.cls ≠ "java/lang/invoke/VarHandle" ∧ (parseMethodDescriptor y_M_give.desc).map (fun d => d.parameters.length) = some 2 := by decide +kernel
abbrev b_M_tell : ByteArray := prog_3_method_14_code
def y_M_tell : MethodName := ⟨RM, "tell", "(II)I"⟩
abbrev s_M_tell : List Cond := Cond.code y_M_tell b_M_tell 5 (some .int) :: WL
theorem hd_M_tell : y_M_tell.cls = RM ∧ y_M_tell.cls ≠ "java/lang/invoke/MethodHandle" ∧ y_M_tell.cls ≠ "java/lang/invoke/VarHandle" ∧ (parseMethodDescriptor y_M_tell.desc).map (fun d => d.parameters.length) = some 2 := by decide +kernel
abbrev b_M_holds : ByteArray := prog_3_method_15_code
def y_M_holds : MethodName := ⟨RM, "holds", "(II)Z"⟩
abbrev s_M_holds : List Cond := Cond.code y_M_holds b_M_holds 3 (some .boolean) :: WL
theorem hd_M_holds : y_M_holds.cls = RM ∧ y_M_holds.cls ≠ "java/lang/invoke/MethodHandle" ∧ y_M_holds.cls ≠ "java/lang/invoke/VarHandle" ∧ (parseMethodDescriptor y_M_holds.desc).map (fun d => d.parameters.length) = some 2 := by decide +kernel
abbrev b_M_isLess : ByteArray := prog_3_method_16_code
def y_M_isLess : MethodName := ⟨RM, "isLess", "(II)Z"⟩
abbrev s_M_isLess : List Cond := Cond.code y_M_isLess b_M_isLess 3 (some .boolean) :: WL
theorem hd_M_isLess : y_M_isLess.cls = RM ∧ y_M_isLess.cls ≠ "java/lang/invoke/MethodHandle" ∧ y_M_isLess.cls ≠ "java/lang/invoke/VarHandle" ∧ (parseMethodDescriptor y_M_isLess.desc).map (fun d => d.parameters.length) = some 2 := by decide +kernel
abbrev b_M_next : ByteArray := prog_3_method_17_code
def y_M_next : MethodName := ⟨RM, "next", "(III)I"⟩
abbrev s_M_next : List Cond := Cond.code y_M_next b_M_next 6 (some .int) :: WL
theorem hd_M_next : y_M_next.cls = RM ∧ y_M_next.cls ≠ "java/lang/invoke/MethodHandle" ∧ y_M_next.cls ≠ "java/lang/invoke/VarHandle" ∧ (parseMethodDescriptor y_M_next.desc).map (fun d => d.parameters.length) = some 3 := by decide +kernel
abbrev b_M_look : ByteArray := prog_3_method_18_code
def y_M_look : MethodName := ⟨RM, "look", "(I)V"⟩
abbrev s_M_look : List Cond := Cond.code y_M_look b_M_look 5 none :: WL
theorem hd_M_look : y_M_look.cls = RM ∧ y_M_look.cls ≠ "java/lang/invoke/MethodHandle" ∧ y_M_look.cls ≠ "java/lang/invoke/VarHandle" ∧ (parseMethodDescriptor y_M_look.desc).map (fun d => d.parameters.length) = some 1 := by decide +kernel
abbrev b_M_isSeen : ByteArray := prog_3_method_19_code
def y_M_isSeen : MethodName := ⟨RM, "isSeen", "(II)Z"⟩
abbrev s_M_isSeen : List Cond := Cond.code y_M_isSeen b_M_isSeen 4 (some .boolean) :: WL
theorem hd_M_isSeen : y_M_isSeen.cls = RM ∧ y_M_isSeen.cls ≠ "java/lang/invoke/MethodHandle" ∧ y_M_isSeen.cls ≠ "java/lang/invoke/VarHandle" ∧ (parseMethodDescriptor y_M_isSeen.desc).map (fun d => d.parameters.length) = some 2 := by decide +kernel
abbrev b_M_lookSeen : ByteArray := prog_3_method_20_code
def y_M_lookSeen : MethodName := ⟨RM, "lookSeen", "(I)V"⟩
abbrev s_M_lookSeen : List Cond := Cond.code y_M_lookSeen b_M_lookSeen 4 none :: WL
theorem hd_M_lookSeen : y_M_lookSeen.cls = RM ∧ y_M_lookSeen.cls ≠ "java/lang/invoke/MethodHandle" ∧ y_M_lookSeen.cls ≠ "java/lang/invoke/VarHandle" ∧ (parseMethodDescriptor y_M_lookSeen.desc).map (fun d => d.parameters.length) = some 1 := by decide +kernel
abbrev b_M_at : ByteArray := prog_3_method_21_code
def y_M_at : MethodName := ⟨RM, "at", "(II)I"⟩
abbrev s_M_at : List Cond := Cond.code y_M_at b_M_at 3 (some .int) :: WL
theorem hd_M_at : y_M_at.cls = RM ∧ y_M_at.cls ≠ "java/lang/invoke/MethodHandle" ∧ y_M_at.cls ≠ "java/lang/invoke/VarHandle" ∧ (parseMethodDescriptor y_M_at.desc).map (fun d => d.parameters.length) = some 2 := by decide +kernel
abbrev b_M_place : ByteArray := prog_3_method_22_code
def y_M_place : MethodName := ⟨RM, "place", "(II)I"⟩
abbrev s_M_place : List Cond := Cond.code y_M_place b_M_place 4 (some .int) :: WL
theorem hd_M_place : y_M_place.cls = RM ∧ y_M_place.cls ≠ "java/lang/invoke/MethodHandle" ∧ y_M_place.cls ≠ "java/lang/invoke/VarHandle" ∧ (parseMethodDescriptor y_M_place.desc).map (fun d => d.parameters.length) = some 2 := by decide +kernel
abbrev b_M_value : ByteArray := prog_3_method_23_code
def y_M_value : MethodName := ⟨RM, "value", "(I)J"⟩
abbrev s_M_value : List Cond := Cond.code y_M_value b_M_value 2 (some .long) :: WL
theorem hd_M_value : y_M_value.cls = RM ∧ y_M_value.cls ≠ "java/lang/invoke/MethodHandle" ∧ y_M_value.cls ≠ "java/lang/invoke/VarHandle" ∧ (parseMethodDescriptor y_M_value.desc).map (fun d => d.parameters.length) = some 1 := by decide +kernel
abbrev b_M_stamp : ByteArray := prog_3_method_24_code
def y_M_stamp : MethodName := ⟨RM, "stamp", "(I)I"⟩
abbrev s_M_stamp : List Cond := Cond.code y_M_stamp b_M_stamp 2 (some .int) :: WL
theorem hd_M_stamp : y_M_stamp.cls = RM ∧ y_M_stamp.cls ≠ "java/lang/invoke/MethodHandle" ∧ y_M_stamp.cls ≠ "java/lang/invoke/VarHandle" ∧ (parseMethodDescriptor y_M_stamp.desc).map (fun d => d.parameters.length) = some 1 := by decide +kernel
abbrev b_M_count : ByteArray := prog_3_method_25_code
def y_M_count : MethodName := ⟨RM, "count", "(II)I"⟩
abbrev s_M_count : List Cond := Cond.code y_M_count b_M_count 5 (some .int) :: WL
theorem hd_M_count : y_M_count.cls = RM ∧ y_M_count.cls ≠ "java/lang/invoke/MethodHandle" ∧ y_M_count.cls ≠ "java/lang/invoke/VarHandle" ∧ (parseMethodDescriptor y_M_count.desc).map (fun d => d.parameters.length) = some 2 := by decide +kernel
abbrev b_M_same : ByteArray := prog_3_method_26_code
def y_M_same : MethodName := ⟨RM, "same", "(II)Z"⟩
abbrev s_M_same : List Cond := Cond.code y_M_same b_M_same 5 (some .boolean) :: WL
theorem hd_M_same : y_M_same.cls = RM ∧ y_M_same.cls ≠ "java/lang/invoke/MethodHandle" ∧ y_M_same.cls ≠ "java/lang/invoke/VarHandle" ∧ (parseMethodDescriptor y_M_same.desc).map (fun d => d.parameters.length) = some 2 := by decide +kernel
abbrev b_L_insert : ByteArray := method_3_code
def y_L_insert : MethodName := ⟨RL, "insert", "(LWovenRow;IIJ[J)I"⟩
abbrev s_L_insert : List Cond := Cond.codeWith y_L_insert b_L_insert 7 (some .int) [(0, 12, 15, 13), (0, 12, 19, 15), (0, 12, 23, 17)] :: WL
theorem hd_L_insert : y_L_insert.cls = RL ∧ y_L_insert.cls ≠ "java/lang/invoke/MethodHandle" ∧ y_L_insert.cls ≠ "java/lang/invoke/VarHandle" ∧ (parseMethodDescriptor y_L_insert.desc).map (fun d => d.parameters.length) = some 5 := by decide +kernel
abbrev b_L_delete : ByteArray := method_4_code
def y_L_delete : MethodName := ⟨RL, "delete", "(LWovenRow;II[J)I"⟩
abbrev s_L_delete : List Cond := Cond.codeWith y_L_delete b_L_delete 5 (some .int) [(0, 10, 13, 13), (0, 10, 17, 15), (0, 10, 21, 17)] :: WL
theorem hd_L_delete : y_L_delete.cls = RL ∧ y_L_delete.cls ≠ "java/lang/invoke/MethodHandle" ∧ y_L_delete.cls ≠ "java/lang/invoke/VarHandle" ∧ (parseMethodDescriptor y_L_delete.desc).map (fun d => d.parameters.length) = some 4 := by decide +kernel
abbrev b_L_give : ByteArray := method_5_code
def y_L_give : MethodName := ⟨RL, "give", "(LWovenRow;II)I"⟩
abbrev s_L_give : List Cond := Cond.codeWith y_L_give b_L_give 4 (some .int) [(0, 6, 9, 13), (0, 6, 12, 15), (0, 6, 15, 17)] :: WL
theorem hd_L_give : y_L_give.cls = RL ∧ y_L_give.cls ≠ "java/lang/invoke/MethodHandle" ∧ y_L_give.cls ≠ "java/lang/invoke/VarHandle" ∧ (parseMethodDescriptor y_L_give.desc).map (fun d => d.parameters.length) = some 3 := by decide +kernel
abbrev b_L_tell : ByteArray := method_6_code
def y_L_tell : MethodName := ⟨RL, "tell", "(LWovenRow;II[J)I"⟩
abbrev s_L_tell : List Cond := Cond.codeWith y_L_tell b_L_tell 5 (some .int) [(0, 10, 13, 13)] :: WL
theorem hd_L_tell : y_L_tell.cls = RL ∧ y_L_tell.cls ≠ "java/lang/invoke/MethodHandle" ∧ y_L_tell.cls ≠ "java/lang/invoke/VarHandle" ∧ (parseMethodDescriptor y_L_tell.desc).map (fun d => d.parameters.length) = some 4 := by decide +kernel
abbrev b_L_holds : ByteArray := method_7_code
def y_L_holds : MethodName := ⟨RL, "holds", "(LWovenRow;II[J)I"⟩
abbrev s_L_holds : List Cond := Cond.codeWith y_L_holds b_L_holds 5 (some .int) [(0, 17, 20, 13), (0, 17, 24, 15)] :: WL
theorem hd_L_holds : y_L_holds.cls = RL ∧ y_L_holds.cls ≠ "java/lang/invoke/MethodHandle" ∧ y_L_holds.cls ≠ "java/lang/invoke/VarHandle" ∧ (parseMethodDescriptor y_L_holds.desc).map (fun d => d.parameters.length) = some 4 := by decide +kernel
abbrev b_L_at : ByteArray := method_8_code
def y_L_at : MethodName := ⟨RL, "at", "(LWovenRow;II[J)I"⟩
abbrev s_L_at : List Cond := Cond.codeWith y_L_at b_L_at 5 (some .int) [(0, 10, 13, 13)] :: WL
theorem hd_L_at : y_L_at.cls = RL ∧ y_L_at.cls ≠ "java/lang/invoke/MethodHandle" ∧ y_L_at.cls ≠ "java/lang/invoke/VarHandle" ∧ (parseMethodDescriptor y_L_at.desc).map (fun d => d.parameters.length) = some 4 := by decide +kernel
abbrev b_L_place : ByteArray := method_9_code
def y_L_place : MethodName := ⟨RL, "place", "(LWovenRow;II[J)I"⟩
abbrev s_L_place : List Cond := Cond.codeWith y_L_place b_L_place 5 (some .int) [(0, 10, 13, 13), (0, 10, 17, 15), (0, 10, 21, 17)] :: WL
theorem hd_L_place : y_L_place.cls = RL ∧ y_L_place.cls ≠ "java/lang/invoke/MethodHandle" ∧ y_L_place.cls ≠ "java/lang/invoke/VarHandle" ∧ (parseMethodDescriptor y_L_place.desc).map (fun d => d.parameters.length) = some 4 := by decide +kernel
abbrev b_L_value : ByteArray := method_10_code
def y_L_value : MethodName := ⟨RL, "value", "(LWovenRow;I[J)I"⟩
abbrev s_L_value : List Cond := Cond.codeWith y_L_value b_L_value 4 (some .int) [(0, 8, 11, 15)] :: WL
theorem hd_L_value : y_L_value.cls = RL ∧ y_L_value.cls ≠ "java/lang/invoke/MethodHandle" ∧ y_L_value.cls ≠ "java/lang/invoke/VarHandle" ∧ (parseMethodDescriptor y_L_value.desc).map (fun d => d.parameters.length) = some 3 := by decide +kernel
abbrev b_L_stamp : ByteArray := method_11_code
def y_L_stamp : MethodName := ⟨RL, "stamp", "(LWovenRow;I[J)I"⟩
abbrev s_L_stamp : List Cond := Cond.codeWith y_L_stamp b_L_stamp 4 (some .int) [(0, 9, 12, 15)] :: WL
theorem hd_L_stamp : y_L_stamp.cls = RL ∧ y_L_stamp.cls ≠ "java/lang/invoke/MethodHandle" ∧ y_L_stamp.cls ≠ "java/lang/invoke/VarHandle" ∧ (parseMethodDescriptor y_L_stamp.desc).map (fun d => d.parameters.length) = some 3 := by decide +kernel
abbrev b_L_count : ByteArray := method_12_code
def y_L_count : MethodName := ⟨RL, "count", "(LWovenRow;II[J)I"⟩
abbrev s_L_count : List Cond := Cond.codeWith y_L_count b_L_count 5 (some .int) [(0, 10, 13, 13)] :: WL
theorem hd_L_count : y_L_count.cls = RL ∧ y_L_count.cls ≠ "java/lang/invoke/MethodHandle" ∧ y_L_count.cls ≠ "java/lang/invoke/VarHandle" ∧ (parseMethodDescriptor y_L_count.desc).map (fun d => d.parameters.length) = some 4 := by decide +kernel
abbrev b_L_same : ByteArray := method_13_code
def y_L_same : MethodName := ⟨RL, "same", "(LWovenRow;II[J)I"⟩
abbrev s_L_same : List Cond := Cond.codeWith y_L_same b_L_same 5 (some .int) [(0, 17, 20, 13)] :: WL
theorem hd_L_same : y_L_same.cls = RL ∧ y_L_same.cls ≠ "java/lang/invoke/MethodHandle" ∧ y_L_same.cls ≠ "java/lang/invoke/VarHandle" ∧ (parseMethodDescriptor y_L_same.desc).map (fun d => d.parameters.length) = some 4 := by decide +kernel
abbrev b_L_law : ByteArray := code
def y_L_law : MethodName := ⟨RL, "law", "([I)Z"⟩
end
section
theorem d_X_init_0 : decode b_X_init 0 = .ok (.aload_n 0, 1) := by decide +kernel
theorem d_X_init_1 : decode b_X_init 1 = .ok (.invokespecial 1, 3) := by decide +kernel
theorem d_X_init_4 : decode b_X_init 4 = .ok (.aload_n 0, 1) := by decide +kernel
theorem d_X_init_5 : decode b_X_init 5 = .ok (.iconst 0, 1) := by decide +kernel
theorem d_X_init_6 : decode b_X_init 6 = .ok (.putfield 7, 3) := by decide +kernel
theorem d_X_init_9 : decode b_X_init 9 = .ok (.aload_n 0, 1) := by decide +kernel
theorem d_X_init_10 : decode b_X_init 10 = .ok (.sipush 160, 3) := by decide +kernel
theorem d_X_init_13 : decode b_X_init 13 = .ok (.newarray .boolean, 2) := by decide +kernel
theorem d_X_init_15 : decode b_X_init 15 = .ok (.putfield 13, 3) := by decide +kernel
theorem d_X_init_18 : decode b_X_init 18 = .ok (.aload_n 0, 1) := by decide +kernel
theorem d_X_init_19 : decode b_X_init 19 = .ok (.sipush 160, 3) := by decide +kernel
theorem d_X_init_22 : decode b_X_init 22 = .ok (.newarray .int, 2) := by decide +kernel
theorem d_X_init_24 : decode b_X_init 24 = .ok (.putfield 17, 3) := by decide +kernel
theorem d_X_init_27 : decode b_X_init 27 = .ok (.aload_n 0, 1) := by decide +kernel
theorem d_X_init_28 : decode b_X_init 28 = .ok (.sipush 160, 3) := by decide +kernel
theorem d_X_init_31 : decode b_X_init 31 = .ok (.newarray .long, 2) := by decide +kernel
theorem d_X_init_33 : decode b_X_init 33 = .ok (.putfield 21, 3) := by decide +kernel
theorem d_X_init_36 : decode b_X_init 36 = .ok (.aload_n 0, 1) := by decide +kernel
theorem d_X_init_37 : decode b_X_init 37 = .ok (.sipush 160, 3) := by decide +kernel
theorem d_X_init_40 : decode b_X_init 40 = .ok (.newarray .int, 2) := by decide +kernel
theorem d_X_init_42 : decode b_X_init 42 = .ok (.putfield 25, 3) := by decide +kernel
theorem d_X_init_45 : decode b_X_init 45 = .ok (.aload_n 0, 1) := by decide +kernel
theorem d_X_init_46 : decode b_X_init 46 = .ok (.sipush 160, 3) := by decide +kernel
theorem d_X_init_49 : decode b_X_init 49 = .ok (.newarray .int, 2) := by decide +kernel
theorem d_X_init_51 : decode b_X_init 51 = .ok (.putfield 28, 3) := by decide +kernel
theorem d_X_init_54 : decode b_X_init 54 = .ok (.aload_n 0, 1) := by decide +kernel
theorem d_X_init_55 : decode b_X_init 55 = .ok (.sipush 160, 3) := by decide +kernel
theorem d_X_init_58 : decode b_X_init 58 = .ok (.newarray .int, 2) := by decide +kernel
theorem d_X_init_60 : decode b_X_init 60 = .ok (.putfield 31, 3) := by decide +kernel
theorem d_X_init_63 : decode b_X_init 63 = .ok (.aload_n 0, 1) := by decide +kernel
theorem d_X_init_64 : decode b_X_init 64 = .ok (.sipush 160, 3) := by decide +kernel
theorem d_X_init_67 : decode b_X_init 67 = .ok (.newarray .int, 2) := by decide +kernel
theorem d_X_init_69 : decode b_X_init 69 = .ok (.putfield 34, 3) := by decide +kernel
theorem d_X_init_72 : decode b_X_init 72 = .ok (.aload_n 0, 1) := by decide +kernel
theorem d_X_init_73 : decode b_X_init 73 = .ok (.iconst 4, 1) := by decide +kernel
theorem d_X_init_74 : decode b_X_init 74 = .ok (.newarray .int, 2) := by decide +kernel
theorem d_X_init_76 : decode b_X_init 76 = .ok (.putfield 37, 3) := by decide +kernel
theorem d_X_init_79 : decode b_X_init 79 = .ok (.aload_n 0, 1) := by decide +kernel
theorem d_X_init_80 : decode b_X_init 80 = .ok (.sipush 160, 3) := by decide +kernel
theorem d_X_init_83 : decode b_X_init 83 = .ok (.newarray .int, 2) := by decide +kernel
theorem d_X_init_85 : decode b_X_init 85 = .ok (.putfield 40, 3) := by decide +kernel
theorem d_X_init_88 : decode b_X_init 88 = .ok (.aload_n 0, 1) := by decide +kernel
theorem d_X_init_89 : decode b_X_init 89 = .ok (.iconst 0, 1) := by decide +kernel
theorem d_X_init_90 : decode b_X_init 90 = .ok (.putfield 43, 3) := by decide +kernel
theorem d_X_init_93 : decode b_X_init 93 = .ok (.return_, 1) := by decide +kernel
theorem d_X_insert_0 : decode b_X_insert 0 = .ok (.aload_n 0, 1) := by decide +kernel
theorem d_X_insert_1 : decode b_X_insert 1 = .ok (.iload_n 1, 1) := by decide +kernel
theorem d_X_insert_2 : decode b_X_insert 2 = .ok (.invokevirtual 46, 3) := by decide +kernel
theorem d_X_insert_5 : decode b_X_insert 5 = .ok (.aload_n 0, 1) := by decide +kernel
theorem d_X_insert_6 : decode b_X_insert 6 = .ok (.invokevirtual 50, 3) := by decide +kernel
theorem d_X_insert_9 : decode b_X_insert 9 = .ok (.iload_n 2, 1) := by decide +kernel
theorem d_X_insert_10 : decode b_X_insert 10 = .ok (.iconst (-1), 1) := by decide +kernel
theorem d_X_insert_11 : decode b_X_insert 11 = .ok (.if_icmp .eq 9, 3) := by decide +kernel
theorem d_X_insert_14 : decode b_X_insert 14 = .ok (.aload_n 0, 1) := by decide +kernel
theorem d_X_insert_15 : decode b_X_insert 15 = .ok (.iload_n 1, 1) := by decide +kernel
theorem d_X_insert_16 : decode b_X_insert 16 = .ok (.iload_n 2, 1) := by decide +kernel
theorem d_X_insert_17 : decode b_X_insert 17 = .ok (.invokevirtual 53, 3) := by decide +kernel
theorem d_X_insert_20 : decode b_X_insert 20 = .ok (.aload_n 0, 1) := by decide +kernel
theorem d_X_insert_21 : decode b_X_insert 21 = .ok (.iload_n 1, 1) := by decide +kernel
theorem d_X_insert_22 : decode b_X_insert 22 = .ok (.iload_n 2, 1) := by decide +kernel
theorem d_X_insert_23 : decode b_X_insert 23 = .ok (.iconst 0, 1) := by decide +kernel
theorem d_X_insert_24 : decode b_X_insert 24 = .ok (.invokevirtual 57, 3) := by decide +kernel
theorem d_X_insert_27 : decode b_X_insert 27 = .ok (.istore 5, 2) := by decide +kernel
theorem d_X_insert_29 : decode b_X_insert 29 = .ok (.aload_n 0, 1) := by decide +kernel
theorem d_X_insert_30 : decode b_X_insert 30 = .ok (.getfield 21, 3) := by decide +kernel
theorem d_X_insert_33 : decode b_X_insert 33 = .ok (.iload 5, 2) := by decide +kernel
theorem d_X_insert_35 : decode b_X_insert 35 = .ok (.lload_n 3, 1) := by decide +kernel
theorem d_X_insert_36 : decode b_X_insert 36 = .ok (.lastore, 1) := by decide +kernel
theorem d_X_insert_37 : decode b_X_insert 37 = .ok (.aload_n 0, 1) := by decide +kernel
theorem d_X_insert_38 : decode b_X_insert 38 = .ok (.iload 5, 2) := by decide +kernel
theorem d_X_insert_40 : decode b_X_insert 40 = .ok (.invokevirtual 61, 3) := by decide +kernel
theorem d_X_insert_43 : decode b_X_insert 43 = .ok (.iload 5, 2) := by decide +kernel
theorem d_X_insert_45 : decode b_X_insert 45 = .ok (.ireturn, 1) := by decide +kernel
theorem d_X_delete_0 : decode b_X_delete 0 = .ok (.aload_n 0, 1) := by decide +kernel
theorem d_X_delete_1 : decode b_X_delete 1 = .ok (.iload_n 1, 1) := by decide +kernel
theorem d_X_delete_2 : decode b_X_delete 2 = .ok (.invokevirtual 46, 3) := by decide +kernel
theorem d_X_delete_5 : decode b_X_delete 5 = .ok (.aload_n 0, 1) := by decide +kernel
theorem d_X_delete_6 : decode b_X_delete 6 = .ok (.invokevirtual 50, 3) := by decide +kernel
theorem d_X_delete_9 : decode b_X_delete 9 = .ok (.aload_n 0, 1) := by decide +kernel
theorem d_X_delete_10 : decode b_X_delete 10 = .ok (.iload_n 1, 1) := by decide +kernel
theorem d_X_delete_11 : decode b_X_delete 11 = .ok (.iload_n 2, 1) := by decide +kernel
theorem d_X_delete_12 : decode b_X_delete 12 = .ok (.invokevirtual 53, 3) := by decide +kernel
theorem d_X_delete_15 : decode b_X_delete 15 = .ok (.aload_n 0, 1) := by decide +kernel
theorem d_X_delete_16 : decode b_X_delete 16 = .ok (.iload_n 1, 1) := by decide +kernel
theorem d_X_delete_17 : decode b_X_delete 17 = .ok (.iload_n 2, 1) := by decide +kernel
theorem d_X_delete_18 : decode b_X_delete 18 = .ok (.iconst 1, 1) := by decide +kernel
theorem d_X_delete_19 : decode b_X_delete 19 = .ok (.invokevirtual 57, 3) := by decide +kernel
theorem d_X_delete_22 : decode b_X_delete 22 = .ok (.ireturn, 1) := by decide +kernel
theorem d_X_give_0 : decode b_X_give 0 = .ok (.aload_n 0, 1) := by decide +kernel
theorem d_X_give_1 : decode b_X_give 1 = .ok (.iload_n 1, 1) := by decide +kernel
theorem d_X_give_2 : decode b_X_give 2 = .ok (.invokevirtual 46, 3) := by decide +kernel
theorem d_X_give_5 : decode b_X_give 5 = .ok (.aload_n 0, 1) := by decide +kernel
theorem d_X_give_6 : decode b_X_give 6 = .ok (.iload_n 2, 1) := by decide +kernel
theorem d_X_give_7 : decode b_X_give 7 = .ok (.invokevirtual 64, 3) := by decide +kernel
theorem d_X_give_10 : decode b_X_give 10 = .ok (.aload_n 0, 1) := by decide +kernel
theorem d_X_give_11 : decode b_X_give 11 = .ok (.getfield 17, 3) := by decide +kernel
theorem d_X_give_14 : decode b_X_give 14 = .ok (.iload_n 2, 1) := by decide +kernel
theorem d_X_give_15 : decode b_X_give 15 = .ok (.iaload, 1) := by decide +kernel
theorem d_X_give_16 : decode b_X_give 16 = .ok (.iconst (-1), 1) := by decide +kernel
theorem d_X_give_17 : decode b_X_give 17 = .ok (.if_icmp .eq 14, 3) := by decide +kernel
theorem d_X_give_20 : decode b_X_give 20 = .ok (.aload_n 0, 1) := by decide +kernel
theorem d_X_give_21 : decode b_X_give 21 = .ok (.iload_n 1, 1) := by decide +kernel
theorem d_X_give_22 : decode b_X_give 22 = .ok (.aload_n 0, 1) := by decide +kernel
theorem d_X_give_23 : decode b_X_give 23 = .ok (.getfield 17, 3) := by decide +kernel
theorem d_X_give_26 : decode b_X_give 26 = .ok (.iload_n 2, 1) := by decide +kernel
theorem d_X_give_27 : decode b_X_give 27 = .ok (.iaload, 1) := by decide +kernel
theorem d_X_give_28 : decode b_X_give 28 = .ok (.invokevirtual 53, 3) := by decide +kernel
theorem d_X_give_31 : decode b_X_give 31 = .ok (.aload_n 0, 1) := by decide +kernel
theorem d_X_give_32 : decode b_X_give 32 = .ok (.iload_n 1, 1) := by decide +kernel
theorem d_X_give_33 : decode b_X_give 33 = .ok (.iload_n 2, 1) := by decide +kernel
theorem d_X_give_34 : decode b_X_give 34 = .ok (.invokevirtual 67, 3) := by decide +kernel
theorem d_X_give_37 : decode b_X_give 37 = .ok (.return_, 1) := by decide +kernel
theorem d_X_tell_0 : decode b_X_tell 0 = .ok (.aload_n 0, 1) := by decide +kernel
theorem d_X_tell_1 : decode b_X_tell 1 = .ok (.iload_n 1, 1) := by decide +kernel
theorem d_X_tell_2 : decode b_X_tell 2 = .ok (.invokevirtual 46, 3) := by decide +kernel
theorem d_X_tell_5 : decode b_X_tell 5 = .ok (.aload_n 0, 1) := by decide +kernel
theorem d_X_tell_6 : decode b_X_tell 6 = .ok (.iload_n 2, 1) := by decide +kernel
theorem d_X_tell_7 : decode b_X_tell 7 = .ok (.invokevirtual 46, 3) := by decide +kernel
theorem d_X_tell_10 : decode b_X_tell 10 = .ok (.iconst 0, 1) := by decide +kernel
theorem d_X_tell_11 : decode b_X_tell 11 = .ok (.istore_n 3, 1) := by decide +kernel
theorem d_X_tell_12 : decode b_X_tell 12 = .ok (.iconst 0, 1) := by decide +kernel
theorem d_X_tell_13 : decode b_X_tell 13 = .ok (.istore 4, 2) := by decide +kernel
theorem d_X_tell_15 : decode b_X_tell 15 = .ok (.iload 4, 2) := by decide +kernel
theorem d_X_tell_17 : decode b_X_tell 17 = .ok (.aload_n 0, 1) := by decide +kernel
theorem d_X_tell_18 : decode b_X_tell 18 = .ok (.getfield 7, 3) := by decide +kernel
theorem d_X_tell_21 : decode b_X_tell 21 = .ok (.if_icmp .ge 39, 3) := by decide +kernel
theorem d_X_tell_24 : decode b_X_tell 24 = .ok (.aload_n 0, 1) := by decide +kernel
theorem d_X_tell_25 : decode b_X_tell 25 = .ok (.iload_n 2, 1) := by decide +kernel
theorem d_X_tell_26 : decode b_X_tell 26 = .ok (.iload 4, 2) := by decide +kernel
theorem d_X_tell_28 : decode b_X_tell 28 = .ok (.invokevirtual 70, 3) := by decide +kernel
theorem d_X_tell_31 : decode b_X_tell 31 = .ok (.ifCond .eq 23, 3) := by decide +kernel
theorem d_X_tell_34 : decode b_X_tell 34 = .ok (.aload_n 0, 1) := by decide +kernel
theorem d_X_tell_35 : decode b_X_tell 35 = .ok (.iload_n 1, 1) := by decide +kernel
theorem d_X_tell_36 : decode b_X_tell 36 = .ok (.iload 4, 2) := by decide +kernel
theorem d_X_tell_38 : decode b_X_tell 38 = .ok (.invokevirtual 70, 3) := by decide +kernel
theorem d_X_tell_41 : decode b_X_tell 41 = .ok (.ifCond .ne 13, 3) := by decide +kernel
theorem d_X_tell_44 : decode b_X_tell 44 = .ok (.aload_n 0, 1) := by decide +kernel
theorem d_X_tell_45 : decode b_X_tell 45 = .ok (.iload_n 1, 1) := by decide +kernel
theorem d_X_tell_46 : decode b_X_tell 46 = .ok (.iload 4, 2) := by decide +kernel
theorem d_X_tell_48 : decode b_X_tell 48 = .ok (.invokevirtual 67, 3) := by decide +kernel
theorem d_X_tell_51 : decode b_X_tell 51 = .ok (.iinc 3 1, 3) := by decide +kernel
theorem d_X_tell_54 : decode b_X_tell 54 = .ok (.iinc 4 1, 3) := by decide +kernel
theorem d_X_tell_57 : decode b_X_tell 57 = .ok (.goto (-42), 3) := by decide +kernel
theorem d_X_tell_60 : decode b_X_tell 60 = .ok (.iload_n 3, 1) := by decide +kernel
theorem d_X_tell_61 : decode b_X_tell 61 = .ok (.ireturn, 1) := by decide +kernel
theorem d_X_holds_0 : decode b_X_holds 0 = .ok (.aload_n 0, 1) := by decide +kernel
theorem d_X_holds_1 : decode b_X_holds 1 = .ok (.iload_n 1, 1) := by decide +kernel
theorem d_X_holds_2 : decode b_X_holds 2 = .ok (.invokevirtual 46, 3) := by decide +kernel
theorem d_X_holds_5 : decode b_X_holds 5 = .ok (.aload_n 0, 1) := by decide +kernel
theorem d_X_holds_6 : decode b_X_holds 6 = .ok (.iload_n 2, 1) := by decide +kernel
theorem d_X_holds_7 : decode b_X_holds 7 = .ok (.invokevirtual 64, 3) := by decide +kernel
theorem d_X_holds_10 : decode b_X_holds 10 = .ok (.aload_n 0, 1) := by decide +kernel
theorem d_X_holds_11 : decode b_X_holds 11 = .ok (.iload_n 1, 1) := by decide +kernel
theorem d_X_holds_12 : decode b_X_holds 12 = .ok (.iload_n 2, 1) := by decide +kernel
theorem d_X_holds_13 : decode b_X_holds 13 = .ok (.invokevirtual 70, 3) := by decide +kernel
theorem d_X_holds_16 : decode b_X_holds 16 = .ok (.ireturn, 1) := by decide +kernel
theorem d_X_at_0 : decode b_X_at 0 = .ok (.aload_n 0, 1) := by decide +kernel
theorem d_X_at_1 : decode b_X_at 1 = .ok (.iload_n 1, 1) := by decide +kernel
theorem d_X_at_2 : decode b_X_at 2 = .ok (.invokevirtual 46, 3) := by decide +kernel
theorem d_X_at_5 : decode b_X_at 5 = .ok (.iconst 0, 1) := by decide +kernel
theorem d_X_at_6 : decode b_X_at 6 = .ok (.istore_n 3, 1) := by decide +kernel
theorem d_X_at_7 : decode b_X_at 7 = .ok (.iconst 0, 1) := by decide +kernel
theorem d_X_at_8 : decode b_X_at 8 = .ok (.istore 4, 2) := by decide +kernel
theorem d_X_at_10 : decode b_X_at 10 = .ok (.iload 4, 2) := by decide +kernel
theorem d_X_at_12 : decode b_X_at 12 = .ok (.aload_n 0, 1) := by decide +kernel
theorem d_X_at_13 : decode b_X_at 13 = .ok (.getfield 43, 3) := by decide +kernel
theorem d_X_at_16 : decode b_X_at 16 = .ok (.if_icmp .ge 40, 3) := by decide +kernel
theorem d_X_at_19 : decode b_X_at 19 = .ok (.aload_n 0, 1) := by decide +kernel
theorem d_X_at_20 : decode b_X_at 20 = .ok (.iload_n 1, 1) := by decide +kernel
theorem d_X_at_21 : decode b_X_at 21 = .ok (.aload_n 0, 1) := by decide +kernel
theorem d_X_at_22 : decode b_X_at 22 = .ok (.getfield 40, 3) := by decide +kernel
theorem d_X_at_25 : decode b_X_at 25 = .ok (.iload 4, 2) := by decide +kernel
theorem d_X_at_27 : decode b_X_at 27 = .ok (.iaload, 1) := by decide +kernel
theorem d_X_at_28 : decode b_X_at 28 = .ok (.invokevirtual 74, 3) := by decide +kernel
theorem d_X_at_31 : decode b_X_at 31 = .ok (.ifCond .eq 19, 3) := by decide +kernel
theorem d_X_at_34 : decode b_X_at 34 = .ok (.iload_n 3, 1) := by decide +kernel
theorem d_X_at_35 : decode b_X_at 35 = .ok (.iload_n 2, 1) := by decide +kernel
theorem d_X_at_36 : decode b_X_at 36 = .ok (.if_icmp .ne 11, 3) := by decide +kernel
theorem d_X_at_39 : decode b_X_at 39 = .ok (.aload_n 0, 1) := by decide +kernel
theorem d_X_at_40 : decode b_X_at 40 = .ok (.getfield 40, 3) := by decide +kernel
theorem d_X_at_43 : decode b_X_at 43 = .ok (.iload 4, 2) := by decide +kernel
theorem d_X_at_45 : decode b_X_at 45 = .ok (.iaload, 1) := by decide +kernel
theorem d_X_at_46 : decode b_X_at 46 = .ok (.ireturn, 1) := by decide +kernel
theorem d_X_at_47 : decode b_X_at 47 = .ok (.iinc 3 1, 3) := by decide +kernel
theorem d_X_at_50 : decode b_X_at 50 = .ok (.iinc 4 1, 3) := by decide +kernel
theorem d_X_at_53 : decode b_X_at 53 = .ok (.goto (-43), 3) := by decide +kernel
theorem d_X_at_56 : decode b_X_at 56 = .ok (.iconst (-1), 1) := by decide +kernel
theorem d_X_at_57 : decode b_X_at 57 = .ok (.ireturn, 1) := by decide +kernel
theorem d_X_place_0 : decode b_X_place 0 = .ok (.aload_n 0, 1) := by decide +kernel
theorem d_X_place_1 : decode b_X_place 1 = .ok (.iload_n 1, 1) := by decide +kernel
theorem d_X_place_2 : decode b_X_place 2 = .ok (.invokevirtual 46, 3) := by decide +kernel
theorem d_X_place_5 : decode b_X_place 5 = .ok (.aload_n 0, 1) := by decide +kernel
theorem d_X_place_6 : decode b_X_place 6 = .ok (.iload_n 2, 1) := by decide +kernel
theorem d_X_place_7 : decode b_X_place 7 = .ok (.invokevirtual 64, 3) := by decide +kernel
theorem d_X_place_10 : decode b_X_place 10 = .ok (.aload_n 0, 1) := by decide +kernel
theorem d_X_place_11 : decode b_X_place 11 = .ok (.iload_n 1, 1) := by decide +kernel
theorem d_X_place_12 : decode b_X_place 12 = .ok (.iload_n 2, 1) := by decide +kernel
theorem d_X_place_13 : decode b_X_place 13 = .ok (.invokevirtual 53, 3) := by decide +kernel
theorem d_X_place_16 : decode b_X_place 16 = .ok (.iconst 0, 1) := by decide +kernel
theorem d_X_place_17 : decode b_X_place 17 = .ok (.istore_n 3, 1) := by decide +kernel
theorem d_X_place_18 : decode b_X_place 18 = .ok (.iconst 0, 1) := by decide +kernel
theorem d_X_place_19 : decode b_X_place 19 = .ok (.istore 4, 2) := by decide +kernel
theorem d_X_place_21 : decode b_X_place 21 = .ok (.iload 4, 2) := by decide +kernel
theorem d_X_place_23 : decode b_X_place 23 = .ok (.aload_n 0, 1) := by decide +kernel
theorem d_X_place_24 : decode b_X_place 24 = .ok (.getfield 43, 3) := by decide +kernel
theorem d_X_place_27 : decode b_X_place 27 = .ok (.if_icmp .ge 38, 3) := by decide +kernel
theorem d_X_place_30 : decode b_X_place 30 = .ok (.aload_n 0, 1) := by decide +kernel
theorem d_X_place_31 : decode b_X_place 31 = .ok (.getfield 40, 3) := by decide +kernel
theorem d_X_place_34 : decode b_X_place 34 = .ok (.iload 4, 2) := by decide +kernel
theorem d_X_place_36 : decode b_X_place 36 = .ok (.iaload, 1) := by decide +kernel
theorem d_X_place_37 : decode b_X_place 37 = .ok (.iload_n 2, 1) := by decide +kernel
theorem d_X_place_38 : decode b_X_place 38 = .ok (.if_icmp .eq 27, 3) := by decide +kernel
theorem d_X_place_41 : decode b_X_place 41 = .ok (.aload_n 0, 1) := by decide +kernel
theorem d_X_place_42 : decode b_X_place 42 = .ok (.iload_n 1, 1) := by decide +kernel
theorem d_X_place_43 : decode b_X_place 43 = .ok (.aload_n 0, 1) := by decide +kernel
theorem d_X_place_44 : decode b_X_place 44 = .ok (.getfield 40, 3) := by decide +kernel
theorem d_X_place_47 : decode b_X_place 47 = .ok (.iload 4, 2) := by decide +kernel
theorem d_X_place_49 : decode b_X_place 49 = .ok (.iaload, 1) := by decide +kernel
theorem d_X_place_50 : decode b_X_place 50 = .ok (.invokevirtual 70, 3) := by decide +kernel
theorem d_X_place_53 : decode b_X_place 53 = .ok (.ifCond .eq 6, 3) := by decide +kernel
theorem d_X_place_56 : decode b_X_place 56 = .ok (.iinc 3 1, 3) := by decide +kernel
theorem d_X_place_59 : decode b_X_place 59 = .ok (.iinc 4 1, 3) := by decide +kernel
theorem d_X_place_62 : decode b_X_place 62 = .ok (.goto (-41), 3) := by decide +kernel
theorem d_X_place_65 : decode b_X_place 65 = .ok (.iload_n 3, 1) := by decide +kernel
theorem d_X_place_66 : decode b_X_place 66 = .ok (.ireturn, 1) := by decide +kernel
theorem d_X_value_0 : decode b_X_value 0 = .ok (.aload_n 0, 1) := by decide +kernel
theorem d_X_value_1 : decode b_X_value 1 = .ok (.iload_n 1, 1) := by decide +kernel
theorem d_X_value_2 : decode b_X_value 2 = .ok (.invokevirtual 77, 3) := by decide +kernel
theorem d_X_value_5 : decode b_X_value 5 = .ok (.ifCond .ne 13, 3) := by decide +kernel
theorem d_X_value_8 : decode b_X_value 8 = .ok (.new 81, 3) := by decide +kernel
theorem d_X_value_11 : decode b_X_value 11 = .ok (.dup, 1) := by decide +kernel
theorem d_X_value_12 : decode b_X_value 12 = .ok (.ldc 83, 2) := by decide +kernel
theorem d_X_value_14 : decode b_X_value 14 = .ok (.invokespecial 85, 3) := by decide +kernel
theorem d_X_value_17 : decode b_X_value 17 = .ok (.athrow, 1) := by decide +kernel
theorem d_X_value_18 : decode b_X_value 18 = .ok (.aload_n 0, 1) := by decide +kernel
theorem d_X_value_19 : decode b_X_value 19 = .ok (.getfield 21, 3) := by decide +kernel
theorem d_X_value_22 : decode b_X_value 22 = .ok (.iload_n 1, 1) := by decide +kernel
theorem d_X_value_23 : decode b_X_value 23 = .ok (.laload, 1) := by decide +kernel
theorem d_X_value_24 : decode b_X_value 24 = .ok (.lreturn, 1) := by decide +kernel
theorem d_X_stamp_0 : decode b_X_stamp 0 = .ok (.aload_n 0, 1) := by decide +kernel
theorem d_X_stamp_1 : decode b_X_stamp 1 = .ok (.iload_n 1, 1) := by decide +kernel
theorem d_X_stamp_2 : decode b_X_stamp 2 = .ok (.invokevirtual 64, 3) := by decide +kernel
theorem d_X_stamp_5 : decode b_X_stamp 5 = .ok (.aload_n 0, 1) := by decide +kernel
theorem d_X_stamp_6 : decode b_X_stamp 6 = .ok (.getfield 25, 3) := by decide +kernel
theorem d_X_stamp_9 : decode b_X_stamp 9 = .ok (.iload_n 1, 1) := by decide +kernel
theorem d_X_stamp_10 : decode b_X_stamp 10 = .ok (.iaload, 1) := by decide +kernel
theorem d_X_stamp_11 : decode b_X_stamp 11 = .ok (.ireturn, 1) := by decide +kernel
theorem d_X_count_0 : decode b_X_count 0 = .ok (.aload_n 0, 1) := by decide +kernel
theorem d_X_count_1 : decode b_X_count 1 = .ok (.iload_n 1, 1) := by decide +kernel
theorem d_X_count_2 : decode b_X_count 2 = .ok (.invokevirtual 46, 3) := by decide +kernel
theorem d_X_count_5 : decode b_X_count 5 = .ok (.iload_n 2, 1) := by decide +kernel
theorem d_X_count_6 : decode b_X_count 6 = .ok (.tableswitch 55 0 3 #[30, 36, 42, 48], 30) := by decide +kernel
theorem d_X_count_36 : decode b_X_count 36 = .ok (.aload_n 0, 1) := by decide +kernel
theorem d_X_count_37 : decode b_X_count 37 = .ok (.iload_n 1, 1) := by decide +kernel
theorem d_X_count_38 : decode b_X_count 38 = .ok (.invokevirtual 88, 3) := by decide +kernel
theorem d_X_count_41 : decode b_X_count 41 = .ok (.ireturn, 1) := by decide +kernel
theorem d_X_count_42 : decode b_X_count 42 = .ok (.aload_n 0, 1) := by decide +kernel
theorem d_X_count_43 : decode b_X_count 43 = .ok (.iload_n 1, 1) := by decide +kernel
theorem d_X_count_44 : decode b_X_count 44 = .ok (.invokevirtual 92, 3) := by decide +kernel
theorem d_X_count_47 : decode b_X_count 47 = .ok (.ireturn, 1) := by decide +kernel
theorem d_X_count_48 : decode b_X_count 48 = .ok (.aload_n 0, 1) := by decide +kernel
theorem d_X_count_49 : decode b_X_count 49 = .ok (.iload_n 1, 1) := by decide +kernel
theorem d_X_count_50 : decode b_X_count 50 = .ok (.invokevirtual 95, 3) := by decide +kernel
theorem d_X_count_53 : decode b_X_count 53 = .ok (.ireturn, 1) := by decide +kernel
theorem d_X_count_54 : decode b_X_count 54 = .ok (.aload_n 0, 1) := by decide +kernel
theorem d_X_count_55 : decode b_X_count 55 = .ok (.getfield 37, 3) := by decide +kernel
theorem d_X_count_58 : decode b_X_count 58 = .ok (.iload_n 1, 1) := by decide +kernel
theorem d_X_count_59 : decode b_X_count 59 = .ok (.iaload, 1) := by decide +kernel
theorem d_X_count_60 : decode b_X_count 60 = .ok (.ireturn, 1) := by decide +kernel
theorem d_X_count_61 : decode b_X_count 61 = .ok (.new 98, 3) := by decide +kernel
theorem d_X_count_64 : decode b_X_count 64 = .ok (.dup, 1) := by decide +kernel
theorem d_X_count_65 : decode b_X_count 65 = .ok (.ldc 100, 2) := by decide +kernel
theorem d_X_count_67 : decode b_X_count 67 = .ok (.invokespecial 102, 3) := by decide +kernel
theorem d_X_count_70 : decode b_X_count 70 = .ok (.athrow, 1) := by decide +kernel
theorem d_X_same_0 : decode b_X_same 0 = .ok (.aload_n 0, 1) := by decide +kernel
theorem d_X_same_1 : decode b_X_same 1 = .ok (.iload_n 1, 1) := by decide +kernel
theorem d_X_same_2 : decode b_X_same 2 = .ok (.invokevirtual 46, 3) := by decide +kernel
theorem d_X_same_5 : decode b_X_same 5 = .ok (.aload_n 0, 1) := by decide +kernel
theorem d_X_same_6 : decode b_X_same 6 = .ok (.iload_n 2, 1) := by decide +kernel
theorem d_X_same_7 : decode b_X_same 7 = .ok (.invokevirtual 46, 3) := by decide +kernel
theorem d_X_same_10 : decode b_X_same 10 = .ok (.iconst 0, 1) := by decide +kernel
theorem d_X_same_11 : decode b_X_same 11 = .ok (.istore_n 3, 1) := by decide +kernel
theorem d_X_same_12 : decode b_X_same 12 = .ok (.iload_n 3, 1) := by decide +kernel
theorem d_X_same_13 : decode b_X_same 13 = .ok (.aload_n 0, 1) := by decide +kernel
theorem d_X_same_14 : decode b_X_same 14 = .ok (.getfield 43, 3) := by decide +kernel
theorem d_X_same_17 : decode b_X_same 17 = .ok (.if_icmp .ge 36, 3) := by decide +kernel
theorem d_X_same_20 : decode b_X_same 20 = .ok (.aload_n 0, 1) := by decide +kernel
theorem d_X_same_21 : decode b_X_same 21 = .ok (.iload_n 1, 1) := by decide +kernel
theorem d_X_same_22 : decode b_X_same 22 = .ok (.aload_n 0, 1) := by decide +kernel
theorem d_X_same_23 : decode b_X_same 23 = .ok (.getfield 40, 3) := by decide +kernel
theorem d_X_same_26 : decode b_X_same 26 = .ok (.iload_n 3, 1) := by decide +kernel
theorem d_X_same_27 : decode b_X_same 27 = .ok (.iaload, 1) := by decide +kernel
theorem d_X_same_28 : decode b_X_same 28 = .ok (.invokevirtual 74, 3) := by decide +kernel
theorem d_X_same_31 : decode b_X_same 31 = .ok (.aload_n 0, 1) := by decide +kernel
theorem d_X_same_32 : decode b_X_same 32 = .ok (.iload_n 2, 1) := by decide +kernel
theorem d_X_same_33 : decode b_X_same 33 = .ok (.aload_n 0, 1) := by decide +kernel
theorem d_X_same_34 : decode b_X_same 34 = .ok (.getfield 40, 3) := by decide +kernel
theorem d_X_same_37 : decode b_X_same 37 = .ok (.iload_n 3, 1) := by decide +kernel
theorem d_X_same_38 : decode b_X_same 38 = .ok (.iaload, 1) := by decide +kernel
theorem d_X_same_39 : decode b_X_same 39 = .ok (.invokevirtual 74, 3) := by decide +kernel
theorem d_X_same_42 : decode b_X_same 42 = .ok (.if_icmp .eq 5, 3) := by decide +kernel
theorem d_X_same_45 : decode b_X_same 45 = .ok (.iconst 0, 1) := by decide +kernel
theorem d_X_same_46 : decode b_X_same 46 = .ok (.ireturn, 1) := by decide +kernel
theorem d_X_same_47 : decode b_X_same 47 = .ok (.iinc 3 1, 3) := by decide +kernel
theorem d_X_same_50 : decode b_X_same 50 = .ok (.goto (-38), 3) := by decide +kernel
theorem d_X_same_53 : decode b_X_same 53 = .ok (.iconst 1, 1) := by decide +kernel
theorem d_X_same_54 : decode b_X_same 54 = .ok (.ireturn, 1) := by decide +kernel
theorem d_X_checkReplica_0 : decode b_X_checkReplica 0 = .ok (.iload_n 1, 1) := by decide +kernel
theorem d_X_checkReplica_1 : decode b_X_checkReplica 1 = .ok (.ifCond .lt 8, 3) := by decide +kernel
theorem d_X_checkReplica_4 : decode b_X_checkReplica 4 = .ok (.iload_n 1, 1) := by decide +kernel
theorem d_X_checkReplica_5 : decode b_X_checkReplica 5 = .ok (.iconst 4, 1) := by decide +kernel
theorem d_X_checkReplica_6 : decode b_X_checkReplica 6 = .ok (.if_icmp .lt 13, 3) := by decide +kernel
theorem d_X_checkReplica_9 : decode b_X_checkReplica 9 = .ok (.new 98, 3) := by decide +kernel
theorem d_X_checkReplica_12 : decode b_X_checkReplica 12 = .ok (.dup, 1) := by decide +kernel
theorem d_X_checkReplica_13 : decode b_X_checkReplica 13 = .ok (.ldc 103, 2) := by decide +kernel
theorem d_X_checkReplica_15 : decode b_X_checkReplica 15 = .ok (.invokespecial 102, 3) := by decide +kernel
theorem d_X_checkReplica_18 : decode b_X_checkReplica 18 = .ok (.athrow, 1) := by decide +kernel
theorem d_X_checkReplica_19 : decode b_X_checkReplica 19 = .ok (.return_, 1) := by decide +kernel
theorem d_X_checkRoom_0 : decode b_X_checkRoom 0 = .ok (.aload_n 0, 1) := by decide +kernel
theorem d_X_checkRoom_1 : decode b_X_checkRoom 1 = .ok (.getfield 7, 3) := by decide +kernel
theorem d_X_checkRoom_4 : decode b_X_checkRoom 4 = .ok (.sipush 160, 3) := by decide +kernel
theorem d_X_checkRoom_7 : decode b_X_checkRoom 7 = .ok (.if_icmp .lt 13, 3) := by decide +kernel
theorem d_X_checkRoom_10 : decode b_X_checkRoom 10 = .ok (.new 81, 3) := by decide +kernel
theorem d_X_checkRoom_13 : decode b_X_checkRoom 13 = .ok (.dup, 1) := by decide +kernel
theorem d_X_checkRoom_14 : decode b_X_checkRoom 14 = .ok (.ldc 105, 2) := by decide +kernel
theorem d_X_checkRoom_16 : decode b_X_checkRoom 16 = .ok (.invokespecial 85, 3) := by decide +kernel
theorem d_X_checkRoom_19 : decode b_X_checkRoom 19 = .ok (.athrow, 1) := by decide +kernel
theorem d_X_checkRoom_20 : decode b_X_checkRoom 20 = .ok (.return_, 1) := by decide +kernel
theorem d_X_checkOperation_0 : decode b_X_checkOperation 0 = .ok (.aload_n 0, 1) := by decide +kernel
theorem d_X_checkOperation_1 : decode b_X_checkOperation 1 = .ok (.iload_n 1, 1) := by decide +kernel
theorem d_X_checkOperation_2 : decode b_X_checkOperation 2 = .ok (.invokevirtual 107, 3) := by decide +kernel
theorem d_X_checkOperation_5 : decode b_X_checkOperation 5 = .ok (.ifCond .ne 13, 3) := by decide +kernel
theorem d_X_checkOperation_8 : decode b_X_checkOperation 8 = .ok (.new 81, 3) := by decide +kernel
theorem d_X_checkOperation_11 : decode b_X_checkOperation 11 = .ok (.dup, 1) := by decide +kernel
theorem d_X_checkOperation_12 : decode b_X_checkOperation 12 = .ok (.ldc 110, 2) := by decide +kernel
theorem d_X_checkOperation_14 : decode b_X_checkOperation 14 = .ok (.invokespecial 85, 3) := by decide +kernel
theorem d_X_checkOperation_17 : decode b_X_checkOperation 17 = .ok (.athrow, 1) := by decide +kernel
theorem d_X_checkOperation_18 : decode b_X_checkOperation 18 = .ok (.return_, 1) := by decide +kernel
theorem d_X_checkHeldElement_0 : decode b_X_checkHeldElement 0 = .ok (.aload_n 0, 1) := by decide +kernel
theorem d_X_checkHeldElement_1 : decode b_X_checkHeldElement 1 = .ok (.iload_n 2, 1) := by decide +kernel
theorem d_X_checkHeldElement_2 : decode b_X_checkHeldElement 2 = .ok (.invokevirtual 77, 3) := by decide +kernel
theorem d_X_checkHeldElement_5 : decode b_X_checkHeldElement 5 = .ok (.ifCond .eq 12, 3) := by decide +kernel
theorem d_X_checkHeldElement_8 : decode b_X_checkHeldElement 8 = .ok (.aload_n 0, 1) := by decide +kernel
theorem d_X_checkHeldElement_9 : decode b_X_checkHeldElement 9 = .ok (.iload_n 1, 1) := by decide +kernel
theorem d_X_checkHeldElement_10 : decode b_X_checkHeldElement 10 = .ok (.iload_n 2, 1) := by decide +kernel
theorem d_X_checkHeldElement_11 : decode b_X_checkHeldElement 11 = .ok (.invokevirtual 70, 3) := by decide +kernel
theorem d_X_checkHeldElement_14 : decode b_X_checkHeldElement 14 = .ok (.ifCond .ne 13, 3) := by decide +kernel
theorem d_X_checkHeldElement_17 : decode b_X_checkHeldElement 17 = .ok (.new 112, 3) := by decide +kernel
theorem d_X_checkHeldElement_20 : decode b_X_checkHeldElement 20 = .ok (.dup, 1) := by decide +kernel
theorem d_X_checkHeldElement_21 : decode b_X_checkHeldElement 21 = .ok (.ldc 114, 2) := by decide +kernel
theorem d_X_checkHeldElement_23 : decode b_X_checkHeldElement 23 = .ok (.invokespecial 116, 3) := by decide +kernel
theorem d_X_checkHeldElement_26 : decode b_X_checkHeldElement 26 = .ok (.athrow, 1) := by decide +kernel
theorem d_X_checkHeldElement_27 : decode b_X_checkHeldElement 27 = .ok (.return_, 1) := by decide +kernel
theorem d_X_isOperation_0 : decode b_X_isOperation 0 = .ok (.iload_n 1, 1) := by decide +kernel
theorem d_X_isOperation_1 : decode b_X_isOperation 1 = .ok (.ifCond .lt 15, 3) := by decide +kernel
theorem d_X_isOperation_4 : decode b_X_isOperation 4 = .ok (.iload_n 1, 1) := by decide +kernel
theorem d_X_isOperation_5 : decode b_X_isOperation 5 = .ok (.aload_n 0, 1) := by decide +kernel
theorem d_X_isOperation_6 : decode b_X_isOperation 6 = .ok (.getfield 7, 3) := by decide +kernel
theorem d_X_isOperation_9 : decode b_X_isOperation 9 = .ok (.if_icmp .ge 7, 3) := by decide +kernel
theorem d_X_isOperation_12 : decode b_X_isOperation 12 = .ok (.iconst 1, 1) := by decide +kernel
theorem d_X_isOperation_13 : decode b_X_isOperation 13 = .ok (.goto 4, 3) := by decide +kernel
theorem d_X_isOperation_16 : decode b_X_isOperation 16 = .ok (.iconst 0, 1) := by decide +kernel
theorem d_X_isOperation_17 : decode b_X_isOperation 17 = .ok (.ireturn, 1) := by decide +kernel
theorem d_X_isElement_0 : decode b_X_isElement 0 = .ok (.aload_n 0, 1) := by decide +kernel
theorem d_X_isElement_1 : decode b_X_isElement 1 = .ok (.iload_n 1, 1) := by decide +kernel
theorem d_X_isElement_2 : decode b_X_isElement 2 = .ok (.invokevirtual 107, 3) := by decide +kernel
theorem d_X_isElement_5 : decode b_X_isElement 5 = .ok (.ifCond .eq 16, 3) := by decide +kernel
theorem d_X_isElement_8 : decode b_X_isElement 8 = .ok (.aload_n 0, 1) := by decide +kernel
theorem d_X_isElement_9 : decode b_X_isElement 9 = .ok (.getfield 13, 3) := by decide +kernel
theorem d_X_isElement_12 : decode b_X_isElement 12 = .ok (.iload_n 1, 1) := by decide +kernel
theorem d_X_isElement_13 : decode b_X_isElement 13 = .ok (.baload, 1) := by decide +kernel
theorem d_X_isElement_14 : decode b_X_isElement 14 = .ok (.ifCond .ne 7, 3) := by decide +kernel
theorem d_X_isElement_17 : decode b_X_isElement 17 = .ok (.iconst 1, 1) := by decide +kernel
theorem d_X_isElement_18 : decode b_X_isElement 18 = .ok (.goto 4, 3) := by decide +kernel
theorem d_X_isElement_21 : decode b_X_isElement 21 = .ok (.iconst 0, 1) := by decide +kernel
theorem d_X_isElement_22 : decode b_X_isElement 22 = .ok (.ireturn, 1) := by decide +kernel
theorem d_X_isHeld_0 : decode b_X_isHeld 0 = .ok (.aload_n 0, 1) := by decide +kernel
theorem d_X_isHeld_1 : decode b_X_isHeld 1 = .ok (.getfield 31, 3) := by decide +kernel
theorem d_X_isHeld_4 : decode b_X_isHeld 4 = .ok (.iload_n 2, 1) := by decide +kernel
theorem d_X_isHeld_5 : decode b_X_isHeld 5 = .ok (.iaload, 1) := by decide +kernel
theorem d_X_isHeld_6 : decode b_X_isHeld 6 = .ok (.iload_n 1, 1) := by decide +kernel
theorem d_X_isHeld_7 : decode b_X_isHeld 7 = .ok (.invokestatic 117, 3) := by decide +kernel
theorem d_X_isHeld_10 : decode b_X_isHeld 10 = .ok (.iand, 1) := by decide +kernel
theorem d_X_isHeld_11 : decode b_X_isHeld 11 = .ok (.ifCond .eq 7, 3) := by decide +kernel
theorem d_X_isHeld_14 : decode b_X_isHeld 14 = .ok (.iconst 1, 1) := by decide +kernel
theorem d_X_isHeld_15 : decode b_X_isHeld 15 = .ok (.goto 4, 3) := by decide +kernel
theorem d_X_isHeld_18 : decode b_X_isHeld 18 = .ok (.iconst 0, 1) := by decide +kernel
theorem d_X_isHeld_19 : decode b_X_isHeld 19 = .ok (.ireturn, 1) := by decide +kernel
theorem d_X_isSeen_0 : decode b_X_isSeen 0 = .ok (.aload_n 0, 1) := by decide +kernel
theorem d_X_isSeen_1 : decode b_X_isSeen 1 = .ok (.iload_n 1, 1) := by decide +kernel
theorem d_X_isSeen_2 : decode b_X_isSeen 2 = .ok (.iload_n 2, 1) := by decide +kernel
theorem d_X_isSeen_3 : decode b_X_isSeen 3 = .ok (.invokevirtual 70, 3) := by decide +kernel
theorem d_X_isSeen_6 : decode b_X_isSeen 6 = .ok (.ifCond .eq 21, 3) := by decide +kernel
theorem d_X_isSeen_9 : decode b_X_isSeen 9 = .ok (.aload_n 0, 1) := by decide +kernel
theorem d_X_isSeen_10 : decode b_X_isSeen 10 = .ok (.getfield 34, 3) := by decide +kernel
theorem d_X_isSeen_13 : decode b_X_isSeen 13 = .ok (.iload_n 2, 1) := by decide +kernel
theorem d_X_isSeen_14 : decode b_X_isSeen 14 = .ok (.iaload, 1) := by decide +kernel
theorem d_X_isSeen_15 : decode b_X_isSeen 15 = .ok (.iload_n 1, 1) := by decide +kernel
theorem d_X_isSeen_16 : decode b_X_isSeen 16 = .ok (.invokestatic 117, 3) := by decide +kernel
theorem d_X_isSeen_19 : decode b_X_isSeen 19 = .ok (.iand, 1) := by decide +kernel
theorem d_X_isSeen_20 : decode b_X_isSeen 20 = .ok (.ifCond .ne 7, 3) := by decide +kernel
theorem d_X_isSeen_23 : decode b_X_isSeen 23 = .ok (.iconst 1, 1) := by decide +kernel
theorem d_X_isSeen_24 : decode b_X_isSeen 24 = .ok (.goto 4, 3) := by decide +kernel
theorem d_X_isSeen_27 : decode b_X_isSeen 27 = .ok (.iconst 0, 1) := by decide +kernel
theorem d_X_isSeen_28 : decode b_X_isSeen 28 = .ok (.ireturn, 1) := by decide +kernel
theorem d_X_bitOf_0 : decode b_X_bitOf 0 = .ok (.iconst 1, 1) := by decide +kernel
theorem d_X_bitOf_1 : decode b_X_bitOf 1 = .ok (.iload_n 0, 1) := by decide +kernel
theorem d_X_bitOf_2 : decode b_X_bitOf 2 = .ok (.ishl, 1) := by decide +kernel
theorem d_X_bitOf_3 : decode b_X_bitOf 3 = .ok (.ireturn, 1) := by decide +kernel
theorem d_X_make_0 : decode b_X_make 0 = .ok (.aload_n 0, 1) := by decide +kernel
theorem d_X_make_1 : decode b_X_make 1 = .ok (.getfield 7, 3) := by decide +kernel
theorem d_X_make_4 : decode b_X_make 4 = .ok (.istore 4, 2) := by decide +kernel
theorem d_X_make_6 : decode b_X_make 6 = .ok (.aload_n 0, 1) := by decide +kernel
theorem d_X_make_7 : decode b_X_make 7 = .ok (.getfield 13, 3) := by decide +kernel
theorem d_X_make_10 : decode b_X_make 10 = .ok (.iload 4, 2) := by decide +kernel
theorem d_X_make_12 : decode b_X_make 12 = .ok (.iload_n 3, 1) := by decide +kernel
theorem d_X_make_13 : decode b_X_make 13 = .ok (.bastore, 1) := by decide +kernel
theorem d_X_make_14 : decode b_X_make 14 = .ok (.aload_n 0, 1) := by decide +kernel
theorem d_X_make_15 : decode b_X_make 15 = .ok (.getfield 17, 3) := by decide +kernel
theorem d_X_make_18 : decode b_X_make 18 = .ok (.iload 4, 2) := by decide +kernel
theorem d_X_make_20 : decode b_X_make 20 = .ok (.iload_n 2, 1) := by decide +kernel
theorem d_X_make_21 : decode b_X_make 21 = .ok (.iastore, 1) := by decide +kernel
theorem d_X_make_22 : decode b_X_make 22 = .ok (.aload_n 0, 1) := by decide +kernel
theorem d_X_make_23 : decode b_X_make 23 = .ok (.getfield 25, 3) := by decide +kernel
theorem d_X_make_26 : decode b_X_make 26 = .ok (.iload 4, 2) := by decide +kernel
theorem d_X_make_28 : decode b_X_make 28 = .ok (.aload_n 0, 1) := by decide +kernel
theorem d_X_make_29 : decode b_X_make 29 = .ok (.getfield 37, 3) := by decide +kernel
theorem d_X_make_32 : decode b_X_make 32 = .ok (.iload_n 1, 1) := by decide +kernel
theorem d_X_make_33 : decode b_X_make 33 = .ok (.iaload, 1) := by decide +kernel
theorem d_X_make_34 : decode b_X_make 34 = .ok (.iconst 1, 1) := by decide +kernel
theorem d_X_make_35 : decode b_X_make 35 = .ok (.iadd, 1) := by decide +kernel
theorem d_X_make_36 : decode b_X_make 36 = .ok (.iastore, 1) := by decide +kernel
theorem d_X_make_37 : decode b_X_make 37 = .ok (.aload_n 0, 1) := by decide +kernel
theorem d_X_make_38 : decode b_X_make 38 = .ok (.getfield 28, 3) := by decide +kernel
theorem d_X_make_41 : decode b_X_make 41 = .ok (.iload 4, 2) := by decide +kernel
theorem d_X_make_43 : decode b_X_make 43 = .ok (.iload_n 1, 1) := by decide +kernel
theorem d_X_make_44 : decode b_X_make 44 = .ok (.iastore, 1) := by decide +kernel
theorem d_X_make_45 : decode b_X_make 45 = .ok (.aload_n 0, 1) := by decide +kernel
theorem d_X_make_46 : decode b_X_make 46 = .ok (.dup, 1) := by decide +kernel
theorem d_X_make_47 : decode b_X_make 47 = .ok (.getfield 7, 3) := by decide +kernel
theorem d_X_make_50 : decode b_X_make 50 = .ok (.iconst 1, 1) := by decide +kernel
theorem d_X_make_51 : decode b_X_make 51 = .ok (.iadd, 1) := by decide +kernel
theorem d_X_make_52 : decode b_X_make 52 = .ok (.putfield 7, 3) := by decide +kernel
theorem d_X_make_55 : decode b_X_make 55 = .ok (.aload_n 0, 1) := by decide +kernel
theorem d_X_make_56 : decode b_X_make 56 = .ok (.iload_n 1, 1) := by decide +kernel
theorem d_X_make_57 : decode b_X_make 57 = .ok (.iload 4, 2) := by decide +kernel
theorem d_X_make_59 : decode b_X_make 59 = .ok (.invokevirtual 67, 3) := by decide +kernel
theorem d_X_make_62 : decode b_X_make 62 = .ok (.iload 4, 2) := by decide +kernel
theorem d_X_make_64 : decode b_X_make 64 = .ok (.ireturn, 1) := by decide +kernel
theorem d_X_take_0 : decode b_X_take 0 = .ok (.aload_n 0, 1) := by decide +kernel
theorem d_X_take_1 : decode b_X_take 1 = .ok (.getfield 31, 3) := by decide +kernel
theorem d_X_take_4 : decode b_X_take 4 = .ok (.iload_n 2, 1) := by decide +kernel
theorem d_X_take_5 : decode b_X_take 5 = .ok (.dup2, 1) := by decide +kernel
theorem d_X_take_6 : decode b_X_take 6 = .ok (.iaload, 1) := by decide +kernel
theorem d_X_take_7 : decode b_X_take 7 = .ok (.iload_n 1, 1) := by decide +kernel
theorem d_X_take_8 : decode b_X_take 8 = .ok (.invokestatic 117, 3) := by decide +kernel
theorem d_X_take_11 : decode b_X_take 11 = .ok (.ior, 1) := by decide +kernel
theorem d_X_take_12 : decode b_X_take 12 = .ok (.iastore, 1) := by decide +kernel
theorem d_X_take_13 : decode b_X_take 13 = .ok (.aload_n 0, 1) := by decide +kernel
theorem d_X_take_14 : decode b_X_take 14 = .ok (.getfield 13, 3) := by decide +kernel
theorem d_X_take_17 : decode b_X_take 17 = .ok (.iload_n 2, 1) := by decide +kernel
theorem d_X_take_18 : decode b_X_take 18 = .ok (.baload, 1) := by decide +kernel
theorem d_X_take_19 : decode b_X_take 19 = .ok (.ifCond .eq 21, 3) := by decide +kernel
theorem d_X_take_22 : decode b_X_take 22 = .ok (.aload_n 0, 1) := by decide +kernel
theorem d_X_take_23 : decode b_X_take 23 = .ok (.getfield 34, 3) := by decide +kernel
theorem d_X_take_26 : decode b_X_take 26 = .ok (.aload_n 0, 1) := by decide +kernel
theorem d_X_take_27 : decode b_X_take 27 = .ok (.getfield 17, 3) := by decide +kernel
theorem d_X_take_30 : decode b_X_take 30 = .ok (.iload_n 2, 1) := by decide +kernel
theorem d_X_take_31 : decode b_X_take 31 = .ok (.iaload, 1) := by decide +kernel
theorem d_X_take_32 : decode b_X_take 32 = .ok (.dup2, 1) := by decide +kernel
theorem d_X_take_33 : decode b_X_take 33 = .ok (.iaload, 1) := by decide +kernel
theorem d_X_take_34 : decode b_X_take 34 = .ok (.iload_n 1, 1) := by decide +kernel
theorem d_X_take_35 : decode b_X_take 35 = .ok (.invokestatic 117, 3) := by decide +kernel
theorem d_X_take_38 : decode b_X_take 38 = .ok (.ior, 1) := by decide +kernel
theorem d_X_take_39 : decode b_X_take 39 = .ok (.iastore, 1) := by decide +kernel
theorem d_X_take_40 : decode b_X_take 40 = .ok (.aload_n 0, 1) := by decide +kernel
theorem d_X_take_41 : decode b_X_take 41 = .ok (.getfield 37, 3) := by decide +kernel
theorem d_X_take_44 : decode b_X_take 44 = .ok (.iload_n 1, 1) := by decide +kernel
theorem d_X_take_45 : decode b_X_take 45 = .ok (.aload_n 0, 1) := by decide +kernel
theorem d_X_take_46 : decode b_X_take 46 = .ok (.getfield 37, 3) := by decide +kernel
theorem d_X_take_49 : decode b_X_take 49 = .ok (.iload_n 1, 1) := by decide +kernel
theorem d_X_take_50 : decode b_X_take 50 = .ok (.iaload, 1) := by decide +kernel
theorem d_X_take_51 : decode b_X_take 51 = .ok (.aload_n 0, 1) := by decide +kernel
theorem d_X_take_52 : decode b_X_take 52 = .ok (.getfield 25, 3) := by decide +kernel
theorem d_X_take_55 : decode b_X_take 55 = .ok (.iload_n 2, 1) := by decide +kernel
theorem d_X_take_56 : decode b_X_take 56 = .ok (.iaload, 1) := by decide +kernel
theorem d_X_take_57 : decode b_X_take 57 = .ok (.invokestatic 120, 3) := by decide +kernel
theorem d_X_take_60 : decode b_X_take 60 = .ok (.iastore, 1) := by decide +kernel
theorem d_X_take_61 : decode b_X_take 61 = .ok (.return_, 1) := by decide +kernel
theorem d_X_weave_0 : decode b_X_weave 0 = .ok (.aload_n 0, 1) := by decide +kernel
theorem d_X_weave_1 : decode b_X_weave 1 = .ok (.aload_n 0, 1) := by decide +kernel
theorem d_X_weave_2 : decode b_X_weave 2 = .ok (.getfield 17, 3) := by decide +kernel
theorem d_X_weave_5 : decode b_X_weave 5 = .ok (.iload_n 1, 1) := by decide +kernel
theorem d_X_weave_6 : decode b_X_weave 6 = .ok (.iaload, 1) := by decide +kernel
theorem d_X_weave_7 : decode b_X_weave 7 = .ok (.invokevirtual 126, 3) := by decide +kernel
theorem d_X_weave_10 : decode b_X_weave 10 = .ok (.istore_n 2, 1) := by decide +kernel
theorem d_X_weave_11 : decode b_X_weave 11 = .ok (.iload_n 2, 1) := by decide +kernel
theorem d_X_weave_12 : decode b_X_weave 12 = .ok (.aload_n 0, 1) := by decide +kernel
theorem d_X_weave_13 : decode b_X_weave 13 = .ok (.getfield 43, 3) := by decide +kernel
theorem d_X_weave_16 : decode b_X_weave 16 = .ok (.if_icmp .ge 23, 3) := by decide +kernel
theorem d_X_weave_19 : decode b_X_weave 19 = .ok (.aload_n 0, 1) := by decide +kernel
theorem d_X_weave_20 : decode b_X_weave 20 = .ok (.aload_n 0, 1) := by decide +kernel
theorem d_X_weave_21 : decode b_X_weave 21 = .ok (.getfield 40, 3) := by decide +kernel
theorem d_X_weave_24 : decode b_X_weave 24 = .ok (.iload_n 2, 1) := by decide +kernel
theorem d_X_weave_25 : decode b_X_weave 25 = .ok (.iaload, 1) := by decide +kernel
theorem d_X_weave_26 : decode b_X_weave 26 = .ok (.iload_n 1, 1) := by decide +kernel
theorem d_X_weave_27 : decode b_X_weave 27 = .ok (.invokevirtual 129, 3) := by decide +kernel
theorem d_X_weave_30 : decode b_X_weave 30 = .ok (.ifCond .eq 9, 3) := by decide +kernel
theorem d_X_weave_33 : decode b_X_weave 33 = .ok (.iinc 2 1, 3) := by decide +kernel
theorem d_X_weave_36 : decode b_X_weave 36 = .ok (.goto (-25), 3) := by decide +kernel
theorem d_X_weave_39 : decode b_X_weave 39 = .ok (.aload_n 0, 1) := by decide +kernel
theorem d_X_weave_40 : decode b_X_weave 40 = .ok (.getfield 43, 3) := by decide +kernel
theorem d_X_weave_43 : decode b_X_weave 43 = .ok (.istore_n 3, 1) := by decide +kernel
theorem d_X_weave_44 : decode b_X_weave 44 = .ok (.iload_n 3, 1) := by decide +kernel
theorem d_X_weave_45 : decode b_X_weave 45 = .ok (.iload_n 2, 1) := by decide +kernel
theorem d_X_weave_46 : decode b_X_weave 46 = .ok (.if_icmp .le 23, 3) := by decide +kernel
theorem d_X_weave_49 : decode b_X_weave 49 = .ok (.aload_n 0, 1) := by decide +kernel
theorem d_X_weave_50 : decode b_X_weave 50 = .ok (.getfield 40, 3) := by decide +kernel
theorem d_X_weave_53 : decode b_X_weave 53 = .ok (.iload_n 3, 1) := by decide +kernel
theorem d_X_weave_54 : decode b_X_weave 54 = .ok (.aload_n 0, 1) := by decide +kernel
theorem d_X_weave_55 : decode b_X_weave 55 = .ok (.getfield 40, 3) := by decide +kernel
theorem d_X_weave_58 : decode b_X_weave 58 = .ok (.iload_n 3, 1) := by decide +kernel
theorem d_X_weave_59 : decode b_X_weave 59 = .ok (.iconst 1, 1) := by decide +kernel
theorem d_X_weave_60 : decode b_X_weave 60 = .ok (.isub, 1) := by decide +kernel
theorem d_X_weave_61 : decode b_X_weave 61 = .ok (.iaload, 1) := by decide +kernel
theorem d_X_weave_62 : decode b_X_weave 62 = .ok (.iastore, 1) := by decide +kernel
theorem d_X_weave_63 : decode b_X_weave 63 = .ok (.iinc 3 (-1), 3) := by decide +kernel
theorem d_X_weave_66 : decode b_X_weave 66 = .ok (.goto (-22), 3) := by decide +kernel
theorem d_X_weave_69 : decode b_X_weave 69 = .ok (.aload_n 0, 1) := by decide +kernel
theorem d_X_weave_70 : decode b_X_weave 70 = .ok (.getfield 40, 3) := by decide +kernel
theorem d_X_weave_73 : decode b_X_weave 73 = .ok (.iload_n 2, 1) := by decide +kernel
theorem d_X_weave_74 : decode b_X_weave 74 = .ok (.iload_n 1, 1) := by decide +kernel
theorem d_X_weave_75 : decode b_X_weave 75 = .ok (.iastore, 1) := by decide +kernel
theorem d_X_weave_76 : decode b_X_weave 76 = .ok (.aload_n 0, 1) := by decide +kernel
theorem d_X_weave_77 : decode b_X_weave 77 = .ok (.dup, 1) := by decide +kernel
theorem d_X_weave_78 : decode b_X_weave 78 = .ok (.getfield 43, 3) := by decide +kernel
theorem d_X_weave_81 : decode b_X_weave 81 = .ok (.iconst 1, 1) := by decide +kernel
theorem d_X_weave_82 : decode b_X_weave 82 = .ok (.iadd, 1) := by decide +kernel
theorem d_X_weave_83 : decode b_X_weave 83 = .ok (.putfield 43, 3) := by decide +kernel
theorem d_X_weave_86 : decode b_X_weave 86 = .ok (.return_, 1) := by decide +kernel
theorem d_X_positionBehind_0 : decode b_X_positionBehind 0 = .ok (.aload_n 0, 1) := by decide +kernel
theorem d_X_positionBehind_1 : decode b_X_positionBehind 1 = .ok (.getfield 43, 3) := by decide +kernel
theorem d_X_positionBehind_4 : decode b_X_positionBehind 4 = .ok (.istore_n 2, 1) := by decide +kernel
theorem d_X_positionBehind_5 : decode b_X_positionBehind 5 = .ok (.iload_n 2, 1) := by decide +kernel
theorem d_X_positionBehind_6 : decode b_X_positionBehind 6 = .ok (.ifCond .le 21, 3) := by decide +kernel
theorem d_X_positionBehind_9 : decode b_X_positionBehind 9 = .ok (.aload_n 0, 1) := by decide +kernel
theorem d_X_positionBehind_10 : decode b_X_positionBehind 10 = .ok (.getfield 40, 3) := by decide +kernel
theorem d_X_positionBehind_13 : decode b_X_positionBehind 13 = .ok (.iload_n 2, 1) := by decide +kernel
theorem d_X_positionBehind_14 : decode b_X_positionBehind 14 = .ok (.iconst 1, 1) := by decide +kernel
theorem d_X_positionBehind_15 : decode b_X_positionBehind 15 = .ok (.isub, 1) := by decide +kernel
theorem d_X_positionBehind_16 : decode b_X_positionBehind 16 = .ok (.iaload, 1) := by decide +kernel
theorem d_X_positionBehind_17 : decode b_X_positionBehind 17 = .ok (.iload_n 1, 1) := by decide +kernel
theorem d_X_positionBehind_18 : decode b_X_positionBehind 18 = .ok (.if_icmp .eq 9, 3) := by decide +kernel
theorem d_X_positionBehind_21 : decode b_X_positionBehind 21 = .ok (.iinc 2 (-1), 3) := by decide +kernel
theorem d_X_positionBehind_24 : decode b_X_positionBehind 24 = .ok (.goto (-19), 3) := by decide +kernel
theorem d_X_positionBehind_27 : decode b_X_positionBehind 27 = .ok (.iload_n 2, 1) := by decide +kernel
theorem d_X_positionBehind_28 : decode b_X_positionBehind 28 = .ok (.ireturn, 1) := by decide +kernel
theorem d_X_isGreater_0 : decode b_X_isGreater 0 = .ok (.aload_n 0, 1) := by decide +kernel
theorem d_X_isGreater_1 : decode b_X_isGreater 1 = .ok (.getfield 25, 3) := by decide +kernel
theorem d_X_isGreater_4 : decode b_X_isGreater 4 = .ok (.iload_n 1, 1) := by decide +kernel
theorem d_X_isGreater_5 : decode b_X_isGreater 5 = .ok (.iaload, 1) := by decide +kernel
theorem d_X_isGreater_6 : decode b_X_isGreater 6 = .ok (.aload_n 0, 1) := by decide +kernel
theorem d_X_isGreater_7 : decode b_X_isGreater 7 = .ok (.getfield 25, 3) := by decide +kernel
theorem d_X_isGreater_10 : decode b_X_isGreater 10 = .ok (.iload_n 2, 1) := by decide +kernel
theorem d_X_isGreater_11 : decode b_X_isGreater 11 = .ok (.iaload, 1) := by decide +kernel
theorem d_X_isGreater_12 : decode b_X_isGreater 12 = .ok (.if_icmp .eq 24, 3) := by decide +kernel
theorem d_X_isGreater_15 : decode b_X_isGreater 15 = .ok (.aload_n 0, 1) := by decide +kernel
theorem d_X_isGreater_16 : decode b_X_isGreater 16 = .ok (.getfield 25, 3) := by decide +kernel
theorem d_X_isGreater_19 : decode b_X_isGreater 19 = .ok (.iload_n 1, 1) := by decide +kernel
theorem d_X_isGreater_20 : decode b_X_isGreater 20 = .ok (.iaload, 1) := by decide +kernel
theorem d_X_isGreater_21 : decode b_X_isGreater 21 = .ok (.aload_n 0, 1) := by decide +kernel
theorem d_X_isGreater_22 : decode b_X_isGreater 22 = .ok (.getfield 25, 3) := by decide +kernel
theorem d_X_isGreater_25 : decode b_X_isGreater 25 = .ok (.iload_n 2, 1) := by decide +kernel
theorem d_X_isGreater_26 : decode b_X_isGreater 26 = .ok (.iaload, 1) := by decide +kernel
theorem d_X_isGreater_27 : decode b_X_isGreater 27 = .ok (.if_icmp .le 7, 3) := by decide +kernel
theorem d_X_isGreater_30 : decode b_X_isGreater 30 = .ok (.iconst 1, 1) := by decide +kernel
theorem d_X_isGreater_31 : decode b_X_isGreater 31 = .ok (.goto 4, 3) := by decide +kernel
theorem d_X_isGreater_34 : decode b_X_isGreater 34 = .ok (.iconst 0, 1) := by decide +kernel
theorem d_X_isGreater_35 : decode b_X_isGreater 35 = .ok (.ireturn, 1) := by decide +kernel
theorem d_X_isGreater_36 : decode b_X_isGreater 36 = .ok (.aload_n 0, 1) := by decide +kernel
theorem d_X_isGreater_37 : decode b_X_isGreater 37 = .ok (.getfield 28, 3) := by decide +kernel
theorem d_X_isGreater_40 : decode b_X_isGreater 40 = .ok (.iload_n 1, 1) := by decide +kernel
theorem d_X_isGreater_41 : decode b_X_isGreater 41 = .ok (.iaload, 1) := by decide +kernel
theorem d_X_isGreater_42 : decode b_X_isGreater 42 = .ok (.aload_n 0, 1) := by decide +kernel
theorem d_X_isGreater_43 : decode b_X_isGreater 43 = .ok (.getfield 28, 3) := by decide +kernel
theorem d_X_isGreater_46 : decode b_X_isGreater 46 = .ok (.iload_n 2, 1) := by decide +kernel
theorem d_X_isGreater_47 : decode b_X_isGreater 47 = .ok (.iaload, 1) := by decide +kernel
theorem d_X_isGreater_48 : decode b_X_isGreater 48 = .ok (.if_icmp .le 7, 3) := by decide +kernel
theorem d_X_isGreater_51 : decode b_X_isGreater 51 = .ok (.iconst 1, 1) := by decide +kernel
theorem d_X_isGreater_52 : decode b_X_isGreater 52 = .ok (.goto 4, 3) := by decide +kernel
theorem d_X_isGreater_55 : decode b_X_isGreater 55 = .ok (.iconst 0, 1) := by decide +kernel
theorem d_X_isGreater_56 : decode b_X_isGreater 56 = .ok (.ireturn, 1) := by decide +kernel
theorem d_X_countHeldOperations_0 : decode b_X_countHeldOperations 0 = .ok (.iconst 0, 1) := by decide +kernel
theorem d_X_countHeldOperations_1 : decode b_X_countHeldOperations 1 = .ok (.istore_n 2, 1) := by decide +kernel
theorem d_X_countHeldOperations_2 : decode b_X_countHeldOperations 2 = .ok (.iconst 0, 1) := by decide +kernel
theorem d_X_countHeldOperations_3 : decode b_X_countHeldOperations 3 = .ok (.istore_n 3, 1) := by decide +kernel
theorem d_X_countHeldOperations_4 : decode b_X_countHeldOperations 4 = .ok (.iload_n 3, 1) := by decide +kernel
theorem d_X_countHeldOperations_5 : decode b_X_countHeldOperations 5 = .ok (.aload_n 0, 1) := by decide +kernel
theorem d_X_countHeldOperations_6 : decode b_X_countHeldOperations 6 = .ok (.getfield 7, 3) := by decide +kernel
theorem d_X_countHeldOperations_9 : decode b_X_countHeldOperations 9 = .ok (.if_icmp .ge 21, 3) := by decide +kernel
theorem d_X_countHeldOperations_12 : decode b_X_countHeldOperations 12 = .ok (.aload_n 0, 1) := by decide +kernel
theorem d_X_countHeldOperations_13 : decode b_X_countHeldOperations 13 = .ok (.iload_n 1, 1) := by decide +kernel
theorem d_X_countHeldOperations_14 : decode b_X_countHeldOperations 14 = .ok (.iload_n 3, 1) := by decide +kernel
theorem d_X_countHeldOperations_15 : decode b_X_countHeldOperations 15 = .ok (.invokevirtual 70, 3) := by decide +kernel
theorem d_X_countHeldOperations_18 : decode b_X_countHeldOperations 18 = .ok (.ifCond .eq 6, 3) := by decide +kernel
theorem d_X_countHeldOperations_21 : decode b_X_countHeldOperations 21 = .ok (.iinc 2 1, 3) := by decide +kernel
theorem d_X_countHeldOperations_24 : decode b_X_countHeldOperations 24 = .ok (.iinc 3 1, 3) := by decide +kernel
theorem d_X_countHeldOperations_27 : decode b_X_countHeldOperations 27 = .ok (.goto (-23), 3) := by decide +kernel
theorem d_X_countHeldOperations_30 : decode b_X_countHeldOperations 30 = .ok (.iload_n 2, 1) := by decide +kernel
theorem d_X_countHeldOperations_31 : decode b_X_countHeldOperations 31 = .ok (.ireturn, 1) := by decide +kernel
theorem d_X_countHeldElements_0 : decode b_X_countHeldElements 0 = .ok (.iconst 0, 1) := by decide +kernel
theorem d_X_countHeldElements_1 : decode b_X_countHeldElements 1 = .ok (.istore_n 2, 1) := by decide +kernel
theorem d_X_countHeldElements_2 : decode b_X_countHeldElements 2 = .ok (.iconst 0, 1) := by decide +kernel
theorem d_X_countHeldElements_3 : decode b_X_countHeldElements 3 = .ok (.istore_n 3, 1) := by decide +kernel
theorem d_X_countHeldElements_4 : decode b_X_countHeldElements 4 = .ok (.iload_n 3, 1) := by decide +kernel
theorem d_X_countHeldElements_5 : decode b_X_countHeldElements 5 = .ok (.aload_n 0, 1) := by decide +kernel
theorem d_X_countHeldElements_6 : decode b_X_countHeldElements 6 = .ok (.getfield 43, 3) := by decide +kernel
theorem d_X_countHeldElements_9 : decode b_X_countHeldElements 9 = .ok (.if_icmp .ge 26, 3) := by decide +kernel
theorem d_X_countHeldElements_12 : decode b_X_countHeldElements 12 = .ok (.aload_n 0, 1) := by decide +kernel
theorem d_X_countHeldElements_13 : decode b_X_countHeldElements 13 = .ok (.iload_n 1, 1) := by decide +kernel
theorem d_X_countHeldElements_14 : decode b_X_countHeldElements 14 = .ok (.aload_n 0, 1) := by decide +kernel
theorem d_X_countHeldElements_15 : decode b_X_countHeldElements 15 = .ok (.getfield 40, 3) := by decide +kernel
theorem d_X_countHeldElements_18 : decode b_X_countHeldElements 18 = .ok (.iload_n 3, 1) := by decide +kernel
theorem d_X_countHeldElements_19 : decode b_X_countHeldElements 19 = .ok (.iaload, 1) := by decide +kernel
theorem d_X_countHeldElements_20 : decode b_X_countHeldElements 20 = .ok (.invokevirtual 70, 3) := by decide +kernel
theorem d_X_countHeldElements_23 : decode b_X_countHeldElements 23 = .ok (.ifCond .eq 6, 3) := by decide +kernel
theorem d_X_countHeldElements_26 : decode b_X_countHeldElements 26 = .ok (.iinc 2 1, 3) := by decide +kernel
theorem d_X_countHeldElements_29 : decode b_X_countHeldElements 29 = .ok (.iinc 3 1, 3) := by decide +kernel
theorem d_X_countHeldElements_32 : decode b_X_countHeldElements 32 = .ok (.goto (-28), 3) := by decide +kernel
theorem d_X_countHeldElements_35 : decode b_X_countHeldElements 35 = .ok (.iload_n 2, 1) := by decide +kernel
theorem d_X_countHeldElements_36 : decode b_X_countHeldElements 36 = .ok (.ireturn, 1) := by decide +kernel
theorem d_X_countSeen_0 : decode b_X_countSeen 0 = .ok (.iconst 0, 1) := by decide +kernel
theorem d_X_countSeen_1 : decode b_X_countSeen 1 = .ok (.istore_n 2, 1) := by decide +kernel
theorem d_X_countSeen_2 : decode b_X_countSeen 2 = .ok (.iconst 0, 1) := by decide +kernel
theorem d_X_countSeen_3 : decode b_X_countSeen 3 = .ok (.istore_n 3, 1) := by decide +kernel
theorem d_X_countSeen_4 : decode b_X_countSeen 4 = .ok (.iload_n 3, 1) := by decide +kernel
theorem d_X_countSeen_5 : decode b_X_countSeen 5 = .ok (.aload_n 0, 1) := by decide +kernel
theorem d_X_countSeen_6 : decode b_X_countSeen 6 = .ok (.getfield 43, 3) := by decide +kernel
theorem d_X_countSeen_9 : decode b_X_countSeen 9 = .ok (.if_icmp .ge 26, 3) := by decide +kernel
theorem d_X_countSeen_12 : decode b_X_countSeen 12 = .ok (.aload_n 0, 1) := by decide +kernel
theorem d_X_countSeen_13 : decode b_X_countSeen 13 = .ok (.iload_n 1, 1) := by decide +kernel
theorem d_X_countSeen_14 : decode b_X_countSeen 14 = .ok (.aload_n 0, 1) := by decide +kernel
theorem d_X_countSeen_15 : decode b_X_countSeen 15 = .ok (.getfield 40, 3) := by decide +kernel
theorem d_X_countSeen_18 : decode b_X_countSeen 18 = .ok (.iload_n 3, 1) := by decide +kernel
theorem d_X_countSeen_19 : decode b_X_countSeen 19 = .ok (.iaload, 1) := by decide +kernel
theorem d_X_countSeen_20 : decode b_X_countSeen 20 = .ok (.invokevirtual 74, 3) := by decide +kernel
theorem d_X_countSeen_23 : decode b_X_countSeen 23 = .ok (.ifCond .eq 6, 3) := by decide +kernel
theorem d_X_countSeen_26 : decode b_X_countSeen 26 = .ok (.iinc 2 1, 3) := by decide +kernel
theorem d_X_countSeen_29 : decode b_X_countSeen 29 = .ok (.iinc 3 1, 3) := by decide +kernel
theorem d_X_countSeen_32 : decode b_X_countSeen 32 = .ok (.goto (-28), 3) := by decide +kernel
theorem d_X_countSeen_35 : decode b_X_countSeen 35 = .ok (.iload_n 2, 1) := by decide +kernel
theorem d_X_countSeen_36 : decode b_X_countSeen 36 = .ok (.ireturn, 1) := by decide +kernel
end
section
/-! the class's cells: the object and its nine arrays -/
def wX (ad : Nat → Nat) (cB cI cL : ClassId) (f0 f1 f2 f3 f4 f5 f6 f7 : Nat → Int32) (v : Nat → Int64) (md ln : Int32) : va_W :=
  [(ad 0, .inr (0, [.int md, .ref (ad 1), .ref (ad 2), .ref (ad 3), .ref (ad 4), .ref (ad 5), .ref (ad 6), .ref (ad 7), .ref (ad 8), .ref (ad 9), .int ln])),
   (ad 1, .inl (cB, 160, .inl f0)), (ad 2, .inl (cI, 160, .inl f1)), (ad 3, .inl (cL, 160, .inr (.inl v))), (ad 4, .inl (cI, 160, .inl f2)), (ad 5, .inl (cI, 160, .inl f3)), (ad 6, .inl (cI, 160, .inl f4)), (ad 7, .inl (cI, 160, .inl f5)), (ad 8, .inl (cI, 4, .inl f6)), (ad 9, .inl (cI, 160, .inl f7))]
theorem cx_h0 {a : AS} {f4 : Nat → Int32} {r k : Nat} (h4 : ∀ k, k < 160 → f4 k = nI (ab_mask (fun r => a_hd a r k))) (hk : k < 160) (hr : r < 4) : f4 k &&& ab_bit r = 0 ↔ a_hd a r k = false := by rw [h4 k hk]; exact ab_mask_bit (h := fun r => a_hd a r k) hr
theorem cx_d0 {a : AS} {f5 : Nat → Int32} {r k : Nat} (h5 : ∀ e, e < 160 → f5 e = nI (ab_mask (fun r => a_del a r e))) (hk : k < 160) (hr : r < 4) : f5 k &&& ab_bit r = 0 ↔ a_del a r k = false := by rw [h5 k hk]; exact ab_mask_bit (h := fun r => a_del a r k) hr
theorem ts_nf9 {x : Bool} (h : ¬ x = false) : x = true := by cases x <;> simp_all
theorem w_46 : Cond.fieldLink RX 7 "WovenRow" "made" "I" ∈ WL := jwl 46 rfl rfl
theorem w_52 : Cond.fieldLink RX 31 "WovenRow" "holders" "[I" ∈ WL := jwl 52 rfl rfl
theorem w_201 : Cond.methodLink RX 117 y_X_bitOf ∈ WL := jwl 201 rfl rfl
theorem w_202 : Cond.static y_X_bitOf ∈ WL := jwl 202 rfl rfl
theorem w_29 : Cond.initialized RX ∈ WL := jwl 29 rfl rfl
theorem w_203 : Cond.code y_X_bitOf b_X_bitOf 1 (some .int) ∈ WL := jwl 203 rfl rfl
abbrev rm_X_isOperation : Room := { frames := 0, cells := 0, slots := 0, locals := 0 }
abbrev rm_X_isHeld : Room := { frames := 1, cells := 0, slots := 0, locals := 20 }
abbrev rm_X_bitOf : Room := { frames := 0, cells := 0, slots := 0, locals := 0 }
set_option maxHeartbeats 4000000 in
set_option maxRecDepth 100000 in
theorem c_bitOf (l : Launch) (D : va_G) (cB cI cL : ClassId) (r : Nat) : jw_Ei l D vCl (vTy cB cI cL) y_X_bitOf s_X_bitOf rm_X_bitOf [.int (nI r)] ([]) ((ab_bit r)) := by
  refine jw_ofi (cc := b_X_bitOf) (nL := 1) (ret := (some .int)) (by decide) rfl (Nat.le_of_ble_eq_true rfl) (fun p e s m args below meth c A F hnm => ?_)
  refine jw_at (lv' := [(0, .int (nI r))]) (st' := []) (ws' := []) rfl rfl rfl ?_
  refine jw_iconst (pc := 0) (v := 1) F d_X_bitOf_0 (by decide) ?_
  refine jw_iload_n (pc := 1) F 0 d_X_bitOf_1 rfl rfl ?_
  refine jw_ishl (pc := 2) F d_X_bitOf_2 ?_
  exact jw_iret F d_X_bitOf_3 ⟨rfl, rfl⟩
set_option maxHeartbeats 4000000 in
set_option maxRecDepth 100000 in
theorem c_isOperation (l : Launch) (D : va_G) (ad : Nat → Nat) (cB cI cL : ClassId) (f0 f1 f2 f3 f4 f5 f6 f7 : Nat → Int32) (v : Nat → Int64) (md ln : Int32) (n : Nat) (hmd : md = nI n) (k : Int32) : jw_Ei l D vCl (vTy cB cI cL) y_X_isOperation s_X_isOperation rm_X_isOperation [.ref (ad 0), .int k] (wX ad cB cI cL f0 f1 f2 f3 f4 f5 f6 f7 v md ln) ((jb (a_isop n k))) := by
  refine jw_ofi (cc := b_X_isOperation) (nL := 2) (ret := (some .boolean)) (by decide) rfl (Nat.le_of_ble_eq_true rfl) (fun p e s m args below meth c A F hnm => ?_)
  refine jw_at (lv' := [(0, .ref (ad 0)), (1, .int k)]) (st' := []) (ws' := wX ad cB cI cL f0 f1 f2 f3 f4 f5 f6 f7 v md ln) rfl rfl rfl ?_
  refine jw_iload_n (pc := 0) F 1 d_X_isOperation_0 rfl rfl ?_
  refine jw_if_lt (pc := 1) F 16 d_X_isOperation_1 (by decide) (fun h1 => ?_) (fun h1 => ?_)
  · refine jw_iconst (pc := 16) (v := 0) F d_X_isOperation_16 (by decide) ?_
    exact jw_zret F d_X_isOperation_17 (by decide) ⟨by simp [a_isop, jb, h1], rfl⟩
  · refine jw_iload_n (pc := 4) F 1 d_X_isOperation_4 rfl rfl ?_
    refine jw_aload_n (pc := 5) F 0 d_X_isOperation_5 rfl rfl ?_
    refine jw_get (pc := 6) F (jms inX) 0 rfl rfl 0 (by decide) (jm w_46) rfl d_X_isOperation_6 ?_
    refine jw_icmp_ge (pc := 9) F 16 d_X_isOperation_9 (by decide) (fun h2 => ?_) (fun h2 => ?_)
    · refine jw_iconst (pc := 16) (v := 0) F d_X_isOperation_16 (by decide) ?_
      exact jw_zret F d_X_isOperation_17 (by decide) ⟨by rw [hmd] at h2; rw [show a_isop n k = false by simp [a_isop, Int32.not_lt.mpr h2]]; rfl, rfl⟩
    · refine jw_iconst (pc := 12) (v := 1) F d_X_isOperation_12 (by decide) ?_
      refine jw_goto (pc := 13) F 17 d_X_isOperation_13 (by decide) ?_
      exact jw_zret F d_X_isOperation_17 (by decide) ⟨by rw [hmd] at h2; rw [show a_isop n k = true by simp [a_isop, h1, Int32.not_le.mp h2]]; rfl, rfl⟩
set_option maxHeartbeats 4000000 in
set_option maxRecDepth 100000 in
theorem c_isHeld (l : Launch) (D : va_G) (ad : Nat → Nat) (cB cI cL : ClassId) (f0 f1 f2 f3 f4 f5 f6 f7 : Nat → Int32) (v : Nat → Int64) (md ln : Int32) (a : AS) (r k : Nat) (hA : cx_A a f0 f1 f2 f3 f4 f5 f6 md) (hr : r < 4) (hk : k < 160) : jw_Ei l D vCl (vTy cB cI cL) y_X_isHeld s_X_isHeld rm_X_isHeld [.ref (ad 0), .int (nI r), .int (nI k)] (wX ad cB cI cL f0 f1 f2 f3 f4 f5 f6 f7 v md ln) ((jb (a_hd a r k))) := by
  refine jw_ofi (cc := b_X_isHeld) (nL := 3) (ret := (some .boolean)) (by decide) rfl (Nat.le_of_ble_eq_true rfl) (fun p e s m args below meth c A F hnm => ?_)
  refine jw_at (lv' := [(0, .ref (ad 0)), (1, .int (nI r)), (2, .int (nI k))]) (st' := []) (ws' := wX ad cB cI cL f0 f1 f2 f3 f4 f5 f6 f7 v md ln) rfl rfl rfl ?_
  refine jw_aload_n (pc := 0) F 0 d_X_isHeld_0 rfl rfl ?_
  refine jw_get (pc := 1) F (jms inX) 0 rfl rfl 6 (by decide) (jm w_52) rfl d_X_isHeld_1 ?_
  refine jw_iload_n (pc := 4) F 2 d_X_isHeld_4 rfl rfl ?_
  refine jw_ialdN (pc := 5) F 6 1 rfl rfl k rfl (by omega) (by decide) d_X_isHeld_5 ?_
  refine jw_iload_n (pc := 6) F 1 d_X_isHeld_6 rfl rfl ?_
  refine jw_callS_Ei (pc := 7) (As := [.int (nI r)]) (rest := [.int (f4 k)]) F (c_bitOf l D cB cI cL r) (jw_cwS F.1.2.2.2.2 wl_good w_201 w_202 w_29 w_203 hd_X_bitOf ⟨by decide, by decide⟩) rfl rfl (Nat.le_of_ble_eq_true rfl) d_X_isHeld_7 ⟨rfl, rfl⟩ ⟨by decide, by decide⟩ ?_
  refine jw_iand (pc := 10) F d_X_isHeld_10 ?_
  refine jw_if_eq (pc := 11) F 18 d_X_isHeld_11 (by decide) (fun h1 => ?_) (fun h1 => ?_)
  · refine jw_iconst (pc := 18) (v := 0) F d_X_isHeld_18 (by decide) ?_
    exact jw_zret F d_X_isHeld_19 (by decide) ⟨by rw [(cx_h0 hA.2.2.2.2.2.1 hk hr).mp h1]; rfl, rfl⟩
  · refine jw_iconst (pc := 14) (v := 1) F d_X_isHeld_14 (by decide) ?_
    refine jw_goto (pc := 15) F 19 d_X_isHeld_15 (by decide) ?_
    exact jw_zret F d_X_isHeld_19 (by decide) ⟨by rw [ts_nf9 (fun q => h1 ((cx_h0 hA.2.2.2.2.2.1 hk hr).mpr q))]; rfl, rfl⟩
end
section
def a_isel (a : AS) (k : Int32) : Bool := a_isop (a_n a) k && !a_dl a k.toNatClampNeg
theorem a_isel_nI {a : AS} {j : Nat} (hn : a_n a ≤ 160) (hj : j < a_n a) : a_isel a (nI j) = !a_dl a j := by
  unfold a_isel
  rw [a_isop_nI (by omega) hj, nI_clamp (by omega)]
  rfl
theorem cx_ltb {a : AS} {f0 f1 f2 f3 f4 f5 f6 : Nat → Int32} {md : Int32} (hB : cx_B a) (hm : ∀ k, k < a_n a → a_mk a k < 4) (hA : cx_A a f0 f1 f2 f3 f4 f5 f6 md) {i j : Nat} (hi : i < a_n a) (hj : j < a_n a) : a_ltb a j i = (decide (f2 j < f2 i) || (decide (f2 j = f2 i) && decide (f3 j < f3 i))) := by
  have b1 := hB.2.1 i hi
  have b2 := hB.2.1 j hj
  have b3 := hm i hi
  have b4 := hm j hj
  rw [hA.2.2.2.1 i hi, hA.2.2.2.1 j hj, hA.2.2.2.2.1 i hi, hA.2.2.2.2.1 j hj]
  unfold a_ltb
  simp only [nI_ltI (show a_ct a j < 2 ^ 31 by omega) (show a_ct a i < 2 ^ 31 by omega), nI_eq (show a_ct a j < 2 ^ 31 by omega) (show a_ct a i < 2 ^ 31 by omega), nI_ltI (show a_mk a j < 2 ^ 31 by omega) (show a_mk a i < 2 ^ 31 by omega)]
theorem gl_range_s {f : Nat → Bool} {i : Nat} : (List.range (i + 1)).countP f = (List.range i).countP f + (if f i = true then 1 else 0) := by
  rw [List.range_succ, List.countP_append, List.countP_cons, List.countP_nil]
  simp
theorem w_193 : Cond.methodLink RX 107 y_X_isOperation ∈ WL := jwl 193 rfl rfl
theorem w_195 : Cond.instanceMethod y_X_isOperation ∈ WL := jwl 195 rfl rfl
theorem w_5 : Cond.selects RX y_X_isOperation y_X_isOperation ∈ WL := jwl 5 rfl rfl
theorem w_196 : Cond.code y_X_isOperation b_X_isOperation 2 (some .boolean) ∈ WL := jwl 196 rfl rfl
theorem w_47 : Cond.fieldLink RX 13 "WovenRow" "isDelete" "[Z" ∈ WL := jwl 47 rfl rfl
theorem w_197 : Cond.methodLink RX 70 y_X_isHeld ∈ WL := jwl 197 rfl rfl
theorem w_199 : Cond.instanceMethod y_X_isHeld ∈ WL := jwl 199 rfl rfl
theorem w_6 : Cond.selects RX y_X_isHeld y_X_isHeld ∈ WL := jwl 6 rfl rfl
theorem w_200 : Cond.code y_X_isHeld b_X_isHeld 3 (some .boolean) ∈ WL := jwl 200 rfl rfl
theorem w_53 : Cond.fieldLink RX 34 "WovenRow" "deleters" "[I" ∈ WL := jwl 53 rfl rfl
theorem w_50 : Cond.fieldLink RX 25 "WovenRow" "stampCount" "[I" ∈ WL := jwl 50 rfl rfl
theorem w_51 : Cond.fieldLink RX 28 "WovenRow" "maker" "[I" ∈ WL := jwl 51 rfl rfl
theorem w_54 : Cond.fieldLink RX 37 "WovenRow" "greatestCount" "[I" ∈ WL := jwl 54 rfl rfl
theorem w_228 : Cond.methodLink RX 120 Lib.Math.max.name ∈ WL := jwl 228 rfl rfl
theorem w_229 : Cond.static Lib.Math.max.name ∈ WL := jwl 229 rfl rfl
theorem w_37 : Cond.initialized "java/lang/Math" ∈ WL := jwl 37 rfl rfl
theorem w_230 : Cond.code Lib.Math.max.name Lib.Math.max.code 2 (some .int) ∈ WL := jwl 230 rfl rfl
theorem w_48 : Cond.fieldLink RX 17 "WovenRow" "target" "[I" ∈ WL := jwl 48 rfl rfl
theorem w_224 : Cond.methodLink RX 67 y_X_take ∈ WL := jwl 224 rfl rfl
theorem w_226 : Cond.instanceMethod y_X_take ∈ WL := jwl 226 rfl rfl
theorem w_8 : Cond.selects RX y_X_take y_X_take ∈ WL := jwl 8 rfl rfl
theorem w_227 : Cond.code y_X_take b_X_take 3 none ∈ WL := jwl 227 rfl rfl
abbrev rm_X_isElement : Room := { frames := 1, cells := 0, slots := 0, locals := 21 }
abbrev rm_X_isSeen : Room := { frames := 2, cells := 0, slots := 0, locals := 42 }
abbrev rm_X_make : Room := { frames := 2, cells := 0, slots := 0, locals := 43 }
abbrev rm_X_take : Room := { frames := 1, cells := 0, slots := 0, locals := 21 }
abbrev rm_X_isGreater : Room := { frames := 0, cells := 0, slots := 0, locals := 0 }
abbrev rm_X_countHeldOperations : Room := { frames := 2, cells := 0, slots := 0, locals := 42 }
set_option maxHeartbeats 4000000 in
set_option maxRecDepth 100000 in
theorem c_isElement (l : Launch) (D : va_G) (ad : Nat → Nat) (cB cI cL : ClassId) (f0 f1 f2 f3 f4 f5 f6 f7 : Nat → Int32) (v : Nat → Int64) (md ln : Int32) (a : AS) (hB : cx_B a) (hA : cx_A a f0 f1 f2 f3 f4 f5 f6 md) (k : Int32) : jw_Ei l D vCl (vTy cB cI cL) y_X_isElement s_X_isElement rm_X_isElement [.ref (ad 0), .int k] (wX ad cB cI cL f0 f1 f2 f3 f4 f5 f6 f7 v md ln) ((jb (a_isel a k))) := by
  refine jw_ofi (cc := b_X_isElement) (nL := 2) (ret := (some .boolean)) (by decide) rfl (Nat.le_of_ble_eq_true rfl) (fun p e s m args below meth c A F hnm => ?_)
  refine jw_at (lv' := [(0, .ref (ad 0)), (1, .int k)]) (st' := []) (ws' := wX ad cB cI cL f0 f1 f2 f3 f4 f5 f6 f7 v md ln) rfl rfl rfl ?_
  have hn := hB.1
  refine jw_aload_n (pc := 0) F 0 d_X_isElement_0 rfl rfl ?_
  refine jw_iload_n (pc := 1) F 1 d_X_isElement_1 rfl rfl ?_
  refine jw_callV_Ei (pc := 2) (As := [.int k]) (rest := []) F ([]) ([]) (c_isOperation l D ad cB cI cL f0 f1 f2 f3 f4 f5 f6 f7 v md ln (a_n a) hA.1 k) (jw_cwV F.1.2.2.2.2 wl_good w_193 w_195 w_5 w_29 w_196 hd_X_isOperation ⟨by decide, by decide⟩) 0 0 rfl rfl rfl (by simp) rfl rfl (Nat.le_of_ble_eq_true rfl) d_X_isElement_2 ⟨rfl, rfl⟩ ⟨by decide, by decide⟩ ?_
  refine jw_if_eq (pc := 5) F 21 d_X_isElement_5 (by decide) (fun h1 => ?_) (fun h1 => ?_)
  · refine jw_iconst (pc := 21) (v := 0) F d_X_isElement_21 (by decide) ?_
    exact jw_zret F d_X_isElement_22 (by decide) ⟨by rw [show a_isel a k = false by unfold a_isel; rw [jb_0.mp h1]; rfl]; rfl, rfl⟩
  · obtain ⟨j, hj, rfl⟩ := a_isop_t (by omega) (jb_n.mp h1)
    refine jw_aload_n (pc := 8) F 0 d_X_isElement_8 rfl rfl ?_
    refine jw_get (pc := 9) F (jms inX) 0 rfl rfl 1 (by decide) (jm w_47) rfl d_X_isElement_9 ?_
    refine jw_iload_n (pc := 12) F 1 d_X_isElement_12 rfl rfl ?_
    refine jw_zaldN (pc := 13) F 1 0 rfl rfl j rfl (by omega) (by decide) d_X_isElement_13 ?_
    rw [hA.2.1 j hj]
    refine jw_if_ne (pc := 14) F 21 d_X_isElement_14 (by decide) (fun h2 => ?_) (fun h2 => ?_)
    · refine jw_iconst (pc := 21) (v := 0) F d_X_isElement_21 (by decide) ?_
      exact jw_zret F d_X_isElement_22 (by decide) ⟨by rw [a_isel_nI hn hj, jb_n.mp h2]; rfl, rfl⟩
    · refine jw_iconst (pc := 17) (v := 1) F d_X_isElement_17 (by decide) ?_
      refine jw_goto (pc := 18) F 22 d_X_isElement_18 (by decide) ?_
      exact jw_zret F d_X_isElement_22 (by decide) ⟨by rw [a_isel_nI hn hj, jb_0.mp h2]; rfl, rfl⟩
set_option maxHeartbeats 4000000 in
set_option maxRecDepth 100000 in
theorem c_isSeen (l : Launch) (D : va_G) (ad : Nat → Nat) (cB cI cL : ClassId) (f0 f1 f2 f3 f4 f5 f6 f7 : Nat → Int32) (v : Nat → Int64) (md ln : Int32) (a : AS) (r k : Nat) (hA : cx_A a f0 f1 f2 f3 f4 f5 f6 md) (hr : r < 4) (hk : k < 160) : jw_Ei l D vCl (vTy cB cI cL) y_X_isSeen s_X_isSeen rm_X_isSeen [.ref (ad 0), .int (nI r), .int (nI k)] (wX ad cB cI cL f0 f1 f2 f3 f4 f5 f6 f7 v md ln) ((jb (a_seen a r k))) := by
  refine jw_ofi (cc := b_X_isSeen) (nL := 3) (ret := (some .boolean)) (by decide) rfl (Nat.le_of_ble_eq_true rfl) (fun p e s m args below meth c A F hnm => ?_)
  refine jw_at (lv' := [(0, .ref (ad 0)), (1, .int (nI r)), (2, .int (nI k))]) (st' := []) (ws' := wX ad cB cI cL f0 f1 f2 f3 f4 f5 f6 f7 v md ln) rfl rfl rfl ?_
  refine jw_aload_n (pc := 0) F 0 d_X_isSeen_0 rfl rfl ?_
  refine jw_iload_n (pc := 1) F 1 d_X_isSeen_1 rfl rfl ?_
  refine jw_iload_n (pc := 2) F 2 d_X_isSeen_2 rfl rfl ?_
  refine jw_callV_Ei (pc := 3) (As := [.int (nI r), .int (nI k)]) (rest := []) F ([]) ([]) (c_isHeld l D ad cB cI cL f0 f1 f2 f3 f4 f5 f6 f7 v md ln a r k hA hr hk) (jw_cwV F.1.2.2.2.2 wl_good w_197 w_199 w_6 w_29 w_200 hd_X_isHeld ⟨by decide, by decide⟩) 0 0 rfl rfl rfl (by simp) rfl rfl (Nat.le_of_ble_eq_true rfl) d_X_isSeen_3 ⟨rfl, rfl⟩ ⟨by decide, by decide⟩ ?_
  refine jw_if_eq (pc := 6) F 27 d_X_isSeen_6 (by decide) (fun h1 => ?_) (fun h1 => ?_)
  · refine jw_iconst (pc := 27) (v := 0) F d_X_isSeen_27 (by decide) ?_
    exact jw_zret F d_X_isSeen_28 (by decide) ⟨by unfold a_seen; rw [jb_0.mp h1]; rfl, rfl⟩
  · refine jw_aload_n (pc := 9) F 0 d_X_isSeen_9 rfl rfl ?_
    refine jw_get (pc := 10) F (jms inX) 0 rfl rfl 7 (by decide) (jm w_53) rfl d_X_isSeen_10 ?_
    refine jw_iload_n (pc := 13) F 2 d_X_isSeen_13 rfl rfl ?_
    refine jw_ialdN (pc := 14) F 7 1 rfl rfl k rfl (by omega) (by decide) d_X_isSeen_14 ?_
    refine jw_iload_n (pc := 15) F 1 d_X_isSeen_15 rfl rfl ?_
    refine jw_callS_Ei (pc := 16) (As := [.int (nI r)]) (rest := [.int (f5 k)]) F (c_bitOf l D cB cI cL r) (jw_cwS F.1.2.2.2.2 wl_good w_201 w_202 w_29 w_203 hd_X_bitOf ⟨by decide, by decide⟩) rfl rfl (Nat.le_of_ble_eq_true rfl) d_X_isSeen_16 ⟨rfl, rfl⟩ ⟨by decide, by decide⟩ ?_
    refine jw_iand (pc := 19) F d_X_isSeen_19 ?_
    refine jw_if_ne (pc := 20) F 27 d_X_isSeen_20 (by decide) (fun h2 => ?_) (fun h2 => ?_)
    · refine jw_iconst (pc := 27) (v := 0) F d_X_isSeen_27 (by decide) ?_
      exact jw_zret F d_X_isSeen_28 (by decide) ⟨by unfold a_seen; rw [jb_n.mp h1, ts_nf9 (fun q => h2 ((cx_d0 hA.2.2.2.2.2.2.1 hk hr).mpr q))]; rfl, rfl⟩
    · refine jw_iconst (pc := 23) (v := 1) F d_X_isSeen_23 (by decide) ?_
      refine jw_goto (pc := 24) F 28 d_X_isSeen_24 (by decide) ?_
      exact jw_zret F d_X_isSeen_28 (by decide) ⟨by unfold a_seen; rw [jb_n.mp h1, (cx_d0 hA.2.2.2.2.2.2.1 hk hr).mp h2]; rfl, rfl⟩
set_option maxHeartbeats 4000000 in
set_option maxRecDepth 100000 in
theorem c_isGreater (l : Launch) (D : va_G) (ad : Nat → Nat) (cB cI cL : ClassId) (f0 f1 f2 f3 f4 f5 f6 f7 : Nat → Int32) (v : Nat → Int64) (md ln : Int32) (a : AS) (hB : cx_B a) (hA : cx_A a f0 f1 f2 f3 f4 f5 f6 md) (hm : ∀ k, k < a_n a → a_mk a k < 4) (i j : Nat) (hi : i < a_n a) (hj : j < a_n a) : jw_Ei l D vCl (vTy cB cI cL) y_X_isGreater s_X_isGreater rm_X_isGreater [.ref (ad 0), .int (nI i), .int (nI j)] (wX ad cB cI cL f0 f1 f2 f3 f4 f5 f6 f7 v md ln) ((jb (a_ltb a j i))) := by
  refine jw_ofi (cc := b_X_isGreater) (nL := 3) (ret := (some .boolean)) (by decide) rfl (Nat.le_of_ble_eq_true rfl) (fun p e s m args below meth c A F hnm => ?_)
  refine jw_at (lv' := [(0, .ref (ad 0)), (1, .int (nI i)), (2, .int (nI j))]) (st' := []) (ws' := wX ad cB cI cL f0 f1 f2 f3 f4 f5 f6 f7 v md ln) rfl rfl rfl ?_
  have hn := hB.1
  have hq := cx_ltb hB hm hA hi hj
  refine jw_aload_n (pc := 0) F 0 d_X_isGreater_0 rfl rfl ?_
  refine jw_get (pc := 1) F (jms inX) 0 rfl rfl 4 (by decide) (jm w_50) rfl d_X_isGreater_1 ?_
  refine jw_iload_n (pc := 4) F 1 d_X_isGreater_4 rfl rfl ?_
  refine jw_ialdN (pc := 5) F 4 1 rfl rfl i rfl (by omega) (by decide) d_X_isGreater_5 ?_
  refine jw_aload_n (pc := 6) F 0 d_X_isGreater_6 rfl rfl ?_
  refine jw_get (pc := 7) F (jms inX) 0 rfl rfl 4 (by decide) (jm w_50) rfl d_X_isGreater_7 ?_
  refine jw_iload_n (pc := 10) F 2 d_X_isGreater_10 rfl rfl ?_
  refine jw_ialdN (pc := 11) F 4 1 rfl rfl j rfl (by omega) (by decide) d_X_isGreater_11 ?_
  refine jw_icmp_eq (pc := 12) F 36 d_X_isGreater_12 (by decide) (fun h1 => ?_) (fun h1 => ?_)
  · refine jw_aload_n (pc := 36) F 0 d_X_isGreater_36 rfl rfl ?_
    refine jw_get (pc := 37) F (jms inX) 0 rfl rfl 5 (by decide) (jm w_51) rfl d_X_isGreater_37 ?_
    refine jw_iload_n (pc := 40) F 1 d_X_isGreater_40 rfl rfl ?_
    refine jw_ialdN (pc := 41) F 5 1 rfl rfl i rfl (by omega) (by decide) d_X_isGreater_41 ?_
    refine jw_aload_n (pc := 42) F 0 d_X_isGreater_42 rfl rfl ?_
    refine jw_get (pc := 43) F (jms inX) 0 rfl rfl 5 (by decide) (jm w_51) rfl d_X_isGreater_43 ?_
    refine jw_iload_n (pc := 46) F 2 d_X_isGreater_46 rfl rfl ?_
    refine jw_ialdN (pc := 47) F 5 1 rfl rfl j rfl (by omega) (by decide) d_X_isGreater_47 ?_
    refine jw_icmp_le (pc := 48) F 55 d_X_isGreater_48 (by decide) (fun h2 => ?_) (fun h2 => ?_)
    · refine jw_iconst (pc := 55) (v := 0) F d_X_isGreater_55 (by decide) ?_
      exact jw_zret F d_X_isGreater_56 (by decide) ⟨by rw [hq]; simp [jb, h1, Int32.not_lt.mpr h2], rfl⟩
    · refine jw_iconst (pc := 51) (v := 1) F d_X_isGreater_51 (by decide) ?_
      refine jw_goto (pc := 52) F 56 d_X_isGreater_52 (by decide) ?_
      exact jw_zret F d_X_isGreater_56 (by decide) ⟨by rw [hq]; simp [jb, h1, Int32.not_le.mp h2], rfl⟩
  · refine jw_aload_n (pc := 15) F 0 d_X_isGreater_15 rfl rfl ?_
    refine jw_get (pc := 16) F (jms inX) 0 rfl rfl 4 (by decide) (jm w_50) rfl d_X_isGreater_16 ?_
    refine jw_iload_n (pc := 19) F 1 d_X_isGreater_19 rfl rfl ?_
    refine jw_ialdN (pc := 20) F 4 1 rfl rfl i rfl (by omega) (by decide) d_X_isGreater_20 ?_
    refine jw_aload_n (pc := 21) F 0 d_X_isGreater_21 rfl rfl ?_
    refine jw_get (pc := 22) F (jms inX) 0 rfl rfl 4 (by decide) (jm w_50) rfl d_X_isGreater_22 ?_
    refine jw_iload_n (pc := 25) F 2 d_X_isGreater_25 rfl rfl ?_
    refine jw_ialdN (pc := 26) F 4 1 rfl rfl j rfl (by omega) (by decide) d_X_isGreater_26 ?_
    refine jw_icmp_le (pc := 27) F 34 d_X_isGreater_27 (by decide) (fun h2 => ?_) (fun h2 => ?_)
    · refine jw_iconst (pc := 34) (v := 0) F d_X_isGreater_34 (by decide) ?_
      exact jw_zret F d_X_isGreater_35 (by decide) ⟨by have h3 : ¬ f2 j = f2 i := fun q => h1 q.symm; rw [hq]; simp [jb, Int32.not_lt.mpr h2, h3], rfl⟩
    · refine jw_iconst (pc := 30) (v := 1) F d_X_isGreater_30 (by decide) ?_
      refine jw_goto (pc := 31) F 35 d_X_isGreater_31 (by decide) ?_
      exact jw_zret F d_X_isGreater_35 (by decide) ⟨by rw [hq]; simp [jb, Int32.not_le.mp h2], rfl⟩
set_option maxHeartbeats 4000000 in
set_option maxRecDepth 100000 in
theorem c_take (l : Launch) (D : va_G) (ad : Nat → Nat) (cB cI cL : ClassId) (f0 f1 f2 f3 f4 f5 f6 f7 : Nat → Int32) (v : Nat → Int64) (md ln : Int32) (a : AS) (hB : cx_B a) (hA : cx_A a f0 f1 f2 f3 f4 f5 f6 md) (r k : Nat) (hr : r < 4) (hk : k < a_n a) : jw_Mv l D vCl (vTy cB cI cL) y_X_take s_X_take rm_X_take [.ref (ad 0), .int (nI r), .int (nI k)] (wX ad cB cI cL f0 f1 f2 f3 f4 f5 f6 f7 v md ln) (fun w => ∃ g4 g5 g6 : Nat → Int32, w = wX ad cB cI cL f0 f1 f2 f3 g4 g5 g6 f7 v md ln ∧ cx_A (ab_take a r k) f0 f1 f2 f3 g4 g5 g6 md) := by
  refine jw_ofv (cc := b_X_take) (nL := 3) (ret := none) (by decide) rfl (Nat.le_of_ble_eq_true rfl) (fun p e s m args below meth c A F hnm => ?_)
  refine jw_at (lv' := [(0, .ref (ad 0)), (1, .int (nI r)), (2, .int (nI k))]) (st' := []) (ws' := wX ad cB cI cL f0 f1 f2 f3 f4 f5 f6 f7 v md ln) rfl rfl rfl ?_
  have hn := hB.1
  refine jw_aload_n (pc := 0) F 0 d_X_take_0 rfl rfl ?_
  refine jw_get (pc := 1) F (jms inX) 0 rfl rfl 6 (by decide) (jm w_52) rfl d_X_take_1 ?_
  refine jw_iload_n (pc := 4) F 2 d_X_take_4 rfl rfl ?_
  refine jw_dup2 (pc := 5) F d_X_take_5 rfl rfl ?_
  refine jw_ialdN (pc := 6) F 6 1 rfl rfl k rfl (by omega) (by decide) d_X_take_6 ?_
  refine jw_iload_n (pc := 7) F 1 d_X_take_7 rfl rfl ?_
  refine jw_callS_Ei (pc := 8) (As := [.int (nI r)]) (rest := [.int (f4 k), .int (nI k), .ref (ad 6)]) F (c_bitOf l D cB cI cL r) (jw_cwS F.1.2.2.2.2 wl_good w_201 w_202 w_29 w_203 hd_X_bitOf ⟨by decide, by decide⟩) rfl rfl (Nat.le_of_ble_eq_true rfl) d_X_take_8 ⟨rfl, rfl⟩ ⟨by decide, by decide⟩ ?_
  refine jw_ior (pc := 11) F d_X_take_11 ?_
  refine jw_iastN (pc := 12) (ws' := wX ad cB cI cL f0 f1 f2 f3 (upd f4 k ((f4 k) ||| (ab_bit r))) f5 f6 f7 v md ln) F 6 1 rfl rfl k rfl (by omega) (by decide) d_X_take_12 rfl ?_
  refine jw_aload_n (pc := 13) F 0 d_X_take_13 rfl rfl ?_
  refine jw_get (pc := 14) F (jms inX) 0 rfl rfl 1 (by decide) (jm w_47) rfl d_X_take_14 ?_
  refine jw_iload_n (pc := 17) F 2 d_X_take_17 rfl rfl ?_
  refine jw_zaldN (pc := 18) F 1 0 rfl rfl k rfl (by omega) (by decide) d_X_take_18 ?_
  rw [hA.2.1 k hk]
  refine jw_if_eq (pc := 19) F 40 d_X_take_19 (by decide) (fun h1 => ?_) (fun h1 => ?_)
  · refine jw_aload_n (pc := 40) F 0 d_X_take_40 rfl rfl ?_
    refine jw_get (pc := 41) F (jms inX) 0 rfl rfl 8 (by decide) (jm w_54) rfl d_X_take_41 ?_
    refine jw_iload_n (pc := 44) F 1 d_X_take_44 rfl rfl ?_
    refine jw_aload_n (pc := 45) F 0 d_X_take_45 rfl rfl ?_
    refine jw_get (pc := 46) F (jms inX) 0 rfl rfl 8 (by decide) (jm w_54) rfl d_X_take_46 ?_
    refine jw_iload_n (pc := 49) F 1 d_X_take_49 rfl rfl ?_
    refine jw_ialdN (pc := 50) F 8 1 rfl rfl r rfl (by omega) (by decide) d_X_take_50 ?_
    refine jw_aload_n (pc := 51) F 0 d_X_take_51 rfl rfl ?_
    refine jw_get (pc := 52) F (jms inX) 0 rfl rfl 4 (by decide) (jm w_50) rfl d_X_take_52 ?_
    refine jw_iload_n (pc := 55) F 2 d_X_take_55 rfl rfl ?_
    refine jw_ialdN (pc := 56) F 4 1 rfl rfl k rfl (by omega) (by decide) d_X_take_56 ?_
    refine jw_mmax (pc := 57) F (jm w_228) (jm w_229) (jm w_37) (jm w_230) (by decide) (Nat.le_of_ble_eq_true rfl) (by decide) (by decide) d_X_take_57 ?_
    refine jw_iastN (pc := 60) (ws' := wX ad cB cI cL f0 f1 f2 f3 (upd f4 k ((f4 k) ||| (ab_bit r))) f5 (upd f6 r (if f6 r < f2 k then f2 k else f6 r)) f7 v md ln) F 8 1 rfl rfl r rfl (by omega) (by decide) d_X_take_60 rfl ?_
    exact jw_vret F d_X_take_61 ⟨_, _, _, rfl, cx_take_i hB hk hr (jb_0.mp h1) hA⟩
  · obtain ⟨j, hj, hj2⟩ := hB.2.2 k hk (jb_n.mp h1)
    refine jw_aload_n (pc := 22) F 0 d_X_take_22 rfl rfl ?_
    refine jw_get (pc := 23) F (jms inX) 0 rfl rfl 7 (by decide) (jm w_53) rfl d_X_take_23 ?_
    refine jw_aload_n (pc := 26) F 0 d_X_take_26 rfl rfl ?_
    refine jw_get (pc := 27) F (jms inX) 0 rfl rfl 2 (by decide) (jm w_48) rfl d_X_take_27 ?_
    refine jw_iload_n (pc := 30) F 2 d_X_take_30 rfl rfl ?_
    refine jw_ialdN (pc := 31) F 2 1 rfl rfl k rfl (by omega) (by decide) d_X_take_31 ?_
    refine jw_dup2 (pc := 32) F d_X_take_32 rfl rfl ?_
    refine jw_ialdN (pc := 33) F 7 1 rfl rfl j ((hA.2.2.1 k hk).trans hj2) hj (by decide) d_X_take_33 ?_
    refine jw_iload_n (pc := 34) F 1 d_X_take_34 rfl rfl ?_
    refine jw_callS_Ei (pc := 35) (As := [.int (nI r)]) (rest := [.int (f5 j), .int (f1 k), .ref (ad 7)]) F (c_bitOf l D cB cI cL r) (jw_cwS F.1.2.2.2.2 wl_good w_201 w_202 w_29 w_203 hd_X_bitOf ⟨by decide, by decide⟩) rfl rfl (Nat.le_of_ble_eq_true rfl) d_X_take_35 ⟨rfl, rfl⟩ ⟨by decide, by decide⟩ ?_
    refine jw_ior (pc := 38) F d_X_take_38 ?_
    refine jw_iastN (pc := 39) (ws' := wX ad cB cI cL f0 f1 f2 f3 (upd f4 k ((f4 k) ||| (ab_bit r))) (upd f5 j ((f5 j) ||| (ab_bit r))) f6 f7 v md ln) F 7 1 rfl rfl j ((hA.2.2.1 k hk).trans hj2) hj (by decide) d_X_take_39 rfl ?_
    refine jw_aload_n (pc := 40) F 0 d_X_take_40 rfl rfl ?_
    refine jw_get (pc := 41) F (jms inX) 0 rfl rfl 8 (by decide) (jm w_54) rfl d_X_take_41 ?_
    refine jw_iload_n (pc := 44) F 1 d_X_take_44 rfl rfl ?_
    refine jw_aload_n (pc := 45) F 0 d_X_take_45 rfl rfl ?_
    refine jw_get (pc := 46) F (jms inX) 0 rfl rfl 8 (by decide) (jm w_54) rfl d_X_take_46 ?_
    refine jw_iload_n (pc := 49) F 1 d_X_take_49 rfl rfl ?_
    refine jw_ialdN (pc := 50) F 8 1 rfl rfl r rfl (by omega) (by decide) d_X_take_50 ?_
    refine jw_aload_n (pc := 51) F 0 d_X_take_51 rfl rfl ?_
    refine jw_get (pc := 52) F (jms inX) 0 rfl rfl 4 (by decide) (jm w_50) rfl d_X_take_52 ?_
    refine jw_iload_n (pc := 55) F 2 d_X_take_55 rfl rfl ?_
    refine jw_ialdN (pc := 56) F 4 1 rfl rfl k rfl (by omega) (by decide) d_X_take_56 ?_
    refine jw_mmax (pc := 57) F (jm w_228) (jm w_229) (jm w_37) (jm w_230) (by decide) (Nat.le_of_ble_eq_true rfl) (by decide) (by decide) d_X_take_57 ?_
    refine jw_iastN (pc := 60) (ws' := wX ad cB cI cL f0 f1 f2 f3 (upd f4 k ((f4 k) ||| (ab_bit r))) (upd f5 j ((f5 j) ||| (ab_bit r))) (upd f6 r (if f6 r < f2 k then f2 k else f6 r)) f7 v md ln) F 8 1 rfl rfl r rfl (by omega) (by decide) d_X_take_60 rfl ?_
    exact jw_vret F d_X_take_61 ⟨_, _, _, rfl, cx_take_d hB hk hr (jb_n.mp h1) hj hj2 hA⟩
set_option maxHeartbeats 4000000 in
set_option maxRecDepth 100000 in
theorem c_make (l : Launch) (D : va_G) (ad : Nat → Nat) (cB cI cL : ClassId) (f0 f1 f2 f3 f4 f5 f6 f7 : Nat → Int32) (v : Nat → Int64) (md ln : Int32) (a : AS) (r : Nat) (t : Int32) (d : Bool) (vv : Int64) (hI : ab_I a) (hn : a_n a < 160) (hr : r < 4) (ht : ab_ok a r t d) (hA : cx_A a f0 f1 f2 f3 f4 f5 f6 md) : jw_Mi l D vCl (vTy cB cI cL) y_X_make s_X_make rm_X_make [.ref (ad 0), .int (nI r), .int t, .int (jb d)] (wX ad cB cI cL f0 f1 f2 f3 f4 f5 f6 f7 v md ln) (fun r0 w => r0 = nI (a_n a) ∧ ∃ g0 g1 g2 g3 g4 g5 g6 : Nat → Int32, w = wX ad cB cI cL g0 g1 g2 g3 g4 g5 g6 f7 v (nI (a_n a + 1)) ln ∧ cx_A (ab_new a r t d vv) g0 g1 g2 g3 g4 g5 g6 (nI (a_n a + 1))) := by
  refine jw_ofi (cc := b_X_make) (nL := 5) (ret := (some .int)) (by decide) rfl (Nat.le_of_ble_eq_true rfl) (fun p e s m args below meth c A F hnm => ?_)
  refine jw_at (lv' := [(0, .ref (ad 0)), (1, .int (nI r)), (2, .int t), (3, .int (jb d))]) (st' := []) (ws' := wX ad cB cI cL f0 f1 f2 f3 f4 f5 f6 f7 v md ln) rfl rfl rfl ?_
  have hmd := hA.1
  subst hmd
  refine jw_aload_n (pc := 0) F 0 d_X_make_0 rfl rfl ?_
  refine jw_get (pc := 1) F (jms inX) 0 rfl rfl 0 (by decide) (jm w_46) rfl d_X_make_1 ?_
  refine jw_istore (pc := 4) (lv' := [(0, .ref (ad 0)), (1, .int (nI r)), (2, .int t), (3, .int (jb d)), (4, .int (nI (a_n a)))]) F d_X_make_4 (by decide) rfl ?_
  refine jw_aload_n (pc := 6) F 0 d_X_make_6 rfl rfl ?_
  refine jw_get (pc := 7) F (jms inX) 0 rfl rfl 1 (by decide) (jm w_47) rfl d_X_make_7 ?_
  refine jw_iload (pc := 10) F 4 d_X_make_10 rfl ?_
  refine jw_iload_n (pc := 12) F 3 d_X_make_12 rfl rfl ?_
  refine jw_zastN (pc := 13) (ws' := wX ad cB cI cL (upd f0 (a_n a) (vp_nar .boolean (jb d))) f1 f2 f3 f4 f5 f6 f7 v (nI (a_n a)) ln) F 1 0 rfl rfl (a_n a) rfl (by omega) (by decide) d_X_make_13 rfl ?_
  rw [jb_nar]
  refine jw_aload_n (pc := 14) F 0 d_X_make_14 rfl rfl ?_
  refine jw_get (pc := 15) F (jms inX) 0 rfl rfl 2 (by decide) (jm w_48) rfl d_X_make_15 ?_
  refine jw_iload (pc := 18) F 4 d_X_make_18 rfl ?_
  refine jw_iload_n (pc := 20) F 2 d_X_make_20 rfl rfl ?_
  refine jw_iastN (pc := 21) (ws' := wX ad cB cI cL (upd f0 (a_n a) (jb d)) (upd f1 (a_n a) t) f2 f3 f4 f5 f6 f7 v (nI (a_n a)) ln) F 2 1 rfl rfl (a_n a) rfl (by omega) (by decide) d_X_make_21 rfl ?_
  refine jw_aload_n (pc := 22) F 0 d_X_make_22 rfl rfl ?_
  refine jw_get (pc := 23) F (jms inX) 0 rfl rfl 4 (by decide) (jm w_50) rfl d_X_make_23 ?_
  refine jw_iload (pc := 26) F 4 d_X_make_26 rfl ?_
  refine jw_aload_n (pc := 28) F 0 d_X_make_28 rfl rfl ?_
  refine jw_get (pc := 29) F (jms inX) 0 rfl rfl 8 (by decide) (jm w_54) rfl d_X_make_29 ?_
  refine jw_iload_n (pc := 32) F 1 d_X_make_32 rfl rfl ?_
  refine jw_ialdN (pc := 33) F 8 1 rfl rfl r rfl (by omega) (by decide) d_X_make_33 ?_
  refine jw_iconst (pc := 34) (v := 1) F d_X_make_34 (by decide) ?_
  refine jw_iadd (pc := 35) F d_X_make_35 ?_
  refine jw_iastN (pc := 36) (ws' := wX ad cB cI cL (upd f0 (a_n a) (jb d)) (upd f1 (a_n a) t) (upd f2 (a_n a) ((f6 r) + 1)) f3 f4 f5 f6 f7 v (nI (a_n a)) ln) F 4 1 rfl rfl (a_n a) rfl (by omega) (by decide) d_X_make_36 rfl ?_
  refine jw_aload_n (pc := 37) F 0 d_X_make_37 rfl rfl ?_
  refine jw_get (pc := 38) F (jms inX) 0 rfl rfl 5 (by decide) (jm w_51) rfl d_X_make_38 ?_
  refine jw_iload (pc := 41) F 4 d_X_make_41 rfl ?_
  refine jw_iload_n (pc := 43) F 1 d_X_make_43 rfl rfl ?_
  refine jw_iastN (pc := 44) (ws' := wX ad cB cI cL (upd f0 (a_n a) (jb d)) (upd f1 (a_n a) t) (upd f2 (a_n a) ((f6 r) + 1)) (upd f3 (a_n a) (nI r)) f4 f5 f6 f7 v (nI (a_n a)) ln) F 5 1 rfl rfl (a_n a) rfl (by omega) (by decide) d_X_make_44 rfl ?_
  refine jw_aload_n (pc := 45) F 0 d_X_make_45 rfl rfl ?_
  refine jw_dup (pc := 46) F d_X_make_46 rfl ?_
  refine jw_get (pc := 47) F (jms inX) 0 rfl rfl 0 (by decide) (jm w_46) rfl d_X_make_47 ?_
  refine jw_iconst (pc := 50) (v := 1) F d_X_make_50 (by decide) ?_
  refine jw_iadd (pc := 51) F d_X_make_51 ?_
  rw [nI_1]
  refine jw_put (pc := 52) (v := .int (nI (a_n a + 1))) (ty := .int) (ws' := wX ad cB cI cL (upd f0 (a_n a) (jb d)) (upd f1 (a_n a) t) (upd f2 (a_n a) ((f6 r) + 1)) (upd f3 (a_n a) (nI r)) f4 f5 f6 f7 v (nI (a_n a + 1)) ln) F (jms inX) tX tX_ok nmX 0 rfl rfl 0 (by decide) (jm w_46) rfl (by decide +kernel) rfl rfl (Nat.le_of_ble_eq_true rfl) d_X_make_52 rfl ?_
  refine jw_aload_n (pc := 55) F 0 d_X_make_55 rfl rfl ?_
  refine jw_iload_n (pc := 56) F 1 d_X_make_56 rfl rfl ?_
  refine jw_iload (pc := 57) F 4 d_X_make_57 rfl ?_
  refine jw_callV_Cv (pc := 59) (As := [.int (nI r), .int (nI (a_n a))]) (rest := []) F (c_take l D ad cB cI cL (upd f0 (a_n a) (jb d)) (upd f1 (a_n a) t) (upd f2 (a_n a) ((f6 r) + 1)) (upd f3 (a_n a) (nI r)) f4 f5 f6 f7 v (nI (a_n a + 1)) ln (ab_pre a r t d vv) (cx_B_pre hI hn ht) (cx_pre hI hr hA) r (a_n a) hr (Nat.lt_succ_self _)) (jw_cwV F.1.2.2.2.2 wl_good w_224 w_226 w_8 w_29 w_227 hd_X_take ⟨by decide, by decide⟩) 0 0 rfl rfl rfl rfl rfl rfl (Nat.le_of_ble_eq_true rfl) d_X_make_59 ⟨rfl, rfl⟩ ⟨by decide, by decide⟩ (fun w hw => ?_)
  obtain ⟨g4, g5, g6, rfl, hA2⟩ := hw
  refine jw_iload (pc := 62) F 4 d_X_make_62 rfl ?_
  exact jw_iret F d_X_make_64 ⟨rfl, _, _, _, _, _, _, _, rfl, hA2⟩
set_option maxHeartbeats 4000000 in
set_option maxRecDepth 100000 in
theorem c_countHeldOperations (l : Launch) (D : va_G) (ad : Nat → Nat) (cB cI cL : ClassId) (f0 f1 f2 f3 f4 f5 f6 f7 : Nat → Int32) (v : Nat → Int64) (md ln : Int32) (a : AS) (hB : cx_B a) (hA : cx_A a f0 f1 f2 f3 f4 f5 f6 md) (r : Nat) (hr : r < 4) : jw_Ei l D vCl (vTy cB cI cL) y_X_countHeldOperations s_X_countHeldOperations rm_X_countHeldOperations [.ref (ad 0), .int (nI r)] (wX ad cB cI cL f0 f1 f2 f3 f4 f5 f6 f7 v md ln) ((nI ((List.range (a_n a)).countP (a_hd a r)))) := by
  refine jw_ofi (cc := b_X_countHeldOperations) (nL := 4) (ret := (some .int)) (by decide) rfl (Nat.le_of_ble_eq_true rfl) (fun p e s m args below meth c A F hnm => ?_)
  refine jw_at (lv' := [(0, .ref (ad 0)), (1, .int (nI r))]) (st' := []) (ws' := wX ad cB cI cL f0 f1 f2 f3 f4 f5 f6 f7 v md ln) rfl rfl rfl ?_
  have hn := hB.1
  have hmd := hA.1
  subst hmd
  have loop : ∀ (t i : Nat), i + t = a_n a → jw_J p l e rm_X_countHeldOperations s m args below meth c D vCl A 4 (MQ below (va_Qi (fun r9 w9 => r9 = (nI ((List.range (a_n a)).countP (a_hd a r))) ∧ w9 = wX ad cB cI cL f0 f1 f2 f3 f4 f5 f6 f7 v (nI (a_n a)) ln) (jw_B D vCl (vTy cB cI cL) A) A) args s rm_X_countHeldOperations.cells rm_X_countHeldOperations.slots A) 0 0 4 [(0, .ref (ad 0)), (1, .int (nI r)), (2, .int (nI ((List.range i).countP (a_hd a r)))), (3, .int (nI i))] [] (wX ad cB cI cL f0 f1 f2 f3 f4 f5 f6 f7 v (nI (a_n a)) ln) := by
    intro t
    induction t with
    | zero =>
      intro i hi
      obtain rfl : i = a_n a := hi
      refine jw_iload_n (pc := 4) F 3 d_X_countHeldOperations_4 rfl rfl ?_
      refine jw_aload_n (pc := 5) F 0 d_X_countHeldOperations_5 rfl rfl ?_
      refine jw_get (pc := 6) F (jms inX) 0 rfl rfl 0 (by decide) (jm w_46) rfl d_X_countHeldOperations_6 ?_
      refine jw_icmp_ge (pc := 9) F 30 d_X_countHeldOperations_9 (by decide) (fun hz1 => ?_) (fun hz1 => False.elim (hz1 (nI_le (Nat.le_refl _) (by omega))))
      refine jw_iload_n (pc := 30) F 2 d_X_countHeldOperations_30 rfl rfl ?_
      exact jw_iret F d_X_countHeldOperations_31 ⟨rfl, rfl⟩
    | succ t ih =>
      intro i hi
      refine jw_iload_n (pc := 4) F 3 d_X_countHeldOperations_4 rfl rfl ?_
      refine jw_aload_n (pc := 5) F 0 d_X_countHeldOperations_5 rfl rfl ?_
      refine jw_get (pc := 6) F (jms inX) 0 rfl rfl 0 (by decide) (jm w_46) rfl d_X_countHeldOperations_6 ?_
      refine jw_icmp_ge (pc := 9) F 30 d_X_countHeldOperations_9 (by decide) (fun hz2 => False.elim (nI_ge (show i < a_n a by omega) (by omega) hz2)) (fun hz2 => ?_)
      refine jw_aload_n (pc := 12) F 0 d_X_countHeldOperations_12 rfl rfl ?_
      refine jw_iload_n (pc := 13) F 1 d_X_countHeldOperations_13 rfl rfl ?_
      refine jw_iload_n (pc := 14) F 3 d_X_countHeldOperations_14 rfl rfl ?_
      refine jw_callV_Ei (pc := 15) (As := [.int (nI r), .int (nI i)]) (rest := []) F ([]) ([]) (c_isHeld l D ad cB cI cL f0 f1 f2 f3 f4 f5 f6 f7 v _ ln a r i hA hr (by omega)) (jw_cwV F.1.2.2.2.2 wl_good w_197 w_199 w_6 w_29 w_200 hd_X_isHeld ⟨by decide, by decide⟩) 0 0 rfl rfl rfl (by simp) rfl rfl (Nat.le_of_ble_eq_true rfl) d_X_countHeldOperations_15 ⟨rfl, rfl⟩ ⟨by decide, by decide⟩ ?_
      refine jw_if_eq (pc := 18) F 24 d_X_countHeldOperations_18 (by decide) (fun h1 => ?_) (fun h1 => ?_)
      · refine jw_iinc (pc := 24) (v := nI (i + 1)) (lv' := [(0, .ref (ad 0)), (1, .int (nI r)), (2, .int (nI ((List.range i).countP (a_hd a r)))), (3, .int (nI (i + 1)))]) F 3 d_X_countHeldOperations_24 rfl (jw_inc _) (by decide) rfl ?_
        refine jw_goto (pc := 27) F 4 d_X_countHeldOperations_27 (by decide) ?_
        have q := ih (i + 1) (by omega)
        rw [gl_range_s, if_neg (by rw [jb_0.mp h1]; decide), Nat.add_zero] at q
        exact q
      · refine jw_iinc (pc := 21) (v := nI ((List.range i).countP (a_hd a r) + 1)) (lv' := [(0, .ref (ad 0)), (1, .int (nI r)), (2, .int (nI ((List.range i).countP (a_hd a r) + 1))), (3, .int (nI i))]) F 2 d_X_countHeldOperations_21 rfl (jw_inc _) (by decide) rfl ?_
        refine jw_iinc (pc := 24) (v := nI (i + 1)) (lv' := [(0, .ref (ad 0)), (1, .int (nI r)), (2, .int (nI ((List.range i).countP (a_hd a r) + 1))), (3, .int (nI (i + 1)))]) F 3 d_X_countHeldOperations_24 rfl (jw_inc _) (by decide) rfl ?_
        refine jw_goto (pc := 27) F 4 d_X_countHeldOperations_27 (by decide) ?_
        have q := ih (i + 1) (by omega)
        rw [gl_range_s, if_pos (jb_n.mp h1)] at q
        exact q
  refine jw_iconst (pc := 0) (v := nI 0) F d_X_countHeldOperations_0 (by decide) ?_
  refine jw_istore_n (pc := 1) (lv' := [(0, .ref (ad 0)), (1, .int (nI r)), (2, .int (nI 0))]) F d_X_countHeldOperations_1 rfl (by decide) rfl ?_
  refine jw_iconst (pc := 2) (v := nI 0) F d_X_countHeldOperations_2 (by decide) ?_
  refine jw_istore_n (pc := 3) (lv' := [(0, .ref (ad 0)), (1, .int (nI r)), (2, .int (nI 0)), (3, .int (nI 0))]) F d_X_countHeldOperations_3 rfl (by decide) rfl ?_
  exact loop (a_n a) 0 (by omega)
end
section
theorem cx_own0 {a : AS} {r : Nat} {t : Int32} {vv : Int64} {L : List Nat} {p : Nat} (hI : ab_I a) (ht : ab_ok a r t false) (hR : ab_row a L) (hp : p ≤ L.length) (h0 : p = 0 → ∀ i (h : i < L.length), nI (L[i]) ≠ t) (h1 : ∀ q, p = q + 1 → ∃ h : q < L.length, nI (L[q]) = t) : gm_own (a_par (ab_new a r t false vv)) (a_lt (ab_new a r t false vv)) (a_n a) (L.take p).reverse := by
  have hn := hI.1
  have e0 : a_tg (ab_new a r t false vv) (a_n a) = t := ab_us
  rcases ht with ⟨rfl, -⟩ | ⟨j, hj, rfl, hd, hh⟩
  · cases p with
    | zero => exact ab_par_m1 e0
    | succ q =>
      obtain ⟨h, g⟩ := h1 q rfl
      have := ((hR.2.1 _).mp (List.getElem_mem h)).1
      exact absurd g (ab_nI_m1 (by omega))
  · cases p with
    | zero =>
      obtain ⟨i, hi, g⟩ := List.getElem_of_mem ((hR.2.1 j).mpr ⟨hj, hd⟩)
      exact absurd (by rw [g]) (h0 rfl i hi)
    | succ q =>
      obtain ⟨h, g⟩ := h1 q rfl
      have := ((hR.2.1 _).mp (List.getElem_mem h)).1
      have g2 : L[q] = j := ab_nI_inj (by omega) (by omega) g
      rw [List.take_succ_eq_append_getElem h, List.reverse_append]
      exact Or.inl (by rw [g2]; exact ab_par_nI (by omega) e0)
theorem cx_own1 {a : AS} {e : Nat} {L : List Nat} {p : Nat} (h : p < L.length) (ho : gm_own (a_par a) (a_lt a) e (L.take p).reverse) (hg : a_ltb a e L[p] = true) : gm_own (a_par a) (a_lt a) e (L.take (p + 1)).reverse := by
  rw [List.take_succ_eq_append_getElem h, List.reverse_append]
  exact Or.inr ⟨a_ltb_t.mp hg, ho⟩
theorem w_56 : Cond.fieldLink RX 43 "WovenRow" "rowLength" "I" ∈ WL := jwl 56 rfl rfl
theorem w_55 : Cond.fieldLink RX 40 "WovenRow" "row" "[I" ∈ WL := jwl 55 rfl rfl
theorem w_283 : Cond.methodLink RX 74 y_X_isSeen ∈ WL := jwl 283 rfl rfl
theorem w_285 : Cond.instanceMethod y_X_isSeen ∈ WL := jwl 285 rfl rfl
theorem w_13 : Cond.selects RX y_X_isSeen y_X_isSeen ∈ WL := jwl 13 rfl rfl
theorem w_286 : Cond.code y_X_isSeen b_X_isSeen 3 (some .boolean) ∈ WL := jwl 286 rfl rfl
theorem w_239 : Cond.methodLink RX 129 y_X_isGreater ∈ WL := jwl 239 rfl rfl
theorem w_241 : Cond.instanceMethod y_X_isGreater ∈ WL := jwl 241 rfl rfl
theorem w_11 : Cond.selects RX y_X_isGreater y_X_isGreater ∈ WL := jwl 11 rfl rfl
theorem w_242 : Cond.code y_X_isGreater b_X_isGreater 3 (some .boolean) ∈ WL := jwl 242 rfl rfl
theorem w_235 : Cond.methodLink RX 126 y_X_positionBehind ∈ WL := jwl 235 rfl rfl
theorem w_237 : Cond.instanceMethod y_X_positionBehind ∈ WL := jwl 237 rfl rfl
theorem w_10 : Cond.selects RX y_X_positionBehind y_X_positionBehind ∈ WL := jwl 10 rfl rfl
theorem w_238 : Cond.code y_X_positionBehind b_X_positionBehind 3 (some .int) ∈ WL := jwl 238 rfl rfl
abbrev rm_X_weave : Room := { frames := 1, cells := 0, slots := 0, locals := 22 }
abbrev rm_X_positionBehind : Room := { frames := 0, cells := 0, slots := 0, locals := 0 }
abbrev rm_X_countHeldElements : Room := { frames := 2, cells := 0, slots := 0, locals := 42 }
abbrev rm_X_countSeen : Room := { frames := 3, cells := 0, slots := 0, locals := 64 }
set_option maxHeartbeats 4000000 in
set_option maxRecDepth 100000 in
theorem c_countHeldElements (l : Launch) (D : va_G) (ad : Nat → Nat) (cB cI cL : ClassId) (f0 f1 f2 f3 f4 f5 f6 f7 : Nat → Int32) (v : Nat → Int64) (md ln : Int32) (a : AS) (hB : cx_B a) (hA : cx_A a f0 f1 f2 f3 f4 f5 f6 md) (L : List Nat) (hL : cx_L L f7 ln) (hM : ∀ x ∈ L, x < 160) (hl : L.length ≤ 160) (r : Nat) (hr : r < 4) : jw_Ei l D vCl (vTy cB cI cL) y_X_countHeldElements s_X_countHeldElements rm_X_countHeldElements [.ref (ad 0), .int (nI r)] (wX ad cB cI cL f0 f1 f2 f3 f4 f5 f6 f7 v md ln) ((nI (L.countP (a_hd a r)))) := by
  refine jw_ofi (cc := b_X_countHeldElements) (nL := 4) (ret := (some .int)) (by decide) rfl (Nat.le_of_ble_eq_true rfl) (fun p e s m args below meth c A F hnm => ?_)
  refine jw_at (lv' := [(0, .ref (ad 0)), (1, .int (nI r))]) (st' := []) (ws' := wX ad cB cI cL f0 f1 f2 f3 f4 f5 f6 f7 v md ln) rfl rfl rfl ?_
  have hn := hB.1
  have hln := hL.1
  subst hln
  have loop : ∀ (t i : Nat), i + t = L.length → jw_J p l e rm_X_countHeldElements s m args below meth c D vCl A 4 (MQ below (va_Qi (fun r9 w9 => r9 = (nI (L.countP (a_hd a r))) ∧ w9 = wX ad cB cI cL f0 f1 f2 f3 f4 f5 f6 f7 v md (nI L.length)) (jw_B D vCl (vTy cB cI cL) A) A) args s rm_X_countHeldElements.cells rm_X_countHeldElements.slots A) 0 0 4 [(0, .ref (ad 0)), (1, .int (nI r)), (2, .int (nI ((L.take i).countP (a_hd a r)))), (3, .int (nI i))] [] (wX ad cB cI cL f0 f1 f2 f3 f4 f5 f6 f7 v md (nI L.length)) := by
    intro t
    induction t with
    | zero =>
      intro i hi
      obtain rfl : i = L.length := hi
      refine jw_iload_n (pc := 4) F 3 d_X_countHeldElements_4 rfl rfl ?_
      refine jw_aload_n (pc := 5) F 0 d_X_countHeldElements_5 rfl rfl ?_
      refine jw_get (pc := 6) F (jms inX) 0 rfl rfl 10 (by decide) (jm w_56) rfl d_X_countHeldElements_6 ?_
      refine jw_icmp_ge (pc := 9) F 35 d_X_countHeldElements_9 (by decide) (fun hz1 => ?_) (fun hz1 => False.elim (hz1 (nI_le (Nat.le_refl _) (by omega))))
      refine jw_iload_n (pc := 35) F 2 d_X_countHeldElements_35 rfl rfl ?_
      exact jw_iret F d_X_countHeldElements_36 ⟨by rw [List.take_length], rfl⟩
    | succ t ih =>
      intro i hi
      have hlt : i < L.length := by omega
      refine jw_iload_n (pc := 4) F 3 d_X_countHeldElements_4 rfl rfl ?_
      refine jw_aload_n (pc := 5) F 0 d_X_countHeldElements_5 rfl rfl ?_
      refine jw_get (pc := 6) F (jms inX) 0 rfl rfl 10 (by decide) (jm w_56) rfl d_X_countHeldElements_6 ?_
      refine jw_icmp_ge (pc := 9) F 35 d_X_countHeldElements_9 (by decide) (fun hz2 => False.elim (nI_ge hlt (by omega) hz2)) (fun hz2 => ?_)
      refine jw_aload_n (pc := 12) F 0 d_X_countHeldElements_12 rfl rfl ?_
      refine jw_iload_n (pc := 13) F 1 d_X_countHeldElements_13 rfl rfl ?_
      refine jw_aload_n (pc := 14) F 0 d_X_countHeldElements_14 rfl rfl ?_
      refine jw_get (pc := 15) F (jms inX) 0 rfl rfl 9 (by decide) (jm w_55) rfl d_X_countHeldElements_15 ?_
      refine jw_iload_n (pc := 18) F 3 d_X_countHeldElements_18 rfl rfl ?_
      refine jw_ialdN (pc := 19) F 9 1 rfl rfl i rfl (by omega) (by decide) d_X_countHeldElements_19 ?_
      rw [hL.2 i hlt]
      refine jw_callV_Ei (pc := 20) (As := [.int (nI r), .int (nI (L[i]'hlt))]) (rest := []) F ([]) ([]) (c_isHeld l D ad cB cI cL f0 f1 f2 f3 f4 f5 f6 f7 v md (nI L.length) a r (L[i]'hlt) hA hr (hM _ (List.getElem_mem hlt))) (jw_cwV F.1.2.2.2.2 wl_good w_197 w_199 w_6 w_29 w_200 hd_X_isHeld ⟨by decide, by decide⟩) 0 0 rfl rfl rfl (by simp) rfl rfl (Nat.le_of_ble_eq_true rfl) d_X_countHeldElements_20 ⟨rfl, rfl⟩ ⟨by decide, by decide⟩ ?_
      refine jw_if_eq (pc := 23) F 29 d_X_countHeldElements_23 (by decide) (fun h1 => ?_) (fun h1 => ?_)
      · refine jw_iinc (pc := 29) (v := nI (i + 1)) (lv' := [(0, .ref (ad 0)), (1, .int (nI r)), (2, .int (nI ((L.take i).countP (a_hd a r)))), (3, .int (nI (i + 1)))]) F 3 d_X_countHeldElements_29 rfl (jw_inc _) (by decide) rfl ?_
        refine jw_goto (pc := 32) F 4 d_X_countHeldElements_32 (by decide) ?_
        have q := ih (i + 1) (by omega)
        rw [gl_cnt_s hlt, if_neg (by rw [jb_0.mp h1]; decide), Nat.add_zero] at q
        exact q
      · refine jw_iinc (pc := 26) (v := nI ((L.take i).countP (a_hd a r) + 1)) (lv' := [(0, .ref (ad 0)), (1, .int (nI r)), (2, .int (nI ((L.take i).countP (a_hd a r) + 1))), (3, .int (nI i))]) F 2 d_X_countHeldElements_26 rfl (jw_inc _) (by decide) rfl ?_
        refine jw_iinc (pc := 29) (v := nI (i + 1)) (lv' := [(0, .ref (ad 0)), (1, .int (nI r)), (2, .int (nI ((L.take i).countP (a_hd a r) + 1))), (3, .int (nI (i + 1)))]) F 3 d_X_countHeldElements_29 rfl (jw_inc _) (by decide) rfl ?_
        refine jw_goto (pc := 32) F 4 d_X_countHeldElements_32 (by decide) ?_
        have q := ih (i + 1) (by omega)
        rw [gl_cnt_s hlt, if_pos (jb_n.mp h1)] at q
        exact q
  refine jw_iconst (pc := 0) (v := nI 0) F d_X_countHeldElements_0 (by decide) ?_
  refine jw_istore_n (pc := 1) (lv' := [(0, .ref (ad 0)), (1, .int (nI r)), (2, .int (nI 0))]) F d_X_countHeldElements_1 rfl (by decide) rfl ?_
  refine jw_iconst (pc := 2) (v := nI 0) F d_X_countHeldElements_2 (by decide) ?_
  refine jw_istore_n (pc := 3) (lv' := [(0, .ref (ad 0)), (1, .int (nI r)), (2, .int (nI 0)), (3, .int (nI 0))]) F d_X_countHeldElements_3 rfl (by decide) rfl ?_
  exact loop L.length 0 (by omega)
set_option maxHeartbeats 4000000 in
set_option maxRecDepth 100000 in
theorem c_countSeen (l : Launch) (D : va_G) (ad : Nat → Nat) (cB cI cL : ClassId) (f0 f1 f2 f3 f4 f5 f6 f7 : Nat → Int32) (v : Nat → Int64) (md ln : Int32) (a : AS) (hB : cx_B a) (hA : cx_A a f0 f1 f2 f3 f4 f5 f6 md) (L : List Nat) (hL : cx_L L f7 ln) (hM : ∀ x ∈ L, x < 160) (hl : L.length ≤ 160) (r : Nat) (hr : r < 4) : jw_Ei l D vCl (vTy cB cI cL) y_X_countSeen s_X_countSeen rm_X_countSeen [.ref (ad 0), .int (nI r)] (wX ad cB cI cL f0 f1 f2 f3 f4 f5 f6 f7 v md ln) ((nI (L.countP (a_seen a r)))) := by
  refine jw_ofi (cc := b_X_countSeen) (nL := 4) (ret := (some .int)) (by decide) rfl (Nat.le_of_ble_eq_true rfl) (fun p e s m args below meth c A F hnm => ?_)
  refine jw_at (lv' := [(0, .ref (ad 0)), (1, .int (nI r))]) (st' := []) (ws' := wX ad cB cI cL f0 f1 f2 f3 f4 f5 f6 f7 v md ln) rfl rfl rfl ?_
  have hn := hB.1
  have hln := hL.1
  subst hln
  have loop : ∀ (t i : Nat), i + t = L.length → jw_J p l e rm_X_countSeen s m args below meth c D vCl A 4 (MQ below (va_Qi (fun r9 w9 => r9 = (nI (L.countP (a_seen a r))) ∧ w9 = wX ad cB cI cL f0 f1 f2 f3 f4 f5 f6 f7 v md (nI L.length)) (jw_B D vCl (vTy cB cI cL) A) A) args s rm_X_countSeen.cells rm_X_countSeen.slots A) 0 0 4 [(0, .ref (ad 0)), (1, .int (nI r)), (2, .int (nI ((L.take i).countP (a_seen a r)))), (3, .int (nI i))] [] (wX ad cB cI cL f0 f1 f2 f3 f4 f5 f6 f7 v md (nI L.length)) := by
    intro t
    induction t with
    | zero =>
      intro i hi
      obtain rfl : i = L.length := hi
      refine jw_iload_n (pc := 4) F 3 d_X_countSeen_4 rfl rfl ?_
      refine jw_aload_n (pc := 5) F 0 d_X_countSeen_5 rfl rfl ?_
      refine jw_get (pc := 6) F (jms inX) 0 rfl rfl 10 (by decide) (jm w_56) rfl d_X_countSeen_6 ?_
      refine jw_icmp_ge (pc := 9) F 35 d_X_countSeen_9 (by decide) (fun hz1 => ?_) (fun hz1 => False.elim (hz1 (nI_le (Nat.le_refl _) (by omega))))
      refine jw_iload_n (pc := 35) F 2 d_X_countSeen_35 rfl rfl ?_
      exact jw_iret F d_X_countSeen_36 ⟨by rw [List.take_length], rfl⟩
    | succ t ih =>
      intro i hi
      have hlt : i < L.length := by omega
      refine jw_iload_n (pc := 4) F 3 d_X_countSeen_4 rfl rfl ?_
      refine jw_aload_n (pc := 5) F 0 d_X_countSeen_5 rfl rfl ?_
      refine jw_get (pc := 6) F (jms inX) 0 rfl rfl 10 (by decide) (jm w_56) rfl d_X_countSeen_6 ?_
      refine jw_icmp_ge (pc := 9) F 35 d_X_countSeen_9 (by decide) (fun hz2 => False.elim (nI_ge hlt (by omega) hz2)) (fun hz2 => ?_)
      refine jw_aload_n (pc := 12) F 0 d_X_countSeen_12 rfl rfl ?_
      refine jw_iload_n (pc := 13) F 1 d_X_countSeen_13 rfl rfl ?_
      refine jw_aload_n (pc := 14) F 0 d_X_countSeen_14 rfl rfl ?_
      refine jw_get (pc := 15) F (jms inX) 0 rfl rfl 9 (by decide) (jm w_55) rfl d_X_countSeen_15 ?_
      refine jw_iload_n (pc := 18) F 3 d_X_countSeen_18 rfl rfl ?_
      refine jw_ialdN (pc := 19) F 9 1 rfl rfl i rfl (by omega) (by decide) d_X_countSeen_19 ?_
      rw [hL.2 i hlt]
      refine jw_callV_Ei (pc := 20) (As := [.int (nI r), .int (nI (L[i]'hlt))]) (rest := []) F ([]) ([]) (c_isSeen l D ad cB cI cL f0 f1 f2 f3 f4 f5 f6 f7 v md (nI L.length) a r (L[i]'hlt) hA hr (hM _ (List.getElem_mem hlt))) (jw_cwV F.1.2.2.2.2 wl_good w_283 w_285 w_13 w_29 w_286 hd_X_isSeen ⟨by decide, by decide⟩) 0 0 rfl rfl rfl (by simp) rfl rfl (Nat.le_of_ble_eq_true rfl) d_X_countSeen_20 ⟨rfl, rfl⟩ ⟨by decide, by decide⟩ ?_
      refine jw_if_eq (pc := 23) F 29 d_X_countSeen_23 (by decide) (fun h1 => ?_) (fun h1 => ?_)
      · refine jw_iinc (pc := 29) (v := nI (i + 1)) (lv' := [(0, .ref (ad 0)), (1, .int (nI r)), (2, .int (nI ((L.take i).countP (a_seen a r)))), (3, .int (nI (i + 1)))]) F 3 d_X_countSeen_29 rfl (jw_inc _) (by decide) rfl ?_
        refine jw_goto (pc := 32) F 4 d_X_countSeen_32 (by decide) ?_
        have q := ih (i + 1) (by omega)
        rw [gl_cnt_s hlt, if_neg (by rw [jb_0.mp h1]; decide), Nat.add_zero] at q
        exact q
      · refine jw_iinc (pc := 26) (v := nI ((L.take i).countP (a_seen a r) + 1)) (lv' := [(0, .ref (ad 0)), (1, .int (nI r)), (2, .int (nI ((L.take i).countP (a_seen a r) + 1))), (3, .int (nI i))]) F 2 d_X_countSeen_26 rfl (jw_inc _) (by decide) rfl ?_
        refine jw_iinc (pc := 29) (v := nI (i + 1)) (lv' := [(0, .ref (ad 0)), (1, .int (nI r)), (2, .int (nI ((L.take i).countP (a_seen a r) + 1))), (3, .int (nI (i + 1)))]) F 3 d_X_countSeen_29 rfl (jw_inc _) (by decide) rfl ?_
        refine jw_goto (pc := 32) F 4 d_X_countSeen_32 (by decide) ?_
        have q := ih (i + 1) (by omega)
        rw [gl_cnt_s hlt, if_pos (jb_n.mp h1)] at q
        exact q
  refine jw_iconst (pc := 0) (v := nI 0) F d_X_countSeen_0 (by decide) ?_
  refine jw_istore_n (pc := 1) (lv' := [(0, .ref (ad 0)), (1, .int (nI r)), (2, .int (nI 0))]) F d_X_countSeen_1 rfl (by decide) rfl ?_
  refine jw_iconst (pc := 2) (v := nI 0) F d_X_countSeen_2 (by decide) ?_
  refine jw_istore_n (pc := 3) (lv' := [(0, .ref (ad 0)), (1, .int (nI r)), (2, .int (nI 0)), (3, .int (nI 0))]) F d_X_countSeen_3 rfl (by decide) rfl ?_
  exact loop L.length 0 (by omega)
set_option maxHeartbeats 4000000 in
set_option maxRecDepth 100000 in
theorem c_positionBehind (l : Launch) (D : va_G) (ad : Nat → Nat) (cB cI cL : ClassId) (f0 f1 f2 f3 f4 f5 f6 f7 : Nat → Int32) (v : Nat → Int64) (md ln : Int32) (L : List Nat) (hL : cx_L L f7 ln) (hl : L.length ≤ 160) (x : Int32) : jw_Mi l D vCl (vTy cB cI cL) y_X_positionBehind s_X_positionBehind rm_X_positionBehind [.ref (ad 0), .int x] (wX ad cB cI cL f0 f1 f2 f3 f4 f5 f6 f7 v md ln) (fun r9 w9 => (∃ p, p ≤ L.length ∧ r9 = nI p ∧ (p = 0 → ∀ i (h : i < L.length), nI (L[i]) ≠ x) ∧ (∀ q, p = q + 1 → ∃ h : q < L.length, nI (L[q]) = x)) ∧ w9 = wX ad cB cI cL f0 f1 f2 f3 f4 f5 f6 f7 v md ln) := by
  refine jw_ofi (cc := b_X_positionBehind) (nL := 3) (ret := (some .int)) (by decide) rfl (Nat.le_of_ble_eq_true rfl) (fun p e s m args below meth c A F hnm => ?_)
  refine jw_at (lv' := [(0, .ref (ad 0)), (1, .int x)]) (st' := []) (ws' := wX ad cB cI cL f0 f1 f2 f3 f4 f5 f6 f7 v md ln) rfl rfl rfl ?_
  have hln := hL.1
  subst hln
  have loop : ∀ (t : Nat), t ≤ L.length → (∀ i (h : i < L.length), t ≤ i → nI (L[i]) ≠ x) → jw_J p l e rm_X_positionBehind s m args below meth c D vCl A 3 (MQ below (va_Qi (fun r9 w9 => (∃ p, p ≤ L.length ∧ r9 = nI p ∧ (p = 0 → ∀ i (h : i < L.length), nI (L[i]) ≠ x) ∧ (∀ q, p = q + 1 → ∃ h : q < L.length, nI (L[q]) = x)) ∧ w9 = wX ad cB cI cL f0 f1 f2 f3 f4 f5 f6 f7 v md (nI L.length)) (jw_B D vCl (vTy cB cI cL) A) A) args s rm_X_positionBehind.cells rm_X_positionBehind.slots A) 0 0 5 [(0, .ref (ad 0)), (1, .int x), (2, .int (nI t))] [] (wX ad cB cI cL f0 f1 f2 f3 f4 f5 f6 f7 v md (nI L.length)) := by
    intro t
    induction t with
    | zero =>
      intro hp hno
      refine jw_iload_n (pc := 5) F 2 d_X_positionBehind_5 rfl rfl ?_
      refine jw_if_le (pc := 6) F 27 d_X_positionBehind_6 (by decide) (fun hz1 => ?_) (fun hz1 => False.elim (hz1 (by decide)))
      refine jw_iload_n (pc := 27) F 2 d_X_positionBehind_27 rfl rfl ?_
      exact jw_iret F d_X_positionBehind_28 ⟨⟨0, by omega, rfl, fun _ i h => hno i h (by omega), fun q hq => by omega⟩, rfl⟩
    | succ t ih =>
      intro hp hno
      have hlt : t < L.length := by omega
      refine jw_iload_n (pc := 5) F 2 d_X_positionBehind_5 rfl rfl ?_
      refine jw_if_le (pc := 6) F 27 d_X_positionBehind_6 (by decide) (fun hz2 => False.elim (nI_nle (by omega) (by omega) hz2)) (fun hz2 => ?_)
      refine jw_aload_n (pc := 9) F 0 d_X_positionBehind_9 rfl rfl ?_
      refine jw_get (pc := 10) F (jms inX) 0 rfl rfl 9 (by decide) (jm w_55) rfl d_X_positionBehind_10 ?_
      refine jw_iload_n (pc := 13) F 2 d_X_positionBehind_13 rfl rfl ?_
      refine jw_iconst (pc := 14) (v := 1) F d_X_positionBehind_14 (by decide) ?_
      refine jw_isub (pc := 15) F d_X_positionBehind_15 ?_
      rw [nI_pred]
      refine jw_ialdN (pc := 16) F 9 1 rfl rfl t rfl (by omega) (by decide) d_X_positionBehind_16 ?_
      refine jw_iload_n (pc := 17) F 1 d_X_positionBehind_17 rfl rfl ?_
      refine jw_icmp_eq (pc := 18) F 27 d_X_positionBehind_18 (by decide) (fun h1 => ?_) (fun h1 => ?_)
      · refine jw_iload_n (pc := 27) F 2 d_X_positionBehind_27 rfl rfl ?_
        exact jw_iret F d_X_positionBehind_28 ⟨⟨t + 1, hp, rfl, fun q => by omega, fun q hq => (by have e1 : t = q := (by omega); subst e1; exact ⟨hlt, by rw [← hL.2 t hlt]; exact h1⟩)⟩, rfl⟩
      · refine jw_iinc (pc := 21) (v := nI t) (lv' := [(0, .ref (ad 0)), (1, .int x), (2, .int (nI t))]) F 2 d_X_positionBehind_21 rfl (jw_dec _) (by decide) rfl ?_
        refine jw_goto (pc := 24) F 5 d_X_positionBehind_24 (by decide) ?_
        refine ih (by omega) (fun i hi hti => ?_)
        by_cases e1 : i = t
        · subst e1; rw [← hL.2 i hi]; exact h1
        · exact hno i hi (by omega)
  refine jw_aload_n (pc := 0) F 0 d_X_positionBehind_0 rfl rfl ?_
  refine jw_get (pc := 1) F (jms inX) 0 rfl rfl 10 (by decide) (jm w_56) rfl d_X_positionBehind_1 ?_
  refine jw_istore_n (pc := 4) (lv' := [(0, .ref (ad 0)), (1, .int x), (2, .int (nI L.length))]) F d_X_positionBehind_4 rfl (by decide) rfl ?_
  exact loop L.length (Nat.le_refl _) (fun i h q => by omega)
set_option maxHeartbeats 4000000 in
set_option maxRecDepth 100000 in
theorem c_weave (l : Launch) (D : va_G) (ad : Nat → Nat) (cB cI cL : ClassId) (f0 f1 f2 f3 f4 f5 f6 f7 : Nat → Int32) (v : Nat → Int64) (md ln : Int32) (a : AS) (r : Nat) (t : Int32) (vv : Int64) (L : List Nat) (hI : ab_I a) (hn : a_n a < 160) (hr : r < 4) (ht : ab_ok a r t false) (hA : cx_A (ab_new a r t false vv) f0 f1 f2 f3 f4 f5 f6 md) (hL : cx_L L f7 ln) (hR : ab_row a L) : jw_Mv l D vCl (vTy cB cI cL) y_X_weave s_X_weave rm_X_weave [.ref (ad 0), .int (nI (a_n a))] (wX ad cB cI cL f0 f1 f2 f3 f4 f5 f6 f7 v md ln) (fun w9 => ∃ (g : Nat → Int32) (M : List Nat), w9 = wX ad cB cI cL f0 f1 f2 f3 f4 f5 f6 g v md (nI (L.length + 1)) ∧ cx_L M g (nI (L.length + 1)) ∧ ab_row (ab_new a r t false vv) M) := by
  refine jw_ofv (cc := b_X_weave) (nL := 4) (ret := none) (by decide) rfl (Nat.le_of_ble_eq_true rfl) (fun p e s m args below meth c A F hnm => ?_)
  refine jw_at (lv' := [(0, .ref (ad 0)), (1, .int (nI (a_n a)))]) (st' := []) (ws' := wX ad cB cI cL f0 f1 f2 f3 f4 f5 f6 f7 v md ln) rfl rfl rfl ?_
  have hln := hL.1
  subst hln
  have hI2 := ab_I_new (v := vv) hI hn hr ht
  have hl : L.length ≤ a_n a := gm_pig hR.1 (fun x hx => ((hR.2.1 x).mp hx).1)
  have hN : a_n (ab_new a r t false vv) = a_n a + 1 := rfl
  have htg : f1 (a_n a) = t := (hA.2.2.1 (a_n a) (by omega)).trans ab_us
  have fin : ∀ (q : Nat), q ≤ L.length → gm_own (a_par (ab_new a r t false vv)) (a_lt (ab_new a r t false vv)) (a_n a) (L.take q).reverse → (∀ y0, (L.drop q).head? = some y0 → a_lt (ab_new a r t false vv) y0 (a_n a)) → jw_J p l e rm_X_weave s m args below meth c D vCl A 4 (MQ below (va_Qv (fun w9 => ∃ (g : Nat → Int32) (M : List Nat), w9 = wX ad cB cI cL f0 f1 f2 f3 f4 f5 f6 g v md (nI (L.length + 1)) ∧ cx_L M g (nI (L.length + 1)) ∧ ab_row (ab_new a r t false vv) M) (jw_B D vCl (vTy cB cI cL) A) A) args s rm_X_weave.cells rm_X_weave.slots A) 0 0 39 [(0, .ref (ad 0)), (1, .int (nI (a_n a))), (2, .int (nI q))] [] (wX ad cB cI cL f0 f1 f2 f3 f4 f5 f6 f7 v md (nI L.length)) := by
    intro q hq ho hh
    have loop2 : ∀ (u : Nat) (g : Nat → Int32), q + u ≤ L.length → (∀ i, i ≤ L.length → g i = if q + u < i then f7 (i - 1) else f7 i) → jw_J p l e rm_X_weave s m args below meth c D vCl A 4 (MQ below (va_Qv (fun w9 => ∃ (g : Nat → Int32) (M : List Nat), w9 = wX ad cB cI cL f0 f1 f2 f3 f4 f5 f6 g v md (nI (L.length + 1)) ∧ cx_L M g (nI (L.length + 1)) ∧ ab_row (ab_new a r t false vv) M) (jw_B D vCl (vTy cB cI cL) A) A) args s rm_X_weave.cells rm_X_weave.slots A) 0 0 44 [(0, .ref (ad 0)), (1, .int (nI (a_n a))), (2, .int (nI q)), (3, .int (nI (q + u)))] [] (wX ad cB cI cL f0 f1 f2 f3 f4 f5 f6 g v md (nI L.length)) := by
      intro u
      induction u with
      | zero =>
        intro g hu hg
        refine jw_at (lv' := [(0, .ref (ad 0)), (1, .int (nI (a_n a))), (2, .int (nI q)), (3, .int (nI q))]) (st' := []) (ws' := wX ad cB cI cL f0 f1 f2 f3 f4 f5 f6 g v md (nI L.length)) rfl rfl rfl ?_
        refine jw_iload_n (pc := 44) F 3 d_X_weave_44 rfl rfl ?_
        refine jw_iload_n (pc := 45) F 2 d_X_weave_45 rfl rfl ?_
        refine jw_icmp_le (pc := 46) F 69 d_X_weave_46 (by decide) (fun hz1 => ?_) (fun hz1 => False.elim (hz1 (nI_le (Nat.le_refl _) (by omega))))
        refine jw_aload_n (pc := 69) F 0 d_X_weave_69 rfl rfl ?_
        refine jw_get (pc := 70) F (jms inX) 0 rfl rfl 9 (by decide) (jm w_55) rfl d_X_weave_70 ?_
        refine jw_iload_n (pc := 73) F 2 d_X_weave_73 rfl rfl ?_
        refine jw_iload_n (pc := 74) F 1 d_X_weave_74 rfl rfl ?_
        refine jw_iastN (pc := 75) (ws' := wX ad cB cI cL f0 f1 f2 f3 f4 f5 f6 (upd g q (nI (a_n a))) v md (nI L.length)) F 9 1 rfl rfl q rfl (by omega) (by decide) d_X_weave_75 rfl ?_
        refine jw_aload_n (pc := 76) F 0 d_X_weave_76 rfl rfl ?_
        refine jw_dup (pc := 77) F d_X_weave_77 rfl ?_
        refine jw_get (pc := 78) F (jms inX) 0 rfl rfl 10 (by decide) (jm w_56) rfl d_X_weave_78 ?_
        refine jw_iconst (pc := 81) (v := 1) F d_X_weave_81 (by decide) ?_
        refine jw_iadd (pc := 82) F d_X_weave_82 ?_
        rw [nI_1]
        refine jw_put (pc := 83) (v := .int (nI (L.length + 1))) (ty := .int) (ws' := wX ad cB cI cL f0 f1 f2 f3 f4 f5 f6 (upd g q (nI (a_n a))) v md (nI (L.length + 1))) F (jms inX) tX tX_ok nmX 0 rfl rfl 10 (by decide) (jm w_56) rfl (by decide +kernel) rfl rfl (Nat.le_of_ble_eq_true rfl) d_X_weave_83 rfl ?_
        exact jw_vret F d_X_weave_86 ⟨_, L.take q ++ a_n a :: L.drop q, rfl, gl_weave hq hL.2 hg, ab_row_ins (by rw [List.take_append_drop]; exact hR) ho hh⟩
      | succ u ih =>
        intro g hu hg
        refine jw_at (lv' := [(0, .ref (ad 0)), (1, .int (nI (a_n a))), (2, .int (nI q)), (3, .int (nI (q + u + 1)))]) (st' := []) (ws' := wX ad cB cI cL f0 f1 f2 f3 f4 f5 f6 g v md (nI L.length)) rfl rfl rfl ?_
        refine jw_iload_n (pc := 44) F 3 d_X_weave_44 rfl rfl ?_
        refine jw_iload_n (pc := 45) F 2 d_X_weave_45 rfl rfl ?_
        refine jw_icmp_le (pc := 46) F 69 d_X_weave_46 (by decide) (fun hz2 => False.elim (nI_ge (show q < q + u + 1 by omega) (by omega) hz2)) (fun hz2 => ?_)
        refine jw_aload_n (pc := 49) F 0 d_X_weave_49 rfl rfl ?_
        refine jw_get (pc := 50) F (jms inX) 0 rfl rfl 9 (by decide) (jm w_55) rfl d_X_weave_50 ?_
        refine jw_iload_n (pc := 53) F 3 d_X_weave_53 rfl rfl ?_
        refine jw_aload_n (pc := 54) F 0 d_X_weave_54 rfl rfl ?_
        refine jw_get (pc := 55) F (jms inX) 0 rfl rfl 9 (by decide) (jm w_55) rfl d_X_weave_55 ?_
        refine jw_iload_n (pc := 58) F 3 d_X_weave_58 rfl rfl ?_
        refine jw_iconst (pc := 59) (v := 1) F d_X_weave_59 (by decide) ?_
        refine jw_isub (pc := 60) F d_X_weave_60 ?_
        rw [nI_pred]
        refine jw_ialdN (pc := 61) F 9 1 rfl rfl (q + u) rfl (by omega) (by decide) d_X_weave_61 ?_
        refine jw_iastN (pc := 62) (ws' := wX ad cB cI cL f0 f1 f2 f3 f4 f5 f6 (upd g (q + u + 1) (g (q + u))) v md (nI L.length)) F 9 1 rfl rfl (q + u + 1) rfl (by omega) (by decide) d_X_weave_62 rfl ?_
        refine jw_iinc (pc := 63) (v := nI (q + u)) (lv' := [(0, .ref (ad 0)), (1, .int (nI (a_n a))), (2, .int (nI q)), (3, .int (nI (q + u)))]) F 3 d_X_weave_63 rfl (jw_dec _) (by decide) rfl ?_
        refine jw_goto (pc := 66) F 44 d_X_weave_66 (by decide) ?_
        refine ih _ (by omega) (fun i hi => ?_)
        by_cases e1 : i = q + u + 1
        · subst e1
          rw [pk_us, if_pos (by omega), hg _ (by omega), if_neg (by omega)]
          rfl
        · rw [pk_un e1, hg i hi]
          by_cases e2 : q + u < i
          · rw [if_pos e2, if_pos (by omega)]
          · rw [if_neg e2, if_neg (by omega)]
    refine jw_aload_n (pc := 39) F 0 d_X_weave_39 rfl rfl ?_
    refine jw_get (pc := 40) F (jms inX) 0 rfl rfl 10 (by decide) (jm w_56) rfl d_X_weave_40 ?_
    refine jw_istore_n (pc := 43) (lv' := [(0, .ref (ad 0)), (1, .int (nI (a_n a))), (2, .int (nI q)), (3, .int (nI L.length))]) F d_X_weave_43 rfl (by decide) rfl ?_
    have qq := loop2 (L.length - q) f7 (by omega) (fun i hi => by rw [if_neg (by omega)])
    rw [Nat.add_sub_cancel' hq] at qq
    exact qq
  have loop1 : ∀ (u q : Nat), q + u = L.length → gm_own (a_par (ab_new a r t false vv)) (a_lt (ab_new a r t false vv)) (a_n a) (L.take q).reverse → jw_J p l e rm_X_weave s m args below meth c D vCl A 4 (MQ below (va_Qv (fun w9 => ∃ (g : Nat → Int32) (M : List Nat), w9 = wX ad cB cI cL f0 f1 f2 f3 f4 f5 f6 g v md (nI (L.length + 1)) ∧ cx_L M g (nI (L.length + 1)) ∧ ab_row (ab_new a r t false vv) M) (jw_B D vCl (vTy cB cI cL) A) A) args s rm_X_weave.cells rm_X_weave.slots A) 0 0 11 [(0, .ref (ad 0)), (1, .int (nI (a_n a))), (2, .int (nI q))] [] (wX ad cB cI cL f0 f1 f2 f3 f4 f5 f6 f7 v md (nI L.length)) := by
    intro u
    induction u with
    | zero =>
      intro q hq ho
      obtain rfl : q = L.length := hq
      refine jw_iload_n (pc := 11) F 2 d_X_weave_11 rfl rfl ?_
      refine jw_aload_n (pc := 12) F 0 d_X_weave_12 rfl rfl ?_
      refine jw_get (pc := 13) F (jms inX) 0 rfl rfl 10 (by decide) (jm w_56) rfl d_X_weave_13 ?_
      refine jw_icmp_ge (pc := 16) F 39 d_X_weave_16 (by decide) (fun hz3 => ?_) (fun hz3 => False.elim (hz3 (nI_le (Nat.le_refl _) (by omega))))
      exact fin _ (Nat.le_refl _) ho (fun y0 hy => by rw [List.drop_length] at hy; cases hy)
    | succ u ih =>
      intro q hq ho
      have hlt : q < L.length := by omega
      have hmem := (hR.2.1 _).mp (List.getElem_mem hlt)
      refine jw_iload_n (pc := 11) F 2 d_X_weave_11 rfl rfl ?_
      refine jw_aload_n (pc := 12) F 0 d_X_weave_12 rfl rfl ?_
      refine jw_get (pc := 13) F (jms inX) 0 rfl rfl 10 (by decide) (jm w_56) rfl d_X_weave_13 ?_
      refine jw_icmp_ge (pc := 16) F 39 d_X_weave_16 (by decide) (fun hz4 => False.elim (nI_ge hlt (by omega) hz4)) (fun hz4 => ?_)
      refine jw_aload_n (pc := 19) F 0 d_X_weave_19 rfl rfl ?_
      refine jw_aload_n (pc := 20) F 0 d_X_weave_20 rfl rfl ?_
      refine jw_get (pc := 21) F (jms inX) 0 rfl rfl 9 (by decide) (jm w_55) rfl d_X_weave_21 ?_
      refine jw_iload_n (pc := 24) F 2 d_X_weave_24 rfl rfl ?_
      refine jw_ialdN (pc := 25) F 9 1 rfl rfl q rfl (by omega) (by decide) d_X_weave_25 ?_
      refine jw_iload_n (pc := 26) F 1 d_X_weave_26 rfl rfl ?_
      rw [hL.2 q hlt]
      refine jw_callV_Ei (pc := 27) (As := [.int (nI (L[q]'hlt)), .int (nI (a_n a))]) (rest := []) F ([]) ([]) (c_isGreater l D ad cB cI cL f0 f1 f2 f3 f4 f5 f6 f7 v md (nI L.length) (ab_new a r t false vv) (cx_B_of hI2) hA (fun k hk => (hI2.2.2.2.1 k hk).1) (L[q]'hlt) (a_n a) (by omega) (by omega)) (jw_cwV F.1.2.2.2.2 wl_good w_239 w_241 w_11 w_29 w_242 hd_X_isGreater ⟨by decide, by decide⟩) 0 0 rfl rfl rfl (by simp) rfl rfl (Nat.le_of_ble_eq_true rfl) d_X_weave_27 ⟨rfl, rfl⟩ ⟨by decide, by decide⟩ ?_
      refine jw_if_eq (pc := 30) F 39 d_X_weave_30 (by decide) (fun h1 => ?_) (fun h1 => ?_)
      · refine fin q (by omega) ho (fun y0 hy => ?_)
        rw [List.head?_drop, List.getElem?_eq_getElem hlt] at hy
        cases hy
        exact ab_tot hI2 (by omega) (by omega) (by omega) (fun z => by rw [a_ltb_t.mpr z] at h1; exact absurd h1 (by decide))
      · refine jw_iinc (pc := 33) (v := nI (q + 1)) (lv' := [(0, .ref (ad 0)), (1, .int (nI (a_n a))), (2, .int (nI (q + 1)))]) F 2 d_X_weave_33 rfl (jw_inc _) (by decide) rfl ?_
        refine jw_goto (pc := 36) F 11 d_X_weave_36 (by decide) ?_
        exact ih (q + 1) (by omega) (cx_own1 hlt ho (jb_n.mp h1))
  refine jw_aload_n (pc := 0) F 0 d_X_weave_0 rfl rfl ?_
  refine jw_aload_n (pc := 1) F 0 d_X_weave_1 rfl rfl ?_
  refine jw_get (pc := 2) F (jms inX) 0 rfl rfl 2 (by decide) (jm w_48) rfl d_X_weave_2 ?_
  refine jw_iload_n (pc := 5) F 1 d_X_weave_5 rfl rfl ?_
  refine jw_ialdN (pc := 6) F 2 1 rfl rfl (a_n a) rfl (by omega) (by decide) d_X_weave_6 ?_
  rw [htg]
  refine jw_callV_Ci (pc := 7) (As := [.int t]) (rest := []) F (c_positionBehind l D ad cB cI cL f0 f1 f2 f3 f4 f5 f6 f7 v md (nI L.length) L hL (by omega) t) (jw_cwV F.1.2.2.2.2 wl_good w_235 w_237 w_10 w_29 w_238 hd_X_positionBehind ⟨by decide, by decide⟩) 0 0 rfl rfl rfl rfl rfl rfl (Nat.le_of_ble_eq_true rfl) d_X_weave_7 ⟨rfl, rfl⟩ ⟨by decide, by decide⟩ (fun r w hw => ?_)
  obtain ⟨⟨p, hp, rfl, hp0, hp1⟩, rfl⟩ := hw
  refine jw_istore_n (pc := 10) (lv' := [(0, .ref (ad 0)), (1, .int (nI (a_n a))), (2, .int (nI p))]) F d_X_weave_10 rfl (by decide) rfl ?_
  exact loop1 (L.length - p) p (by omega) (cx_own0 hI ht hR hp hp0 hp1)
end
section
def jz_cd : Cond → Bool
  | .castable .. => true
  | .declares _ => true
  | _ => false
def jz_LIAE : List Cond := vx_atS RX 102 "java/lang/IllegalArgumentException" ["java/lang/RuntimeException", "java/lang/Exception"]
def jz_LIOB : List Cond := vx_atS RX 85 "java/lang/IndexOutOfBoundsException" ["java/lang/RuntimeException", "java/lang/Exception"]
def jz_LISE : List Cond := vx_atS RX 116 "java/lang/IllegalStateException" ["java/lang/RuntimeException", "java/lang/Exception"]
def jz_B : List Cond := (jz_LIAE.filter (fun w => !goodWord w)) ++ ((jz_LIOB.filter (fun w => !goodWord w)) ++ (jz_LISE.filter (fun w => !goodWord w)))
theorem jz_B_cd : ∀ w ∈ jz_B, jz_cd w = true := by decide +kernel
theorem jz_B_tbl : ∀ w ∈ jz_B, w ∈ lw_tbl := by decide +kernel
theorem jz_warm {w : Cond} {s U : State} {A B : Array Value} (hw : jz_cd w = true) (hW : s.WarmedH U.vm) (h : w.before A s = true) : w.before B U = true := by
  cases w with
  | castable a b => exact va_tabs rfl (rfl : (s.setVm U.vm).vm = U.vm) (by rw [Cond.castable_setVm hW.alike]; exact h)
  | declares x => exact va_tabs rfl (rfl : (s.setVm U.vm).vm = U.vm) (by rw [Cond.declares_setVm hW.alike]; exact h)
  | _ => cases hw
theorem jz_same {w : Cond} {s U : State} {A B : Array Value} (hw : jz_cd w = true) (hvm : s.vm = U.vm) (h : w.before A s = true) : w.before B U = true := by
  cases w with
  | castable a b => exact va_tabs rfl hvm h
  | declares x => exact va_tabs rfl hvm h
  | _ => cases hw
def jz_Z (A : Nat → Prop) (U : State) : Prop := vx_Zq Bundle.tN "UNASSIGNED_STACK" Bundle.steD A U U.heap ∧ vx_Zq Bundle.tN "SUPPRESSED_SENTINEL" Bundle.listD A U U.heap ∧ (∀ w ∈ jz_B, w.before #[] U = true) ∧ (∃ sa, vk_R RX 103 "no such replica" sa U) ∧ (∃ sa, vk_R RX 105 "no room for another operation" sa U) ∧ (∃ sa, vk_R RX 114 "the replica holds no such element" sa U) ∧ (∃ sa, vk_R RX 110 "no such operation" sa U) ∧ (∃ sa, vk_R RX 83 "no such element" sa U) ∧ (∃ sa, vk_R RX 100 "no such count" sa U)
theorem jz_ok : jw_Zok jz_Z := by
  refine ⟨fun A U U1 hv hh h => ?_, fun A B s U hW h hk hAB => ?_⟩
  · obtain ⟨h1, h2, h3, h4, h5, h6, h7, h8, h9⟩ := h
    refine ⟨?_, ?_, fun w hw => jz_same (jz_B_cd w hw) hv.symm (h3 w hw), ?_, ?_, ?_, ?_, ?_, ?_⟩
    · rw [hh]; exact vx_Zq.moved (by rw [hv]; exact Vm.Alike.refl _) h1
    · rw [hh]; exact vx_Zq.moved (by rw [hv]; exact Vm.Alike.refl _) h2
    · obtain ⟨sa, g⟩ := h4
      exact ⟨sa, vk_R.same hv g⟩
    · obtain ⟨sa, g⟩ := h5
      exact ⟨sa, vk_R.same hv g⟩
    · obtain ⟨sa, g⟩ := h6
      exact ⟨sa, vk_R.same hv g⟩
    · obtain ⟨sa, g⟩ := h7
      exact ⟨sa, vk_R.same hv g⟩
    · obtain ⟨sa, g⟩ := h8
      exact ⟨sa, vk_R.same hv g⟩
    · obtain ⟨sa, g⟩ := h9
      exact ⟨sa, vk_R.same hv g⟩
  · obtain ⟨h1, h2, h3, h4, h5, h6, h7, h8, h9⟩ := h
    refine ⟨?_, ?_, fun w hw => jz_warm (jz_B_cd w hw) hW (h3 w hw), ?_, ?_, ?_, ?_, ?_, ?_⟩
    · exact (vx_Zq.moved hW.alike (h1.kept hk)).narrow hAB
    · exact (vx_Zq.moved hW.alike (h2.kept hk)).narrow hAB
    · obtain ⟨sa, g⟩ := h4
      exact ⟨sa, vk_R.warm hW g⟩
    · obtain ⟨sa, g⟩ := h5
      exact ⟨sa, vk_R.warm hW g⟩
    · obtain ⟨sa, g⟩ := h6
      exact ⟨sa, vk_R.warm hW g⟩
    · obtain ⟨sa, g⟩ := h7
      exact ⟨sa, vk_R.warm hW g⟩
    · obtain ⟨sa, g⟩ := h8
      exact ⟨sa, vk_R.warm hW g⟩
    · obtain ⟨sa, g⟩ := h9
      exact ⟨sa, vk_R.warm hW g⟩
theorem jz_inIAE : ∀ w ∈ jz_LIAE.filter goodWord, w ∈ WL := by decide +kernel
theorem jz_hatIAE {A : Nat → Prop} {s : State} {args : Array Value} {c0 : Cond} (hts : ∀ w ∈ c0 :: WL, w.before args s = true) (hZ : jz_Z A s) : ∀ w ∈ jz_LIAE, w.before args s = true :=
  vx_hat (B := jz_B) (fun w hw => hts w (jm (jz_inIAE w hw))) (fun w h => List.mem_append_left _ h) (fun w hw => jz_same (jz_B_cd w hw) rfl (hZ.2.2.1 w hw))
theorem jz_otIAE : ∀ w ∈ Cond.classLink RX 98 "java/lang/IllegalArgumentException" :: Cond.initialized "java/lang/IllegalArgumentException" :: jz_LIAE, vx_ot w = true := by decide +kernel
theorem jz_inIOB : ∀ w ∈ jz_LIOB.filter goodWord, w ∈ WL := by decide +kernel
theorem jz_hatIOB {A : Nat → Prop} {s : State} {args : Array Value} {c0 : Cond} (hts : ∀ w ∈ c0 :: WL, w.before args s = true) (hZ : jz_Z A s) : ∀ w ∈ jz_LIOB, w.before args s = true :=
  vx_hat (B := jz_B) (fun w hw => hts w (jm (jz_inIOB w hw))) (fun w h => List.mem_append_right _ (List.mem_append_left _ h)) (fun w hw => jz_same (jz_B_cd w hw) rfl (hZ.2.2.1 w hw))
theorem jz_otIOB : ∀ w ∈ Cond.classLink RX 81 "java/lang/IndexOutOfBoundsException" :: Cond.initialized "java/lang/IndexOutOfBoundsException" :: jz_LIOB, vx_ot w = true := by decide +kernel
theorem jz_inISE : ∀ w ∈ jz_LISE.filter goodWord, w ∈ WL := by decide +kernel
theorem jz_hatISE {A : Nat → Prop} {s : State} {args : Array Value} {c0 : Cond} (hts : ∀ w ∈ c0 :: WL, w.before args s = true) (hZ : jz_Z A s) : ∀ w ∈ jz_LISE, w.before args s = true :=
  vx_hat (B := jz_B) (fun w hw => hts w (jm (jz_inISE w hw))) (fun w h => List.mem_append_right _ (List.mem_append_right _ h)) (fun w hw => jz_same (jz_B_cd w hw) rfl (hZ.2.2.1 w hw))
theorem jz_otISE : ∀ w ∈ Cond.classLink RX 112 "java/lang/IllegalStateException" :: Cond.initialized "java/lang/IllegalStateException" :: jz_LISE, vx_ot w = true := by decide +kernel
end
section
theorem w_97 : Cond.classLink RX 98 "java/lang/IllegalArgumentException" ∈ WL := jwl 97 rfl rfl
theorem w_34 : Cond.initialized "java/lang/IllegalArgumentException" ∈ WL := jwl 34 rfl rfl
theorem w_169 : Cond.classLink RX 81 "java/lang/IndexOutOfBoundsException" ∈ WL := jwl 169 rfl rfl
theorem w_35 : Cond.initialized "java/lang/IndexOutOfBoundsException" ∈ WL := jwl 35 rfl rfl
theorem w_189 : Cond.methodLink RX 77 y_X_isElement ∈ WL := jwl 189 rfl rfl
theorem w_191 : Cond.instanceMethod y_X_isElement ∈ WL := jwl 191 rfl rfl
theorem w_4 : Cond.selects RX y_X_isElement y_X_isElement ∈ WL := jwl 4 rfl rfl
theorem w_192 : Cond.code y_X_isElement b_X_isElement 2 (some .boolean) ∈ WL := jwl 192 rfl rfl
theorem w_204 : Cond.classLink RX 112 "java/lang/IllegalStateException" ∈ WL := jwl 204 rfl rfl
theorem w_36 : Cond.initialized "java/lang/IllegalStateException" ∈ WL := jwl 36 rfl rfl
abbrev rm_X_checkReplica : Room := { frames := 6, cells := 0, slots := 0, locals := 90 }
abbrev rm_X_checkRoom : Room := { frames := 6, cells := 0, slots := 0, locals := 90 }
abbrev rm_X_checkOperation : Room := { frames := 6, cells := 0, slots := 0, locals := 90 }
abbrev rm_X_checkHeldElement : Room := { frames := 6, cells := 0, slots := 0, locals := 90 }
set_option maxHeartbeats 4000000 in
set_option maxRecDepth 100000 in
theorem c_checkReplica (l : Launch) (D : va_G) (ad : Nat → Nat) (cB cI cL : ClassId) (f0 f1 f2 f3 f4 f5 f6 f7 : Nat → Int32) (v : Nat → Int64) (md ln : Int32) (r : Nat) (hr : r < 4) : jw_Ev l D vCl (vTy cB cI cL) y_X_checkReplica s_X_checkReplica rm_X_checkReplica [.ref (ad 0), .int (nI r)] (wX ad cB cI cL f0 f1 f2 f3 f4 f5 f6 f7 v md ln) := by
  refine jw_ofv (cc := b_X_checkReplica) (nL := 2) (ret := none) (by decide) rfl (Nat.le_of_ble_eq_true rfl) (fun p e s m args below meth c A F hnm => ?_)
  refine jw_at (lv' := [(0, .ref (ad 0)), (1, .int (nI r))]) (st' := []) (ws' := wX ad cB cI cL f0 f1 f2 f3 f4 f5 f6 f7 v md ln) rfl rfl rfl ?_
  refine jw_iload_n (pc := 0) F 1 d_X_checkReplica_0 rfl rfl ?_
  refine jw_if_lt (pc := 1) F 9 d_X_checkReplica_1 (by decide) (fun hz1 => False.elim (nI_pos (by omega) hz1)) (fun hz1 => ?_)
  refine jw_iload_n (pc := 4) F 1 d_X_checkReplica_4 rfl rfl ?_
  refine jw_iconst (pc := 5) (v := nI 4) F d_X_checkReplica_5 (by decide) ?_
  refine jw_icmp_lt (pc := 6) F 19 d_X_checkReplica_6 (by decide) (fun hz2 => ?_) (fun hz2 => False.elim (hz2 (nI_lt hr (by decide))))
  exact jw_vret F d_X_checkReplica_19 rfl
abbrev rm_X_checkReplica_x : Room := { frames := 6, cells := 1, slots := 6, locals := 90 }
set_option maxHeartbeats 4000000 in
set_option maxRecDepth 100000 in
theorem c_checkReplica_x (l : Launch) (D : va_G) (ad : Nat → Nat) (cB cI cL : ClassId) (f0 f1 f2 f3 f4 f5 f6 f7 : Nat → Int32) (v : Nat → Int64) (md ln : Int32) (r : Int32) (hr : a_isrep r = false) (hl : l.stackTraces = false) : jw_Tx l D vCl (vTy cB cI cL) y_X_checkReplica s_X_checkReplica rm_X_checkReplica_x [.ref (ad 0), .int r] (wX ad cB cI cL f0 f1 f2 f3 f4 f5 f6 f7 v md ln) jz_Z "java/lang/IllegalArgumentException" := by
  refine jw_ofx (cc := b_X_checkReplica) (nL := 2) (ret := none) (by decide) rfl (Nat.le_of_ble_eq_true rfl) (fun p e s m args below meth c A F hT hZ => ?_)
  refine jw_at (lv' := [(0, .ref (ad 0)), (1, .int r)]) (st' := []) (ws' := wX ad cB cI cL f0 f1 f2 f3 f4 f5 f6 f7 v md ln) rfl rfl rfl ?_
  refine jw_iload_n (pc := 0) F 1 d_X_checkReplica_0 rfl rfl ?_
  refine jw_if_lt (pc := 1) F 9 d_X_checkReplica_1 (by decide) (fun h1 => ?_) (fun h1 => ?_)
  · obtain ⟨sa, hsa⟩ := hZ.2.2.2.1
    exact jw_throw (pc := 9) (names := ["java/lang/RuntimeException", "java/lang/Exception"]) F hT hl (by decide +kernel) (by decide +kernel) (jm w_97) (jm w_34) hsa (jz_hatIAE F.1.2.2.2.2 hZ) jz_otIAE hZ.1 hZ.2.1 d_X_checkReplica_9 d_X_checkReplica_12 d_X_checkReplica_13 d_X_checkReplica_15 d_X_checkReplica_18 (by decide) (Nat.le_of_ble_eq_true rfl) (by decide) (by decide) (by decide) (by decide)
  · refine jw_iload_n (pc := 4) F 1 d_X_checkReplica_4 rfl rfl ?_
    refine jw_iconst (pc := 5) (v := nI 4) F d_X_checkReplica_5 (by decide) ?_
    refine jw_icmp_lt (pc := 6) F 19 d_X_checkReplica_6 (by decide) (fun h2 => ?_) (fun h2 => ?_)
    · exact absurd (show a_isrep r = true by simp [a_isrep, a_isop, h1, h2]) (by rw [hr]; decide)
    · obtain ⟨sa, hsa⟩ := hZ.2.2.2.1
      exact jw_throw (pc := 9) (names := ["java/lang/RuntimeException", "java/lang/Exception"]) F hT hl (by decide +kernel) (by decide +kernel) (jm w_97) (jm w_34) hsa (jz_hatIAE F.1.2.2.2.2 hZ) jz_otIAE hZ.1 hZ.2.1 d_X_checkReplica_9 d_X_checkReplica_12 d_X_checkReplica_13 d_X_checkReplica_15 d_X_checkReplica_18 (by decide) (Nat.le_of_ble_eq_true rfl) (by decide) (by decide) (by decide) (by decide)
set_option maxHeartbeats 4000000 in
set_option maxRecDepth 100000 in
theorem c_checkRoom (l : Launch) (D : va_G) (ad : Nat → Nat) (cB cI cL : ClassId) (f0 f1 f2 f3 f4 f5 f6 f7 : Nat → Int32) (v : Nat → Int64) (md ln : Int32) (n : Nat) (hmd : md = nI n) (hn : n < 160) : jw_Ev l D vCl (vTy cB cI cL) y_X_checkRoom s_X_checkRoom rm_X_checkRoom [.ref (ad 0)] (wX ad cB cI cL f0 f1 f2 f3 f4 f5 f6 f7 v md ln) := by
  refine jw_ofv (cc := b_X_checkRoom) (nL := 1) (ret := none) (by decide) rfl (Nat.le_of_ble_eq_true rfl) (fun p e s m args below meth c A F hnm => ?_)
  refine jw_at (lv' := [(0, .ref (ad 0))]) (st' := []) (ws' := wX ad cB cI cL f0 f1 f2 f3 f4 f5 f6 f7 v md ln) rfl rfl rfl ?_
  subst hmd
  refine jw_aload_n (pc := 0) F 0 d_X_checkRoom_0 rfl rfl ?_
  refine jw_get (pc := 1) F (jms inX) 0 rfl rfl 0 (by decide) (jm w_46) rfl d_X_checkRoom_1 ?_
  refine jw_sipush (pc := 4) (v := nI 160) F d_X_checkRoom_4 (by decide) ?_
  refine jw_icmp_lt (pc := 7) F 20 d_X_checkRoom_7 (by decide) (fun hz1 => ?_) (fun hz1 => False.elim (hz1 (nI_lt hn (by decide))))
  exact jw_vret F d_X_checkRoom_20 rfl
abbrev rm_X_checkRoom_x : Room := { frames := 6, cells := 1, slots := 6, locals := 90 }
set_option maxHeartbeats 4000000 in
set_option maxRecDepth 100000 in
theorem c_checkRoom_x (l : Launch) (D : va_G) (ad : Nat → Nat) (cB cI cL : ClassId) (f0 f1 f2 f3 f4 f5 f6 f7 : Nat → Int32) (v : Nat → Int64) (md ln : Int32) (hmd : md = nI 160) (hl : l.stackTraces = false) : jw_Tx l D vCl (vTy cB cI cL) y_X_checkRoom s_X_checkRoom rm_X_checkRoom_x [.ref (ad 0)] (wX ad cB cI cL f0 f1 f2 f3 f4 f5 f6 f7 v md ln) jz_Z "java/lang/IndexOutOfBoundsException" := by
  refine jw_ofx (cc := b_X_checkRoom) (nL := 1) (ret := none) (by decide) rfl (Nat.le_of_ble_eq_true rfl) (fun p e s m args below meth c A F hT hZ => ?_)
  refine jw_at (lv' := [(0, .ref (ad 0))]) (st' := []) (ws' := wX ad cB cI cL f0 f1 f2 f3 f4 f5 f6 f7 v md ln) rfl rfl rfl ?_
  subst hmd
  refine jw_aload_n (pc := 0) F 0 d_X_checkRoom_0 rfl rfl ?_
  refine jw_get (pc := 1) F (jms inX) 0 rfl rfl 0 (by decide) (jm w_46) rfl d_X_checkRoom_1 ?_
  refine jw_sipush (pc := 4) (v := nI 160) F d_X_checkRoom_4 (by decide) ?_
  refine jw_icmp_lt (pc := 7) F 20 d_X_checkRoom_7 (by decide) (fun hz1 => False.elim (absurd hz1 (by decide))) (fun hz1 => ?_)
  obtain ⟨sa, hsa⟩ := hZ.2.2.2.2.1
  exact jw_throw (pc := 10) (names := ["java/lang/RuntimeException", "java/lang/Exception"]) F hT hl (by decide +kernel) (by decide +kernel) (jm w_169) (jm w_35) hsa (jz_hatIOB F.1.2.2.2.2 hZ) jz_otIOB hZ.1 hZ.2.1 d_X_checkRoom_10 d_X_checkRoom_13 d_X_checkRoom_14 d_X_checkRoom_16 d_X_checkRoom_19 (by decide) (Nat.le_of_ble_eq_true rfl) (by decide) (by decide) (by decide) (by decide)
set_option maxHeartbeats 4000000 in
set_option maxRecDepth 100000 in
theorem c_checkOperation (l : Launch) (D : va_G) (ad : Nat → Nat) (cB cI cL : ClassId) (f0 f1 f2 f3 f4 f5 f6 f7 : Nat → Int32) (v : Nat → Int64) (md ln : Int32) (n : Nat) (hmd : md = nI n) (k : Int32) (hk : a_isop n k = true) : jw_Ev l D vCl (vTy cB cI cL) y_X_checkOperation s_X_checkOperation rm_X_checkOperation [.ref (ad 0), .int k] (wX ad cB cI cL f0 f1 f2 f3 f4 f5 f6 f7 v md ln) := by
  refine jw_ofv (cc := b_X_checkOperation) (nL := 2) (ret := none) (by decide) rfl (Nat.le_of_ble_eq_true rfl) (fun p e s m args below meth c A F hnm => ?_)
  refine jw_at (lv' := [(0, .ref (ad 0)), (1, .int k)]) (st' := []) (ws' := wX ad cB cI cL f0 f1 f2 f3 f4 f5 f6 f7 v md ln) rfl rfl rfl ?_
  refine jw_aload_n (pc := 0) F 0 d_X_checkOperation_0 rfl rfl ?_
  refine jw_iload_n (pc := 1) F 1 d_X_checkOperation_1 rfl rfl ?_
  refine jw_callV_Ei (pc := 2) (As := [.int k]) (rest := []) F ([]) ([]) (c_isOperation l D ad cB cI cL f0 f1 f2 f3 f4 f5 f6 f7 v md ln n hmd k) (jw_cwV F.1.2.2.2.2 wl_good w_193 w_195 w_5 w_29 w_196 hd_X_isOperation ⟨by decide, by decide⟩) 0 0 rfl rfl rfl (by simp) rfl rfl (Nat.le_of_ble_eq_true rfl) d_X_checkOperation_2 ⟨rfl, rfl⟩ ⟨by decide, by decide⟩ ?_
  refine jw_if_ne (pc := 5) F 18 d_X_checkOperation_5 (by decide) (fun hz1 => ?_) (fun hz1 => False.elim (absurd hk (by rw [jb_0.mp hz1]; decide)))
  exact jw_vret F d_X_checkOperation_18 rfl
abbrev rm_X_checkOperation_x : Room := { frames := 6, cells := 1, slots := 6, locals := 90 }
set_option maxHeartbeats 4000000 in
set_option maxRecDepth 100000 in
theorem c_checkOperation_x (l : Launch) (D : va_G) (ad : Nat → Nat) (cB cI cL : ClassId) (f0 f1 f2 f3 f4 f5 f6 f7 : Nat → Int32) (v : Nat → Int64) (md ln : Int32) (n : Nat) (hmd : md = nI n) (k : Int32) (hk : a_isop n k = false) (hl : l.stackTraces = false) : jw_Tx l D vCl (vTy cB cI cL) y_X_checkOperation s_X_checkOperation rm_X_checkOperation_x [.ref (ad 0), .int k] (wX ad cB cI cL f0 f1 f2 f3 f4 f5 f6 f7 v md ln) jz_Z "java/lang/IndexOutOfBoundsException" := by
  refine jw_ofx (cc := b_X_checkOperation) (nL := 2) (ret := none) (by decide) rfl (Nat.le_of_ble_eq_true rfl) (fun p e s m args below meth c A F hT hZ => ?_)
  refine jw_at (lv' := [(0, .ref (ad 0)), (1, .int k)]) (st' := []) (ws' := wX ad cB cI cL f0 f1 f2 f3 f4 f5 f6 f7 v md ln) rfl rfl rfl ?_
  refine jw_aload_n (pc := 0) F 0 d_X_checkOperation_0 rfl rfl ?_
  refine jw_iload_n (pc := 1) F 1 d_X_checkOperation_1 rfl rfl ?_
  refine jw_callV_Ei (pc := 2) (As := [.int k]) (rest := []) F ([]) ([]) (c_isOperation l D ad cB cI cL f0 f1 f2 f3 f4 f5 f6 f7 v md ln n hmd k) (jw_cwV F.1.2.2.2.2 wl_good w_193 w_195 w_5 w_29 w_196 hd_X_isOperation ⟨by decide, by decide⟩) 0 0 rfl rfl rfl (by simp) rfl rfl (Nat.le_of_ble_eq_true rfl) d_X_checkOperation_2 ⟨rfl, rfl⟩ ⟨by decide, by decide⟩ ?_
  refine jw_if_ne (pc := 5) F 18 d_X_checkOperation_5 (by decide) (fun hz1 => False.elim (absurd hk (by rw [jb_n.mp hz1]; decide))) (fun hz1 => ?_)
  obtain ⟨sa, hsa⟩ := hZ.2.2.2.2.2.2.1
  exact jw_throw (pc := 8) (names := ["java/lang/RuntimeException", "java/lang/Exception"]) F hT hl (by decide +kernel) (by decide +kernel) (jm w_169) (jm w_35) hsa (jz_hatIOB F.1.2.2.2.2 hZ) jz_otIOB hZ.1 hZ.2.1 d_X_checkOperation_8 d_X_checkOperation_11 d_X_checkOperation_12 d_X_checkOperation_14 d_X_checkOperation_17 (by decide) (Nat.le_of_ble_eq_true rfl) (by decide) (by decide) (by decide) (by decide)
set_option maxHeartbeats 4000000 in
set_option maxRecDepth 100000 in
theorem c_checkHeldElement (l : Launch) (D : va_G) (ad : Nat → Nat) (cB cI cL : ClassId) (f0 f1 f2 f3 f4 f5 f6 f7 : Nat → Int32) (v : Nat → Int64) (md ln : Int32) (a : AS) (hB : cx_B a) (hA : cx_A a f0 f1 f2 f3 f4 f5 f6 md) (r : Nat) (hr : r < 4) (k : Int32) (hk : a_haseB a r k = true) : jw_Ev l D vCl (vTy cB cI cL) y_X_checkHeldElement s_X_checkHeldElement rm_X_checkHeldElement [.ref (ad 0), .int (nI r), .int k] (wX ad cB cI cL f0 f1 f2 f3 f4 f5 f6 f7 v md ln) := by
  refine jw_ofv (cc := b_X_checkHeldElement) (nL := 3) (ret := none) (by decide) rfl (Nat.le_of_ble_eq_true rfl) (fun p e s m args below meth c A F hnm => ?_)
  refine jw_at (lv' := [(0, .ref (ad 0)), (1, .int (nI r)), (2, .int k)]) (st' := []) (ws' := wX ad cB cI cL f0 f1 f2 f3 f4 f5 f6 f7 v md ln) rfl rfl rfl ?_
  have hn := hB.1
  obtain ⟨j, hj, rfl, hd, hh⟩ := a_haseB_t hn hk
  refine jw_aload_n (pc := 0) F 0 d_X_checkHeldElement_0 rfl rfl ?_
  refine jw_iload_n (pc := 1) F 2 d_X_checkHeldElement_1 rfl rfl ?_
  refine jw_callV_Ei (pc := 2) (As := [.int (nI j)]) (rest := []) F ([]) ([]) (c_isElement l D ad cB cI cL f0 f1 f2 f3 f4 f5 f6 f7 v md ln a hB hA (nI j)) (jw_cwV F.1.2.2.2.2 wl_good w_189 w_191 w_4 w_29 w_192 hd_X_isElement ⟨by decide, by decide⟩) 0 0 rfl rfl rfl (by simp) rfl rfl (Nat.le_of_ble_eq_true rfl) d_X_checkHeldElement_2 ⟨rfl, rfl⟩ ⟨by decide, by decide⟩ ?_
  refine jw_if_eq (pc := 5) F 17 d_X_checkHeldElement_5 (by decide) (fun hz1 => False.elim (absurd (jb_0.mp hz1) (by rw [a_isel_nI hn hj, hd]; decide))) (fun hz1 => ?_)
  refine jw_aload_n (pc := 8) F 0 d_X_checkHeldElement_8 rfl rfl ?_
  refine jw_iload_n (pc := 9) F 1 d_X_checkHeldElement_9 rfl rfl ?_
  refine jw_iload_n (pc := 10) F 2 d_X_checkHeldElement_10 rfl rfl ?_
  refine jw_callV_Ei (pc := 11) (As := [.int (nI r), .int (nI j)]) (rest := []) F ([]) ([]) (c_isHeld l D ad cB cI cL f0 f1 f2 f3 f4 f5 f6 f7 v md ln a r j hA hr (by omega)) (jw_cwV F.1.2.2.2.2 wl_good w_197 w_199 w_6 w_29 w_200 hd_X_isHeld ⟨by decide, by decide⟩) 0 0 rfl rfl rfl (by simp) rfl rfl (Nat.le_of_ble_eq_true rfl) d_X_checkHeldElement_11 ⟨rfl, rfl⟩ ⟨by decide, by decide⟩ ?_
  refine jw_if_ne (pc := 14) F 27 d_X_checkHeldElement_14 (by decide) (fun hz2 => ?_) (fun hz2 => False.elim (absurd (jb_0.mp hz2) (by rw [hh]; decide)))
  exact jw_vret F d_X_checkHeldElement_27 rfl
abbrev rm_X_checkHeldElement_x : Room := { frames := 6, cells := 1, slots := 6, locals := 90 }
set_option maxHeartbeats 4000000 in
set_option maxRecDepth 100000 in
theorem c_checkHeldElement_x (l : Launch) (D : va_G) (ad : Nat → Nat) (cB cI cL : ClassId) (f0 f1 f2 f3 f4 f5 f6 f7 : Nat → Int32) (v : Nat → Int64) (md ln : Int32) (a : AS) (hB : cx_B a) (hA : cx_A a f0 f1 f2 f3 f4 f5 f6 md) (r : Nat) (hr : r < 4) (k : Int32) (hk : a_haseB a r k = false) (hl : l.stackTraces = false) : jw_Tx l D vCl (vTy cB cI cL) y_X_checkHeldElement s_X_checkHeldElement rm_X_checkHeldElement_x [.ref (ad 0), .int (nI r), .int k] (wX ad cB cI cL f0 f1 f2 f3 f4 f5 f6 f7 v md ln) jz_Z "java/lang/IllegalStateException" := by
  refine jw_ofx (cc := b_X_checkHeldElement) (nL := 3) (ret := none) (by decide) rfl (Nat.le_of_ble_eq_true rfl) (fun p e s m args below meth c A F hT hZ => ?_)
  refine jw_at (lv' := [(0, .ref (ad 0)), (1, .int (nI r)), (2, .int k)]) (st' := []) (ws' := wX ad cB cI cL f0 f1 f2 f3 f4 f5 f6 f7 v md ln) rfl rfl rfl ?_
  have hn := hB.1
  refine jw_aload_n (pc := 0) F 0 d_X_checkHeldElement_0 rfl rfl ?_
  refine jw_iload_n (pc := 1) F 2 d_X_checkHeldElement_1 rfl rfl ?_
  refine jw_callV_Ei (pc := 2) (As := [.int k]) (rest := []) F ([]) ([]) (c_isElement l D ad cB cI cL f0 f1 f2 f3 f4 f5 f6 f7 v md ln a hB hA k) (jw_cwV F.1.2.2.2.2 wl_good w_189 w_191 w_4 w_29 w_192 hd_X_isElement ⟨by decide, by decide⟩) 0 0 rfl rfl rfl (by simp) rfl rfl (Nat.le_of_ble_eq_true rfl) d_X_checkHeldElement_2 ⟨rfl, rfl⟩ ⟨by decide, by decide⟩ ?_
  refine jw_if_eq (pc := 5) F 17 d_X_checkHeldElement_5 (by decide) (fun h1 => ?_) (fun h1 => ?_)
  · obtain ⟨sa, hsa⟩ := hZ.2.2.2.2.2.1
    exact jw_throw (pc := 17) (names := ["java/lang/RuntimeException", "java/lang/Exception"]) F hT hl (by decide +kernel) (by decide +kernel) (jm w_204) (jm w_36) hsa (jz_hatISE F.1.2.2.2.2 hZ) jz_otISE hZ.1 hZ.2.1 d_X_checkHeldElement_17 d_X_checkHeldElement_20 d_X_checkHeldElement_21 d_X_checkHeldElement_23 d_X_checkHeldElement_26 (by decide) (Nat.le_of_ble_eq_true rfl) (by decide) (by decide) (by decide) (by decide)
  · obtain ⟨j, hj, rfl⟩ := a_isop_t (by omega) (show a_isop (a_n a) k = true by have h3 := jb_n.mp h1; unfold a_isel at h3; simp only [Bool.and_eq_true] at h3; exact h3.1)
    refine jw_aload_n (pc := 8) F 0 d_X_checkHeldElement_8 rfl rfl ?_
    refine jw_iload_n (pc := 9) F 1 d_X_checkHeldElement_9 rfl rfl ?_
    refine jw_iload_n (pc := 10) F 2 d_X_checkHeldElement_10 rfl rfl ?_
    refine jw_callV_Ei (pc := 11) (As := [.int (nI r), .int (nI j)]) (rest := []) F ([]) ([]) (c_isHeld l D ad cB cI cL f0 f1 f2 f3 f4 f5 f6 f7 v md ln a r j hA hr (by omega)) (jw_cwV F.1.2.2.2.2 wl_good w_197 w_199 w_6 w_29 w_200 hd_X_isHeld ⟨by decide, by decide⟩) 0 0 rfl rfl rfl (by simp) rfl rfl (Nat.le_of_ble_eq_true rfl) d_X_checkHeldElement_11 ⟨rfl, rfl⟩ ⟨by decide, by decide⟩ ?_
    refine jw_if_ne (pc := 14) F 27 d_X_checkHeldElement_14 (by decide) (fun hz1 => False.elim (absurd hk (by have h3 := jb_n.mp h1; rw [a_isel_nI hn hj] at h3; rw [a_haseB_nI hn hj, h3, jb_n.mp hz1]; decide))) (fun hz1 => ?_)
    obtain ⟨sa, hsa⟩ := hZ.2.2.2.2.2.1
    exact jw_throw (pc := 17) (names := ["java/lang/RuntimeException", "java/lang/Exception"]) F hT hl (by decide +kernel) (by decide +kernel) (jm w_204) (jm w_36) hsa (jz_hatISE F.1.2.2.2.2 hZ) jz_otISE hZ.1 hZ.2.1 d_X_checkHeldElement_17 d_X_checkHeldElement_20 d_X_checkHeldElement_21 d_X_checkHeldElement_23 d_X_checkHeldElement_26 (by decide) (Nat.le_of_ble_eq_true rfl) (by decide) (by decide) (by decide) (by decide)
end
section
def cx_R (a : AS) (L : List Nat) (f0 f1 f2 f3 f4 f5 f6 f7 : Nat → Int32) (v : Nat → Int64) (md ln : Int32) : Prop := ab_I a ∧ cx_A a f0 f1 f2 f3 f4 f5 f6 md ∧ cx_V a v ∧ cx_L L f7 ln ∧ ab_row a L
theorem cx_R_M {a : AS} {L : List Nat} (hI : ab_I a) (hR : ab_row a L) : (∀ x ∈ L, x < 160) ∧ L.length ≤ 160 := by
  have hn := hI.1
  have h1 : ∀ x ∈ L, x < a_n a := fun x hx => ((hR.2.1 x).mp hx).1
  have h2 := gm_pig hR.1 h1
  exact ⟨fun x hx => by have := h1 x hx; omega, by omega⟩
theorem cx_V_new {a : AS} {r : Nat} {t : Int32} {d : Bool} {vv : Int64} {v : Nat → Int64} (h : cx_V a v) : cx_V (ab_new a r t d vv) (vp_updL v (a_n a) vv) := by
  intro k hk hd
  have hk2 : k < a_n a + 1 := hk
  have hd2 : ab_up (a_dl a) (a_n a) d k = false := hd
  show vp_updL v (a_n a) vv k = ab_up (a_vl a) (a_n a) vv k
  by_cases e : k = a_n a
  · subst e; rw [pk_uLs, ab_us]
  · rw [pk_uLn e, ab_un e]
    rw [ab_un e] at hd2
    exact h k (by omega) hd2
theorem cx_V_del {a : AS} {r : Nat} {t : Int32} {vv : Int64} {v : Nat → Int64} (h : cx_V a v) : cx_V (ab_new a r t true vv) v := by
  intro k hk hd
  have hk2 : k < a_n a + 1 := hk
  have hd2 : ab_up (a_dl a) (a_n a) true k = false := hd
  show v k = ab_up (a_vl a) (a_n a) vv k
  by_cases e : k = a_n a
  · subst e; rw [ab_us] at hd2; cases hd2
  · rw [ab_un e]
    rw [ab_un e] at hd2
    exact h k (by omega) hd2
theorem ab_ok_of {a : AS} {r : Nat} {t : Int32} {d : Bool} (hn : a_n a ≤ 160) (h : a_haseB a r t = true) : ab_ok a r t d := by
  obtain ⟨j, hj, e1, e2, e3⟩ := a_haseB_t hn h
  exact Or.inr ⟨j, hj, e1, e2, e3⟩
theorem ab_ok_hase {a : AS} {r : Nat} {t : Int32} {d : Bool} (hn : a_n a ≤ 160) (h : ab_ok a r t d) (ht : ¬ t = -1) : a_haseB a r t = true := by
  rcases h with h | ⟨j, hj, rfl, e2, e3⟩
  · exact absurd h.1 ht
  · rw [a_haseB_nI hn hj, e2, e3]; rfl
theorem w_93 : Cond.methodLink RX 46 y_X_checkReplica ∈ WL := jwl 93 rfl rfl
theorem w_95 : Cond.instanceMethod y_X_checkReplica ∈ WL := jwl 95 rfl rfl
theorem w_0 : Cond.selects RX y_X_checkReplica y_X_checkReplica ∈ WL := jwl 0 rfl rfl
theorem w_96 : Cond.code y_X_checkReplica b_X_checkReplica 2 none ∈ WL := jwl 96 rfl rfl
theorem w_165 : Cond.methodLink RX 50 y_X_checkRoom ∈ WL := jwl 165 rfl rfl
theorem w_167 : Cond.instanceMethod y_X_checkRoom ∈ WL := jwl 167 rfl rfl
theorem w_2 : Cond.selects RX y_X_checkRoom y_X_checkRoom ∈ WL := jwl 2 rfl rfl
theorem w_168 : Cond.code y_X_checkRoom b_X_checkRoom 1 none ∈ WL := jwl 168 rfl rfl
theorem w_220 : Cond.methodLink RX 57 y_X_make ∈ WL := jwl 220 rfl rfl
theorem w_222 : Cond.instanceMethod y_X_make ∈ WL := jwl 222 rfl rfl
theorem w_7 : Cond.selects RX y_X_make y_X_make ∈ WL := jwl 7 rfl rfl
theorem w_223 : Cond.code y_X_make b_X_make 5 (some .int) ∈ WL := jwl 223 rfl rfl
theorem w_49 : Cond.fieldLink RX 21 "WovenRow" "number" "[J" ∈ WL := jwl 49 rfl rfl
theorem w_231 : Cond.methodLink RX 61 y_X_weave ∈ WL := jwl 231 rfl rfl
theorem w_233 : Cond.instanceMethod y_X_weave ∈ WL := jwl 233 rfl rfl
theorem w_9 : Cond.selects RX y_X_weave y_X_weave ∈ WL := jwl 9 rfl rfl
theorem w_234 : Cond.code y_X_weave b_X_weave 4 none ∈ WL := jwl 234 rfl rfl
theorem w_185 : Cond.methodLink RX 53 y_X_checkHeldElement ∈ WL := jwl 185 rfl rfl
theorem w_187 : Cond.instanceMethod y_X_checkHeldElement ∈ WL := jwl 187 rfl rfl
theorem w_3 : Cond.selects RX y_X_checkHeldElement y_X_checkHeldElement ∈ WL := jwl 3 rfl rfl
theorem w_188 : Cond.code y_X_checkHeldElement b_X_checkHeldElement 3 none ∈ WL := jwl 188 rfl rfl
theorem w_257 : Cond.methodLink RX 64 y_X_checkOperation ∈ WL := jwl 257 rfl rfl
theorem w_259 : Cond.instanceMethod y_X_checkOperation ∈ WL := jwl 259 rfl rfl
theorem w_12 : Cond.selects RX y_X_checkOperation y_X_checkOperation ∈ WL := jwl 12 rfl rfl
theorem w_260 : Cond.code y_X_checkOperation b_X_checkOperation 2 none ∈ WL := jwl 260 rfl rfl
theorem w_316 : Cond.methodLink RX 88 y_X_countHeldOperations ∈ WL := jwl 316 rfl rfl
theorem w_318 : Cond.instanceMethod y_X_countHeldOperations ∈ WL := jwl 318 rfl rfl
theorem w_14 : Cond.selects RX y_X_countHeldOperations y_X_countHeldOperations ∈ WL := jwl 14 rfl rfl
theorem w_319 : Cond.code y_X_countHeldOperations b_X_countHeldOperations 4 (some .int) ∈ WL := jwl 319 rfl rfl
theorem w_320 : Cond.methodLink RX 92 y_X_countHeldElements ∈ WL := jwl 320 rfl rfl
theorem w_322 : Cond.instanceMethod y_X_countHeldElements ∈ WL := jwl 322 rfl rfl
theorem w_15 : Cond.selects RX y_X_countHeldElements y_X_countHeldElements ∈ WL := jwl 15 rfl rfl
theorem w_323 : Cond.code y_X_countHeldElements b_X_countHeldElements 4 (some .int) ∈ WL := jwl 323 rfl rfl
theorem w_324 : Cond.methodLink RX 95 y_X_countSeen ∈ WL := jwl 324 rfl rfl
theorem w_326 : Cond.instanceMethod y_X_countSeen ∈ WL := jwl 326 rfl rfl
theorem w_16 : Cond.selects RX y_X_countSeen y_X_countSeen ∈ WL := jwl 16 rfl rfl
theorem w_327 : Cond.code y_X_countSeen b_X_countSeen 4 (some .int) ∈ WL := jwl 327 rfl rfl
abbrev rm_X_insert : Room := { frames := 7, cells := 0, slots := 0, locals := 112 }
abbrev rm_X_delete : Room := { frames := 7, cells := 0, slots := 0, locals := 112 }
abbrev rm_X_give : Room := { frames := 7, cells := 0, slots := 0, locals := 112 }
abbrev rm_X_holds : Room := { frames := 7, cells := 0, slots := 0, locals := 111 }
abbrev rm_X_value : Room := { frames := 6, cells := 0, slots := 0, locals := 90 }
abbrev rm_X_stamp : Room := { frames := 7, cells := 0, slots := 0, locals := 111 }
abbrev rm_X_count : Room := { frames := 7, cells := 0, slots := 0, locals := 111 }
set_option maxHeartbeats 4000000 in
set_option maxRecDepth 100000 in
theorem c_insert (l : Launch) (D : va_G) (ad : Nat → Nat) (cB cI cL : ClassId) (f0 f1 f2 f3 f4 f5 f6 f7 : Nat → Int32) (v : Nat → Int64) (md ln : Int32) (a : AS) (L : List Nat) (hQ : cx_R a L f0 f1 f2 f3 f4 f5 f6 f7 v md ln) (r : Nat) (hr : r < 4) (hn1 : a_n a < 160) (t : Int32) (ht : ab_ok a r t false) (vv : Int64) : jw_Mi l D vCl (vTy cB cI cL) y_X_insert s_X_insert rm_X_insert [.ref (ad 0), .int (nI r), .int t, .long vv] (wX ad cB cI cL f0 f1 f2 f3 f4 f5 f6 f7 v md ln) (fun r9 w9 => r9 = nI (a_n a) ∧ ∃ (g0 g1 g2 g3 g4 g5 g6 g7 : Nat → Int32) (gv : Nat → Int64) (gm gl : Int32) (M : List Nat), w9 = wX ad cB cI cL g0 g1 g2 g3 g4 g5 g6 g7 gv gm gl ∧ cx_R (ab_new a r t false vv) M g0 g1 g2 g3 g4 g5 g6 g7 gv gm gl) := by
  refine jw_ofi (cc := b_X_insert) (nL := 6) (ret := (some .int)) (by decide) rfl (Nat.le_of_ble_eq_true rfl) (fun p e s m args below meth c A F hnm => ?_)
  refine jw_at (lv' := [(0, .ref (ad 0)), (1, .int (nI r)), (2, .int t), (3, .long vv)]) (st' := []) (ws' := wX ad cB cI cL f0 f1 f2 f3 f4 f5 f6 f7 v md ln) rfl rfl rfl ?_
  obtain ⟨hI, hA, hV, hL, hR⟩ := hQ
  have hB := cx_B_of hI
  have hn := hI.1
  obtain ⟨hM, hlen⟩ := cx_R_M hI hR
  refine jw_aload_n (pc := 0) F 0 d_X_insert_0 rfl rfl ?_
  refine jw_iload_n (pc := 1) F 1 d_X_insert_1 rfl rfl ?_
  refine jw_callV_Ev (pc := 2) (As := [.int (nI r)]) (rest := []) F ([]) ([]) (c_checkReplica l D ad cB cI cL f0 f1 f2 f3 f4 f5 f6 f7 v md ln r hr) (jw_cwV F.1.2.2.2.2 wl_good w_93 w_95 w_0 w_29 w_96 hd_X_checkReplica ⟨by decide, by decide⟩) 0 0 rfl rfl rfl (by simp) rfl rfl (Nat.le_of_ble_eq_true rfl) d_X_insert_2 ⟨rfl, rfl⟩ ⟨by decide, by decide⟩ ?_
  refine jw_aload_n (pc := 5) F 0 d_X_insert_5 rfl rfl ?_
  refine jw_callV_Ev (pc := 6) (As := []) (rest := []) F ([]) ([]) (c_checkRoom l D ad cB cI cL f0 f1 f2 f3 f4 f5 f6 f7 v md ln (a_n a) hA.1 hn1) (jw_cwV F.1.2.2.2.2 wl_good w_165 w_167 w_2 w_29 w_168 hd_X_checkRoom ⟨by decide, by decide⟩) 0 0 rfl rfl rfl (by simp) rfl rfl (Nat.le_of_ble_eq_true rfl) d_X_insert_6 ⟨rfl, rfl⟩ ⟨by decide, by decide⟩ ?_
  refine jw_iload_n (pc := 9) F 2 d_X_insert_9 rfl rfl ?_
  refine jw_iconst (pc := 10) (v := -1) F d_X_insert_10 (by decide) ?_
  refine jw_icmp_eq (pc := 11) F 20 d_X_insert_11 (by decide) (fun h1 => ?_) (fun h1 => ?_)
  · refine jw_aload_n (pc := 20) F 0 d_X_insert_20 rfl rfl ?_
    refine jw_iload_n (pc := 21) F 1 d_X_insert_21 rfl rfl ?_
    refine jw_iload_n (pc := 22) F 2 d_X_insert_22 rfl rfl ?_
    refine jw_iconst (pc := 23) (v := jb false) F d_X_insert_23 (by decide) ?_
    refine jw_callV_Ci (pc := 24) (As := [.int (nI r), .int t, .int (jb false)]) (rest := []) F (c_make l D ad cB cI cL f0 f1 f2 f3 f4 f5 f6 f7 v md ln a r t false vv hI hn1 hr ht hA) (jw_cwV F.1.2.2.2.2 wl_good w_220 w_222 w_7 w_29 w_223 hd_X_make ⟨by decide, by decide⟩) 0 0 rfl rfl rfl rfl rfl rfl (Nat.le_of_ble_eq_true rfl) d_X_insert_24 ⟨rfl, rfl⟩ ⟨by decide, by decide⟩ (fun r w hw => ?_)
    obtain ⟨rfl, g0, g1, g2, g3, g4, g5, g6, rfl, hA2⟩ := hw
    refine jw_istore (pc := 27) (lv' := [(0, .ref (ad 0)), (1, .int (nI r)), (2, .int t), (3, .long vv), (5, .int (nI (a_n a)))]) F d_X_insert_27 (by decide) rfl ?_
    refine jw_aload_n (pc := 29) F 0 d_X_insert_29 rfl rfl ?_
    refine jw_get (pc := 30) F (jms inX) 0 rfl rfl 3 (by decide) (jm w_49) rfl d_X_insert_30 ?_
    refine jw_iload (pc := 33) F 4 d_X_insert_33 rfl ?_
    refine jw_lload_n (pc := 35) F 3 d_X_insert_35 rfl rfl ?_
    refine jw_lastN (pc := 36) (ws' := wX ad cB cI cL g0 g1 g2 g3 g4 g5 g6 f7 (vp_updL v (a_n a) vv) (nI (a_n a + 1)) ln) F 3 2 rfl rfl (a_n a) rfl (by omega) (by decide) d_X_insert_36 rfl ?_
    refine jw_aload_n (pc := 37) F 0 d_X_insert_37 rfl rfl ?_
    refine jw_iload (pc := 38) F 4 d_X_insert_38 rfl ?_
    refine jw_callV_Cv (pc := 40) (As := [.int (nI (a_n a))]) (rest := []) F (c_weave l D ad cB cI cL g0 g1 g2 g3 g4 g5 g6 f7 (vp_updL v (a_n a) vv) (nI (a_n a + 1)) ln a r t vv L hI hn1 hr ht hA2 hL hR) (jw_cwV F.1.2.2.2.2 wl_good w_231 w_233 w_9 w_29 w_234 hd_X_weave ⟨by decide, by decide⟩) 0 0 rfl rfl rfl rfl rfl rfl (Nat.le_of_ble_eq_true rfl) d_X_insert_40 ⟨rfl, rfl⟩ ⟨by decide, by decide⟩ (fun w hw => ?_)
    obtain ⟨g7, M, rfl, hL2, hR2⟩ := hw
    refine jw_iload (pc := 43) F 4 d_X_insert_43 rfl ?_
    exact jw_iret F d_X_insert_45 ⟨rfl, _, _, _, _, _, _, _, _, _, _, _, M, rfl, ab_I_new hI hn1 hr ht, hA2, cx_V_new hV, hL2, hR2⟩
  · refine jw_aload_n (pc := 14) F 0 d_X_insert_14 rfl rfl ?_
    refine jw_iload_n (pc := 15) F 1 d_X_insert_15 rfl rfl ?_
    refine jw_iload_n (pc := 16) F 2 d_X_insert_16 rfl rfl ?_
    refine jw_callV_Ev (pc := 17) (As := [.int (nI r), .int t]) (rest := []) F ([]) ([]) (c_checkHeldElement l D ad cB cI cL f0 f1 f2 f3 f4 f5 f6 f7 v md ln a hB hA r hr t (ab_ok_hase hn ht h1)) (jw_cwV F.1.2.2.2.2 wl_good w_185 w_187 w_3 w_29 w_188 hd_X_checkHeldElement ⟨by decide, by decide⟩) 0 0 rfl rfl rfl (by simp) rfl rfl (Nat.le_of_ble_eq_true rfl) d_X_insert_17 ⟨rfl, rfl⟩ ⟨by decide, by decide⟩ ?_
    refine jw_aload_n (pc := 20) F 0 d_X_insert_20 rfl rfl ?_
    refine jw_iload_n (pc := 21) F 1 d_X_insert_21 rfl rfl ?_
    refine jw_iload_n (pc := 22) F 2 d_X_insert_22 rfl rfl ?_
    refine jw_iconst (pc := 23) (v := jb false) F d_X_insert_23 (by decide) ?_
    refine jw_callV_Ci (pc := 24) (As := [.int (nI r), .int t, .int (jb false)]) (rest := []) F (c_make l D ad cB cI cL f0 f1 f2 f3 f4 f5 f6 f7 v md ln a r t false vv hI hn1 hr ht hA) (jw_cwV F.1.2.2.2.2 wl_good w_220 w_222 w_7 w_29 w_223 hd_X_make ⟨by decide, by decide⟩) 0 0 rfl rfl rfl rfl rfl rfl (Nat.le_of_ble_eq_true rfl) d_X_insert_24 ⟨rfl, rfl⟩ ⟨by decide, by decide⟩ (fun r w hw => ?_)
    obtain ⟨rfl, g0, g1, g2, g3, g4, g5, g6, rfl, hA2⟩ := hw
    refine jw_istore (pc := 27) (lv' := [(0, .ref (ad 0)), (1, .int (nI r)), (2, .int t), (3, .long vv), (5, .int (nI (a_n a)))]) F d_X_insert_27 (by decide) rfl ?_
    refine jw_aload_n (pc := 29) F 0 d_X_insert_29 rfl rfl ?_
    refine jw_get (pc := 30) F (jms inX) 0 rfl rfl 3 (by decide) (jm w_49) rfl d_X_insert_30 ?_
    refine jw_iload (pc := 33) F 4 d_X_insert_33 rfl ?_
    refine jw_lload_n (pc := 35) F 3 d_X_insert_35 rfl rfl ?_
    refine jw_lastN (pc := 36) (ws' := wX ad cB cI cL g0 g1 g2 g3 g4 g5 g6 f7 (vp_updL v (a_n a) vv) (nI (a_n a + 1)) ln) F 3 2 rfl rfl (a_n a) rfl (by omega) (by decide) d_X_insert_36 rfl ?_
    refine jw_aload_n (pc := 37) F 0 d_X_insert_37 rfl rfl ?_
    refine jw_iload (pc := 38) F 4 d_X_insert_38 rfl ?_
    refine jw_callV_Cv (pc := 40) (As := [.int (nI (a_n a))]) (rest := []) F (c_weave l D ad cB cI cL g0 g1 g2 g3 g4 g5 g6 f7 (vp_updL v (a_n a) vv) (nI (a_n a + 1)) ln a r t vv L hI hn1 hr ht hA2 hL hR) (jw_cwV F.1.2.2.2.2 wl_good w_231 w_233 w_9 w_29 w_234 hd_X_weave ⟨by decide, by decide⟩) 0 0 rfl rfl rfl rfl rfl rfl (Nat.le_of_ble_eq_true rfl) d_X_insert_40 ⟨rfl, rfl⟩ ⟨by decide, by decide⟩ (fun w hw => ?_)
    obtain ⟨g7, M, rfl, hL2, hR2⟩ := hw
    refine jw_iload (pc := 43) F 4 d_X_insert_43 rfl ?_
    exact jw_iret F d_X_insert_45 ⟨rfl, _, _, _, _, _, _, _, _, _, _, _, M, rfl, ab_I_new hI hn1 hr ht, hA2, cx_V_new hV, hL2, hR2⟩
set_option maxHeartbeats 4000000 in
set_option maxRecDepth 100000 in
theorem c_delete (l : Launch) (D : va_G) (ad : Nat → Nat) (cB cI cL : ClassId) (f0 f1 f2 f3 f4 f5 f6 f7 : Nat → Int32) (v : Nat → Int64) (md ln : Int32) (a : AS) (L : List Nat) (hQ : cx_R a L f0 f1 f2 f3 f4 f5 f6 f7 v md ln) (r : Nat) (hr : r < 4) (hn1 : a_n a < 160) (t : Int32) (ht : a_haseB a r t = true) : jw_Mi l D vCl (vTy cB cI cL) y_X_delete s_X_delete rm_X_delete [.ref (ad 0), .int (nI r), .int t] (wX ad cB cI cL f0 f1 f2 f3 f4 f5 f6 f7 v md ln) (fun r9 w9 => r9 = nI (a_n a) ∧ ∃ (g0 g1 g2 g3 g4 g5 g6 g7 : Nat → Int32) (gv : Nat → Int64) (gm gl : Int32), w9 = wX ad cB cI cL g0 g1 g2 g3 g4 g5 g6 g7 gv gm gl ∧ cx_R (ab_new a r t true 0) L g0 g1 g2 g3 g4 g5 g6 g7 gv gm gl) := by
  refine jw_ofi (cc := b_X_delete) (nL := 3) (ret := (some .int)) (by decide) rfl (Nat.le_of_ble_eq_true rfl) (fun p e s m args below meth c A F hnm => ?_)
  refine jw_at (lv' := [(0, .ref (ad 0)), (1, .int (nI r)), (2, .int t)]) (st' := []) (ws' := wX ad cB cI cL f0 f1 f2 f3 f4 f5 f6 f7 v md ln) rfl rfl rfl ?_
  obtain ⟨hI, hA, hV, hL, hR⟩ := hQ
  have hB := cx_B_of hI
  have hn := hI.1
  obtain ⟨hM, hlen⟩ := cx_R_M hI hR
  refine jw_aload_n (pc := 0) F 0 d_X_delete_0 rfl rfl ?_
  refine jw_iload_n (pc := 1) F 1 d_X_delete_1 rfl rfl ?_
  refine jw_callV_Ev (pc := 2) (As := [.int (nI r)]) (rest := []) F ([]) ([]) (c_checkReplica l D ad cB cI cL f0 f1 f2 f3 f4 f5 f6 f7 v md ln r hr) (jw_cwV F.1.2.2.2.2 wl_good w_93 w_95 w_0 w_29 w_96 hd_X_checkReplica ⟨by decide, by decide⟩) 0 0 rfl rfl rfl (by simp) rfl rfl (Nat.le_of_ble_eq_true rfl) d_X_delete_2 ⟨rfl, rfl⟩ ⟨by decide, by decide⟩ ?_
  refine jw_aload_n (pc := 5) F 0 d_X_delete_5 rfl rfl ?_
  refine jw_callV_Ev (pc := 6) (As := []) (rest := []) F ([]) ([]) (c_checkRoom l D ad cB cI cL f0 f1 f2 f3 f4 f5 f6 f7 v md ln (a_n a) hA.1 hn1) (jw_cwV F.1.2.2.2.2 wl_good w_165 w_167 w_2 w_29 w_168 hd_X_checkRoom ⟨by decide, by decide⟩) 0 0 rfl rfl rfl (by simp) rfl rfl (Nat.le_of_ble_eq_true rfl) d_X_delete_6 ⟨rfl, rfl⟩ ⟨by decide, by decide⟩ ?_
  refine jw_aload_n (pc := 9) F 0 d_X_delete_9 rfl rfl ?_
  refine jw_iload_n (pc := 10) F 1 d_X_delete_10 rfl rfl ?_
  refine jw_iload_n (pc := 11) F 2 d_X_delete_11 rfl rfl ?_
  refine jw_callV_Ev (pc := 12) (As := [.int (nI r), .int t]) (rest := []) F ([]) ([]) (c_checkHeldElement l D ad cB cI cL f0 f1 f2 f3 f4 f5 f6 f7 v md ln a hB hA r hr t ht) (jw_cwV F.1.2.2.2.2 wl_good w_185 w_187 w_3 w_29 w_188 hd_X_checkHeldElement ⟨by decide, by decide⟩) 0 0 rfl rfl rfl (by simp) rfl rfl (Nat.le_of_ble_eq_true rfl) d_X_delete_12 ⟨rfl, rfl⟩ ⟨by decide, by decide⟩ ?_
  refine jw_aload_n (pc := 15) F 0 d_X_delete_15 rfl rfl ?_
  refine jw_iload_n (pc := 16) F 1 d_X_delete_16 rfl rfl ?_
  refine jw_iload_n (pc := 17) F 2 d_X_delete_17 rfl rfl ?_
  refine jw_iconst (pc := 18) (v := jb true) F d_X_delete_18 (by decide) ?_
  refine jw_callV_Ci (pc := 19) (As := [.int (nI r), .int t, .int (jb true)]) (rest := []) F (c_make l D ad cB cI cL f0 f1 f2 f3 f4 f5 f6 f7 v md ln a r t true 0 hI hn1 hr (ab_ok_of hn ht) hA) (jw_cwV F.1.2.2.2.2 wl_good w_220 w_222 w_7 w_29 w_223 hd_X_make ⟨by decide, by decide⟩) 0 0 rfl rfl rfl rfl rfl rfl (Nat.le_of_ble_eq_true rfl) d_X_delete_19 ⟨rfl, rfl⟩ ⟨by decide, by decide⟩ (fun r w hw => ?_)
  obtain ⟨rfl, g0, g1, g2, g3, g4, g5, g6, rfl, hA2⟩ := hw
  exact jw_iret F d_X_delete_22 ⟨rfl, _, _, _, _, _, _, _, _, _, _, _, rfl, ab_I_new hI hn1 hr (ab_ok_of hn ht), hA2, cx_V_del hV, hL, ab_row_del hR⟩
set_option maxHeartbeats 4000000 in
set_option maxRecDepth 100000 in
theorem c_give (l : Launch) (D : va_G) (ad : Nat → Nat) (cB cI cL : ClassId) (f0 f1 f2 f3 f4 f5 f6 f7 : Nat → Int32) (v : Nat → Int64) (md ln : Int32) (a : AS) (L : List Nat) (hQ : cx_R a L f0 f1 f2 f3 f4 f5 f6 f7 v md ln) (r : Nat) (hr : r < 4) (k : Nat) (hk : k < a_n a) (ht : a_tg a k = -1 ∨ a_haseB a r (a_tg a k) = true) : jw_Mv l D vCl (vTy cB cI cL) y_X_give s_X_give rm_X_give [.ref (ad 0), .int (nI r), .int (nI k)] (wX ad cB cI cL f0 f1 f2 f3 f4 f5 f6 f7 v md ln) (fun w9 => ∃ (g0 g1 g2 g3 g4 g5 g6 g7 : Nat → Int32) (gv : Nat → Int64) (gm gl : Int32), w9 = wX ad cB cI cL g0 g1 g2 g3 g4 g5 g6 g7 gv gm gl ∧ cx_R (ab_take a r k) L g0 g1 g2 g3 g4 g5 g6 g7 gv gm gl) := by
  refine jw_ofv (cc := b_X_give) (nL := 3) (ret := none) (by decide) rfl (Nat.le_of_ble_eq_true rfl) (fun p e s m args below meth c A F hnm => ?_)
  refine jw_at (lv' := [(0, .ref (ad 0)), (1, .int (nI r)), (2, .int (nI k))]) (st' := []) (ws' := wX ad cB cI cL f0 f1 f2 f3 f4 f5 f6 f7 v md ln) rfl rfl rfl ?_
  obtain ⟨hI, hA, hV, hL, hR⟩ := hQ
  have hB := cx_B_of hI
  have hn := hI.1
  obtain ⟨hM, hlen⟩ := cx_R_M hI hR
  refine jw_aload_n (pc := 0) F 0 d_X_give_0 rfl rfl ?_
  refine jw_iload_n (pc := 1) F 1 d_X_give_1 rfl rfl ?_
  refine jw_callV_Ev (pc := 2) (As := [.int (nI r)]) (rest := []) F ([]) ([]) (c_checkReplica l D ad cB cI cL f0 f1 f2 f3 f4 f5 f6 f7 v md ln r hr) (jw_cwV F.1.2.2.2.2 wl_good w_93 w_95 w_0 w_29 w_96 hd_X_checkReplica ⟨by decide, by decide⟩) 0 0 rfl rfl rfl (by simp) rfl rfl (Nat.le_of_ble_eq_true rfl) d_X_give_2 ⟨rfl, rfl⟩ ⟨by decide, by decide⟩ ?_
  refine jw_aload_n (pc := 5) F 0 d_X_give_5 rfl rfl ?_
  refine jw_iload_n (pc := 6) F 2 d_X_give_6 rfl rfl ?_
  refine jw_callV_Ev (pc := 7) (As := [.int (nI k)]) (rest := []) F ([]) ([]) (c_checkOperation l D ad cB cI cL f0 f1 f2 f3 f4 f5 f6 f7 v md ln (a_n a) hA.1 (nI k) (a_isop_nI (by omega) hk)) (jw_cwV F.1.2.2.2.2 wl_good w_257 w_259 w_12 w_29 w_260 hd_X_checkOperation ⟨by decide, by decide⟩) 0 0 rfl rfl rfl (by simp) rfl rfl (Nat.le_of_ble_eq_true rfl) d_X_give_7 ⟨rfl, rfl⟩ ⟨by decide, by decide⟩ ?_
  refine jw_aload_n (pc := 10) F 0 d_X_give_10 rfl rfl ?_
  refine jw_get (pc := 11) F (jms inX) 0 rfl rfl 2 (by decide) (jm w_48) rfl d_X_give_11 ?_
  refine jw_iload_n (pc := 14) F 2 d_X_give_14 rfl rfl ?_
  refine jw_ialdN (pc := 15) F 2 1 rfl rfl k rfl (by omega) (by decide) d_X_give_15 ?_
  rw [hA.2.2.1 k hk]
  refine jw_iconst (pc := 16) (v := -1) F d_X_give_16 (by decide) ?_
  refine jw_icmp_eq (pc := 17) F 31 d_X_give_17 (by decide) (fun h1 => ?_) (fun h1 => ?_)
  · have hI2 : ab_I (ab_take a r k) := ab_I_take hI hk (fun j hj q => absurd (q.symm.trans h1) (ab_nI_m1 (by omega)))
    refine jw_aload_n (pc := 31) F 0 d_X_give_31 rfl rfl ?_
    refine jw_iload_n (pc := 32) F 1 d_X_give_32 rfl rfl ?_
    refine jw_iload_n (pc := 33) F 2 d_X_give_33 rfl rfl ?_
    refine jw_callV_Cv (pc := 34) (As := [.int (nI r), .int (nI k)]) (rest := []) F (c_take l D ad cB cI cL f0 f1 f2 f3 f4 f5 f6 f7 v md ln a hB hA r k hr hk) (jw_cwV F.1.2.2.2.2 wl_good w_224 w_226 w_8 w_29 w_227 hd_X_take ⟨by decide, by decide⟩) 0 0 rfl rfl rfl rfl rfl rfl (Nat.le_of_ble_eq_true rfl) d_X_give_34 ⟨rfl, rfl⟩ ⟨by decide, by decide⟩ (fun w hw => ?_)
    obtain ⟨g4, g5, g6, rfl, hA2⟩ := hw
    exact jw_vret F d_X_give_37 ⟨_, _, _, _, _, _, _, _, _, _, _, rfl, hI2, hA2, hV, hL, hR⟩
  · have ht2 : a_haseB a r (a_tg a k) = true := ht.resolve_left h1
    have hI2 : ab_I (ab_take a r k) := ab_I_take hI hk (fun j hj q => by rw [q] at ht2; rw [a_haseB_nI hn (by omega)] at ht2; simp only [Bool.and_eq_true] at ht2; exact ht2.2)
    refine jw_aload_n (pc := 20) F 0 d_X_give_20 rfl rfl ?_
    refine jw_iload_n (pc := 21) F 1 d_X_give_21 rfl rfl ?_
    refine jw_aload_n (pc := 22) F 0 d_X_give_22 rfl rfl ?_
    refine jw_get (pc := 23) F (jms inX) 0 rfl rfl 2 (by decide) (jm w_48) rfl d_X_give_23 ?_
    refine jw_iload_n (pc := 26) F 2 d_X_give_26 rfl rfl ?_
    refine jw_ialdN (pc := 27) F 2 1 rfl rfl k rfl (by omega) (by decide) d_X_give_27 ?_
    rw [hA.2.2.1 k hk]
    refine jw_callV_Ev (pc := 28) (As := [.int (nI r), .int (a_tg a k)]) (rest := []) F ([]) ([]) (c_checkHeldElement l D ad cB cI cL f0 f1 f2 f3 f4 f5 f6 f7 v md ln a hB hA r hr (a_tg a k) ht2) (jw_cwV F.1.2.2.2.2 wl_good w_185 w_187 w_3 w_29 w_188 hd_X_checkHeldElement ⟨by decide, by decide⟩) 0 0 rfl rfl rfl (by simp) rfl rfl (Nat.le_of_ble_eq_true rfl) d_X_give_28 ⟨rfl, rfl⟩ ⟨by decide, by decide⟩ ?_
    refine jw_aload_n (pc := 31) F 0 d_X_give_31 rfl rfl ?_
    refine jw_iload_n (pc := 32) F 1 d_X_give_32 rfl rfl ?_
    refine jw_iload_n (pc := 33) F 2 d_X_give_33 rfl rfl ?_
    refine jw_callV_Cv (pc := 34) (As := [.int (nI r), .int (nI k)]) (rest := []) F (c_take l D ad cB cI cL f0 f1 f2 f3 f4 f5 f6 f7 v md ln a hB hA r k hr hk) (jw_cwV F.1.2.2.2.2 wl_good w_224 w_226 w_8 w_29 w_227 hd_X_take ⟨by decide, by decide⟩) 0 0 rfl rfl rfl rfl rfl rfl (Nat.le_of_ble_eq_true rfl) d_X_give_34 ⟨rfl, rfl⟩ ⟨by decide, by decide⟩ (fun w hw => ?_)
    obtain ⟨g4, g5, g6, rfl, hA2⟩ := hw
    exact jw_vret F d_X_give_37 ⟨_, _, _, _, _, _, _, _, _, _, _, rfl, hI2, hA2, hV, hL, hR⟩
set_option maxHeartbeats 4000000 in
set_option maxRecDepth 100000 in
theorem c_holds (l : Launch) (D : va_G) (ad : Nat → Nat) (cB cI cL : ClassId) (f0 f1 f2 f3 f4 f5 f6 f7 : Nat → Int32) (v : Nat → Int64) (md ln : Int32) (a : AS) (L : List Nat) (hQ : cx_R a L f0 f1 f2 f3 f4 f5 f6 f7 v md ln) (r : Nat) (hr : r < 4) (k : Nat) (hk : k < a_n a) : jw_Ei l D vCl (vTy cB cI cL) y_X_holds s_X_holds rm_X_holds [.ref (ad 0), .int (nI r), .int (nI k)] (wX ad cB cI cL f0 f1 f2 f3 f4 f5 f6 f7 v md ln) ((jb (a_hd a r k))) := by
  refine jw_ofi (cc := b_X_holds) (nL := 3) (ret := (some .boolean)) (by decide) rfl (Nat.le_of_ble_eq_true rfl) (fun p e s m args below meth c A F hnm => ?_)
  refine jw_at (lv' := [(0, .ref (ad 0)), (1, .int (nI r)), (2, .int (nI k))]) (st' := []) (ws' := wX ad cB cI cL f0 f1 f2 f3 f4 f5 f6 f7 v md ln) rfl rfl rfl ?_
  obtain ⟨hI, hA, hV, hL, hR⟩ := hQ
  have hB := cx_B_of hI
  have hn := hI.1
  obtain ⟨hM, hlen⟩ := cx_R_M hI hR
  refine jw_aload_n (pc := 0) F 0 d_X_holds_0 rfl rfl ?_
  refine jw_iload_n (pc := 1) F 1 d_X_holds_1 rfl rfl ?_
  refine jw_callV_Ev (pc := 2) (As := [.int (nI r)]) (rest := []) F ([]) ([]) (c_checkReplica l D ad cB cI cL f0 f1 f2 f3 f4 f5 f6 f7 v md ln r hr) (jw_cwV F.1.2.2.2.2 wl_good w_93 w_95 w_0 w_29 w_96 hd_X_checkReplica ⟨by decide, by decide⟩) 0 0 rfl rfl rfl (by simp) rfl rfl (Nat.le_of_ble_eq_true rfl) d_X_holds_2 ⟨rfl, rfl⟩ ⟨by decide, by decide⟩ ?_
  refine jw_aload_n (pc := 5) F 0 d_X_holds_5 rfl rfl ?_
  refine jw_iload_n (pc := 6) F 2 d_X_holds_6 rfl rfl ?_
  refine jw_callV_Ev (pc := 7) (As := [.int (nI k)]) (rest := []) F ([]) ([]) (c_checkOperation l D ad cB cI cL f0 f1 f2 f3 f4 f5 f6 f7 v md ln (a_n a) hA.1 (nI k) (a_isop_nI (by omega) hk)) (jw_cwV F.1.2.2.2.2 wl_good w_257 w_259 w_12 w_29 w_260 hd_X_checkOperation ⟨by decide, by decide⟩) 0 0 rfl rfl rfl (by simp) rfl rfl (Nat.le_of_ble_eq_true rfl) d_X_holds_7 ⟨rfl, rfl⟩ ⟨by decide, by decide⟩ ?_
  refine jw_aload_n (pc := 10) F 0 d_X_holds_10 rfl rfl ?_
  refine jw_iload_n (pc := 11) F 1 d_X_holds_11 rfl rfl ?_
  refine jw_iload_n (pc := 12) F 2 d_X_holds_12 rfl rfl ?_
  refine jw_callV_Ei (pc := 13) (As := [.int (nI r), .int (nI k)]) (rest := []) F ([]) ([]) (c_isHeld l D ad cB cI cL f0 f1 f2 f3 f4 f5 f6 f7 v md ln a r k hA hr (by omega)) (jw_cwV F.1.2.2.2.2 wl_good w_197 w_199 w_6 w_29 w_200 hd_X_isHeld ⟨by decide, by decide⟩) 0 0 rfl rfl rfl (by simp) rfl rfl (Nat.le_of_ble_eq_true rfl) d_X_holds_13 ⟨rfl, rfl⟩ ⟨by decide, by decide⟩ ?_
  exact jw_zret F d_X_holds_16 (jb_narrow _) ⟨rfl, rfl⟩
set_option maxHeartbeats 4000000 in
set_option maxRecDepth 100000 in
theorem c_value (l : Launch) (D : va_G) (ad : Nat → Nat) (cB cI cL : ClassId) (f0 f1 f2 f3 f4 f5 f6 f7 : Nat → Int32) (v : Nat → Int64) (md ln : Int32) (a : AS) (L : List Nat) (hQ : cx_R a L f0 f1 f2 f3 f4 f5 f6 f7 v md ln) (k : Nat) (hk : k < a_n a) (hd : a_dl a k = false) : jw_El l D vCl (vTy cB cI cL) y_X_value s_X_value rm_X_value [.ref (ad 0), .int (nI k)] (wX ad cB cI cL f0 f1 f2 f3 f4 f5 f6 f7 v md ln) ((a_vl a k)) := by
  refine jw_ofl (cc := b_X_value) (nL := 2) (ret := (some .long)) (by decide) rfl (Nat.le_of_ble_eq_true rfl) (fun p e s m args below meth c A F hnm => ?_)
  refine jw_at (lv' := [(0, .ref (ad 0)), (1, .int (nI k))]) (st' := []) (ws' := wX ad cB cI cL f0 f1 f2 f3 f4 f5 f6 f7 v md ln) rfl rfl rfl ?_
  obtain ⟨hI, hA, hV, hL, hR⟩ := hQ
  have hB := cx_B_of hI
  have hn := hI.1
  obtain ⟨hM, hlen⟩ := cx_R_M hI hR
  refine jw_aload_n (pc := 0) F 0 d_X_value_0 rfl rfl ?_
  refine jw_iload_n (pc := 1) F 1 d_X_value_1 rfl rfl ?_
  refine jw_callV_Ei (pc := 2) (As := [.int (nI k)]) (rest := []) F ([]) ([]) (c_isElement l D ad cB cI cL f0 f1 f2 f3 f4 f5 f6 f7 v md ln a hB hA (nI k)) (jw_cwV F.1.2.2.2.2 wl_good w_189 w_191 w_4 w_29 w_192 hd_X_isElement ⟨by decide, by decide⟩) 0 0 rfl rfl rfl (by simp) rfl rfl (Nat.le_of_ble_eq_true rfl) d_X_value_2 ⟨rfl, rfl⟩ ⟨by decide, by decide⟩ ?_
  refine jw_if_ne (pc := 5) F 18 d_X_value_5 (by decide) (fun hz1 => ?_) (fun hz1 => False.elim (absurd (jb_0.mp hz1) (by rw [a_isel_nI hn hk, hd]; decide)))
  refine jw_aload_n (pc := 18) F 0 d_X_value_18 rfl rfl ?_
  refine jw_get (pc := 19) F (jms inX) 0 rfl rfl 3 (by decide) (jm w_49) rfl d_X_value_19 ?_
  refine jw_iload_n (pc := 22) F 1 d_X_value_22 rfl rfl ?_
  refine jw_laldN (pc := 23) F 3 2 rfl rfl k rfl (by omega) (by decide) d_X_value_23 ?_
  exact jw_lret F d_X_value_24 ⟨hV k hk hd, rfl⟩
set_option maxHeartbeats 4000000 in
set_option maxRecDepth 100000 in
theorem c_stamp (l : Launch) (D : va_G) (ad : Nat → Nat) (cB cI cL : ClassId) (f0 f1 f2 f3 f4 f5 f6 f7 : Nat → Int32) (v : Nat → Int64) (md ln : Int32) (a : AS) (L : List Nat) (hQ : cx_R a L f0 f1 f2 f3 f4 f5 f6 f7 v md ln) (k : Nat) (hk : k < a_n a) : jw_Ei l D vCl (vTy cB cI cL) y_X_stamp s_X_stamp rm_X_stamp [.ref (ad 0), .int (nI k)] (wX ad cB cI cL f0 f1 f2 f3 f4 f5 f6 f7 v md ln) ((nI (a_ct a k))) := by
  refine jw_ofi (cc := b_X_stamp) (nL := 2) (ret := (some .int)) (by decide) rfl (Nat.le_of_ble_eq_true rfl) (fun p e s m args below meth c A F hnm => ?_)
  refine jw_at (lv' := [(0, .ref (ad 0)), (1, .int (nI k))]) (st' := []) (ws' := wX ad cB cI cL f0 f1 f2 f3 f4 f5 f6 f7 v md ln) rfl rfl rfl ?_
  obtain ⟨hI, hA, hV, hL, hR⟩ := hQ
  have hB := cx_B_of hI
  have hn := hI.1
  obtain ⟨hM, hlen⟩ := cx_R_M hI hR
  refine jw_aload_n (pc := 0) F 0 d_X_stamp_0 rfl rfl ?_
  refine jw_iload_n (pc := 1) F 1 d_X_stamp_1 rfl rfl ?_
  refine jw_callV_Ev (pc := 2) (As := [.int (nI k)]) (rest := []) F ([]) ([]) (c_checkOperation l D ad cB cI cL f0 f1 f2 f3 f4 f5 f6 f7 v md ln (a_n a) hA.1 (nI k) (a_isop_nI (by omega) hk)) (jw_cwV F.1.2.2.2.2 wl_good w_257 w_259 w_12 w_29 w_260 hd_X_checkOperation ⟨by decide, by decide⟩) 0 0 rfl rfl rfl (by simp) rfl rfl (Nat.le_of_ble_eq_true rfl) d_X_stamp_2 ⟨rfl, rfl⟩ ⟨by decide, by decide⟩ ?_
  refine jw_aload_n (pc := 5) F 0 d_X_stamp_5 rfl rfl ?_
  refine jw_get (pc := 6) F (jms inX) 0 rfl rfl 4 (by decide) (jm w_50) rfl d_X_stamp_6 ?_
  refine jw_iload_n (pc := 9) F 1 d_X_stamp_9 rfl rfl ?_
  refine jw_ialdN (pc := 10) F 4 1 rfl rfl k rfl (by omega) (by decide) d_X_stamp_10 ?_
  exact jw_iret F d_X_stamp_11 ⟨hA.2.2.2.1 k hk, rfl⟩
set_option maxHeartbeats 4000000 in
set_option maxRecDepth 100000 in
theorem c_count_0 (l : Launch) (D : va_G) (ad : Nat → Nat) (cB cI cL : ClassId) (f0 f1 f2 f3 f4 f5 f6 f7 : Nat → Int32) (v : Nat → Int64) (md ln : Int32) (a : AS) (L : List Nat) (hQ : cx_R a L f0 f1 f2 f3 f4 f5 f6 f7 v md ln) (r : Nat) (hr : r < 4) : jw_Ei l D vCl (vTy cB cI cL) y_X_count s_X_count rm_X_count [.ref (ad 0), .int (nI r), .int (nI 0)] (wX ad cB cI cL f0 f1 f2 f3 f4 f5 f6 f7 v md ln) ((nI ((List.range (a_n a)).countP (a_hd a r)))) := by
  refine jw_ofi (cc := b_X_count) (nL := 3) (ret := (some .int)) (by decide) rfl (Nat.le_of_ble_eq_true rfl) (fun p e s m args below meth c A F hnm => ?_)
  refine jw_at (lv' := [(0, .ref (ad 0)), (1, .int (nI r)), (2, .int (nI 0))]) (st' := []) (ws' := wX ad cB cI cL f0 f1 f2 f3 f4 f5 f6 f7 v md ln) rfl rfl rfl ?_
  obtain ⟨hI, hA, hV, hL, hR⟩ := hQ
  have hB := cx_B_of hI
  have hn := hI.1
  obtain ⟨hM, hlen⟩ := cx_R_M hI hR
  refine jw_aload_n (pc := 0) F 0 d_X_count_0 rfl rfl ?_
  refine jw_iload_n (pc := 1) F 1 d_X_count_1 rfl rfl ?_
  refine jw_callV_Ev (pc := 2) (As := [.int (nI r)]) (rest := []) F ([]) ([]) (c_checkReplica l D ad cB cI cL f0 f1 f2 f3 f4 f5 f6 f7 v md ln r hr) (jw_cwV F.1.2.2.2.2 wl_good w_93 w_95 w_0 w_29 w_96 hd_X_checkReplica ⟨by decide, by decide⟩) 0 0 rfl rfl rfl (by simp) rfl rfl (Nat.le_of_ble_eq_true rfl) d_X_count_2 ⟨rfl, rfl⟩ ⟨by decide, by decide⟩ ?_
  refine jw_iload_n (pc := 5) F 2 d_X_count_5 rfl rfl ?_
  refine jw_tableIn (pc := 6) F 36 d_X_count_6 (by decide) (by decide) (off := 30) (by decide) (by decide) ?_
  refine jw_aload_n (pc := 36) F 0 d_X_count_36 rfl rfl ?_
  refine jw_iload_n (pc := 37) F 1 d_X_count_37 rfl rfl ?_
  refine jw_callV_Ei (pc := 38) (As := [.int (nI r)]) (rest := []) F ([]) ([]) (c_countHeldOperations l D ad cB cI cL f0 f1 f2 f3 f4 f5 f6 f7 v md ln a hB hA r hr) (jw_cwV F.1.2.2.2.2 wl_good w_316 w_318 w_14 w_29 w_319 hd_X_countHeldOperations ⟨by decide, by decide⟩) 0 0 rfl rfl rfl (by simp) rfl rfl (Nat.le_of_ble_eq_true rfl) d_X_count_38 ⟨rfl, rfl⟩ ⟨by decide, by decide⟩ ?_
  exact jw_iret F d_X_count_41 ⟨rfl, rfl⟩
set_option maxHeartbeats 4000000 in
set_option maxRecDepth 100000 in
theorem c_count_1 (l : Launch) (D : va_G) (ad : Nat → Nat) (cB cI cL : ClassId) (f0 f1 f2 f3 f4 f5 f6 f7 : Nat → Int32) (v : Nat → Int64) (md ln : Int32) (a : AS) (L : List Nat) (hQ : cx_R a L f0 f1 f2 f3 f4 f5 f6 f7 v md ln) (r : Nat) (hr : r < 4) : jw_Ei l D vCl (vTy cB cI cL) y_X_count s_X_count rm_X_count [.ref (ad 0), .int (nI r), .int (nI 1)] (wX ad cB cI cL f0 f1 f2 f3 f4 f5 f6 f7 v md ln) ((nI (L.countP (a_hd a r)))) := by
  refine jw_ofi (cc := b_X_count) (nL := 3) (ret := (some .int)) (by decide) rfl (Nat.le_of_ble_eq_true rfl) (fun p e s m args below meth c A F hnm => ?_)
  refine jw_at (lv' := [(0, .ref (ad 0)), (1, .int (nI r)), (2, .int (nI 1))]) (st' := []) (ws' := wX ad cB cI cL f0 f1 f2 f3 f4 f5 f6 f7 v md ln) rfl rfl rfl ?_
  obtain ⟨hI, hA, hV, hL, hR⟩ := hQ
  have hB := cx_B_of hI
  have hn := hI.1
  obtain ⟨hM, hlen⟩ := cx_R_M hI hR
  refine jw_aload_n (pc := 0) F 0 d_X_count_0 rfl rfl ?_
  refine jw_iload_n (pc := 1) F 1 d_X_count_1 rfl rfl ?_
  refine jw_callV_Ev (pc := 2) (As := [.int (nI r)]) (rest := []) F ([]) ([]) (c_checkReplica l D ad cB cI cL f0 f1 f2 f3 f4 f5 f6 f7 v md ln r hr) (jw_cwV F.1.2.2.2.2 wl_good w_93 w_95 w_0 w_29 w_96 hd_X_checkReplica ⟨by decide, by decide⟩) 0 0 rfl rfl rfl (by simp) rfl rfl (Nat.le_of_ble_eq_true rfl) d_X_count_2 ⟨rfl, rfl⟩ ⟨by decide, by decide⟩ ?_
  refine jw_iload_n (pc := 5) F 2 d_X_count_5 rfl rfl ?_
  refine jw_tableIn (pc := 6) F 42 d_X_count_6 (by decide) (by decide) (off := 36) (by decide) (by decide) ?_
  refine jw_aload_n (pc := 42) F 0 d_X_count_42 rfl rfl ?_
  refine jw_iload_n (pc := 43) F 1 d_X_count_43 rfl rfl ?_
  refine jw_callV_Ei (pc := 44) (As := [.int (nI r)]) (rest := []) F ([]) ([]) (c_countHeldElements l D ad cB cI cL f0 f1 f2 f3 f4 f5 f6 f7 v md ln a hB hA L hL hM hlen r hr) (jw_cwV F.1.2.2.2.2 wl_good w_320 w_322 w_15 w_29 w_323 hd_X_countHeldElements ⟨by decide, by decide⟩) 0 0 rfl rfl rfl (by simp) rfl rfl (Nat.le_of_ble_eq_true rfl) d_X_count_44 ⟨rfl, rfl⟩ ⟨by decide, by decide⟩ ?_
  exact jw_iret F d_X_count_47 ⟨rfl, rfl⟩
set_option maxHeartbeats 4000000 in
set_option maxRecDepth 100000 in
theorem c_count_2 (l : Launch) (D : va_G) (ad : Nat → Nat) (cB cI cL : ClassId) (f0 f1 f2 f3 f4 f5 f6 f7 : Nat → Int32) (v : Nat → Int64) (md ln : Int32) (a : AS) (L : List Nat) (hQ : cx_R a L f0 f1 f2 f3 f4 f5 f6 f7 v md ln) (r : Nat) (hr : r < 4) : jw_Ei l D vCl (vTy cB cI cL) y_X_count s_X_count rm_X_count [.ref (ad 0), .int (nI r), .int (nI 2)] (wX ad cB cI cL f0 f1 f2 f3 f4 f5 f6 f7 v md ln) ((nI (L.countP (a_seen a r)))) := by
  refine jw_ofi (cc := b_X_count) (nL := 3) (ret := (some .int)) (by decide) rfl (Nat.le_of_ble_eq_true rfl) (fun p e s m args below meth c A F hnm => ?_)
  refine jw_at (lv' := [(0, .ref (ad 0)), (1, .int (nI r)), (2, .int (nI 2))]) (st' := []) (ws' := wX ad cB cI cL f0 f1 f2 f3 f4 f5 f6 f7 v md ln) rfl rfl rfl ?_
  obtain ⟨hI, hA, hV, hL, hR⟩ := hQ
  have hB := cx_B_of hI
  have hn := hI.1
  obtain ⟨hM, hlen⟩ := cx_R_M hI hR
  refine jw_aload_n (pc := 0) F 0 d_X_count_0 rfl rfl ?_
  refine jw_iload_n (pc := 1) F 1 d_X_count_1 rfl rfl ?_
  refine jw_callV_Ev (pc := 2) (As := [.int (nI r)]) (rest := []) F ([]) ([]) (c_checkReplica l D ad cB cI cL f0 f1 f2 f3 f4 f5 f6 f7 v md ln r hr) (jw_cwV F.1.2.2.2.2 wl_good w_93 w_95 w_0 w_29 w_96 hd_X_checkReplica ⟨by decide, by decide⟩) 0 0 rfl rfl rfl (by simp) rfl rfl (Nat.le_of_ble_eq_true rfl) d_X_count_2 ⟨rfl, rfl⟩ ⟨by decide, by decide⟩ ?_
  refine jw_iload_n (pc := 5) F 2 d_X_count_5 rfl rfl ?_
  refine jw_tableIn (pc := 6) F 48 d_X_count_6 (by decide) (by decide) (off := 42) (by decide) (by decide) ?_
  refine jw_aload_n (pc := 48) F 0 d_X_count_48 rfl rfl ?_
  refine jw_iload_n (pc := 49) F 1 d_X_count_49 rfl rfl ?_
  refine jw_callV_Ei (pc := 50) (As := [.int (nI r)]) (rest := []) F ([]) ([]) (c_countSeen l D ad cB cI cL f0 f1 f2 f3 f4 f5 f6 f7 v md ln a hB hA L hL hM hlen r hr) (jw_cwV F.1.2.2.2.2 wl_good w_324 w_326 w_16 w_29 w_327 hd_X_countSeen ⟨by decide, by decide⟩) 0 0 rfl rfl rfl (by simp) rfl rfl (Nat.le_of_ble_eq_true rfl) d_X_count_50 ⟨rfl, rfl⟩ ⟨by decide, by decide⟩ ?_
  exact jw_iret F d_X_count_53 ⟨rfl, rfl⟩
set_option maxHeartbeats 4000000 in
set_option maxRecDepth 100000 in
theorem c_count_3 (l : Launch) (D : va_G) (ad : Nat → Nat) (cB cI cL : ClassId) (f0 f1 f2 f3 f4 f5 f6 f7 : Nat → Int32) (v : Nat → Int64) (md ln : Int32) (a : AS) (L : List Nat) (hQ : cx_R a L f0 f1 f2 f3 f4 f5 f6 f7 v md ln) (r : Nat) (hr : r < 4) : jw_Ei l D vCl (vTy cB cI cL) y_X_count s_X_count rm_X_count [.ref (ad 0), .int (nI r), .int (nI 3)] (wX ad cB cI cL f0 f1 f2 f3 f4 f5 f6 f7 v md ln) ((nI (a_gr a r))) := by
  refine jw_ofi (cc := b_X_count) (nL := 3) (ret := (some .int)) (by decide) rfl (Nat.le_of_ble_eq_true rfl) (fun p e s m args below meth c A F hnm => ?_)
  refine jw_at (lv' := [(0, .ref (ad 0)), (1, .int (nI r)), (2, .int (nI 3))]) (st' := []) (ws' := wX ad cB cI cL f0 f1 f2 f3 f4 f5 f6 f7 v md ln) rfl rfl rfl ?_
  obtain ⟨hI, hA, hV, hL, hR⟩ := hQ
  have hB := cx_B_of hI
  have hn := hI.1
  obtain ⟨hM, hlen⟩ := cx_R_M hI hR
  refine jw_aload_n (pc := 0) F 0 d_X_count_0 rfl rfl ?_
  refine jw_iload_n (pc := 1) F 1 d_X_count_1 rfl rfl ?_
  refine jw_callV_Ev (pc := 2) (As := [.int (nI r)]) (rest := []) F ([]) ([]) (c_checkReplica l D ad cB cI cL f0 f1 f2 f3 f4 f5 f6 f7 v md ln r hr) (jw_cwV F.1.2.2.2.2 wl_good w_93 w_95 w_0 w_29 w_96 hd_X_checkReplica ⟨by decide, by decide⟩) 0 0 rfl rfl rfl (by simp) rfl rfl (Nat.le_of_ble_eq_true rfl) d_X_count_2 ⟨rfl, rfl⟩ ⟨by decide, by decide⟩ ?_
  refine jw_iload_n (pc := 5) F 2 d_X_count_5 rfl rfl ?_
  refine jw_tableIn (pc := 6) F 54 d_X_count_6 (by decide) (by decide) (off := 48) (by decide) (by decide) ?_
  refine jw_aload_n (pc := 54) F 0 d_X_count_54 rfl rfl ?_
  refine jw_get (pc := 55) F (jms inX) 0 rfl rfl 8 (by decide) (jm w_54) rfl d_X_count_55 ?_
  refine jw_iload_n (pc := 58) F 1 d_X_count_58 rfl rfl ?_
  refine jw_ialdN (pc := 59) F 8 1 rfl rfl r rfl (by omega) (by decide) d_X_count_59 ?_
  exact jw_iret F d_X_count_60 ⟨hA.2.2.2.2.2.2.2 r hr, rfl⟩
end
section
theorem gl_at_stop {M : List Nat} {k : Int32} {c e : Nat} (hc : c < 2147483648) (h : M[c]? = some e) (hk : nI c = k) : nI e = gl_at M k := by rw [← hk]; exact (gl_at_nI hc h).symm
def ab_tell (a : AS) (r s : Nat) : Nat → AS × Nat
  | 0 => (a, 0)
  | k + 1 => if (a_hd (ab_tell a r s k).1 s k && !a_hd (ab_tell a r s k).1 r k) = true then (ab_take (ab_tell a r s k).1 r k, (ab_tell a r s k).2 + 1) else ab_tell a r s k
theorem ab_tell_n {a : AS} {r s : Nat} : ∀ {i : Nat}, a_n (ab_tell a r s i).1 = a_n a ∧ a_dl (ab_tell a r s i).1 = a_dl a ∧ a_tg (ab_tell a r s i).1 = a_tg a ∧ a_ct (ab_tell a r s i).1 = a_ct a ∧ a_mk (ab_tell a r s i).1 = a_mk a ∧ a_vl (ab_tell a r s i).1 = a_vl a ∧ (ab_tell a r s i).2 ≤ i
  | 0 => ⟨rfl, rfl, rfl, rfl, rfl, rfl, Nat.le_refl _⟩
  | i + 1 => by
    have ih := ab_tell_n (a := a) (r := r) (s := s) (i := i)
    unfold ab_tell
    split
    · exact ⟨ih.1, ih.2.1, ih.2.2.1, ih.2.2.2.1, ih.2.2.2.2.1, ih.2.2.2.2.2.1, Nat.succ_le_succ ih.2.2.2.2.2.2⟩
    · exact ⟨ih.1, ih.2.1, ih.2.2.1, ih.2.2.2.1, ih.2.2.2.2.1, ih.2.2.2.2.2.1, Nat.le_succ_of_le ih.2.2.2.2.2.2⟩
theorem ab_tell_hd {a : AS} {r s : Nat} : ∀ {i : Nat}, ∀ k, k < i → a_hd (ab_tell a r s i).1 s k = true → a_hd (ab_tell a r s i).1 r k = true
  | 0, k, hk, _ => absurd hk (Nat.not_lt_zero k)
  | i + 1, k, hk, h => by
    have ih := ab_tell_hd (a := a) (r := r) (s := s) (i := i)
    unfold ab_tell at h ⊢
    split at h
    · rename_i hc
      rw [if_pos hc]
      have h2 : ab_up (a_hd (ab_tell a r s i).1) r (ab_up (a_hd (ab_tell a r s i).1 r) i true) s k = true := h
      show ab_up (a_hd (ab_tell a r s i).1) r (ab_up (a_hd (ab_tell a r s i).1 r) i true) r k = true
      rw [ab_up_hd] at h2 ⊢
      by_cases e : k = i
      · exact Or.inl ⟨rfl, e⟩
      · rcases h2 with ⟨e1, e2⟩ | h2
        · exact absurd e2 e
        · exact Or.inr (ih k (by omega) h2)
    · rename_i hc
      rw [if_neg hc]
      by_cases e : k = i
      · subst e
        cases hr : a_hd (ab_tell a r s k).1 r k
        · exact absurd (by rw [h, hr]; rfl) hc
        · rfl
      · exact ih k (by omega) h
theorem ab_tell_I {a : AS} {r s : Nat} (hI : ab_I a) : ∀ {i : Nat}, i ≤ a_n a → ab_I (ab_tell a r s i).1
  | 0, _ => hI
  | i + 1, hi => by
    have ih := ab_tell_I (r := r) (s := s) hI (i := i) (by omega)
    have hn := ab_tell_n (a := a) (r := r) (s := s) (i := i)
    unfold ab_tell
    split
    · rename_i hc
      simp only [Bool.and_eq_true] at hc
      refine ab_I_take ih (by rw [hn.1]; omega) (fun j hj q => ?_)
      have hlt : i < a_n (ab_tell a r s i).1 := by rw [hn.1]; omega
      have hn2 := ih.1
      rcases ih.2.2.1 i hlt with g | ⟨j2, hj2, g1, g2, g3, g4⟩
      · exact absurd (q.symm.trans g.1) (ab_nI_m1 (by omega))
      · have e1 : j = j2 := ab_nI_inj (by omega) (by omega) (q.symm.trans g1)
        subst e1
        exact ab_tell_hd j hj (g4 s hc.1)
    · exact ih
theorem ab_tell_row {a : AS} {r s : Nat} {L : List Nat} (h : ab_row a L) : ∀ {i : Nat}, ab_row (ab_tell a r s i).1 L
  | 0 => h
  | i + 1 => by
    have ih := ab_tell_row (r := r) (s := s) h (i := i)
    unfold ab_tell
    split
    · exact ih
    · exact ih
theorem ab_tell_V {a : AS} {r s i : Nat} {v : Nat → Int64} (h : cx_V a v) : cx_V (ab_tell a r s i).1 v := by
  have hn := ab_tell_n (a := a) (r := r) (s := s) (i := i)
  intro k hk hd
  rw [hn.1] at hk
  rw [hn.2.1] at hd
  rw [hn.2.2.2.2.2.1]
  exact h k hk hd
abbrev rm_X_tell : Room := { frames := 7, cells := 0, slots := 0, locals := 111 }
abbrev rm_X_at : Room := { frames := 7, cells := 0, slots := 0, locals := 111 }
abbrev rm_X_place : Room := { frames := 7, cells := 0, slots := 0, locals := 112 }
abbrev rm_X_same : Room := { frames := 7, cells := 0, slots := 0, locals := 111 }
set_option maxHeartbeats 4000000 in
set_option maxRecDepth 100000 in
theorem c_at (l : Launch) (D : va_G) (ad : Nat → Nat) (cB cI cL : ClassId) (f0 f1 f2 f3 f4 f5 f6 f7 : Nat → Int32) (v : Nat → Int64) (md ln : Int32) (a : AS) (L : List Nat) (hQ : cx_R a L f0 f1 f2 f3 f4 f5 f6 f7 v md ln) (r : Nat) (hr : r < 4) (k : Int32) : jw_Ei l D vCl (vTy cB cI cL) y_X_at s_X_at rm_X_at [.ref (ad 0), .int (nI r), .int k] (wX ad cB cI cL f0 f1 f2 f3 f4 f5 f6 f7 v md ln) ((gl_at (L.filter (a_seen a r)) k)) := by
  refine jw_ofi (cc := b_X_at) (nL := 5) (ret := (some .int)) (by decide) rfl (Nat.le_of_ble_eq_true rfl) (fun p e s m args below meth c A F hnm => ?_)
  refine jw_at (lv' := [(0, .ref (ad 0)), (1, .int (nI r)), (2, .int k)]) (st' := []) (ws' := wX ad cB cI cL f0 f1 f2 f3 f4 f5 f6 f7 v md ln) rfl rfl rfl ?_
  obtain ⟨hI, hA, hV, hL, hR⟩ := hQ
  have hB := cx_B_of hI
  have hn := hI.1
  obtain ⟨hM, hlen⟩ := cx_R_M hI hR
  have hln := hL.1
  subst hln
  refine jw_aload_n (pc := 0) F 0 d_X_at_0 rfl rfl ?_
  refine jw_iload_n (pc := 1) F 1 d_X_at_1 rfl rfl ?_
  refine jw_callV_Ev (pc := 2) (As := [.int (nI r)]) (rest := []) F ([]) ([]) (c_checkReplica l D ad cB cI cL f0 f1 f2 f3 f4 f5 f6 f7 v md (nI L.length) r hr) (jw_cwV F.1.2.2.2.2 wl_good w_93 w_95 w_0 w_29 w_96 hd_X_checkReplica ⟨by decide, by decide⟩) 0 0 rfl rfl rfl (by simp) rfl rfl (Nat.le_of_ble_eq_true rfl) d_X_at_2 ⟨rfl, rfl⟩ ⟨by decide, by decide⟩ ?_
  have loop : ∀ (t i : Nat), i + t = L.length → (∀ j : Nat, j < 2147483648 → k = nI j → (L.take i).countP (a_seen a r) ≤ j) → jw_J p l e rm_X_at s m args below meth c D vCl A 5 (MQ below (va_Qi (fun r9 w9 => r9 = (gl_at (L.filter (a_seen a r)) k) ∧ w9 = wX ad cB cI cL f0 f1 f2 f3 f4 f5 f6 f7 v md (nI L.length)) (jw_B D vCl (vTy cB cI cL) A) A) args s rm_X_at.cells rm_X_at.slots A) 0 0 10 [(0, .ref (ad 0)), (1, .int (nI r)), (2, .int k), (3, .int (nI ((L.take i).countP (a_seen a r)))), (4, .int (nI i))] [] (wX ad cB cI cL f0 f1 f2 f3 f4 f5 f6 f7 v md (nI L.length)) := by
    intro t
    induction t with
    | zero =>
      intro i hi hc
      obtain rfl : i = L.length := hi
      refine jw_iload (pc := 10) F 4 d_X_at_10 rfl ?_
      refine jw_aload_n (pc := 12) F 0 d_X_at_12 rfl rfl ?_
      refine jw_get (pc := 13) F (jms inX) 0 rfl rfl 10 (by decide) (jm w_56) rfl d_X_at_13 ?_
      refine jw_icmp_ge (pc := 16) F 56 d_X_at_16 (by decide) (fun hz1 => ?_) (fun hz1 => False.elim (hz1 (nI_le (Nat.le_refl _) (by omega))))
      refine jw_iconst (pc := 56) (v := -1) F d_X_at_56 (by decide) ?_
      exact jw_iret F d_X_at_57 ⟨(gl_at_none (fun j hj hk => by rw [gl_len]; have h9 := hc j hj hk; rw [List.take_length] at h9; exact h9)).symm, rfl⟩
    | succ t ih =>
      intro i hi hc
      have hlt : i < L.length := by omega
      refine jw_iload (pc := 10) F 4 d_X_at_10 rfl ?_
      refine jw_aload_n (pc := 12) F 0 d_X_at_12 rfl rfl ?_
      refine jw_get (pc := 13) F (jms inX) 0 rfl rfl 10 (by decide) (jm w_56) rfl d_X_at_13 ?_
      refine jw_icmp_ge (pc := 16) F 56 d_X_at_16 (by decide) (fun hz2 => False.elim (nI_ge hlt (by omega) hz2)) (fun hz2 => ?_)
      refine jw_aload_n (pc := 19) F 0 d_X_at_19 rfl rfl ?_
      refine jw_iload_n (pc := 20) F 1 d_X_at_20 rfl rfl ?_
      refine jw_aload_n (pc := 21) F 0 d_X_at_21 rfl rfl ?_
      refine jw_get (pc := 22) F (jms inX) 0 rfl rfl 9 (by decide) (jm w_55) rfl d_X_at_22 ?_
      refine jw_iload (pc := 25) F 4 d_X_at_25 rfl ?_
      refine jw_ialdN (pc := 27) F 9 1 rfl rfl i rfl (by omega) (by decide) d_X_at_27 ?_
      rw [hL.2 i hlt]
      refine jw_callV_Ei (pc := 28) (As := [.int (nI r), .int (nI (L[i]'hlt))]) (rest := []) F ([]) ([]) (c_isSeen l D ad cB cI cL f0 f1 f2 f3 f4 f5 f6 f7 v md (nI L.length) a r (L[i]'hlt) hA hr (hM _ (List.getElem_mem hlt))) (jw_cwV F.1.2.2.2.2 wl_good w_283 w_285 w_13 w_29 w_286 hd_X_isSeen ⟨by decide, by decide⟩) 0 0 rfl rfl rfl (by simp) rfl rfl (Nat.le_of_ble_eq_true rfl) d_X_at_28 ⟨rfl, rfl⟩ ⟨by decide, by decide⟩ ?_
      refine jw_if_eq (pc := 31) F 50 d_X_at_31 (by decide) (fun h1 => ?_) (fun h1 => ?_)
      · refine jw_iinc (pc := 50) (v := nI (i + 1)) (lv' := [(0, .ref (ad 0)), (1, .int (nI r)), (2, .int k), (3, .int (nI ((L.take i).countP (a_seen a r)))), (4, .int (nI (i + 1)))]) F 4 d_X_at_50 rfl (jw_inc _) (by decide) rfl ?_
        refine jw_goto (pc := 53) F 10 d_X_at_53 (by decide) ?_
        have q := ih (i + 1) (by omega) (fun j hj hk => by rw [gl_cnt_s hlt, if_neg (by rw [jb_0.mp h1]; decide), Nat.add_zero]; exact hc j hj hk)
        rw [gl_cnt_s hlt, if_neg (by rw [jb_0.mp h1]; decide), Nat.add_zero] at q
        exact q
      · have hc9 : (L.take i).countP (a_seen a r) ≤ i := gl_cnt_i
        refine jw_iload_n (pc := 34) F 3 d_X_at_34 rfl rfl ?_
        refine jw_iload_n (pc := 35) F 2 d_X_at_35 rfl rfl ?_
        refine jw_icmp_ne (pc := 36) F 47 d_X_at_36 (by decide) (fun h2 => ?_) (fun h2 => ?_)
        · refine jw_iinc (pc := 47) (v := nI ((L.take i).countP (a_seen a r) + 1)) (lv' := [(0, .ref (ad 0)), (1, .int (nI r)), (2, .int k), (3, .int (nI ((L.take i).countP (a_seen a r) + 1))), (4, .int (nI i))]) F 3 d_X_at_47 rfl (jw_inc _) (by decide) rfl ?_
          refine jw_iinc (pc := 50) (v := nI (i + 1)) (lv' := [(0, .ref (ad 0)), (1, .int (nI r)), (2, .int k), (3, .int (nI ((L.take i).countP (a_seen a r) + 1))), (4, .int (nI (i + 1)))]) F 4 d_X_at_50 rfl (jw_inc _) (by decide) rfl ?_
          refine jw_goto (pc := 53) F 10 d_X_at_53 (by decide) ?_
          have q := ih (i + 1) (by omega) (fun j hj hk => by rw [gl_cnt_s hlt, if_pos (jb_n.mp h1)]; rcases Nat.lt_or_ge ((L.take i).countP (a_seen a r)) j with g | g; exact g; exact absurd (by rw [hk, Nat.le_antisymm (hc j hj hk) g]) h2)
          rw [gl_cnt_s hlt, if_pos (jb_n.mp h1)] at q
          exact q
        · refine jw_aload_n (pc := 39) F 0 d_X_at_39 rfl rfl ?_
          refine jw_get (pc := 40) F (jms inX) 0 rfl rfl 9 (by decide) (jm w_55) rfl d_X_at_40 ?_
          refine jw_iload (pc := 43) F 4 d_X_at_43 rfl ?_
          refine jw_ialdN (pc := 45) F 9 1 rfl rfl i rfl (by omega) (by decide) d_X_at_45 ?_
          rw [hL.2 i hlt]
          exact jw_iret F d_X_at_46 ⟨gl_at_stop (by omega) (gl_nth hlt (jb_n.mp h1)) h2, rfl⟩
  refine jw_iconst (pc := 5) (v := nI 0) F d_X_at_5 (by decide) ?_
  refine jw_istore_n (pc := 6) (lv' := [(0, .ref (ad 0)), (1, .int (nI r)), (2, .int k), (3, .int (nI 0))]) F d_X_at_6 rfl (by decide) rfl ?_
  refine jw_iconst (pc := 7) (v := nI 0) F d_X_at_7 (by decide) ?_
  refine jw_istore (pc := 8) (lv' := [(0, .ref (ad 0)), (1, .int (nI r)), (2, .int k), (3, .int (nI 0)), (4, .int (nI 0))]) F d_X_at_8 (by decide) rfl ?_
  exact loop L.length 0 (by omega) (fun j _ _ => Nat.zero_le _)
set_option maxHeartbeats 4000000 in
set_option maxRecDepth 100000 in
theorem c_place (l : Launch) (D : va_G) (ad : Nat → Nat) (cB cI cL : ClassId) (f0 f1 f2 f3 f4 f5 f6 f7 : Nat → Int32) (v : Nat → Int64) (md ln : Int32) (a : AS) (L : List Nat) (hQ : cx_R a L f0 f1 f2 f3 f4 f5 f6 f7 v md ln) (r : Nat) (hr : r < 4) (k : Nat) (hk : k < a_n a) (hd : a_dl a k = false) (hh : a_hd a r k = true) : jw_Mi l D vCl (vTy cB cI cL) y_X_place s_X_place rm_X_place [.ref (ad 0), .int (nI r), .int (nI k)] (wX ad cB cI cL f0 f1 f2 f3 f4 f5 f6 f7 v md ln) (fun r9 w9 => (∃ (i : Nat) (h : i < L.length), L[i] = k ∧ r9 = nI ((L.take i).countP (a_hd a r))) ∧ w9 = wX ad cB cI cL f0 f1 f2 f3 f4 f5 f6 f7 v md ln) := by
  refine jw_ofi (cc := b_X_place) (nL := 5) (ret := (some .int)) (by decide) rfl (Nat.le_of_ble_eq_true rfl) (fun p e s m args below meth c A F hnm => ?_)
  refine jw_at (lv' := [(0, .ref (ad 0)), (1, .int (nI r)), (2, .int (nI k))]) (st' := []) (ws' := wX ad cB cI cL f0 f1 f2 f3 f4 f5 f6 f7 v md ln) rfl rfl rfl ?_
  obtain ⟨hI, hA, hV, hL, hR⟩ := hQ
  have hB := cx_B_of hI
  have hn := hI.1
  obtain ⟨hM, hlen⟩ := cx_R_M hI hR
  have hln := hL.1
  subst hln
  refine jw_aload_n (pc := 0) F 0 d_X_place_0 rfl rfl ?_
  refine jw_iload_n (pc := 1) F 1 d_X_place_1 rfl rfl ?_
  refine jw_callV_Ev (pc := 2) (As := [.int (nI r)]) (rest := []) F ([]) ([]) (c_checkReplica l D ad cB cI cL f0 f1 f2 f3 f4 f5 f6 f7 v md (nI L.length) r hr) (jw_cwV F.1.2.2.2.2 wl_good w_93 w_95 w_0 w_29 w_96 hd_X_checkReplica ⟨by decide, by decide⟩) 0 0 rfl rfl rfl (by simp) rfl rfl (Nat.le_of_ble_eq_true rfl) d_X_place_2 ⟨rfl, rfl⟩ ⟨by decide, by decide⟩ ?_
  refine jw_aload_n (pc := 5) F 0 d_X_place_5 rfl rfl ?_
  refine jw_iload_n (pc := 6) F 2 d_X_place_6 rfl rfl ?_
  refine jw_callV_Ev (pc := 7) (As := [.int (nI k)]) (rest := []) F ([]) ([]) (c_checkOperation l D ad cB cI cL f0 f1 f2 f3 f4 f5 f6 f7 v md (nI L.length) (a_n a) hA.1 (nI k) (a_isop_nI (by omega) hk)) (jw_cwV F.1.2.2.2.2 wl_good w_257 w_259 w_12 w_29 w_260 hd_X_checkOperation ⟨by decide, by decide⟩) 0 0 rfl rfl rfl (by simp) rfl rfl (Nat.le_of_ble_eq_true rfl) d_X_place_7 ⟨rfl, rfl⟩ ⟨by decide, by decide⟩ ?_
  refine jw_aload_n (pc := 10) F 0 d_X_place_10 rfl rfl ?_
  refine jw_iload_n (pc := 11) F 1 d_X_place_11 rfl rfl ?_
  refine jw_iload_n (pc := 12) F 2 d_X_place_12 rfl rfl ?_
  refine jw_callV_Ev (pc := 13) (As := [.int (nI r), .int (nI k)]) (rest := []) F ([]) ([]) (c_checkHeldElement l D ad cB cI cL f0 f1 f2 f3 f4 f5 f6 f7 v md (nI L.length) a hB hA r hr (nI k) (by rw [a_haseB_nI hn hk, hd, hh]; rfl)) (jw_cwV F.1.2.2.2.2 wl_good w_185 w_187 w_3 w_29 w_188 hd_X_checkHeldElement ⟨by decide, by decide⟩) 0 0 rfl rfl rfl (by simp) rfl rfl (Nat.le_of_ble_eq_true rfl) d_X_place_13 ⟨rfl, rfl⟩ ⟨by decide, by decide⟩ ?_
  have loop : ∀ (t i : Nat), i + t = L.length → (∀ (j : Nat) (h : j < L.length), j < i → L[j] ≠ k) → jw_J p l e rm_X_place s m args below meth c D vCl A 5 (MQ below (va_Qi (fun r9 w9 => (∃ (i : Nat) (h : i < L.length), L[i] = k ∧ r9 = nI ((L.take i).countP (a_hd a r))) ∧ w9 = wX ad cB cI cL f0 f1 f2 f3 f4 f5 f6 f7 v md (nI L.length)) (jw_B D vCl (vTy cB cI cL) A) A) args s rm_X_place.cells rm_X_place.slots A) 0 0 21 [(0, .ref (ad 0)), (1, .int (nI r)), (2, .int (nI k)), (3, .int (nI ((L.take i).countP (a_hd a r)))), (4, .int (nI i))] [] (wX ad cB cI cL f0 f1 f2 f3 f4 f5 f6 f7 v md (nI L.length)) := by
    intro t
    induction t with
    | zero =>
      intro i hi hc
      exfalso
      obtain ⟨j, hj, g⟩ := List.getElem_of_mem ((hR.2.1 k).mpr ⟨hk, hd⟩)
      exact hc j hj (by omega) g
    | succ t ih =>
      intro i hi hc
      have hlt : i < L.length := by omega
      have hm := hM _ (List.getElem_mem hlt)
      refine jw_iload (pc := 21) F 4 d_X_place_21 rfl ?_
      refine jw_aload_n (pc := 23) F 0 d_X_place_23 rfl rfl ?_
      refine jw_get (pc := 24) F (jms inX) 0 rfl rfl 10 (by decide) (jm w_56) rfl d_X_place_24 ?_
      refine jw_icmp_ge (pc := 27) F 65 d_X_place_27 (by decide) (fun hz1 => False.elim (nI_ge hlt (by omega) hz1)) (fun hz1 => ?_)
      refine jw_aload_n (pc := 30) F 0 d_X_place_30 rfl rfl ?_
      refine jw_get (pc := 31) F (jms inX) 0 rfl rfl 9 (by decide) (jm w_55) rfl d_X_place_31 ?_
      refine jw_iload (pc := 34) F 4 d_X_place_34 rfl ?_
      refine jw_ialdN (pc := 36) F 9 1 rfl rfl i rfl (by omega) (by decide) d_X_place_36 ?_
      refine jw_iload_n (pc := 37) F 2 d_X_place_37 rfl rfl ?_
      refine jw_icmp_eq (pc := 38) F 65 d_X_place_38 (by decide) (fun h1 => ?_) (fun h1 => ?_)
      · refine jw_iload_n (pc := 65) F 3 d_X_place_65 rfl rfl ?_
        exact jw_iret F d_X_place_66 ⟨⟨i, hlt, ab_nI_inj (by omega) (by omega) (by rw [← hL.2 i hlt]; exact h1), rfl⟩, rfl⟩
      · rw [hL.2 i hlt] at h1
        refine jw_aload_n (pc := 41) F 0 d_X_place_41 rfl rfl ?_
        refine jw_iload_n (pc := 42) F 1 d_X_place_42 rfl rfl ?_
        refine jw_aload_n (pc := 43) F 0 d_X_place_43 rfl rfl ?_
        refine jw_get (pc := 44) F (jms inX) 0 rfl rfl 9 (by decide) (jm w_55) rfl d_X_place_44 ?_
        refine jw_iload (pc := 47) F 4 d_X_place_47 rfl ?_
        refine jw_ialdN (pc := 49) F 9 1 rfl rfl i rfl (by omega) (by decide) d_X_place_49 ?_
        rw [hL.2 i hlt]
        refine jw_callV_Ei (pc := 50) (As := [.int (nI r), .int (nI (L[i]'hlt))]) (rest := []) F ([]) ([]) (c_isHeld l D ad cB cI cL f0 f1 f2 f3 f4 f5 f6 f7 v md (nI L.length) a r (L[i]'hlt) hA hr hm) (jw_cwV F.1.2.2.2.2 wl_good w_197 w_199 w_6 w_29 w_200 hd_X_isHeld ⟨by decide, by decide⟩) 0 0 rfl rfl rfl (by simp) rfl rfl (Nat.le_of_ble_eq_true rfl) d_X_place_50 ⟨rfl, rfl⟩ ⟨by decide, by decide⟩ ?_
        refine jw_if_eq (pc := 53) F 59 d_X_place_53 (by decide) (fun h2 => ?_) (fun h2 => ?_)
        · refine jw_iinc (pc := 59) (v := nI (i + 1)) (lv' := [(0, .ref (ad 0)), (1, .int (nI r)), (2, .int (nI k)), (3, .int (nI ((L.take i).countP (a_hd a r)))), (4, .int (nI (i + 1)))]) F 4 d_X_place_59 rfl (jw_inc _) (by decide) rfl ?_
          refine jw_goto (pc := 62) F 21 d_X_place_62 (by decide) ?_
          have q := ih (i + 1) (by omega) (fun j hj hji g => by
              by_cases e1 : j = i
              · subst e1; exact h1 (by rw [g])
              · exact hc j hj (by omega) g)
          rw [gl_cnt_s hlt, if_neg (by rw [jb_0.mp h2]; decide), Nat.add_zero] at q
          exact q
        · refine jw_iinc (pc := 56) (v := nI ((L.take i).countP (a_hd a r) + 1)) (lv' := [(0, .ref (ad 0)), (1, .int (nI r)), (2, .int (nI k)), (3, .int (nI ((L.take i).countP (a_hd a r) + 1))), (4, .int (nI i))]) F 3 d_X_place_56 rfl (jw_inc _) (by decide) rfl ?_
          refine jw_iinc (pc := 59) (v := nI (i + 1)) (lv' := [(0, .ref (ad 0)), (1, .int (nI r)), (2, .int (nI k)), (3, .int (nI ((L.take i).countP (a_hd a r) + 1))), (4, .int (nI (i + 1)))]) F 4 d_X_place_59 rfl (jw_inc _) (by decide) rfl ?_
          refine jw_goto (pc := 62) F 21 d_X_place_62 (by decide) ?_
          have q := ih (i + 1) (by omega) (fun j hj hji g => by
              by_cases e1 : j = i
              · subst e1; exact h1 (by rw [g])
              · exact hc j hj (by omega) g)
          rw [gl_cnt_s hlt, if_pos (jb_n.mp h2)] at q
          exact q
  refine jw_iconst (pc := 16) (v := nI 0) F d_X_place_16 (by decide) ?_
  refine jw_istore_n (pc := 17) (lv' := [(0, .ref (ad 0)), (1, .int (nI r)), (2, .int (nI k)), (3, .int (nI 0))]) F d_X_place_17 rfl (by decide) rfl ?_
  refine jw_iconst (pc := 18) (v := nI 0) F d_X_place_18 (by decide) ?_
  refine jw_istore (pc := 19) (lv' := [(0, .ref (ad 0)), (1, .int (nI r)), (2, .int (nI k)), (3, .int (nI 0)), (4, .int (nI 0))]) F d_X_place_19 (by decide) rfl ?_
  exact loop L.length 0 (by omega) (fun j _ hj => absurd hj (Nat.not_lt_zero j))
theorem jb_inj {a b : Bool} (h : jb a = jb b) : a = b := by cases a <;> cases b <;> first | rfl | exact absurd h (by decide)
set_option maxHeartbeats 4000000 in
set_option maxRecDepth 100000 in
theorem c_same (l : Launch) (D : va_G) (ad : Nat → Nat) (cB cI cL : ClassId) (f0 f1 f2 f3 f4 f5 f6 f7 : Nat → Int32) (v : Nat → Int64) (md ln : Int32) (a : AS) (L : List Nat) (hQ : cx_R a L f0 f1 f2 f3 f4 f5 f6 f7 v md ln) (r s9 : Nat) (hr : r < 4) (hs9 : s9 < 4) : jw_Ei l D vCl (vTy cB cI cL) y_X_same s_X_same rm_X_same [.ref (ad 0), .int (nI r), .int (nI s9)] (wX ad cB cI cL f0 f1 f2 f3 f4 f5 f6 f7 v md ln) ((jb (L.all (fun x => a_seen a r x == a_seen a s9 x)))) := by
  refine jw_ofi (cc := b_X_same) (nL := 4) (ret := (some .boolean)) (by decide) rfl (Nat.le_of_ble_eq_true rfl) (fun p e s m args below meth c A F hnm => ?_)
  refine jw_at (lv' := [(0, .ref (ad 0)), (1, .int (nI r)), (2, .int (nI s9))]) (st' := []) (ws' := wX ad cB cI cL f0 f1 f2 f3 f4 f5 f6 f7 v md ln) rfl rfl rfl ?_
  obtain ⟨hI, hA, hV, hL, hR⟩ := hQ
  have hB := cx_B_of hI
  have hn := hI.1
  obtain ⟨hM, hlen⟩ := cx_R_M hI hR
  have hln := hL.1
  subst hln
  refine jw_aload_n (pc := 0) F 0 d_X_same_0 rfl rfl ?_
  refine jw_iload_n (pc := 1) F 1 d_X_same_1 rfl rfl ?_
  refine jw_callV_Ev (pc := 2) (As := [.int (nI r)]) (rest := []) F ([]) ([]) (c_checkReplica l D ad cB cI cL f0 f1 f2 f3 f4 f5 f6 f7 v md (nI L.length) r hr) (jw_cwV F.1.2.2.2.2 wl_good w_93 w_95 w_0 w_29 w_96 hd_X_checkReplica ⟨by decide, by decide⟩) 0 0 rfl rfl rfl (by simp) rfl rfl (Nat.le_of_ble_eq_true rfl) d_X_same_2 ⟨rfl, rfl⟩ ⟨by decide, by decide⟩ ?_
  refine jw_aload_n (pc := 5) F 0 d_X_same_5 rfl rfl ?_
  refine jw_iload_n (pc := 6) F 2 d_X_same_6 rfl rfl ?_
  refine jw_callV_Ev (pc := 7) (As := [.int (nI s9)]) (rest := []) F ([]) ([]) (c_checkReplica l D ad cB cI cL f0 f1 f2 f3 f4 f5 f6 f7 v md (nI L.length) s9 hs9) (jw_cwV F.1.2.2.2.2 wl_good w_93 w_95 w_0 w_29 w_96 hd_X_checkReplica ⟨by decide, by decide⟩) 0 0 rfl rfl rfl (by simp) rfl rfl (Nat.le_of_ble_eq_true rfl) d_X_same_7 ⟨rfl, rfl⟩ ⟨by decide, by decide⟩ ?_
  have loop : ∀ (t i : Nat), i + t = L.length → (∀ (j : Nat) (h : j < L.length), j < i → a_seen a r L[j] = a_seen a s9 L[j]) → jw_J p l e rm_X_same s m args below meth c D vCl A 4 (MQ below (va_Qi (fun r9 w9 => r9 = (jb (L.all (fun x => a_seen a r x == a_seen a s9 x))) ∧ w9 = wX ad cB cI cL f0 f1 f2 f3 f4 f5 f6 f7 v md (nI L.length)) (jw_B D vCl (vTy cB cI cL) A) A) args s rm_X_same.cells rm_X_same.slots A) 0 0 12 [(0, .ref (ad 0)), (1, .int (nI r)), (2, .int (nI s9)), (3, .int (nI i))] [] (wX ad cB cI cL f0 f1 f2 f3 f4 f5 f6 f7 v md (nI L.length)) := by
    intro t
    induction t with
    | zero =>
      intro i hi hc
      obtain rfl : i = L.length := hi
      refine jw_iload_n (pc := 12) F 3 d_X_same_12 rfl rfl ?_
      refine jw_aload_n (pc := 13) F 0 d_X_same_13 rfl rfl ?_
      refine jw_get (pc := 14) F (jms inX) 0 rfl rfl 10 (by decide) (jm w_56) rfl d_X_same_14 ?_
      refine jw_icmp_ge (pc := 17) F 53 d_X_same_17 (by decide) (fun hz1 => ?_) (fun hz1 => False.elim (hz1 (nI_le (Nat.le_refl _) (by omega))))
      refine jw_iconst (pc := 53) (v := 1) F d_X_same_53 (by decide) ?_
      exact jw_zret F d_X_same_54 (by decide) ⟨by rw [show L.all (fun x => a_seen a r x == a_seen a s9 x) = true by rw [List.all_eq_true]; intro x hx; obtain ⟨j, hj, rfl⟩ := List.getElem_of_mem hx; exact beq_iff_eq.mpr (hc j hj hj)]; rfl, rfl⟩
    | succ t ih =>
      intro i hi hc
      have hlt : i < L.length := by omega
      have hm := hM _ (List.getElem_mem hlt)
      refine jw_iload_n (pc := 12) F 3 d_X_same_12 rfl rfl ?_
      refine jw_aload_n (pc := 13) F 0 d_X_same_13 rfl rfl ?_
      refine jw_get (pc := 14) F (jms inX) 0 rfl rfl 10 (by decide) (jm w_56) rfl d_X_same_14 ?_
      refine jw_icmp_ge (pc := 17) F 53 d_X_same_17 (by decide) (fun hz2 => False.elim (nI_ge hlt (by omega) hz2)) (fun hz2 => ?_)
      refine jw_aload_n (pc := 20) F 0 d_X_same_20 rfl rfl ?_
      refine jw_iload_n (pc := 21) F 1 d_X_same_21 rfl rfl ?_
      refine jw_aload_n (pc := 22) F 0 d_X_same_22 rfl rfl ?_
      refine jw_get (pc := 23) F (jms inX) 0 rfl rfl 9 (by decide) (jm w_55) rfl d_X_same_23 ?_
      refine jw_iload_n (pc := 26) F 3 d_X_same_26 rfl rfl ?_
      refine jw_ialdN (pc := 27) F 9 1 rfl rfl i rfl (by omega) (by decide) d_X_same_27 ?_
      rw [hL.2 i hlt]
      refine jw_callV_Ei (pc := 28) (As := [.int (nI r), .int (nI (L[i]'hlt))]) (rest := []) F ([]) ([]) (c_isSeen l D ad cB cI cL f0 f1 f2 f3 f4 f5 f6 f7 v md (nI L.length) a r (L[i]'hlt) hA hr hm) (jw_cwV F.1.2.2.2.2 wl_good w_283 w_285 w_13 w_29 w_286 hd_X_isSeen ⟨by decide, by decide⟩) 0 0 rfl rfl rfl (by simp) rfl rfl (Nat.le_of_ble_eq_true rfl) d_X_same_28 ⟨rfl, rfl⟩ ⟨by decide, by decide⟩ ?_
      refine jw_aload_n (pc := 31) F 0 d_X_same_31 rfl rfl ?_
      refine jw_iload_n (pc := 32) F 2 d_X_same_32 rfl rfl ?_
      refine jw_aload_n (pc := 33) F 0 d_X_same_33 rfl rfl ?_
      refine jw_get (pc := 34) F (jms inX) 0 rfl rfl 9 (by decide) (jm w_55) rfl d_X_same_34 ?_
      refine jw_iload_n (pc := 37) F 3 d_X_same_37 rfl rfl ?_
      refine jw_ialdN (pc := 38) F 9 1 rfl rfl i rfl (by omega) (by decide) d_X_same_38 ?_
      rw [hL.2 i hlt]
      refine jw_callV_Ei (pc := 39) (As := [.int (nI s9), .int (nI (L[i]'hlt))]) (rest := [.int (jb (a_seen a r (L[i]'hlt)))]) F ([]) ([]) (c_isSeen l D ad cB cI cL f0 f1 f2 f3 f4 f5 f6 f7 v md (nI L.length) a s9 (L[i]'hlt) hA hs9 hm) (jw_cwV F.1.2.2.2.2 wl_good w_283 w_285 w_13 w_29 w_286 hd_X_isSeen ⟨by decide, by decide⟩) 0 0 rfl rfl rfl (by simp) rfl rfl (Nat.le_of_ble_eq_true rfl) d_X_same_39 ⟨rfl, rfl⟩ ⟨by decide, by decide⟩ ?_
      refine jw_icmp_eq (pc := 42) F 47 d_X_same_42 (by decide) (fun h1 => ?_) (fun h1 => ?_)
      · refine jw_iinc (pc := 47) (v := nI (i + 1)) (lv' := [(0, .ref (ad 0)), (1, .int (nI r)), (2, .int (nI s9)), (3, .int (nI (i + 1)))]) F 3 d_X_same_47 rfl (jw_inc _) (by decide) rfl ?_
        refine jw_goto (pc := 50) F 12 d_X_same_50 (by decide) ?_
        exact ih (i + 1) (by omega) (fun j hj hji => by
            by_cases e1 : j = i
            · subst e1; exact jb_inj h1
            · exact hc j hj (by omega))
      · refine jw_iconst (pc := 45) (v := 0) F d_X_same_45 (by decide) ?_
        exact jw_zret F d_X_same_46 (by decide) ⟨by rw [show L.all (fun x => a_seen a r x == a_seen a s9 x) = false by rw [List.all_eq_false]; exact ⟨_, List.getElem_mem hlt, fun q => h1 (by rw [beq_iff_eq.mp q])⟩]; rfl, rfl⟩
  refine jw_iconst (pc := 10) (v := nI 0) F d_X_same_10 (by decide) ?_
  refine jw_istore_n (pc := 11) (lv' := [(0, .ref (ad 0)), (1, .int (nI r)), (2, .int (nI s9)), (3, .int (nI 0))]) F d_X_same_11 rfl (by decide) rfl ?_
  exact loop L.length 0 (by omega) (fun j _ hj => absurd hj (Nat.not_lt_zero j))
set_option maxHeartbeats 4000000 in
set_option maxRecDepth 100000 in
theorem c_tell (l : Launch) (D : va_G) (ad : Nat → Nat) (cB cI cL : ClassId) (f0 f1 f2 f3 f4 f5 f6 f7 : Nat → Int32) (v : Nat → Int64) (md ln : Int32) (a : AS) (L : List Nat) (hQ : cx_R a L f0 f1 f2 f3 f4 f5 f6 f7 v md ln) (r s9 : Nat) (hr : r < 4) (hs9 : s9 < 4) : jw_Mi l D vCl (vTy cB cI cL) y_X_tell s_X_tell rm_X_tell [.ref (ad 0), .int (nI r), .int (nI s9)] (wX ad cB cI cL f0 f1 f2 f3 f4 f5 f6 f7 v md ln) (fun r9 w9 => r9 = nI (ab_tell a r s9 (a_n a)).2 ∧ ∃ (g0 g1 g2 g3 g4 g5 g6 g7 : Nat → Int32) (gv : Nat → Int64) (gm gl : Int32), w9 = wX ad cB cI cL g0 g1 g2 g3 g4 g5 g6 g7 gv gm gl ∧ cx_R ((ab_tell a r s9 (a_n a)).1) L g0 g1 g2 g3 g4 g5 g6 g7 gv gm gl) := by
  refine jw_ofi (cc := b_X_tell) (nL := 5) (ret := (some .int)) (by decide) rfl (Nat.le_of_ble_eq_true rfl) (fun p e s m args below meth c A F hnm => ?_)
  refine jw_at (lv' := [(0, .ref (ad 0)), (1, .int (nI r)), (2, .int (nI s9))]) (st' := []) (ws' := wX ad cB cI cL f0 f1 f2 f3 f4 f5 f6 f7 v md ln) rfl rfl rfl ?_
  obtain ⟨hI, hA, hV, hL, hR⟩ := hQ
  have hB := cx_B_of hI
  have hn := hI.1
  obtain ⟨hM, hlen⟩ := cx_R_M hI hR
  have hmd := hA.1
  subst hmd
  refine jw_aload_n (pc := 0) F 0 d_X_tell_0 rfl rfl ?_
  refine jw_iload_n (pc := 1) F 1 d_X_tell_1 rfl rfl ?_
  refine jw_callV_Ev (pc := 2) (As := [.int (nI r)]) (rest := []) F ([]) ([]) (c_checkReplica l D ad cB cI cL f0 f1 f2 f3 f4 f5 f6 f7 v (nI (a_n a)) ln r hr) (jw_cwV F.1.2.2.2.2 wl_good w_93 w_95 w_0 w_29 w_96 hd_X_checkReplica ⟨by decide, by decide⟩) 0 0 rfl rfl rfl (by simp) rfl rfl (Nat.le_of_ble_eq_true rfl) d_X_tell_2 ⟨rfl, rfl⟩ ⟨by decide, by decide⟩ ?_
  refine jw_aload_n (pc := 5) F 0 d_X_tell_5 rfl rfl ?_
  refine jw_iload_n (pc := 6) F 2 d_X_tell_6 rfl rfl ?_
  refine jw_callV_Ev (pc := 7) (As := [.int (nI s9)]) (rest := []) F ([]) ([]) (c_checkReplica l D ad cB cI cL f0 f1 f2 f3 f4 f5 f6 f7 v (nI (a_n a)) ln s9 hs9) (jw_cwV F.1.2.2.2.2 wl_good w_93 w_95 w_0 w_29 w_96 hd_X_checkReplica ⟨by decide, by decide⟩) 0 0 rfl rfl rfl (by simp) rfl rfl (Nat.le_of_ble_eq_true rfl) d_X_tell_7 ⟨rfl, rfl⟩ ⟨by decide, by decide⟩ ?_
  have loop : ∀ (t i : Nat) (g4 g5 g6 : Nat → Int32), i + t = a_n a → cx_A (ab_tell a r s9 i).1 f0 f1 f2 f3 g4 g5 g6 (nI (a_n a)) → jw_J p l e rm_X_tell s m args below meth c D vCl A 5 (MQ below (va_Qi (fun r9 w9 => r9 = nI (ab_tell a r s9 (a_n a)).2 ∧ ∃ (g0 g1 g2 g3 g4 g5 g6 g7 : Nat → Int32) (gv : Nat → Int64) (gm gl : Int32), w9 = wX ad cB cI cL g0 g1 g2 g3 g4 g5 g6 g7 gv gm gl ∧ cx_R ((ab_tell a r s9 (a_n a)).1) L g0 g1 g2 g3 g4 g5 g6 g7 gv gm gl) (jw_B D vCl (vTy cB cI cL) A) A) args s rm_X_tell.cells rm_X_tell.slots A) 0 0 15 [(0, .ref (ad 0)), (1, .int (nI r)), (2, .int (nI s9)), (3, .int (nI (ab_tell a r s9 i).2)), (4, .int (nI i))] [] (wX ad cB cI cL f0 f1 f2 f3 g4 g5 g6 f7 v (nI (a_n a)) ln) := by
    intro t
    induction t with
    | zero =>
      intro i g4 g5 g6 hi hA9
      obtain rfl : i = a_n a := hi
      refine jw_iload (pc := 15) F 4 d_X_tell_15 rfl ?_
      refine jw_aload_n (pc := 17) F 0 d_X_tell_17 rfl rfl ?_
      refine jw_get (pc := 18) F (jms inX) 0 rfl rfl 0 (by decide) (jm w_46) rfl d_X_tell_18 ?_
      refine jw_icmp_ge (pc := 21) F 60 d_X_tell_21 (by decide) (fun hz1 => ?_) (fun hz1 => False.elim (hz1 (nI_le (Nat.le_refl _) (by omega))))
      refine jw_iload_n (pc := 60) F 3 d_X_tell_60 rfl rfl ?_
      exact jw_iret F d_X_tell_61 ⟨rfl, _, _, _, _, _, _, _, _, _, _, _, rfl, ab_tell_I hI (Nat.le_refl _), hA9, ab_tell_V hV, hL, ab_tell_row hR⟩
    | succ t ih =>
      intro i g4 g5 g6 hi hA9
      have hI9 : ab_I (ab_tell a r s9 i).1 := ab_tell_I hI (by omega)
      have hn9 := (ab_tell_n (a := a) (r := r) (s := s9) (i := i)).1
      refine jw_iload (pc := 15) F 4 d_X_tell_15 rfl ?_
      refine jw_aload_n (pc := 17) F 0 d_X_tell_17 rfl rfl ?_
      refine jw_get (pc := 18) F (jms inX) 0 rfl rfl 0 (by decide) (jm w_46) rfl d_X_tell_18 ?_
      refine jw_icmp_ge (pc := 21) F 60 d_X_tell_21 (by decide) (fun hz2 => False.elim (nI_ge (show i < a_n a by omega) (by omega) hz2)) (fun hz2 => ?_)
      refine jw_aload_n (pc := 24) F 0 d_X_tell_24 rfl rfl ?_
      refine jw_iload_n (pc := 25) F 2 d_X_tell_25 rfl rfl ?_
      refine jw_iload (pc := 26) F 4 d_X_tell_26 rfl ?_
      refine jw_callV_Ei (pc := 28) (As := [.int (nI s9), .int (nI i)]) (rest := []) F ([]) ([]) (c_isHeld l D ad cB cI cL f0 f1 f2 f3 g4 g5 g6 f7 v (nI (a_n a)) ln (ab_tell a r s9 i).1 s9 i hA9 hs9 (by omega)) (jw_cwV F.1.2.2.2.2 wl_good w_197 w_199 w_6 w_29 w_200 hd_X_isHeld ⟨by decide, by decide⟩) 0 0 rfl rfl rfl (by simp) rfl rfl (Nat.le_of_ble_eq_true rfl) d_X_tell_28 ⟨rfl, rfl⟩ ⟨by decide, by decide⟩ ?_
      refine jw_if_eq (pc := 31) F 54 d_X_tell_31 (by decide) (fun h1 => ?_) (fun h1 => ?_)
      · refine jw_iinc (pc := 54) (v := nI (i + 1)) (lv' := [(0, .ref (ad 0)), (1, .int (nI r)), (2, .int (nI s9)), (3, .int (nI (ab_tell a r s9 i).2)), (4, .int (nI (i + 1)))]) F 4 d_X_tell_54 rfl (jw_inc _) (by decide) rfl ?_
        refine jw_goto (pc := 57) F 15 d_X_tell_57 (by decide) ?_
        have hc : ¬ (a_hd (ab_tell a r s9 i).1 s9 i && !a_hd (ab_tell a r s9 i).1 r i) = true := by rw [jb_0.mp h1]; simp
        have he : ab_tell a r s9 (i + 1) = ab_tell a r s9 i := by show (if _ then _ else _) = _; rw [if_neg hc]
        have q := ih (i + 1) g4 g5 g6 (by omega) (by rw [he]; exact hA9)
        rw [he] at q
        exact q
      · refine jw_aload_n (pc := 34) F 0 d_X_tell_34 rfl rfl ?_
        refine jw_iload_n (pc := 35) F 1 d_X_tell_35 rfl rfl ?_
        refine jw_iload (pc := 36) F 4 d_X_tell_36 rfl ?_
        refine jw_callV_Ei (pc := 38) (As := [.int (nI r), .int (nI i)]) (rest := []) F ([]) ([]) (c_isHeld l D ad cB cI cL f0 f1 f2 f3 g4 g5 g6 f7 v (nI (a_n a)) ln (ab_tell a r s9 i).1 r i hA9 hr (by omega)) (jw_cwV F.1.2.2.2.2 wl_good w_197 w_199 w_6 w_29 w_200 hd_X_isHeld ⟨by decide, by decide⟩) 0 0 rfl rfl rfl (by simp) rfl rfl (Nat.le_of_ble_eq_true rfl) d_X_tell_38 ⟨rfl, rfl⟩ ⟨by decide, by decide⟩ ?_
        refine jw_if_ne (pc := 41) F 54 d_X_tell_41 (by decide) (fun h2 => ?_) (fun h2 => ?_)
        · refine jw_iinc (pc := 54) (v := nI (i + 1)) (lv' := [(0, .ref (ad 0)), (1, .int (nI r)), (2, .int (nI s9)), (3, .int (nI (ab_tell a r s9 i).2)), (4, .int (nI (i + 1)))]) F 4 d_X_tell_54 rfl (jw_inc _) (by decide) rfl ?_
          refine jw_goto (pc := 57) F 15 d_X_tell_57 (by decide) ?_
          have hc : ¬ (a_hd (ab_tell a r s9 i).1 s9 i && !a_hd (ab_tell a r s9 i).1 r i) = true := by rw [jb_n.mp h2]; simp
          have he : ab_tell a r s9 (i + 1) = ab_tell a r s9 i := by show (if _ then _ else _) = _; rw [if_neg hc]
          have q := ih (i + 1) g4 g5 g6 (by omega) (by rw [he]; exact hA9)
          rw [he] at q
          exact q
        · refine jw_aload_n (pc := 44) F 0 d_X_tell_44 rfl rfl ?_
          refine jw_iload_n (pc := 45) F 1 d_X_tell_45 rfl rfl ?_
          refine jw_iload (pc := 46) F 4 d_X_tell_46 rfl ?_
          refine jw_callV_Cv (pc := 48) (As := [.int (nI r), .int (nI i)]) (rest := []) F (c_take l D ad cB cI cL f0 f1 f2 f3 g4 g5 g6 f7 v (nI (a_n a)) ln (ab_tell a r s9 i).1 (cx_B_of hI9) hA9 r i hr (by omega)) (jw_cwV F.1.2.2.2.2 wl_good w_224 w_226 w_8 w_29 w_227 hd_X_take ⟨by decide, by decide⟩) 0 0 rfl rfl rfl rfl rfl rfl (Nat.le_of_ble_eq_true rfl) d_X_tell_48 ⟨rfl, rfl⟩ ⟨by decide, by decide⟩ (fun w hw => ?_)
          obtain ⟨k4, k5, k6, rfl, hA8⟩ := hw
          refine jw_iinc (pc := 51) (v := nI ((ab_tell a r s9 i).2 + 1)) (lv' := [(0, .ref (ad 0)), (1, .int (nI r)), (2, .int (nI s9)), (3, .int (nI ((ab_tell a r s9 i).2 + 1))), (4, .int (nI i))]) F 3 d_X_tell_51 rfl (jw_inc _) (by decide) rfl ?_
          refine jw_iinc (pc := 54) (v := nI (i + 1)) (lv' := [(0, .ref (ad 0)), (1, .int (nI r)), (2, .int (nI s9)), (3, .int (nI ((ab_tell a r s9 i).2 + 1))), (4, .int (nI (i + 1)))]) F 4 d_X_tell_54 rfl (jw_inc _) (by decide) rfl ?_
          refine jw_goto (pc := 57) F 15 d_X_tell_57 (by decide) ?_
          have he : ab_tell a r s9 (i + 1) = (ab_take (ab_tell a r s9 i).1 r i, (ab_tell a r s9 i).2 + 1) := by show (if _ then _ else _) = _; rw [if_pos (by rw [jb_n.mp h1, jb_0.mp h2]; rfl)]
          have q := ih (i + 1) k4 k5 k6 (by omega) (by rw [he]; exact hA8)
          rw [he] at q
          exact q
  refine jw_iconst (pc := 10) (v := nI 0) F d_X_tell_10 (by decide) ?_
  refine jw_istore_n (pc := 11) (lv' := [(0, .ref (ad 0)), (1, .int (nI r)), (2, .int (nI s9)), (3, .int (nI 0))]) F d_X_tell_11 rfl (by decide) rfl ?_
  refine jw_iconst (pc := 12) (v := nI 0) F d_X_tell_12 (by decide) ?_
  refine jw_istore (pc := 13) (lv' := [(0, .ref (ad 0)), (1, .int (nI r)), (2, .int (nI s9)), (3, .int (nI 0)), (4, .int (nI 0))]) F d_X_tell_13 (by decide) rfl ?_
  exact loop (a_n a) 0 f4 f5 f6 (by omega) hA
end
section
theorem gl_out4 {t : Int32} (h : a_isop 4 t = false) : t.toInt < 0 ∨ 3 < t.toInt := by
  by_cases h1 : t < 0
  · exact Or.inl (by rw [Int32.lt_iff_toInt_lt] at h1; exact h1)
  · right
    obtain ⟨j, hj, rfl⟩ := nI_of h1
    rw [nI_toInt hj]
    rcases Nat.lt_or_ge j 4 with g | g
    · rw [a_isop_nI (by decide) g] at h; cases h
    · omega

abbrev rm_X_insert_x : Room := { frames := 7, cells := 1, slots := 6, locals := 112 }
abbrev rm_X_delete_x : Room := { frames := 7, cells := 1, slots := 6, locals := 112 }
abbrev rm_X_give_x : Room := { frames := 7, cells := 1, slots := 6, locals := 112 }
abbrev rm_X_tell_x : Room := { frames := 7, cells := 1, slots := 6, locals := 111 }
abbrev rm_X_holds_x : Room := { frames := 7, cells := 1, slots := 6, locals := 111 }
abbrev rm_X_at_x : Room := { frames := 7, cells := 1, slots := 6, locals := 111 }
abbrev rm_X_place_x : Room := { frames := 7, cells := 1, slots := 6, locals := 112 }
abbrev rm_X_value_x : Room := { frames := 6, cells := 1, slots := 6, locals := 90 }
abbrev rm_X_stamp_x : Room := { frames := 7, cells := 1, slots := 6, locals := 111 }
abbrev rm_X_count_x : Room := { frames := 7, cells := 1, slots := 6, locals := 111 }
abbrev rm_X_same_x : Room := { frames := 7, cells := 1, slots := 6, locals := 111 }
set_option maxHeartbeats 4000000 in
set_option maxRecDepth 100000 in
theorem c_insert_x1 (l : Launch) (D : va_G) (ad : Nat → Nat) (cB cI cL : ClassId) (f0 f1 f2 f3 f4 f5 f6 f7 : Nat → Int32) (v : Nat → Int64) (md ln : Int32) (a : AS) (L : List Nat) (hQ : cx_R a L f0 f1 f2 f3 f4 f5 f6 f7 v md ln) (r : Int32) (hr : a_isrep r = false) (t : Int32) (vv : Int64) (hl : l.stackTraces = false) : jw_Tx l D vCl (vTy cB cI cL) y_X_insert s_X_insert rm_X_insert_x [.ref (ad 0), .int r, .int t, .long vv] (wX ad cB cI cL f0 f1 f2 f3 f4 f5 f6 f7 v md ln) jz_Z "java/lang/IllegalArgumentException" := by
  refine jw_ofx (cc := b_X_insert) (nL := 6) (ret := (some .int)) (by decide) rfl (Nat.le_of_ble_eq_true rfl) (fun p e s m args below meth c A F hT hZ => ?_)
  refine jw_at (lv' := [(0, .ref (ad 0)), (1, .int r), (2, .int t), (3, .long vv)]) (st' := []) (ws' := wX ad cB cI cL f0 f1 f2 f3 f4 f5 f6 f7 v md ln) rfl rfl rfl ?_
  refine jw_aload_n (pc := 0) F 0 d_X_insert_0 rfl rfl ?_
  refine jw_iload_n (pc := 1) F 1 d_X_insert_1 rfl rfl ?_
  exact jw_xcallV (pc := 2) (As := [.int r]) (rest := []) F [] [] hT jz_ok hZ (c_checkReplica_x l D ad cB cI cL f0 f1 f2 f3 f4 f5 f6 f7 v md ln r hr hl) (jw_cwV F.1.2.2.2.2 wl_good w_93 w_95 w_0 w_29 w_96 hd_X_checkReplica ⟨by decide, by decide⟩) 0 0 rfl rfl rfl (by simp) rfl rfl (Nat.le_of_ble_eq_true rfl) d_X_insert_2 ⟨by decide, by decide⟩ (by decide) (by decide)
set_option maxHeartbeats 4000000 in
set_option maxRecDepth 100000 in
theorem c_delete_x1 (l : Launch) (D : va_G) (ad : Nat → Nat) (cB cI cL : ClassId) (f0 f1 f2 f3 f4 f5 f6 f7 : Nat → Int32) (v : Nat → Int64) (md ln : Int32) (a : AS) (L : List Nat) (hQ : cx_R a L f0 f1 f2 f3 f4 f5 f6 f7 v md ln) (r : Int32) (hr : a_isrep r = false) (t : Int32) (hl : l.stackTraces = false) : jw_Tx l D vCl (vTy cB cI cL) y_X_delete s_X_delete rm_X_delete_x [.ref (ad 0), .int r, .int t] (wX ad cB cI cL f0 f1 f2 f3 f4 f5 f6 f7 v md ln) jz_Z "java/lang/IllegalArgumentException" := by
  refine jw_ofx (cc := b_X_delete) (nL := 3) (ret := (some .int)) (by decide) rfl (Nat.le_of_ble_eq_true rfl) (fun p e s m args below meth c A F hT hZ => ?_)
  refine jw_at (lv' := [(0, .ref (ad 0)), (1, .int r), (2, .int t)]) (st' := []) (ws' := wX ad cB cI cL f0 f1 f2 f3 f4 f5 f6 f7 v md ln) rfl rfl rfl ?_
  refine jw_aload_n (pc := 0) F 0 d_X_delete_0 rfl rfl ?_
  refine jw_iload_n (pc := 1) F 1 d_X_delete_1 rfl rfl ?_
  exact jw_xcallV (pc := 2) (As := [.int r]) (rest := []) F [] [] hT jz_ok hZ (c_checkReplica_x l D ad cB cI cL f0 f1 f2 f3 f4 f5 f6 f7 v md ln r hr hl) (jw_cwV F.1.2.2.2.2 wl_good w_93 w_95 w_0 w_29 w_96 hd_X_checkReplica ⟨by decide, by decide⟩) 0 0 rfl rfl rfl (by simp) rfl rfl (Nat.le_of_ble_eq_true rfl) d_X_delete_2 ⟨by decide, by decide⟩ (by decide) (by decide)
set_option maxHeartbeats 4000000 in
set_option maxRecDepth 100000 in
theorem c_give_x1 (l : Launch) (D : va_G) (ad : Nat → Nat) (cB cI cL : ClassId) (f0 f1 f2 f3 f4 f5 f6 f7 : Nat → Int32) (v : Nat → Int64) (md ln : Int32) (a : AS) (L : List Nat) (hQ : cx_R a L f0 f1 f2 f3 f4 f5 f6 f7 v md ln) (r : Int32) (hr : a_isrep r = false) (t : Int32) (hl : l.stackTraces = false) : jw_Tx l D vCl (vTy cB cI cL) y_X_give s_X_give rm_X_give_x [.ref (ad 0), .int r, .int t] (wX ad cB cI cL f0 f1 f2 f3 f4 f5 f6 f7 v md ln) jz_Z "java/lang/IllegalArgumentException" := by
  refine jw_ofx (cc := b_X_give) (nL := 3) (ret := none) (by decide) rfl (Nat.le_of_ble_eq_true rfl) (fun p e s m args below meth c A F hT hZ => ?_)
  refine jw_at (lv' := [(0, .ref (ad 0)), (1, .int r), (2, .int t)]) (st' := []) (ws' := wX ad cB cI cL f0 f1 f2 f3 f4 f5 f6 f7 v md ln) rfl rfl rfl ?_
  refine jw_aload_n (pc := 0) F 0 d_X_give_0 rfl rfl ?_
  refine jw_iload_n (pc := 1) F 1 d_X_give_1 rfl rfl ?_
  exact jw_xcallV (pc := 2) (As := [.int r]) (rest := []) F [] [] hT jz_ok hZ (c_checkReplica_x l D ad cB cI cL f0 f1 f2 f3 f4 f5 f6 f7 v md ln r hr hl) (jw_cwV F.1.2.2.2.2 wl_good w_93 w_95 w_0 w_29 w_96 hd_X_checkReplica ⟨by decide, by decide⟩) 0 0 rfl rfl rfl (by simp) rfl rfl (Nat.le_of_ble_eq_true rfl) d_X_give_2 ⟨by decide, by decide⟩ (by decide) (by decide)
set_option maxHeartbeats 4000000 in
set_option maxRecDepth 100000 in
theorem c_tell_x1 (l : Launch) (D : va_G) (ad : Nat → Nat) (cB cI cL : ClassId) (f0 f1 f2 f3 f4 f5 f6 f7 : Nat → Int32) (v : Nat → Int64) (md ln : Int32) (a : AS) (L : List Nat) (hQ : cx_R a L f0 f1 f2 f3 f4 f5 f6 f7 v md ln) (r : Int32) (hr : a_isrep r = false) (t : Int32) (hl : l.stackTraces = false) : jw_Tx l D vCl (vTy cB cI cL) y_X_tell s_X_tell rm_X_tell_x [.ref (ad 0), .int r, .int t] (wX ad cB cI cL f0 f1 f2 f3 f4 f5 f6 f7 v md ln) jz_Z "java/lang/IllegalArgumentException" := by
  refine jw_ofx (cc := b_X_tell) (nL := 5) (ret := (some .int)) (by decide) rfl (Nat.le_of_ble_eq_true rfl) (fun p e s m args below meth c A F hT hZ => ?_)
  refine jw_at (lv' := [(0, .ref (ad 0)), (1, .int r), (2, .int t)]) (st' := []) (ws' := wX ad cB cI cL f0 f1 f2 f3 f4 f5 f6 f7 v md ln) rfl rfl rfl ?_
  refine jw_aload_n (pc := 0) F 0 d_X_tell_0 rfl rfl ?_
  refine jw_iload_n (pc := 1) F 1 d_X_tell_1 rfl rfl ?_
  exact jw_xcallV (pc := 2) (As := [.int r]) (rest := []) F [] [] hT jz_ok hZ (c_checkReplica_x l D ad cB cI cL f0 f1 f2 f3 f4 f5 f6 f7 v md ln r hr hl) (jw_cwV F.1.2.2.2.2 wl_good w_93 w_95 w_0 w_29 w_96 hd_X_checkReplica ⟨by decide, by decide⟩) 0 0 rfl rfl rfl (by simp) rfl rfl (Nat.le_of_ble_eq_true rfl) d_X_tell_2 ⟨by decide, by decide⟩ (by decide) (by decide)
set_option maxHeartbeats 4000000 in
set_option maxRecDepth 100000 in
theorem c_holds_x1 (l : Launch) (D : va_G) (ad : Nat → Nat) (cB cI cL : ClassId) (f0 f1 f2 f3 f4 f5 f6 f7 : Nat → Int32) (v : Nat → Int64) (md ln : Int32) (a : AS) (L : List Nat) (hQ : cx_R a L f0 f1 f2 f3 f4 f5 f6 f7 v md ln) (r : Int32) (hr : a_isrep r = false) (t : Int32) (hl : l.stackTraces = false) : jw_Tx l D vCl (vTy cB cI cL) y_X_holds s_X_holds rm_X_holds_x [.ref (ad 0), .int r, .int t] (wX ad cB cI cL f0 f1 f2 f3 f4 f5 f6 f7 v md ln) jz_Z "java/lang/IllegalArgumentException" := by
  refine jw_ofx (cc := b_X_holds) (nL := 3) (ret := (some .boolean)) (by decide) rfl (Nat.le_of_ble_eq_true rfl) (fun p e s m args below meth c A F hT hZ => ?_)
  refine jw_at (lv' := [(0, .ref (ad 0)), (1, .int r), (2, .int t)]) (st' := []) (ws' := wX ad cB cI cL f0 f1 f2 f3 f4 f5 f6 f7 v md ln) rfl rfl rfl ?_
  refine jw_aload_n (pc := 0) F 0 d_X_holds_0 rfl rfl ?_
  refine jw_iload_n (pc := 1) F 1 d_X_holds_1 rfl rfl ?_
  exact jw_xcallV (pc := 2) (As := [.int r]) (rest := []) F [] [] hT jz_ok hZ (c_checkReplica_x l D ad cB cI cL f0 f1 f2 f3 f4 f5 f6 f7 v md ln r hr hl) (jw_cwV F.1.2.2.2.2 wl_good w_93 w_95 w_0 w_29 w_96 hd_X_checkReplica ⟨by decide, by decide⟩) 0 0 rfl rfl rfl (by simp) rfl rfl (Nat.le_of_ble_eq_true rfl) d_X_holds_2 ⟨by decide, by decide⟩ (by decide) (by decide)
set_option maxHeartbeats 4000000 in
set_option maxRecDepth 100000 in
theorem c_at_x1 (l : Launch) (D : va_G) (ad : Nat → Nat) (cB cI cL : ClassId) (f0 f1 f2 f3 f4 f5 f6 f7 : Nat → Int32) (v : Nat → Int64) (md ln : Int32) (a : AS) (L : List Nat) (hQ : cx_R a L f0 f1 f2 f3 f4 f5 f6 f7 v md ln) (r : Int32) (hr : a_isrep r = false) (t : Int32) (hl : l.stackTraces = false) : jw_Tx l D vCl (vTy cB cI cL) y_X_at s_X_at rm_X_at_x [.ref (ad 0), .int r, .int t] (wX ad cB cI cL f0 f1 f2 f3 f4 f5 f6 f7 v md ln) jz_Z "java/lang/IllegalArgumentException" := by
  refine jw_ofx (cc := b_X_at) (nL := 5) (ret := (some .int)) (by decide) rfl (Nat.le_of_ble_eq_true rfl) (fun p e s m args below meth c A F hT hZ => ?_)
  refine jw_at (lv' := [(0, .ref (ad 0)), (1, .int r), (2, .int t)]) (st' := []) (ws' := wX ad cB cI cL f0 f1 f2 f3 f4 f5 f6 f7 v md ln) rfl rfl rfl ?_
  refine jw_aload_n (pc := 0) F 0 d_X_at_0 rfl rfl ?_
  refine jw_iload_n (pc := 1) F 1 d_X_at_1 rfl rfl ?_
  exact jw_xcallV (pc := 2) (As := [.int r]) (rest := []) F [] [] hT jz_ok hZ (c_checkReplica_x l D ad cB cI cL f0 f1 f2 f3 f4 f5 f6 f7 v md ln r hr hl) (jw_cwV F.1.2.2.2.2 wl_good w_93 w_95 w_0 w_29 w_96 hd_X_checkReplica ⟨by decide, by decide⟩) 0 0 rfl rfl rfl (by simp) rfl rfl (Nat.le_of_ble_eq_true rfl) d_X_at_2 ⟨by decide, by decide⟩ (by decide) (by decide)
set_option maxHeartbeats 4000000 in
set_option maxRecDepth 100000 in
theorem c_place_x1 (l : Launch) (D : va_G) (ad : Nat → Nat) (cB cI cL : ClassId) (f0 f1 f2 f3 f4 f5 f6 f7 : Nat → Int32) (v : Nat → Int64) (md ln : Int32) (a : AS) (L : List Nat) (hQ : cx_R a L f0 f1 f2 f3 f4 f5 f6 f7 v md ln) (r : Int32) (hr : a_isrep r = false) (t : Int32) (hl : l.stackTraces = false) : jw_Tx l D vCl (vTy cB cI cL) y_X_place s_X_place rm_X_place_x [.ref (ad 0), .int r, .int t] (wX ad cB cI cL f0 f1 f2 f3 f4 f5 f6 f7 v md ln) jz_Z "java/lang/IllegalArgumentException" := by
  refine jw_ofx (cc := b_X_place) (nL := 5) (ret := (some .int)) (by decide) rfl (Nat.le_of_ble_eq_true rfl) (fun p e s m args below meth c A F hT hZ => ?_)
  refine jw_at (lv' := [(0, .ref (ad 0)), (1, .int r), (2, .int t)]) (st' := []) (ws' := wX ad cB cI cL f0 f1 f2 f3 f4 f5 f6 f7 v md ln) rfl rfl rfl ?_
  refine jw_aload_n (pc := 0) F 0 d_X_place_0 rfl rfl ?_
  refine jw_iload_n (pc := 1) F 1 d_X_place_1 rfl rfl ?_
  exact jw_xcallV (pc := 2) (As := [.int r]) (rest := []) F [] [] hT jz_ok hZ (c_checkReplica_x l D ad cB cI cL f0 f1 f2 f3 f4 f5 f6 f7 v md ln r hr hl) (jw_cwV F.1.2.2.2.2 wl_good w_93 w_95 w_0 w_29 w_96 hd_X_checkReplica ⟨by decide, by decide⟩) 0 0 rfl rfl rfl (by simp) rfl rfl (Nat.le_of_ble_eq_true rfl) d_X_place_2 ⟨by decide, by decide⟩ (by decide) (by decide)
set_option maxHeartbeats 4000000 in
set_option maxRecDepth 100000 in
theorem c_count_x1 (l : Launch) (D : va_G) (ad : Nat → Nat) (cB cI cL : ClassId) (f0 f1 f2 f3 f4 f5 f6 f7 : Nat → Int32) (v : Nat → Int64) (md ln : Int32) (a : AS) (L : List Nat) (hQ : cx_R a L f0 f1 f2 f3 f4 f5 f6 f7 v md ln) (r : Int32) (hr : a_isrep r = false) (t : Int32) (hl : l.stackTraces = false) : jw_Tx l D vCl (vTy cB cI cL) y_X_count s_X_count rm_X_count_x [.ref (ad 0), .int r, .int t] (wX ad cB cI cL f0 f1 f2 f3 f4 f5 f6 f7 v md ln) jz_Z "java/lang/IllegalArgumentException" := by
  refine jw_ofx (cc := b_X_count) (nL := 3) (ret := (some .int)) (by decide) rfl (Nat.le_of_ble_eq_true rfl) (fun p e s m args below meth c A F hT hZ => ?_)
  refine jw_at (lv' := [(0, .ref (ad 0)), (1, .int r), (2, .int t)]) (st' := []) (ws' := wX ad cB cI cL f0 f1 f2 f3 f4 f5 f6 f7 v md ln) rfl rfl rfl ?_
  refine jw_aload_n (pc := 0) F 0 d_X_count_0 rfl rfl ?_
  refine jw_iload_n (pc := 1) F 1 d_X_count_1 rfl rfl ?_
  exact jw_xcallV (pc := 2) (As := [.int r]) (rest := []) F [] [] hT jz_ok hZ (c_checkReplica_x l D ad cB cI cL f0 f1 f2 f3 f4 f5 f6 f7 v md ln r hr hl) (jw_cwV F.1.2.2.2.2 wl_good w_93 w_95 w_0 w_29 w_96 hd_X_checkReplica ⟨by decide, by decide⟩) 0 0 rfl rfl rfl (by simp) rfl rfl (Nat.le_of_ble_eq_true rfl) d_X_count_2 ⟨by decide, by decide⟩ (by decide) (by decide)
set_option maxHeartbeats 4000000 in
set_option maxRecDepth 100000 in
theorem c_same_x1 (l : Launch) (D : va_G) (ad : Nat → Nat) (cB cI cL : ClassId) (f0 f1 f2 f3 f4 f5 f6 f7 : Nat → Int32) (v : Nat → Int64) (md ln : Int32) (a : AS) (L : List Nat) (hQ : cx_R a L f0 f1 f2 f3 f4 f5 f6 f7 v md ln) (r : Int32) (hr : a_isrep r = false) (t : Int32) (hl : l.stackTraces = false) : jw_Tx l D vCl (vTy cB cI cL) y_X_same s_X_same rm_X_same_x [.ref (ad 0), .int r, .int t] (wX ad cB cI cL f0 f1 f2 f3 f4 f5 f6 f7 v md ln) jz_Z "java/lang/IllegalArgumentException" := by
  refine jw_ofx (cc := b_X_same) (nL := 4) (ret := (some .boolean)) (by decide) rfl (Nat.le_of_ble_eq_true rfl) (fun p e s m args below meth c A F hT hZ => ?_)
  refine jw_at (lv' := [(0, .ref (ad 0)), (1, .int r), (2, .int t)]) (st' := []) (ws' := wX ad cB cI cL f0 f1 f2 f3 f4 f5 f6 f7 v md ln) rfl rfl rfl ?_
  refine jw_aload_n (pc := 0) F 0 d_X_same_0 rfl rfl ?_
  refine jw_iload_n (pc := 1) F 1 d_X_same_1 rfl rfl ?_
  exact jw_xcallV (pc := 2) (As := [.int r]) (rest := []) F [] [] hT jz_ok hZ (c_checkReplica_x l D ad cB cI cL f0 f1 f2 f3 f4 f5 f6 f7 v md ln r hr hl) (jw_cwV F.1.2.2.2.2 wl_good w_93 w_95 w_0 w_29 w_96 hd_X_checkReplica ⟨by decide, by decide⟩) 0 0 rfl rfl rfl (by simp) rfl rfl (Nat.le_of_ble_eq_true rfl) d_X_same_2 ⟨by decide, by decide⟩ (by decide) (by decide)
set_option maxHeartbeats 4000000 in
set_option maxRecDepth 100000 in
theorem c_tell_x2 (l : Launch) (D : va_G) (ad : Nat → Nat) (cB cI cL : ClassId) (f0 f1 f2 f3 f4 f5 f6 f7 : Nat → Int32) (v : Nat → Int64) (md ln : Int32) (a : AS) (L : List Nat) (hQ : cx_R a L f0 f1 f2 f3 f4 f5 f6 f7 v md ln) (r : Nat) (hr : r < 4) (t : Int32) (ht : a_isrep t = false) (hl : l.stackTraces = false) : jw_Tx l D vCl (vTy cB cI cL) y_X_tell s_X_tell rm_X_tell_x [.ref (ad 0), .int (nI r), .int t] (wX ad cB cI cL f0 f1 f2 f3 f4 f5 f6 f7 v md ln) jz_Z "java/lang/IllegalArgumentException" := by
  refine jw_ofx (cc := b_X_tell) (nL := 5) (ret := (some .int)) (by decide) rfl (Nat.le_of_ble_eq_true rfl) (fun p e s m args below meth c A F hT hZ => ?_)
  refine jw_at (lv' := [(0, .ref (ad 0)), (1, .int (nI r)), (2, .int t)]) (st' := []) (ws' := wX ad cB cI cL f0 f1 f2 f3 f4 f5 f6 f7 v md ln) rfl rfl rfl ?_
  refine jw_aload_n (pc := 0) F 0 d_X_tell_0 rfl rfl ?_
  refine jw_iload_n (pc := 1) F 1 d_X_tell_1 rfl rfl ?_
  refine jw_callV_Ev (pc := 2) (As := [.int (nI r)]) (rest := []) F ([]) ([]) (c_checkReplica l D ad cB cI cL f0 f1 f2 f3 f4 f5 f6 f7 v md ln r hr) (jw_cwV F.1.2.2.2.2 wl_good w_93 w_95 w_0 w_29 w_96 hd_X_checkReplica ⟨by decide, by decide⟩) 0 0 rfl rfl rfl (by simp) rfl rfl (Nat.le_of_ble_eq_true rfl) d_X_tell_2 ⟨rfl, rfl⟩ ⟨by decide, by decide⟩ ?_
  refine jw_aload_n (pc := 5) F 0 d_X_tell_5 rfl rfl ?_
  refine jw_iload_n (pc := 6) F 2 d_X_tell_6 rfl rfl ?_
  exact jw_xcallV (pc := 7) (As := [.int t]) (rest := []) F [] [] hT jz_ok hZ (c_checkReplica_x l D ad cB cI cL f0 f1 f2 f3 f4 f5 f6 f7 v md ln t ht hl) (jw_cwV F.1.2.2.2.2 wl_good w_93 w_95 w_0 w_29 w_96 hd_X_checkReplica ⟨by decide, by decide⟩) 0 0 rfl rfl rfl (by simp) rfl rfl (Nat.le_of_ble_eq_true rfl) d_X_tell_7 ⟨by decide, by decide⟩ (by decide) (by decide)
set_option maxHeartbeats 4000000 in
set_option maxRecDepth 100000 in
theorem c_same_x2 (l : Launch) (D : va_G) (ad : Nat → Nat) (cB cI cL : ClassId) (f0 f1 f2 f3 f4 f5 f6 f7 : Nat → Int32) (v : Nat → Int64) (md ln : Int32) (a : AS) (L : List Nat) (hQ : cx_R a L f0 f1 f2 f3 f4 f5 f6 f7 v md ln) (r : Nat) (hr : r < 4) (t : Int32) (ht : a_isrep t = false) (hl : l.stackTraces = false) : jw_Tx l D vCl (vTy cB cI cL) y_X_same s_X_same rm_X_same_x [.ref (ad 0), .int (nI r), .int t] (wX ad cB cI cL f0 f1 f2 f3 f4 f5 f6 f7 v md ln) jz_Z "java/lang/IllegalArgumentException" := by
  refine jw_ofx (cc := b_X_same) (nL := 4) (ret := (some .boolean)) (by decide) rfl (Nat.le_of_ble_eq_true rfl) (fun p e s m args below meth c A F hT hZ => ?_)
  refine jw_at (lv' := [(0, .ref (ad 0)), (1, .int (nI r)), (2, .int t)]) (st' := []) (ws' := wX ad cB cI cL f0 f1 f2 f3 f4 f5 f6 f7 v md ln) rfl rfl rfl ?_
  refine jw_aload_n (pc := 0) F 0 d_X_same_0 rfl rfl ?_
  refine jw_iload_n (pc := 1) F 1 d_X_same_1 rfl rfl ?_
  refine jw_callV_Ev (pc := 2) (As := [.int (nI r)]) (rest := []) F ([]) ([]) (c_checkReplica l D ad cB cI cL f0 f1 f2 f3 f4 f5 f6 f7 v md ln r hr) (jw_cwV F.1.2.2.2.2 wl_good w_93 w_95 w_0 w_29 w_96 hd_X_checkReplica ⟨by decide, by decide⟩) 0 0 rfl rfl rfl (by simp) rfl rfl (Nat.le_of_ble_eq_true rfl) d_X_same_2 ⟨rfl, rfl⟩ ⟨by decide, by decide⟩ ?_
  refine jw_aload_n (pc := 5) F 0 d_X_same_5 rfl rfl ?_
  refine jw_iload_n (pc := 6) F 2 d_X_same_6 rfl rfl ?_
  exact jw_xcallV (pc := 7) (As := [.int t]) (rest := []) F [] [] hT jz_ok hZ (c_checkReplica_x l D ad cB cI cL f0 f1 f2 f3 f4 f5 f6 f7 v md ln t ht hl) (jw_cwV F.1.2.2.2.2 wl_good w_93 w_95 w_0 w_29 w_96 hd_X_checkReplica ⟨by decide, by decide⟩) 0 0 rfl rfl rfl (by simp) rfl rfl (Nat.le_of_ble_eq_true rfl) d_X_same_7 ⟨by decide, by decide⟩ (by decide) (by decide)
set_option maxHeartbeats 4000000 in
set_option maxRecDepth 100000 in
theorem c_insert_x2 (l : Launch) (D : va_G) (ad : Nat → Nat) (cB cI cL : ClassId) (f0 f1 f2 f3 f4 f5 f6 f7 : Nat → Int32) (v : Nat → Int64) (md ln : Int32) (a : AS) (L : List Nat) (hQ : cx_R a L f0 f1 f2 f3 f4 f5 f6 f7 v md ln) (r : Nat) (hr : r < 4) (hn1 : a_n a = 160) (t : Int32) (vv : Int64) (hl : l.stackTraces = false) : jw_Tx l D vCl (vTy cB cI cL) y_X_insert s_X_insert rm_X_insert_x [.ref (ad 0), .int (nI r), .int t, .long vv] (wX ad cB cI cL f0 f1 f2 f3 f4 f5 f6 f7 v md ln) jz_Z "java/lang/IndexOutOfBoundsException" := by
  refine jw_ofx (cc := b_X_insert) (nL := 6) (ret := (some .int)) (by decide) rfl (Nat.le_of_ble_eq_true rfl) (fun p e s m args below meth c A F hT hZ => ?_)
  refine jw_at (lv' := [(0, .ref (ad 0)), (1, .int (nI r)), (2, .int t), (3, .long vv)]) (st' := []) (ws' := wX ad cB cI cL f0 f1 f2 f3 f4 f5 f6 f7 v md ln) rfl rfl rfl ?_
  obtain ⟨hI, hA, hV, hL, hR⟩ := hQ
  have hB := cx_B_of hI
  have hn := hI.1
  obtain ⟨hM, hlen⟩ := cx_R_M hI hR
  refine jw_aload_n (pc := 0) F 0 d_X_insert_0 rfl rfl ?_
  refine jw_iload_n (pc := 1) F 1 d_X_insert_1 rfl rfl ?_
  refine jw_callV_Ev (pc := 2) (As := [.int (nI r)]) (rest := []) F ([]) ([]) (c_checkReplica l D ad cB cI cL f0 f1 f2 f3 f4 f5 f6 f7 v md ln r hr) (jw_cwV F.1.2.2.2.2 wl_good w_93 w_95 w_0 w_29 w_96 hd_X_checkReplica ⟨by decide, by decide⟩) 0 0 rfl rfl rfl (by simp) rfl rfl (Nat.le_of_ble_eq_true rfl) d_X_insert_2 ⟨rfl, rfl⟩ ⟨by decide, by decide⟩ ?_
  refine jw_aload_n (pc := 5) F 0 d_X_insert_5 rfl rfl ?_
  exact jw_xcallV (pc := 6) (As := []) (rest := []) F [] [] hT jz_ok hZ (c_checkRoom_x l D ad cB cI cL f0 f1 f2 f3 f4 f5 f6 f7 v md ln (by rw [hA.1, hn1]) hl) (jw_cwV F.1.2.2.2.2 wl_good w_165 w_167 w_2 w_29 w_168 hd_X_checkRoom ⟨by decide, by decide⟩) 0 0 rfl rfl rfl (by simp) rfl rfl (Nat.le_of_ble_eq_true rfl) d_X_insert_6 ⟨by decide, by decide⟩ (by decide) (by decide)
set_option maxHeartbeats 4000000 in
set_option maxRecDepth 100000 in
theorem c_delete_x2 (l : Launch) (D : va_G) (ad : Nat → Nat) (cB cI cL : ClassId) (f0 f1 f2 f3 f4 f5 f6 f7 : Nat → Int32) (v : Nat → Int64) (md ln : Int32) (a : AS) (L : List Nat) (hQ : cx_R a L f0 f1 f2 f3 f4 f5 f6 f7 v md ln) (r : Nat) (hr : r < 4) (hn1 : a_n a = 160) (t : Int32) (hl : l.stackTraces = false) : jw_Tx l D vCl (vTy cB cI cL) y_X_delete s_X_delete rm_X_delete_x [.ref (ad 0), .int (nI r), .int t] (wX ad cB cI cL f0 f1 f2 f3 f4 f5 f6 f7 v md ln) jz_Z "java/lang/IndexOutOfBoundsException" := by
  refine jw_ofx (cc := b_X_delete) (nL := 3) (ret := (some .int)) (by decide) rfl (Nat.le_of_ble_eq_true rfl) (fun p e s m args below meth c A F hT hZ => ?_)
  refine jw_at (lv' := [(0, .ref (ad 0)), (1, .int (nI r)), (2, .int t)]) (st' := []) (ws' := wX ad cB cI cL f0 f1 f2 f3 f4 f5 f6 f7 v md ln) rfl rfl rfl ?_
  obtain ⟨hI, hA, hV, hL, hR⟩ := hQ
  have hB := cx_B_of hI
  have hn := hI.1
  obtain ⟨hM, hlen⟩ := cx_R_M hI hR
  refine jw_aload_n (pc := 0) F 0 d_X_delete_0 rfl rfl ?_
  refine jw_iload_n (pc := 1) F 1 d_X_delete_1 rfl rfl ?_
  refine jw_callV_Ev (pc := 2) (As := [.int (nI r)]) (rest := []) F ([]) ([]) (c_checkReplica l D ad cB cI cL f0 f1 f2 f3 f4 f5 f6 f7 v md ln r hr) (jw_cwV F.1.2.2.2.2 wl_good w_93 w_95 w_0 w_29 w_96 hd_X_checkReplica ⟨by decide, by decide⟩) 0 0 rfl rfl rfl (by simp) rfl rfl (Nat.le_of_ble_eq_true rfl) d_X_delete_2 ⟨rfl, rfl⟩ ⟨by decide, by decide⟩ ?_
  refine jw_aload_n (pc := 5) F 0 d_X_delete_5 rfl rfl ?_
  exact jw_xcallV (pc := 6) (As := []) (rest := []) F [] [] hT jz_ok hZ (c_checkRoom_x l D ad cB cI cL f0 f1 f2 f3 f4 f5 f6 f7 v md ln (by rw [hA.1, hn1]) hl) (jw_cwV F.1.2.2.2.2 wl_good w_165 w_167 w_2 w_29 w_168 hd_X_checkRoom ⟨by decide, by decide⟩) 0 0 rfl rfl rfl (by simp) rfl rfl (Nat.le_of_ble_eq_true rfl) d_X_delete_6 ⟨by decide, by decide⟩ (by decide) (by decide)
set_option maxHeartbeats 4000000 in
set_option maxRecDepth 100000 in
theorem c_give_x2 (l : Launch) (D : va_G) (ad : Nat → Nat) (cB cI cL : ClassId) (f0 f1 f2 f3 f4 f5 f6 f7 : Nat → Int32) (v : Nat → Int64) (md ln : Int32) (a : AS) (L : List Nat) (hQ : cx_R a L f0 f1 f2 f3 f4 f5 f6 f7 v md ln) (r : Nat) (hr : r < 4) (t : Int32) (ht : a_isop (a_n a) t = false) (hl : l.stackTraces = false) : jw_Tx l D vCl (vTy cB cI cL) y_X_give s_X_give rm_X_give_x [.ref (ad 0), .int (nI r), .int t] (wX ad cB cI cL f0 f1 f2 f3 f4 f5 f6 f7 v md ln) jz_Z "java/lang/IndexOutOfBoundsException" := by
  refine jw_ofx (cc := b_X_give) (nL := 3) (ret := none) (by decide) rfl (Nat.le_of_ble_eq_true rfl) (fun p e s m args below meth c A F hT hZ => ?_)
  refine jw_at (lv' := [(0, .ref (ad 0)), (1, .int (nI r)), (2, .int t)]) (st' := []) (ws' := wX ad cB cI cL f0 f1 f2 f3 f4 f5 f6 f7 v md ln) rfl rfl rfl ?_
  obtain ⟨hI, hA, hV, hL, hR⟩ := hQ
  have hB := cx_B_of hI
  have hn := hI.1
  obtain ⟨hM, hlen⟩ := cx_R_M hI hR
  refine jw_aload_n (pc := 0) F 0 d_X_give_0 rfl rfl ?_
  refine jw_iload_n (pc := 1) F 1 d_X_give_1 rfl rfl ?_
  refine jw_callV_Ev (pc := 2) (As := [.int (nI r)]) (rest := []) F ([]) ([]) (c_checkReplica l D ad cB cI cL f0 f1 f2 f3 f4 f5 f6 f7 v md ln r hr) (jw_cwV F.1.2.2.2.2 wl_good w_93 w_95 w_0 w_29 w_96 hd_X_checkReplica ⟨by decide, by decide⟩) 0 0 rfl rfl rfl (by simp) rfl rfl (Nat.le_of_ble_eq_true rfl) d_X_give_2 ⟨rfl, rfl⟩ ⟨by decide, by decide⟩ ?_
  refine jw_aload_n (pc := 5) F 0 d_X_give_5 rfl rfl ?_
  refine jw_iload_n (pc := 6) F 2 d_X_give_6 rfl rfl ?_
  exact jw_xcallV (pc := 7) (As := [.int t]) (rest := []) F [] [] hT jz_ok hZ (c_checkOperation_x l D ad cB cI cL f0 f1 f2 f3 f4 f5 f6 f7 v md ln (a_n a) hA.1 t ht hl) (jw_cwV F.1.2.2.2.2 wl_good w_257 w_259 w_12 w_29 w_260 hd_X_checkOperation ⟨by decide, by decide⟩) 0 0 rfl rfl rfl (by simp) rfl rfl (Nat.le_of_ble_eq_true rfl) d_X_give_7 ⟨by decide, by decide⟩ (by decide) (by decide)
set_option maxHeartbeats 4000000 in
set_option maxRecDepth 100000 in
theorem c_holds_x2 (l : Launch) (D : va_G) (ad : Nat → Nat) (cB cI cL : ClassId) (f0 f1 f2 f3 f4 f5 f6 f7 : Nat → Int32) (v : Nat → Int64) (md ln : Int32) (a : AS) (L : List Nat) (hQ : cx_R a L f0 f1 f2 f3 f4 f5 f6 f7 v md ln) (r : Nat) (hr : r < 4) (t : Int32) (ht : a_isop (a_n a) t = false) (hl : l.stackTraces = false) : jw_Tx l D vCl (vTy cB cI cL) y_X_holds s_X_holds rm_X_holds_x [.ref (ad 0), .int (nI r), .int t] (wX ad cB cI cL f0 f1 f2 f3 f4 f5 f6 f7 v md ln) jz_Z "java/lang/IndexOutOfBoundsException" := by
  refine jw_ofx (cc := b_X_holds) (nL := 3) (ret := (some .boolean)) (by decide) rfl (Nat.le_of_ble_eq_true rfl) (fun p e s m args below meth c A F hT hZ => ?_)
  refine jw_at (lv' := [(0, .ref (ad 0)), (1, .int (nI r)), (2, .int t)]) (st' := []) (ws' := wX ad cB cI cL f0 f1 f2 f3 f4 f5 f6 f7 v md ln) rfl rfl rfl ?_
  obtain ⟨hI, hA, hV, hL, hR⟩ := hQ
  have hB := cx_B_of hI
  have hn := hI.1
  obtain ⟨hM, hlen⟩ := cx_R_M hI hR
  refine jw_aload_n (pc := 0) F 0 d_X_holds_0 rfl rfl ?_
  refine jw_iload_n (pc := 1) F 1 d_X_holds_1 rfl rfl ?_
  refine jw_callV_Ev (pc := 2) (As := [.int (nI r)]) (rest := []) F ([]) ([]) (c_checkReplica l D ad cB cI cL f0 f1 f2 f3 f4 f5 f6 f7 v md ln r hr) (jw_cwV F.1.2.2.2.2 wl_good w_93 w_95 w_0 w_29 w_96 hd_X_checkReplica ⟨by decide, by decide⟩) 0 0 rfl rfl rfl (by simp) rfl rfl (Nat.le_of_ble_eq_true rfl) d_X_holds_2 ⟨rfl, rfl⟩ ⟨by decide, by decide⟩ ?_
  refine jw_aload_n (pc := 5) F 0 d_X_holds_5 rfl rfl ?_
  refine jw_iload_n (pc := 6) F 2 d_X_holds_6 rfl rfl ?_
  exact jw_xcallV (pc := 7) (As := [.int t]) (rest := []) F [] [] hT jz_ok hZ (c_checkOperation_x l D ad cB cI cL f0 f1 f2 f3 f4 f5 f6 f7 v md ln (a_n a) hA.1 t ht hl) (jw_cwV F.1.2.2.2.2 wl_good w_257 w_259 w_12 w_29 w_260 hd_X_checkOperation ⟨by decide, by decide⟩) 0 0 rfl rfl rfl (by simp) rfl rfl (Nat.le_of_ble_eq_true rfl) d_X_holds_7 ⟨by decide, by decide⟩ (by decide) (by decide)
set_option maxHeartbeats 4000000 in
set_option maxRecDepth 100000 in
theorem c_place_x2 (l : Launch) (D : va_G) (ad : Nat → Nat) (cB cI cL : ClassId) (f0 f1 f2 f3 f4 f5 f6 f7 : Nat → Int32) (v : Nat → Int64) (md ln : Int32) (a : AS) (L : List Nat) (hQ : cx_R a L f0 f1 f2 f3 f4 f5 f6 f7 v md ln) (r : Nat) (hr : r < 4) (t : Int32) (ht : a_isop (a_n a) t = false) (hl : l.stackTraces = false) : jw_Tx l D vCl (vTy cB cI cL) y_X_place s_X_place rm_X_place_x [.ref (ad 0), .int (nI r), .int t] (wX ad cB cI cL f0 f1 f2 f3 f4 f5 f6 f7 v md ln) jz_Z "java/lang/IndexOutOfBoundsException" := by
  refine jw_ofx (cc := b_X_place) (nL := 5) (ret := (some .int)) (by decide) rfl (Nat.le_of_ble_eq_true rfl) (fun p e s m args below meth c A F hT hZ => ?_)
  refine jw_at (lv' := [(0, .ref (ad 0)), (1, .int (nI r)), (2, .int t)]) (st' := []) (ws' := wX ad cB cI cL f0 f1 f2 f3 f4 f5 f6 f7 v md ln) rfl rfl rfl ?_
  obtain ⟨hI, hA, hV, hL, hR⟩ := hQ
  have hB := cx_B_of hI
  have hn := hI.1
  obtain ⟨hM, hlen⟩ := cx_R_M hI hR
  refine jw_aload_n (pc := 0) F 0 d_X_place_0 rfl rfl ?_
  refine jw_iload_n (pc := 1) F 1 d_X_place_1 rfl rfl ?_
  refine jw_callV_Ev (pc := 2) (As := [.int (nI r)]) (rest := []) F ([]) ([]) (c_checkReplica l D ad cB cI cL f0 f1 f2 f3 f4 f5 f6 f7 v md ln r hr) (jw_cwV F.1.2.2.2.2 wl_good w_93 w_95 w_0 w_29 w_96 hd_X_checkReplica ⟨by decide, by decide⟩) 0 0 rfl rfl rfl (by simp) rfl rfl (Nat.le_of_ble_eq_true rfl) d_X_place_2 ⟨rfl, rfl⟩ ⟨by decide, by decide⟩ ?_
  refine jw_aload_n (pc := 5) F 0 d_X_place_5 rfl rfl ?_
  refine jw_iload_n (pc := 6) F 2 d_X_place_6 rfl rfl ?_
  exact jw_xcallV (pc := 7) (As := [.int t]) (rest := []) F [] [] hT jz_ok hZ (c_checkOperation_x l D ad cB cI cL f0 f1 f2 f3 f4 f5 f6 f7 v md ln (a_n a) hA.1 t ht hl) (jw_cwV F.1.2.2.2.2 wl_good w_257 w_259 w_12 w_29 w_260 hd_X_checkOperation ⟨by decide, by decide⟩) 0 0 rfl rfl rfl (by simp) rfl rfl (Nat.le_of_ble_eq_true rfl) d_X_place_7 ⟨by decide, by decide⟩ (by decide) (by decide)
set_option maxHeartbeats 4000000 in
set_option maxRecDepth 100000 in
theorem c_stamp_x2 (l : Launch) (D : va_G) (ad : Nat → Nat) (cB cI cL : ClassId) (f0 f1 f2 f3 f4 f5 f6 f7 : Nat → Int32) (v : Nat → Int64) (md ln : Int32) (a : AS) (L : List Nat) (hQ : cx_R a L f0 f1 f2 f3 f4 f5 f6 f7 v md ln) (t : Int32) (ht : a_isop (a_n a) t = false) (hl : l.stackTraces = false) : jw_Tx l D vCl (vTy cB cI cL) y_X_stamp s_X_stamp rm_X_stamp_x [.ref (ad 0), .int t] (wX ad cB cI cL f0 f1 f2 f3 f4 f5 f6 f7 v md ln) jz_Z "java/lang/IndexOutOfBoundsException" := by
  refine jw_ofx (cc := b_X_stamp) (nL := 2) (ret := (some .int)) (by decide) rfl (Nat.le_of_ble_eq_true rfl) (fun p e s m args below meth c A F hT hZ => ?_)
  refine jw_at (lv' := [(0, .ref (ad 0)), (1, .int t)]) (st' := []) (ws' := wX ad cB cI cL f0 f1 f2 f3 f4 f5 f6 f7 v md ln) rfl rfl rfl ?_
  obtain ⟨hI, hA, hV, hL, hR⟩ := hQ
  have hB := cx_B_of hI
  have hn := hI.1
  obtain ⟨hM, hlen⟩ := cx_R_M hI hR
  refine jw_aload_n (pc := 0) F 0 d_X_stamp_0 rfl rfl ?_
  refine jw_iload_n (pc := 1) F 1 d_X_stamp_1 rfl rfl ?_
  exact jw_xcallV (pc := 2) (As := [.int t]) (rest := []) F [] [] hT jz_ok hZ (c_checkOperation_x l D ad cB cI cL f0 f1 f2 f3 f4 f5 f6 f7 v md ln (a_n a) hA.1 t ht hl) (jw_cwV F.1.2.2.2.2 wl_good w_257 w_259 w_12 w_29 w_260 hd_X_checkOperation ⟨by decide, by decide⟩) 0 0 rfl rfl rfl (by simp) rfl rfl (Nat.le_of_ble_eq_true rfl) d_X_stamp_2 ⟨by decide, by decide⟩ (by decide) (by decide)
set_option maxHeartbeats 4000000 in
set_option maxRecDepth 100000 in
theorem c_value_x2 (l : Launch) (D : va_G) (ad : Nat → Nat) (cB cI cL : ClassId) (f0 f1 f2 f3 f4 f5 f6 f7 : Nat → Int32) (v : Nat → Int64) (md ln : Int32) (a : AS) (L : List Nat) (hQ : cx_R a L f0 f1 f2 f3 f4 f5 f6 f7 v md ln) (t : Int32) (ht : a_isel a t = false) (hl : l.stackTraces = false) : jw_Tx l D vCl (vTy cB cI cL) y_X_value s_X_value rm_X_value_x [.ref (ad 0), .int t] (wX ad cB cI cL f0 f1 f2 f3 f4 f5 f6 f7 v md ln) jz_Z "java/lang/IndexOutOfBoundsException" := by
  refine jw_ofx (cc := b_X_value) (nL := 2) (ret := (some .long)) (by decide) rfl (Nat.le_of_ble_eq_true rfl) (fun p e s m args below meth c A F hT hZ => ?_)
  refine jw_at (lv' := [(0, .ref (ad 0)), (1, .int t)]) (st' := []) (ws' := wX ad cB cI cL f0 f1 f2 f3 f4 f5 f6 f7 v md ln) rfl rfl rfl ?_
  obtain ⟨hI, hA, hV, hL, hR⟩ := hQ
  have hB := cx_B_of hI
  have hn := hI.1
  obtain ⟨hM, hlen⟩ := cx_R_M hI hR
  refine jw_aload_n (pc := 0) F 0 d_X_value_0 rfl rfl ?_
  refine jw_iload_n (pc := 1) F 1 d_X_value_1 rfl rfl ?_
  refine jw_callV_Ei (pc := 2) (As := [.int t]) (rest := []) F ([]) ([]) (c_isElement l D ad cB cI cL f0 f1 f2 f3 f4 f5 f6 f7 v md ln a hB hA t) (jw_cwV F.1.2.2.2.2 wl_good w_189 w_191 w_4 w_29 w_192 hd_X_isElement ⟨by decide, by decide⟩) 0 0 rfl rfl rfl (by simp) rfl rfl (Nat.le_of_ble_eq_true rfl) d_X_value_2 ⟨rfl, rfl⟩ ⟨by decide, by decide⟩ ?_
  refine jw_if_ne (pc := 5) F 18 d_X_value_5 (by decide) (fun hz1 => False.elim (absurd ht (by rw [jb_n.mp hz1]; decide))) (fun hz1 => ?_)
  obtain ⟨sa, hsa⟩ := hZ.2.2.2.2.2.2.2.1
  exact jw_throw (pc := 8) (names := ["java/lang/RuntimeException", "java/lang/Exception"]) F hT hl (by decide +kernel) (by decide +kernel) (jm w_169) (jm w_35) hsa (jz_hatIOB F.1.2.2.2.2 hZ) jz_otIOB hZ.1 hZ.2.1 d_X_value_8 d_X_value_11 d_X_value_12 d_X_value_14 d_X_value_17 (by decide) (Nat.le_of_ble_eq_true rfl) (by decide) (by decide) (by decide) (by decide)
set_option maxHeartbeats 4000000 in
set_option maxRecDepth 100000 in
theorem c_insert_x3 (l : Launch) (D : va_G) (ad : Nat → Nat) (cB cI cL : ClassId) (f0 f1 f2 f3 f4 f5 f6 f7 : Nat → Int32) (v : Nat → Int64) (md ln : Int32) (a : AS) (L : List Nat) (hQ : cx_R a L f0 f1 f2 f3 f4 f5 f6 f7 v md ln) (r : Nat) (hr : r < 4) (hn1 : a_n a < 160) (t : Int32) (vv : Int64) (ht : ¬ t = -1) (hh : a_haseB a r t = false) (hl : l.stackTraces = false) : jw_Tx l D vCl (vTy cB cI cL) y_X_insert s_X_insert rm_X_insert_x [.ref (ad 0), .int (nI r), .int t, .long vv] (wX ad cB cI cL f0 f1 f2 f3 f4 f5 f6 f7 v md ln) jz_Z "java/lang/IllegalStateException" := by
  refine jw_ofx (cc := b_X_insert) (nL := 6) (ret := (some .int)) (by decide) rfl (Nat.le_of_ble_eq_true rfl) (fun p e s m args below meth c A F hT hZ => ?_)
  refine jw_at (lv' := [(0, .ref (ad 0)), (1, .int (nI r)), (2, .int t), (3, .long vv)]) (st' := []) (ws' := wX ad cB cI cL f0 f1 f2 f3 f4 f5 f6 f7 v md ln) rfl rfl rfl ?_
  obtain ⟨hI, hA, hV, hL, hR⟩ := hQ
  have hB := cx_B_of hI
  have hn := hI.1
  obtain ⟨hM, hlen⟩ := cx_R_M hI hR
  refine jw_aload_n (pc := 0) F 0 d_X_insert_0 rfl rfl ?_
  refine jw_iload_n (pc := 1) F 1 d_X_insert_1 rfl rfl ?_
  refine jw_callV_Ev (pc := 2) (As := [.int (nI r)]) (rest := []) F ([]) ([]) (c_checkReplica l D ad cB cI cL f0 f1 f2 f3 f4 f5 f6 f7 v md ln r hr) (jw_cwV F.1.2.2.2.2 wl_good w_93 w_95 w_0 w_29 w_96 hd_X_checkReplica ⟨by decide, by decide⟩) 0 0 rfl rfl rfl (by simp) rfl rfl (Nat.le_of_ble_eq_true rfl) d_X_insert_2 ⟨rfl, rfl⟩ ⟨by decide, by decide⟩ ?_
  refine jw_aload_n (pc := 5) F 0 d_X_insert_5 rfl rfl ?_
  refine jw_callV_Ev (pc := 6) (As := []) (rest := []) F ([]) ([]) (c_checkRoom l D ad cB cI cL f0 f1 f2 f3 f4 f5 f6 f7 v md ln (a_n a) hA.1 hn1) (jw_cwV F.1.2.2.2.2 wl_good w_165 w_167 w_2 w_29 w_168 hd_X_checkRoom ⟨by decide, by decide⟩) 0 0 rfl rfl rfl (by simp) rfl rfl (Nat.le_of_ble_eq_true rfl) d_X_insert_6 ⟨rfl, rfl⟩ ⟨by decide, by decide⟩ ?_
  refine jw_iload_n (pc := 9) F 2 d_X_insert_9 rfl rfl ?_
  refine jw_iconst (pc := 10) (v := -1) F d_X_insert_10 (by decide) ?_
  refine jw_icmp_eq (pc := 11) F 20 d_X_insert_11 (by decide) (fun hz1 => False.elim (ht hz1)) (fun hz1 => ?_)
  refine jw_aload_n (pc := 14) F 0 d_X_insert_14 rfl rfl ?_
  refine jw_iload_n (pc := 15) F 1 d_X_insert_15 rfl rfl ?_
  refine jw_iload_n (pc := 16) F 2 d_X_insert_16 rfl rfl ?_
  exact jw_xcallV (pc := 17) (As := [.int (nI r), .int t]) (rest := []) F [] [] hT jz_ok hZ (c_checkHeldElement_x l D ad cB cI cL f0 f1 f2 f3 f4 f5 f6 f7 v md ln a hB hA r hr t hh hl) (jw_cwV F.1.2.2.2.2 wl_good w_185 w_187 w_3 w_29 w_188 hd_X_checkHeldElement ⟨by decide, by decide⟩) 0 0 rfl rfl rfl (by simp) rfl rfl (Nat.le_of_ble_eq_true rfl) d_X_insert_17 ⟨by decide, by decide⟩ (by decide) (by decide)
set_option maxHeartbeats 4000000 in
set_option maxRecDepth 100000 in
theorem c_delete_x3 (l : Launch) (D : va_G) (ad : Nat → Nat) (cB cI cL : ClassId) (f0 f1 f2 f3 f4 f5 f6 f7 : Nat → Int32) (v : Nat → Int64) (md ln : Int32) (a : AS) (L : List Nat) (hQ : cx_R a L f0 f1 f2 f3 f4 f5 f6 f7 v md ln) (r : Nat) (hr : r < 4) (hn1 : a_n a < 160) (t : Int32) (hh : a_haseB a r t = false) (hl : l.stackTraces = false) : jw_Tx l D vCl (vTy cB cI cL) y_X_delete s_X_delete rm_X_delete_x [.ref (ad 0), .int (nI r), .int t] (wX ad cB cI cL f0 f1 f2 f3 f4 f5 f6 f7 v md ln) jz_Z "java/lang/IllegalStateException" := by
  refine jw_ofx (cc := b_X_delete) (nL := 3) (ret := (some .int)) (by decide) rfl (Nat.le_of_ble_eq_true rfl) (fun p e s m args below meth c A F hT hZ => ?_)
  refine jw_at (lv' := [(0, .ref (ad 0)), (1, .int (nI r)), (2, .int t)]) (st' := []) (ws' := wX ad cB cI cL f0 f1 f2 f3 f4 f5 f6 f7 v md ln) rfl rfl rfl ?_
  obtain ⟨hI, hA, hV, hL, hR⟩ := hQ
  have hB := cx_B_of hI
  have hn := hI.1
  obtain ⟨hM, hlen⟩ := cx_R_M hI hR
  refine jw_aload_n (pc := 0) F 0 d_X_delete_0 rfl rfl ?_
  refine jw_iload_n (pc := 1) F 1 d_X_delete_1 rfl rfl ?_
  refine jw_callV_Ev (pc := 2) (As := [.int (nI r)]) (rest := []) F ([]) ([]) (c_checkReplica l D ad cB cI cL f0 f1 f2 f3 f4 f5 f6 f7 v md ln r hr) (jw_cwV F.1.2.2.2.2 wl_good w_93 w_95 w_0 w_29 w_96 hd_X_checkReplica ⟨by decide, by decide⟩) 0 0 rfl rfl rfl (by simp) rfl rfl (Nat.le_of_ble_eq_true rfl) d_X_delete_2 ⟨rfl, rfl⟩ ⟨by decide, by decide⟩ ?_
  refine jw_aload_n (pc := 5) F 0 d_X_delete_5 rfl rfl ?_
  refine jw_callV_Ev (pc := 6) (As := []) (rest := []) F ([]) ([]) (c_checkRoom l D ad cB cI cL f0 f1 f2 f3 f4 f5 f6 f7 v md ln (a_n a) hA.1 hn1) (jw_cwV F.1.2.2.2.2 wl_good w_165 w_167 w_2 w_29 w_168 hd_X_checkRoom ⟨by decide, by decide⟩) 0 0 rfl rfl rfl (by simp) rfl rfl (Nat.le_of_ble_eq_true rfl) d_X_delete_6 ⟨rfl, rfl⟩ ⟨by decide, by decide⟩ ?_
  refine jw_aload_n (pc := 9) F 0 d_X_delete_9 rfl rfl ?_
  refine jw_iload_n (pc := 10) F 1 d_X_delete_10 rfl rfl ?_
  refine jw_iload_n (pc := 11) F 2 d_X_delete_11 rfl rfl ?_
  exact jw_xcallV (pc := 12) (As := [.int (nI r), .int t]) (rest := []) F [] [] hT jz_ok hZ (c_checkHeldElement_x l D ad cB cI cL f0 f1 f2 f3 f4 f5 f6 f7 v md ln a hB hA r hr t hh hl) (jw_cwV F.1.2.2.2.2 wl_good w_185 w_187 w_3 w_29 w_188 hd_X_checkHeldElement ⟨by decide, by decide⟩) 0 0 rfl rfl rfl (by simp) rfl rfl (Nat.le_of_ble_eq_true rfl) d_X_delete_12 ⟨by decide, by decide⟩ (by decide) (by decide)
set_option maxHeartbeats 4000000 in
set_option maxRecDepth 100000 in
theorem c_give_x3 (l : Launch) (D : va_G) (ad : Nat → Nat) (cB cI cL : ClassId) (f0 f1 f2 f3 f4 f5 f6 f7 : Nat → Int32) (v : Nat → Int64) (md ln : Int32) (a : AS) (L : List Nat) (hQ : cx_R a L f0 f1 f2 f3 f4 f5 f6 f7 v md ln) (r : Nat) (hr : r < 4) (k : Nat) (hk : k < a_n a) (ht : ¬ a_tg a k = -1) (hh : a_haseB a r (a_tg a k) = false) (hl : l.stackTraces = false) : jw_Tx l D vCl (vTy cB cI cL) y_X_give s_X_give rm_X_give_x [.ref (ad 0), .int (nI r), .int (nI k)] (wX ad cB cI cL f0 f1 f2 f3 f4 f5 f6 f7 v md ln) jz_Z "java/lang/IllegalStateException" := by
  refine jw_ofx (cc := b_X_give) (nL := 3) (ret := none) (by decide) rfl (Nat.le_of_ble_eq_true rfl) (fun p e s m args below meth c A F hT hZ => ?_)
  refine jw_at (lv' := [(0, .ref (ad 0)), (1, .int (nI r)), (2, .int (nI k))]) (st' := []) (ws' := wX ad cB cI cL f0 f1 f2 f3 f4 f5 f6 f7 v md ln) rfl rfl rfl ?_
  obtain ⟨hI, hA, hV, hL, hR⟩ := hQ
  have hB := cx_B_of hI
  have hn := hI.1
  obtain ⟨hM, hlen⟩ := cx_R_M hI hR
  refine jw_aload_n (pc := 0) F 0 d_X_give_0 rfl rfl ?_
  refine jw_iload_n (pc := 1) F 1 d_X_give_1 rfl rfl ?_
  refine jw_callV_Ev (pc := 2) (As := [.int (nI r)]) (rest := []) F ([]) ([]) (c_checkReplica l D ad cB cI cL f0 f1 f2 f3 f4 f5 f6 f7 v md ln r hr) (jw_cwV F.1.2.2.2.2 wl_good w_93 w_95 w_0 w_29 w_96 hd_X_checkReplica ⟨by decide, by decide⟩) 0 0 rfl rfl rfl (by simp) rfl rfl (Nat.le_of_ble_eq_true rfl) d_X_give_2 ⟨rfl, rfl⟩ ⟨by decide, by decide⟩ ?_
  refine jw_aload_n (pc := 5) F 0 d_X_give_5 rfl rfl ?_
  refine jw_iload_n (pc := 6) F 2 d_X_give_6 rfl rfl ?_
  refine jw_callV_Ev (pc := 7) (As := [.int (nI k)]) (rest := []) F ([]) ([]) (c_checkOperation l D ad cB cI cL f0 f1 f2 f3 f4 f5 f6 f7 v md ln (a_n a) hA.1 (nI k) (a_isop_nI (by omega) hk)) (jw_cwV F.1.2.2.2.2 wl_good w_257 w_259 w_12 w_29 w_260 hd_X_checkOperation ⟨by decide, by decide⟩) 0 0 rfl rfl rfl (by simp) rfl rfl (Nat.le_of_ble_eq_true rfl) d_X_give_7 ⟨rfl, rfl⟩ ⟨by decide, by decide⟩ ?_
  refine jw_aload_n (pc := 10) F 0 d_X_give_10 rfl rfl ?_
  refine jw_get (pc := 11) F (jms inX) 0 rfl rfl 2 (by decide) (jm w_48) rfl d_X_give_11 ?_
  refine jw_iload_n (pc := 14) F 2 d_X_give_14 rfl rfl ?_
  refine jw_ialdN (pc := 15) F 2 1 rfl rfl k rfl (by omega) (by decide) d_X_give_15 ?_
  rw [hA.2.2.1 k hk]
  refine jw_iconst (pc := 16) (v := -1) F d_X_give_16 (by decide) ?_
  refine jw_icmp_eq (pc := 17) F 31 d_X_give_17 (by decide) (fun hz1 => False.elim (ht hz1)) (fun hz1 => ?_)
  refine jw_aload_n (pc := 20) F 0 d_X_give_20 rfl rfl ?_
  refine jw_iload_n (pc := 21) F 1 d_X_give_21 rfl rfl ?_
  refine jw_aload_n (pc := 22) F 0 d_X_give_22 rfl rfl ?_
  refine jw_get (pc := 23) F (jms inX) 0 rfl rfl 2 (by decide) (jm w_48) rfl d_X_give_23 ?_
  refine jw_iload_n (pc := 26) F 2 d_X_give_26 rfl rfl ?_
  refine jw_ialdN (pc := 27) F 2 1 rfl rfl k rfl (by omega) (by decide) d_X_give_27 ?_
  rw [hA.2.2.1 k hk]
  exact jw_xcallV (pc := 28) (As := [.int (nI r), .int (a_tg a k)]) (rest := []) F [] [] hT jz_ok hZ (c_checkHeldElement_x l D ad cB cI cL f0 f1 f2 f3 f4 f5 f6 f7 v md ln a hB hA r hr (a_tg a k) hh hl) (jw_cwV F.1.2.2.2.2 wl_good w_185 w_187 w_3 w_29 w_188 hd_X_checkHeldElement ⟨by decide, by decide⟩) 0 0 rfl rfl rfl (by simp) rfl rfl (Nat.le_of_ble_eq_true rfl) d_X_give_28 ⟨by decide, by decide⟩ (by decide) (by decide)
set_option maxHeartbeats 4000000 in
set_option maxRecDepth 100000 in
theorem c_place_x3 (l : Launch) (D : va_G) (ad : Nat → Nat) (cB cI cL : ClassId) (f0 f1 f2 f3 f4 f5 f6 f7 : Nat → Int32) (v : Nat → Int64) (md ln : Int32) (a : AS) (L : List Nat) (hQ : cx_R a L f0 f1 f2 f3 f4 f5 f6 f7 v md ln) (r : Nat) (hr : r < 4) (t : Int32) (ht : a_isop (a_n a) t = true) (hh : a_haseB a r t = false) (hl : l.stackTraces = false) : jw_Tx l D vCl (vTy cB cI cL) y_X_place s_X_place rm_X_place_x [.ref (ad 0), .int (nI r), .int t] (wX ad cB cI cL f0 f1 f2 f3 f4 f5 f6 f7 v md ln) jz_Z "java/lang/IllegalStateException" := by
  refine jw_ofx (cc := b_X_place) (nL := 5) (ret := (some .int)) (by decide) rfl (Nat.le_of_ble_eq_true rfl) (fun p e s m args below meth c A F hT hZ => ?_)
  refine jw_at (lv' := [(0, .ref (ad 0)), (1, .int (nI r)), (2, .int t)]) (st' := []) (ws' := wX ad cB cI cL f0 f1 f2 f3 f4 f5 f6 f7 v md ln) rfl rfl rfl ?_
  obtain ⟨hI, hA, hV, hL, hR⟩ := hQ
  have hB := cx_B_of hI
  have hn := hI.1
  obtain ⟨hM, hlen⟩ := cx_R_M hI hR
  refine jw_aload_n (pc := 0) F 0 d_X_place_0 rfl rfl ?_
  refine jw_iload_n (pc := 1) F 1 d_X_place_1 rfl rfl ?_
  refine jw_callV_Ev (pc := 2) (As := [.int (nI r)]) (rest := []) F ([]) ([]) (c_checkReplica l D ad cB cI cL f0 f1 f2 f3 f4 f5 f6 f7 v md ln r hr) (jw_cwV F.1.2.2.2.2 wl_good w_93 w_95 w_0 w_29 w_96 hd_X_checkReplica ⟨by decide, by decide⟩) 0 0 rfl rfl rfl (by simp) rfl rfl (Nat.le_of_ble_eq_true rfl) d_X_place_2 ⟨rfl, rfl⟩ ⟨by decide, by decide⟩ ?_
  refine jw_aload_n (pc := 5) F 0 d_X_place_5 rfl rfl ?_
  refine jw_iload_n (pc := 6) F 2 d_X_place_6 rfl rfl ?_
  refine jw_callV_Ev (pc := 7) (As := [.int t]) (rest := []) F ([]) ([]) (c_checkOperation l D ad cB cI cL f0 f1 f2 f3 f4 f5 f6 f7 v md ln (a_n a) hA.1 t ht) (jw_cwV F.1.2.2.2.2 wl_good w_257 w_259 w_12 w_29 w_260 hd_X_checkOperation ⟨by decide, by decide⟩) 0 0 rfl rfl rfl (by simp) rfl rfl (Nat.le_of_ble_eq_true rfl) d_X_place_7 ⟨rfl, rfl⟩ ⟨by decide, by decide⟩ ?_
  refine jw_aload_n (pc := 10) F 0 d_X_place_10 rfl rfl ?_
  refine jw_iload_n (pc := 11) F 1 d_X_place_11 rfl rfl ?_
  refine jw_iload_n (pc := 12) F 2 d_X_place_12 rfl rfl ?_
  exact jw_xcallV (pc := 13) (As := [.int (nI r), .int t]) (rest := []) F [] [] hT jz_ok hZ (c_checkHeldElement_x l D ad cB cI cL f0 f1 f2 f3 f4 f5 f6 f7 v md ln a hB hA r hr t hh hl) (jw_cwV F.1.2.2.2.2 wl_good w_185 w_187 w_3 w_29 w_188 hd_X_checkHeldElement ⟨by decide, by decide⟩) 0 0 rfl rfl rfl (by simp) rfl rfl (Nat.le_of_ble_eq_true rfl) d_X_place_13 ⟨by decide, by decide⟩ (by decide) (by decide)
set_option maxHeartbeats 4000000 in
set_option maxRecDepth 100000 in
theorem c_count_x2 (l : Launch) (D : va_G) (ad : Nat → Nat) (cB cI cL : ClassId) (f0 f1 f2 f3 f4 f5 f6 f7 : Nat → Int32) (v : Nat → Int64) (md ln : Int32) (a : AS) (L : List Nat) (hQ : cx_R a L f0 f1 f2 f3 f4 f5 f6 f7 v md ln) (r : Nat) (hr : r < 4) (t : Int32) (ht : a_isop 4 t = false) (hl : l.stackTraces = false) : jw_Tx l D vCl (vTy cB cI cL) y_X_count s_X_count rm_X_count_x [.ref (ad 0), .int (nI r), .int t] (wX ad cB cI cL f0 f1 f2 f3 f4 f5 f6 f7 v md ln) jz_Z "java/lang/IllegalArgumentException" := by
  refine jw_ofx (cc := b_X_count) (nL := 3) (ret := (some .int)) (by decide) rfl (Nat.le_of_ble_eq_true rfl) (fun p e s m args below meth c A F hT hZ => ?_)
  refine jw_at (lv' := [(0, .ref (ad 0)), (1, .int (nI r)), (2, .int t)]) (st' := []) (ws' := wX ad cB cI cL f0 f1 f2 f3 f4 f5 f6 f7 v md ln) rfl rfl rfl ?_
  refine jw_aload_n (pc := 0) F 0 d_X_count_0 rfl rfl ?_
  refine jw_iload_n (pc := 1) F 1 d_X_count_1 rfl rfl ?_
  refine jw_callV_Ev (pc := 2) (As := [.int (nI r)]) (rest := []) F ([]) ([]) (c_checkReplica l D ad cB cI cL f0 f1 f2 f3 f4 f5 f6 f7 v md ln r hr) (jw_cwV F.1.2.2.2.2 wl_good w_93 w_95 w_0 w_29 w_96 hd_X_checkReplica ⟨by decide, by decide⟩) 0 0 rfl rfl rfl (by simp) rfl rfl (Nat.le_of_ble_eq_true rfl) d_X_count_2 ⟨rfl, rfl⟩ ⟨by decide, by decide⟩ ?_
  refine jw_iload_n (pc := 5) F 2 d_X_count_5 rfl rfl ?_
  refine jw_tableOut (pc := 6) F 61 d_X_count_6 (gl_out4 ht) (by decide) ?_
  obtain ⟨sa, hsa⟩ := hZ.2.2.2.2.2.2.2.2
  exact jw_throw (pc := 61) (names := ["java/lang/RuntimeException", "java/lang/Exception"]) F hT hl (by decide +kernel) (by decide +kernel) (jm w_97) (jm w_34) hsa (jz_hatIAE F.1.2.2.2.2 hZ) jz_otIAE hZ.1 hZ.2.1 d_X_count_61 d_X_count_64 d_X_count_65 d_X_count_67 d_X_count_70 (by decide) (Nat.le_of_ble_eq_true rfl) (by decide) (by decide) (by decide) (by decide)
end
section
theorem d_M_init_0 : decode b_M_init 0 = .ok (.aload_n 0, 1) := by decide +kernel
theorem d_M_init_1 : decode b_M_init 1 = .ok (.invokespecial 1, 3) := by decide +kernel
theorem d_M_init_4 : decode b_M_init 4 = .ok (.aload_n 0, 1) := by decide +kernel
theorem d_M_init_5 : decode b_M_init 5 = .ok (.sipush 160, 3) := by decide +kernel
theorem d_M_init_8 : decode b_M_init 8 = .ok (.newarray .int, 2) := by decide +kernel
theorem d_M_init_10 : decode b_M_init 10 = .ok (.putfield 9, 3) := by decide +kernel
theorem d_M_init_13 : decode b_M_init 13 = .ok (.aload_n 0, 1) := by decide +kernel
theorem d_M_init_14 : decode b_M_init 14 = .ok (.sipush 160, 3) := by decide +kernel
theorem d_M_init_17 : decode b_M_init 17 = .ok (.newarray .int, 2) := by decide +kernel
theorem d_M_init_19 : decode b_M_init 19 = .ok (.putfield 13, 3) := by decide +kernel
theorem d_M_init_22 : decode b_M_init 22 = .ok (.aload_n 0, 1) := by decide +kernel
theorem d_M_init_23 : decode b_M_init 23 = .ok (.sipush 160, 3) := by decide +kernel
theorem d_M_init_26 : decode b_M_init 26 = .ok (.newarray .int, 2) := by decide +kernel
theorem d_M_init_28 : decode b_M_init 28 = .ok (.putfield 16, 3) := by decide +kernel
theorem d_M_init_31 : decode b_M_init 31 = .ok (.aload_n 0, 1) := by decide +kernel
theorem d_M_init_32 : decode b_M_init 32 = .ok (.sipush 160, 3) := by decide +kernel
theorem d_M_init_35 : decode b_M_init 35 = .ok (.newarray .long, 2) := by decide +kernel
theorem d_M_init_37 : decode b_M_init 37 = .ok (.putfield 19, 3) := by decide +kernel
theorem d_M_init_40 : decode b_M_init 40 = .ok (.aload_n 0, 1) := by decide +kernel
theorem d_M_init_41 : decode b_M_init 41 = .ok (.sipush 160, 3) := by decide +kernel
theorem d_M_init_44 : decode b_M_init 44 = .ok (.newarray .boolean, 2) := by decide +kernel
theorem d_M_init_46 : decode b_M_init 46 = .ok (.putfield 23, 3) := by decide +kernel
theorem d_M_init_49 : decode b_M_init 49 = .ok (.aload_n 0, 1) := by decide +kernel
theorem d_M_init_50 : decode b_M_init 50 = .ok (.sipush 640, 3) := by decide +kernel
theorem d_M_init_53 : decode b_M_init 53 = .ok (.newarray .boolean, 2) := by decide +kernel
theorem d_M_init_55 : decode b_M_init 55 = .ok (.putfield 27, 3) := by decide +kernel
theorem d_M_init_58 : decode b_M_init 58 = .ok (.aload_n 0, 1) := by decide +kernel
theorem d_M_init_59 : decode b_M_init 59 = .ok (.sipush 160, 3) := by decide +kernel
theorem d_M_init_62 : decode b_M_init 62 = .ok (.newarray .int, 2) := by decide +kernel
theorem d_M_init_64 : decode b_M_init 64 = .ok (.putfield 30, 3) := by decide +kernel
theorem d_M_init_67 : decode b_M_init 67 = .ok (.aload_n 0, 1) := by decide +kernel
theorem d_M_init_68 : decode b_M_init 68 = .ok (.sipush 161, 3) := by decide +kernel
theorem d_M_init_71 : decode b_M_init 71 = .ok (.newarray .int, 2) := by decide +kernel
theorem d_M_init_73 : decode b_M_init 73 = .ok (.putfield 33, 3) := by decide +kernel
theorem d_M_init_76 : decode b_M_init 76 = .ok (.aload_n 0, 1) := by decide +kernel
theorem d_M_init_77 : decode b_M_init 77 = .ok (.sipush 160, 3) := by decide +kernel
theorem d_M_init_80 : decode b_M_init 80 = .ok (.newarray .int, 2) := by decide +kernel
theorem d_M_init_82 : decode b_M_init 82 = .ok (.putfield 36, 3) := by decide +kernel
theorem d_M_init_85 : decode b_M_init 85 = .ok (.return_, 1) := by decide +kernel
theorem d_M_thrown_0 : decode b_M_thrown 0 = .ok (.aload_n 0, 1) := by decide +kernel
theorem d_M_thrown_1 : decode b_M_thrown 1 = .ok (.getfield 39, 3) := by decide +kernel
theorem d_M_thrown_4 : decode b_M_thrown 4 = .ok (.ireturn, 1) := by decide +kernel
theorem d_M_in_0 : decode b_M_in 0 = .ok (.lload_n 0, 1) := by decide +kernel
theorem d_M_in_1 : decode b_M_in 1 = .ok (.lload_n 2, 1) := by decide +kernel
theorem d_M_in_2 : decode b_M_in 2 = .ok (.lcmp, 1) := by decide +kernel
theorem d_M_in_3 : decode b_M_in 3 = .ok (.ifCond .lt 14, 3) := by decide +kernel
theorem d_M_in_6 : decode b_M_in 6 = .ok (.lload_n 0, 1) := by decide +kernel
theorem d_M_in_7 : decode b_M_in 7 = .ok (.lload 4, 2) := by decide +kernel
theorem d_M_in_9 : decode b_M_in 9 = .ok (.lcmp, 1) := by decide +kernel
theorem d_M_in_10 : decode b_M_in 10 = .ok (.ifCond .gt 7, 3) := by decide +kernel
theorem d_M_in_13 : decode b_M_in 13 = .ok (.iconst 1, 1) := by decide +kernel
theorem d_M_in_14 : decode b_M_in 14 = .ok (.goto 4, 3) := by decide +kernel
theorem d_M_in_17 : decode b_M_in 17 = .ok (.iconst 0, 1) := by decide +kernel
theorem d_M_in_18 : decode b_M_in 18 = .ok (.ireturn, 1) := by decide +kernel
theorem d_M_fails_0 : decode b_M_fails 0 = .ok (.iload_n 1, 1) := by decide +kernel
theorem d_M_fails_1 : decode b_M_fails 1 = .ok (.ifCond .eq 15, 3) := by decide +kernel
theorem d_M_fails_4 : decode b_M_fails 4 = .ok (.aload_n 0, 1) := by decide +kernel
theorem d_M_fails_5 : decode b_M_fails 5 = .ok (.getfield 39, 3) := by decide +kernel
theorem d_M_fails_8 : decode b_M_fails 8 = .ok (.ifCond .ne 8, 3) := by decide +kernel
theorem d_M_fails_11 : decode b_M_fails 11 = .ok (.aload_n 0, 1) := by decide +kernel
theorem d_M_fails_12 : decode b_M_fails 12 = .ok (.iload_n 2, 1) := by decide +kernel
theorem d_M_fails_13 : decode b_M_fails 13 = .ok (.putfield 39, 3) := by decide +kernel
theorem d_M_fails_16 : decode b_M_fails 16 = .ok (.aload_n 0, 1) := by decide +kernel
theorem d_M_fails_17 : decode b_M_fails 17 = .ok (.getfield 39, 3) := by decide +kernel
theorem d_M_fails_20 : decode b_M_fails 20 = .ok (.ifCond .eq 7, 3) := by decide +kernel
theorem d_M_fails_23 : decode b_M_fails 23 = .ok (.iconst 1, 1) := by decide +kernel
theorem d_M_fails_24 : decode b_M_fails 24 = .ok (.goto 4, 3) := by decide +kernel
theorem d_M_fails_27 : decode b_M_fails 27 = .ok (.iconst 0, 1) := by decide +kernel
theorem d_M_fails_28 : decode b_M_fails 28 = .ok (.ireturn, 1) := by decide +kernel
theorem d_M_isReplica_0 : decode b_M_isReplica 0 = .ok (.iload_n 0, 1) := by decide +kernel
theorem d_M_isReplica_1 : decode b_M_isReplica 1 = .ok (.i2l, 1) := by decide +kernel
theorem d_M_isReplica_2 : decode b_M_isReplica 2 = .ok (.lconst 0, 1) := by decide +kernel
theorem d_M_isReplica_3 : decode b_M_isReplica 3 = .ok (.ldc2_w 43, 3) := by decide +kernel
theorem d_M_isReplica_6 : decode b_M_isReplica 6 = .ok (.invokestatic 45, 3) := by decide +kernel
theorem d_M_isReplica_9 : decode b_M_isReplica 9 = .ok (.ireturn, 1) := by decide +kernel
theorem d_M_isThere_0 : decode b_M_isThere 0 = .ok (.iload_n 1, 1) := by decide +kernel
theorem d_M_isThere_1 : decode b_M_isThere 1 = .ok (.i2l, 1) := by decide +kernel
theorem d_M_isThere_2 : decode b_M_isThere 2 = .ok (.lconst 0, 1) := by decide +kernel
theorem d_M_isThere_3 : decode b_M_isThere 3 = .ok (.aload_n 0, 1) := by decide +kernel
theorem d_M_isThere_4 : decode b_M_isThere 4 = .ok (.getfield 49, 3) := by decide +kernel
theorem d_M_isThere_7 : decode b_M_isThere 7 = .ok (.iconst 1, 1) := by decide +kernel
theorem d_M_isThere_8 : decode b_M_isThere 8 = .ok (.isub, 1) := by decide +kernel
theorem d_M_isThere_9 : decode b_M_isThere 9 = .ok (.i2l, 1) := by decide +kernel
theorem d_M_isThere_10 : decode b_M_isThere 10 = .ok (.invokestatic 45, 3) := by decide +kernel
theorem d_M_isThere_13 : decode b_M_isThere 13 = .ok (.ireturn, 1) := by decide +kernel
theorem d_M_has_0 : decode b_M_has 0 = .ok (.aload_n 0, 1) := by decide +kernel
theorem d_M_has_1 : decode b_M_has 1 = .ok (.getfield 27, 3) := by decide +kernel
theorem d_M_has_4 : decode b_M_has 4 = .ok (.sipush 160, 3) := by decide +kernel
theorem d_M_has_7 : decode b_M_has 7 = .ok (.iload_n 1, 1) := by decide +kernel
theorem d_M_has_8 : decode b_M_has 8 = .ok (.imul, 1) := by decide +kernel
theorem d_M_has_9 : decode b_M_has 9 = .ok (.iload_n 2, 1) := by decide +kernel
theorem d_M_has_10 : decode b_M_has 10 = .ok (.iadd, 1) := by decide +kernel
theorem d_M_has_11 : decode b_M_has 11 = .ok (.baload, 1) := by decide +kernel
theorem d_M_has_12 : decode b_M_has 12 = .ok (.ireturn, 1) := by decide +kernel
theorem d_M_hasElement_0 : decode b_M_hasElement 0 = .ok (.aload_n 0, 1) := by decide +kernel
theorem d_M_hasElement_1 : decode b_M_hasElement 1 = .ok (.iload_n 2, 1) := by decide +kernel
theorem d_M_hasElement_2 : decode b_M_hasElement 2 = .ok (.invokevirtual 52, 3) := by decide +kernel
theorem d_M_hasElement_5 : decode b_M_hasElement 5 = .ok (.ifCond .eq 25, 3) := by decide +kernel
theorem d_M_hasElement_8 : decode b_M_hasElement 8 = .ok (.aload_n 0, 1) := by decide +kernel
theorem d_M_hasElement_9 : decode b_M_hasElement 9 = .ok (.getfield 23, 3) := by decide +kernel
theorem d_M_hasElement_12 : decode b_M_hasElement 12 = .ok (.iload_n 2, 1) := by decide +kernel
theorem d_M_hasElement_13 : decode b_M_hasElement 13 = .ok (.baload, 1) := by decide +kernel
theorem d_M_hasElement_14 : decode b_M_hasElement 14 = .ok (.ifCond .ne 16, 3) := by decide +kernel
theorem d_M_hasElement_17 : decode b_M_hasElement 17 = .ok (.aload_n 0, 1) := by decide +kernel
theorem d_M_hasElement_18 : decode b_M_hasElement 18 = .ok (.iload_n 1, 1) := by decide +kernel
theorem d_M_hasElement_19 : decode b_M_hasElement 19 = .ok (.iload_n 2, 1) := by decide +kernel
theorem d_M_hasElement_20 : decode b_M_hasElement 20 = .ok (.invokevirtual 56, 3) := by decide +kernel
theorem d_M_hasElement_23 : decode b_M_hasElement 23 = .ok (.ifCond .eq 7, 3) := by decide +kernel
theorem d_M_hasElement_26 : decode b_M_hasElement 26 = .ok (.iconst 1, 1) := by decide +kernel
theorem d_M_hasElement_27 : decode b_M_hasElement 27 = .ok (.goto 4, 3) := by decide +kernel
theorem d_M_hasElement_30 : decode b_M_hasElement 30 = .ok (.iconst 0, 1) := by decide +kernel
theorem d_M_hasElement_31 : decode b_M_hasElement 31 = .ok (.ireturn, 1) := by decide +kernel
theorem d_M_greatest_0 : decode b_M_greatest 0 = .ok (.iconst 0, 1) := by decide +kernel
theorem d_M_greatest_1 : decode b_M_greatest 1 = .ok (.istore_n 2, 1) := by decide +kernel
theorem d_M_greatest_2 : decode b_M_greatest 2 = .ok (.iconst 0, 1) := by decide +kernel
theorem d_M_greatest_3 : decode b_M_greatest 3 = .ok (.istore_n 3, 1) := by decide +kernel
theorem d_M_greatest_4 : decode b_M_greatest 4 = .ok (.iload_n 3, 1) := by decide +kernel
theorem d_M_greatest_5 : decode b_M_greatest 5 = .ok (.aload_n 0, 1) := by decide +kernel
theorem d_M_greatest_6 : decode b_M_greatest 6 = .ok (.getfield 49, 3) := by decide +kernel
theorem d_M_greatest_9 : decode b_M_greatest 9 = .ok (.if_icmp .ge 29, 3) := by decide +kernel
theorem d_M_greatest_12 : decode b_M_greatest 12 = .ok (.aload_n 0, 1) := by decide +kernel
theorem d_M_greatest_13 : decode b_M_greatest 13 = .ok (.iload_n 1, 1) := by decide +kernel
theorem d_M_greatest_14 : decode b_M_greatest 14 = .ok (.iload_n 3, 1) := by decide +kernel
theorem d_M_greatest_15 : decode b_M_greatest 15 = .ok (.invokevirtual 56, 3) := by decide +kernel
theorem d_M_greatest_18 : decode b_M_greatest 18 = .ok (.ifCond .eq 14, 3) := by decide +kernel
theorem d_M_greatest_21 : decode b_M_greatest 21 = .ok (.iload_n 2, 1) := by decide +kernel
theorem d_M_greatest_22 : decode b_M_greatest 22 = .ok (.aload_n 0, 1) := by decide +kernel
theorem d_M_greatest_23 : decode b_M_greatest 23 = .ok (.getfield 13, 3) := by decide +kernel
theorem d_M_greatest_26 : decode b_M_greatest 26 = .ok (.iload_n 3, 1) := by decide +kernel
theorem d_M_greatest_27 : decode b_M_greatest 27 = .ok (.iaload, 1) := by decide +kernel
theorem d_M_greatest_28 : decode b_M_greatest 28 = .ok (.invokestatic 60, 3) := by decide +kernel
theorem d_M_greatest_31 : decode b_M_greatest 31 = .ok (.istore_n 2, 1) := by decide +kernel
theorem d_M_greatest_32 : decode b_M_greatest 32 = .ok (.iinc 3 1, 3) := by decide +kernel
theorem d_M_greatest_35 : decode b_M_greatest 35 = .ok (.goto (-31), 3) := by decide +kernel
theorem d_M_greatest_38 : decode b_M_greatest 38 = .ok (.iload_n 2, 1) := by decide +kernel
theorem d_M_greatest_39 : decode b_M_greatest 39 = .ok (.ireturn, 1) := by decide +kernel
theorem d_M_made_0 : decode b_M_made 0 = .ok (.aload_n 0, 1) := by decide +kernel
theorem d_M_made_1 : decode b_M_made 1 = .ok (.getfield 49, 3) := by decide +kernel
theorem d_M_made_4 : decode b_M_made 4 = .ok (.istore 6, 2) := by decide +kernel
theorem d_M_made_6 : decode b_M_made 6 = .ok (.aload_n 0, 1) := by decide +kernel
theorem d_M_made_7 : decode b_M_made 7 = .ok (.getfield 13, 3) := by decide +kernel
theorem d_M_made_10 : decode b_M_made 10 = .ok (.iload 6, 2) := by decide +kernel
theorem d_M_made_12 : decode b_M_made 12 = .ok (.aload_n 0, 1) := by decide +kernel
theorem d_M_made_13 : decode b_M_made 13 = .ok (.iload_n 1, 1) := by decide +kernel
theorem d_M_made_14 : decode b_M_made 14 = .ok (.invokevirtual 66, 3) := by decide +kernel
theorem d_M_made_17 : decode b_M_made 17 = .ok (.iconst 1, 1) := by decide +kernel
theorem d_M_made_18 : decode b_M_made 18 = .ok (.iadd, 1) := by decide +kernel
theorem d_M_made_19 : decode b_M_made 19 = .ok (.iastore, 1) := by decide +kernel
theorem d_M_made_20 : decode b_M_made 20 = .ok (.aload_n 0, 1) := by decide +kernel
theorem d_M_made_21 : decode b_M_made 21 = .ok (.getfield 16, 3) := by decide +kernel
theorem d_M_made_24 : decode b_M_made 24 = .ok (.iload 6, 2) := by decide +kernel
theorem d_M_made_26 : decode b_M_made 26 = .ok (.iload_n 1, 1) := by decide +kernel
theorem d_M_made_27 : decode b_M_made 27 = .ok (.iastore, 1) := by decide +kernel
theorem d_M_made_28 : decode b_M_made 28 = .ok (.aload_n 0, 1) := by decide +kernel
theorem d_M_made_29 : decode b_M_made 29 = .ok (.getfield 9, 3) := by decide +kernel
theorem d_M_made_32 : decode b_M_made 32 = .ok (.iload 6, 2) := by decide +kernel
theorem d_M_made_34 : decode b_M_made 34 = .ok (.iload_n 2, 1) := by decide +kernel
theorem d_M_made_35 : decode b_M_made 35 = .ok (.iastore, 1) := by decide +kernel
theorem d_M_made_36 : decode b_M_made 36 = .ok (.aload_n 0, 1) := by decide +kernel
theorem d_M_made_37 : decode b_M_made 37 = .ok (.getfield 19, 3) := by decide +kernel
theorem d_M_made_40 : decode b_M_made 40 = .ok (.iload 6, 2) := by decide +kernel
theorem d_M_made_42 : decode b_M_made 42 = .ok (.lload_n 3, 1) := by decide +kernel
theorem d_M_made_43 : decode b_M_made 43 = .ok (.lastore, 1) := by decide +kernel
theorem d_M_made_44 : decode b_M_made 44 = .ok (.aload_n 0, 1) := by decide +kernel
theorem d_M_made_45 : decode b_M_made 45 = .ok (.getfield 23, 3) := by decide +kernel
theorem d_M_made_48 : decode b_M_made 48 = .ok (.iload 6, 2) := by decide +kernel
theorem d_M_made_50 : decode b_M_made 50 = .ok (.iload 5, 2) := by decide +kernel
theorem d_M_made_52 : decode b_M_made 52 = .ok (.bastore, 1) := by decide +kernel
theorem d_M_made_53 : decode b_M_made 53 = .ok (.iconst 0, 1) := by decide +kernel
theorem d_M_made_54 : decode b_M_made 54 = .ok (.istore 7, 2) := by decide +kernel
theorem d_M_made_56 : decode b_M_made 56 = .ok (.iload 7, 2) := by decide +kernel
theorem d_M_made_58 : decode b_M_made 58 = .ok (.iconst 4, 1) := by decide +kernel
theorem d_M_made_59 : decode b_M_made 59 = .ok (.if_icmp .ge 34, 3) := by decide +kernel
theorem d_M_made_62 : decode b_M_made 62 = .ok (.aload_n 0, 1) := by decide +kernel
theorem d_M_made_63 : decode b_M_made 63 = .ok (.getfield 27, 3) := by decide +kernel
theorem d_M_made_66 : decode b_M_made 66 = .ok (.sipush 160, 3) := by decide +kernel
theorem d_M_made_69 : decode b_M_made 69 = .ok (.iload 7, 2) := by decide +kernel
theorem d_M_made_71 : decode b_M_made 71 = .ok (.imul, 1) := by decide +kernel
theorem d_M_made_72 : decode b_M_made 72 = .ok (.iload 6, 2) := by decide +kernel
theorem d_M_made_74 : decode b_M_made 74 = .ok (.iadd, 1) := by decide +kernel
theorem d_M_made_75 : decode b_M_made 75 = .ok (.iload 7, 2) := by decide +kernel
theorem d_M_made_77 : decode b_M_made 77 = .ok (.iload_n 1, 1) := by decide +kernel
theorem d_M_made_78 : decode b_M_made 78 = .ok (.if_icmp .ne 7, 3) := by decide +kernel
theorem d_M_made_81 : decode b_M_made 81 = .ok (.iconst 1, 1) := by decide +kernel
theorem d_M_made_82 : decode b_M_made 82 = .ok (.goto 4, 3) := by decide +kernel
theorem d_M_made_85 : decode b_M_made 85 = .ok (.iconst 0, 1) := by decide +kernel
theorem d_M_made_86 : decode b_M_made 86 = .ok (.bastore, 1) := by decide +kernel
theorem d_M_made_87 : decode b_M_made 87 = .ok (.iinc 7 1, 3) := by decide +kernel
theorem d_M_made_90 : decode b_M_made 90 = .ok (.goto (-34), 3) := by decide +kernel
theorem d_M_made_93 : decode b_M_made 93 = .ok (.aload_n 0, 1) := by decide +kernel
theorem d_M_made_94 : decode b_M_made 94 = .ok (.dup, 1) := by decide +kernel
theorem d_M_made_95 : decode b_M_made 95 = .ok (.getfield 49, 3) := by decide +kernel
theorem d_M_made_98 : decode b_M_made 98 = .ok (.iconst 1, 1) := by decide +kernel
theorem d_M_made_99 : decode b_M_made 99 = .ok (.iadd, 1) := by decide +kernel
theorem d_M_made_100 : decode b_M_made 100 = .ok (.putfield 49, 3) := by decide +kernel
theorem d_M_made_103 : decode b_M_made 103 = .ok (.iload 6, 2) := by decide +kernel
theorem d_M_made_105 : decode b_M_made 105 = .ok (.ireturn, 1) := by decide +kernel
theorem d_M_insert_0 : decode b_M_insert 0 = .ok (.aload_n 0, 1) := by decide +kernel
theorem d_M_insert_1 : decode b_M_insert 1 = .ok (.iconst 0, 1) := by decide +kernel
theorem d_M_insert_2 : decode b_M_insert 2 = .ok (.putfield 39, 3) := by decide +kernel
theorem d_M_insert_5 : decode b_M_insert 5 = .ok (.aload_n 0, 1) := by decide +kernel
theorem d_M_insert_6 : decode b_M_insert 6 = .ok (.iload_n 1, 1) := by decide +kernel
theorem d_M_insert_7 : decode b_M_insert 7 = .ok (.invokestatic 70, 3) := by decide +kernel
theorem d_M_insert_10 : decode b_M_insert 10 = .ok (.ifCond .ne 7, 3) := by decide +kernel
theorem d_M_insert_13 : decode b_M_insert 13 = .ok (.iconst 1, 1) := by decide +kernel
theorem d_M_insert_14 : decode b_M_insert 14 = .ok (.goto 4, 3) := by decide +kernel
theorem d_M_insert_17 : decode b_M_insert 17 = .ok (.iconst 0, 1) := by decide +kernel
theorem d_M_insert_18 : decode b_M_insert 18 = .ok (.iconst 1, 1) := by decide +kernel
theorem d_M_insert_19 : decode b_M_insert 19 = .ok (.invokevirtual 73, 3) := by decide +kernel
theorem d_M_insert_22 : decode b_M_insert 22 = .ok (.ifCond .ne 53, 3) := by decide +kernel
theorem d_M_insert_25 : decode b_M_insert 25 = .ok (.aload_n 0, 1) := by decide +kernel
theorem d_M_insert_26 : decode b_M_insert 26 = .ok (.aload_n 0, 1) := by decide +kernel
theorem d_M_insert_27 : decode b_M_insert 27 = .ok (.getfield 49, 3) := by decide +kernel
theorem d_M_insert_30 : decode b_M_insert 30 = .ok (.sipush 160, 3) := by decide +kernel
theorem d_M_insert_33 : decode b_M_insert 33 = .ok (.if_icmp .ne 7, 3) := by decide +kernel
theorem d_M_insert_36 : decode b_M_insert 36 = .ok (.iconst 1, 1) := by decide +kernel
theorem d_M_insert_37 : decode b_M_insert 37 = .ok (.goto 4, 3) := by decide +kernel
theorem d_M_insert_40 : decode b_M_insert 40 = .ok (.iconst 0, 1) := by decide +kernel
theorem d_M_insert_41 : decode b_M_insert 41 = .ok (.iconst 2, 1) := by decide +kernel
theorem d_M_insert_42 : decode b_M_insert 42 = .ok (.invokevirtual 73, 3) := by decide +kernel
theorem d_M_insert_45 : decode b_M_insert 45 = .ok (.ifCond .ne 30, 3) := by decide +kernel
theorem d_M_insert_48 : decode b_M_insert 48 = .ok (.aload_n 0, 1) := by decide +kernel
theorem d_M_insert_49 : decode b_M_insert 49 = .ok (.iload_n 2, 1) := by decide +kernel
theorem d_M_insert_50 : decode b_M_insert 50 = .ok (.iconst (-1), 1) := by decide +kernel
theorem d_M_insert_51 : decode b_M_insert 51 = .ok (.if_icmp .eq 16, 3) := by decide +kernel
theorem d_M_insert_54 : decode b_M_insert 54 = .ok (.aload_n 0, 1) := by decide +kernel
theorem d_M_insert_55 : decode b_M_insert 55 = .ok (.iload_n 1, 1) := by decide +kernel
theorem d_M_insert_56 : decode b_M_insert 56 = .ok (.iload_n 2, 1) := by decide +kernel
theorem d_M_insert_57 : decode b_M_insert 57 = .ok (.invokevirtual 77, 3) := by decide +kernel
theorem d_M_insert_60 : decode b_M_insert 60 = .ok (.ifCond .ne 7, 3) := by decide +kernel
theorem d_M_insert_63 : decode b_M_insert 63 = .ok (.iconst 1, 1) := by decide +kernel
theorem d_M_insert_64 : decode b_M_insert 64 = .ok (.goto 4, 3) := by decide +kernel
theorem d_M_insert_67 : decode b_M_insert 67 = .ok (.iconst 0, 1) := by decide +kernel
theorem d_M_insert_68 : decode b_M_insert 68 = .ok (.iconst 3, 1) := by decide +kernel
theorem d_M_insert_69 : decode b_M_insert 69 = .ok (.invokevirtual 73, 3) := by decide +kernel
theorem d_M_insert_72 : decode b_M_insert 72 = .ok (.ifCond .eq 5, 3) := by decide +kernel
theorem d_M_insert_75 : decode b_M_insert 75 = .ok (.iconst 0, 1) := by decide +kernel
theorem d_M_insert_76 : decode b_M_insert 76 = .ok (.ireturn, 1) := by decide +kernel
theorem d_M_insert_77 : decode b_M_insert 77 = .ok (.aload_n 0, 1) := by decide +kernel
theorem d_M_insert_78 : decode b_M_insert 78 = .ok (.iload_n 1, 1) := by decide +kernel
theorem d_M_insert_79 : decode b_M_insert 79 = .ok (.iload_n 2, 1) := by decide +kernel
theorem d_M_insert_80 : decode b_M_insert 80 = .ok (.lload_n 3, 1) := by decide +kernel
theorem d_M_insert_81 : decode b_M_insert 81 = .ok (.iconst 0, 1) := by decide +kernel
theorem d_M_insert_82 : decode b_M_insert 82 = .ok (.invokevirtual 80, 3) := by decide +kernel
theorem d_M_insert_85 : decode b_M_insert 85 = .ok (.ireturn, 1) := by decide +kernel
theorem d_M_delete_0 : decode b_M_delete 0 = .ok (.aload_n 0, 1) := by decide +kernel
theorem d_M_delete_1 : decode b_M_delete 1 = .ok (.iconst 0, 1) := by decide +kernel
theorem d_M_delete_2 : decode b_M_delete 2 = .ok (.putfield 39, 3) := by decide +kernel
theorem d_M_delete_5 : decode b_M_delete 5 = .ok (.aload_n 0, 1) := by decide +kernel
theorem d_M_delete_6 : decode b_M_delete 6 = .ok (.iload_n 1, 1) := by decide +kernel
theorem d_M_delete_7 : decode b_M_delete 7 = .ok (.invokestatic 70, 3) := by decide +kernel
theorem d_M_delete_10 : decode b_M_delete 10 = .ok (.ifCond .ne 7, 3) := by decide +kernel
theorem d_M_delete_13 : decode b_M_delete 13 = .ok (.iconst 1, 1) := by decide +kernel
theorem d_M_delete_14 : decode b_M_delete 14 = .ok (.goto 4, 3) := by decide +kernel
theorem d_M_delete_17 : decode b_M_delete 17 = .ok (.iconst 0, 1) := by decide +kernel
theorem d_M_delete_18 : decode b_M_delete 18 = .ok (.iconst 1, 1) := by decide +kernel
theorem d_M_delete_19 : decode b_M_delete 19 = .ok (.invokevirtual 73, 3) := by decide +kernel
theorem d_M_delete_22 : decode b_M_delete 22 = .ok (.ifCond .ne 48, 3) := by decide +kernel
theorem d_M_delete_25 : decode b_M_delete 25 = .ok (.aload_n 0, 1) := by decide +kernel
theorem d_M_delete_26 : decode b_M_delete 26 = .ok (.aload_n 0, 1) := by decide +kernel
theorem d_M_delete_27 : decode b_M_delete 27 = .ok (.getfield 49, 3) := by decide +kernel
theorem d_M_delete_30 : decode b_M_delete 30 = .ok (.sipush 160, 3) := by decide +kernel
theorem d_M_delete_33 : decode b_M_delete 33 = .ok (.if_icmp .ne 7, 3) := by decide +kernel
theorem d_M_delete_36 : decode b_M_delete 36 = .ok (.iconst 1, 1) := by decide +kernel
theorem d_M_delete_37 : decode b_M_delete 37 = .ok (.goto 4, 3) := by decide +kernel
theorem d_M_delete_40 : decode b_M_delete 40 = .ok (.iconst 0, 1) := by decide +kernel
theorem d_M_delete_41 : decode b_M_delete 41 = .ok (.iconst 2, 1) := by decide +kernel
theorem d_M_delete_42 : decode b_M_delete 42 = .ok (.invokevirtual 73, 3) := by decide +kernel
theorem d_M_delete_45 : decode b_M_delete 45 = .ok (.ifCond .ne 25, 3) := by decide +kernel
theorem d_M_delete_48 : decode b_M_delete 48 = .ok (.aload_n 0, 1) := by decide +kernel
theorem d_M_delete_49 : decode b_M_delete 49 = .ok (.aload_n 0, 1) := by decide +kernel
theorem d_M_delete_50 : decode b_M_delete 50 = .ok (.iload_n 1, 1) := by decide +kernel
theorem d_M_delete_51 : decode b_M_delete 51 = .ok (.iload_n 2, 1) := by decide +kernel
theorem d_M_delete_52 : decode b_M_delete 52 = .ok (.invokevirtual 77, 3) := by decide +kernel
theorem d_M_delete_55 : decode b_M_delete 55 = .ok (.ifCond .ne 7, 3) := by decide +kernel
theorem d_M_delete_58 : decode b_M_delete 58 = .ok (.iconst 1, 1) := by decide +kernel
theorem d_M_delete_59 : decode b_M_delete 59 = .ok (.goto 4, 3) := by decide +kernel
theorem d_M_delete_62 : decode b_M_delete 62 = .ok (.iconst 0, 1) := by decide +kernel
theorem d_M_delete_63 : decode b_M_delete 63 = .ok (.iconst 3, 1) := by decide +kernel
theorem d_M_delete_64 : decode b_M_delete 64 = .ok (.invokevirtual 73, 3) := by decide +kernel
theorem d_M_delete_67 : decode b_M_delete 67 = .ok (.ifCond .eq 5, 3) := by decide +kernel
theorem d_M_delete_70 : decode b_M_delete 70 = .ok (.iconst 0, 1) := by decide +kernel
theorem d_M_delete_71 : decode b_M_delete 71 = .ok (.ireturn, 1) := by decide +kernel
theorem d_M_delete_72 : decode b_M_delete 72 = .ok (.aload_n 0, 1) := by decide +kernel
theorem d_M_delete_73 : decode b_M_delete 73 = .ok (.iload_n 1, 1) := by decide +kernel
theorem d_M_delete_74 : decode b_M_delete 74 = .ok (.iload_n 2, 1) := by decide +kernel
theorem d_M_delete_75 : decode b_M_delete 75 = .ok (.lconst 0, 1) := by decide +kernel
theorem d_M_delete_76 : decode b_M_delete 76 = .ok (.iconst 1, 1) := by decide +kernel
theorem d_M_delete_77 : decode b_M_delete 77 = .ok (.invokevirtual 80, 3) := by decide +kernel
theorem d_M_delete_80 : decode b_M_delete 80 = .ok (.ireturn, 1) := by decide +kernel
theorem d_M_give_0 : decode b_M_give 0 = .ok (.aload_n 0, 1) := by decide +kernel
theorem d_M_give_1 : decode b_M_give 1 = .ok (.iconst 0, 1) := by decide +kernel
theorem d_M_give_2 : decode b_M_give 2 = .ok (.putfield 39, 3) := by decide +kernel
theorem d_M_give_5 : decode b_M_give 5 = .ok (.aload_n 0, 1) := by decide +kernel
theorem d_M_give_6 : decode b_M_give 6 = .ok (.iload_n 1, 1) := by decide +kernel
theorem d_M_give_7 : decode b_M_give 7 = .ok (.invokestatic 70, 3) := by decide +kernel
theorem d_M_give_10 : decode b_M_give 10 = .ok (.ifCond .ne 7, 3) := by decide +kernel
theorem d_M_give_13 : decode b_M_give 13 = .ok (.iconst 1, 1) := by decide +kernel
theorem d_M_give_14 : decode b_M_give 14 = .ok (.goto 4, 3) := by decide +kernel
theorem d_M_give_17 : decode b_M_give 17 = .ok (.iconst 0, 1) := by decide +kernel
theorem d_M_give_18 : decode b_M_give 18 = .ok (.iconst 1, 1) := by decide +kernel
theorem d_M_give_19 : decode b_M_give 19 = .ok (.invokevirtual 73, 3) := by decide +kernel
theorem d_M_give_22 : decode b_M_give 22 = .ok (.ifCond .ne 69, 3) := by decide +kernel
theorem d_M_give_25 : decode b_M_give 25 = .ok (.aload_n 0, 1) := by decide +kernel
theorem d_M_give_26 : decode b_M_give 26 = .ok (.aload_n 0, 1) := by decide +kernel
theorem d_M_give_27 : decode b_M_give 27 = .ok (.iload_n 2, 1) := by decide +kernel
theorem d_M_give_28 : decode b_M_give 28 = .ok (.invokevirtual 52, 3) := by decide +kernel
theorem d_M_give_31 : decode b_M_give 31 = .ok (.ifCond .ne 7, 3) := by decide +kernel
theorem d_M_give_34 : decode b_M_give 34 = .ok (.iconst 1, 1) := by decide +kernel
theorem d_M_give_35 : decode b_M_give 35 = .ok (.goto 4, 3) := by decide +kernel
theorem d_M_give_38 : decode b_M_give 38 = .ok (.iconst 0, 1) := by decide +kernel
theorem d_M_give_39 : decode b_M_give 39 = .ok (.iconst 2, 1) := by decide +kernel
theorem d_M_give_40 : decode b_M_give 40 = .ok (.invokevirtual 73, 3) := by decide +kernel
theorem d_M_give_43 : decode b_M_give 43 = .ok (.ifCond .ne 48, 3) := by decide +kernel
theorem d_M_give_46 : decode b_M_give 46 = .ok (.aload_n 0, 1) := by decide +kernel
theorem d_M_give_47 : decode b_M_give 47 = .ok (.aload_n 0, 1) := by decide +kernel
theorem d_M_give_48 : decode b_M_give 48 = .ok (.getfield 9, 3) := by decide +kernel
theorem d_M_give_51 : decode b_M_give 51 = .ok (.iload_n 2, 1) := by decide +kernel
theorem d_M_give_52 : decode b_M_give 52 = .ok (.iaload, 1) := by decide +kernel
theorem d_M_give_53 : decode b_M_give 53 = .ok (.ifCond .ge 12, 3) := by decide +kernel
theorem d_M_give_56 : decode b_M_give 56 = .ok (.aload_n 0, 1) := by decide +kernel
theorem d_M_give_57 : decode b_M_give 57 = .ok (.getfield 23, 3) := by decide +kernel
theorem d_M_give_60 : decode b_M_give 60 = .ok (.iload_n 2, 1) := by decide +kernel
theorem d_M_give_61 : decode b_M_give 61 = .ok (.baload, 1) := by decide +kernel
theorem d_M_give_62 : decode b_M_give 62 = .ok (.ifCond .eq 21, 3) := by decide +kernel
theorem d_M_give_65 : decode b_M_give 65 = .ok (.aload_n 0, 1) := by decide +kernel
theorem d_M_give_66 : decode b_M_give 66 = .ok (.iload_n 1, 1) := by decide +kernel
theorem d_M_give_67 : decode b_M_give 67 = .ok (.aload_n 0, 1) := by decide +kernel
theorem d_M_give_68 : decode b_M_give 68 = .ok (.getfield 9, 3) := by decide +kernel
theorem d_M_give_71 : decode b_M_give 71 = .ok (.iload_n 2, 1) := by decide +kernel
theorem d_M_give_72 : decode b_M_give 72 = .ok (.iaload, 1) := by decide +kernel
theorem d_M_give_73 : decode b_M_give 73 = .ok (.invokevirtual 77, 3) := by decide +kernel
theorem d_M_give_76 : decode b_M_give 76 = .ok (.ifCond .ne 7, 3) := by decide +kernel
theorem d_M_give_79 : decode b_M_give 79 = .ok (.iconst 1, 1) := by decide +kernel
theorem d_M_give_80 : decode b_M_give 80 = .ok (.goto 4, 3) := by decide +kernel
theorem d_M_give_83 : decode b_M_give 83 = .ok (.iconst 0, 1) := by decide +kernel
theorem d_M_give_84 : decode b_M_give 84 = .ok (.iconst 3, 1) := by decide +kernel
theorem d_M_give_85 : decode b_M_give 85 = .ok (.invokevirtual 73, 3) := by decide +kernel
theorem d_M_give_88 : decode b_M_give 88 = .ok (.ifCond .eq 4, 3) := by decide +kernel
theorem d_M_give_91 : decode b_M_give 91 = .ok (.return_, 1) := by decide +kernel
theorem d_M_give_92 : decode b_M_give 92 = .ok (.aload_n 0, 1) := by decide +kernel
theorem d_M_give_93 : decode b_M_give 93 = .ok (.getfield 27, 3) := by decide +kernel
theorem d_M_give_96 : decode b_M_give 96 = .ok (.sipush 160, 3) := by decide +kernel
theorem d_M_give_99 : decode b_M_give 99 = .ok (.iload_n 1, 1) := by decide +kernel
theorem d_M_give_100 : decode b_M_give 100 = .ok (.imul, 1) := by decide +kernel
theorem d_M_give_101 : decode b_M_give 101 = .ok (.iload_n 2, 1) := by decide +kernel
theorem d_M_give_102 : decode b_M_give 102 = .ok (.iadd, 1) := by decide +kernel
theorem d_M_give_103 : decode b_M_give 103 = .ok (.iconst 1, 1) := by decide +kernel
theorem d_M_give_104 : decode b_M_give 104 = .ok (.bastore, 1) := by decide +kernel
theorem d_M_give_105 : decode b_M_give 105 = .ok (.return_, 1) := by decide +kernel
theorem d_M_tell_0 : decode b_M_tell 0 = .ok (.aload_n 0, 1) := by decide +kernel
theorem d_M_tell_1 : decode b_M_tell 1 = .ok (.iconst 0, 1) := by decide +kernel
theorem d_M_tell_2 : decode b_M_tell 2 = .ok (.putfield 39, 3) := by decide +kernel
theorem d_M_tell_5 : decode b_M_tell 5 = .ok (.aload_n 0, 1) := by decide +kernel
theorem d_M_tell_6 : decode b_M_tell 6 = .ok (.iload_n 1, 1) := by decide +kernel
theorem d_M_tell_7 : decode b_M_tell 7 = .ok (.invokestatic 70, 3) := by decide +kernel
theorem d_M_tell_10 : decode b_M_tell 10 = .ok (.ifCond .eq 10, 3) := by decide +kernel
theorem d_M_tell_13 : decode b_M_tell 13 = .ok (.iload_n 2, 1) := by decide +kernel
theorem d_M_tell_14 : decode b_M_tell 14 = .ok (.invokestatic 70, 3) := by decide +kernel
theorem d_M_tell_17 : decode b_M_tell 17 = .ok (.ifCond .ne 7, 3) := by decide +kernel
theorem d_M_tell_20 : decode b_M_tell 20 = .ok (.iconst 1, 1) := by decide +kernel
theorem d_M_tell_21 : decode b_M_tell 21 = .ok (.goto 4, 3) := by decide +kernel
theorem d_M_tell_24 : decode b_M_tell 24 = .ok (.iconst 0, 1) := by decide +kernel
theorem d_M_tell_25 : decode b_M_tell 25 = .ok (.iconst 1, 1) := by decide +kernel
theorem d_M_tell_26 : decode b_M_tell 26 = .ok (.invokevirtual 73, 3) := by decide +kernel
theorem d_M_tell_29 : decode b_M_tell 29 = .ok (.ifCond .eq 5, 3) := by decide +kernel
theorem d_M_tell_32 : decode b_M_tell 32 = .ok (.iconst 0, 1) := by decide +kernel
theorem d_M_tell_33 : decode b_M_tell 33 = .ok (.ireturn, 1) := by decide +kernel
theorem d_M_tell_34 : decode b_M_tell 34 = .ok (.iconst 0, 1) := by decide +kernel
theorem d_M_tell_35 : decode b_M_tell 35 = .ok (.istore_n 3, 1) := by decide +kernel
theorem d_M_tell_36 : decode b_M_tell 36 = .ok (.iconst 0, 1) := by decide +kernel
theorem d_M_tell_37 : decode b_M_tell 37 = .ok (.istore 4, 2) := by decide +kernel
theorem d_M_tell_39 : decode b_M_tell 39 = .ok (.iload 4, 2) := by decide +kernel
theorem d_M_tell_41 : decode b_M_tell 41 = .ok (.aload_n 0, 1) := by decide +kernel
theorem d_M_tell_42 : decode b_M_tell 42 = .ok (.getfield 49, 3) := by decide +kernel
theorem d_M_tell_45 : decode b_M_tell 45 = .ok (.if_icmp .ge 49, 3) := by decide +kernel
theorem d_M_tell_48 : decode b_M_tell 48 = .ok (.aload_n 0, 1) := by decide +kernel
theorem d_M_tell_49 : decode b_M_tell 49 = .ok (.iload_n 2, 1) := by decide +kernel
theorem d_M_tell_50 : decode b_M_tell 50 = .ok (.iload 4, 2) := by decide +kernel
theorem d_M_tell_52 : decode b_M_tell 52 = .ok (.invokevirtual 56, 3) := by decide +kernel
theorem d_M_tell_55 : decode b_M_tell 55 = .ok (.ifCond .eq 33, 3) := by decide +kernel
theorem d_M_tell_58 : decode b_M_tell 58 = .ok (.aload_n 0, 1) := by decide +kernel
theorem d_M_tell_59 : decode b_M_tell 59 = .ok (.iload_n 1, 1) := by decide +kernel
theorem d_M_tell_60 : decode b_M_tell 60 = .ok (.iload 4, 2) := by decide +kernel
theorem d_M_tell_62 : decode b_M_tell 62 = .ok (.invokevirtual 56, 3) := by decide +kernel
theorem d_M_tell_65 : decode b_M_tell 65 = .ok (.ifCond .eq 6, 3) := by decide +kernel
theorem d_M_tell_68 : decode b_M_tell 68 = .ok (.goto 20, 3) := by decide +kernel
theorem d_M_tell_71 : decode b_M_tell 71 = .ok (.aload_n 0, 1) := by decide +kernel
theorem d_M_tell_72 : decode b_M_tell 72 = .ok (.getfield 27, 3) := by decide +kernel
theorem d_M_tell_75 : decode b_M_tell 75 = .ok (.sipush 160, 3) := by decide +kernel
theorem d_M_tell_78 : decode b_M_tell 78 = .ok (.iload_n 1, 1) := by decide +kernel
theorem d_M_tell_79 : decode b_M_tell 79 = .ok (.imul, 1) := by decide +kernel
theorem d_M_tell_80 : decode b_M_tell 80 = .ok (.iload 4, 2) := by decide +kernel
theorem d_M_tell_82 : decode b_M_tell 82 = .ok (.iadd, 1) := by decide +kernel
theorem d_M_tell_83 : decode b_M_tell 83 = .ok (.iconst 1, 1) := by decide +kernel
theorem d_M_tell_84 : decode b_M_tell 84 = .ok (.bastore, 1) := by decide +kernel
theorem d_M_tell_85 : decode b_M_tell 85 = .ok (.iinc 3 1, 3) := by decide +kernel
theorem d_M_tell_88 : decode b_M_tell 88 = .ok (.iinc 4 1, 3) := by decide +kernel
theorem d_M_tell_91 : decode b_M_tell 91 = .ok (.goto (-52), 3) := by decide +kernel
theorem d_M_tell_94 : decode b_M_tell 94 = .ok (.iload_n 3, 1) := by decide +kernel
theorem d_M_tell_95 : decode b_M_tell 95 = .ok (.ireturn, 1) := by decide +kernel
theorem d_M_holds_0 : decode b_M_holds 0 = .ok (.aload_n 0, 1) := by decide +kernel
theorem d_M_holds_1 : decode b_M_holds 1 = .ok (.iconst 0, 1) := by decide +kernel
theorem d_M_holds_2 : decode b_M_holds 2 = .ok (.putfield 39, 3) := by decide +kernel
theorem d_M_holds_5 : decode b_M_holds 5 = .ok (.aload_n 0, 1) := by decide +kernel
theorem d_M_holds_6 : decode b_M_holds 6 = .ok (.iload_n 1, 1) := by decide +kernel
theorem d_M_holds_7 : decode b_M_holds 7 = .ok (.invokestatic 70, 3) := by decide +kernel
theorem d_M_holds_10 : decode b_M_holds 10 = .ok (.ifCond .ne 7, 3) := by decide +kernel
theorem d_M_holds_13 : decode b_M_holds 13 = .ok (.iconst 1, 1) := by decide +kernel
theorem d_M_holds_14 : decode b_M_holds 14 = .ok (.goto 4, 3) := by decide +kernel
theorem d_M_holds_17 : decode b_M_holds 17 = .ok (.iconst 0, 1) := by decide +kernel
theorem d_M_holds_18 : decode b_M_holds 18 = .ok (.iconst 1, 1) := by decide +kernel
theorem d_M_holds_19 : decode b_M_holds 19 = .ok (.invokevirtual 73, 3) := by decide +kernel
theorem d_M_holds_22 : decode b_M_holds 22 = .ok (.ifCond .ne 37, 3) := by decide +kernel
theorem d_M_holds_25 : decode b_M_holds 25 = .ok (.aload_n 0, 1) := by decide +kernel
theorem d_M_holds_26 : decode b_M_holds 26 = .ok (.aload_n 0, 1) := by decide +kernel
theorem d_M_holds_27 : decode b_M_holds 27 = .ok (.iload_n 2, 1) := by decide +kernel
theorem d_M_holds_28 : decode b_M_holds 28 = .ok (.invokevirtual 52, 3) := by decide +kernel
theorem d_M_holds_31 : decode b_M_holds 31 = .ok (.ifCond .ne 7, 3) := by decide +kernel
theorem d_M_holds_34 : decode b_M_holds 34 = .ok (.iconst 1, 1) := by decide +kernel
theorem d_M_holds_35 : decode b_M_holds 35 = .ok (.goto 4, 3) := by decide +kernel
theorem d_M_holds_38 : decode b_M_holds 38 = .ok (.iconst 0, 1) := by decide +kernel
theorem d_M_holds_39 : decode b_M_holds 39 = .ok (.iconst 2, 1) := by decide +kernel
theorem d_M_holds_40 : decode b_M_holds 40 = .ok (.invokevirtual 73, 3) := by decide +kernel
theorem d_M_holds_43 : decode b_M_holds 43 = .ok (.ifCond .ne 16, 3) := by decide +kernel
theorem d_M_holds_46 : decode b_M_holds 46 = .ok (.aload_n 0, 1) := by decide +kernel
theorem d_M_holds_47 : decode b_M_holds 47 = .ok (.iload_n 1, 1) := by decide +kernel
theorem d_M_holds_48 : decode b_M_holds 48 = .ok (.iload_n 2, 1) := by decide +kernel
theorem d_M_holds_49 : decode b_M_holds 49 = .ok (.invokevirtual 56, 3) := by decide +kernel
theorem d_M_holds_52 : decode b_M_holds 52 = .ok (.ifCond .eq 7, 3) := by decide +kernel
theorem d_M_holds_55 : decode b_M_holds 55 = .ok (.iconst 1, 1) := by decide +kernel
theorem d_M_holds_56 : decode b_M_holds 56 = .ok (.goto 4, 3) := by decide +kernel
theorem d_M_holds_59 : decode b_M_holds 59 = .ok (.iconst 0, 1) := by decide +kernel
theorem d_M_holds_60 : decode b_M_holds 60 = .ok (.ireturn, 1) := by decide +kernel
theorem d_M_isLess_0 : decode b_M_isLess 0 = .ok (.aload_n 0, 1) := by decide +kernel
theorem d_M_isLess_1 : decode b_M_isLess 1 = .ok (.getfield 13, 3) := by decide +kernel
theorem d_M_isLess_4 : decode b_M_isLess 4 = .ok (.iload_n 1, 1) := by decide +kernel
theorem d_M_isLess_5 : decode b_M_isLess 5 = .ok (.iaload, 1) := by decide +kernel
theorem d_M_isLess_6 : decode b_M_isLess 6 = .ok (.aload_n 0, 1) := by decide +kernel
theorem d_M_isLess_7 : decode b_M_isLess 7 = .ok (.getfield 13, 3) := by decide +kernel
theorem d_M_isLess_10 : decode b_M_isLess 10 = .ok (.iload_n 2, 1) := by decide +kernel
theorem d_M_isLess_11 : decode b_M_isLess 11 = .ok (.iaload, 1) := by decide +kernel
theorem d_M_isLess_12 : decode b_M_isLess 12 = .ok (.if_icmp .eq 26, 3) := by decide +kernel
theorem d_M_isLess_15 : decode b_M_isLess 15 = .ok (.aload_n 0, 1) := by decide +kernel
theorem d_M_isLess_16 : decode b_M_isLess 16 = .ok (.getfield 13, 3) := by decide +kernel
theorem d_M_isLess_19 : decode b_M_isLess 19 = .ok (.iload_n 1, 1) := by decide +kernel
theorem d_M_isLess_20 : decode b_M_isLess 20 = .ok (.iaload, 1) := by decide +kernel
theorem d_M_isLess_21 : decode b_M_isLess 21 = .ok (.aload_n 0, 1) := by decide +kernel
theorem d_M_isLess_22 : decode b_M_isLess 22 = .ok (.getfield 13, 3) := by decide +kernel
theorem d_M_isLess_25 : decode b_M_isLess 25 = .ok (.iload_n 2, 1) := by decide +kernel
theorem d_M_isLess_26 : decode b_M_isLess 26 = .ok (.iaload, 1) := by decide +kernel
theorem d_M_isLess_27 : decode b_M_isLess 27 = .ok (.if_icmp .ge 7, 3) := by decide +kernel
theorem d_M_isLess_30 : decode b_M_isLess 30 = .ok (.iconst 1, 1) := by decide +kernel
theorem d_M_isLess_31 : decode b_M_isLess 31 = .ok (.goto 27, 3) := by decide +kernel
theorem d_M_isLess_34 : decode b_M_isLess 34 = .ok (.iconst 0, 1) := by decide +kernel
theorem d_M_isLess_35 : decode b_M_isLess 35 = .ok (.goto 23, 3) := by decide +kernel
theorem d_M_isLess_38 : decode b_M_isLess 38 = .ok (.aload_n 0, 1) := by decide +kernel
theorem d_M_isLess_39 : decode b_M_isLess 39 = .ok (.getfield 16, 3) := by decide +kernel
theorem d_M_isLess_42 : decode b_M_isLess 42 = .ok (.iload_n 1, 1) := by decide +kernel
theorem d_M_isLess_43 : decode b_M_isLess 43 = .ok (.iaload, 1) := by decide +kernel
theorem d_M_isLess_44 : decode b_M_isLess 44 = .ok (.aload_n 0, 1) := by decide +kernel
theorem d_M_isLess_45 : decode b_M_isLess 45 = .ok (.getfield 16, 3) := by decide +kernel
theorem d_M_isLess_48 : decode b_M_isLess 48 = .ok (.iload_n 2, 1) := by decide +kernel
theorem d_M_isLess_49 : decode b_M_isLess 49 = .ok (.iaload, 1) := by decide +kernel
theorem d_M_isLess_50 : decode b_M_isLess 50 = .ok (.if_icmp .ge 7, 3) := by decide +kernel
theorem d_M_isLess_53 : decode b_M_isLess 53 = .ok (.iconst 1, 1) := by decide +kernel
theorem d_M_isLess_54 : decode b_M_isLess 54 = .ok (.goto 4, 3) := by decide +kernel
theorem d_M_isLess_57 : decode b_M_isLess 57 = .ok (.iconst 0, 1) := by decide +kernel
theorem d_M_isLess_58 : decode b_M_isLess 58 = .ok (.ireturn, 1) := by decide +kernel
theorem d_M_next_0 : decode b_M_next 0 = .ok (.iconst (-1), 1) := by decide +kernel
theorem d_M_next_1 : decode b_M_next 1 = .ok (.istore 4, 2) := by decide +kernel
theorem d_M_next_3 : decode b_M_next 3 = .ok (.iconst 0, 1) := by decide +kernel
theorem d_M_next_4 : decode b_M_next 4 = .ok (.istore 5, 2) := by decide +kernel
theorem d_M_next_6 : decode b_M_next 6 = .ok (.iload 5, 2) := by decide +kernel
theorem d_M_next_8 : decode b_M_next 8 = .ok (.aload_n 0, 1) := by decide +kernel
theorem d_M_next_9 : decode b_M_next 9 = .ok (.getfield 49, 3) := by decide +kernel
theorem d_M_next_12 : decode b_M_next 12 = .ok (.if_icmp .ge 77, 3) := by decide +kernel
theorem d_M_next_15 : decode b_M_next 15 = .ok (.aload_n 0, 1) := by decide +kernel
theorem d_M_next_16 : decode b_M_next 16 = .ok (.getfield 23, 3) := by decide +kernel
theorem d_M_next_19 : decode b_M_next 19 = .ok (.iload 5, 2) := by decide +kernel
theorem d_M_next_21 : decode b_M_next 21 = .ok (.baload, 1) := by decide +kernel
theorem d_M_next_22 : decode b_M_next 22 = .ok (.ifCond .ne 61, 3) := by decide +kernel
theorem d_M_next_25 : decode b_M_next 25 = .ok (.aload_n 0, 1) := by decide +kernel
theorem d_M_next_26 : decode b_M_next 26 = .ok (.iload_n 1, 1) := by decide +kernel
theorem d_M_next_27 : decode b_M_next 27 = .ok (.iload 5, 2) := by decide +kernel
theorem d_M_next_29 : decode b_M_next 29 = .ok (.invokevirtual 56, 3) := by decide +kernel
theorem d_M_next_32 : decode b_M_next 32 = .ok (.ifCond .eq 51, 3) := by decide +kernel
theorem d_M_next_35 : decode b_M_next 35 = .ok (.aload_n 0, 1) := by decide +kernel
theorem d_M_next_36 : decode b_M_next 36 = .ok (.getfield 9, 3) := by decide +kernel
theorem d_M_next_39 : decode b_M_next 39 = .ok (.iload 5, 2) := by decide +kernel
theorem d_M_next_41 : decode b_M_next 41 = .ok (.iaload, 1) := by decide +kernel
theorem d_M_next_42 : decode b_M_next 42 = .ok (.iload_n 2, 1) := by decide +kernel
theorem d_M_next_43 : decode b_M_next 43 = .ok (.if_icmp .ne 40, 3) := by decide +kernel
theorem d_M_next_46 : decode b_M_next 46 = .ok (.iload_n 3, 1) := by decide +kernel
theorem d_M_next_47 : decode b_M_next 47 = .ok (.ifCond .lt 16, 3) := by decide +kernel
theorem d_M_next_50 : decode b_M_next 50 = .ok (.aload_n 0, 1) := by decide +kernel
theorem d_M_next_51 : decode b_M_next 51 = .ok (.iload_n 3, 1) := by decide +kernel
theorem d_M_next_52 : decode b_M_next 52 = .ok (.iload 5, 2) := by decide +kernel
theorem d_M_next_54 : decode b_M_next 54 = .ok (.invokevirtual 84, 3) := by decide +kernel
theorem d_M_next_57 : decode b_M_next 57 = .ok (.ifCond .ne 6, 3) := by decide +kernel
theorem d_M_next_60 : decode b_M_next 60 = .ok (.goto 23, 3) := by decide +kernel
theorem d_M_next_63 : decode b_M_next 63 = .ok (.iload 4, 2) := by decide +kernel
theorem d_M_next_65 : decode b_M_next 65 = .ok (.ifCond .lt 14, 3) := by decide +kernel
theorem d_M_next_68 : decode b_M_next 68 = .ok (.aload_n 0, 1) := by decide +kernel
theorem d_M_next_69 : decode b_M_next 69 = .ok (.iload 5, 2) := by decide +kernel
theorem d_M_next_71 : decode b_M_next 71 = .ok (.iload 4, 2) := by decide +kernel
theorem d_M_next_73 : decode b_M_next 73 = .ok (.invokevirtual 84, 3) := by decide +kernel
theorem d_M_next_76 : decode b_M_next 76 = .ok (.ifCond .eq 7, 3) := by decide +kernel
theorem d_M_next_79 : decode b_M_next 79 = .ok (.iload 5, 2) := by decide +kernel
theorem d_M_next_81 : decode b_M_next 81 = .ok (.istore 4, 2) := by decide +kernel
theorem d_M_next_83 : decode b_M_next 83 = .ok (.iinc 5 1, 3) := by decide +kernel
theorem d_M_next_86 : decode b_M_next 86 = .ok (.goto (-80), 3) := by decide +kernel
theorem d_M_next_89 : decode b_M_next 89 = .ok (.iload 4, 2) := by decide +kernel
theorem d_M_next_91 : decode b_M_next 91 = .ok (.ireturn, 1) := by decide +kernel
theorem d_M_look_0 : decode b_M_look 0 = .ok (.aload_n 0, 1) := by decide +kernel
theorem d_M_look_1 : decode b_M_look 1 = .ok (.iconst 0, 1) := by decide +kernel
theorem d_M_look_2 : decode b_M_look 2 = .ok (.putfield 87, 3) := by decide +kernel
theorem d_M_look_5 : decode b_M_look 5 = .ok (.iconst 0, 1) := by decide +kernel
theorem d_M_look_6 : decode b_M_look 6 = .ok (.istore_n 2, 1) := by decide +kernel
theorem d_M_look_7 : decode b_M_look 7 = .ok (.aload_n 0, 1) := by decide +kernel
theorem d_M_look_8 : decode b_M_look 8 = .ok (.iload_n 1, 1) := by decide +kernel
theorem d_M_look_9 : decode b_M_look 9 = .ok (.iconst (-1), 1) := by decide +kernel
theorem d_M_look_10 : decode b_M_look 10 = .ok (.iconst (-1), 1) := by decide +kernel
theorem d_M_look_11 : decode b_M_look 11 = .ok (.invokevirtual 90, 3) := by decide +kernel
theorem d_M_look_14 : decode b_M_look 14 = .ok (.istore_n 3, 1) := by decide +kernel
theorem d_M_look_15 : decode b_M_look 15 = .ok (.iload_n 3, 1) := by decide +kernel
theorem d_M_look_16 : decode b_M_look 16 = .ok (.ifCond .lt 24, 3) := by decide +kernel
theorem d_M_look_19 : decode b_M_look 19 = .ok (.aload_n 0, 1) := by decide +kernel
theorem d_M_look_20 : decode b_M_look 20 = .ok (.getfield 33, 3) := by decide +kernel
theorem d_M_look_23 : decode b_M_look 23 = .ok (.iload_n 2, 1) := by decide +kernel
theorem d_M_look_24 : decode b_M_look 24 = .ok (.iinc 2 1, 3) := by decide +kernel
theorem d_M_look_27 : decode b_M_look 27 = .ok (.iload_n 3, 1) := by decide +kernel
theorem d_M_look_28 : decode b_M_look 28 = .ok (.iastore, 1) := by decide +kernel
theorem d_M_look_29 : decode b_M_look 29 = .ok (.aload_n 0, 1) := by decide +kernel
theorem d_M_look_30 : decode b_M_look 30 = .ok (.iload_n 1, 1) := by decide +kernel
theorem d_M_look_31 : decode b_M_look 31 = .ok (.iconst (-1), 1) := by decide +kernel
theorem d_M_look_32 : decode b_M_look 32 = .ok (.iload_n 3, 1) := by decide +kernel
theorem d_M_look_33 : decode b_M_look 33 = .ok (.invokevirtual 90, 3) := by decide +kernel
theorem d_M_look_36 : decode b_M_look 36 = .ok (.istore_n 3, 1) := by decide +kernel
theorem d_M_look_37 : decode b_M_look 37 = .ok (.goto (-22), 3) := by decide +kernel
theorem d_M_look_40 : decode b_M_look 40 = .ok (.iload_n 2, 1) := by decide +kernel
theorem d_M_look_41 : decode b_M_look 41 = .ok (.ifCond .le 71, 3) := by decide +kernel
theorem d_M_look_44 : decode b_M_look 44 = .ok (.aload_n 0, 1) := by decide +kernel
theorem d_M_look_45 : decode b_M_look 45 = .ok (.getfield 33, 3) := by decide +kernel
theorem d_M_look_48 : decode b_M_look 48 = .ok (.iinc 2 (-1), 3) := by decide +kernel
theorem d_M_look_51 : decode b_M_look 51 = .ok (.iload_n 2, 1) := by decide +kernel
theorem d_M_look_52 : decode b_M_look 52 = .ok (.iaload, 1) := by decide +kernel
theorem d_M_look_53 : decode b_M_look 53 = .ok (.istore_n 3, 1) := by decide +kernel
theorem d_M_look_54 : decode b_M_look 54 = .ok (.aload_n 0, 1) := by decide +kernel
theorem d_M_look_55 : decode b_M_look 55 = .ok (.getfield 30, 3) := by decide +kernel
theorem d_M_look_58 : decode b_M_look 58 = .ok (.aload_n 0, 1) := by decide +kernel
theorem d_M_look_59 : decode b_M_look 59 = .ok (.dup, 1) := by decide +kernel
theorem d_M_look_60 : decode b_M_look 60 = .ok (.getfield 87, 3) := by decide +kernel
theorem d_M_look_63 : decode b_M_look 63 = .ok (.dup_x1, 1) := by decide +kernel
theorem d_M_look_64 : decode b_M_look 64 = .ok (.iconst 1, 1) := by decide +kernel
theorem d_M_look_65 : decode b_M_look 65 = .ok (.iadd, 1) := by decide +kernel
theorem d_M_look_66 : decode b_M_look 66 = .ok (.putfield 87, 3) := by decide +kernel
theorem d_M_look_69 : decode b_M_look 69 = .ok (.iload_n 3, 1) := by decide +kernel
theorem d_M_look_70 : decode b_M_look 70 = .ok (.iastore, 1) := by decide +kernel
theorem d_M_look_71 : decode b_M_look 71 = .ok (.aload_n 0, 1) := by decide +kernel
theorem d_M_look_72 : decode b_M_look 72 = .ok (.iload_n 1, 1) := by decide +kernel
theorem d_M_look_73 : decode b_M_look 73 = .ok (.iload_n 3, 1) := by decide +kernel
theorem d_M_look_74 : decode b_M_look 74 = .ok (.iconst (-1), 1) := by decide +kernel
theorem d_M_look_75 : decode b_M_look 75 = .ok (.invokevirtual 90, 3) := by decide +kernel
theorem d_M_look_78 : decode b_M_look 78 = .ok (.istore 4, 2) := by decide +kernel
theorem d_M_look_80 : decode b_M_look 80 = .ok (.iload 4, 2) := by decide +kernel
theorem d_M_look_82 : decode b_M_look 82 = .ok (.ifCond .lt 27, 3) := by decide +kernel
theorem d_M_look_85 : decode b_M_look 85 = .ok (.aload_n 0, 1) := by decide +kernel
theorem d_M_look_86 : decode b_M_look 86 = .ok (.getfield 33, 3) := by decide +kernel
theorem d_M_look_89 : decode b_M_look 89 = .ok (.iload_n 2, 1) := by decide +kernel
theorem d_M_look_90 : decode b_M_look 90 = .ok (.iinc 2 1, 3) := by decide +kernel
theorem d_M_look_93 : decode b_M_look 93 = .ok (.iload 4, 2) := by decide +kernel
theorem d_M_look_95 : decode b_M_look 95 = .ok (.iastore, 1) := by decide +kernel
theorem d_M_look_96 : decode b_M_look 96 = .ok (.aload_n 0, 1) := by decide +kernel
theorem d_M_look_97 : decode b_M_look 97 = .ok (.iload_n 1, 1) := by decide +kernel
theorem d_M_look_98 : decode b_M_look 98 = .ok (.iload_n 3, 1) := by decide +kernel
theorem d_M_look_99 : decode b_M_look 99 = .ok (.iload 4, 2) := by decide +kernel
theorem d_M_look_101 : decode b_M_look 101 = .ok (.invokevirtual 90, 3) := by decide +kernel
theorem d_M_look_104 : decode b_M_look 104 = .ok (.istore 4, 2) := by decide +kernel
theorem d_M_look_106 : decode b_M_look 106 = .ok (.goto (-26), 3) := by decide +kernel
theorem d_M_look_109 : decode b_M_look 109 = .ok (.goto (-69), 3) := by decide +kernel
theorem d_M_look_112 : decode b_M_look 112 = .ok (.return_, 1) := by decide +kernel
theorem d_M_isSeen_0 : decode b_M_isSeen 0 = .ok (.iconst 0, 1) := by decide +kernel
theorem d_M_isSeen_1 : decode b_M_isSeen 1 = .ok (.istore_n 3, 1) := by decide +kernel
theorem d_M_isSeen_2 : decode b_M_isSeen 2 = .ok (.iload_n 3, 1) := by decide +kernel
theorem d_M_isSeen_3 : decode b_M_isSeen 3 = .ok (.aload_n 0, 1) := by decide +kernel
theorem d_M_isSeen_4 : decode b_M_isSeen 4 = .ok (.getfield 49, 3) := by decide +kernel
theorem d_M_isSeen_7 : decode b_M_isSeen 7 = .ok (.if_icmp .ge 39, 3) := by decide +kernel
theorem d_M_isSeen_10 : decode b_M_isSeen 10 = .ok (.aload_n 0, 1) := by decide +kernel
theorem d_M_isSeen_11 : decode b_M_isSeen 11 = .ok (.getfield 23, 3) := by decide +kernel
theorem d_M_isSeen_14 : decode b_M_isSeen 14 = .ok (.iload_n 3, 1) := by decide +kernel
theorem d_M_isSeen_15 : decode b_M_isSeen 15 = .ok (.baload, 1) := by decide +kernel
theorem d_M_isSeen_16 : decode b_M_isSeen 16 = .ok (.ifCond .eq 24, 3) := by decide +kernel
theorem d_M_isSeen_19 : decode b_M_isSeen 19 = .ok (.aload_n 0, 1) := by decide +kernel
theorem d_M_isSeen_20 : decode b_M_isSeen 20 = .ok (.getfield 9, 3) := by decide +kernel
theorem d_M_isSeen_23 : decode b_M_isSeen 23 = .ok (.iload_n 3, 1) := by decide +kernel
theorem d_M_isSeen_24 : decode b_M_isSeen 24 = .ok (.iaload, 1) := by decide +kernel
theorem d_M_isSeen_25 : decode b_M_isSeen 25 = .ok (.iload_n 2, 1) := by decide +kernel
theorem d_M_isSeen_26 : decode b_M_isSeen 26 = .ok (.if_icmp .ne 14, 3) := by decide +kernel
theorem d_M_isSeen_29 : decode b_M_isSeen 29 = .ok (.aload_n 0, 1) := by decide +kernel
theorem d_M_isSeen_30 : decode b_M_isSeen 30 = .ok (.iload_n 1, 1) := by decide +kernel
theorem d_M_isSeen_31 : decode b_M_isSeen 31 = .ok (.iload_n 3, 1) := by decide +kernel
theorem d_M_isSeen_32 : decode b_M_isSeen 32 = .ok (.invokevirtual 56, 3) := by decide +kernel
theorem d_M_isSeen_35 : decode b_M_isSeen 35 = .ok (.ifCond .eq 5, 3) := by decide +kernel
theorem d_M_isSeen_38 : decode b_M_isSeen 38 = .ok (.iconst 0, 1) := by decide +kernel
theorem d_M_isSeen_39 : decode b_M_isSeen 39 = .ok (.ireturn, 1) := by decide +kernel
theorem d_M_isSeen_40 : decode b_M_isSeen 40 = .ok (.iinc 3 1, 3) := by decide +kernel
theorem d_M_isSeen_43 : decode b_M_isSeen 43 = .ok (.goto (-41), 3) := by decide +kernel
theorem d_M_isSeen_46 : decode b_M_isSeen 46 = .ok (.iconst 1, 1) := by decide +kernel
theorem d_M_isSeen_47 : decode b_M_isSeen 47 = .ok (.ireturn, 1) := by decide +kernel
theorem d_M_lookSeen_0 : decode b_M_lookSeen 0 = .ok (.aload_n 0, 1) := by decide +kernel
theorem d_M_lookSeen_1 : decode b_M_lookSeen 1 = .ok (.iload_n 1, 1) := by decide +kernel
theorem d_M_lookSeen_2 : decode b_M_lookSeen 2 = .ok (.invokevirtual 94, 3) := by decide +kernel
theorem d_M_lookSeen_5 : decode b_M_lookSeen 5 = .ok (.iconst 0, 1) := by decide +kernel
theorem d_M_lookSeen_6 : decode b_M_lookSeen 6 = .ok (.istore_n 2, 1) := by decide +kernel
theorem d_M_lookSeen_7 : decode b_M_lookSeen 7 = .ok (.iconst 0, 1) := by decide +kernel
theorem d_M_lookSeen_8 : decode b_M_lookSeen 8 = .ok (.istore_n 3, 1) := by decide +kernel
theorem d_M_lookSeen_9 : decode b_M_lookSeen 9 = .ok (.iload_n 3, 1) := by decide +kernel
theorem d_M_lookSeen_10 : decode b_M_lookSeen 10 = .ok (.aload_n 0, 1) := by decide +kernel
theorem d_M_lookSeen_11 : decode b_M_lookSeen 11 = .ok (.getfield 87, 3) := by decide +kernel
theorem d_M_lookSeen_14 : decode b_M_lookSeen 14 = .ok (.if_icmp .ge 38, 3) := by decide +kernel
theorem d_M_lookSeen_17 : decode b_M_lookSeen 17 = .ok (.aload_n 0, 1) := by decide +kernel
theorem d_M_lookSeen_18 : decode b_M_lookSeen 18 = .ok (.iload_n 1, 1) := by decide +kernel
theorem d_M_lookSeen_19 : decode b_M_lookSeen 19 = .ok (.aload_n 0, 1) := by decide +kernel
theorem d_M_lookSeen_20 : decode b_M_lookSeen 20 = .ok (.getfield 30, 3) := by decide +kernel
theorem d_M_lookSeen_23 : decode b_M_lookSeen 23 = .ok (.iload_n 3, 1) := by decide +kernel
theorem d_M_lookSeen_24 : decode b_M_lookSeen 24 = .ok (.iaload, 1) := by decide +kernel
theorem d_M_lookSeen_25 : decode b_M_lookSeen 25 = .ok (.invokevirtual 98, 3) := by decide +kernel
theorem d_M_lookSeen_28 : decode b_M_lookSeen 28 = .ok (.ifCond .eq 18, 3) := by decide +kernel
theorem d_M_lookSeen_31 : decode b_M_lookSeen 31 = .ok (.aload_n 0, 1) := by decide +kernel
theorem d_M_lookSeen_32 : decode b_M_lookSeen 32 = .ok (.getfield 30, 3) := by decide +kernel
theorem d_M_lookSeen_35 : decode b_M_lookSeen 35 = .ok (.iload_n 2, 1) := by decide +kernel
theorem d_M_lookSeen_36 : decode b_M_lookSeen 36 = .ok (.iinc 2 1, 3) := by decide +kernel
theorem d_M_lookSeen_39 : decode b_M_lookSeen 39 = .ok (.aload_n 0, 1) := by decide +kernel
theorem d_M_lookSeen_40 : decode b_M_lookSeen 40 = .ok (.getfield 30, 3) := by decide +kernel
theorem d_M_lookSeen_43 : decode b_M_lookSeen 43 = .ok (.iload_n 3, 1) := by decide +kernel
theorem d_M_lookSeen_44 : decode b_M_lookSeen 44 = .ok (.iaload, 1) := by decide +kernel
theorem d_M_lookSeen_45 : decode b_M_lookSeen 45 = .ok (.iastore, 1) := by decide +kernel
theorem d_M_lookSeen_46 : decode b_M_lookSeen 46 = .ok (.iinc 3 1, 3) := by decide +kernel
theorem d_M_lookSeen_49 : decode b_M_lookSeen 49 = .ok (.goto (-40), 3) := by decide +kernel
theorem d_M_lookSeen_52 : decode b_M_lookSeen 52 = .ok (.aload_n 0, 1) := by decide +kernel
theorem d_M_lookSeen_53 : decode b_M_lookSeen 53 = .ok (.iload_n 2, 1) := by decide +kernel
theorem d_M_lookSeen_54 : decode b_M_lookSeen 54 = .ok (.putfield 87, 3) := by decide +kernel
theorem d_M_lookSeen_57 : decode b_M_lookSeen 57 = .ok (.return_, 1) := by decide +kernel
theorem d_M_at_0 : decode b_M_at 0 = .ok (.aload_n 0, 1) := by decide +kernel
theorem d_M_at_1 : decode b_M_at 1 = .ok (.iconst 0, 1) := by decide +kernel
theorem d_M_at_2 : decode b_M_at 2 = .ok (.putfield 39, 3) := by decide +kernel
theorem d_M_at_5 : decode b_M_at 5 = .ok (.aload_n 0, 1) := by decide +kernel
theorem d_M_at_6 : decode b_M_at 6 = .ok (.iload_n 1, 1) := by decide +kernel
theorem d_M_at_7 : decode b_M_at 7 = .ok (.invokestatic 70, 3) := by decide +kernel
theorem d_M_at_10 : decode b_M_at 10 = .ok (.ifCond .ne 7, 3) := by decide +kernel
theorem d_M_at_13 : decode b_M_at 13 = .ok (.iconst 1, 1) := by decide +kernel
theorem d_M_at_14 : decode b_M_at 14 = .ok (.goto 4, 3) := by decide +kernel
theorem d_M_at_17 : decode b_M_at 17 = .ok (.iconst 0, 1) := by decide +kernel
theorem d_M_at_18 : decode b_M_at 18 = .ok (.iconst 1, 1) := by decide +kernel
theorem d_M_at_19 : decode b_M_at 19 = .ok (.invokevirtual 73, 3) := by decide +kernel
theorem d_M_at_22 : decode b_M_at 22 = .ok (.ifCond .eq 5, 3) := by decide +kernel
theorem d_M_at_25 : decode b_M_at 25 = .ok (.iconst 0, 1) := by decide +kernel
theorem d_M_at_26 : decode b_M_at 26 = .ok (.ireturn, 1) := by decide +kernel
theorem d_M_at_27 : decode b_M_at 27 = .ok (.aload_n 0, 1) := by decide +kernel
theorem d_M_at_28 : decode b_M_at 28 = .ok (.iload_n 1, 1) := by decide +kernel
theorem d_M_at_29 : decode b_M_at 29 = .ok (.invokevirtual 101, 3) := by decide +kernel
theorem d_M_at_32 : decode b_M_at 32 = .ok (.iload_n 2, 1) := by decide +kernel
theorem d_M_at_33 : decode b_M_at 33 = .ok (.i2l, 1) := by decide +kernel
theorem d_M_at_34 : decode b_M_at 34 = .ok (.lconst 0, 1) := by decide +kernel
theorem d_M_at_35 : decode b_M_at 35 = .ok (.aload_n 0, 1) := by decide +kernel
theorem d_M_at_36 : decode b_M_at 36 = .ok (.getfield 87, 3) := by decide +kernel
theorem d_M_at_39 : decode b_M_at 39 = .ok (.iconst 1, 1) := by decide +kernel
theorem d_M_at_40 : decode b_M_at 40 = .ok (.isub, 1) := by decide +kernel
theorem d_M_at_41 : decode b_M_at 41 = .ok (.i2l, 1) := by decide +kernel
theorem d_M_at_42 : decode b_M_at 42 = .ok (.invokestatic 45, 3) := by decide +kernel
theorem d_M_at_45 : decode b_M_at 45 = .ok (.ifCond .eq 12, 3) := by decide +kernel
theorem d_M_at_48 : decode b_M_at 48 = .ok (.aload_n 0, 1) := by decide +kernel
theorem d_M_at_49 : decode b_M_at 49 = .ok (.getfield 30, 3) := by decide +kernel
theorem d_M_at_52 : decode b_M_at 52 = .ok (.iload_n 2, 1) := by decide +kernel
theorem d_M_at_53 : decode b_M_at 53 = .ok (.iaload, 1) := by decide +kernel
theorem d_M_at_54 : decode b_M_at 54 = .ok (.goto 4, 3) := by decide +kernel
theorem d_M_at_57 : decode b_M_at 57 = .ok (.iconst (-1), 1) := by decide +kernel
theorem d_M_at_58 : decode b_M_at 58 = .ok (.ireturn, 1) := by decide +kernel
theorem d_M_place_0 : decode b_M_place 0 = .ok (.aload_n 0, 1) := by decide +kernel
theorem d_M_place_1 : decode b_M_place 1 = .ok (.iconst 0, 1) := by decide +kernel
theorem d_M_place_2 : decode b_M_place 2 = .ok (.putfield 39, 3) := by decide +kernel
theorem d_M_place_5 : decode b_M_place 5 = .ok (.aload_n 0, 1) := by decide +kernel
theorem d_M_place_6 : decode b_M_place 6 = .ok (.iload_n 1, 1) := by decide +kernel
theorem d_M_place_7 : decode b_M_place 7 = .ok (.invokestatic 70, 3) := by decide +kernel
theorem d_M_place_10 : decode b_M_place 10 = .ok (.ifCond .ne 7, 3) := by decide +kernel
theorem d_M_place_13 : decode b_M_place 13 = .ok (.iconst 1, 1) := by decide +kernel
theorem d_M_place_14 : decode b_M_place 14 = .ok (.goto 4, 3) := by decide +kernel
theorem d_M_place_17 : decode b_M_place 17 = .ok (.iconst 0, 1) := by decide +kernel
theorem d_M_place_18 : decode b_M_place 18 = .ok (.iconst 1, 1) := by decide +kernel
theorem d_M_place_19 : decode b_M_place 19 = .ok (.invokevirtual 73, 3) := by decide +kernel
theorem d_M_place_22 : decode b_M_place 22 = .ok (.ifCond .ne 46, 3) := by decide +kernel
theorem d_M_place_25 : decode b_M_place 25 = .ok (.aload_n 0, 1) := by decide +kernel
theorem d_M_place_26 : decode b_M_place 26 = .ok (.aload_n 0, 1) := by decide +kernel
theorem d_M_place_27 : decode b_M_place 27 = .ok (.iload_n 2, 1) := by decide +kernel
theorem d_M_place_28 : decode b_M_place 28 = .ok (.invokevirtual 52, 3) := by decide +kernel
theorem d_M_place_31 : decode b_M_place 31 = .ok (.ifCond .ne 7, 3) := by decide +kernel
theorem d_M_place_34 : decode b_M_place 34 = .ok (.iconst 1, 1) := by decide +kernel
theorem d_M_place_35 : decode b_M_place 35 = .ok (.goto 4, 3) := by decide +kernel
theorem d_M_place_38 : decode b_M_place 38 = .ok (.iconst 0, 1) := by decide +kernel
theorem d_M_place_39 : decode b_M_place 39 = .ok (.iconst 2, 1) := by decide +kernel
theorem d_M_place_40 : decode b_M_place 40 = .ok (.invokevirtual 73, 3) := by decide +kernel
theorem d_M_place_43 : decode b_M_place 43 = .ok (.ifCond .ne 25, 3) := by decide +kernel
theorem d_M_place_46 : decode b_M_place 46 = .ok (.aload_n 0, 1) := by decide +kernel
theorem d_M_place_47 : decode b_M_place 47 = .ok (.aload_n 0, 1) := by decide +kernel
theorem d_M_place_48 : decode b_M_place 48 = .ok (.iload_n 1, 1) := by decide +kernel
theorem d_M_place_49 : decode b_M_place 49 = .ok (.iload_n 2, 1) := by decide +kernel
theorem d_M_place_50 : decode b_M_place 50 = .ok (.invokevirtual 77, 3) := by decide +kernel
theorem d_M_place_53 : decode b_M_place 53 = .ok (.ifCond .ne 7, 3) := by decide +kernel
theorem d_M_place_56 : decode b_M_place 56 = .ok (.iconst 1, 1) := by decide +kernel
theorem d_M_place_57 : decode b_M_place 57 = .ok (.goto 4, 3) := by decide +kernel
theorem d_M_place_60 : decode b_M_place 60 = .ok (.iconst 0, 1) := by decide +kernel
theorem d_M_place_61 : decode b_M_place 61 = .ok (.iconst 3, 1) := by decide +kernel
theorem d_M_place_62 : decode b_M_place 62 = .ok (.invokevirtual 73, 3) := by decide +kernel
theorem d_M_place_65 : decode b_M_place 65 = .ok (.ifCond .eq 5, 3) := by decide +kernel
theorem d_M_place_68 : decode b_M_place 68 = .ok (.iconst 0, 1) := by decide +kernel
theorem d_M_place_69 : decode b_M_place 69 = .ok (.ireturn, 1) := by decide +kernel
theorem d_M_place_70 : decode b_M_place 70 = .ok (.aload_n 0, 1) := by decide +kernel
theorem d_M_place_71 : decode b_M_place 71 = .ok (.iload_n 1, 1) := by decide +kernel
theorem d_M_place_72 : decode b_M_place 72 = .ok (.invokevirtual 94, 3) := by decide +kernel
theorem d_M_place_75 : decode b_M_place 75 = .ok (.iconst 0, 1) := by decide +kernel
theorem d_M_place_76 : decode b_M_place 76 = .ok (.istore_n 3, 1) := by decide +kernel
theorem d_M_place_77 : decode b_M_place 77 = .ok (.iload_n 3, 1) := by decide +kernel
theorem d_M_place_78 : decode b_M_place 78 = .ok (.aload_n 0, 1) := by decide +kernel
theorem d_M_place_79 : decode b_M_place 79 = .ok (.getfield 87, 3) := by decide +kernel
theorem d_M_place_82 : decode b_M_place 82 = .ok (.if_icmp .ge 21, 3) := by decide +kernel
theorem d_M_place_85 : decode b_M_place 85 = .ok (.aload_n 0, 1) := by decide +kernel
theorem d_M_place_86 : decode b_M_place 86 = .ok (.getfield 30, 3) := by decide +kernel
theorem d_M_place_89 : decode b_M_place 89 = .ok (.iload_n 3, 1) := by decide +kernel
theorem d_M_place_90 : decode b_M_place 90 = .ok (.iaload, 1) := by decide +kernel
theorem d_M_place_91 : decode b_M_place 91 = .ok (.iload_n 2, 1) := by decide +kernel
theorem d_M_place_92 : decode b_M_place 92 = .ok (.if_icmp .ne 5, 3) := by decide +kernel
theorem d_M_place_95 : decode b_M_place 95 = .ok (.iload_n 3, 1) := by decide +kernel
theorem d_M_place_96 : decode b_M_place 96 = .ok (.ireturn, 1) := by decide +kernel
theorem d_M_place_97 : decode b_M_place 97 = .ok (.iinc 3 1, 3) := by decide +kernel
theorem d_M_place_100 : decode b_M_place 100 = .ok (.goto (-23), 3) := by decide +kernel
theorem d_M_place_103 : decode b_M_place 103 = .ok (.iconst (-1), 1) := by decide +kernel
theorem d_M_place_104 : decode b_M_place 104 = .ok (.ireturn, 1) := by decide +kernel
theorem d_M_value_0 : decode b_M_value 0 = .ok (.aload_n 0, 1) := by decide +kernel
theorem d_M_value_1 : decode b_M_value 1 = .ok (.iconst 0, 1) := by decide +kernel
theorem d_M_value_2 : decode b_M_value 2 = .ok (.putfield 39, 3) := by decide +kernel
theorem d_M_value_5 : decode b_M_value 5 = .ok (.aload_n 0, 1) := by decide +kernel
theorem d_M_value_6 : decode b_M_value 6 = .ok (.aload_n 0, 1) := by decide +kernel
theorem d_M_value_7 : decode b_M_value 7 = .ok (.iload_n 1, 1) := by decide +kernel
theorem d_M_value_8 : decode b_M_value 8 = .ok (.invokevirtual 52, 3) := by decide +kernel
theorem d_M_value_11 : decode b_M_value 11 = .ok (.ifCond .eq 12, 3) := by decide +kernel
theorem d_M_value_14 : decode b_M_value 14 = .ok (.aload_n 0, 1) := by decide +kernel
theorem d_M_value_15 : decode b_M_value 15 = .ok (.getfield 23, 3) := by decide +kernel
theorem d_M_value_18 : decode b_M_value 18 = .ok (.iload_n 1, 1) := by decide +kernel
theorem d_M_value_19 : decode b_M_value 19 = .ok (.baload, 1) := by decide +kernel
theorem d_M_value_20 : decode b_M_value 20 = .ok (.ifCond .eq 7, 3) := by decide +kernel
theorem d_M_value_23 : decode b_M_value 23 = .ok (.iconst 1, 1) := by decide +kernel
theorem d_M_value_24 : decode b_M_value 24 = .ok (.goto 4, 3) := by decide +kernel
theorem d_M_value_27 : decode b_M_value 27 = .ok (.iconst 0, 1) := by decide +kernel
theorem d_M_value_28 : decode b_M_value 28 = .ok (.iconst 1, 1) := by decide +kernel
theorem d_M_value_29 : decode b_M_value 29 = .ok (.invokevirtual 73, 3) := by decide +kernel
theorem d_M_value_32 : decode b_M_value 32 = .ok (.ifCond .eq 7, 3) := by decide +kernel
theorem d_M_value_35 : decode b_M_value 35 = .ok (.lconst 0, 1) := by decide +kernel
theorem d_M_value_36 : decode b_M_value 36 = .ok (.goto 9, 3) := by decide +kernel
theorem d_M_value_39 : decode b_M_value 39 = .ok (.aload_n 0, 1) := by decide +kernel
theorem d_M_value_40 : decode b_M_value 40 = .ok (.getfield 19, 3) := by decide +kernel
theorem d_M_value_43 : decode b_M_value 43 = .ok (.iload_n 1, 1) := by decide +kernel
theorem d_M_value_44 : decode b_M_value 44 = .ok (.laload, 1) := by decide +kernel
theorem d_M_value_45 : decode b_M_value 45 = .ok (.lreturn, 1) := by decide +kernel
theorem d_M_stamp_0 : decode b_M_stamp 0 = .ok (.aload_n 0, 1) := by decide +kernel
theorem d_M_stamp_1 : decode b_M_stamp 1 = .ok (.iconst 0, 1) := by decide +kernel
theorem d_M_stamp_2 : decode b_M_stamp 2 = .ok (.putfield 39, 3) := by decide +kernel
theorem d_M_stamp_5 : decode b_M_stamp 5 = .ok (.aload_n 0, 1) := by decide +kernel
theorem d_M_stamp_6 : decode b_M_stamp 6 = .ok (.aload_n 0, 1) := by decide +kernel
theorem d_M_stamp_7 : decode b_M_stamp 7 = .ok (.iload_n 1, 1) := by decide +kernel
theorem d_M_stamp_8 : decode b_M_stamp 8 = .ok (.invokevirtual 52, 3) := by decide +kernel
theorem d_M_stamp_11 : decode b_M_stamp 11 = .ok (.ifCond .ne 7, 3) := by decide +kernel
theorem d_M_stamp_14 : decode b_M_stamp 14 = .ok (.iconst 1, 1) := by decide +kernel
theorem d_M_stamp_15 : decode b_M_stamp 15 = .ok (.goto 4, 3) := by decide +kernel
theorem d_M_stamp_18 : decode b_M_stamp 18 = .ok (.iconst 0, 1) := by decide +kernel
theorem d_M_stamp_19 : decode b_M_stamp 19 = .ok (.iconst 1, 1) := by decide +kernel
theorem d_M_stamp_20 : decode b_M_stamp 20 = .ok (.invokevirtual 73, 3) := by decide +kernel
theorem d_M_stamp_23 : decode b_M_stamp 23 = .ok (.ifCond .eq 7, 3) := by decide +kernel
theorem d_M_stamp_26 : decode b_M_stamp 26 = .ok (.iconst 0, 1) := by decide +kernel
theorem d_M_stamp_27 : decode b_M_stamp 27 = .ok (.goto 9, 3) := by decide +kernel
theorem d_M_stamp_30 : decode b_M_stamp 30 = .ok (.aload_n 0, 1) := by decide +kernel
theorem d_M_stamp_31 : decode b_M_stamp 31 = .ok (.getfield 13, 3) := by decide +kernel
theorem d_M_stamp_34 : decode b_M_stamp 34 = .ok (.iload_n 1, 1) := by decide +kernel
theorem d_M_stamp_35 : decode b_M_stamp 35 = .ok (.iaload, 1) := by decide +kernel
theorem d_M_stamp_36 : decode b_M_stamp 36 = .ok (.ireturn, 1) := by decide +kernel
theorem d_M_count_0 : decode b_M_count 0 = .ok (.aload_n 0, 1) := by decide +kernel
theorem d_M_count_1 : decode b_M_count 1 = .ok (.iconst 0, 1) := by decide +kernel
theorem d_M_count_2 : decode b_M_count 2 = .ok (.putfield 39, 3) := by decide +kernel
theorem d_M_count_5 : decode b_M_count 5 = .ok (.aload_n 0, 1) := by decide +kernel
theorem d_M_count_6 : decode b_M_count 6 = .ok (.iload_n 1, 1) := by decide +kernel
theorem d_M_count_7 : decode b_M_count 7 = .ok (.invokestatic 70, 3) := by decide +kernel
theorem d_M_count_10 : decode b_M_count 10 = .ok (.ifCond .eq 15, 3) := by decide +kernel
theorem d_M_count_13 : decode b_M_count 13 = .ok (.iload_n 2, 1) := by decide +kernel
theorem d_M_count_14 : decode b_M_count 14 = .ok (.i2l, 1) := by decide +kernel
theorem d_M_count_15 : decode b_M_count 15 = .ok (.lconst 0, 1) := by decide +kernel
theorem d_M_count_16 : decode b_M_count 16 = .ok (.ldc2_w 43, 3) := by decide +kernel
theorem d_M_count_19 : decode b_M_count 19 = .ok (.invokestatic 45, 3) := by decide +kernel
theorem d_M_count_22 : decode b_M_count 22 = .ok (.ifCond .ne 7, 3) := by decide +kernel
theorem d_M_count_25 : decode b_M_count 25 = .ok (.iconst 1, 1) := by decide +kernel
theorem d_M_count_26 : decode b_M_count 26 = .ok (.goto 4, 3) := by decide +kernel
theorem d_M_count_29 : decode b_M_count 29 = .ok (.iconst 0, 1) := by decide +kernel
theorem d_M_count_30 : decode b_M_count 30 = .ok (.iconst 1, 1) := by decide +kernel
theorem d_M_count_31 : decode b_M_count 31 = .ok (.invokevirtual 73, 3) := by decide +kernel
theorem d_M_count_34 : decode b_M_count 34 = .ok (.ifCond .eq 5, 3) := by decide +kernel
theorem d_M_count_37 : decode b_M_count 37 = .ok (.iconst 0, 1) := by decide +kernel
theorem d_M_count_38 : decode b_M_count 38 = .ok (.ireturn, 1) := by decide +kernel
theorem d_M_count_39 : decode b_M_count 39 = .ok (.iload_n 2, 1) := by decide +kernel
theorem d_M_count_40 : decode b_M_count 40 = .ok (.iconst 3, 1) := by decide +kernel
theorem d_M_count_41 : decode b_M_count 41 = .ok (.if_icmp .ne 9, 3) := by decide +kernel
theorem d_M_count_44 : decode b_M_count 44 = .ok (.aload_n 0, 1) := by decide +kernel
theorem d_M_count_45 : decode b_M_count 45 = .ok (.iload_n 1, 1) := by decide +kernel
theorem d_M_count_46 : decode b_M_count 46 = .ok (.invokevirtual 66, 3) := by decide +kernel
theorem d_M_count_49 : decode b_M_count 49 = .ok (.ireturn, 1) := by decide +kernel
theorem d_M_count_50 : decode b_M_count 50 = .ok (.iload_n 2, 1) := by decide +kernel
theorem d_M_count_51 : decode b_M_count 51 = .ok (.iconst 2, 1) := by decide +kernel
theorem d_M_count_52 : decode b_M_count 52 = .ok (.if_icmp .ne 13, 3) := by decide +kernel
theorem d_M_count_55 : decode b_M_count 55 = .ok (.aload_n 0, 1) := by decide +kernel
theorem d_M_count_56 : decode b_M_count 56 = .ok (.iload_n 1, 1) := by decide +kernel
theorem d_M_count_57 : decode b_M_count 57 = .ok (.invokevirtual 101, 3) := by decide +kernel
theorem d_M_count_60 : decode b_M_count 60 = .ok (.aload_n 0, 1) := by decide +kernel
theorem d_M_count_61 : decode b_M_count 61 = .ok (.getfield 87, 3) := by decide +kernel
theorem d_M_count_64 : decode b_M_count 64 = .ok (.ireturn, 1) := by decide +kernel
theorem d_M_count_65 : decode b_M_count 65 = .ok (.iconst 0, 1) := by decide +kernel
theorem d_M_count_66 : decode b_M_count 66 = .ok (.istore_n 3, 1) := by decide +kernel
theorem d_M_count_67 : decode b_M_count 67 = .ok (.iconst 0, 1) := by decide +kernel
theorem d_M_count_68 : decode b_M_count 68 = .ok (.istore 4, 2) := by decide +kernel
theorem d_M_count_70 : decode b_M_count 70 = .ok (.iload 4, 2) := by decide +kernel
theorem d_M_count_72 : decode b_M_count 72 = .ok (.aload_n 0, 1) := by decide +kernel
theorem d_M_count_73 : decode b_M_count 73 = .ok (.getfield 49, 3) := by decide +kernel
theorem d_M_count_76 : decode b_M_count 76 = .ok (.if_icmp .ge 36, 3) := by decide +kernel
theorem d_M_count_79 : decode b_M_count 79 = .ok (.aload_n 0, 1) := by decide +kernel
theorem d_M_count_80 : decode b_M_count 80 = .ok (.iload_n 1, 1) := by decide +kernel
theorem d_M_count_81 : decode b_M_count 81 = .ok (.iload 4, 2) := by decide +kernel
theorem d_M_count_83 : decode b_M_count 83 = .ok (.invokevirtual 56, 3) := by decide +kernel
theorem d_M_count_86 : decode b_M_count 86 = .ok (.ifCond .eq 20, 3) := by decide +kernel
theorem d_M_count_89 : decode b_M_count 89 = .ok (.iload_n 2, 1) := by decide +kernel
theorem d_M_count_90 : decode b_M_count 90 = .ok (.ifCond .eq 13, 3) := by decide +kernel
theorem d_M_count_93 : decode b_M_count 93 = .ok (.aload_n 0, 1) := by decide +kernel
theorem d_M_count_94 : decode b_M_count 94 = .ok (.getfield 23, 3) := by decide +kernel
theorem d_M_count_97 : decode b_M_count 97 = .ok (.iload 4, 2) := by decide +kernel
theorem d_M_count_99 : decode b_M_count 99 = .ok (.baload, 1) := by decide +kernel
theorem d_M_count_100 : decode b_M_count 100 = .ok (.ifCond .ne 6, 3) := by decide +kernel
theorem d_M_count_103 : decode b_M_count 103 = .ok (.iinc 3 1, 3) := by decide +kernel
theorem d_M_count_106 : decode b_M_count 106 = .ok (.iinc 4 1, 3) := by decide +kernel
theorem d_M_count_109 : decode b_M_count 109 = .ok (.goto (-39), 3) := by decide +kernel
theorem d_M_count_112 : decode b_M_count 112 = .ok (.iload_n 3, 1) := by decide +kernel
theorem d_M_count_113 : decode b_M_count 113 = .ok (.ireturn, 1) := by decide +kernel
theorem d_M_same_0 : decode b_M_same 0 = .ok (.aload_n 0, 1) := by decide +kernel
theorem d_M_same_1 : decode b_M_same 1 = .ok (.iconst 0, 1) := by decide +kernel
theorem d_M_same_2 : decode b_M_same 2 = .ok (.putfield 39, 3) := by decide +kernel
theorem d_M_same_5 : decode b_M_same 5 = .ok (.aload_n 0, 1) := by decide +kernel
theorem d_M_same_6 : decode b_M_same 6 = .ok (.iload_n 1, 1) := by decide +kernel
theorem d_M_same_7 : decode b_M_same 7 = .ok (.invokestatic 70, 3) := by decide +kernel
theorem d_M_same_10 : decode b_M_same 10 = .ok (.ifCond .eq 10, 3) := by decide +kernel
theorem d_M_same_13 : decode b_M_same 13 = .ok (.iload_n 2, 1) := by decide +kernel
theorem d_M_same_14 : decode b_M_same 14 = .ok (.invokestatic 70, 3) := by decide +kernel
theorem d_M_same_17 : decode b_M_same 17 = .ok (.ifCond .ne 7, 3) := by decide +kernel
theorem d_M_same_20 : decode b_M_same 20 = .ok (.iconst 1, 1) := by decide +kernel
theorem d_M_same_21 : decode b_M_same 21 = .ok (.goto 4, 3) := by decide +kernel
theorem d_M_same_24 : decode b_M_same 24 = .ok (.iconst 0, 1) := by decide +kernel
theorem d_M_same_25 : decode b_M_same 25 = .ok (.iconst 1, 1) := by decide +kernel
theorem d_M_same_26 : decode b_M_same 26 = .ok (.invokevirtual 73, 3) := by decide +kernel
theorem d_M_same_29 : decode b_M_same 29 = .ok (.ifCond .eq 5, 3) := by decide +kernel
theorem d_M_same_32 : decode b_M_same 32 = .ok (.iconst 0, 1) := by decide +kernel
theorem d_M_same_33 : decode b_M_same 33 = .ok (.ireturn, 1) := by decide +kernel
theorem d_M_same_34 : decode b_M_same 34 = .ok (.aload_n 0, 1) := by decide +kernel
theorem d_M_same_35 : decode b_M_same 35 = .ok (.iload_n 1, 1) := by decide +kernel
theorem d_M_same_36 : decode b_M_same 36 = .ok (.invokevirtual 101, 3) := by decide +kernel
theorem d_M_same_39 : decode b_M_same 39 = .ok (.aload_n 0, 1) := by decide +kernel
theorem d_M_same_40 : decode b_M_same 40 = .ok (.getfield 87, 3) := by decide +kernel
theorem d_M_same_43 : decode b_M_same 43 = .ok (.istore_n 3, 1) := by decide +kernel
theorem d_M_same_44 : decode b_M_same 44 = .ok (.iconst 0, 1) := by decide +kernel
theorem d_M_same_45 : decode b_M_same 45 = .ok (.istore 4, 2) := by decide +kernel
theorem d_M_same_47 : decode b_M_same 47 = .ok (.iload 4, 2) := by decide +kernel
theorem d_M_same_49 : decode b_M_same 49 = .ok (.iload_n 3, 1) := by decide +kernel
theorem d_M_same_50 : decode b_M_same 50 = .ok (.if_icmp .ge 23, 3) := by decide +kernel
theorem d_M_same_53 : decode b_M_same 53 = .ok (.aload_n 0, 1) := by decide +kernel
theorem d_M_same_54 : decode b_M_same 54 = .ok (.getfield 36, 3) := by decide +kernel
theorem d_M_same_57 : decode b_M_same 57 = .ok (.iload 4, 2) := by decide +kernel
theorem d_M_same_59 : decode b_M_same 59 = .ok (.aload_n 0, 1) := by decide +kernel
theorem d_M_same_60 : decode b_M_same 60 = .ok (.getfield 30, 3) := by decide +kernel
theorem d_M_same_63 : decode b_M_same 63 = .ok (.iload 4, 2) := by decide +kernel
theorem d_M_same_65 : decode b_M_same 65 = .ok (.iaload, 1) := by decide +kernel
theorem d_M_same_66 : decode b_M_same 66 = .ok (.iastore, 1) := by decide +kernel
theorem d_M_same_67 : decode b_M_same 67 = .ok (.iinc 4 1, 3) := by decide +kernel
theorem d_M_same_70 : decode b_M_same 70 = .ok (.goto (-23), 3) := by decide +kernel
theorem d_M_same_73 : decode b_M_same 73 = .ok (.aload_n 0, 1) := by decide +kernel
theorem d_M_same_74 : decode b_M_same 74 = .ok (.iload_n 2, 1) := by decide +kernel
theorem d_M_same_75 : decode b_M_same 75 = .ok (.invokevirtual 101, 3) := by decide +kernel
theorem d_M_same_78 : decode b_M_same 78 = .ok (.iload_n 3, 1) := by decide +kernel
theorem d_M_same_79 : decode b_M_same 79 = .ok (.aload_n 0, 1) := by decide +kernel
theorem d_M_same_80 : decode b_M_same 80 = .ok (.getfield 87, 3) := by decide +kernel
theorem d_M_same_83 : decode b_M_same 83 = .ok (.if_icmp .eq 5, 3) := by decide +kernel
theorem d_M_same_86 : decode b_M_same 86 = .ok (.iconst 0, 1) := by decide +kernel
theorem d_M_same_87 : decode b_M_same 87 = .ok (.ireturn, 1) := by decide +kernel
theorem d_M_same_88 : decode b_M_same 88 = .ok (.iconst 0, 1) := by decide +kernel
theorem d_M_same_89 : decode b_M_same 89 = .ok (.istore 4, 2) := by decide +kernel
theorem d_M_same_91 : decode b_M_same 91 = .ok (.iload 4, 2) := by decide +kernel
theorem d_M_same_93 : decode b_M_same 93 = .ok (.iload_n 3, 1) := by decide +kernel
theorem d_M_same_94 : decode b_M_same 94 = .ok (.if_icmp .ge 28, 3) := by decide +kernel
theorem d_M_same_97 : decode b_M_same 97 = .ok (.aload_n 0, 1) := by decide +kernel
theorem d_M_same_98 : decode b_M_same 98 = .ok (.getfield 36, 3) := by decide +kernel
theorem d_M_same_101 : decode b_M_same 101 = .ok (.iload 4, 2) := by decide +kernel
theorem d_M_same_103 : decode b_M_same 103 = .ok (.iaload, 1) := by decide +kernel
theorem d_M_same_104 : decode b_M_same 104 = .ok (.aload_n 0, 1) := by decide +kernel
theorem d_M_same_105 : decode b_M_same 105 = .ok (.getfield 30, 3) := by decide +kernel
theorem d_M_same_108 : decode b_M_same 108 = .ok (.iload 4, 2) := by decide +kernel
theorem d_M_same_110 : decode b_M_same 110 = .ok (.iaload, 1) := by decide +kernel
theorem d_M_same_111 : decode b_M_same 111 = .ok (.if_icmp .eq 5, 3) := by decide +kernel
theorem d_M_same_114 : decode b_M_same 114 = .ok (.iconst 0, 1) := by decide +kernel
theorem d_M_same_115 : decode b_M_same 115 = .ok (.ireturn, 1) := by decide +kernel
theorem d_M_same_116 : decode b_M_same 116 = .ok (.iinc 4 1, 3) := by decide +kernel
theorem d_M_same_119 : decode b_M_same 119 = .ok (.goto (-28), 3) := by decide +kernel
theorem d_M_same_122 : decode b_M_same 122 = .ok (.iconst 1, 1) := by decide +kernel
theorem d_M_same_123 : decode b_M_same 123 = .ok (.ireturn, 1) := by decide +kernel
end
section
def wM (am : Nat → Nat) (cB cI cL : ClassId) (go gc gb gd gh gr gt gk : Nat → Int32) (gn : Nat → Int64) (er op sz : Int32) : va_W :=
  [(am 0, .inr (1, [.int er, .int op, .ref (am 1), .ref (am 2), .ref (am 3), .ref (am 4), .ref (am 5), .ref (am 6), .ref (am 7), .ref (am 8), .ref (am 9), .int sz])),
   (am 1, .inl (cI, 160, .inl go)), (am 2, .inl (cI, 160, .inl gc)), (am 3, .inl (cI, 160, .inl gb)), (am 4, .inl (cL, 160, .inr (.inl gn))), (am 5, .inl (cB, 160, .inl gd)), (am 6, .inl (cB, 640, .inl gh)), (am 7, .inl (cI, 160, .inl gr)), (am 8, .inl (cI, 161, .inl gt)), (am 9, .inl (cI, 160, .inl gk))]
def mx_A (a : AS) (go gc gb gd gh : Nat → Int32) (op : Int32) : Prop := op = nI (a_n a) ∧ (∀ k, k < a_n a → go k = a_tg a k) ∧ (∀ k, k < a_n a → gc k = nI (a_ct a k)) ∧ (∀ k, k < a_n a → gb k = nI (a_mk a k)) ∧ (∀ k, k < a_n a → gd k = jb (a_dl a k)) ∧ ∀ r, r < 4 → ∀ k, k < a_n a → gh (160 * r + k) = jb (a_hd a r k)
def m_in (v lo hi : Int64) : Bool := decide (¬ v < lo) && decide (¬ hi < v)
theorem m_in_rep (r : Int32) : m_in r.toInt64 0 3 = a_isrep r := by
  unfold m_in a_isrep a_isop
  rw [Bool.eq_iff_iff]
  simp only [Bool.and_eq_true, decide_eq_true_eq, Int64.lt_iff_toInt_lt, Int32.lt_iff_toInt_lt, Int32.toInt_toInt64]
  rw [show (0 : Int64).toInt = 0 by decide, show (3 : Int64).toInt = 3 by decide, show (0 : Int32).toInt = 0 by decide, show (nI 4).toInt = 4 by decide]
  omega
theorem m_in_op (k : Int32) {n : Nat} (hn : n ≤ 161) : m_in k.toInt64 0 (nI n - nI 1).toInt64 = a_isop n k := by
  unfold m_in a_isop
  rw [Bool.eq_iff_iff]
  simp only [Bool.and_eq_true, decide_eq_true_eq, Int64.lt_iff_toInt_lt, Int32.lt_iff_toInt_lt, Int32.toInt_toInt64]
  rw [show (0 : Int64).toInt = 0 by decide, show (0 : Int32).toInt = 0 by decide, pk_sub_toInt (by omega) (by omega), nI_toInt (by omega)]
  omega
theorem mx_ltb {a : AS} {go gc gb gd gh : Nat → Int32} {op : Int32} (hI : ab_I a) (hA : mx_A a go gc gb gd gh op) {i j : Nat} (hi : i < a_n a) (hj : j < a_n a) : a_ltb a i j = (decide (gc i < gc j) || (decide (gc i = gc j) && decide (gb i < gb j))) := by
  have hn := hI.1
  have b1 := (hI.2.2.2.1 i hi).2.2
  have b2 := (hI.2.2.2.1 j hj).2.2
  have b3 := (hI.2.2.2.1 i hi).1
  have b4 := (hI.2.2.2.1 j hj).1
  rw [hA.2.2.1 i hi, hA.2.2.1 j hj, hA.2.2.2.1 i hi, hA.2.2.2.1 j hj]
  unfold a_ltb
  simp only [nI_ltI (show a_ct a i < 2 ^ 31 by omega) (show a_ct a j < 2 ^ 31 by omega), nI_eq (show a_ct a i < 2 ^ 31 by omega) (show a_ct a j < 2 ^ 31 by omega), nI_ltI (show a_mk a i < 2 ^ 31 by omega) (show a_mk a j < 2 ^ 31 by omega)]
theorem w_342 : Cond.fieldLink RM 39 "WovenRowModel" "err" "I" ∈ WL := jwl 342 rfl rfl
theorem w_390 : Cond.constantLong RM 43 3 ∈ WL := jwl 390 rfl rfl
theorem w_391 : Cond.methodLink RM 45 y_M_in ∈ WL := jwl 391 rfl rfl
theorem w_392 : Cond.static y_M_in ∈ WL := jwl 392 rfl rfl
theorem w_30 : Cond.initialized RM ∈ WL := jwl 30 rfl rfl
theorem w_393 : Cond.code y_M_in b_M_in 6 (some .boolean) ∈ WL := jwl 393 rfl rfl
theorem w_343 : Cond.fieldLink RM 49 "WovenRowModel" "operations" "I" ∈ WL := jwl 343 rfl rfl
theorem w_349 : Cond.fieldLink RM 27 "WovenRowModel" "held" "[Z" ∈ WL := jwl 349 rfl rfl
theorem w_402 : Cond.methodLink RM 52 y_M_isThere ∈ WL := jwl 402 rfl rfl
theorem w_404 : Cond.instanceMethod y_M_isThere ∈ WL := jwl 404 rfl rfl
theorem w_19 : Cond.selects RM y_M_isThere y_M_isThere ∈ WL := jwl 19 rfl rfl
theorem w_405 : Cond.code y_M_isThere b_M_isThere 2 (some .boolean) ∈ WL := jwl 405 rfl rfl
theorem w_348 : Cond.fieldLink RM 23 "WovenRowModel" "deletes" "[Z" ∈ WL := jwl 348 rfl rfl
theorem w_406 : Cond.methodLink RM 56 y_M_has ∈ WL := jwl 406 rfl rfl
theorem w_408 : Cond.instanceMethod y_M_has ∈ WL := jwl 408 rfl rfl
theorem w_20 : Cond.selects RM y_M_has y_M_has ∈ WL := jwl 20 rfl rfl
theorem w_409 : Cond.code y_M_has b_M_has 3 (some .boolean) ∈ WL := jwl 409 rfl rfl
theorem w_345 : Cond.fieldLink RM 13 "WovenRowModel" "counts" "[I" ∈ WL := jwl 345 rfl rfl
theorem w_346 : Cond.fieldLink RM 16 "WovenRowModel" "by" "[I" ∈ WL := jwl 346 rfl rfl
theorem w_418 : Cond.methodLink RM 60 Lib.Math.max.name ∈ WL := jwl 418 rfl rfl
abbrev rm_M_thrown : Room := { frames := 0, cells := 0, slots := 0, locals := 0 }
abbrev rm_M_in : Room := { frames := 0, cells := 0, slots := 0, locals := 0 }
abbrev rm_M_fails : Room := { frames := 0, cells := 0, slots := 0, locals := 0 }
abbrev rm_M_isReplica : Room := { frames := 1, cells := 0, slots := 0, locals := 25 }
abbrev rm_M_isThere : Room := { frames := 1, cells := 0, slots := 0, locals := 25 }
abbrev rm_M_has : Room := { frames := 0, cells := 0, slots := 0, locals := 0 }
abbrev rm_M_hasElement : Room := { frames := 2, cells := 0, slots := 0, locals := 46 }
abbrev rm_M_greatest : Room := { frames := 1, cells := 0, slots := 0, locals := 22 }
abbrev rm_M_isLess : Room := { frames := 0, cells := 0, slots := 0, locals := 0 }
set_option maxHeartbeats 4000000 in
set_option maxRecDepth 100000 in
theorem m_thrown (l : Launch) (D : va_G) (am : Nat → Nat) (cB cI cL : ClassId) (go gc gb gd gh gr gt gk : Nat → Int32) (gn : Nat → Int64) (er op sz : Int32) : jw_Ei l D vCl (vTy cB cI cL) y_M_thrown s_M_thrown rm_M_thrown [.ref (am 0)] (wM am cB cI cL go gc gb gd gh gr gt gk gn er op sz) er := by
  refine jw_ofi (cc := b_M_thrown) (nL := 1) (ret := (some .int)) (by decide) rfl (Nat.le_of_ble_eq_true rfl) (fun p e s m args below meth c A F hnm => ?_)
  refine jw_at (lv' := [(0, .ref (am 0))]) (st' := []) (ws' := wM am cB cI cL go gc gb gd gh gr gt gk gn er op sz) rfl rfl rfl ?_
  refine jw_aload_n (pc := 0) F 0 d_M_thrown_0 rfl rfl ?_
  refine jw_get (pc := 1) F (jms inM) 0 rfl rfl 0 (by decide) (jm w_342) rfl d_M_thrown_1 ?_
  exact jw_iret F d_M_thrown_4 ⟨rfl, rfl⟩
set_option maxHeartbeats 4000000 in
set_option maxRecDepth 100000 in
theorem m_in_c (l : Launch) (D : va_G) (cB cI cL : ClassId) (x lo hi : Int64) : jw_Ei l D vCl (vTy cB cI cL) y_M_in s_M_in rm_M_in [.long x, .long lo, .long hi] ([]) ((jb (m_in x lo hi))) := by
  refine jw_ofi (cc := b_M_in) (nL := 6) (ret := (some .boolean)) (by decide) rfl (Nat.le_of_ble_eq_true rfl) (fun p e s m args below meth c A F hnm => ?_)
  refine jw_at (lv' := [(0, .long x), (2, .long lo), (4, .long hi)]) (st' := []) (ws' := []) rfl rfl rfl ?_
  refine jw_lload_n (pc := 0) F 0 d_M_in_0 rfl rfl ?_
  refine jw_lload_n (pc := 1) F 1 d_M_in_1 rfl rfl ?_
  refine jw_lcmp (pc := 2) F d_M_in_2 ?_
  refine jw_if_lt (pc := 3) F 17 d_M_in_3 (by decide) (fun h1 => ?_) (fun h1 => ?_)
  · refine jw_iconst (pc := 17) (v := 0) F d_M_in_17 (by decide) ?_
    exact jw_zret F d_M_in_18 (by decide) ⟨by rw [lg_cmp_lt] at h1; simp [m_in, jb, h1], rfl⟩
  · refine jw_lload_n (pc := 6) F 0 d_M_in_6 rfl rfl ?_
    refine jw_lload (pc := 7) F 2 d_M_in_7 rfl ?_
    refine jw_lcmp (pc := 9) F d_M_in_9 ?_
    refine jw_if_gt (pc := 10) F 17 d_M_in_10 (by decide) (fun h2 => ?_) (fun h2 => ?_)
    · refine jw_iconst (pc := 17) (v := 0) F d_M_in_17 (by decide) ?_
      exact jw_zret F d_M_in_18 (by decide) ⟨by rw [lg_cmp_gt] at h2; simp only [m_in, h2, not_true, decide_false, Bool.and_false]; rfl, rfl⟩
    · refine jw_iconst (pc := 13) (v := 1) F d_M_in_13 (by decide) ?_
      refine jw_goto (pc := 14) F 18 d_M_in_14 (by decide) ?_
      exact jw_zret F d_M_in_18 (by decide) ⟨by rw [lg_cmp_lt] at h1; rw [lg_cmp_gt] at h2; simp only [m_in, h1, h2, not_false_eq_true, decide_true, Bool.and_self]; rfl, rfl⟩
set_option maxHeartbeats 4000000 in
set_option maxRecDepth 100000 in
theorem m_failsF (l : Launch) (D : va_G) (am : Nat → Nat) (cB cI cL : ClassId) (go gc gb gd gh gr gt gk : Nat → Int32) (gn : Nat → Int64) (op sz : Int32) (b9 : Bool) (hb9 : b9 = false) (c9 : Int32) : jw_Ei l D vCl (vTy cB cI cL) y_M_fails s_M_fails rm_M_fails [.ref (am 0), .int (jb b9), .int c9] (wM am cB cI cL go gc gb gd gh gr gt gk gn 0 op sz) 0 := by
  refine jw_ofi (cc := b_M_fails) (nL := 3) (ret := (some .boolean)) (by decide) rfl (Nat.le_of_ble_eq_true rfl) (fun p e s m args below meth c A F hnm => ?_)
  refine jw_at (lv' := [(0, .ref (am 0)), (1, .int (jb b9)), (2, .int c9)]) (st' := []) (ws' := wM am cB cI cL go gc gb gd gh gr gt gk gn 0 op sz) rfl rfl rfl ?_
  refine jw_iload_n (pc := 0) F 1 d_M_fails_0 rfl rfl ?_
  refine jw_if_eq (pc := 1) F 16 d_M_fails_1 (by decide) (fun hz1 => ?_) (fun hz1 => False.elim (absurd (jb_n.mp hz1) (by rw [hb9]; decide)))
  refine jw_aload_n (pc := 16) F 0 d_M_fails_16 rfl rfl ?_
  refine jw_get (pc := 17) F (jms inM) 0 rfl rfl 0 (by decide) (jm w_342) rfl d_M_fails_17 ?_
  refine jw_if_eq (pc := 20) F 27 d_M_fails_20 (by decide) (fun hz2 => ?_) (fun hz2 => False.elim (hz2 rfl))
  refine jw_iconst (pc := 27) (v := 0) F d_M_fails_27 (by decide) ?_
  exact jw_zret F d_M_fails_28 (by decide) ⟨rfl, rfl⟩
set_option maxHeartbeats 4000000 in
set_option maxRecDepth 100000 in
theorem m_failsT (l : Launch) (D : va_G) (am : Nat → Nat) (cB cI cL : ClassId) (go gc gb gd gh gr gt gk : Nat → Int32) (gn : Nat → Int64) (op sz : Int32) (b9 : Bool) (hb9 : b9 = true) (c9 : Int32) (hc9 : ¬ c9 = 0) : jw_Mi l D vCl (vTy cB cI cL) y_M_fails s_M_fails rm_M_fails [.ref (am 0), .int (jb b9), .int c9] (wM am cB cI cL go gc gb gd gh gr gt gk gn 0 op sz) (fun r9 w9 => r9 = 1 ∧ w9 = wM am cB cI cL go gc gb gd gh gr gt gk gn c9 op sz) := by
  refine jw_ofi (cc := b_M_fails) (nL := 3) (ret := (some .boolean)) (by decide) rfl (Nat.le_of_ble_eq_true rfl) (fun p e s m args below meth c A F hnm => ?_)
  refine jw_at (lv' := [(0, .ref (am 0)), (1, .int (jb b9)), (2, .int c9)]) (st' := []) (ws' := wM am cB cI cL go gc gb gd gh gr gt gk gn 0 op sz) rfl rfl rfl ?_
  refine jw_iload_n (pc := 0) F 1 d_M_fails_0 rfl rfl ?_
  refine jw_if_eq (pc := 1) F 16 d_M_fails_1 (by decide) (fun hz1 => False.elim (absurd (jb_0.mp hz1) (by rw [hb9]; decide))) (fun hz1 => ?_)
  refine jw_aload_n (pc := 4) F 0 d_M_fails_4 rfl rfl ?_
  refine jw_get (pc := 5) F (jms inM) 0 rfl rfl 0 (by decide) (jm w_342) rfl d_M_fails_5 ?_
  refine jw_if_ne (pc := 8) F 16 d_M_fails_8 (by decide) (fun hz2 => False.elim (hz2 rfl)) (fun hz2 => ?_)
  refine jw_aload_n (pc := 11) F 0 d_M_fails_11 rfl rfl ?_
  refine jw_iload_n (pc := 12) F 2 d_M_fails_12 rfl rfl ?_
  refine jw_put (pc := 13) (v := .int c9) (ty := .int) (ws' := wM am cB cI cL go gc gb gd gh gr gt gk gn c9 op sz) F (jms inM) tM tM_ok nmM 0 rfl rfl 0 (by decide) (jm w_342) rfl (by decide +kernel) rfl rfl (Nat.le_of_ble_eq_true rfl) d_M_fails_13 rfl ?_
  refine jw_aload_n (pc := 16) F 0 d_M_fails_16 rfl rfl ?_
  refine jw_get (pc := 17) F (jms inM) 0 rfl rfl 0 (by decide) (jm w_342) rfl d_M_fails_17 ?_
  refine jw_if_eq (pc := 20) F 27 d_M_fails_20 (by decide) (fun hz3 => False.elim (hc9 hz3)) (fun hz3 => ?_)
  refine jw_iconst (pc := 23) (v := 1) F d_M_fails_23 (by decide) ?_
  refine jw_goto (pc := 24) F 28 d_M_fails_24 (by decide) ?_
  exact jw_zret F d_M_fails_28 (by decide) ⟨rfl, rfl⟩
set_option maxHeartbeats 4000000 in
set_option maxRecDepth 100000 in
theorem m_isReplica (l : Launch) (D : va_G) (cB cI cL : ClassId) (r : Int32) : jw_Ei l D vCl (vTy cB cI cL) y_M_isReplica s_M_isReplica rm_M_isReplica [.int r] ([]) ((jb (a_isrep r))) := by
  refine jw_ofi (cc := b_M_isReplica) (nL := 1) (ret := (some .boolean)) (by decide) rfl (Nat.le_of_ble_eq_true rfl) (fun p e s m args below meth c A F hnm => ?_)
  refine jw_at (lv' := [(0, .int r)]) (st' := []) (ws' := []) rfl rfl rfl ?_
  refine jw_iload_n (pc := 0) F 0 d_M_isReplica_0 rfl rfl ?_
  refine jw_i2l (pc := 1) F d_M_isReplica_1 ?_
  refine jw_lconst (pc := 2) (v := 0) F d_M_isReplica_2 (by decide) ?_
  refine jw_ldc2 (pc := 3) (v := 3) F d_M_isReplica_3 (jm w_390) ?_
  refine jw_callS_Ei (pc := 6) (As := [.long (r.toInt64), .long 0, .long 3]) (rest := []) F (m_in_c l D cB cI cL r.toInt64 0 3) (jw_cwS F.1.2.2.2.2 wl_good w_391 w_392 w_30 w_393 hd_M_in ⟨by decide, by decide⟩) rfl rfl (Nat.le_of_ble_eq_true rfl) d_M_isReplica_6 ⟨rfl, rfl⟩ ⟨by decide, by decide⟩ ?_
  exact jw_zret F d_M_isReplica_9 (jb_narrow _) ⟨by rw [m_in_rep], rfl⟩
set_option maxHeartbeats 4000000 in
set_option maxRecDepth 100000 in
theorem m_isThere (l : Launch) (D : va_G) (am : Nat → Nat) (cB cI cL : ClassId) (go gc gb gd gh gr gt gk : Nat → Int32) (gn : Nat → Int64) (er op sz : Int32) (n : Nat) (hn : n ≤ 160) (hop : op = nI n) (k : Int32) : jw_Ei l D vCl (vTy cB cI cL) y_M_isThere s_M_isThere rm_M_isThere [.ref (am 0), .int k] (wM am cB cI cL go gc gb gd gh gr gt gk gn er op sz) ((jb (a_isop n k))) := by
  refine jw_ofi (cc := b_M_isThere) (nL := 2) (ret := (some .boolean)) (by decide) rfl (Nat.le_of_ble_eq_true rfl) (fun p e s m args below meth c A F hnm => ?_)
  refine jw_at (lv' := [(0, .ref (am 0)), (1, .int k)]) (st' := []) (ws' := wM am cB cI cL go gc gb gd gh gr gt gk gn er op sz) rfl rfl rfl ?_
  subst hop
  refine jw_iload_n (pc := 0) F 1 d_M_isThere_0 rfl rfl ?_
  refine jw_i2l (pc := 1) F d_M_isThere_1 ?_
  refine jw_lconst (pc := 2) (v := 0) F d_M_isThere_2 (by decide) ?_
  refine jw_aload_n (pc := 3) F 0 d_M_isThere_3 rfl rfl ?_
  refine jw_get (pc := 4) F (jms inM) 0 rfl rfl 1 (by decide) (jm w_343) rfl d_M_isThere_4 ?_
  refine jw_iconst (pc := 7) (v := nI 1) F d_M_isThere_7 (by decide) ?_
  refine jw_isub (pc := 8) F d_M_isThere_8 ?_
  refine jw_i2l (pc := 9) F d_M_isThere_9 ?_
  refine jw_callS_Ei (pc := 10) (As := [.long (k.toInt64), .long 0, .long (((nI n) - (nI 1)).toInt64)]) (rest := []) F (m_in_c l D cB cI cL k.toInt64 0 (nI n - nI 1).toInt64) (jw_cwS F.1.2.2.2.2 wl_good w_391 w_392 w_30 w_393 hd_M_in ⟨by decide, by decide⟩) rfl rfl (Nat.le_of_ble_eq_true rfl) d_M_isThere_10 ⟨rfl, rfl⟩ ⟨by decide, by decide⟩ ?_
  exact jw_zret F d_M_isThere_13 (jb_narrow _) ⟨by rw [m_in_op k (by omega)], rfl⟩
set_option maxHeartbeats 4000000 in
set_option maxRecDepth 100000 in
theorem m_has (l : Launch) (D : va_G) (am : Nat → Nat) (cB cI cL : ClassId) (go gc gb gd gh gr gt gk : Nat → Int32) (gn : Nat → Int64) (er op sz : Int32) (a : AS) (hI : ab_I a) (hA : mx_A a go gc gb gd gh op) (r k : Nat) (hr : r < 4) (hk : k < a_n a) : jw_Ei l D vCl (vTy cB cI cL) y_M_has s_M_has rm_M_has [.ref (am 0), .int (nI r), .int (nI k)] (wM am cB cI cL go gc gb gd gh gr gt gk gn er op sz) ((jb (a_hd a r k))) := by
  refine jw_ofi (cc := b_M_has) (nL := 3) (ret := (some .boolean)) (by decide) rfl (Nat.le_of_ble_eq_true rfl) (fun p e s m args below meth c A F hnm => ?_)
  refine jw_at (lv' := [(0, .ref (am 0)), (1, .int (nI r)), (2, .int (nI k))]) (st' := []) (ws' := wM am cB cI cL go gc gb gd gh gr gt gk gn er op sz) rfl rfl rfl ?_
  have hn := hI.1
  refine jw_aload_n (pc := 0) F 0 d_M_has_0 rfl rfl ?_
  refine jw_get (pc := 1) F (jms inM) 0 rfl rfl 7 (by decide) (jm w_349) rfl d_M_has_1 ?_
  refine jw_sipush (pc := 4) (v := nI 160) F d_M_has_4 (by decide) ?_
  refine jw_iload_n (pc := 7) F 1 d_M_has_7 rfl rfl ?_
  refine jw_imul (pc := 8) F d_M_has_8 ?_
  rw [pk_mul]
  refine jw_iload_n (pc := 9) F 2 d_M_has_9 rfl rfl ?_
  refine jw_iadd (pc := 10) F d_M_has_10 ?_
  rw [nI_add]
  refine jw_zaldN (pc := 11) F 6 0 rfl rfl (160 * r + k) rfl (by omega) (by decide) d_M_has_11 ?_
  rw [hA.2.2.2.2.2 r hr k hk]
  exact jw_zret F d_M_has_12 (jb_narrow _) ⟨rfl, rfl⟩
set_option maxHeartbeats 4000000 in
set_option maxRecDepth 100000 in
theorem m_hasElement (l : Launch) (D : va_G) (am : Nat → Nat) (cB cI cL : ClassId) (go gc gb gd gh gr gt gk : Nat → Int32) (gn : Nat → Int64) (er op sz : Int32) (a : AS) (hI : ab_I a) (hA : mx_A a go gc gb gd gh op) (r : Nat) (hr : r < 4) (k : Int32) : jw_Ei l D vCl (vTy cB cI cL) y_M_hasElement s_M_hasElement rm_M_hasElement [.ref (am 0), .int (nI r), .int k] (wM am cB cI cL go gc gb gd gh gr gt gk gn er op sz) ((jb (a_haseB a r k))) := by
  refine jw_ofi (cc := b_M_hasElement) (nL := 3) (ret := (some .boolean)) (by decide) rfl (Nat.le_of_ble_eq_true rfl) (fun p e s m args below meth c A F hnm => ?_)
  refine jw_at (lv' := [(0, .ref (am 0)), (1, .int (nI r)), (2, .int k)]) (st' := []) (ws' := wM am cB cI cL go gc gb gd gh gr gt gk gn er op sz) rfl rfl rfl ?_
  have hn := hI.1
  refine jw_aload_n (pc := 0) F 0 d_M_hasElement_0 rfl rfl ?_
  refine jw_iload_n (pc := 1) F 2 d_M_hasElement_1 rfl rfl ?_
  refine jw_callV_Ei (pc := 2) (As := [.int k]) (rest := []) F ([]) ([]) (m_isThere l D am cB cI cL go gc gb gd gh gr gt gk gn er op sz (a_n a) hn hA.1 k) (jw_cwV F.1.2.2.2.2 wl_good w_402 w_404 w_19 w_30 w_405 hd_M_isThere ⟨by decide, by decide⟩) 0 1 rfl rfl rfl (by simp) rfl rfl (Nat.le_of_ble_eq_true rfl) d_M_hasElement_2 ⟨rfl, rfl⟩ ⟨by decide, by decide⟩ ?_
  refine jw_if_eq (pc := 5) F 30 d_M_hasElement_5 (by decide) (fun h1 => ?_) (fun h1 => ?_)
  · refine jw_iconst (pc := 30) (v := 0) F d_M_hasElement_30 (by decide) ?_
    exact jw_zret F d_M_hasElement_31 (by decide) ⟨by unfold a_haseB; rw [jb_0.mp h1]; rfl, rfl⟩
  · obtain ⟨j, hj, rfl⟩ := a_isop_t (by omega) (jb_n.mp h1)
    refine jw_aload_n (pc := 8) F 0 d_M_hasElement_8 rfl rfl ?_
    refine jw_get (pc := 9) F (jms inM) 0 rfl rfl 6 (by decide) (jm w_348) rfl d_M_hasElement_9 ?_
    refine jw_iload_n (pc := 12) F 2 d_M_hasElement_12 rfl rfl ?_
    refine jw_zaldN (pc := 13) F 5 0 rfl rfl j rfl (by omega) (by decide) d_M_hasElement_13 ?_
    rw [hA.2.2.2.2.1 j hj]
    refine jw_if_ne (pc := 14) F 30 d_M_hasElement_14 (by decide) (fun h2 => ?_) (fun h2 => ?_)
    · refine jw_iconst (pc := 30) (v := 0) F d_M_hasElement_30 (by decide) ?_
      exact jw_zret F d_M_hasElement_31 (by decide) ⟨by rw [a_haseB_nI hn hj, jb_n.mp h2]; rfl, rfl⟩
    · refine jw_aload_n (pc := 17) F 0 d_M_hasElement_17 rfl rfl ?_
      refine jw_iload_n (pc := 18) F 1 d_M_hasElement_18 rfl rfl ?_
      refine jw_iload_n (pc := 19) F 2 d_M_hasElement_19 rfl rfl ?_
      refine jw_callV_Ei (pc := 20) (As := [.int (nI r), .int (nI j)]) (rest := []) F ([]) ([]) (m_has l D am cB cI cL go gc gb gd gh gr gt gk gn er op sz a hI hA r j hr hj) (jw_cwV F.1.2.2.2.2 wl_good w_406 w_408 w_20 w_30 w_409 hd_M_has ⟨by decide, by decide⟩) 0 1 rfl rfl rfl (by simp) rfl rfl (Nat.le_of_ble_eq_true rfl) d_M_hasElement_20 ⟨rfl, rfl⟩ ⟨by decide, by decide⟩ ?_
      refine jw_if_eq (pc := 23) F 30 d_M_hasElement_23 (by decide) (fun h3 => ?_) (fun h3 => ?_)
      · refine jw_iconst (pc := 30) (v := 0) F d_M_hasElement_30 (by decide) ?_
        exact jw_zret F d_M_hasElement_31 (by decide) ⟨by rw [a_haseB_nI hn hj, jb_0.mp h2, jb_0.mp h3]; rfl, rfl⟩
      · refine jw_iconst (pc := 26) (v := 1) F d_M_hasElement_26 (by decide) ?_
        refine jw_goto (pc := 27) F 31 d_M_hasElement_27 (by decide) ?_
        exact jw_zret F d_M_hasElement_31 (by decide) ⟨by rw [a_haseB_nI hn hj, jb_0.mp h2, jb_n.mp h3]; rfl, rfl⟩
set_option maxHeartbeats 4000000 in
set_option maxRecDepth 100000 in
theorem m_isLess (l : Launch) (D : va_G) (am : Nat → Nat) (cB cI cL : ClassId) (go gc gb gd gh gr gt gk : Nat → Int32) (gn : Nat → Int64) (er op sz : Int32) (a : AS) (hI : ab_I a) (hA : mx_A a go gc gb gd gh op) (i j : Nat) (hi : i < a_n a) (hj : j < a_n a) : jw_Ei l D vCl (vTy cB cI cL) y_M_isLess s_M_isLess rm_M_isLess [.ref (am 0), .int (nI i), .int (nI j)] (wM am cB cI cL go gc gb gd gh gr gt gk gn er op sz) ((jb (a_ltb a i j))) := by
  refine jw_ofi (cc := b_M_isLess) (nL := 3) (ret := (some .boolean)) (by decide) rfl (Nat.le_of_ble_eq_true rfl) (fun p e s m args below meth c A F hnm => ?_)
  refine jw_at (lv' := [(0, .ref (am 0)), (1, .int (nI i)), (2, .int (nI j))]) (st' := []) (ws' := wM am cB cI cL go gc gb gd gh gr gt gk gn er op sz) rfl rfl rfl ?_
  have hn := hI.1
  have hq := mx_ltb hI hA hi hj
  refine jw_aload_n (pc := 0) F 0 d_M_isLess_0 rfl rfl ?_
  refine jw_get (pc := 1) F (jms inM) 0 rfl rfl 3 (by decide) (jm w_345) rfl d_M_isLess_1 ?_
  refine jw_iload_n (pc := 4) F 1 d_M_isLess_4 rfl rfl ?_
  refine jw_ialdN (pc := 5) F 2 1 rfl rfl i rfl (by omega) (by decide) d_M_isLess_5 ?_
  refine jw_aload_n (pc := 6) F 0 d_M_isLess_6 rfl rfl ?_
  refine jw_get (pc := 7) F (jms inM) 0 rfl rfl 3 (by decide) (jm w_345) rfl d_M_isLess_7 ?_
  refine jw_iload_n (pc := 10) F 2 d_M_isLess_10 rfl rfl ?_
  refine jw_ialdN (pc := 11) F 2 1 rfl rfl j rfl (by omega) (by decide) d_M_isLess_11 ?_
  refine jw_icmp_eq (pc := 12) F 38 d_M_isLess_12 (by decide) (fun h1 => ?_) (fun h1 => ?_)
  · refine jw_aload_n (pc := 38) F 0 d_M_isLess_38 rfl rfl ?_
    refine jw_get (pc := 39) F (jms inM) 0 rfl rfl 4 (by decide) (jm w_346) rfl d_M_isLess_39 ?_
    refine jw_iload_n (pc := 42) F 1 d_M_isLess_42 rfl rfl ?_
    refine jw_ialdN (pc := 43) F 3 1 rfl rfl i rfl (by omega) (by decide) d_M_isLess_43 ?_
    refine jw_aload_n (pc := 44) F 0 d_M_isLess_44 rfl rfl ?_
    refine jw_get (pc := 45) F (jms inM) 0 rfl rfl 4 (by decide) (jm w_346) rfl d_M_isLess_45 ?_
    refine jw_iload_n (pc := 48) F 2 d_M_isLess_48 rfl rfl ?_
    refine jw_ialdN (pc := 49) F 3 1 rfl rfl j rfl (by omega) (by decide) d_M_isLess_49 ?_
    refine jw_icmp_ge (pc := 50) F 57 d_M_isLess_50 (by decide) (fun h2 => ?_) (fun h2 => ?_)
    · refine jw_iconst (pc := 57) (v := 0) F d_M_isLess_57 (by decide) ?_
      exact jw_zret F d_M_isLess_58 (by decide) ⟨by rw [hq]; simp [jb, h1, Int32.not_lt.mpr h2], rfl⟩
    · refine jw_iconst (pc := 53) (v := 1) F d_M_isLess_53 (by decide) ?_
      refine jw_goto (pc := 54) F 58 d_M_isLess_54 (by decide) ?_
      exact jw_zret F d_M_isLess_58 (by decide) ⟨by rw [hq]; simp [jb, h1, Int32.not_le.mp h2], rfl⟩
  · refine jw_aload_n (pc := 15) F 0 d_M_isLess_15 rfl rfl ?_
    refine jw_get (pc := 16) F (jms inM) 0 rfl rfl 3 (by decide) (jm w_345) rfl d_M_isLess_16 ?_
    refine jw_iload_n (pc := 19) F 1 d_M_isLess_19 rfl rfl ?_
    refine jw_ialdN (pc := 20) F 2 1 rfl rfl i rfl (by omega) (by decide) d_M_isLess_20 ?_
    refine jw_aload_n (pc := 21) F 0 d_M_isLess_21 rfl rfl ?_
    refine jw_get (pc := 22) F (jms inM) 0 rfl rfl 3 (by decide) (jm w_345) rfl d_M_isLess_22 ?_
    refine jw_iload_n (pc := 25) F 2 d_M_isLess_25 rfl rfl ?_
    refine jw_ialdN (pc := 26) F 2 1 rfl rfl j rfl (by omega) (by decide) d_M_isLess_26 ?_
    refine jw_icmp_ge (pc := 27) F 34 d_M_isLess_27 (by decide) (fun h2 => ?_) (fun h2 => ?_)
    · refine jw_iconst (pc := 34) (v := 0) F d_M_isLess_34 (by decide) ?_
      refine jw_goto (pc := 35) F 58 d_M_isLess_35 (by decide) ?_
      exact jw_zret F d_M_isLess_58 (by decide) ⟨by rw [hq]; simp [jb, Int32.not_lt.mpr h2, h1], rfl⟩
    · refine jw_iconst (pc := 30) (v := 1) F d_M_isLess_30 (by decide) ?_
      refine jw_goto (pc := 31) F 58 d_M_isLess_31 (by decide) ?_
      exact jw_zret F d_M_isLess_58 (by decide) ⟨by rw [hq]; simp [jb, Int32.not_le.mp h2], rfl⟩
set_option maxHeartbeats 4000000 in
set_option maxRecDepth 100000 in
theorem m_greatest (l : Launch) (D : va_G) (am : Nat → Nat) (cB cI cL : ClassId) (go gc gb gd gh gr gt gk : Nat → Int32) (gn : Nat → Int64) (er op sz : Int32) (a : AS) (hI : ab_I a) (hA : mx_A a go gc gb gd gh op) (r : Nat) (hr : r < 4) : jw_Ei l D vCl (vTy cB cI cL) y_M_greatest s_M_greatest rm_M_greatest [.ref (am 0), .int (nI r)] (wM am cB cI cL go gc gb gd gh gr gt gk gn er op sz) ((nI (a_gr a r))) := by
  refine jw_ofi (cc := b_M_greatest) (nL := 4) (ret := (some .int)) (by decide) rfl (Nat.le_of_ble_eq_true rfl) (fun p e s m args below meth c A F hnm => ?_)
  refine jw_at (lv' := [(0, .ref (am 0)), (1, .int (nI r))]) (st' := []) (ws' := wM am cB cI cL go gc gb gd gh gr gt gk gn er op sz) rfl rfl rfl ?_
  have hn := hI.1
  have hop := hA.1
  subst hop
  have loop : ∀ (t i : Nat), i + t = a_n a → jw_J p l e rm_M_greatest s m args below meth c D vCl A 4 (MQ below (va_Qi (fun r9 w9 => r9 = (nI (a_gr a r)) ∧ w9 = wM am cB cI cL go gc gb gd gh gr gt gk gn er (nI (a_n a)) sz) (jw_B D vCl (vTy cB cI cL) A) A) args s rm_M_greatest.cells rm_M_greatest.slots A) 0 0 4 [(0, .ref (am 0)), (1, .int (nI r)), (2, .int (nI (ab_max (a_hd a r) (a_ct a) i))), (3, .int (nI i))] [] (wM am cB cI cL go gc gb gd gh gr gt gk gn er (nI (a_n a)) sz) := by
    intro t
    induction t with
    | zero =>
      intro i hi
      obtain rfl : i = a_n a := hi
      refine jw_iload_n (pc := 4) F 3 d_M_greatest_4 rfl rfl ?_
      refine jw_aload_n (pc := 5) F 0 d_M_greatest_5 rfl rfl ?_
      refine jw_get (pc := 6) F (jms inM) 0 rfl rfl 1 (by decide) (jm w_343) rfl d_M_greatest_6 ?_
      refine jw_icmp_ge (pc := 9) F 38 d_M_greatest_9 (by decide) (fun hz1 => ?_) (fun hz1 => False.elim (hz1 (nI_le (Nat.le_refl _) (by omega))))
      refine jw_iload_n (pc := 38) F 2 d_M_greatest_38 rfl rfl ?_
      exact jw_iret F d_M_greatest_39 ⟨rfl, rfl⟩
    | succ t ih =>
      intro i hi
      have hlt : i < a_n a := by omega
      have b1 := (hI.2.2.2.1 i hlt).2.2
      have b2 : ab_max (a_hd a r) (a_ct a) i ≤ 161 := ab_max_le (fun k hk _ => by have := (hI.2.2.2.1 k (by omega)).2.2; omega)
      refine jw_iload_n (pc := 4) F 3 d_M_greatest_4 rfl rfl ?_
      refine jw_aload_n (pc := 5) F 0 d_M_greatest_5 rfl rfl ?_
      refine jw_get (pc := 6) F (jms inM) 0 rfl rfl 1 (by decide) (jm w_343) rfl d_M_greatest_6 ?_
      refine jw_icmp_ge (pc := 9) F 38 d_M_greatest_9 (by decide) (fun hz2 => False.elim (nI_ge hlt (by omega) hz2)) (fun hz2 => ?_)
      refine jw_aload_n (pc := 12) F 0 d_M_greatest_12 rfl rfl ?_
      refine jw_iload_n (pc := 13) F 1 d_M_greatest_13 rfl rfl ?_
      refine jw_iload_n (pc := 14) F 3 d_M_greatest_14 rfl rfl ?_
      refine jw_callV_Ei (pc := 15) (As := [.int (nI r), .int (nI i)]) (rest := []) F ([]) ([]) (m_has l D am cB cI cL go gc gb gd gh gr gt gk gn er (nI (a_n a)) sz a hI hA r i hr hlt) (jw_cwV F.1.2.2.2.2 wl_good w_406 w_408 w_20 w_30 w_409 hd_M_has ⟨by decide, by decide⟩) 0 1 rfl rfl rfl (by simp) rfl rfl (Nat.le_of_ble_eq_true rfl) d_M_greatest_15 ⟨rfl, rfl⟩ ⟨by decide, by decide⟩ ?_
      refine jw_if_eq (pc := 18) F 32 d_M_greatest_18 (by decide) (fun h1 => ?_) (fun h1 => ?_)
      · refine jw_iinc (pc := 32) (v := nI (i + 1)) (lv' := [(0, .ref (am 0)), (1, .int (nI r)), (2, .int (nI (ab_max (a_hd a r) (a_ct a) i))), (3, .int (nI (i + 1)))]) F 3 d_M_greatest_32 rfl (jw_inc _) (by decide) rfl ?_
        refine jw_goto (pc := 35) F 4 d_M_greatest_35 (by decide) ?_
        have q := ih (i + 1) (by omega)
        rw [show ab_max (a_hd a r) (a_ct a) (i + 1) = ab_max (a_hd a r) (a_ct a) i by show (if _ then _ else _) = _; rw [if_neg (by rw [jb_0.mp h1]; decide)]] at q
        exact q
      · refine jw_iload_n (pc := 21) F 2 d_M_greatest_21 rfl rfl ?_
        refine jw_aload_n (pc := 22) F 0 d_M_greatest_22 rfl rfl ?_
        refine jw_get (pc := 23) F (jms inM) 0 rfl rfl 3 (by decide) (jm w_345) rfl d_M_greatest_23 ?_
        refine jw_iload_n (pc := 26) F 3 d_M_greatest_26 rfl rfl ?_
        refine jw_ialdN (pc := 27) F 2 1 rfl rfl i rfl (by omega) (by decide) d_M_greatest_27 ?_
        refine jw_mmax (pc := 28) F (jm w_418) (jm w_229) (jm w_37) (jm w_230) (by decide) (Nat.le_of_ble_eq_true rfl) (by decide) (by decide) d_M_greatest_28 ?_
        rw [hA.2.2.1 i hlt, ab_imax (by omega) (by omega)]
        refine jw_istore_n (pc := 31) (lv' := [(0, .ref (am 0)), (1, .int (nI r)), (2, .int (nI (Nat.max (ab_max (a_hd a r) (a_ct a) i) (a_ct a i)))), (3, .int (nI i))]) F d_M_greatest_31 rfl (by decide) rfl ?_
        refine jw_iinc (pc := 32) (v := nI (i + 1)) (lv' := [(0, .ref (am 0)), (1, .int (nI r)), (2, .int (nI (Nat.max (ab_max (a_hd a r) (a_ct a) i) (a_ct a i)))), (3, .int (nI (i + 1)))]) F 3 d_M_greatest_32 rfl (jw_inc _) (by decide) rfl ?_
        refine jw_goto (pc := 35) F 4 d_M_greatest_35 (by decide) ?_
        have q := ih (i + 1) (by omega)
        rw [show ab_max (a_hd a r) (a_ct a) (i + 1) = Nat.max (ab_max (a_hd a r) (a_ct a) i) (a_ct a i) by show (if _ then _ else _) = _; rw [if_pos (jb_n.mp h1)]] at q
        exact q
  refine jw_iconst (pc := 0) (v := nI 0) F d_M_greatest_0 (by decide) ?_
  refine jw_istore_n (pc := 1) (lv' := [(0, .ref (am 0)), (1, .int (nI r)), (2, .int (nI 0))]) F d_M_greatest_1 rfl (by decide) rfl ?_
  refine jw_iconst (pc := 2) (v := nI 0) F d_M_greatest_2 (by decide) ?_
  refine jw_istore_n (pc := 3) (lv' := [(0, .ref (am 0)), (1, .int (nI r)), (2, .int (nI 0)), (3, .int (nI 0))]) F d_M_greatest_3 rfl (by decide) rfl ?_
  exact loop (a_n a) 0 (by omega)
end
section
def mx_V (a : AS) (gn : Nat → Int64) : Prop := ∀ k, k < a_n a → a_dl a k = false → gn k = a_vl a k
def mx_R (a : AS) (go gc gb gd gh : Nat → Int32) (gn : Nat → Int64) (op : Int32) : Prop := ab_I a ∧ mx_A a go gc gb gd gh op ∧ mx_V a gn
theorem mx_new {a : AS} {go gc gb gd gh h : Nat → Int32} {op : Int32} {r : Nat} {tt : Int32} {d : Bool} {vv : Int64} (hI : ab_I a) (hA : mx_A a go gc gb gd gh op) (h1 : ∀ s, s < 4 → ∀ k, k < a_n a → h (160 * s + k) = gh (160 * s + k)) (h2 : ∀ s, s < 4 → h (160 * s + a_n a) = jb (decide (s = r))) :
    mx_A (ab_new a r tt d vv) (upd go (a_n a) tt) (upd gc (a_n a) (nI (a_gr a r + 1))) (upd gb (a_n a) (nI r)) (upd gd (a_n a) (jb d)) h (nI (a_n a + 1)) := by
  obtain ⟨g0, g1, g2, g3, g4, g5⟩ := hA
  refine ⟨rfl, ?_, ?_, ?_, ?_, ?_⟩
  · intro k hk
    have hk2 : k < a_n a + 1 := hk
    show upd go (a_n a) tt k = ab_up (a_tg a) (a_n a) tt k
    by_cases e : k = a_n a
    · subst e; rw [pk_us, ab_us]
    · rw [pk_un e, ab_un e]; exact g1 k (by omega)
  · intro k hk
    have hk2 : k < a_n a + 1 := hk
    show upd gc (a_n a) (nI (a_gr a r + 1)) k = nI (ab_up (a_ct a) (a_n a) (a_gr a r + 1) k)
    by_cases e : k = a_n a
    · subst e; rw [pk_us, ab_us]
    · rw [pk_un e, ab_un e]; exact g2 k (by omega)
  · intro k hk
    have hk2 : k < a_n a + 1 := hk
    show upd gb (a_n a) (nI r) k = nI (ab_up (a_mk a) (a_n a) r k)
    by_cases e : k = a_n a
    · subst e; rw [pk_us, ab_us]
    · rw [pk_un e, ab_un e]; exact g3 k (by omega)
  · intro k hk
    have hk2 : k < a_n a + 1 := hk
    show upd gd (a_n a) (jb d) k = jb (ab_up (a_dl a) (a_n a) d k)
    by_cases e : k = a_n a
    · subst e; rw [pk_us, ab_us]
    · rw [pk_un e, ab_un e]; exact g4 k (by omega)
  · intro s hs k hk
    have hk2 : k < a_n a + 1 := hk
    show h (160 * s + k) = jb (ab_up (a_hd a) r (ab_up (a_hd a r) (a_n a) true) s k)
    by_cases e : k = a_n a
    · subst e
      rw [h2 s hs]
      by_cases e2 : s = r
      · subst e2; rw [ab_us, ab_us]; simp
      · rw [ab_un e2, hI.2.1 s _ (Nat.le_refl _)]; simp [e2]
    · rw [ab_up_hdF e, h1 s hs k (by omega)]; exact g5 s hs k (by omega)
theorem mx_V_new {a : AS} {r : Nat} {t : Int32} {d : Bool} {vv : Int64} {v : Nat → Int64} (h : mx_V a v) : mx_V (ab_new a r t d vv) (vp_updL v (a_n a) vv) := cx_V_new h
theorem mx_take {a : AS} {go gc gb gd gh : Nat → Int32} {op : Int32} {r k : Nat} (hn : a_n a ≤ 160) (hk : k < a_n a) (hA : mx_A a go gc gb gd gh op) : mx_A (ab_take a r k) go gc gb gd (upd gh (160 * r + k) 1) op := by
  obtain ⟨g0, g1, g2, g3, g4, g5⟩ := hA
  refine ⟨g0, g1, g2, g3, g4, fun s hs i hi => ?_⟩
  have hi2 : i < a_n a := hi
  show _ = jb (ab_up (a_hd a) r (ab_up (a_hd a r) k true) s i)
  by_cases e1 : s = r
  · subst e1
    rw [ab_us]
    by_cases e2 : i = k
    · subst e2; rw [pk_us, ab_us]; rfl
    · rw [pk_un (by omega), ab_un e2]; exact g5 s hs i hi
  · rw [pk_un (by omega), ab_un e1]; exact g5 s hs i hi
theorem m_isrep_nI {r : Nat} (hr : r < 4) : a_isrep (nI r) = true := a_isop_nI (by decide) hr
theorem w_414 : Cond.methodLink RM 66 y_M_greatest ∈ WL := jwl 414 rfl rfl
theorem w_416 : Cond.instanceMethod y_M_greatest ∈ WL := jwl 416 rfl rfl
theorem w_22 : Cond.selects RM y_M_greatest y_M_greatest ∈ WL := jwl 22 rfl rfl
theorem w_417 : Cond.code y_M_greatest b_M_greatest 4 (some .int) ∈ WL := jwl 417 rfl rfl
theorem w_344 : Cond.fieldLink RM 9 "WovenRowModel" "of" "[I" ∈ WL := jwl 344 rfl rfl
theorem w_347 : Cond.fieldLink RM 19 "WovenRowModel" "numbers" "[J" ∈ WL := jwl 347 rfl rfl
theorem w_387 : Cond.methodLink RM 70 y_M_isReplica ∈ WL := jwl 387 rfl rfl
theorem w_388 : Cond.static y_M_isReplica ∈ WL := jwl 388 rfl rfl
theorem w_389 : Cond.code y_M_isReplica b_M_isReplica 1 (some .boolean) ∈ WL := jwl 389 rfl rfl
theorem w_394 : Cond.methodLink RM 73 y_M_fails ∈ WL := jwl 394 rfl rfl
theorem w_396 : Cond.instanceMethod y_M_fails ∈ WL := jwl 396 rfl rfl
theorem w_17 : Cond.selects RM y_M_fails y_M_fails ∈ WL := jwl 17 rfl rfl
theorem w_397 : Cond.code y_M_fails b_M_fails 3 (some .boolean) ∈ WL := jwl 397 rfl rfl
theorem w_398 : Cond.methodLink RM 77 y_M_hasElement ∈ WL := jwl 398 rfl rfl
theorem w_400 : Cond.instanceMethod y_M_hasElement ∈ WL := jwl 400 rfl rfl
theorem w_18 : Cond.selects RM y_M_hasElement y_M_hasElement ∈ WL := jwl 18 rfl rfl
theorem w_401 : Cond.code y_M_hasElement b_M_hasElement 3 (some .boolean) ∈ WL := jwl 401 rfl rfl
theorem w_410 : Cond.methodLink RM 80 y_M_made ∈ WL := jwl 410 rfl rfl
theorem w_412 : Cond.instanceMethod y_M_made ∈ WL := jwl 412 rfl rfl
theorem w_21 : Cond.selects RM y_M_made y_M_made ∈ WL := jwl 21 rfl rfl
theorem w_413 : Cond.code y_M_made b_M_made 8 (some .int) ∈ WL := jwl 413 rfl rfl
abbrev rm_M_made : Room := { frames := 2, cells := 0, slots := 0, locals := 45 }
abbrev rm_M_insert : Room := { frames := 3, cells := 0, slots := 0, locals := 72 }
abbrev rm_M_delete : Room := { frames := 3, cells := 0, slots := 0, locals := 72 }
set_option maxHeartbeats 4000000 in
set_option maxRecDepth 100000 in
theorem m_made (l : Launch) (D : va_G) (am : Nat → Nat) (cB cI cL : ClassId) (go gc gb gd gh gr gt gk : Nat → Int32) (gn : Nat → Int64) (er op sz : Int32) (a : AS) (hI : ab_I a) (hA : mx_A a go gc gb gd gh op) (hV : mx_V a gn) (r : Nat) (hr : r < 4) (hn1 : a_n a < 160) (tt : Int32) (d : Bool) (vv : Int64) : jw_Mi l D vCl (vTy cB cI cL) y_M_made s_M_made rm_M_made [.ref (am 0), .int (nI r), .int tt, .long vv, .int (jb d)] (wM am cB cI cL go gc gb gd gh gr gt gk gn er op sz) (fun r9 w9 => r9 = nI (a_n a) ∧ ∃ (ko kc kb kd kh : Nat → Int32) (kn : Nat → Int64), w9 = wM am cB cI cL ko kc kb kd kh gr gt gk kn er (nI (a_n a + 1)) sz ∧ mx_A (ab_new a r tt d vv) ko kc kb kd kh (nI (a_n a + 1)) ∧ mx_V (ab_new a r tt d vv) kn) := by
  refine jw_ofi (cc := b_M_made) (nL := 8) (ret := (some .int)) (by decide) rfl (Nat.le_of_ble_eq_true rfl) (fun p e s m args below meth c A F hnm => ?_)
  refine jw_at (lv' := [(0, .ref (am 0)), (1, .int (nI r)), (2, .int tt), (3, .long vv), (5, .int (jb d))]) (st' := []) (ws' := wM am cB cI cL go gc gb gd gh gr gt gk gn er op sz) rfl rfl rfl ?_
  have hop := hA.1
  subst hop
  refine jw_aload_n (pc := 0) F 0 d_M_made_0 rfl rfl ?_
  refine jw_get (pc := 1) F (jms inM) 0 rfl rfl 1 (by decide) (jm w_343) rfl d_M_made_1 ?_
  refine jw_istore (pc := 4) (lv' := [(0, .ref (am 0)), (1, .int (nI r)), (2, .int tt), (3, .long vv), (5, .int (jb d)), (6, .int (nI (a_n a)))]) F d_M_made_4 (by decide) rfl ?_
  refine jw_aload_n (pc := 6) F 0 d_M_made_6 rfl rfl ?_
  refine jw_get (pc := 7) F (jms inM) 0 rfl rfl 3 (by decide) (jm w_345) rfl d_M_made_7 ?_
  refine jw_iload (pc := 10) F 5 d_M_made_10 rfl ?_
  refine jw_aload_n (pc := 12) F 0 d_M_made_12 rfl rfl ?_
  refine jw_iload_n (pc := 13) F 1 d_M_made_13 rfl rfl ?_
  refine jw_callV_Ei (pc := 14) (As := [.int (nI r)]) (rest := [.int (nI (a_n a)), .ref (am 2)]) F ([]) ([]) (m_greatest l D am cB cI cL go gc gb gd gh gr gt gk gn er (nI (a_n a)) sz a hI hA r hr) (jw_cwV F.1.2.2.2.2 wl_good w_414 w_416 w_22 w_30 w_417 hd_M_greatest ⟨by decide, by decide⟩) 0 1 rfl rfl rfl (by simp) rfl rfl (Nat.le_of_ble_eq_true rfl) d_M_made_14 ⟨rfl, rfl⟩ ⟨by decide, by decide⟩ ?_
  refine jw_iconst (pc := 17) (v := 1) F d_M_made_17 (by decide) ?_
  refine jw_iadd (pc := 18) F d_M_made_18 ?_
  rw [nI_1]
  refine jw_iastN (pc := 19) (ws' := wM am cB cI cL go (upd gc (a_n a) (nI (a_gr a r + 1))) gb gd gh gr gt gk gn er (nI (a_n a)) sz) F 2 1 rfl rfl (a_n a) rfl (by omega) (by decide) d_M_made_19 rfl ?_
  refine jw_aload_n (pc := 20) F 0 d_M_made_20 rfl rfl ?_
  refine jw_get (pc := 21) F (jms inM) 0 rfl rfl 4 (by decide) (jm w_346) rfl d_M_made_21 ?_
  refine jw_iload (pc := 24) F 5 d_M_made_24 rfl ?_
  refine jw_iload_n (pc := 26) F 1 d_M_made_26 rfl rfl ?_
  refine jw_iastN (pc := 27) (ws' := wM am cB cI cL go (upd gc (a_n a) (nI (a_gr a r + 1))) (upd gb (a_n a) (nI r)) gd gh gr gt gk gn er (nI (a_n a)) sz) F 3 1 rfl rfl (a_n a) rfl (by omega) (by decide) d_M_made_27 rfl ?_
  refine jw_aload_n (pc := 28) F 0 d_M_made_28 rfl rfl ?_
  refine jw_get (pc := 29) F (jms inM) 0 rfl rfl 2 (by decide) (jm w_344) rfl d_M_made_29 ?_
  refine jw_iload (pc := 32) F 5 d_M_made_32 rfl ?_
  refine jw_iload_n (pc := 34) F 2 d_M_made_34 rfl rfl ?_
  refine jw_iastN (pc := 35) (ws' := wM am cB cI cL (upd go (a_n a) tt) (upd gc (a_n a) (nI (a_gr a r + 1))) (upd gb (a_n a) (nI r)) gd gh gr gt gk gn er (nI (a_n a)) sz) F 1 1 rfl rfl (a_n a) rfl (by omega) (by decide) d_M_made_35 rfl ?_
  refine jw_aload_n (pc := 36) F 0 d_M_made_36 rfl rfl ?_
  refine jw_get (pc := 37) F (jms inM) 0 rfl rfl 5 (by decide) (jm w_347) rfl d_M_made_37 ?_
  refine jw_iload (pc := 40) F 5 d_M_made_40 rfl ?_
  refine jw_lload_n (pc := 42) F 3 d_M_made_42 rfl rfl ?_
  refine jw_lastN (pc := 43) (ws' := wM am cB cI cL (upd go (a_n a) tt) (upd gc (a_n a) (nI (a_gr a r + 1))) (upd gb (a_n a) (nI r)) gd gh gr gt gk (vp_updL gn (a_n a) vv) er (nI (a_n a)) sz) F 4 2 rfl rfl (a_n a) rfl (by omega) (by decide) d_M_made_43 rfl ?_
  refine jw_aload_n (pc := 44) F 0 d_M_made_44 rfl rfl ?_
  refine jw_get (pc := 45) F (jms inM) 0 rfl rfl 6 (by decide) (jm w_348) rfl d_M_made_45 ?_
  refine jw_iload (pc := 48) F 5 d_M_made_48 rfl ?_
  refine jw_iload (pc := 50) F 4 d_M_made_50 rfl ?_
  refine jw_zastN (pc := 52) (ws' := wM am cB cI cL (upd go (a_n a) tt) (upd gc (a_n a) (nI (a_gr a r + 1))) (upd gb (a_n a) (nI r)) (upd gd (a_n a) (vp_nar .boolean (jb d))) gh gr gt gk (vp_updL gn (a_n a) vv) er (nI (a_n a)) sz) F 5 0 rfl rfl (a_n a) rfl (by omega) (by decide) d_M_made_52 rfl ?_
  rw [jb_nar]
  refine jw_iconst (pc := 53) (v := nI 0) F d_M_made_53 (by decide) ?_
  refine jw_istore (pc := 54) (lv' := [(0, .ref (am 0)), (1, .int (nI r)), (2, .int tt), (3, .long vv), (5, .int (jb d)), (6, .int (nI (a_n a))), (7, .int (nI 0))]) F d_M_made_54 (by decide) rfl ?_
  have loop : ∀ (u i : Nat) (h : Nat → Int32), i + u = 4 → (∀ s, s < 4 → ∀ k, k < a_n a → h (160 * s + k) = gh (160 * s + k)) → (∀ s, s < i → h (160 * s + a_n a) = jb (decide (s = r))) → jw_J p l e rm_M_made s m args below meth c D vCl A 8 (MQ below (va_Qi (fun r9 w9 => r9 = nI (a_n a) ∧ ∃ (ko kc kb kd kh : Nat → Int32) (kn : Nat → Int64), w9 = wM am cB cI cL ko kc kb kd kh gr gt gk kn er (nI (a_n a + 1)) sz ∧ mx_A (ab_new a r tt d vv) ko kc kb kd kh (nI (a_n a + 1)) ∧ mx_V (ab_new a r tt d vv) kn) (jw_B D vCl (vTy cB cI cL) A) A) args s rm_M_made.cells rm_M_made.slots A) 0 0 56 [(0, .ref (am 0)), (1, .int (nI r)), (2, .int tt), (3, .long vv), (5, .int (jb d)), (6, .int (nI (a_n a))), (7, .int (nI i))] [] (wM am cB cI cL (upd go (a_n a) tt) (upd gc (a_n a) (nI (a_gr a r + 1))) (upd gb (a_n a) (nI r)) (upd gd (a_n a) (jb d)) h gr gt gk (vp_updL gn (a_n a) vv) er (nI (a_n a)) sz) := by
    intro u
    induction u with
    | zero =>
      intro i h hi h1 h2
      obtain rfl : i = 4 := hi
      refine jw_iload (pc := 56) F 6 d_M_made_56 rfl ?_
      refine jw_iconst (pc := 58) (v := nI 4) F d_M_made_58 (by decide) ?_
      refine jw_icmp_ge (pc := 59) F 93 d_M_made_59 (by decide) (fun hz1 => ?_) (fun hz1 => False.elim (hz1 (by decide)))
      refine jw_aload_n (pc := 93) F 0 d_M_made_93 rfl rfl ?_
      refine jw_dup (pc := 94) F d_M_made_94 rfl ?_
      refine jw_get (pc := 95) F (jms inM) 0 rfl rfl 1 (by decide) (jm w_343) rfl d_M_made_95 ?_
      refine jw_iconst (pc := 98) (v := 1) F d_M_made_98 (by decide) ?_
      refine jw_iadd (pc := 99) F d_M_made_99 ?_
      rw [nI_1]
      refine jw_put (pc := 100) (v := .int (nI (a_n a + 1))) (ty := .int) (ws' := wM am cB cI cL (upd go (a_n a) tt) (upd gc (a_n a) (nI (a_gr a r + 1))) (upd gb (a_n a) (nI r)) (upd gd (a_n a) (jb d)) h gr gt gk (vp_updL gn (a_n a) vv) er (nI (a_n a + 1)) sz) F (jms inM) tM tM_ok nmM 0 rfl rfl 1 (by decide) (jm w_343) rfl (by decide +kernel) rfl rfl (Nat.le_of_ble_eq_true rfl) d_M_made_100 rfl ?_
      refine jw_iload (pc := 103) F 5 d_M_made_103 rfl ?_
      exact jw_iret F d_M_made_105 ⟨rfl, _, _, _, _, _, _, rfl, mx_new hI hA h1 h2, mx_V_new hV⟩
    | succ u ih =>
      intro i h hi h1 h2
      refine jw_iload (pc := 56) F 6 d_M_made_56 rfl ?_
      refine jw_iconst (pc := 58) (v := nI 4) F d_M_made_58 (by decide) ?_
      refine jw_icmp_ge (pc := 59) F 93 d_M_made_59 (by decide) (fun hz2 => False.elim (nI_ge (show i < 4 by omega) (by decide) hz2)) (fun hz2 => ?_)
      refine jw_aload_n (pc := 62) F 0 d_M_made_62 rfl rfl ?_
      refine jw_get (pc := 63) F (jms inM) 0 rfl rfl 7 (by decide) (jm w_349) rfl d_M_made_63 ?_
      refine jw_sipush (pc := 66) (v := nI 160) F d_M_made_66 (by decide) ?_
      refine jw_iload (pc := 69) F 6 d_M_made_69 rfl ?_
      refine jw_imul (pc := 71) F d_M_made_71 ?_
      rw [pk_mul]
      refine jw_iload (pc := 72) F 5 d_M_made_72 rfl ?_
      refine jw_iadd (pc := 74) F d_M_made_74 ?_
      rw [nI_add]
      refine jw_iload (pc := 75) F 6 d_M_made_75 rfl ?_
      refine jw_iload_n (pc := 77) F 1 d_M_made_77 rfl rfl ?_
      refine jw_icmp_ne (pc := 78) F 85 d_M_made_78 (by decide) (fun h3 => ?_) (fun h3 => ?_)
      · refine jw_iconst (pc := 85) (v := 0) F d_M_made_85 (by decide) ?_
        refine jw_zastN (pc := 86) (ws' := wM am cB cI cL (upd go (a_n a) tt) (upd gc (a_n a) (nI (a_gr a r + 1))) (upd gb (a_n a) (nI r)) (upd gd (a_n a) (jb d)) (upd h (160 * i + (a_n a)) (vp_nar .boolean 0)) gr gt gk (vp_updL gn (a_n a) vv) er (nI (a_n a)) sz) F 6 0 rfl rfl (160 * i + (a_n a)) rfl (by omega) (by decide) d_M_made_86 rfl ?_
        rw [show vp_nar .boolean 0 = 0 by decide]
        refine jw_iinc (pc := 87) (v := nI (i + 1)) (lv' := [(0, .ref (am 0)), (1, .int (nI r)), (2, .int tt), (3, .long vv), (5, .int (jb d)), (6, .int (nI (a_n a))), (7, .int (nI (i + 1)))]) F 6 d_M_made_87 rfl (jw_inc _) (by decide) rfl ?_
        refine jw_goto (pc := 90) F 56 d_M_made_90 (by decide) ?_
        refine ih (i + 1) _ (by omega) (fun s hs k hk => by rw [pk_un (by omega)]; exact h1 s hs k hk) (fun s hs => ?_)
        by_cases e1 : s = i
        · subst e1; rw [pk_us, decide_eq_false (fun q => h3 (by rw [q]))]; rfl
        · rw [pk_un (by omega)]; exact h2 s (by omega)
      · refine jw_iconst (pc := 81) (v := 1) F d_M_made_81 (by decide) ?_
        refine jw_goto (pc := 82) F 86 d_M_made_82 (by decide) ?_
        refine jw_zastN (pc := 86) (ws' := wM am cB cI cL (upd go (a_n a) tt) (upd gc (a_n a) (nI (a_gr a r + 1))) (upd gb (a_n a) (nI r)) (upd gd (a_n a) (jb d)) (upd h (160 * i + (a_n a)) (vp_nar .boolean 1)) gr gt gk (vp_updL gn (a_n a) vv) er (nI (a_n a)) sz) F 6 0 rfl rfl (160 * i + (a_n a)) rfl (by omega) (by decide) d_M_made_86 rfl ?_
        rw [show vp_nar .boolean 1 = 1 by decide]
        refine jw_iinc (pc := 87) (v := nI (i + 1)) (lv' := [(0, .ref (am 0)), (1, .int (nI r)), (2, .int tt), (3, .long vv), (5, .int (jb d)), (6, .int (nI (a_n a))), (7, .int (nI (i + 1)))]) F 6 d_M_made_87 rfl (jw_inc _) (by decide) rfl ?_
        refine jw_goto (pc := 90) F 56 d_M_made_90 (by decide) ?_
        refine ih (i + 1) _ (by omega) (fun s hs k hk => by rw [pk_un (by omega)]; exact h1 s hs k hk) (fun s hs => ?_)
        by_cases e1 : s = i
        · subst e1; rw [pk_us, decide_eq_true (ab_nI_inj (by omega) (by omega) h3)]; rfl
        · rw [pk_un (by omega)]; exact h2 s (by omega)
  exact loop 4 0 gh rfl (fun _ _ _ _ => rfl) (fun s hs => absurd hs (Nat.not_lt_zero s))
set_option maxHeartbeats 4000000 in
set_option maxRecDepth 100000 in
theorem m_insert_1 (l : Launch) (D : va_G) (am : Nat → Nat) (cB cI cL : ClassId) (go gc gb gd gh gr gt gk : Nat → Int32) (gn : Nat → Int64) (er op sz : Int32) (a : AS) (hQ : mx_R a go gc gb gd gh gn op) (r : Int32) (hr : a_isrep r = false) (tt : Int32) (vv : Int64) : jw_Mi l D vCl (vTy cB cI cL) y_M_insert s_M_insert rm_M_insert [.ref (am 0), .int r, .int tt, .long vv] (wM am cB cI cL go gc gb gd gh gr gt gk gn er op sz) (fun r9 w9 => r9 = 0 ∧ w9 = wM am cB cI cL go gc gb gd gh gr gt gk gn 1 op sz) := by
  refine jw_ofi (cc := b_M_insert) (nL := 5) (ret := (some .int)) (by decide) rfl (Nat.le_of_ble_eq_true rfl) (fun p e s m args below meth c A F hnm => ?_)
  refine jw_at (lv' := [(0, .ref (am 0)), (1, .int r), (2, .int tt), (3, .long vv)]) (st' := []) (ws' := wM am cB cI cL go gc gb gd gh gr gt gk gn er op sz) rfl rfl rfl ?_
  refine jw_aload_n (pc := 0) F 0 d_M_insert_0 rfl rfl ?_
  refine jw_iconst (pc := 1) (v := 0) F d_M_insert_1 (by decide) ?_
  refine jw_put (pc := 2) (v := .int 0) (ty := .int) (ws' := wM am cB cI cL go gc gb gd gh gr gt gk gn 0 op sz) F (jms inM) tM tM_ok nmM 0 rfl rfl 0 (by decide) (jm w_342) rfl (by decide +kernel) rfl rfl (Nat.le_of_ble_eq_true rfl) d_M_insert_2 rfl ?_
  refine jw_aload_n (pc := 5) F 0 d_M_insert_5 rfl rfl ?_
  refine jw_iload_n (pc := 6) F 1 d_M_insert_6 rfl rfl ?_
  refine jw_callS_Ei (pc := 7) (As := [.int r]) (rest := [.ref (am 0)]) F (m_isReplica l D cB cI cL r) (jw_cwS F.1.2.2.2.2 wl_good w_387 w_388 w_30 w_389 hd_M_isReplica ⟨by decide, by decide⟩) rfl rfl (Nat.le_of_ble_eq_true rfl) d_M_insert_7 ⟨rfl, rfl⟩ ⟨by decide, by decide⟩ ?_
  refine jw_if_ne (pc := 10) F 17 d_M_insert_10 (by decide) (fun hz1 => False.elim (absurd (jb_n.mp hz1) (by rw [hr]; decide))) (fun hz1 => ?_)
  refine jw_iconst (pc := 13) (v := 1) F d_M_insert_13 (by decide) ?_
  refine jw_goto (pc := 14) F 18 d_M_insert_14 (by decide) ?_
  refine jw_iconst (pc := 18) (v := 1) F d_M_insert_18 (by decide) ?_
  refine jw_callV_Ci (pc := 19) (As := [.int 1, .int 1]) (rest := []) F (m_failsT l D am cB cI cL go gc gb gd gh gr gt gk gn op sz true rfl 1 (by decide)) (jw_cwV F.1.2.2.2.2 wl_good w_394 w_396 w_17 w_30 w_397 hd_M_fails ⟨by decide, by decide⟩) 0 1 rfl rfl rfl rfl rfl rfl (Nat.le_of_ble_eq_true rfl) d_M_insert_19 ⟨rfl, rfl⟩ ⟨by decide, by decide⟩ (fun r w hw => ?_)
  obtain ⟨rfl, rfl⟩ := hw
  refine jw_if_ne (pc := 22) F 75 d_M_insert_22 (by decide) (fun hz2 => ?_) (fun hz2 => False.elim (absurd hz2 (by decide)))
  refine jw_iconst (pc := 75) (v := 0) F d_M_insert_75 (by decide) ?_
  exact jw_iret F d_M_insert_76 ⟨rfl, rfl⟩
set_option maxHeartbeats 4000000 in
set_option maxRecDepth 100000 in
theorem m_insert_2 (l : Launch) (D : va_G) (am : Nat → Nat) (cB cI cL : ClassId) (go gc gb gd gh gr gt gk : Nat → Int32) (gn : Nat → Int64) (er op sz : Int32) (a : AS) (hQ : mx_R a go gc gb gd gh gn op) (r : Nat) (hr : r < 4) (hn1 : a_n a = 160) (tt : Int32) (vv : Int64) : jw_Mi l D vCl (vTy cB cI cL) y_M_insert s_M_insert rm_M_insert [.ref (am 0), .int (nI r), .int tt, .long vv] (wM am cB cI cL go gc gb gd gh gr gt gk gn er op sz) (fun r9 w9 => r9 = 0 ∧ w9 = wM am cB cI cL go gc gb gd gh gr gt gk gn 2 op sz) := by
  refine jw_ofi (cc := b_M_insert) (nL := 5) (ret := (some .int)) (by decide) rfl (Nat.le_of_ble_eq_true rfl) (fun p e s m args below meth c A F hnm => ?_)
  refine jw_at (lv' := [(0, .ref (am 0)), (1, .int (nI r)), (2, .int tt), (3, .long vv)]) (st' := []) (ws' := wM am cB cI cL go gc gb gd gh gr gt gk gn er op sz) rfl rfl rfl ?_
  obtain ⟨hI, hA, hV⟩ := hQ
  have hn := hI.1
  refine jw_aload_n (pc := 0) F 0 d_M_insert_0 rfl rfl ?_
  refine jw_iconst (pc := 1) (v := 0) F d_M_insert_1 (by decide) ?_
  refine jw_put (pc := 2) (v := .int 0) (ty := .int) (ws' := wM am cB cI cL go gc gb gd gh gr gt gk gn 0 op sz) F (jms inM) tM tM_ok nmM 0 rfl rfl 0 (by decide) (jm w_342) rfl (by decide +kernel) rfl rfl (Nat.le_of_ble_eq_true rfl) d_M_insert_2 rfl ?_
  refine jw_aload_n (pc := 5) F 0 d_M_insert_5 rfl rfl ?_
  refine jw_iload_n (pc := 6) F 1 d_M_insert_6 rfl rfl ?_
  refine jw_callS_Ei (pc := 7) (As := [.int (nI r)]) (rest := [.ref (am 0)]) F (m_isReplica l D cB cI cL (nI r)) (jw_cwS F.1.2.2.2.2 wl_good w_387 w_388 w_30 w_389 hd_M_isReplica ⟨by decide, by decide⟩) rfl rfl (Nat.le_of_ble_eq_true rfl) d_M_insert_7 ⟨rfl, rfl⟩ ⟨by decide, by decide⟩ ?_
  refine jw_if_ne (pc := 10) F 17 d_M_insert_10 (by decide) (fun hz1 => ?_) (fun hz1 => False.elim (absurd (jb_0.mp hz1) (by rw [m_isrep_nI hr]; decide)))
  refine jw_iconst (pc := 17) (v := 0) F d_M_insert_17 (by decide) ?_
  refine jw_iconst (pc := 18) (v := 1) F d_M_insert_18 (by decide) ?_
  refine jw_callV_Ei (pc := 19) (As := [.int 0, .int 1]) (rest := []) F ([]) ([]) (m_failsF l D am cB cI cL go gc gb gd gh gr gt gk gn op sz false rfl 1) (jw_cwV F.1.2.2.2.2 wl_good w_394 w_396 w_17 w_30 w_397 hd_M_fails ⟨by decide, by decide⟩) 0 1 rfl rfl rfl (by simp) rfl rfl (Nat.le_of_ble_eq_true rfl) d_M_insert_19 ⟨rfl, rfl⟩ ⟨by decide, by decide⟩ ?_
  refine jw_if_ne (pc := 22) F 75 d_M_insert_22 (by decide) (fun hz2 => False.elim (hz2 rfl)) (fun hz2 => ?_)
  refine jw_aload_n (pc := 25) F 0 d_M_insert_25 rfl rfl ?_
  refine jw_aload_n (pc := 26) F 0 d_M_insert_26 rfl rfl ?_
  refine jw_get (pc := 27) F (jms inM) 0 rfl rfl 1 (by decide) (jm w_343) rfl d_M_insert_27 ?_
  refine jw_sipush (pc := 30) (v := 160) F d_M_insert_30 (by decide) ?_
  refine jw_icmp_ne (pc := 33) F 40 d_M_insert_33 (by decide) (fun hz3 => False.elim (hz3 (by rw [hA.1, hn1]; decide))) (fun hz3 => ?_)
  refine jw_iconst (pc := 36) (v := 1) F d_M_insert_36 (by decide) ?_
  refine jw_goto (pc := 37) F 41 d_M_insert_37 (by decide) ?_
  refine jw_iconst (pc := 41) (v := 2) F d_M_insert_41 (by decide) ?_
  refine jw_callV_Ci (pc := 42) (As := [.int 1, .int 2]) (rest := []) F (m_failsT l D am cB cI cL go gc gb gd gh gr gt gk gn op sz true rfl 2 (by decide)) (jw_cwV F.1.2.2.2.2 wl_good w_394 w_396 w_17 w_30 w_397 hd_M_fails ⟨by decide, by decide⟩) 0 1 rfl rfl rfl rfl rfl rfl (Nat.le_of_ble_eq_true rfl) d_M_insert_42 ⟨rfl, rfl⟩ ⟨by decide, by decide⟩ (fun r w hw => ?_)
  obtain ⟨rfl, rfl⟩ := hw
  refine jw_if_ne (pc := 45) F 75 d_M_insert_45 (by decide) (fun hz4 => ?_) (fun hz4 => False.elim (absurd hz4 (by decide)))
  refine jw_iconst (pc := 75) (v := 0) F d_M_insert_75 (by decide) ?_
  exact jw_iret F d_M_insert_76 ⟨rfl, rfl⟩
set_option maxHeartbeats 4000000 in
set_option maxRecDepth 100000 in
theorem m_insert_3 (l : Launch) (D : va_G) (am : Nat → Nat) (cB cI cL : ClassId) (go gc gb gd gh gr gt gk : Nat → Int32) (gn : Nat → Int64) (er op sz : Int32) (a : AS) (hQ : mx_R a go gc gb gd gh gn op) (r : Nat) (hr : r < 4) (hn1 : a_n a < 160) (tt : Int32) (vv : Int64) (ht : ¬ tt = -1) (hh : a_haseB a r tt = false) : jw_Mi l D vCl (vTy cB cI cL) y_M_insert s_M_insert rm_M_insert [.ref (am 0), .int (nI r), .int tt, .long vv] (wM am cB cI cL go gc gb gd gh gr gt gk gn er op sz) (fun r9 w9 => r9 = 0 ∧ w9 = wM am cB cI cL go gc gb gd gh gr gt gk gn 3 op sz) := by
  refine jw_ofi (cc := b_M_insert) (nL := 5) (ret := (some .int)) (by decide) rfl (Nat.le_of_ble_eq_true rfl) (fun p e s m args below meth c A F hnm => ?_)
  refine jw_at (lv' := [(0, .ref (am 0)), (1, .int (nI r)), (2, .int tt), (3, .long vv)]) (st' := []) (ws' := wM am cB cI cL go gc gb gd gh gr gt gk gn er op sz) rfl rfl rfl ?_
  obtain ⟨hI, hA, hV⟩ := hQ
  have hn := hI.1
  refine jw_aload_n (pc := 0) F 0 d_M_insert_0 rfl rfl ?_
  refine jw_iconst (pc := 1) (v := 0) F d_M_insert_1 (by decide) ?_
  refine jw_put (pc := 2) (v := .int 0) (ty := .int) (ws' := wM am cB cI cL go gc gb gd gh gr gt gk gn 0 op sz) F (jms inM) tM tM_ok nmM 0 rfl rfl 0 (by decide) (jm w_342) rfl (by decide +kernel) rfl rfl (Nat.le_of_ble_eq_true rfl) d_M_insert_2 rfl ?_
  refine jw_aload_n (pc := 5) F 0 d_M_insert_5 rfl rfl ?_
  refine jw_iload_n (pc := 6) F 1 d_M_insert_6 rfl rfl ?_
  refine jw_callS_Ei (pc := 7) (As := [.int (nI r)]) (rest := [.ref (am 0)]) F (m_isReplica l D cB cI cL (nI r)) (jw_cwS F.1.2.2.2.2 wl_good w_387 w_388 w_30 w_389 hd_M_isReplica ⟨by decide, by decide⟩) rfl rfl (Nat.le_of_ble_eq_true rfl) d_M_insert_7 ⟨rfl, rfl⟩ ⟨by decide, by decide⟩ ?_
  refine jw_if_ne (pc := 10) F 17 d_M_insert_10 (by decide) (fun hz1 => ?_) (fun hz1 => False.elim (absurd (jb_0.mp hz1) (by rw [m_isrep_nI hr]; decide)))
  refine jw_iconst (pc := 17) (v := 0) F d_M_insert_17 (by decide) ?_
  refine jw_iconst (pc := 18) (v := 1) F d_M_insert_18 (by decide) ?_
  refine jw_callV_Ei (pc := 19) (As := [.int 0, .int 1]) (rest := []) F ([]) ([]) (m_failsF l D am cB cI cL go gc gb gd gh gr gt gk gn op sz false rfl 1) (jw_cwV F.1.2.2.2.2 wl_good w_394 w_396 w_17 w_30 w_397 hd_M_fails ⟨by decide, by decide⟩) 0 1 rfl rfl rfl (by simp) rfl rfl (Nat.le_of_ble_eq_true rfl) d_M_insert_19 ⟨rfl, rfl⟩ ⟨by decide, by decide⟩ ?_
  refine jw_if_ne (pc := 22) F 75 d_M_insert_22 (by decide) (fun hz2 => False.elim (hz2 rfl)) (fun hz2 => ?_)
  refine jw_aload_n (pc := 25) F 0 d_M_insert_25 rfl rfl ?_
  refine jw_aload_n (pc := 26) F 0 d_M_insert_26 rfl rfl ?_
  refine jw_get (pc := 27) F (jms inM) 0 rfl rfl 1 (by decide) (jm w_343) rfl d_M_insert_27 ?_
  refine jw_sipush (pc := 30) (v := 160) F d_M_insert_30 (by decide) ?_
  refine jw_icmp_ne (pc := 33) F 40 d_M_insert_33 (by decide) (fun hz3 => ?_) (fun hz3 => False.elim (absurd (hz3) (by rw [hA.1]; exact fun q => absurd (ab_nI_inj (by omega) (by omega) (q.trans (show (160 : Int32) = nI 160 by decide))) (by omega))))
  refine jw_iconst (pc := 40) (v := 0) F d_M_insert_40 (by decide) ?_
  refine jw_iconst (pc := 41) (v := 2) F d_M_insert_41 (by decide) ?_
  refine jw_callV_Ei (pc := 42) (As := [.int 0, .int 2]) (rest := []) F ([]) ([]) (m_failsF l D am cB cI cL go gc gb gd gh gr gt gk gn op sz false rfl 2) (jw_cwV F.1.2.2.2.2 wl_good w_394 w_396 w_17 w_30 w_397 hd_M_fails ⟨by decide, by decide⟩) 0 1 rfl rfl rfl (by simp) rfl rfl (Nat.le_of_ble_eq_true rfl) d_M_insert_42 ⟨rfl, rfl⟩ ⟨by decide, by decide⟩ ?_
  refine jw_if_ne (pc := 45) F 75 d_M_insert_45 (by decide) (fun hz4 => False.elim (hz4 rfl)) (fun hz4 => ?_)
  refine jw_aload_n (pc := 48) F 0 d_M_insert_48 rfl rfl ?_
  refine jw_iload_n (pc := 49) F 2 d_M_insert_49 rfl rfl ?_
  refine jw_iconst (pc := 50) (v := -1) F d_M_insert_50 (by decide) ?_
  refine jw_icmp_eq (pc := 51) F 67 d_M_insert_51 (by decide) (fun hz5 => False.elim (ht hz5)) (fun hz5 => ?_)
  refine jw_aload_n (pc := 54) F 0 d_M_insert_54 rfl rfl ?_
  refine jw_iload_n (pc := 55) F 1 d_M_insert_55 rfl rfl ?_
  refine jw_iload_n (pc := 56) F 2 d_M_insert_56 rfl rfl ?_
  refine jw_callV_Ei (pc := 57) (As := [.int (nI r), .int tt]) (rest := [.ref (am 0)]) F ([]) ([]) (m_hasElement l D am cB cI cL go gc gb gd gh gr gt gk gn 0 op sz a hI hA r hr tt) (jw_cwV F.1.2.2.2.2 wl_good w_398 w_400 w_18 w_30 w_401 hd_M_hasElement ⟨by decide, by decide⟩) 0 1 rfl rfl rfl (by simp) rfl rfl (Nat.le_of_ble_eq_true rfl) d_M_insert_57 ⟨rfl, rfl⟩ ⟨by decide, by decide⟩ ?_
  refine jw_if_ne (pc := 60) F 67 d_M_insert_60 (by decide) (fun hz6 => False.elim (absurd (jb_n.mp hz6) (by rw [hh]; decide))) (fun hz6 => ?_)
  refine jw_iconst (pc := 63) (v := 1) F d_M_insert_63 (by decide) ?_
  refine jw_goto (pc := 64) F 68 d_M_insert_64 (by decide) ?_
  refine jw_iconst (pc := 68) (v := 3) F d_M_insert_68 (by decide) ?_
  refine jw_callV_Ci (pc := 69) (As := [.int 1, .int 3]) (rest := []) F (m_failsT l D am cB cI cL go gc gb gd gh gr gt gk gn op sz true rfl 3 (by decide)) (jw_cwV F.1.2.2.2.2 wl_good w_394 w_396 w_17 w_30 w_397 hd_M_fails ⟨by decide, by decide⟩) 0 1 rfl rfl rfl rfl rfl rfl (Nat.le_of_ble_eq_true rfl) d_M_insert_69 ⟨rfl, rfl⟩ ⟨by decide, by decide⟩ (fun r w hw => ?_)
  obtain ⟨rfl, rfl⟩ := hw
  refine jw_if_eq (pc := 72) F 77 d_M_insert_72 (by decide) (fun hz7 => False.elim (absurd hz7 (by decide))) (fun hz7 => ?_)
  refine jw_iconst (pc := 75) (v := 0) F d_M_insert_75 (by decide) ?_
  exact jw_iret F d_M_insert_76 ⟨rfl, rfl⟩
set_option maxHeartbeats 4000000 in
set_option maxRecDepth 100000 in
theorem m_insert_0 (l : Launch) (D : va_G) (am : Nat → Nat) (cB cI cL : ClassId) (go gc gb gd gh gr gt gk : Nat → Int32) (gn : Nat → Int64) (er op sz : Int32) (a : AS) (hQ : mx_R a go gc gb gd gh gn op) (r : Nat) (hr : r < 4) (hn1 : a_n a < 160) (tt : Int32) (vv : Int64) (ht : ab_ok a r tt false) : jw_Mi l D vCl (vTy cB cI cL) y_M_insert s_M_insert rm_M_insert [.ref (am 0), .int (nI r), .int tt, .long vv] (wM am cB cI cL go gc gb gd gh gr gt gk gn er op sz) (fun r9 w9 => r9 = nI (a_n a) ∧ ∃ (ko kc kb kd kh : Nat → Int32) (kn : Nat → Int64) (ko2 : Int32), w9 = wM am cB cI cL ko kc kb kd kh gr gt gk kn 0 ko2 sz ∧ mx_R (ab_new a r tt false vv) ko kc kb kd kh kn ko2) := by
  refine jw_ofi (cc := b_M_insert) (nL := 5) (ret := (some .int)) (by decide) rfl (Nat.le_of_ble_eq_true rfl) (fun p e s m args below meth c A F hnm => ?_)
  refine jw_at (lv' := [(0, .ref (am 0)), (1, .int (nI r)), (2, .int tt), (3, .long vv)]) (st' := []) (ws' := wM am cB cI cL go gc gb gd gh gr gt gk gn er op sz) rfl rfl rfl ?_
  obtain ⟨hI, hA, hV⟩ := hQ
  have hn := hI.1
  refine jw_aload_n (pc := 0) F 0 d_M_insert_0 rfl rfl ?_
  refine jw_iconst (pc := 1) (v := 0) F d_M_insert_1 (by decide) ?_
  refine jw_put (pc := 2) (v := .int 0) (ty := .int) (ws' := wM am cB cI cL go gc gb gd gh gr gt gk gn 0 op sz) F (jms inM) tM tM_ok nmM 0 rfl rfl 0 (by decide) (jm w_342) rfl (by decide +kernel) rfl rfl (Nat.le_of_ble_eq_true rfl) d_M_insert_2 rfl ?_
  refine jw_aload_n (pc := 5) F 0 d_M_insert_5 rfl rfl ?_
  refine jw_iload_n (pc := 6) F 1 d_M_insert_6 rfl rfl ?_
  refine jw_callS_Ei (pc := 7) (As := [.int (nI r)]) (rest := [.ref (am 0)]) F (m_isReplica l D cB cI cL (nI r)) (jw_cwS F.1.2.2.2.2 wl_good w_387 w_388 w_30 w_389 hd_M_isReplica ⟨by decide, by decide⟩) rfl rfl (Nat.le_of_ble_eq_true rfl) d_M_insert_7 ⟨rfl, rfl⟩ ⟨by decide, by decide⟩ ?_
  refine jw_if_ne (pc := 10) F 17 d_M_insert_10 (by decide) (fun hz1 => ?_) (fun hz1 => False.elim (absurd (jb_0.mp hz1) (by rw [m_isrep_nI hr]; decide)))
  refine jw_iconst (pc := 17) (v := 0) F d_M_insert_17 (by decide) ?_
  refine jw_iconst (pc := 18) (v := 1) F d_M_insert_18 (by decide) ?_
  refine jw_callV_Ei (pc := 19) (As := [.int 0, .int 1]) (rest := []) F ([]) ([]) (m_failsF l D am cB cI cL go gc gb gd gh gr gt gk gn op sz false rfl 1) (jw_cwV F.1.2.2.2.2 wl_good w_394 w_396 w_17 w_30 w_397 hd_M_fails ⟨by decide, by decide⟩) 0 1 rfl rfl rfl (by simp) rfl rfl (Nat.le_of_ble_eq_true rfl) d_M_insert_19 ⟨rfl, rfl⟩ ⟨by decide, by decide⟩ ?_
  refine jw_if_ne (pc := 22) F 75 d_M_insert_22 (by decide) (fun hz2 => False.elim (hz2 rfl)) (fun hz2 => ?_)
  refine jw_aload_n (pc := 25) F 0 d_M_insert_25 rfl rfl ?_
  refine jw_aload_n (pc := 26) F 0 d_M_insert_26 rfl rfl ?_
  refine jw_get (pc := 27) F (jms inM) 0 rfl rfl 1 (by decide) (jm w_343) rfl d_M_insert_27 ?_
  refine jw_sipush (pc := 30) (v := 160) F d_M_insert_30 (by decide) ?_
  refine jw_icmp_ne (pc := 33) F 40 d_M_insert_33 (by decide) (fun hz3 => ?_) (fun hz3 => False.elim (absurd (hz3) (by rw [hA.1]; exact fun q => absurd (ab_nI_inj (by omega) (by omega) (q.trans (show (160 : Int32) = nI 160 by decide))) (by omega))))
  refine jw_iconst (pc := 40) (v := 0) F d_M_insert_40 (by decide) ?_
  refine jw_iconst (pc := 41) (v := 2) F d_M_insert_41 (by decide) ?_
  refine jw_callV_Ei (pc := 42) (As := [.int 0, .int 2]) (rest := []) F ([]) ([]) (m_failsF l D am cB cI cL go gc gb gd gh gr gt gk gn op sz false rfl 2) (jw_cwV F.1.2.2.2.2 wl_good w_394 w_396 w_17 w_30 w_397 hd_M_fails ⟨by decide, by decide⟩) 0 1 rfl rfl rfl (by simp) rfl rfl (Nat.le_of_ble_eq_true rfl) d_M_insert_42 ⟨rfl, rfl⟩ ⟨by decide, by decide⟩ ?_
  refine jw_if_ne (pc := 45) F 75 d_M_insert_45 (by decide) (fun hz4 => False.elim (hz4 rfl)) (fun hz4 => ?_)
  refine jw_aload_n (pc := 48) F 0 d_M_insert_48 rfl rfl ?_
  refine jw_iload_n (pc := 49) F 2 d_M_insert_49 rfl rfl ?_
  refine jw_iconst (pc := 50) (v := -1) F d_M_insert_50 (by decide) ?_
  refine jw_icmp_eq (pc := 51) F 67 d_M_insert_51 (by decide) (fun h1 => ?_) (fun h1 => ?_)
  · refine jw_iconst (pc := 67) (v := 0) F d_M_insert_67 (by decide) ?_
    refine jw_iconst (pc := 68) (v := 3) F d_M_insert_68 (by decide) ?_
    refine jw_callV_Ei (pc := 69) (As := [.int 0, .int 3]) (rest := []) F ([]) ([]) (m_failsF l D am cB cI cL go gc gb gd gh gr gt gk gn op sz false rfl 3) (jw_cwV F.1.2.2.2.2 wl_good w_394 w_396 w_17 w_30 w_397 hd_M_fails ⟨by decide, by decide⟩) 0 1 rfl rfl rfl (by simp) rfl rfl (Nat.le_of_ble_eq_true rfl) d_M_insert_69 ⟨rfl, rfl⟩ ⟨by decide, by decide⟩ ?_
    refine jw_if_eq (pc := 72) F 77 d_M_insert_72 (by decide) (fun hz5 => ?_) (fun hz5 => False.elim (hz5 rfl))
    refine jw_aload_n (pc := 77) F 0 d_M_insert_77 rfl rfl ?_
    refine jw_iload_n (pc := 78) F 1 d_M_insert_78 rfl rfl ?_
    refine jw_iload_n (pc := 79) F 2 d_M_insert_79 rfl rfl ?_
    refine jw_lload_n (pc := 80) F 3 d_M_insert_80 rfl rfl ?_
    refine jw_iconst (pc := 81) (v := jb false) F d_M_insert_81 (by decide) ?_
    refine jw_callV_Ci (pc := 82) (As := [.int (nI r), .int tt, .long vv, .int (jb false)]) (rest := []) F (m_made l D am cB cI cL go gc gb gd gh gr gt gk gn 0 op sz a hI hA hV r hr hn1 tt false vv) (jw_cwV F.1.2.2.2.2 wl_good w_410 w_412 w_21 w_30 w_413 hd_M_made ⟨by decide, by decide⟩) 0 1 rfl rfl rfl rfl rfl rfl (Nat.le_of_ble_eq_true rfl) d_M_insert_82 ⟨rfl, rfl⟩ ⟨by decide, by decide⟩ (fun r w hw => ?_)
    obtain ⟨rfl, ko, kc, kb, kd, kh, kn, rfl, hA2, hV2⟩ := hw
    exact jw_iret F d_M_insert_85 ⟨rfl, _, _, _, _, _, _, _, rfl, ab_I_new hI hn1 hr ht, hA2, hV2⟩
  · refine jw_aload_n (pc := 54) F 0 d_M_insert_54 rfl rfl ?_
    refine jw_iload_n (pc := 55) F 1 d_M_insert_55 rfl rfl ?_
    refine jw_iload_n (pc := 56) F 2 d_M_insert_56 rfl rfl ?_
    refine jw_callV_Ei (pc := 57) (As := [.int (nI r), .int tt]) (rest := [.ref (am 0)]) F ([]) ([]) (m_hasElement l D am cB cI cL go gc gb gd gh gr gt gk gn 0 op sz a hI hA r hr tt) (jw_cwV F.1.2.2.2.2 wl_good w_398 w_400 w_18 w_30 w_401 hd_M_hasElement ⟨by decide, by decide⟩) 0 1 rfl rfl rfl (by simp) rfl rfl (Nat.le_of_ble_eq_true rfl) d_M_insert_57 ⟨rfl, rfl⟩ ⟨by decide, by decide⟩ ?_
    refine jw_if_ne (pc := 60) F 67 d_M_insert_60 (by decide) (fun hz6 => ?_) (fun hz6 => False.elim (absurd (jb_0.mp hz6) (by rw [ab_ok_hase hn ht h1]; decide)))
    refine jw_iconst (pc := 67) (v := 0) F d_M_insert_67 (by decide) ?_
    refine jw_iconst (pc := 68) (v := 3) F d_M_insert_68 (by decide) ?_
    refine jw_callV_Ei (pc := 69) (As := [.int 0, .int 3]) (rest := []) F ([]) ([]) (m_failsF l D am cB cI cL go gc gb gd gh gr gt gk gn op sz false rfl 3) (jw_cwV F.1.2.2.2.2 wl_good w_394 w_396 w_17 w_30 w_397 hd_M_fails ⟨by decide, by decide⟩) 0 1 rfl rfl rfl (by simp) rfl rfl (Nat.le_of_ble_eq_true rfl) d_M_insert_69 ⟨rfl, rfl⟩ ⟨by decide, by decide⟩ ?_
    refine jw_if_eq (pc := 72) F 77 d_M_insert_72 (by decide) (fun hz7 => ?_) (fun hz7 => False.elim (hz7 rfl))
    refine jw_aload_n (pc := 77) F 0 d_M_insert_77 rfl rfl ?_
    refine jw_iload_n (pc := 78) F 1 d_M_insert_78 rfl rfl ?_
    refine jw_iload_n (pc := 79) F 2 d_M_insert_79 rfl rfl ?_
    refine jw_lload_n (pc := 80) F 3 d_M_insert_80 rfl rfl ?_
    refine jw_iconst (pc := 81) (v := jb false) F d_M_insert_81 (by decide) ?_
    refine jw_callV_Ci (pc := 82) (As := [.int (nI r), .int tt, .long vv, .int (jb false)]) (rest := []) F (m_made l D am cB cI cL go gc gb gd gh gr gt gk gn 0 op sz a hI hA hV r hr hn1 tt false vv) (jw_cwV F.1.2.2.2.2 wl_good w_410 w_412 w_21 w_30 w_413 hd_M_made ⟨by decide, by decide⟩) 0 1 rfl rfl rfl rfl rfl rfl (Nat.le_of_ble_eq_true rfl) d_M_insert_82 ⟨rfl, rfl⟩ ⟨by decide, by decide⟩ (fun r w hw => ?_)
    obtain ⟨rfl, ko, kc, kb, kd, kh, kn, rfl, hA2, hV2⟩ := hw
    exact jw_iret F d_M_insert_85 ⟨rfl, _, _, _, _, _, _, _, rfl, ab_I_new hI hn1 hr ht, hA2, hV2⟩
set_option maxHeartbeats 4000000 in
set_option maxRecDepth 100000 in
theorem m_delete_1 (l : Launch) (D : va_G) (am : Nat → Nat) (cB cI cL : ClassId) (go gc gb gd gh gr gt gk : Nat → Int32) (gn : Nat → Int64) (er op sz : Int32) (a : AS) (hQ : mx_R a go gc gb gd gh gn op) (r : Int32) (hr : a_isrep r = false) (tt : Int32) : jw_Mi l D vCl (vTy cB cI cL) y_M_delete s_M_delete rm_M_delete [.ref (am 0), .int r, .int tt] (wM am cB cI cL go gc gb gd gh gr gt gk gn er op sz) (fun r9 w9 => r9 = 0 ∧ w9 = wM am cB cI cL go gc gb gd gh gr gt gk gn 1 op sz) := by
  refine jw_ofi (cc := b_M_delete) (nL := 3) (ret := (some .int)) (by decide) rfl (Nat.le_of_ble_eq_true rfl) (fun p e s m args below meth c A F hnm => ?_)
  refine jw_at (lv' := [(0, .ref (am 0)), (1, .int r), (2, .int tt)]) (st' := []) (ws' := wM am cB cI cL go gc gb gd gh gr gt gk gn er op sz) rfl rfl rfl ?_
  refine jw_aload_n (pc := 0) F 0 d_M_delete_0 rfl rfl ?_
  refine jw_iconst (pc := 1) (v := 0) F d_M_delete_1 (by decide) ?_
  refine jw_put (pc := 2) (v := .int 0) (ty := .int) (ws' := wM am cB cI cL go gc gb gd gh gr gt gk gn 0 op sz) F (jms inM) tM tM_ok nmM 0 rfl rfl 0 (by decide) (jm w_342) rfl (by decide +kernel) rfl rfl (Nat.le_of_ble_eq_true rfl) d_M_delete_2 rfl ?_
  refine jw_aload_n (pc := 5) F 0 d_M_delete_5 rfl rfl ?_
  refine jw_iload_n (pc := 6) F 1 d_M_delete_6 rfl rfl ?_
  refine jw_callS_Ei (pc := 7) (As := [.int r]) (rest := [.ref (am 0)]) F (m_isReplica l D cB cI cL r) (jw_cwS F.1.2.2.2.2 wl_good w_387 w_388 w_30 w_389 hd_M_isReplica ⟨by decide, by decide⟩) rfl rfl (Nat.le_of_ble_eq_true rfl) d_M_delete_7 ⟨rfl, rfl⟩ ⟨by decide, by decide⟩ ?_
  refine jw_if_ne (pc := 10) F 17 d_M_delete_10 (by decide) (fun hz1 => False.elim (absurd (jb_n.mp hz1) (by rw [hr]; decide))) (fun hz1 => ?_)
  refine jw_iconst (pc := 13) (v := 1) F d_M_delete_13 (by decide) ?_
  refine jw_goto (pc := 14) F 18 d_M_delete_14 (by decide) ?_
  refine jw_iconst (pc := 18) (v := 1) F d_M_delete_18 (by decide) ?_
  refine jw_callV_Ci (pc := 19) (As := [.int 1, .int 1]) (rest := []) F (m_failsT l D am cB cI cL go gc gb gd gh gr gt gk gn op sz true rfl 1 (by decide)) (jw_cwV F.1.2.2.2.2 wl_good w_394 w_396 w_17 w_30 w_397 hd_M_fails ⟨by decide, by decide⟩) 0 1 rfl rfl rfl rfl rfl rfl (Nat.le_of_ble_eq_true rfl) d_M_delete_19 ⟨rfl, rfl⟩ ⟨by decide, by decide⟩ (fun r w hw => ?_)
  obtain ⟨rfl, rfl⟩ := hw
  refine jw_if_ne (pc := 22) F 70 d_M_delete_22 (by decide) (fun hz2 => ?_) (fun hz2 => False.elim (absurd hz2 (by decide)))
  refine jw_iconst (pc := 70) (v := 0) F d_M_delete_70 (by decide) ?_
  exact jw_iret F d_M_delete_71 ⟨rfl, rfl⟩
set_option maxHeartbeats 4000000 in
set_option maxRecDepth 100000 in
theorem m_delete_2 (l : Launch) (D : va_G) (am : Nat → Nat) (cB cI cL : ClassId) (go gc gb gd gh gr gt gk : Nat → Int32) (gn : Nat → Int64) (er op sz : Int32) (a : AS) (hQ : mx_R a go gc gb gd gh gn op) (r : Nat) (hr : r < 4) (hn1 : a_n a = 160) (tt : Int32) : jw_Mi l D vCl (vTy cB cI cL) y_M_delete s_M_delete rm_M_delete [.ref (am 0), .int (nI r), .int tt] (wM am cB cI cL go gc gb gd gh gr gt gk gn er op sz) (fun r9 w9 => r9 = 0 ∧ w9 = wM am cB cI cL go gc gb gd gh gr gt gk gn 2 op sz) := by
  refine jw_ofi (cc := b_M_delete) (nL := 3) (ret := (some .int)) (by decide) rfl (Nat.le_of_ble_eq_true rfl) (fun p e s m args below meth c A F hnm => ?_)
  refine jw_at (lv' := [(0, .ref (am 0)), (1, .int (nI r)), (2, .int tt)]) (st' := []) (ws' := wM am cB cI cL go gc gb gd gh gr gt gk gn er op sz) rfl rfl rfl ?_
  obtain ⟨hI, hA, hV⟩ := hQ
  have hn := hI.1
  refine jw_aload_n (pc := 0) F 0 d_M_delete_0 rfl rfl ?_
  refine jw_iconst (pc := 1) (v := 0) F d_M_delete_1 (by decide) ?_
  refine jw_put (pc := 2) (v := .int 0) (ty := .int) (ws' := wM am cB cI cL go gc gb gd gh gr gt gk gn 0 op sz) F (jms inM) tM tM_ok nmM 0 rfl rfl 0 (by decide) (jm w_342) rfl (by decide +kernel) rfl rfl (Nat.le_of_ble_eq_true rfl) d_M_delete_2 rfl ?_
  refine jw_aload_n (pc := 5) F 0 d_M_delete_5 rfl rfl ?_
  refine jw_iload_n (pc := 6) F 1 d_M_delete_6 rfl rfl ?_
  refine jw_callS_Ei (pc := 7) (As := [.int (nI r)]) (rest := [.ref (am 0)]) F (m_isReplica l D cB cI cL (nI r)) (jw_cwS F.1.2.2.2.2 wl_good w_387 w_388 w_30 w_389 hd_M_isReplica ⟨by decide, by decide⟩) rfl rfl (Nat.le_of_ble_eq_true rfl) d_M_delete_7 ⟨rfl, rfl⟩ ⟨by decide, by decide⟩ ?_
  refine jw_if_ne (pc := 10) F 17 d_M_delete_10 (by decide) (fun hz1 => ?_) (fun hz1 => False.elim (absurd (jb_0.mp hz1) (by rw [m_isrep_nI hr]; decide)))
  refine jw_iconst (pc := 17) (v := 0) F d_M_delete_17 (by decide) ?_
  refine jw_iconst (pc := 18) (v := 1) F d_M_delete_18 (by decide) ?_
  refine jw_callV_Ei (pc := 19) (As := [.int 0, .int 1]) (rest := []) F ([]) ([]) (m_failsF l D am cB cI cL go gc gb gd gh gr gt gk gn op sz false rfl 1) (jw_cwV F.1.2.2.2.2 wl_good w_394 w_396 w_17 w_30 w_397 hd_M_fails ⟨by decide, by decide⟩) 0 1 rfl rfl rfl (by simp) rfl rfl (Nat.le_of_ble_eq_true rfl) d_M_delete_19 ⟨rfl, rfl⟩ ⟨by decide, by decide⟩ ?_
  refine jw_if_ne (pc := 22) F 70 d_M_delete_22 (by decide) (fun hz2 => False.elim (hz2 rfl)) (fun hz2 => ?_)
  refine jw_aload_n (pc := 25) F 0 d_M_delete_25 rfl rfl ?_
  refine jw_aload_n (pc := 26) F 0 d_M_delete_26 rfl rfl ?_
  refine jw_get (pc := 27) F (jms inM) 0 rfl rfl 1 (by decide) (jm w_343) rfl d_M_delete_27 ?_
  refine jw_sipush (pc := 30) (v := 160) F d_M_delete_30 (by decide) ?_
  refine jw_icmp_ne (pc := 33) F 40 d_M_delete_33 (by decide) (fun hz3 => False.elim (hz3 (by rw [hA.1, hn1]; decide))) (fun hz3 => ?_)
  refine jw_iconst (pc := 36) (v := 1) F d_M_delete_36 (by decide) ?_
  refine jw_goto (pc := 37) F 41 d_M_delete_37 (by decide) ?_
  refine jw_iconst (pc := 41) (v := 2) F d_M_delete_41 (by decide) ?_
  refine jw_callV_Ci (pc := 42) (As := [.int 1, .int 2]) (rest := []) F (m_failsT l D am cB cI cL go gc gb gd gh gr gt gk gn op sz true rfl 2 (by decide)) (jw_cwV F.1.2.2.2.2 wl_good w_394 w_396 w_17 w_30 w_397 hd_M_fails ⟨by decide, by decide⟩) 0 1 rfl rfl rfl rfl rfl rfl (Nat.le_of_ble_eq_true rfl) d_M_delete_42 ⟨rfl, rfl⟩ ⟨by decide, by decide⟩ (fun r w hw => ?_)
  obtain ⟨rfl, rfl⟩ := hw
  refine jw_if_ne (pc := 45) F 70 d_M_delete_45 (by decide) (fun hz4 => ?_) (fun hz4 => False.elim (absurd hz4 (by decide)))
  refine jw_iconst (pc := 70) (v := 0) F d_M_delete_70 (by decide) ?_
  exact jw_iret F d_M_delete_71 ⟨rfl, rfl⟩
set_option maxHeartbeats 4000000 in
set_option maxRecDepth 100000 in
theorem m_delete_3 (l : Launch) (D : va_G) (am : Nat → Nat) (cB cI cL : ClassId) (go gc gb gd gh gr gt gk : Nat → Int32) (gn : Nat → Int64) (er op sz : Int32) (a : AS) (hQ : mx_R a go gc gb gd gh gn op) (r : Nat) (hr : r < 4) (hn1 : a_n a < 160) (tt : Int32) (hh : a_haseB a r tt = false) : jw_Mi l D vCl (vTy cB cI cL) y_M_delete s_M_delete rm_M_delete [.ref (am 0), .int (nI r), .int tt] (wM am cB cI cL go gc gb gd gh gr gt gk gn er op sz) (fun r9 w9 => r9 = 0 ∧ w9 = wM am cB cI cL go gc gb gd gh gr gt gk gn 3 op sz) := by
  refine jw_ofi (cc := b_M_delete) (nL := 3) (ret := (some .int)) (by decide) rfl (Nat.le_of_ble_eq_true rfl) (fun p e s m args below meth c A F hnm => ?_)
  refine jw_at (lv' := [(0, .ref (am 0)), (1, .int (nI r)), (2, .int tt)]) (st' := []) (ws' := wM am cB cI cL go gc gb gd gh gr gt gk gn er op sz) rfl rfl rfl ?_
  obtain ⟨hI, hA, hV⟩ := hQ
  have hn := hI.1
  refine jw_aload_n (pc := 0) F 0 d_M_delete_0 rfl rfl ?_
  refine jw_iconst (pc := 1) (v := 0) F d_M_delete_1 (by decide) ?_
  refine jw_put (pc := 2) (v := .int 0) (ty := .int) (ws' := wM am cB cI cL go gc gb gd gh gr gt gk gn 0 op sz) F (jms inM) tM tM_ok nmM 0 rfl rfl 0 (by decide) (jm w_342) rfl (by decide +kernel) rfl rfl (Nat.le_of_ble_eq_true rfl) d_M_delete_2 rfl ?_
  refine jw_aload_n (pc := 5) F 0 d_M_delete_5 rfl rfl ?_
  refine jw_iload_n (pc := 6) F 1 d_M_delete_6 rfl rfl ?_
  refine jw_callS_Ei (pc := 7) (As := [.int (nI r)]) (rest := [.ref (am 0)]) F (m_isReplica l D cB cI cL (nI r)) (jw_cwS F.1.2.2.2.2 wl_good w_387 w_388 w_30 w_389 hd_M_isReplica ⟨by decide, by decide⟩) rfl rfl (Nat.le_of_ble_eq_true rfl) d_M_delete_7 ⟨rfl, rfl⟩ ⟨by decide, by decide⟩ ?_
  refine jw_if_ne (pc := 10) F 17 d_M_delete_10 (by decide) (fun hz1 => ?_) (fun hz1 => False.elim (absurd (jb_0.mp hz1) (by rw [m_isrep_nI hr]; decide)))
  refine jw_iconst (pc := 17) (v := 0) F d_M_delete_17 (by decide) ?_
  refine jw_iconst (pc := 18) (v := 1) F d_M_delete_18 (by decide) ?_
  refine jw_callV_Ei (pc := 19) (As := [.int 0, .int 1]) (rest := []) F ([]) ([]) (m_failsF l D am cB cI cL go gc gb gd gh gr gt gk gn op sz false rfl 1) (jw_cwV F.1.2.2.2.2 wl_good w_394 w_396 w_17 w_30 w_397 hd_M_fails ⟨by decide, by decide⟩) 0 1 rfl rfl rfl (by simp) rfl rfl (Nat.le_of_ble_eq_true rfl) d_M_delete_19 ⟨rfl, rfl⟩ ⟨by decide, by decide⟩ ?_
  refine jw_if_ne (pc := 22) F 70 d_M_delete_22 (by decide) (fun hz2 => False.elim (hz2 rfl)) (fun hz2 => ?_)
  refine jw_aload_n (pc := 25) F 0 d_M_delete_25 rfl rfl ?_
  refine jw_aload_n (pc := 26) F 0 d_M_delete_26 rfl rfl ?_
  refine jw_get (pc := 27) F (jms inM) 0 rfl rfl 1 (by decide) (jm w_343) rfl d_M_delete_27 ?_
  refine jw_sipush (pc := 30) (v := 160) F d_M_delete_30 (by decide) ?_
  refine jw_icmp_ne (pc := 33) F 40 d_M_delete_33 (by decide) (fun hz3 => ?_) (fun hz3 => False.elim (absurd (hz3) (by rw [hA.1]; exact fun q => absurd (ab_nI_inj (by omega) (by omega) (q.trans (show (160 : Int32) = nI 160 by decide))) (by omega))))
  refine jw_iconst (pc := 40) (v := 0) F d_M_delete_40 (by decide) ?_
  refine jw_iconst (pc := 41) (v := 2) F d_M_delete_41 (by decide) ?_
  refine jw_callV_Ei (pc := 42) (As := [.int 0, .int 2]) (rest := []) F ([]) ([]) (m_failsF l D am cB cI cL go gc gb gd gh gr gt gk gn op sz false rfl 2) (jw_cwV F.1.2.2.2.2 wl_good w_394 w_396 w_17 w_30 w_397 hd_M_fails ⟨by decide, by decide⟩) 0 1 rfl rfl rfl (by simp) rfl rfl (Nat.le_of_ble_eq_true rfl) d_M_delete_42 ⟨rfl, rfl⟩ ⟨by decide, by decide⟩ ?_
  refine jw_if_ne (pc := 45) F 70 d_M_delete_45 (by decide) (fun hz4 => False.elim (hz4 rfl)) (fun hz4 => ?_)
  refine jw_aload_n (pc := 48) F 0 d_M_delete_48 rfl rfl ?_
  refine jw_aload_n (pc := 49) F 0 d_M_delete_49 rfl rfl ?_
  refine jw_iload_n (pc := 50) F 1 d_M_delete_50 rfl rfl ?_
  refine jw_iload_n (pc := 51) F 2 d_M_delete_51 rfl rfl ?_
  refine jw_callV_Ei (pc := 52) (As := [.int (nI r), .int tt]) (rest := [.ref (am 0)]) F ([]) ([]) (m_hasElement l D am cB cI cL go gc gb gd gh gr gt gk gn 0 op sz a hI hA r hr tt) (jw_cwV F.1.2.2.2.2 wl_good w_398 w_400 w_18 w_30 w_401 hd_M_hasElement ⟨by decide, by decide⟩) 0 1 rfl rfl rfl (by simp) rfl rfl (Nat.le_of_ble_eq_true rfl) d_M_delete_52 ⟨rfl, rfl⟩ ⟨by decide, by decide⟩ ?_
  refine jw_if_ne (pc := 55) F 62 d_M_delete_55 (by decide) (fun hz5 => False.elim (absurd (jb_n.mp hz5) (by rw [hh]; decide))) (fun hz5 => ?_)
  refine jw_iconst (pc := 58) (v := 1) F d_M_delete_58 (by decide) ?_
  refine jw_goto (pc := 59) F 63 d_M_delete_59 (by decide) ?_
  refine jw_iconst (pc := 63) (v := 3) F d_M_delete_63 (by decide) ?_
  refine jw_callV_Ci (pc := 64) (As := [.int 1, .int 3]) (rest := []) F (m_failsT l D am cB cI cL go gc gb gd gh gr gt gk gn op sz true rfl 3 (by decide)) (jw_cwV F.1.2.2.2.2 wl_good w_394 w_396 w_17 w_30 w_397 hd_M_fails ⟨by decide, by decide⟩) 0 1 rfl rfl rfl rfl rfl rfl (Nat.le_of_ble_eq_true rfl) d_M_delete_64 ⟨rfl, rfl⟩ ⟨by decide, by decide⟩ (fun r w hw => ?_)
  obtain ⟨rfl, rfl⟩ := hw
  refine jw_if_eq (pc := 67) F 72 d_M_delete_67 (by decide) (fun hz6 => False.elim (absurd hz6 (by decide))) (fun hz6 => ?_)
  refine jw_iconst (pc := 70) (v := 0) F d_M_delete_70 (by decide) ?_
  exact jw_iret F d_M_delete_71 ⟨rfl, rfl⟩
set_option maxHeartbeats 4000000 in
set_option maxRecDepth 100000 in
theorem m_delete_0 (l : Launch) (D : va_G) (am : Nat → Nat) (cB cI cL : ClassId) (go gc gb gd gh gr gt gk : Nat → Int32) (gn : Nat → Int64) (er op sz : Int32) (a : AS) (hQ : mx_R a go gc gb gd gh gn op) (r : Nat) (hr : r < 4) (hn1 : a_n a < 160) (tt : Int32) (hh : a_haseB a r tt = true) : jw_Mi l D vCl (vTy cB cI cL) y_M_delete s_M_delete rm_M_delete [.ref (am 0), .int (nI r), .int tt] (wM am cB cI cL go gc gb gd gh gr gt gk gn er op sz) (fun r9 w9 => r9 = nI (a_n a) ∧ ∃ (ko kc kb kd kh : Nat → Int32) (kn : Nat → Int64) (ko2 : Int32), w9 = wM am cB cI cL ko kc kb kd kh gr gt gk kn 0 ko2 sz ∧ mx_R (ab_new a r tt true 0) ko kc kb kd kh kn ko2) := by
  refine jw_ofi (cc := b_M_delete) (nL := 3) (ret := (some .int)) (by decide) rfl (Nat.le_of_ble_eq_true rfl) (fun p e s m args below meth c A F hnm => ?_)
  refine jw_at (lv' := [(0, .ref (am 0)), (1, .int (nI r)), (2, .int tt)]) (st' := []) (ws' := wM am cB cI cL go gc gb gd gh gr gt gk gn er op sz) rfl rfl rfl ?_
  obtain ⟨hI, hA, hV⟩ := hQ
  have hn := hI.1
  refine jw_aload_n (pc := 0) F 0 d_M_delete_0 rfl rfl ?_
  refine jw_iconst (pc := 1) (v := 0) F d_M_delete_1 (by decide) ?_
  refine jw_put (pc := 2) (v := .int 0) (ty := .int) (ws' := wM am cB cI cL go gc gb gd gh gr gt gk gn 0 op sz) F (jms inM) tM tM_ok nmM 0 rfl rfl 0 (by decide) (jm w_342) rfl (by decide +kernel) rfl rfl (Nat.le_of_ble_eq_true rfl) d_M_delete_2 rfl ?_
  refine jw_aload_n (pc := 5) F 0 d_M_delete_5 rfl rfl ?_
  refine jw_iload_n (pc := 6) F 1 d_M_delete_6 rfl rfl ?_
  refine jw_callS_Ei (pc := 7) (As := [.int (nI r)]) (rest := [.ref (am 0)]) F (m_isReplica l D cB cI cL (nI r)) (jw_cwS F.1.2.2.2.2 wl_good w_387 w_388 w_30 w_389 hd_M_isReplica ⟨by decide, by decide⟩) rfl rfl (Nat.le_of_ble_eq_true rfl) d_M_delete_7 ⟨rfl, rfl⟩ ⟨by decide, by decide⟩ ?_
  refine jw_if_ne (pc := 10) F 17 d_M_delete_10 (by decide) (fun hz1 => ?_) (fun hz1 => False.elim (absurd (jb_0.mp hz1) (by rw [m_isrep_nI hr]; decide)))
  refine jw_iconst (pc := 17) (v := 0) F d_M_delete_17 (by decide) ?_
  refine jw_iconst (pc := 18) (v := 1) F d_M_delete_18 (by decide) ?_
  refine jw_callV_Ei (pc := 19) (As := [.int 0, .int 1]) (rest := []) F ([]) ([]) (m_failsF l D am cB cI cL go gc gb gd gh gr gt gk gn op sz false rfl 1) (jw_cwV F.1.2.2.2.2 wl_good w_394 w_396 w_17 w_30 w_397 hd_M_fails ⟨by decide, by decide⟩) 0 1 rfl rfl rfl (by simp) rfl rfl (Nat.le_of_ble_eq_true rfl) d_M_delete_19 ⟨rfl, rfl⟩ ⟨by decide, by decide⟩ ?_
  refine jw_if_ne (pc := 22) F 70 d_M_delete_22 (by decide) (fun hz2 => False.elim (hz2 rfl)) (fun hz2 => ?_)
  refine jw_aload_n (pc := 25) F 0 d_M_delete_25 rfl rfl ?_
  refine jw_aload_n (pc := 26) F 0 d_M_delete_26 rfl rfl ?_
  refine jw_get (pc := 27) F (jms inM) 0 rfl rfl 1 (by decide) (jm w_343) rfl d_M_delete_27 ?_
  refine jw_sipush (pc := 30) (v := 160) F d_M_delete_30 (by decide) ?_
  refine jw_icmp_ne (pc := 33) F 40 d_M_delete_33 (by decide) (fun hz3 => ?_) (fun hz3 => False.elim (absurd (hz3) (by rw [hA.1]; exact fun q => absurd (ab_nI_inj (by omega) (by omega) (q.trans (show (160 : Int32) = nI 160 by decide))) (by omega))))
  refine jw_iconst (pc := 40) (v := 0) F d_M_delete_40 (by decide) ?_
  refine jw_iconst (pc := 41) (v := 2) F d_M_delete_41 (by decide) ?_
  refine jw_callV_Ei (pc := 42) (As := [.int 0, .int 2]) (rest := []) F ([]) ([]) (m_failsF l D am cB cI cL go gc gb gd gh gr gt gk gn op sz false rfl 2) (jw_cwV F.1.2.2.2.2 wl_good w_394 w_396 w_17 w_30 w_397 hd_M_fails ⟨by decide, by decide⟩) 0 1 rfl rfl rfl (by simp) rfl rfl (Nat.le_of_ble_eq_true rfl) d_M_delete_42 ⟨rfl, rfl⟩ ⟨by decide, by decide⟩ ?_
  refine jw_if_ne (pc := 45) F 70 d_M_delete_45 (by decide) (fun hz4 => False.elim (hz4 rfl)) (fun hz4 => ?_)
  refine jw_aload_n (pc := 48) F 0 d_M_delete_48 rfl rfl ?_
  refine jw_aload_n (pc := 49) F 0 d_M_delete_49 rfl rfl ?_
  refine jw_iload_n (pc := 50) F 1 d_M_delete_50 rfl rfl ?_
  refine jw_iload_n (pc := 51) F 2 d_M_delete_51 rfl rfl ?_
  refine jw_callV_Ei (pc := 52) (As := [.int (nI r), .int tt]) (rest := [.ref (am 0)]) F ([]) ([]) (m_hasElement l D am cB cI cL go gc gb gd gh gr gt gk gn 0 op sz a hI hA r hr tt) (jw_cwV F.1.2.2.2.2 wl_good w_398 w_400 w_18 w_30 w_401 hd_M_hasElement ⟨by decide, by decide⟩) 0 1 rfl rfl rfl (by simp) rfl rfl (Nat.le_of_ble_eq_true rfl) d_M_delete_52 ⟨rfl, rfl⟩ ⟨by decide, by decide⟩ ?_
  refine jw_if_ne (pc := 55) F 62 d_M_delete_55 (by decide) (fun hz5 => ?_) (fun hz5 => False.elim (absurd (jb_0.mp hz5) (by rw [hh]; decide)))
  refine jw_iconst (pc := 62) (v := 0) F d_M_delete_62 (by decide) ?_
  refine jw_iconst (pc := 63) (v := 3) F d_M_delete_63 (by decide) ?_
  refine jw_callV_Ei (pc := 64) (As := [.int 0, .int 3]) (rest := []) F ([]) ([]) (m_failsF l D am cB cI cL go gc gb gd gh gr gt gk gn op sz false rfl 3) (jw_cwV F.1.2.2.2.2 wl_good w_394 w_396 w_17 w_30 w_397 hd_M_fails ⟨by decide, by decide⟩) 0 1 rfl rfl rfl (by simp) rfl rfl (Nat.le_of_ble_eq_true rfl) d_M_delete_64 ⟨rfl, rfl⟩ ⟨by decide, by decide⟩ ?_
  refine jw_if_eq (pc := 67) F 72 d_M_delete_67 (by decide) (fun hz6 => ?_) (fun hz6 => False.elim (hz6 rfl))
  refine jw_aload_n (pc := 72) F 0 d_M_delete_72 rfl rfl ?_
  refine jw_iload_n (pc := 73) F 1 d_M_delete_73 rfl rfl ?_
  refine jw_iload_n (pc := 74) F 2 d_M_delete_74 rfl rfl ?_
  refine jw_lconst (pc := 75) (v := 0) F d_M_delete_75 (by decide) ?_
  refine jw_iconst (pc := 76) (v := jb true) F d_M_delete_76 (by decide) ?_
  refine jw_callV_Ci (pc := 77) (As := [.int (nI r), .int tt, .long 0, .int (jb true)]) (rest := []) F (m_made l D am cB cI cL go gc gb gd gh gr gt gk gn 0 op sz a hI hA hV r hr hn1 tt true 0) (jw_cwV F.1.2.2.2.2 wl_good w_410 w_412 w_21 w_30 w_413 hd_M_made ⟨by decide, by decide⟩) 0 1 rfl rfl rfl rfl rfl rfl (Nat.le_of_ble_eq_true rfl) d_M_delete_77 ⟨rfl, rfl⟩ ⟨by decide, by decide⟩ (fun r w hw => ?_)
  obtain ⟨rfl, ko, kc, kb, kd, kh, kn, rfl, hA2, hV2⟩ := hw
  exact jw_iret F d_M_delete_80 ⟨rfl, _, _, _, _, _, _, _, rfl, ab_I_new hI hn1 hr (ab_ok_of hn hh), hA2, hV2⟩
end
section
abbrev rm_M_give : Room := { frames := 3, cells := 0, slots := 0, locals := 68 }
abbrev rm_M_tell : Room := { frames := 2, cells := 0, slots := 0, locals := 45 }
abbrev rm_M_holds : Room := { frames := 2, cells := 0, slots := 0, locals := 46 }
abbrev rm_M_value : Room := { frames := 2, cells := 0, slots := 0, locals := 46 }
abbrev rm_M_stamp : Room := { frames := 2, cells := 0, slots := 0, locals := 46 }
abbrev rm_M_count : Room := { frames := 4, cells := 0, slots := 0, locals := 94 }
set_option maxHeartbeats 4000000 in
set_option maxRecDepth 100000 in
theorem m_give_1 (l : Launch) (D : va_G) (am : Nat → Nat) (cB cI cL : ClassId) (go gc gb gd gh gr gt gk : Nat → Int32) (gn : Nat → Int64) (er op sz : Int32) (a : AS) (hQ : mx_R a go gc gb gd gh gn op) (r : Int32) (hr : a_isrep r = false) (tt : Int32) : jw_Mv l D vCl (vTy cB cI cL) y_M_give s_M_give rm_M_give [.ref (am 0), .int r, .int tt] (wM am cB cI cL go gc gb gd gh gr gt gk gn er op sz) (fun w9 => w9 = wM am cB cI cL go gc gb gd gh gr gt gk gn 1 op sz) := by
  refine jw_ofv (cc := b_M_give) (nL := 3) (ret := none) (by decide) rfl (Nat.le_of_ble_eq_true rfl) (fun p e s m args below meth c A F hnm => ?_)
  refine jw_at (lv' := [(0, .ref (am 0)), (1, .int r), (2, .int tt)]) (st' := []) (ws' := wM am cB cI cL go gc gb gd gh gr gt gk gn er op sz) rfl rfl rfl ?_
  refine jw_aload_n (pc := 0) F 0 d_M_give_0 rfl rfl ?_
  refine jw_iconst (pc := 1) (v := 0) F d_M_give_1 (by decide) ?_
  refine jw_put (pc := 2) (v := .int 0) (ty := .int) (ws' := wM am cB cI cL go gc gb gd gh gr gt gk gn 0 op sz) F (jms inM) tM tM_ok nmM 0 rfl rfl 0 (by decide) (jm w_342) rfl (by decide +kernel) rfl rfl (Nat.le_of_ble_eq_true rfl) d_M_give_2 rfl ?_
  refine jw_aload_n (pc := 5) F 0 d_M_give_5 rfl rfl ?_
  refine jw_iload_n (pc := 6) F 1 d_M_give_6 rfl rfl ?_
  refine jw_callS_Ei (pc := 7) (As := [.int r]) (rest := [.ref (am 0)]) F (m_isReplica l D cB cI cL r) (jw_cwS F.1.2.2.2.2 wl_good w_387 w_388 w_30 w_389 hd_M_isReplica ⟨by decide, by decide⟩) rfl rfl (Nat.le_of_ble_eq_true rfl) d_M_give_7 ⟨rfl, rfl⟩ ⟨by decide, by decide⟩ ?_
  refine jw_if_ne (pc := 10) F 17 d_M_give_10 (by decide) (fun hz1 => False.elim (absurd (jb_n.mp hz1) (by rw [hr]; decide))) (fun hz1 => ?_)
  refine jw_iconst (pc := 13) (v := 1) F d_M_give_13 (by decide) ?_
  refine jw_goto (pc := 14) F 18 d_M_give_14 (by decide) ?_
  refine jw_iconst (pc := 18) (v := 1) F d_M_give_18 (by decide) ?_
  refine jw_callV_Ci (pc := 19) (As := [.int 1, .int 1]) (rest := []) F (m_failsT l D am cB cI cL go gc gb gd gh gr gt gk gn op sz true rfl 1 (by decide)) (jw_cwV F.1.2.2.2.2 wl_good w_394 w_396 w_17 w_30 w_397 hd_M_fails ⟨by decide, by decide⟩) 0 1 rfl rfl rfl rfl rfl rfl (Nat.le_of_ble_eq_true rfl) d_M_give_19 ⟨rfl, rfl⟩ ⟨by decide, by decide⟩ (fun r w hw => ?_)
  obtain ⟨rfl, rfl⟩ := hw
  refine jw_if_ne (pc := 22) F 91 d_M_give_22 (by decide) (fun hz2 => ?_) (fun hz2 => False.elim (absurd hz2 (by decide)))
  exact jw_vret F d_M_give_91 rfl
set_option maxHeartbeats 4000000 in
set_option maxRecDepth 100000 in
theorem m_give_2 (l : Launch) (D : va_G) (am : Nat → Nat) (cB cI cL : ClassId) (go gc gb gd gh gr gt gk : Nat → Int32) (gn : Nat → Int64) (er op sz : Int32) (a : AS) (hQ : mx_R a go gc gb gd gh gn op) (r : Nat) (hr : r < 4) (tt : Int32) (ht : a_isop (a_n a) tt = false) : jw_Mv l D vCl (vTy cB cI cL) y_M_give s_M_give rm_M_give [.ref (am 0), .int (nI r), .int tt] (wM am cB cI cL go gc gb gd gh gr gt gk gn er op sz) (fun w9 => w9 = wM am cB cI cL go gc gb gd gh gr gt gk gn 2 op sz) := by
  refine jw_ofv (cc := b_M_give) (nL := 3) (ret := none) (by decide) rfl (Nat.le_of_ble_eq_true rfl) (fun p e s m args below meth c A F hnm => ?_)
  refine jw_at (lv' := [(0, .ref (am 0)), (1, .int (nI r)), (2, .int tt)]) (st' := []) (ws' := wM am cB cI cL go gc gb gd gh gr gt gk gn er op sz) rfl rfl rfl ?_
  obtain ⟨hI, hA, hV⟩ := hQ
  have hn := hI.1
  refine jw_aload_n (pc := 0) F 0 d_M_give_0 rfl rfl ?_
  refine jw_iconst (pc := 1) (v := 0) F d_M_give_1 (by decide) ?_
  refine jw_put (pc := 2) (v := .int 0) (ty := .int) (ws' := wM am cB cI cL go gc gb gd gh gr gt gk gn 0 op sz) F (jms inM) tM tM_ok nmM 0 rfl rfl 0 (by decide) (jm w_342) rfl (by decide +kernel) rfl rfl (Nat.le_of_ble_eq_true rfl) d_M_give_2 rfl ?_
  refine jw_aload_n (pc := 5) F 0 d_M_give_5 rfl rfl ?_
  refine jw_iload_n (pc := 6) F 1 d_M_give_6 rfl rfl ?_
  refine jw_callS_Ei (pc := 7) (As := [.int (nI r)]) (rest := [.ref (am 0)]) F (m_isReplica l D cB cI cL (nI r)) (jw_cwS F.1.2.2.2.2 wl_good w_387 w_388 w_30 w_389 hd_M_isReplica ⟨by decide, by decide⟩) rfl rfl (Nat.le_of_ble_eq_true rfl) d_M_give_7 ⟨rfl, rfl⟩ ⟨by decide, by decide⟩ ?_
  refine jw_if_ne (pc := 10) F 17 d_M_give_10 (by decide) (fun hz1 => ?_) (fun hz1 => False.elim (absurd (jb_0.mp hz1) (by rw [m_isrep_nI hr]; decide)))
  refine jw_iconst (pc := 17) (v := 0) F d_M_give_17 (by decide) ?_
  refine jw_iconst (pc := 18) (v := 1) F d_M_give_18 (by decide) ?_
  refine jw_callV_Ei (pc := 19) (As := [.int 0, .int 1]) (rest := []) F ([]) ([]) (m_failsF l D am cB cI cL go gc gb gd gh gr gt gk gn op sz false rfl 1) (jw_cwV F.1.2.2.2.2 wl_good w_394 w_396 w_17 w_30 w_397 hd_M_fails ⟨by decide, by decide⟩) 0 1 rfl rfl rfl (by simp) rfl rfl (Nat.le_of_ble_eq_true rfl) d_M_give_19 ⟨rfl, rfl⟩ ⟨by decide, by decide⟩ ?_
  refine jw_if_ne (pc := 22) F 91 d_M_give_22 (by decide) (fun hz2 => False.elim (hz2 rfl)) (fun hz2 => ?_)
  refine jw_aload_n (pc := 25) F 0 d_M_give_25 rfl rfl ?_
  refine jw_aload_n (pc := 26) F 0 d_M_give_26 rfl rfl ?_
  refine jw_iload_n (pc := 27) F 2 d_M_give_27 rfl rfl ?_
  refine jw_callV_Ei (pc := 28) (As := [.int tt]) (rest := [.ref (am 0)]) F ([]) ([]) (m_isThere l D am cB cI cL go gc gb gd gh gr gt gk gn 0 op sz (a_n a) hn hA.1 tt) (jw_cwV F.1.2.2.2.2 wl_good w_402 w_404 w_19 w_30 w_405 hd_M_isThere ⟨by decide, by decide⟩) 0 1 rfl rfl rfl (by simp) rfl rfl (Nat.le_of_ble_eq_true rfl) d_M_give_28 ⟨rfl, rfl⟩ ⟨by decide, by decide⟩ ?_
  refine jw_if_ne (pc := 31) F 38 d_M_give_31 (by decide) (fun hz3 => False.elim (absurd (jb_n.mp hz3) (by rw [ht]; decide))) (fun hz3 => ?_)
  refine jw_iconst (pc := 34) (v := 1) F d_M_give_34 (by decide) ?_
  refine jw_goto (pc := 35) F 39 d_M_give_35 (by decide) ?_
  refine jw_iconst (pc := 39) (v := 2) F d_M_give_39 (by decide) ?_
  refine jw_callV_Ci (pc := 40) (As := [.int 1, .int 2]) (rest := []) F (m_failsT l D am cB cI cL go gc gb gd gh gr gt gk gn op sz true rfl 2 (by decide)) (jw_cwV F.1.2.2.2.2 wl_good w_394 w_396 w_17 w_30 w_397 hd_M_fails ⟨by decide, by decide⟩) 0 1 rfl rfl rfl rfl rfl rfl (Nat.le_of_ble_eq_true rfl) d_M_give_40 ⟨rfl, rfl⟩ ⟨by decide, by decide⟩ (fun r w hw => ?_)
  obtain ⟨rfl, rfl⟩ := hw
  refine jw_if_ne (pc := 43) F 91 d_M_give_43 (by decide) (fun hz4 => ?_) (fun hz4 => False.elim (absurd hz4 (by decide)))
  exact jw_vret F d_M_give_91 rfl
set_option maxHeartbeats 4000000 in
set_option maxRecDepth 100000 in
theorem m_give_3 (l : Launch) (D : va_G) (am : Nat → Nat) (cB cI cL : ClassId) (go gc gb gd gh gr gt gk : Nat → Int32) (gn : Nat → Int64) (er op sz : Int32) (a : AS) (hQ : mx_R a go gc gb gd gh gn op) (r : Nat) (hr : r < 4) (k : Nat) (hk : k < a_n a) (ht : ¬ a_tg a k = -1) (hh : a_haseB a r (a_tg a k) = false) : jw_Mv l D vCl (vTy cB cI cL) y_M_give s_M_give rm_M_give [.ref (am 0), .int (nI r), .int (nI k)] (wM am cB cI cL go gc gb gd gh gr gt gk gn er op sz) (fun w9 => w9 = wM am cB cI cL go gc gb gd gh gr gt gk gn 3 op sz) := by
  refine jw_ofv (cc := b_M_give) (nL := 3) (ret := none) (by decide) rfl (Nat.le_of_ble_eq_true rfl) (fun p e s m args below meth c A F hnm => ?_)
  refine jw_at (lv' := [(0, .ref (am 0)), (1, .int (nI r)), (2, .int (nI k))]) (st' := []) (ws' := wM am cB cI cL go gc gb gd gh gr gt gk gn er op sz) rfl rfl rfl ?_
  obtain ⟨hI, hA, hV⟩ := hQ
  have hn := hI.1
  refine jw_aload_n (pc := 0) F 0 d_M_give_0 rfl rfl ?_
  refine jw_iconst (pc := 1) (v := 0) F d_M_give_1 (by decide) ?_
  refine jw_put (pc := 2) (v := .int 0) (ty := .int) (ws' := wM am cB cI cL go gc gb gd gh gr gt gk gn 0 op sz) F (jms inM) tM tM_ok nmM 0 rfl rfl 0 (by decide) (jm w_342) rfl (by decide +kernel) rfl rfl (Nat.le_of_ble_eq_true rfl) d_M_give_2 rfl ?_
  refine jw_aload_n (pc := 5) F 0 d_M_give_5 rfl rfl ?_
  refine jw_iload_n (pc := 6) F 1 d_M_give_6 rfl rfl ?_
  refine jw_callS_Ei (pc := 7) (As := [.int (nI r)]) (rest := [.ref (am 0)]) F (m_isReplica l D cB cI cL (nI r)) (jw_cwS F.1.2.2.2.2 wl_good w_387 w_388 w_30 w_389 hd_M_isReplica ⟨by decide, by decide⟩) rfl rfl (Nat.le_of_ble_eq_true rfl) d_M_give_7 ⟨rfl, rfl⟩ ⟨by decide, by decide⟩ ?_
  refine jw_if_ne (pc := 10) F 17 d_M_give_10 (by decide) (fun hz1 => ?_) (fun hz1 => False.elim (absurd (jb_0.mp hz1) (by rw [m_isrep_nI hr]; decide)))
  refine jw_iconst (pc := 17) (v := 0) F d_M_give_17 (by decide) ?_
  refine jw_iconst (pc := 18) (v := 1) F d_M_give_18 (by decide) ?_
  refine jw_callV_Ei (pc := 19) (As := [.int 0, .int 1]) (rest := []) F ([]) ([]) (m_failsF l D am cB cI cL go gc gb gd gh gr gt gk gn op sz false rfl 1) (jw_cwV F.1.2.2.2.2 wl_good w_394 w_396 w_17 w_30 w_397 hd_M_fails ⟨by decide, by decide⟩) 0 1 rfl rfl rfl (by simp) rfl rfl (Nat.le_of_ble_eq_true rfl) d_M_give_19 ⟨rfl, rfl⟩ ⟨by decide, by decide⟩ ?_
  refine jw_if_ne (pc := 22) F 91 d_M_give_22 (by decide) (fun hz2 => False.elim (hz2 rfl)) (fun hz2 => ?_)
  refine jw_aload_n (pc := 25) F 0 d_M_give_25 rfl rfl ?_
  refine jw_aload_n (pc := 26) F 0 d_M_give_26 rfl rfl ?_
  refine jw_iload_n (pc := 27) F 2 d_M_give_27 rfl rfl ?_
  refine jw_callV_Ei (pc := 28) (As := [.int (nI k)]) (rest := [.ref (am 0)]) F ([]) ([]) (m_isThere l D am cB cI cL go gc gb gd gh gr gt gk gn 0 op sz (a_n a) hn hA.1 (nI k)) (jw_cwV F.1.2.2.2.2 wl_good w_402 w_404 w_19 w_30 w_405 hd_M_isThere ⟨by decide, by decide⟩) 0 1 rfl rfl rfl (by simp) rfl rfl (Nat.le_of_ble_eq_true rfl) d_M_give_28 ⟨rfl, rfl⟩ ⟨by decide, by decide⟩ ?_
  refine jw_if_ne (pc := 31) F 38 d_M_give_31 (by decide) (fun hz3 => ?_) (fun hz3 => False.elim (absurd (jb_0.mp hz3) (by rw [a_isop_nI (by omega) hk]; decide)))
  refine jw_iconst (pc := 38) (v := 0) F d_M_give_38 (by decide) ?_
  refine jw_iconst (pc := 39) (v := 2) F d_M_give_39 (by decide) ?_
  refine jw_callV_Ei (pc := 40) (As := [.int 0, .int 2]) (rest := []) F ([]) ([]) (m_failsF l D am cB cI cL go gc gb gd gh gr gt gk gn op sz false rfl 2) (jw_cwV F.1.2.2.2.2 wl_good w_394 w_396 w_17 w_30 w_397 hd_M_fails ⟨by decide, by decide⟩) 0 1 rfl rfl rfl (by simp) rfl rfl (Nat.le_of_ble_eq_true rfl) d_M_give_40 ⟨rfl, rfl⟩ ⟨by decide, by decide⟩ ?_
  refine jw_if_ne (pc := 43) F 91 d_M_give_43 (by decide) (fun hz4 => False.elim (hz4 rfl)) (fun hz4 => ?_)
  have hge : 0 ≤ a_tg a k := by rcases hI.2.2.1 k hk with g | ⟨j, hj, g1, -⟩; exact absurd g.1 ht; rw [g1]; exact nI_pos' (by omega)
  refine jw_aload_n (pc := 46) F 0 d_M_give_46 rfl rfl ?_
  refine jw_aload_n (pc := 47) F 0 d_M_give_47 rfl rfl ?_
  refine jw_get (pc := 48) F (jms inM) 0 rfl rfl 2 (by decide) (jm w_344) rfl d_M_give_48 ?_
  refine jw_iload_n (pc := 51) F 2 d_M_give_51 rfl rfl ?_
  refine jw_ialdN (pc := 52) F 1 1 rfl rfl k rfl (by omega) (by decide) d_M_give_52 ?_
  rw [hA.2.1 k hk]
  refine jw_if_ge (pc := 53) F 65 d_M_give_53 (by decide) (fun hz5 => ?_) (fun hz5 => False.elim (hz5 hge))
  refine jw_aload_n (pc := 65) F 0 d_M_give_65 rfl rfl ?_
  refine jw_iload_n (pc := 66) F 1 d_M_give_66 rfl rfl ?_
  refine jw_aload_n (pc := 67) F 0 d_M_give_67 rfl rfl ?_
  refine jw_get (pc := 68) F (jms inM) 0 rfl rfl 2 (by decide) (jm w_344) rfl d_M_give_68 ?_
  refine jw_iload_n (pc := 71) F 2 d_M_give_71 rfl rfl ?_
  refine jw_ialdN (pc := 72) F 1 1 rfl rfl k rfl (by omega) (by decide) d_M_give_72 ?_
  rw [hA.2.1 k hk]
  refine jw_callV_Ei (pc := 73) (As := [.int (nI r), .int (a_tg a k)]) (rest := [.ref (am 0)]) F ([]) ([]) (m_hasElement l D am cB cI cL go gc gb gd gh gr gt gk gn 0 op sz a hI hA r hr (a_tg a k)) (jw_cwV F.1.2.2.2.2 wl_good w_398 w_400 w_18 w_30 w_401 hd_M_hasElement ⟨by decide, by decide⟩) 0 1 rfl rfl rfl (by simp) rfl rfl (Nat.le_of_ble_eq_true rfl) d_M_give_73 ⟨rfl, rfl⟩ ⟨by decide, by decide⟩ ?_
  refine jw_if_ne (pc := 76) F 83 d_M_give_76 (by decide) (fun hz6 => False.elim (absurd (jb_n.mp hz6) (by rw [hh]; decide))) (fun hz6 => ?_)
  refine jw_iconst (pc := 79) (v := 1) F d_M_give_79 (by decide) ?_
  refine jw_goto (pc := 80) F 84 d_M_give_80 (by decide) ?_
  refine jw_iconst (pc := 84) (v := 3) F d_M_give_84 (by decide) ?_
  refine jw_callV_Ci (pc := 85) (As := [.int 1, .int 3]) (rest := []) F (m_failsT l D am cB cI cL go gc gb gd gh gr gt gk gn op sz true rfl 3 (by decide)) (jw_cwV F.1.2.2.2.2 wl_good w_394 w_396 w_17 w_30 w_397 hd_M_fails ⟨by decide, by decide⟩) 0 1 rfl rfl rfl rfl rfl rfl (Nat.le_of_ble_eq_true rfl) d_M_give_85 ⟨rfl, rfl⟩ ⟨by decide, by decide⟩ (fun r w hw => ?_)
  obtain ⟨rfl, rfl⟩ := hw
  refine jw_if_eq (pc := 88) F 92 d_M_give_88 (by decide) (fun hz7 => False.elim (absurd hz7 (by decide))) (fun hz7 => ?_)
  exact jw_vret F d_M_give_91 rfl
set_option maxHeartbeats 4000000 in
set_option maxRecDepth 100000 in
theorem m_give_0 (l : Launch) (D : va_G) (am : Nat → Nat) (cB cI cL : ClassId) (go gc gb gd gh gr gt gk : Nat → Int32) (gn : Nat → Int64) (er op sz : Int32) (a : AS) (hQ : mx_R a go gc gb gd gh gn op) (r : Nat) (hr : r < 4) (k : Nat) (hk : k < a_n a) (ht : a_tg a k = -1 ∨ a_haseB a r (a_tg a k) = true) : jw_Mv l D vCl (vTy cB cI cL) y_M_give s_M_give rm_M_give [.ref (am 0), .int (nI r), .int (nI k)] (wM am cB cI cL go gc gb gd gh gr gt gk gn er op sz) (fun w9 => ∃ (ko kc kb kd kh : Nat → Int32) (kn : Nat → Int64) (ko2 : Int32), w9 = wM am cB cI cL ko kc kb kd kh gr gt gk kn 0 ko2 sz ∧ mx_R (ab_take a r k) ko kc kb kd kh kn ko2) := by
  refine jw_ofv (cc := b_M_give) (nL := 3) (ret := none) (by decide) rfl (Nat.le_of_ble_eq_true rfl) (fun p e s m args below meth c A F hnm => ?_)
  refine jw_at (lv' := [(0, .ref (am 0)), (1, .int (nI r)), (2, .int (nI k))]) (st' := []) (ws' := wM am cB cI cL go gc gb gd gh gr gt gk gn er op sz) rfl rfl rfl ?_
  obtain ⟨hI, hA, hV⟩ := hQ
  have hn := hI.1
  refine jw_aload_n (pc := 0) F 0 d_M_give_0 rfl rfl ?_
  refine jw_iconst (pc := 1) (v := 0) F d_M_give_1 (by decide) ?_
  refine jw_put (pc := 2) (v := .int 0) (ty := .int) (ws' := wM am cB cI cL go gc gb gd gh gr gt gk gn 0 op sz) F (jms inM) tM tM_ok nmM 0 rfl rfl 0 (by decide) (jm w_342) rfl (by decide +kernel) rfl rfl (Nat.le_of_ble_eq_true rfl) d_M_give_2 rfl ?_
  refine jw_aload_n (pc := 5) F 0 d_M_give_5 rfl rfl ?_
  refine jw_iload_n (pc := 6) F 1 d_M_give_6 rfl rfl ?_
  refine jw_callS_Ei (pc := 7) (As := [.int (nI r)]) (rest := [.ref (am 0)]) F (m_isReplica l D cB cI cL (nI r)) (jw_cwS F.1.2.2.2.2 wl_good w_387 w_388 w_30 w_389 hd_M_isReplica ⟨by decide, by decide⟩) rfl rfl (Nat.le_of_ble_eq_true rfl) d_M_give_7 ⟨rfl, rfl⟩ ⟨by decide, by decide⟩ ?_
  refine jw_if_ne (pc := 10) F 17 d_M_give_10 (by decide) (fun hz1 => ?_) (fun hz1 => False.elim (absurd (jb_0.mp hz1) (by rw [m_isrep_nI hr]; decide)))
  refine jw_iconst (pc := 17) (v := 0) F d_M_give_17 (by decide) ?_
  refine jw_iconst (pc := 18) (v := 1) F d_M_give_18 (by decide) ?_
  refine jw_callV_Ei (pc := 19) (As := [.int 0, .int 1]) (rest := []) F ([]) ([]) (m_failsF l D am cB cI cL go gc gb gd gh gr gt gk gn op sz false rfl 1) (jw_cwV F.1.2.2.2.2 wl_good w_394 w_396 w_17 w_30 w_397 hd_M_fails ⟨by decide, by decide⟩) 0 1 rfl rfl rfl (by simp) rfl rfl (Nat.le_of_ble_eq_true rfl) d_M_give_19 ⟨rfl, rfl⟩ ⟨by decide, by decide⟩ ?_
  refine jw_if_ne (pc := 22) F 91 d_M_give_22 (by decide) (fun hz2 => False.elim (hz2 rfl)) (fun hz2 => ?_)
  refine jw_aload_n (pc := 25) F 0 d_M_give_25 rfl rfl ?_
  refine jw_aload_n (pc := 26) F 0 d_M_give_26 rfl rfl ?_
  refine jw_iload_n (pc := 27) F 2 d_M_give_27 rfl rfl ?_
  refine jw_callV_Ei (pc := 28) (As := [.int (nI k)]) (rest := [.ref (am 0)]) F ([]) ([]) (m_isThere l D am cB cI cL go gc gb gd gh gr gt gk gn 0 op sz (a_n a) hn hA.1 (nI k)) (jw_cwV F.1.2.2.2.2 wl_good w_402 w_404 w_19 w_30 w_405 hd_M_isThere ⟨by decide, by decide⟩) 0 1 rfl rfl rfl (by simp) rfl rfl (Nat.le_of_ble_eq_true rfl) d_M_give_28 ⟨rfl, rfl⟩ ⟨by decide, by decide⟩ ?_
  refine jw_if_ne (pc := 31) F 38 d_M_give_31 (by decide) (fun hz3 => ?_) (fun hz3 => False.elim (absurd (jb_0.mp hz3) (by rw [a_isop_nI (by omega) hk]; decide)))
  refine jw_iconst (pc := 38) (v := 0) F d_M_give_38 (by decide) ?_
  refine jw_iconst (pc := 39) (v := 2) F d_M_give_39 (by decide) ?_
  refine jw_callV_Ei (pc := 40) (As := [.int 0, .int 2]) (rest := []) F ([]) ([]) (m_failsF l D am cB cI cL go gc gb gd gh gr gt gk gn op sz false rfl 2) (jw_cwV F.1.2.2.2.2 wl_good w_394 w_396 w_17 w_30 w_397 hd_M_fails ⟨by decide, by decide⟩) 0 1 rfl rfl rfl (by simp) rfl rfl (Nat.le_of_ble_eq_true rfl) d_M_give_40 ⟨rfl, rfl⟩ ⟨by decide, by decide⟩ ?_
  refine jw_if_ne (pc := 43) F 91 d_M_give_43 (by decide) (fun hz4 => False.elim (hz4 rfl)) (fun hz4 => ?_)
  refine jw_aload_n (pc := 46) F 0 d_M_give_46 rfl rfl ?_
  refine jw_aload_n (pc := 47) F 0 d_M_give_47 rfl rfl ?_
  refine jw_get (pc := 48) F (jms inM) 0 rfl rfl 2 (by decide) (jm w_344) rfl d_M_give_48 ?_
  refine jw_iload_n (pc := 51) F 2 d_M_give_51 rfl rfl ?_
  refine jw_ialdN (pc := 52) F 1 1 rfl rfl k rfl (by omega) (by decide) d_M_give_52 ?_
  rw [hA.2.1 k hk]
  by_cases h1 : a_tg a k = -1
  · have hI2 : ab_I (ab_take a r k) := ab_I_take hI hk (fun j hj q => absurd (q.symm.trans h1) (ab_nI_m1 (by omega)))
    have hd : a_dl a k = false := by rcases hI.2.2.1 k hk with g | ⟨j, hj, g1, -⟩; exact g.2; exact absurd (g1.symm.trans h1) (ab_nI_m1 (by omega))
    refine jw_if_ge (pc := 53) F 65 d_M_give_53 (by decide) (fun hz5 => False.elim (absurd hz5 (by rw [h1]; decide))) (fun hz5 => ?_)
    refine jw_aload_n (pc := 56) F 0 d_M_give_56 rfl rfl ?_
    refine jw_get (pc := 57) F (jms inM) 0 rfl rfl 6 (by decide) (jm w_348) rfl d_M_give_57 ?_
    refine jw_iload_n (pc := 60) F 2 d_M_give_60 rfl rfl ?_
    refine jw_zaldN (pc := 61) F 5 0 rfl rfl k rfl (by omega) (by decide) d_M_give_61 ?_
    rw [hA.2.2.2.2.1 k hk]
    refine jw_if_eq (pc := 62) F 83 d_M_give_62 (by decide) (fun hz6 => ?_) (fun hz6 => False.elim (absurd (jb_n.mp hz6) (by rw [hd]; decide)))
    refine jw_iconst (pc := 83) (v := 0) F d_M_give_83 (by decide) ?_
    refine jw_iconst (pc := 84) (v := 3) F d_M_give_84 (by decide) ?_
    refine jw_callV_Ei (pc := 85) (As := [.int 0, .int 3]) (rest := []) F ([]) ([]) (m_failsF l D am cB cI cL go gc gb gd gh gr gt gk gn op sz false rfl 3) (jw_cwV F.1.2.2.2.2 wl_good w_394 w_396 w_17 w_30 w_397 hd_M_fails ⟨by decide, by decide⟩) 0 1 rfl rfl rfl (by simp) rfl rfl (Nat.le_of_ble_eq_true rfl) d_M_give_85 ⟨rfl, rfl⟩ ⟨by decide, by decide⟩ ?_
    refine jw_if_eq (pc := 88) F 92 d_M_give_88 (by decide) (fun hz7 => ?_) (fun hz7 => False.elim (hz7 rfl))
    refine jw_aload_n (pc := 92) F 0 d_M_give_92 rfl rfl ?_
    refine jw_get (pc := 93) F (jms inM) 0 rfl rfl 7 (by decide) (jm w_349) rfl d_M_give_93 ?_
    refine jw_sipush (pc := 96) (v := nI 160) F d_M_give_96 (by decide) ?_
    refine jw_iload_n (pc := 99) F 1 d_M_give_99 rfl rfl ?_
    refine jw_imul (pc := 100) F d_M_give_100 ?_
    rw [pk_mul]
    refine jw_iload_n (pc := 101) F 2 d_M_give_101 rfl rfl ?_
    refine jw_iadd (pc := 102) F d_M_give_102 ?_
    rw [nI_add]
    refine jw_iconst (pc := 103) (v := 1) F d_M_give_103 (by decide) ?_
    refine jw_zastN (pc := 104) (ws' := wM am cB cI cL go gc gb gd (upd gh (160 * r + k) (vp_nar .boolean 1)) gr gt gk gn 0 op sz) F 6 0 rfl rfl (160 * r + k) rfl (by omega) (by decide) d_M_give_104 rfl ?_
    rw [show vp_nar .boolean 1 = 1 by decide]
    exact jw_vret F d_M_give_105 ⟨_, _, _, _, _, _, _, rfl, hI2, mx_take hn hk hA, hV⟩
  · have ht2 : a_haseB a r (a_tg a k) = true := ht.resolve_left h1
    have hge : 0 ≤ a_tg a k := by rcases hI.2.2.1 k hk with g | ⟨j, hj, g1, -⟩; exact absurd g.1 h1; rw [g1]; exact nI_pos' (by omega)
    have hI2 : ab_I (ab_take a r k) := ab_I_take hI hk (fun j hj q => by rw [q] at ht2; rw [a_haseB_nI hn (by omega)] at ht2; simp only [Bool.and_eq_true] at ht2; exact ht2.2)
    refine jw_if_ge (pc := 53) F 65 d_M_give_53 (by decide) (fun hz8 => ?_) (fun hz8 => False.elim (hz8 hge))
    refine jw_aload_n (pc := 65) F 0 d_M_give_65 rfl rfl ?_
    refine jw_iload_n (pc := 66) F 1 d_M_give_66 rfl rfl ?_
    refine jw_aload_n (pc := 67) F 0 d_M_give_67 rfl rfl ?_
    refine jw_get (pc := 68) F (jms inM) 0 rfl rfl 2 (by decide) (jm w_344) rfl d_M_give_68 ?_
    refine jw_iload_n (pc := 71) F 2 d_M_give_71 rfl rfl ?_
    refine jw_ialdN (pc := 72) F 1 1 rfl rfl k rfl (by omega) (by decide) d_M_give_72 ?_
    rw [hA.2.1 k hk]
    refine jw_callV_Ei (pc := 73) (As := [.int (nI r), .int (a_tg a k)]) (rest := [.ref (am 0)]) F ([]) ([]) (m_hasElement l D am cB cI cL go gc gb gd gh gr gt gk gn 0 op sz a hI hA r hr (a_tg a k)) (jw_cwV F.1.2.2.2.2 wl_good w_398 w_400 w_18 w_30 w_401 hd_M_hasElement ⟨by decide, by decide⟩) 0 1 rfl rfl rfl (by simp) rfl rfl (Nat.le_of_ble_eq_true rfl) d_M_give_73 ⟨rfl, rfl⟩ ⟨by decide, by decide⟩ ?_
    refine jw_if_ne (pc := 76) F 83 d_M_give_76 (by decide) (fun hz9 => ?_) (fun hz9 => False.elim (absurd (jb_0.mp hz9) (by rw [ht2]; decide)))
    refine jw_iconst (pc := 83) (v := 0) F d_M_give_83 (by decide) ?_
    refine jw_iconst (pc := 84) (v := 3) F d_M_give_84 (by decide) ?_
    refine jw_callV_Ei (pc := 85) (As := [.int 0, .int 3]) (rest := []) F ([]) ([]) (m_failsF l D am cB cI cL go gc gb gd gh gr gt gk gn op sz false rfl 3) (jw_cwV F.1.2.2.2.2 wl_good w_394 w_396 w_17 w_30 w_397 hd_M_fails ⟨by decide, by decide⟩) 0 1 rfl rfl rfl (by simp) rfl rfl (Nat.le_of_ble_eq_true rfl) d_M_give_85 ⟨rfl, rfl⟩ ⟨by decide, by decide⟩ ?_
    refine jw_if_eq (pc := 88) F 92 d_M_give_88 (by decide) (fun hz10 => ?_) (fun hz10 => False.elim (hz10 rfl))
    refine jw_aload_n (pc := 92) F 0 d_M_give_92 rfl rfl ?_
    refine jw_get (pc := 93) F (jms inM) 0 rfl rfl 7 (by decide) (jm w_349) rfl d_M_give_93 ?_
    refine jw_sipush (pc := 96) (v := nI 160) F d_M_give_96 (by decide) ?_
    refine jw_iload_n (pc := 99) F 1 d_M_give_99 rfl rfl ?_
    refine jw_imul (pc := 100) F d_M_give_100 ?_
    rw [pk_mul]
    refine jw_iload_n (pc := 101) F 2 d_M_give_101 rfl rfl ?_
    refine jw_iadd (pc := 102) F d_M_give_102 ?_
    rw [nI_add]
    refine jw_iconst (pc := 103) (v := 1) F d_M_give_103 (by decide) ?_
    refine jw_zastN (pc := 104) (ws' := wM am cB cI cL go gc gb gd (upd gh (160 * r + k) (vp_nar .boolean 1)) gr gt gk gn 0 op sz) F 6 0 rfl rfl (160 * r + k) rfl (by omega) (by decide) d_M_give_104 rfl ?_
    rw [show vp_nar .boolean 1 = 1 by decide]
    exact jw_vret F d_M_give_105 ⟨_, _, _, _, _, _, _, rfl, hI2, mx_take hn hk hA, hV⟩
set_option maxHeartbeats 4000000 in
set_option maxRecDepth 100000 in
theorem m_tell_1 (l : Launch) (D : va_G) (am : Nat → Nat) (cB cI cL : ClassId) (go gc gb gd gh gr gt gk : Nat → Int32) (gn : Nat → Int64) (er op sz : Int32) (a : AS) (hQ : mx_R a go gc gb gd gh gn op) (r : Int32) (hr : a_isrep r = false) (tt : Int32) : jw_Mi l D vCl (vTy cB cI cL) y_M_tell s_M_tell rm_M_tell [.ref (am 0), .int r, .int tt] (wM am cB cI cL go gc gb gd gh gr gt gk gn er op sz) (fun r9 w9 => r9 = 0 ∧ w9 = wM am cB cI cL go gc gb gd gh gr gt gk gn 1 op sz) := by
  refine jw_ofi (cc := b_M_tell) (nL := 5) (ret := (some .int)) (by decide) rfl (Nat.le_of_ble_eq_true rfl) (fun p e s m args below meth c A F hnm => ?_)
  refine jw_at (lv' := [(0, .ref (am 0)), (1, .int r), (2, .int tt)]) (st' := []) (ws' := wM am cB cI cL go gc gb gd gh gr gt gk gn er op sz) rfl rfl rfl ?_
  refine jw_aload_n (pc := 0) F 0 d_M_tell_0 rfl rfl ?_
  refine jw_iconst (pc := 1) (v := 0) F d_M_tell_1 (by decide) ?_
  refine jw_put (pc := 2) (v := .int 0) (ty := .int) (ws' := wM am cB cI cL go gc gb gd gh gr gt gk gn 0 op sz) F (jms inM) tM tM_ok nmM 0 rfl rfl 0 (by decide) (jm w_342) rfl (by decide +kernel) rfl rfl (Nat.le_of_ble_eq_true rfl) d_M_tell_2 rfl ?_
  refine jw_aload_n (pc := 5) F 0 d_M_tell_5 rfl rfl ?_
  refine jw_iload_n (pc := 6) F 1 d_M_tell_6 rfl rfl ?_
  refine jw_callS_Ei (pc := 7) (As := [.int r]) (rest := [.ref (am 0)]) F (m_isReplica l D cB cI cL r) (jw_cwS F.1.2.2.2.2 wl_good w_387 w_388 w_30 w_389 hd_M_isReplica ⟨by decide, by decide⟩) rfl rfl (Nat.le_of_ble_eq_true rfl) d_M_tell_7 ⟨rfl, rfl⟩ ⟨by decide, by decide⟩ ?_
  refine jw_if_eq (pc := 10) F 20 d_M_tell_10 (by decide) (fun hz1 => ?_) (fun hz1 => False.elim (absurd (jb_n.mp hz1) (by rw [hr]; decide)))
  refine jw_iconst (pc := 20) (v := 1) F d_M_tell_20 (by decide) ?_
  refine jw_goto (pc := 21) F 25 d_M_tell_21 (by decide) ?_
  refine jw_iconst (pc := 25) (v := 1) F d_M_tell_25 (by decide) ?_
  refine jw_callV_Ci (pc := 26) (As := [.int 1, .int 1]) (rest := []) F (m_failsT l D am cB cI cL go gc gb gd gh gr gt gk gn op sz true rfl 1 (by decide)) (jw_cwV F.1.2.2.2.2 wl_good w_394 w_396 w_17 w_30 w_397 hd_M_fails ⟨by decide, by decide⟩) 0 1 rfl rfl rfl rfl rfl rfl (Nat.le_of_ble_eq_true rfl) d_M_tell_26 ⟨rfl, rfl⟩ ⟨by decide, by decide⟩ (fun r w hw => ?_)
  obtain ⟨rfl, rfl⟩ := hw
  refine jw_if_eq (pc := 29) F 34 d_M_tell_29 (by decide) (fun hz2 => False.elim (absurd hz2 (by decide))) (fun hz2 => ?_)
  refine jw_iconst (pc := 32) (v := 0) F d_M_tell_32 (by decide) ?_
  exact jw_iret F d_M_tell_33 ⟨rfl, rfl⟩
set_option maxHeartbeats 4000000 in
set_option maxRecDepth 100000 in
theorem m_tell_2 (l : Launch) (D : va_G) (am : Nat → Nat) (cB cI cL : ClassId) (go gc gb gd gh gr gt gk : Nat → Int32) (gn : Nat → Int64) (er op sz : Int32) (a : AS) (hQ : mx_R a go gc gb gd gh gn op) (r : Nat) (hr : r < 4) (tt : Int32) (ht : a_isrep tt = false) : jw_Mi l D vCl (vTy cB cI cL) y_M_tell s_M_tell rm_M_tell [.ref (am 0), .int (nI r), .int tt] (wM am cB cI cL go gc gb gd gh gr gt gk gn er op sz) (fun r9 w9 => r9 = 0 ∧ w9 = wM am cB cI cL go gc gb gd gh gr gt gk gn 1 op sz) := by
  refine jw_ofi (cc := b_M_tell) (nL := 5) (ret := (some .int)) (by decide) rfl (Nat.le_of_ble_eq_true rfl) (fun p e s m args below meth c A F hnm => ?_)
  refine jw_at (lv' := [(0, .ref (am 0)), (1, .int (nI r)), (2, .int tt)]) (st' := []) (ws' := wM am cB cI cL go gc gb gd gh gr gt gk gn er op sz) rfl rfl rfl ?_
  refine jw_aload_n (pc := 0) F 0 d_M_tell_0 rfl rfl ?_
  refine jw_iconst (pc := 1) (v := 0) F d_M_tell_1 (by decide) ?_
  refine jw_put (pc := 2) (v := .int 0) (ty := .int) (ws' := wM am cB cI cL go gc gb gd gh gr gt gk gn 0 op sz) F (jms inM) tM tM_ok nmM 0 rfl rfl 0 (by decide) (jm w_342) rfl (by decide +kernel) rfl rfl (Nat.le_of_ble_eq_true rfl) d_M_tell_2 rfl ?_
  refine jw_aload_n (pc := 5) F 0 d_M_tell_5 rfl rfl ?_
  refine jw_iload_n (pc := 6) F 1 d_M_tell_6 rfl rfl ?_
  refine jw_callS_Ei (pc := 7) (As := [.int (nI r)]) (rest := [.ref (am 0)]) F (m_isReplica l D cB cI cL (nI r)) (jw_cwS F.1.2.2.2.2 wl_good w_387 w_388 w_30 w_389 hd_M_isReplica ⟨by decide, by decide⟩) rfl rfl (Nat.le_of_ble_eq_true rfl) d_M_tell_7 ⟨rfl, rfl⟩ ⟨by decide, by decide⟩ ?_
  refine jw_if_eq (pc := 10) F 20 d_M_tell_10 (by decide) (fun hz1 => False.elim (absurd (jb_0.mp hz1) (by rw [m_isrep_nI hr]; decide))) (fun hz1 => ?_)
  refine jw_iload_n (pc := 13) F 2 d_M_tell_13 rfl rfl ?_
  refine jw_callS_Ei (pc := 14) (As := [.int tt]) (rest := [.ref (am 0)]) F (m_isReplica l D cB cI cL tt) (jw_cwS F.1.2.2.2.2 wl_good w_387 w_388 w_30 w_389 hd_M_isReplica ⟨by decide, by decide⟩) rfl rfl (Nat.le_of_ble_eq_true rfl) d_M_tell_14 ⟨rfl, rfl⟩ ⟨by decide, by decide⟩ ?_
  refine jw_if_ne (pc := 17) F 24 d_M_tell_17 (by decide) (fun hz2 => False.elim (absurd (jb_n.mp hz2) (by rw [ht]; decide))) (fun hz2 => ?_)
  refine jw_iconst (pc := 20) (v := 1) F d_M_tell_20 (by decide) ?_
  refine jw_goto (pc := 21) F 25 d_M_tell_21 (by decide) ?_
  refine jw_iconst (pc := 25) (v := 1) F d_M_tell_25 (by decide) ?_
  refine jw_callV_Ci (pc := 26) (As := [.int 1, .int 1]) (rest := []) F (m_failsT l D am cB cI cL go gc gb gd gh gr gt gk gn op sz true rfl 1 (by decide)) (jw_cwV F.1.2.2.2.2 wl_good w_394 w_396 w_17 w_30 w_397 hd_M_fails ⟨by decide, by decide⟩) 0 1 rfl rfl rfl rfl rfl rfl (Nat.le_of_ble_eq_true rfl) d_M_tell_26 ⟨rfl, rfl⟩ ⟨by decide, by decide⟩ (fun r w hw => ?_)
  obtain ⟨rfl, rfl⟩ := hw
  refine jw_if_eq (pc := 29) F 34 d_M_tell_29 (by decide) (fun hz3 => False.elim (absurd hz3 (by decide))) (fun hz3 => ?_)
  refine jw_iconst (pc := 32) (v := 0) F d_M_tell_32 (by decide) ?_
  exact jw_iret F d_M_tell_33 ⟨rfl, rfl⟩
set_option maxHeartbeats 4000000 in
set_option maxRecDepth 100000 in
theorem m_tell_0 (l : Launch) (D : va_G) (am : Nat → Nat) (cB cI cL : ClassId) (go gc gb gd gh gr gt gk : Nat → Int32) (gn : Nat → Int64) (er op sz : Int32) (a : AS) (hQ : mx_R a go gc gb gd gh gn op) (r s9 : Nat) (hr : r < 4) (hs9 : s9 < 4) : jw_Mi l D vCl (vTy cB cI cL) y_M_tell s_M_tell rm_M_tell [.ref (am 0), .int (nI r), .int (nI s9)] (wM am cB cI cL go gc gb gd gh gr gt gk gn er op sz) (fun r9 w9 => r9 = nI (ab_tell a r s9 (a_n a)).2 ∧ ∃ (ko kc kb kd kh : Nat → Int32) (kn : Nat → Int64) (ko2 : Int32), w9 = wM am cB cI cL ko kc kb kd kh gr gt gk kn 0 ko2 sz ∧ mx_R ((ab_tell a r s9 (a_n a)).1) ko kc kb kd kh kn ko2) := by
  refine jw_ofi (cc := b_M_tell) (nL := 5) (ret := (some .int)) (by decide) rfl (Nat.le_of_ble_eq_true rfl) (fun p e s m args below meth c A F hnm => ?_)
  refine jw_at (lv' := [(0, .ref (am 0)), (1, .int (nI r)), (2, .int (nI s9))]) (st' := []) (ws' := wM am cB cI cL go gc gb gd gh gr gt gk gn er op sz) rfl rfl rfl ?_
  obtain ⟨hI, hA, hV⟩ := hQ
  have hn := hI.1
  have hop := hA.1
  subst hop
  refine jw_aload_n (pc := 0) F 0 d_M_tell_0 rfl rfl ?_
  refine jw_iconst (pc := 1) (v := 0) F d_M_tell_1 (by decide) ?_
  refine jw_put (pc := 2) (v := .int 0) (ty := .int) (ws' := wM am cB cI cL go gc gb gd gh gr gt gk gn 0 (nI (a_n a)) sz) F (jms inM) tM tM_ok nmM 0 rfl rfl 0 (by decide) (jm w_342) rfl (by decide +kernel) rfl rfl (Nat.le_of_ble_eq_true rfl) d_M_tell_2 rfl ?_
  refine jw_aload_n (pc := 5) F 0 d_M_tell_5 rfl rfl ?_
  refine jw_iload_n (pc := 6) F 1 d_M_tell_6 rfl rfl ?_
  refine jw_callS_Ei (pc := 7) (As := [.int (nI r)]) (rest := [.ref (am 0)]) F (m_isReplica l D cB cI cL (nI r)) (jw_cwS F.1.2.2.2.2 wl_good w_387 w_388 w_30 w_389 hd_M_isReplica ⟨by decide, by decide⟩) rfl rfl (Nat.le_of_ble_eq_true rfl) d_M_tell_7 ⟨rfl, rfl⟩ ⟨by decide, by decide⟩ ?_
  refine jw_if_eq (pc := 10) F 20 d_M_tell_10 (by decide) (fun hz1 => False.elim (absurd (jb_0.mp hz1) (by rw [m_isrep_nI hr]; decide))) (fun hz1 => ?_)
  refine jw_iload_n (pc := 13) F 2 d_M_tell_13 rfl rfl ?_
  refine jw_callS_Ei (pc := 14) (As := [.int (nI s9)]) (rest := [.ref (am 0)]) F (m_isReplica l D cB cI cL (nI s9)) (jw_cwS F.1.2.2.2.2 wl_good w_387 w_388 w_30 w_389 hd_M_isReplica ⟨by decide, by decide⟩) rfl rfl (Nat.le_of_ble_eq_true rfl) d_M_tell_14 ⟨rfl, rfl⟩ ⟨by decide, by decide⟩ ?_
  refine jw_if_ne (pc := 17) F 24 d_M_tell_17 (by decide) (fun hz2 => ?_) (fun hz2 => False.elim (absurd (jb_0.mp hz2) (by rw [m_isrep_nI hs9]; decide)))
  refine jw_iconst (pc := 24) (v := 0) F d_M_tell_24 (by decide) ?_
  refine jw_iconst (pc := 25) (v := 1) F d_M_tell_25 (by decide) ?_
  refine jw_callV_Ei (pc := 26) (As := [.int 0, .int 1]) (rest := []) F ([]) ([]) (m_failsF l D am cB cI cL go gc gb gd gh gr gt gk gn (nI (a_n a)) sz false rfl 1) (jw_cwV F.1.2.2.2.2 wl_good w_394 w_396 w_17 w_30 w_397 hd_M_fails ⟨by decide, by decide⟩) 0 1 rfl rfl rfl (by simp) rfl rfl (Nat.le_of_ble_eq_true rfl) d_M_tell_26 ⟨rfl, rfl⟩ ⟨by decide, by decide⟩ ?_
  refine jw_if_eq (pc := 29) F 34 d_M_tell_29 (by decide) (fun hz3 => ?_) (fun hz3 => False.elim (hz3 rfl))
  have loop : ∀ (u i : Nat) (h : Nat → Int32), i + u = a_n a → mx_A (ab_tell a r s9 i).1 go gc gb gd h (nI (a_n a)) → jw_J p l e rm_M_tell s m args below meth c D vCl A 5 (MQ below (va_Qi (fun r9 w9 => r9 = nI (ab_tell a r s9 (a_n a)).2 ∧ ∃ (ko kc kb kd kh : Nat → Int32) (kn : Nat → Int64) (ko2 : Int32), w9 = wM am cB cI cL ko kc kb kd kh gr gt gk kn 0 ko2 sz ∧ mx_R ((ab_tell a r s9 (a_n a)).1) ko kc kb kd kh kn ko2) (jw_B D vCl (vTy cB cI cL) A) A) args s rm_M_tell.cells rm_M_tell.slots A) 0 0 39 [(0, .ref (am 0)), (1, .int (nI r)), (2, .int (nI s9)), (3, .int (nI (ab_tell a r s9 i).2)), (4, .int (nI i))] [] (wM am cB cI cL go gc gb gd h gr gt gk gn 0 (nI (a_n a)) sz) := by
    intro u
    induction u with
    | zero =>
      intro i h hi hA9
      obtain rfl : i = a_n a := hi
      refine jw_iload (pc := 39) F 4 d_M_tell_39 rfl ?_
      refine jw_aload_n (pc := 41) F 0 d_M_tell_41 rfl rfl ?_
      refine jw_get (pc := 42) F (jms inM) 0 rfl rfl 1 (by decide) (jm w_343) rfl d_M_tell_42 ?_
      refine jw_icmp_ge (pc := 45) F 94 d_M_tell_45 (by decide) (fun hz4 => ?_) (fun hz4 => False.elim (hz4 (nI_le (Nat.le_refl _) (by omega))))
      refine jw_iload_n (pc := 94) F 3 d_M_tell_94 rfl rfl ?_
      exact jw_iret F d_M_tell_95 ⟨rfl, _, _, _, _, _, _, _, rfl, ab_tell_I hI (Nat.le_refl _), hA9, ab_tell_V hV⟩
    | succ u ih =>
      intro i h hi hA9
      have hI9 : ab_I (ab_tell a r s9 i).1 := ab_tell_I hI (by omega)
      have hn9 := (ab_tell_n (a := a) (r := r) (s := s9) (i := i)).1
      refine jw_iload (pc := 39) F 4 d_M_tell_39 rfl ?_
      refine jw_aload_n (pc := 41) F 0 d_M_tell_41 rfl rfl ?_
      refine jw_get (pc := 42) F (jms inM) 0 rfl rfl 1 (by decide) (jm w_343) rfl d_M_tell_42 ?_
      refine jw_icmp_ge (pc := 45) F 94 d_M_tell_45 (by decide) (fun hz5 => False.elim (nI_ge (show i < a_n a by omega) (by omega) hz5)) (fun hz5 => ?_)
      refine jw_aload_n (pc := 48) F 0 d_M_tell_48 rfl rfl ?_
      refine jw_iload_n (pc := 49) F 2 d_M_tell_49 rfl rfl ?_
      refine jw_iload (pc := 50) F 4 d_M_tell_50 rfl ?_
      refine jw_callV_Ei (pc := 52) (As := [.int (nI s9), .int (nI i)]) (rest := []) F ([]) ([]) (m_has l D am cB cI cL go gc gb gd h gr gt gk gn 0 (nI (a_n a)) sz (ab_tell a r s9 i).1 hI9 hA9 s9 i hs9 (by omega)) (jw_cwV F.1.2.2.2.2 wl_good w_406 w_408 w_20 w_30 w_409 hd_M_has ⟨by decide, by decide⟩) 0 1 rfl rfl rfl (by simp) rfl rfl (Nat.le_of_ble_eq_true rfl) d_M_tell_52 ⟨rfl, rfl⟩ ⟨by decide, by decide⟩ ?_
      refine jw_if_eq (pc := 55) F 88 d_M_tell_55 (by decide) (fun h1 => ?_) (fun h1 => ?_)
      · refine jw_iinc (pc := 88) (v := nI (i + 1)) (lv' := [(0, .ref (am 0)), (1, .int (nI r)), (2, .int (nI s9)), (3, .int (nI (ab_tell a r s9 i).2)), (4, .int (nI (i + 1)))]) F 4 d_M_tell_88 rfl (jw_inc _) (by decide) rfl ?_
        refine jw_goto (pc := 91) F 39 d_M_tell_91 (by decide) ?_
        have hc : ¬ (a_hd (ab_tell a r s9 i).1 s9 i && !a_hd (ab_tell a r s9 i).1 r i) = true := by rw [jb_0.mp h1]; simp
        have he : ab_tell a r s9 (i + 1) = ab_tell a r s9 i := by show (if _ then _ else _) = _; rw [if_neg hc]
        have q := ih (i + 1) h (by omega) (by rw [he]; exact hA9)
        rw [he] at q
        exact q
      · refine jw_aload_n (pc := 58) F 0 d_M_tell_58 rfl rfl ?_
        refine jw_iload_n (pc := 59) F 1 d_M_tell_59 rfl rfl ?_
        refine jw_iload (pc := 60) F 4 d_M_tell_60 rfl ?_
        refine jw_callV_Ei (pc := 62) (As := [.int (nI r), .int (nI i)]) (rest := []) F ([]) ([]) (m_has l D am cB cI cL go gc gb gd h gr gt gk gn 0 (nI (a_n a)) sz (ab_tell a r s9 i).1 hI9 hA9 r i hr (by omega)) (jw_cwV F.1.2.2.2.2 wl_good w_406 w_408 w_20 w_30 w_409 hd_M_has ⟨by decide, by decide⟩) 0 1 rfl rfl rfl (by simp) rfl rfl (Nat.le_of_ble_eq_true rfl) d_M_tell_62 ⟨rfl, rfl⟩ ⟨by decide, by decide⟩ ?_
        refine jw_if_eq (pc := 65) F 71 d_M_tell_65 (by decide) (fun h2 => ?_) (fun h2 => ?_)
        · refine jw_aload_n (pc := 71) F 0 d_M_tell_71 rfl rfl ?_
          refine jw_get (pc := 72) F (jms inM) 0 rfl rfl 7 (by decide) (jm w_349) rfl d_M_tell_72 ?_
          refine jw_sipush (pc := 75) (v := nI 160) F d_M_tell_75 (by decide) ?_
          refine jw_iload_n (pc := 78) F 1 d_M_tell_78 rfl rfl ?_
          refine jw_imul (pc := 79) F d_M_tell_79 ?_
          rw [pk_mul]
          refine jw_iload (pc := 80) F 4 d_M_tell_80 rfl ?_
          refine jw_iadd (pc := 82) F d_M_tell_82 ?_
          rw [nI_add]
          refine jw_iconst (pc := 83) (v := 1) F d_M_tell_83 (by decide) ?_
          refine jw_zastN (pc := 84) (ws' := wM am cB cI cL go gc gb gd (upd h (160 * r + i) (vp_nar .boolean 1)) gr gt gk gn 0 (nI (a_n a)) sz) F 6 0 rfl rfl (160 * r + i) rfl (by omega) (by decide) d_M_tell_84 rfl ?_
          rw [show vp_nar .boolean 1 = 1 by decide]
          refine jw_iinc (pc := 85) (v := nI ((ab_tell a r s9 i).2 + 1)) (lv' := [(0, .ref (am 0)), (1, .int (nI r)), (2, .int (nI s9)), (3, .int (nI ((ab_tell a r s9 i).2 + 1))), (4, .int (nI i))]) F 3 d_M_tell_85 rfl (jw_inc _) (by decide) rfl ?_
          refine jw_iinc (pc := 88) (v := nI (i + 1)) (lv' := [(0, .ref (am 0)), (1, .int (nI r)), (2, .int (nI s9)), (3, .int (nI ((ab_tell a r s9 i).2 + 1))), (4, .int (nI (i + 1)))]) F 4 d_M_tell_88 rfl (jw_inc _) (by decide) rfl ?_
          refine jw_goto (pc := 91) F 39 d_M_tell_91 (by decide) ?_
          have he : ab_tell a r s9 (i + 1) = (ab_take (ab_tell a r s9 i).1 r i, (ab_tell a r s9 i).2 + 1) := by show (if _ then _ else _) = _; rw [if_pos (by rw [jb_n.mp h1, jb_0.mp h2]; rfl)]
          have q := ih (i + 1) (upd h (160 * r + i) 1) (by omega) (by rw [he]; exact mx_take (by omega) (by omega) hA9)
          rw [he] at q
          exact q
        · refine jw_goto (pc := 68) F 88 d_M_tell_68 (by decide) ?_
          refine jw_iinc (pc := 88) (v := nI (i + 1)) (lv' := [(0, .ref (am 0)), (1, .int (nI r)), (2, .int (nI s9)), (3, .int (nI (ab_tell a r s9 i).2)), (4, .int (nI (i + 1)))]) F 4 d_M_tell_88 rfl (jw_inc _) (by decide) rfl ?_
          refine jw_goto (pc := 91) F 39 d_M_tell_91 (by decide) ?_
          have hc : ¬ (a_hd (ab_tell a r s9 i).1 s9 i && !a_hd (ab_tell a r s9 i).1 r i) = true := by rw [jb_n.mp h2]; simp
          have he : ab_tell a r s9 (i + 1) = ab_tell a r s9 i := by show (if _ then _ else _) = _; rw [if_neg hc]
          have q := ih (i + 1) h (by omega) (by rw [he]; exact hA9)
          rw [he] at q
          exact q
  refine jw_iconst (pc := 34) (v := nI 0) F d_M_tell_34 (by decide) ?_
  refine jw_istore_n (pc := 35) (lv' := [(0, .ref (am 0)), (1, .int (nI r)), (2, .int (nI s9)), (3, .int (nI 0))]) F d_M_tell_35 rfl (by decide) rfl ?_
  refine jw_iconst (pc := 36) (v := nI 0) F d_M_tell_36 (by decide) ?_
  refine jw_istore (pc := 37) (lv' := [(0, .ref (am 0)), (1, .int (nI r)), (2, .int (nI s9)), (3, .int (nI 0)), (4, .int (nI 0))]) F d_M_tell_37 (by decide) rfl ?_
  exact loop (a_n a) 0 gh (by omega) hA
set_option maxHeartbeats 4000000 in
set_option maxRecDepth 100000 in
theorem m_holds_1 (l : Launch) (D : va_G) (am : Nat → Nat) (cB cI cL : ClassId) (go gc gb gd gh gr gt gk : Nat → Int32) (gn : Nat → Int64) (er op sz : Int32) (a : AS) (hQ : mx_R a go gc gb gd gh gn op) (r : Int32) (hr : a_isrep r = false) (tt : Int32) : jw_Mi l D vCl (vTy cB cI cL) y_M_holds s_M_holds rm_M_holds [.ref (am 0), .int r, .int tt] (wM am cB cI cL go gc gb gd gh gr gt gk gn er op sz) (fun r9 w9 => r9 = 0 ∧ w9 = wM am cB cI cL go gc gb gd gh gr gt gk gn 1 op sz) := by
  refine jw_ofi (cc := b_M_holds) (nL := 3) (ret := (some .boolean)) (by decide) rfl (Nat.le_of_ble_eq_true rfl) (fun p e s m args below meth c A F hnm => ?_)
  refine jw_at (lv' := [(0, .ref (am 0)), (1, .int r), (2, .int tt)]) (st' := []) (ws' := wM am cB cI cL go gc gb gd gh gr gt gk gn er op sz) rfl rfl rfl ?_
  refine jw_aload_n (pc := 0) F 0 d_M_holds_0 rfl rfl ?_
  refine jw_iconst (pc := 1) (v := 0) F d_M_holds_1 (by decide) ?_
  refine jw_put (pc := 2) (v := .int 0) (ty := .int) (ws' := wM am cB cI cL go gc gb gd gh gr gt gk gn 0 op sz) F (jms inM) tM tM_ok nmM 0 rfl rfl 0 (by decide) (jm w_342) rfl (by decide +kernel) rfl rfl (Nat.le_of_ble_eq_true rfl) d_M_holds_2 rfl ?_
  refine jw_aload_n (pc := 5) F 0 d_M_holds_5 rfl rfl ?_
  refine jw_iload_n (pc := 6) F 1 d_M_holds_6 rfl rfl ?_
  refine jw_callS_Ei (pc := 7) (As := [.int r]) (rest := [.ref (am 0)]) F (m_isReplica l D cB cI cL r) (jw_cwS F.1.2.2.2.2 wl_good w_387 w_388 w_30 w_389 hd_M_isReplica ⟨by decide, by decide⟩) rfl rfl (Nat.le_of_ble_eq_true rfl) d_M_holds_7 ⟨rfl, rfl⟩ ⟨by decide, by decide⟩ ?_
  refine jw_if_ne (pc := 10) F 17 d_M_holds_10 (by decide) (fun hz1 => False.elim (absurd (jb_n.mp hz1) (by rw [hr]; decide))) (fun hz1 => ?_)
  refine jw_iconst (pc := 13) (v := 1) F d_M_holds_13 (by decide) ?_
  refine jw_goto (pc := 14) F 18 d_M_holds_14 (by decide) ?_
  refine jw_iconst (pc := 18) (v := 1) F d_M_holds_18 (by decide) ?_
  refine jw_callV_Ci (pc := 19) (As := [.int 1, .int 1]) (rest := []) F (m_failsT l D am cB cI cL go gc gb gd gh gr gt gk gn op sz true rfl 1 (by decide)) (jw_cwV F.1.2.2.2.2 wl_good w_394 w_396 w_17 w_30 w_397 hd_M_fails ⟨by decide, by decide⟩) 0 1 rfl rfl rfl rfl rfl rfl (Nat.le_of_ble_eq_true rfl) d_M_holds_19 ⟨rfl, rfl⟩ ⟨by decide, by decide⟩ (fun r w hw => ?_)
  obtain ⟨rfl, rfl⟩ := hw
  refine jw_if_ne (pc := 22) F 59 d_M_holds_22 (by decide) (fun hz2 => ?_) (fun hz2 => False.elim (absurd hz2 (by decide)))
  refine jw_iconst (pc := 59) (v := 0) F d_M_holds_59 (by decide) ?_
  exact jw_zret F d_M_holds_60 (by decide) ⟨rfl, rfl⟩
set_option maxHeartbeats 4000000 in
set_option maxRecDepth 100000 in
theorem m_holds_2 (l : Launch) (D : va_G) (am : Nat → Nat) (cB cI cL : ClassId) (go gc gb gd gh gr gt gk : Nat → Int32) (gn : Nat → Int64) (er op sz : Int32) (a : AS) (hQ : mx_R a go gc gb gd gh gn op) (r : Nat) (hr : r < 4) (tt : Int32) (ht : a_isop (a_n a) tt = false) : jw_Mi l D vCl (vTy cB cI cL) y_M_holds s_M_holds rm_M_holds [.ref (am 0), .int (nI r), .int tt] (wM am cB cI cL go gc gb gd gh gr gt gk gn er op sz) (fun r9 w9 => r9 = 0 ∧ w9 = wM am cB cI cL go gc gb gd gh gr gt gk gn 2 op sz) := by
  refine jw_ofi (cc := b_M_holds) (nL := 3) (ret := (some .boolean)) (by decide) rfl (Nat.le_of_ble_eq_true rfl) (fun p e s m args below meth c A F hnm => ?_)
  refine jw_at (lv' := [(0, .ref (am 0)), (1, .int (nI r)), (2, .int tt)]) (st' := []) (ws' := wM am cB cI cL go gc gb gd gh gr gt gk gn er op sz) rfl rfl rfl ?_
  obtain ⟨hI, hA, hV⟩ := hQ
  have hn := hI.1
  refine jw_aload_n (pc := 0) F 0 d_M_holds_0 rfl rfl ?_
  refine jw_iconst (pc := 1) (v := 0) F d_M_holds_1 (by decide) ?_
  refine jw_put (pc := 2) (v := .int 0) (ty := .int) (ws' := wM am cB cI cL go gc gb gd gh gr gt gk gn 0 op sz) F (jms inM) tM tM_ok nmM 0 rfl rfl 0 (by decide) (jm w_342) rfl (by decide +kernel) rfl rfl (Nat.le_of_ble_eq_true rfl) d_M_holds_2 rfl ?_
  refine jw_aload_n (pc := 5) F 0 d_M_holds_5 rfl rfl ?_
  refine jw_iload_n (pc := 6) F 1 d_M_holds_6 rfl rfl ?_
  refine jw_callS_Ei (pc := 7) (As := [.int (nI r)]) (rest := [.ref (am 0)]) F (m_isReplica l D cB cI cL (nI r)) (jw_cwS F.1.2.2.2.2 wl_good w_387 w_388 w_30 w_389 hd_M_isReplica ⟨by decide, by decide⟩) rfl rfl (Nat.le_of_ble_eq_true rfl) d_M_holds_7 ⟨rfl, rfl⟩ ⟨by decide, by decide⟩ ?_
  refine jw_if_ne (pc := 10) F 17 d_M_holds_10 (by decide) (fun hz1 => ?_) (fun hz1 => False.elim (absurd (jb_0.mp hz1) (by rw [m_isrep_nI hr]; decide)))
  refine jw_iconst (pc := 17) (v := 0) F d_M_holds_17 (by decide) ?_
  refine jw_iconst (pc := 18) (v := 1) F d_M_holds_18 (by decide) ?_
  refine jw_callV_Ei (pc := 19) (As := [.int 0, .int 1]) (rest := []) F ([]) ([]) (m_failsF l D am cB cI cL go gc gb gd gh gr gt gk gn op sz false rfl 1) (jw_cwV F.1.2.2.2.2 wl_good w_394 w_396 w_17 w_30 w_397 hd_M_fails ⟨by decide, by decide⟩) 0 1 rfl rfl rfl (by simp) rfl rfl (Nat.le_of_ble_eq_true rfl) d_M_holds_19 ⟨rfl, rfl⟩ ⟨by decide, by decide⟩ ?_
  refine jw_if_ne (pc := 22) F 59 d_M_holds_22 (by decide) (fun hz2 => False.elim (hz2 rfl)) (fun hz2 => ?_)
  refine jw_aload_n (pc := 25) F 0 d_M_holds_25 rfl rfl ?_
  refine jw_aload_n (pc := 26) F 0 d_M_holds_26 rfl rfl ?_
  refine jw_iload_n (pc := 27) F 2 d_M_holds_27 rfl rfl ?_
  refine jw_callV_Ei (pc := 28) (As := [.int tt]) (rest := [.ref (am 0)]) F ([]) ([]) (m_isThere l D am cB cI cL go gc gb gd gh gr gt gk gn 0 op sz (a_n a) hn hA.1 tt) (jw_cwV F.1.2.2.2.2 wl_good w_402 w_404 w_19 w_30 w_405 hd_M_isThere ⟨by decide, by decide⟩) 0 1 rfl rfl rfl (by simp) rfl rfl (Nat.le_of_ble_eq_true rfl) d_M_holds_28 ⟨rfl, rfl⟩ ⟨by decide, by decide⟩ ?_
  refine jw_if_ne (pc := 31) F 38 d_M_holds_31 (by decide) (fun hz3 => False.elim (absurd (jb_n.mp hz3) (by rw [ht]; decide))) (fun hz3 => ?_)
  refine jw_iconst (pc := 34) (v := 1) F d_M_holds_34 (by decide) ?_
  refine jw_goto (pc := 35) F 39 d_M_holds_35 (by decide) ?_
  refine jw_iconst (pc := 39) (v := 2) F d_M_holds_39 (by decide) ?_
  refine jw_callV_Ci (pc := 40) (As := [.int 1, .int 2]) (rest := []) F (m_failsT l D am cB cI cL go gc gb gd gh gr gt gk gn op sz true rfl 2 (by decide)) (jw_cwV F.1.2.2.2.2 wl_good w_394 w_396 w_17 w_30 w_397 hd_M_fails ⟨by decide, by decide⟩) 0 1 rfl rfl rfl rfl rfl rfl (Nat.le_of_ble_eq_true rfl) d_M_holds_40 ⟨rfl, rfl⟩ ⟨by decide, by decide⟩ (fun r w hw => ?_)
  obtain ⟨rfl, rfl⟩ := hw
  refine jw_if_ne (pc := 43) F 59 d_M_holds_43 (by decide) (fun hz4 => ?_) (fun hz4 => False.elim (absurd hz4 (by decide)))
  refine jw_iconst (pc := 59) (v := 0) F d_M_holds_59 (by decide) ?_
  exact jw_zret F d_M_holds_60 (by decide) ⟨rfl, rfl⟩
set_option maxHeartbeats 4000000 in
set_option maxRecDepth 100000 in
theorem m_holds_0 (l : Launch) (D : va_G) (am : Nat → Nat) (cB cI cL : ClassId) (go gc gb gd gh gr gt gk : Nat → Int32) (gn : Nat → Int64) (er op sz : Int32) (a : AS) (hQ : mx_R a go gc gb gd gh gn op) (r : Nat) (hr : r < 4) (k : Nat) (hk : k < a_n a) : jw_Mi l D vCl (vTy cB cI cL) y_M_holds s_M_holds rm_M_holds [.ref (am 0), .int (nI r), .int (nI k)] (wM am cB cI cL go gc gb gd gh gr gt gk gn er op sz) (fun r9 w9 => r9 = jb (a_hd a r k) ∧ w9 = wM am cB cI cL go gc gb gd gh gr gt gk gn 0 op sz) := by
  refine jw_ofi (cc := b_M_holds) (nL := 3) (ret := (some .boolean)) (by decide) rfl (Nat.le_of_ble_eq_true rfl) (fun p e s m args below meth c A F hnm => ?_)
  refine jw_at (lv' := [(0, .ref (am 0)), (1, .int (nI r)), (2, .int (nI k))]) (st' := []) (ws' := wM am cB cI cL go gc gb gd gh gr gt gk gn er op sz) rfl rfl rfl ?_
  obtain ⟨hI, hA, hV⟩ := hQ
  have hn := hI.1
  refine jw_aload_n (pc := 0) F 0 d_M_holds_0 rfl rfl ?_
  refine jw_iconst (pc := 1) (v := 0) F d_M_holds_1 (by decide) ?_
  refine jw_put (pc := 2) (v := .int 0) (ty := .int) (ws' := wM am cB cI cL go gc gb gd gh gr gt gk gn 0 op sz) F (jms inM) tM tM_ok nmM 0 rfl rfl 0 (by decide) (jm w_342) rfl (by decide +kernel) rfl rfl (Nat.le_of_ble_eq_true rfl) d_M_holds_2 rfl ?_
  refine jw_aload_n (pc := 5) F 0 d_M_holds_5 rfl rfl ?_
  refine jw_iload_n (pc := 6) F 1 d_M_holds_6 rfl rfl ?_
  refine jw_callS_Ei (pc := 7) (As := [.int (nI r)]) (rest := [.ref (am 0)]) F (m_isReplica l D cB cI cL (nI r)) (jw_cwS F.1.2.2.2.2 wl_good w_387 w_388 w_30 w_389 hd_M_isReplica ⟨by decide, by decide⟩) rfl rfl (Nat.le_of_ble_eq_true rfl) d_M_holds_7 ⟨rfl, rfl⟩ ⟨by decide, by decide⟩ ?_
  refine jw_if_ne (pc := 10) F 17 d_M_holds_10 (by decide) (fun hz1 => ?_) (fun hz1 => False.elim (absurd (jb_0.mp hz1) (by rw [m_isrep_nI hr]; decide)))
  refine jw_iconst (pc := 17) (v := 0) F d_M_holds_17 (by decide) ?_
  refine jw_iconst (pc := 18) (v := 1) F d_M_holds_18 (by decide) ?_
  refine jw_callV_Ei (pc := 19) (As := [.int 0, .int 1]) (rest := []) F ([]) ([]) (m_failsF l D am cB cI cL go gc gb gd gh gr gt gk gn op sz false rfl 1) (jw_cwV F.1.2.2.2.2 wl_good w_394 w_396 w_17 w_30 w_397 hd_M_fails ⟨by decide, by decide⟩) 0 1 rfl rfl rfl (by simp) rfl rfl (Nat.le_of_ble_eq_true rfl) d_M_holds_19 ⟨rfl, rfl⟩ ⟨by decide, by decide⟩ ?_
  refine jw_if_ne (pc := 22) F 59 d_M_holds_22 (by decide) (fun hz2 => False.elim (hz2 rfl)) (fun hz2 => ?_)
  refine jw_aload_n (pc := 25) F 0 d_M_holds_25 rfl rfl ?_
  refine jw_aload_n (pc := 26) F 0 d_M_holds_26 rfl rfl ?_
  refine jw_iload_n (pc := 27) F 2 d_M_holds_27 rfl rfl ?_
  refine jw_callV_Ei (pc := 28) (As := [.int (nI k)]) (rest := [.ref (am 0)]) F ([]) ([]) (m_isThere l D am cB cI cL go gc gb gd gh gr gt gk gn 0 op sz (a_n a) hn hA.1 (nI k)) (jw_cwV F.1.2.2.2.2 wl_good w_402 w_404 w_19 w_30 w_405 hd_M_isThere ⟨by decide, by decide⟩) 0 1 rfl rfl rfl (by simp) rfl rfl (Nat.le_of_ble_eq_true rfl) d_M_holds_28 ⟨rfl, rfl⟩ ⟨by decide, by decide⟩ ?_
  refine jw_if_ne (pc := 31) F 38 d_M_holds_31 (by decide) (fun hz3 => ?_) (fun hz3 => False.elim (absurd (jb_0.mp hz3) (by rw [a_isop_nI (by omega) hk]; decide)))
  refine jw_iconst (pc := 38) (v := 0) F d_M_holds_38 (by decide) ?_
  refine jw_iconst (pc := 39) (v := 2) F d_M_holds_39 (by decide) ?_
  refine jw_callV_Ei (pc := 40) (As := [.int 0, .int 2]) (rest := []) F ([]) ([]) (m_failsF l D am cB cI cL go gc gb gd gh gr gt gk gn op sz false rfl 2) (jw_cwV F.1.2.2.2.2 wl_good w_394 w_396 w_17 w_30 w_397 hd_M_fails ⟨by decide, by decide⟩) 0 1 rfl rfl rfl (by simp) rfl rfl (Nat.le_of_ble_eq_true rfl) d_M_holds_40 ⟨rfl, rfl⟩ ⟨by decide, by decide⟩ ?_
  refine jw_if_ne (pc := 43) F 59 d_M_holds_43 (by decide) (fun hz4 => False.elim (hz4 rfl)) (fun hz4 => ?_)
  refine jw_aload_n (pc := 46) F 0 d_M_holds_46 rfl rfl ?_
  refine jw_iload_n (pc := 47) F 1 d_M_holds_47 rfl rfl ?_
  refine jw_iload_n (pc := 48) F 2 d_M_holds_48 rfl rfl ?_
  refine jw_callV_Ei (pc := 49) (As := [.int (nI r), .int (nI k)]) (rest := []) F ([]) ([]) (m_has l D am cB cI cL go gc gb gd gh gr gt gk gn 0 op sz a hI hA r k hr hk) (jw_cwV F.1.2.2.2.2 wl_good w_406 w_408 w_20 w_30 w_409 hd_M_has ⟨by decide, by decide⟩) 0 1 rfl rfl rfl (by simp) rfl rfl (Nat.le_of_ble_eq_true rfl) d_M_holds_49 ⟨rfl, rfl⟩ ⟨by decide, by decide⟩ ?_
  refine jw_if_eq (pc := 52) F 59 d_M_holds_52 (by decide) (fun h1 => ?_) (fun h1 => ?_)
  · refine jw_iconst (pc := 59) (v := 0) F d_M_holds_59 (by decide) ?_
    exact jw_zret F d_M_holds_60 (by decide) ⟨by rw [jb_0.mp h1]; rfl, rfl⟩
  · refine jw_iconst (pc := 55) (v := 1) F d_M_holds_55 (by decide) ?_
    refine jw_goto (pc := 56) F 60 d_M_holds_56 (by decide) ?_
    exact jw_zret F d_M_holds_60 (by decide) ⟨by rw [jb_n.mp h1]; rfl, rfl⟩
set_option maxHeartbeats 4000000 in
set_option maxRecDepth 100000 in
theorem m_value_1 (l : Launch) (D : va_G) (am : Nat → Nat) (cB cI cL : ClassId) (go gc gb gd gh gr gt gk : Nat → Int32) (gn : Nat → Int64) (er op sz : Int32) (a : AS) (hQ : mx_R a go gc gb gd gh gn op) (tt : Int32) (ht : a_isel a tt = false) : jw_Ml l D vCl (vTy cB cI cL) y_M_value s_M_value rm_M_value [.ref (am 0), .int tt] (wM am cB cI cL go gc gb gd gh gr gt gk gn er op sz) (fun r9 w9 => r9 = 0 ∧ w9 = wM am cB cI cL go gc gb gd gh gr gt gk gn 1 op sz) := by
  refine jw_ofl (cc := b_M_value) (nL := 2) (ret := (some .long)) (by decide) rfl (Nat.le_of_ble_eq_true rfl) (fun p e s m args below meth c A F hnm => ?_)
  refine jw_at (lv' := [(0, .ref (am 0)), (1, .int tt)]) (st' := []) (ws' := wM am cB cI cL go gc gb gd gh gr gt gk gn er op sz) rfl rfl rfl ?_
  obtain ⟨hI, hA, hV⟩ := hQ
  have hn := hI.1
  refine jw_aload_n (pc := 0) F 0 d_M_value_0 rfl rfl ?_
  refine jw_iconst (pc := 1) (v := 0) F d_M_value_1 (by decide) ?_
  refine jw_put (pc := 2) (v := .int 0) (ty := .int) (ws' := wM am cB cI cL go gc gb gd gh gr gt gk gn 0 op sz) F (jms inM) tM tM_ok nmM 0 rfl rfl 0 (by decide) (jm w_342) rfl (by decide +kernel) rfl rfl (Nat.le_of_ble_eq_true rfl) d_M_value_2 rfl ?_
  refine jw_aload_n (pc := 5) F 0 d_M_value_5 rfl rfl ?_
  refine jw_aload_n (pc := 6) F 0 d_M_value_6 rfl rfl ?_
  refine jw_iload_n (pc := 7) F 1 d_M_value_7 rfl rfl ?_
  refine jw_callV_Ei (pc := 8) (As := [.int tt]) (rest := [.ref (am 0)]) F ([]) ([]) (m_isThere l D am cB cI cL go gc gb gd gh gr gt gk gn 0 op sz (a_n a) hn hA.1 tt) (jw_cwV F.1.2.2.2.2 wl_good w_402 w_404 w_19 w_30 w_405 hd_M_isThere ⟨by decide, by decide⟩) 0 1 rfl rfl rfl (by simp) rfl rfl (Nat.le_of_ble_eq_true rfl) d_M_value_8 ⟨rfl, rfl⟩ ⟨by decide, by decide⟩ ?_
  refine jw_if_eq (pc := 11) F 23 d_M_value_11 (by decide) (fun h1 => ?_) (fun h1 => ?_)
  · refine jw_iconst (pc := 23) (v := 1) F d_M_value_23 (by decide) ?_
    refine jw_goto (pc := 24) F 28 d_M_value_24 (by decide) ?_
    refine jw_iconst (pc := 28) (v := 1) F d_M_value_28 (by decide) ?_
    refine jw_callV_Ci (pc := 29) (As := [.int 1, .int 1]) (rest := []) F (m_failsT l D am cB cI cL go gc gb gd gh gr gt gk gn op sz true rfl 1 (by decide)) (jw_cwV F.1.2.2.2.2 wl_good w_394 w_396 w_17 w_30 w_397 hd_M_fails ⟨by decide, by decide⟩) 0 1 rfl rfl rfl rfl rfl rfl (Nat.le_of_ble_eq_true rfl) d_M_value_29 ⟨rfl, rfl⟩ ⟨by decide, by decide⟩ (fun r w hw => ?_)
    obtain ⟨rfl, rfl⟩ := hw
    refine jw_if_eq (pc := 32) F 39 d_M_value_32 (by decide) (fun hz1 => False.elim (absurd hz1 (by decide))) (fun hz1 => ?_)
    refine jw_lconst (pc := 35) (v := 0) F d_M_value_35 (by decide) ?_
    refine jw_goto (pc := 36) F 45 d_M_value_36 (by decide) ?_
    exact jw_lret F d_M_value_45 ⟨rfl, rfl⟩
  · obtain ⟨j, hj, rfl⟩ := a_isop_t (by omega) (jb_n.mp h1)
    have hd : a_dl a j = true := by rw [a_isel_nI hn hj] at ht; cases h9 : a_dl a j; rw [h9] at ht; cases ht; rfl
    refine jw_aload_n (pc := 14) F 0 d_M_value_14 rfl rfl ?_
    refine jw_get (pc := 15) F (jms inM) 0 rfl rfl 6 (by decide) (jm w_348) rfl d_M_value_15 ?_
    refine jw_iload_n (pc := 18) F 1 d_M_value_18 rfl rfl ?_
    refine jw_zaldN (pc := 19) F 5 0 rfl rfl j rfl (by omega) (by decide) d_M_value_19 ?_
    rw [hA.2.2.2.2.1 j hj]
    refine jw_if_eq (pc := 20) F 27 d_M_value_20 (by decide) (fun hz2 => False.elim (absurd (jb_0.mp hz2) (by rw [hd]; decide))) (fun hz2 => ?_)
    refine jw_iconst (pc := 23) (v := 1) F d_M_value_23 (by decide) ?_
    refine jw_goto (pc := 24) F 28 d_M_value_24 (by decide) ?_
    refine jw_iconst (pc := 28) (v := 1) F d_M_value_28 (by decide) ?_
    refine jw_callV_Ci (pc := 29) (As := [.int 1, .int 1]) (rest := []) F (m_failsT l D am cB cI cL go gc gb gd gh gr gt gk gn op sz true rfl 1 (by decide)) (jw_cwV F.1.2.2.2.2 wl_good w_394 w_396 w_17 w_30 w_397 hd_M_fails ⟨by decide, by decide⟩) 0 1 rfl rfl rfl rfl rfl rfl (Nat.le_of_ble_eq_true rfl) d_M_value_29 ⟨rfl, rfl⟩ ⟨by decide, by decide⟩ (fun r w hw => ?_)
    obtain ⟨rfl, rfl⟩ := hw
    refine jw_if_eq (pc := 32) F 39 d_M_value_32 (by decide) (fun hz3 => False.elim (absurd hz3 (by decide))) (fun hz3 => ?_)
    refine jw_lconst (pc := 35) (v := 0) F d_M_value_35 (by decide) ?_
    refine jw_goto (pc := 36) F 45 d_M_value_36 (by decide) ?_
    exact jw_lret F d_M_value_45 ⟨rfl, rfl⟩
set_option maxHeartbeats 4000000 in
set_option maxRecDepth 100000 in
theorem m_value_0 (l : Launch) (D : va_G) (am : Nat → Nat) (cB cI cL : ClassId) (go gc gb gd gh gr gt gk : Nat → Int32) (gn : Nat → Int64) (er op sz : Int32) (a : AS) (hQ : mx_R a go gc gb gd gh gn op) (k : Nat) (hk : k < a_n a) (hd : a_dl a k = false) : jw_Ml l D vCl (vTy cB cI cL) y_M_value s_M_value rm_M_value [.ref (am 0), .int (nI k)] (wM am cB cI cL go gc gb gd gh gr gt gk gn er op sz) (fun r9 w9 => r9 = a_vl a k ∧ w9 = wM am cB cI cL go gc gb gd gh gr gt gk gn 0 op sz) := by
  refine jw_ofl (cc := b_M_value) (nL := 2) (ret := (some .long)) (by decide) rfl (Nat.le_of_ble_eq_true rfl) (fun p e s m args below meth c A F hnm => ?_)
  refine jw_at (lv' := [(0, .ref (am 0)), (1, .int (nI k))]) (st' := []) (ws' := wM am cB cI cL go gc gb gd gh gr gt gk gn er op sz) rfl rfl rfl ?_
  obtain ⟨hI, hA, hV⟩ := hQ
  have hn := hI.1
  refine jw_aload_n (pc := 0) F 0 d_M_value_0 rfl rfl ?_
  refine jw_iconst (pc := 1) (v := 0) F d_M_value_1 (by decide) ?_
  refine jw_put (pc := 2) (v := .int 0) (ty := .int) (ws' := wM am cB cI cL go gc gb gd gh gr gt gk gn 0 op sz) F (jms inM) tM tM_ok nmM 0 rfl rfl 0 (by decide) (jm w_342) rfl (by decide +kernel) rfl rfl (Nat.le_of_ble_eq_true rfl) d_M_value_2 rfl ?_
  refine jw_aload_n (pc := 5) F 0 d_M_value_5 rfl rfl ?_
  refine jw_aload_n (pc := 6) F 0 d_M_value_6 rfl rfl ?_
  refine jw_iload_n (pc := 7) F 1 d_M_value_7 rfl rfl ?_
  refine jw_callV_Ei (pc := 8) (As := [.int (nI k)]) (rest := [.ref (am 0)]) F ([]) ([]) (m_isThere l D am cB cI cL go gc gb gd gh gr gt gk gn 0 op sz (a_n a) hn hA.1 (nI k)) (jw_cwV F.1.2.2.2.2 wl_good w_402 w_404 w_19 w_30 w_405 hd_M_isThere ⟨by decide, by decide⟩) 0 1 rfl rfl rfl (by simp) rfl rfl (Nat.le_of_ble_eq_true rfl) d_M_value_8 ⟨rfl, rfl⟩ ⟨by decide, by decide⟩ ?_
  refine jw_if_eq (pc := 11) F 23 d_M_value_11 (by decide) (fun hz1 => False.elim (absurd (jb_0.mp hz1) (by rw [a_isop_nI (by omega) hk]; decide))) (fun hz1 => ?_)
  refine jw_aload_n (pc := 14) F 0 d_M_value_14 rfl rfl ?_
  refine jw_get (pc := 15) F (jms inM) 0 rfl rfl 6 (by decide) (jm w_348) rfl d_M_value_15 ?_
  refine jw_iload_n (pc := 18) F 1 d_M_value_18 rfl rfl ?_
  refine jw_zaldN (pc := 19) F 5 0 rfl rfl k rfl (by omega) (by decide) d_M_value_19 ?_
  rw [hA.2.2.2.2.1 k hk]
  refine jw_if_eq (pc := 20) F 27 d_M_value_20 (by decide) (fun hz2 => ?_) (fun hz2 => False.elim (absurd (jb_n.mp hz2) (by rw [hd]; decide)))
  refine jw_iconst (pc := 27) (v := 0) F d_M_value_27 (by decide) ?_
  refine jw_iconst (pc := 28) (v := 1) F d_M_value_28 (by decide) ?_
  refine jw_callV_Ei (pc := 29) (As := [.int 0, .int 1]) (rest := []) F ([]) ([]) (m_failsF l D am cB cI cL go gc gb gd gh gr gt gk gn op sz false rfl 1) (jw_cwV F.1.2.2.2.2 wl_good w_394 w_396 w_17 w_30 w_397 hd_M_fails ⟨by decide, by decide⟩) 0 1 rfl rfl rfl (by simp) rfl rfl (Nat.le_of_ble_eq_true rfl) d_M_value_29 ⟨rfl, rfl⟩ ⟨by decide, by decide⟩ ?_
  refine jw_if_eq (pc := 32) F 39 d_M_value_32 (by decide) (fun hz3 => ?_) (fun hz3 => False.elim (hz3 rfl))
  refine jw_aload_n (pc := 39) F 0 d_M_value_39 rfl rfl ?_
  refine jw_get (pc := 40) F (jms inM) 0 rfl rfl 5 (by decide) (jm w_347) rfl d_M_value_40 ?_
  refine jw_iload_n (pc := 43) F 1 d_M_value_43 rfl rfl ?_
  refine jw_laldN (pc := 44) F 4 2 rfl rfl k rfl (by omega) (by decide) d_M_value_44 ?_
  exact jw_lret F d_M_value_45 ⟨hV k hk hd, rfl⟩
set_option maxHeartbeats 4000000 in
set_option maxRecDepth 100000 in
theorem m_stamp_1 (l : Launch) (D : va_G) (am : Nat → Nat) (cB cI cL : ClassId) (go gc gb gd gh gr gt gk : Nat → Int32) (gn : Nat → Int64) (er op sz : Int32) (a : AS) (hQ : mx_R a go gc gb gd gh gn op) (tt : Int32) (ht : a_isop (a_n a) tt = false) : jw_Mi l D vCl (vTy cB cI cL) y_M_stamp s_M_stamp rm_M_stamp [.ref (am 0), .int tt] (wM am cB cI cL go gc gb gd gh gr gt gk gn er op sz) (fun r9 w9 => r9 = 0 ∧ w9 = wM am cB cI cL go gc gb gd gh gr gt gk gn 1 op sz) := by
  refine jw_ofi (cc := b_M_stamp) (nL := 2) (ret := (some .int)) (by decide) rfl (Nat.le_of_ble_eq_true rfl) (fun p e s m args below meth c A F hnm => ?_)
  refine jw_at (lv' := [(0, .ref (am 0)), (1, .int tt)]) (st' := []) (ws' := wM am cB cI cL go gc gb gd gh gr gt gk gn er op sz) rfl rfl rfl ?_
  obtain ⟨hI, hA, hV⟩ := hQ
  have hn := hI.1
  refine jw_aload_n (pc := 0) F 0 d_M_stamp_0 rfl rfl ?_
  refine jw_iconst (pc := 1) (v := 0) F d_M_stamp_1 (by decide) ?_
  refine jw_put (pc := 2) (v := .int 0) (ty := .int) (ws' := wM am cB cI cL go gc gb gd gh gr gt gk gn 0 op sz) F (jms inM) tM tM_ok nmM 0 rfl rfl 0 (by decide) (jm w_342) rfl (by decide +kernel) rfl rfl (Nat.le_of_ble_eq_true rfl) d_M_stamp_2 rfl ?_
  refine jw_aload_n (pc := 5) F 0 d_M_stamp_5 rfl rfl ?_
  refine jw_aload_n (pc := 6) F 0 d_M_stamp_6 rfl rfl ?_
  refine jw_iload_n (pc := 7) F 1 d_M_stamp_7 rfl rfl ?_
  refine jw_callV_Ei (pc := 8) (As := [.int tt]) (rest := [.ref (am 0)]) F ([]) ([]) (m_isThere l D am cB cI cL go gc gb gd gh gr gt gk gn 0 op sz (a_n a) hn hA.1 tt) (jw_cwV F.1.2.2.2.2 wl_good w_402 w_404 w_19 w_30 w_405 hd_M_isThere ⟨by decide, by decide⟩) 0 1 rfl rfl rfl (by simp) rfl rfl (Nat.le_of_ble_eq_true rfl) d_M_stamp_8 ⟨rfl, rfl⟩ ⟨by decide, by decide⟩ ?_
  refine jw_if_ne (pc := 11) F 18 d_M_stamp_11 (by decide) (fun hz1 => False.elim (absurd (jb_n.mp hz1) (by rw [ht]; decide))) (fun hz1 => ?_)
  refine jw_iconst (pc := 14) (v := 1) F d_M_stamp_14 (by decide) ?_
  refine jw_goto (pc := 15) F 19 d_M_stamp_15 (by decide) ?_
  refine jw_iconst (pc := 19) (v := 1) F d_M_stamp_19 (by decide) ?_
  refine jw_callV_Ci (pc := 20) (As := [.int 1, .int 1]) (rest := []) F (m_failsT l D am cB cI cL go gc gb gd gh gr gt gk gn op sz true rfl 1 (by decide)) (jw_cwV F.1.2.2.2.2 wl_good w_394 w_396 w_17 w_30 w_397 hd_M_fails ⟨by decide, by decide⟩) 0 1 rfl rfl rfl rfl rfl rfl (Nat.le_of_ble_eq_true rfl) d_M_stamp_20 ⟨rfl, rfl⟩ ⟨by decide, by decide⟩ (fun r w hw => ?_)
  obtain ⟨rfl, rfl⟩ := hw
  refine jw_if_eq (pc := 23) F 30 d_M_stamp_23 (by decide) (fun hz2 => False.elim (absurd hz2 (by decide))) (fun hz2 => ?_)
  refine jw_iconst (pc := 26) (v := 0) F d_M_stamp_26 (by decide) ?_
  refine jw_goto (pc := 27) F 36 d_M_stamp_27 (by decide) ?_
  exact jw_iret F d_M_stamp_36 ⟨rfl, rfl⟩
set_option maxHeartbeats 4000000 in
set_option maxRecDepth 100000 in
theorem m_stamp_0 (l : Launch) (D : va_G) (am : Nat → Nat) (cB cI cL : ClassId) (go gc gb gd gh gr gt gk : Nat → Int32) (gn : Nat → Int64) (er op sz : Int32) (a : AS) (hQ : mx_R a go gc gb gd gh gn op) (k : Nat) (hk : k < a_n a) : jw_Mi l D vCl (vTy cB cI cL) y_M_stamp s_M_stamp rm_M_stamp [.ref (am 0), .int (nI k)] (wM am cB cI cL go gc gb gd gh gr gt gk gn er op sz) (fun r9 w9 => r9 = nI (a_ct a k) ∧ w9 = wM am cB cI cL go gc gb gd gh gr gt gk gn 0 op sz) := by
  refine jw_ofi (cc := b_M_stamp) (nL := 2) (ret := (some .int)) (by decide) rfl (Nat.le_of_ble_eq_true rfl) (fun p e s m args below meth c A F hnm => ?_)
  refine jw_at (lv' := [(0, .ref (am 0)), (1, .int (nI k))]) (st' := []) (ws' := wM am cB cI cL go gc gb gd gh gr gt gk gn er op sz) rfl rfl rfl ?_
  obtain ⟨hI, hA, hV⟩ := hQ
  have hn := hI.1
  refine jw_aload_n (pc := 0) F 0 d_M_stamp_0 rfl rfl ?_
  refine jw_iconst (pc := 1) (v := 0) F d_M_stamp_1 (by decide) ?_
  refine jw_put (pc := 2) (v := .int 0) (ty := .int) (ws' := wM am cB cI cL go gc gb gd gh gr gt gk gn 0 op sz) F (jms inM) tM tM_ok nmM 0 rfl rfl 0 (by decide) (jm w_342) rfl (by decide +kernel) rfl rfl (Nat.le_of_ble_eq_true rfl) d_M_stamp_2 rfl ?_
  refine jw_aload_n (pc := 5) F 0 d_M_stamp_5 rfl rfl ?_
  refine jw_aload_n (pc := 6) F 0 d_M_stamp_6 rfl rfl ?_
  refine jw_iload_n (pc := 7) F 1 d_M_stamp_7 rfl rfl ?_
  refine jw_callV_Ei (pc := 8) (As := [.int (nI k)]) (rest := [.ref (am 0)]) F ([]) ([]) (m_isThere l D am cB cI cL go gc gb gd gh gr gt gk gn 0 op sz (a_n a) hn hA.1 (nI k)) (jw_cwV F.1.2.2.2.2 wl_good w_402 w_404 w_19 w_30 w_405 hd_M_isThere ⟨by decide, by decide⟩) 0 1 rfl rfl rfl (by simp) rfl rfl (Nat.le_of_ble_eq_true rfl) d_M_stamp_8 ⟨rfl, rfl⟩ ⟨by decide, by decide⟩ ?_
  refine jw_if_ne (pc := 11) F 18 d_M_stamp_11 (by decide) (fun hz1 => ?_) (fun hz1 => False.elim (absurd (jb_0.mp hz1) (by rw [a_isop_nI (by omega) hk]; decide)))
  refine jw_iconst (pc := 18) (v := 0) F d_M_stamp_18 (by decide) ?_
  refine jw_iconst (pc := 19) (v := 1) F d_M_stamp_19 (by decide) ?_
  refine jw_callV_Ei (pc := 20) (As := [.int 0, .int 1]) (rest := []) F ([]) ([]) (m_failsF l D am cB cI cL go gc gb gd gh gr gt gk gn op sz false rfl 1) (jw_cwV F.1.2.2.2.2 wl_good w_394 w_396 w_17 w_30 w_397 hd_M_fails ⟨by decide, by decide⟩) 0 1 rfl rfl rfl (by simp) rfl rfl (Nat.le_of_ble_eq_true rfl) d_M_stamp_20 ⟨rfl, rfl⟩ ⟨by decide, by decide⟩ ?_
  refine jw_if_eq (pc := 23) F 30 d_M_stamp_23 (by decide) (fun hz2 => ?_) (fun hz2 => False.elim (hz2 rfl))
  refine jw_aload_n (pc := 30) F 0 d_M_stamp_30 rfl rfl ?_
  refine jw_get (pc := 31) F (jms inM) 0 rfl rfl 3 (by decide) (jm w_345) rfl d_M_stamp_31 ?_
  refine jw_iload_n (pc := 34) F 1 d_M_stamp_34 rfl rfl ?_
  refine jw_ialdN (pc := 35) F 2 1 rfl rfl k rfl (by omega) (by decide) d_M_stamp_35 ?_
  exact jw_iret F d_M_stamp_36 ⟨hA.2.2.1 k hk, rfl⟩
set_option maxHeartbeats 4000000 in
set_option maxRecDepth 100000 in
theorem m_count_1 (l : Launch) (D : va_G) (am : Nat → Nat) (cB cI cL : ClassId) (go gc gb gd gh gr gt gk : Nat → Int32) (gn : Nat → Int64) (er op sz : Int32) (a : AS) (hQ : mx_R a go gc gb gd gh gn op) (r : Int32) (hr : a_isrep r = false) (tt : Int32) : jw_Mi l D vCl (vTy cB cI cL) y_M_count s_M_count rm_M_count [.ref (am 0), .int r, .int tt] (wM am cB cI cL go gc gb gd gh gr gt gk gn er op sz) (fun r9 w9 => r9 = 0 ∧ w9 = wM am cB cI cL go gc gb gd gh gr gt gk gn 1 op sz) := by
  refine jw_ofi (cc := b_M_count) (nL := 5) (ret := (some .int)) (by decide) rfl (Nat.le_of_ble_eq_true rfl) (fun p e s m args below meth c A F hnm => ?_)
  refine jw_at (lv' := [(0, .ref (am 0)), (1, .int r), (2, .int tt)]) (st' := []) (ws' := wM am cB cI cL go gc gb gd gh gr gt gk gn er op sz) rfl rfl rfl ?_
  refine jw_aload_n (pc := 0) F 0 d_M_count_0 rfl rfl ?_
  refine jw_iconst (pc := 1) (v := 0) F d_M_count_1 (by decide) ?_
  refine jw_put (pc := 2) (v := .int 0) (ty := .int) (ws' := wM am cB cI cL go gc gb gd gh gr gt gk gn 0 op sz) F (jms inM) tM tM_ok nmM 0 rfl rfl 0 (by decide) (jm w_342) rfl (by decide +kernel) rfl rfl (Nat.le_of_ble_eq_true rfl) d_M_count_2 rfl ?_
  refine jw_aload_n (pc := 5) F 0 d_M_count_5 rfl rfl ?_
  refine jw_iload_n (pc := 6) F 1 d_M_count_6 rfl rfl ?_
  refine jw_callS_Ei (pc := 7) (As := [.int r]) (rest := [.ref (am 0)]) F (m_isReplica l D cB cI cL r) (jw_cwS F.1.2.2.2.2 wl_good w_387 w_388 w_30 w_389 hd_M_isReplica ⟨by decide, by decide⟩) rfl rfl (Nat.le_of_ble_eq_true rfl) d_M_count_7 ⟨rfl, rfl⟩ ⟨by decide, by decide⟩ ?_
  refine jw_if_eq (pc := 10) F 25 d_M_count_10 (by decide) (fun hz1 => ?_) (fun hz1 => False.elim (absurd (jb_n.mp hz1) (by rw [hr]; decide)))
  refine jw_iconst (pc := 25) (v := 1) F d_M_count_25 (by decide) ?_
  refine jw_goto (pc := 26) F 30 d_M_count_26 (by decide) ?_
  refine jw_iconst (pc := 30) (v := 1) F d_M_count_30 (by decide) ?_
  refine jw_callV_Ci (pc := 31) (As := [.int 1, .int 1]) (rest := []) F (m_failsT l D am cB cI cL go gc gb gd gh gr gt gk gn op sz true rfl 1 (by decide)) (jw_cwV F.1.2.2.2.2 wl_good w_394 w_396 w_17 w_30 w_397 hd_M_fails ⟨by decide, by decide⟩) 0 1 rfl rfl rfl rfl rfl rfl (Nat.le_of_ble_eq_true rfl) d_M_count_31 ⟨rfl, rfl⟩ ⟨by decide, by decide⟩ (fun r w hw => ?_)
  obtain ⟨rfl, rfl⟩ := hw
  refine jw_if_eq (pc := 34) F 39 d_M_count_34 (by decide) (fun hz2 => False.elim (absurd hz2 (by decide))) (fun hz2 => ?_)
  refine jw_iconst (pc := 37) (v := 0) F d_M_count_37 (by decide) ?_
  exact jw_iret F d_M_count_38 ⟨rfl, rfl⟩
set_option maxHeartbeats 4000000 in
set_option maxRecDepth 100000 in
theorem m_count_x (l : Launch) (D : va_G) (am : Nat → Nat) (cB cI cL : ClassId) (go gc gb gd gh gr gt gk : Nat → Int32) (gn : Nat → Int64) (er op sz : Int32) (a : AS) (hQ : mx_R a go gc gb gd gh gn op) (r : Nat) (hr : r < 4) (tt : Int32) (ht : a_isrep tt = false) : jw_Mi l D vCl (vTy cB cI cL) y_M_count s_M_count rm_M_count [.ref (am 0), .int (nI r), .int tt] (wM am cB cI cL go gc gb gd gh gr gt gk gn er op sz) (fun r9 w9 => r9 = 0 ∧ w9 = wM am cB cI cL go gc gb gd gh gr gt gk gn 1 op sz) := by
  refine jw_ofi (cc := b_M_count) (nL := 5) (ret := (some .int)) (by decide) rfl (Nat.le_of_ble_eq_true rfl) (fun p e s m args below meth c A F hnm => ?_)
  refine jw_at (lv' := [(0, .ref (am 0)), (1, .int (nI r)), (2, .int tt)]) (st' := []) (ws' := wM am cB cI cL go gc gb gd gh gr gt gk gn er op sz) rfl rfl rfl ?_
  refine jw_aload_n (pc := 0) F 0 d_M_count_0 rfl rfl ?_
  refine jw_iconst (pc := 1) (v := 0) F d_M_count_1 (by decide) ?_
  refine jw_put (pc := 2) (v := .int 0) (ty := .int) (ws' := wM am cB cI cL go gc gb gd gh gr gt gk gn 0 op sz) F (jms inM) tM tM_ok nmM 0 rfl rfl 0 (by decide) (jm w_342) rfl (by decide +kernel) rfl rfl (Nat.le_of_ble_eq_true rfl) d_M_count_2 rfl ?_
  refine jw_aload_n (pc := 5) F 0 d_M_count_5 rfl rfl ?_
  refine jw_iload_n (pc := 6) F 1 d_M_count_6 rfl rfl ?_
  refine jw_callS_Ei (pc := 7) (As := [.int (nI r)]) (rest := [.ref (am 0)]) F (m_isReplica l D cB cI cL (nI r)) (jw_cwS F.1.2.2.2.2 wl_good w_387 w_388 w_30 w_389 hd_M_isReplica ⟨by decide, by decide⟩) rfl rfl (Nat.le_of_ble_eq_true rfl) d_M_count_7 ⟨rfl, rfl⟩ ⟨by decide, by decide⟩ ?_
  refine jw_if_eq (pc := 10) F 25 d_M_count_10 (by decide) (fun hz1 => False.elim (absurd (jb_0.mp hz1) (by rw [m_isrep_nI hr]; decide))) (fun hz1 => ?_)
  refine jw_iload_n (pc := 13) F 2 d_M_count_13 rfl rfl ?_
  refine jw_i2l (pc := 14) F d_M_count_14 ?_
  refine jw_lconst (pc := 15) (v := 0) F d_M_count_15 (by decide) ?_
  refine jw_ldc2 (pc := 16) (v := 3) F d_M_count_16 (jm w_390) ?_
  refine jw_callS_Ei (pc := 19) (As := [.long (tt.toInt64), .long 0, .long 3]) (rest := [.ref (am 0)]) F (m_in_c l D cB cI cL tt.toInt64 0 3) (jw_cwS F.1.2.2.2.2 wl_good w_391 w_392 w_30 w_393 hd_M_in ⟨by decide, by decide⟩) rfl rfl (Nat.le_of_ble_eq_true rfl) d_M_count_19 ⟨rfl, rfl⟩ ⟨by decide, by decide⟩ ?_
  rw [m_in_rep]
  refine jw_if_ne (pc := 22) F 29 d_M_count_22 (by decide) (fun hz2 => False.elim (absurd (jb_n.mp hz2) (by rw [ht]; decide))) (fun hz2 => ?_)
  refine jw_iconst (pc := 25) (v := 1) F d_M_count_25 (by decide) ?_
  refine jw_goto (pc := 26) F 30 d_M_count_26 (by decide) ?_
  refine jw_iconst (pc := 30) (v := 1) F d_M_count_30 (by decide) ?_
  refine jw_callV_Ci (pc := 31) (As := [.int 1, .int 1]) (rest := []) F (m_failsT l D am cB cI cL go gc gb gd gh gr gt gk gn op sz true rfl 1 (by decide)) (jw_cwV F.1.2.2.2.2 wl_good w_394 w_396 w_17 w_30 w_397 hd_M_fails ⟨by decide, by decide⟩) 0 1 rfl rfl rfl rfl rfl rfl (Nat.le_of_ble_eq_true rfl) d_M_count_31 ⟨rfl, rfl⟩ ⟨by decide, by decide⟩ (fun r w hw => ?_)
  obtain ⟨rfl, rfl⟩ := hw
  refine jw_if_eq (pc := 34) F 39 d_M_count_34 (by decide) (fun hz3 => False.elim (absurd hz3 (by decide))) (fun hz3 => ?_)
  refine jw_iconst (pc := 37) (v := 0) F d_M_count_37 (by decide) ?_
  exact jw_iret F d_M_count_38 ⟨rfl, rfl⟩
set_option maxHeartbeats 4000000 in
set_option maxRecDepth 100000 in
theorem m_count_v3 (l : Launch) (D : va_G) (am : Nat → Nat) (cB cI cL : ClassId) (go gc gb gd gh gr gt gk : Nat → Int32) (gn : Nat → Int64) (er op sz : Int32) (a : AS) (hQ : mx_R a go gc gb gd gh gn op) (r : Nat) (hr : r < 4) : jw_Mi l D vCl (vTy cB cI cL) y_M_count s_M_count rm_M_count [.ref (am 0), .int (nI r), .int (nI 3)] (wM am cB cI cL go gc gb gd gh gr gt gk gn er op sz) (fun r9 w9 => r9 = nI (a_gr a r) ∧ w9 = wM am cB cI cL go gc gb gd gh gr gt gk gn 0 op sz) := by
  refine jw_ofi (cc := b_M_count) (nL := 5) (ret := (some .int)) (by decide) rfl (Nat.le_of_ble_eq_true rfl) (fun p e s m args below meth c A F hnm => ?_)
  refine jw_at (lv' := [(0, .ref (am 0)), (1, .int (nI r)), (2, .int (nI 3))]) (st' := []) (ws' := wM am cB cI cL go gc gb gd gh gr gt gk gn er op sz) rfl rfl rfl ?_
  obtain ⟨hI, hA, hV⟩ := hQ
  have hn := hI.1
  refine jw_aload_n (pc := 0) F 0 d_M_count_0 rfl rfl ?_
  refine jw_iconst (pc := 1) (v := 0) F d_M_count_1 (by decide) ?_
  refine jw_put (pc := 2) (v := .int 0) (ty := .int) (ws' := wM am cB cI cL go gc gb gd gh gr gt gk gn 0 op sz) F (jms inM) tM tM_ok nmM 0 rfl rfl 0 (by decide) (jm w_342) rfl (by decide +kernel) rfl rfl (Nat.le_of_ble_eq_true rfl) d_M_count_2 rfl ?_
  refine jw_aload_n (pc := 5) F 0 d_M_count_5 rfl rfl ?_
  refine jw_iload_n (pc := 6) F 1 d_M_count_6 rfl rfl ?_
  refine jw_callS_Ei (pc := 7) (As := [.int (nI r)]) (rest := [.ref (am 0)]) F (m_isReplica l D cB cI cL (nI r)) (jw_cwS F.1.2.2.2.2 wl_good w_387 w_388 w_30 w_389 hd_M_isReplica ⟨by decide, by decide⟩) rfl rfl (Nat.le_of_ble_eq_true rfl) d_M_count_7 ⟨rfl, rfl⟩ ⟨by decide, by decide⟩ ?_
  refine jw_if_eq (pc := 10) F 25 d_M_count_10 (by decide) (fun hz1 => False.elim (absurd (jb_0.mp hz1) (by rw [m_isrep_nI hr]; decide))) (fun hz1 => ?_)
  refine jw_iload_n (pc := 13) F 2 d_M_count_13 rfl rfl ?_
  refine jw_i2l (pc := 14) F d_M_count_14 ?_
  refine jw_lconst (pc := 15) (v := 0) F d_M_count_15 (by decide) ?_
  refine jw_ldc2 (pc := 16) (v := 3) F d_M_count_16 (jm w_390) ?_
  refine jw_callS_Ei (pc := 19) (As := [.long ((nI 3).toInt64), .long 0, .long 3]) (rest := [.ref (am 0)]) F (m_in_c l D cB cI cL (nI 3).toInt64 0 3) (jw_cwS F.1.2.2.2.2 wl_good w_391 w_392 w_30 w_393 hd_M_in ⟨by decide, by decide⟩) rfl rfl (Nat.le_of_ble_eq_true rfl) d_M_count_19 ⟨rfl, rfl⟩ ⟨by decide, by decide⟩ ?_
  rw [m_in_rep]
  refine jw_if_ne (pc := 22) F 29 d_M_count_22 (by decide) (fun hz2 => ?_) (fun hz2 => False.elim (absurd (jb_0.mp hz2) (by rw [m_isrep_nI (by decide)]; decide)))
  refine jw_iconst (pc := 29) (v := 0) F d_M_count_29 (by decide) ?_
  refine jw_iconst (pc := 30) (v := 1) F d_M_count_30 (by decide) ?_
  refine jw_callV_Ei (pc := 31) (As := [.int 0, .int 1]) (rest := []) F ([]) ([]) (m_failsF l D am cB cI cL go gc gb gd gh gr gt gk gn op sz false rfl 1) (jw_cwV F.1.2.2.2.2 wl_good w_394 w_396 w_17 w_30 w_397 hd_M_fails ⟨by decide, by decide⟩) 0 1 rfl rfl rfl (by simp) rfl rfl (Nat.le_of_ble_eq_true rfl) d_M_count_31 ⟨rfl, rfl⟩ ⟨by decide, by decide⟩ ?_
  refine jw_if_eq (pc := 34) F 39 d_M_count_34 (by decide) (fun hz3 => ?_) (fun hz3 => False.elim (hz3 rfl))
  refine jw_iload_n (pc := 39) F 2 d_M_count_39 rfl rfl ?_
  refine jw_iconst (pc := 40) (v := nI 3) F d_M_count_40 (by decide) ?_
  refine jw_icmp_ne (pc := 41) F 50 d_M_count_41 (by decide) (fun hz4 => False.elim (hz4 rfl)) (fun hz4 => ?_)
  refine jw_aload_n (pc := 44) F 0 d_M_count_44 rfl rfl ?_
  refine jw_iload_n (pc := 45) F 1 d_M_count_45 rfl rfl ?_
  refine jw_callV_Ei (pc := 46) (As := [.int (nI r)]) (rest := []) F ([]) ([]) (m_greatest l D am cB cI cL go gc gb gd gh gr gt gk gn 0 op sz a hI hA r hr) (jw_cwV F.1.2.2.2.2 wl_good w_414 w_416 w_22 w_30 w_417 hd_M_greatest ⟨by decide, by decide⟩) 0 1 rfl rfl rfl (by simp) rfl rfl (Nat.le_of_ble_eq_true rfl) d_M_count_46 ⟨rfl, rfl⟩ ⟨by decide, by decide⟩ ?_
  exact jw_iret F d_M_count_49 ⟨rfl, rfl⟩
set_option maxHeartbeats 4000000 in
set_option maxRecDepth 100000 in
theorem m_count_v0 (l : Launch) (D : va_G) (am : Nat → Nat) (cB cI cL : ClassId) (go gc gb gd gh gr gt gk : Nat → Int32) (gn : Nat → Int64) (er op sz : Int32) (a : AS) (hQ : mx_R a go gc gb gd gh gn op) (r : Nat) (hr : r < 4) : jw_Mi l D vCl (vTy cB cI cL) y_M_count s_M_count rm_M_count [.ref (am 0), .int (nI r), .int (nI 0)] (wM am cB cI cL go gc gb gd gh gr gt gk gn er op sz) (fun r9 w9 => r9 = nI ((List.range (a_n a)).countP (a_hd a r)) ∧ w9 = wM am cB cI cL go gc gb gd gh gr gt gk gn 0 op sz) := by
  refine jw_ofi (cc := b_M_count) (nL := 5) (ret := (some .int)) (by decide) rfl (Nat.le_of_ble_eq_true rfl) (fun p e s m args below meth c A F hnm => ?_)
  refine jw_at (lv' := [(0, .ref (am 0)), (1, .int (nI r)), (2, .int (nI 0))]) (st' := []) (ws' := wM am cB cI cL go gc gb gd gh gr gt gk gn er op sz) rfl rfl rfl ?_
  have hop := hQ.2.1.1
  subst hop
  obtain ⟨hI, hA, hV⟩ := hQ
  have hn := hI.1
  refine jw_aload_n (pc := 0) F 0 d_M_count_0 rfl rfl ?_
  refine jw_iconst (pc := 1) (v := 0) F d_M_count_1 (by decide) ?_
  refine jw_put (pc := 2) (v := .int 0) (ty := .int) (ws' := wM am cB cI cL go gc gb gd gh gr gt gk gn 0 (nI (a_n a)) sz) F (jms inM) tM tM_ok nmM 0 rfl rfl 0 (by decide) (jm w_342) rfl (by decide +kernel) rfl rfl (Nat.le_of_ble_eq_true rfl) d_M_count_2 rfl ?_
  refine jw_aload_n (pc := 5) F 0 d_M_count_5 rfl rfl ?_
  refine jw_iload_n (pc := 6) F 1 d_M_count_6 rfl rfl ?_
  refine jw_callS_Ei (pc := 7) (As := [.int (nI r)]) (rest := [.ref (am 0)]) F (m_isReplica l D cB cI cL (nI r)) (jw_cwS F.1.2.2.2.2 wl_good w_387 w_388 w_30 w_389 hd_M_isReplica ⟨by decide, by decide⟩) rfl rfl (Nat.le_of_ble_eq_true rfl) d_M_count_7 ⟨rfl, rfl⟩ ⟨by decide, by decide⟩ ?_
  refine jw_if_eq (pc := 10) F 25 d_M_count_10 (by decide) (fun hz1 => False.elim (absurd (jb_0.mp hz1) (by rw [m_isrep_nI hr]; decide))) (fun hz1 => ?_)
  refine jw_iload_n (pc := 13) F 2 d_M_count_13 rfl rfl ?_
  refine jw_i2l (pc := 14) F d_M_count_14 ?_
  refine jw_lconst (pc := 15) (v := 0) F d_M_count_15 (by decide) ?_
  refine jw_ldc2 (pc := 16) (v := 3) F d_M_count_16 (jm w_390) ?_
  refine jw_callS_Ei (pc := 19) (As := [.long ((nI 0).toInt64), .long 0, .long 3]) (rest := [.ref (am 0)]) F (m_in_c l D cB cI cL (nI 0).toInt64 0 3) (jw_cwS F.1.2.2.2.2 wl_good w_391 w_392 w_30 w_393 hd_M_in ⟨by decide, by decide⟩) rfl rfl (Nat.le_of_ble_eq_true rfl) d_M_count_19 ⟨rfl, rfl⟩ ⟨by decide, by decide⟩ ?_
  rw [m_in_rep]
  refine jw_if_ne (pc := 22) F 29 d_M_count_22 (by decide) (fun hz2 => ?_) (fun hz2 => False.elim (absurd (jb_0.mp hz2) (by rw [m_isrep_nI (by decide)]; decide)))
  refine jw_iconst (pc := 29) (v := 0) F d_M_count_29 (by decide) ?_
  refine jw_iconst (pc := 30) (v := 1) F d_M_count_30 (by decide) ?_
  refine jw_callV_Ei (pc := 31) (As := [.int 0, .int 1]) (rest := []) F ([]) ([]) (m_failsF l D am cB cI cL go gc gb gd gh gr gt gk gn (nI (a_n a)) sz false rfl 1) (jw_cwV F.1.2.2.2.2 wl_good w_394 w_396 w_17 w_30 w_397 hd_M_fails ⟨by decide, by decide⟩) 0 1 rfl rfl rfl (by simp) rfl rfl (Nat.le_of_ble_eq_true rfl) d_M_count_31 ⟨rfl, rfl⟩ ⟨by decide, by decide⟩ ?_
  refine jw_if_eq (pc := 34) F 39 d_M_count_34 (by decide) (fun hz3 => ?_) (fun hz3 => False.elim (hz3 rfl))
  refine jw_iload_n (pc := 39) F 2 d_M_count_39 rfl rfl ?_
  refine jw_iconst (pc := 40) (v := nI 3) F d_M_count_40 (by decide) ?_
  refine jw_icmp_ne (pc := 41) F 50 d_M_count_41 (by decide) (fun hz4 => ?_) (fun hz4 => False.elim (absurd hz4 (by decide)))
  refine jw_iload_n (pc := 50) F 2 d_M_count_50 rfl rfl ?_
  refine jw_iconst (pc := 51) (v := nI 2) F d_M_count_51 (by decide) ?_
  refine jw_icmp_ne (pc := 52) F 65 d_M_count_52 (by decide) (fun hz5 => ?_) (fun hz5 => False.elim (absurd hz5 (by decide)))
  have loop : ∀ (t i : Nat), i + t = a_n a → jw_J p l e rm_M_count s m args below meth c D vCl A 5 (MQ below (va_Qi (fun r9 w9 => r9 = nI ((List.range (a_n a)).countP (a_hd a r)) ∧ w9 = wM am cB cI cL go gc gb gd gh gr gt gk gn 0 (nI (a_n a)) sz) (jw_B D vCl (vTy cB cI cL) A) A) args s rm_M_count.cells rm_M_count.slots A) 0 0 70 [(0, .ref (am 0)), (1, .int (nI r)), (2, .int (nI 0)), (3, .int (nI ((List.range i).countP (a_hd a r)))), (4, .int (nI i))] [] (wM am cB cI cL go gc gb gd gh gr gt gk gn 0 (nI (a_n a)) sz) := by
    intro t
    induction t with
    | zero =>
      intro i hi
      obtain rfl : i = a_n a := hi
      refine jw_iload (pc := 70) F 4 d_M_count_70 rfl ?_
      refine jw_aload_n (pc := 72) F 0 d_M_count_72 rfl rfl ?_
      refine jw_get (pc := 73) F (jms inM) 0 rfl rfl 1 (by decide) (jm w_343) rfl d_M_count_73 ?_
      refine jw_icmp_ge (pc := 76) F 112 d_M_count_76 (by decide) (fun hz6 => ?_) (fun hz6 => False.elim (hz6 (nI_le (Nat.le_refl _) (by omega))))
      refine jw_iload_n (pc := 112) F 3 d_M_count_112 rfl rfl ?_
      exact jw_iret F d_M_count_113 ⟨rfl, rfl⟩
    | succ t ih =>
      intro i hi
      have hlt : i < a_n a := by omega
      refine jw_iload (pc := 70) F 4 d_M_count_70 rfl ?_
      refine jw_aload_n (pc := 72) F 0 d_M_count_72 rfl rfl ?_
      refine jw_get (pc := 73) F (jms inM) 0 rfl rfl 1 (by decide) (jm w_343) rfl d_M_count_73 ?_
      refine jw_icmp_ge (pc := 76) F 112 d_M_count_76 (by decide) (fun hz7 => False.elim (nI_ge hlt (by omega) hz7)) (fun hz7 => ?_)
      refine jw_aload_n (pc := 79) F 0 d_M_count_79 rfl rfl ?_
      refine jw_iload_n (pc := 80) F 1 d_M_count_80 rfl rfl ?_
      refine jw_iload (pc := 81) F 4 d_M_count_81 rfl ?_
      refine jw_callV_Ei (pc := 83) (As := [.int (nI r), .int (nI i)]) (rest := []) F ([]) ([]) (m_has l D am cB cI cL go gc gb gd gh gr gt gk gn 0 (nI (a_n a)) sz a hI hA r i hr hlt) (jw_cwV F.1.2.2.2.2 wl_good w_406 w_408 w_20 w_30 w_409 hd_M_has ⟨by decide, by decide⟩) 0 1 rfl rfl rfl (by simp) rfl rfl (Nat.le_of_ble_eq_true rfl) d_M_count_83 ⟨rfl, rfl⟩ ⟨by decide, by decide⟩ ?_
      refine jw_if_eq (pc := 86) F 106 d_M_count_86 (by decide) (fun h1 => ?_) (fun h1 => ?_)
      · refine jw_iinc (pc := 106) (v := nI (i + 1)) (lv' := [(0, .ref (am 0)), (1, .int (nI r)), (2, .int (nI 0)), (3, .int (nI ((List.range i).countP (a_hd a r)))), (4, .int (nI (i + 1)))]) F 4 d_M_count_106 rfl (jw_inc _) (by decide) rfl ?_
        refine jw_goto (pc := 109) F 70 d_M_count_109 (by decide) ?_
        have q := ih (i + 1) (by omega)
        rw [gl_range_s, if_neg (by rw [jb_0.mp h1]; decide), Nat.add_zero] at q
        exact q
      · refine jw_iload_n (pc := 89) F 2 d_M_count_89 rfl rfl ?_
        refine jw_if_eq (pc := 90) F 103 d_M_count_90 (by decide) (fun hz8 => ?_) (fun hz8 => False.elim (hz8 rfl))
        refine jw_iinc (pc := 103) (v := nI ((List.range i).countP (a_hd a r) + 1)) (lv' := [(0, .ref (am 0)), (1, .int (nI r)), (2, .int (nI 0)), (3, .int (nI ((List.range i).countP (a_hd a r) + 1))), (4, .int (nI i))]) F 3 d_M_count_103 rfl (jw_inc _) (by decide) rfl ?_
        refine jw_iinc (pc := 106) (v := nI (i + 1)) (lv' := [(0, .ref (am 0)), (1, .int (nI r)), (2, .int (nI 0)), (3, .int (nI ((List.range i).countP (a_hd a r) + 1))), (4, .int (nI (i + 1)))]) F 4 d_M_count_106 rfl (jw_inc _) (by decide) rfl ?_
        refine jw_goto (pc := 109) F 70 d_M_count_109 (by decide) ?_
        have q := ih (i + 1) (by omega)
        rw [gl_range_s, if_pos (by exact jb_n.mp h1)] at q
        exact q
  refine jw_iconst (pc := 65) (v := nI 0) F d_M_count_65 (by decide) ?_
  refine jw_istore_n (pc := 66) (lv' := [(0, .ref (am 0)), (1, .int (nI r)), (2, .int (nI 0)), (3, .int (nI 0))]) F d_M_count_66 rfl (by decide) rfl ?_
  refine jw_iconst (pc := 67) (v := nI 0) F d_M_count_67 (by decide) ?_
  refine jw_istore (pc := 68) (lv' := [(0, .ref (am 0)), (1, .int (nI r)), (2, .int (nI 0)), (3, .int (nI 0)), (4, .int (nI 0))]) F d_M_count_68 (by decide) rfl ?_
  exact loop (a_n a) 0 (by omega)
set_option maxHeartbeats 4000000 in
set_option maxRecDepth 100000 in
theorem m_count_v1 (l : Launch) (D : va_G) (am : Nat → Nat) (cB cI cL : ClassId) (go gc gb gd gh gr gt gk : Nat → Int32) (gn : Nat → Int64) (er op sz : Int32) (a : AS) (hQ : mx_R a go gc gb gd gh gn op) (r : Nat) (hr : r < 4) : jw_Mi l D vCl (vTy cB cI cL) y_M_count s_M_count rm_M_count [.ref (am 0), .int (nI r), .int (nI 1)] (wM am cB cI cL go gc gb gd gh gr gt gk gn er op sz) (fun r9 w9 => r9 = nI ((List.range (a_n a)).countP (fun k => a_hd a r k && !a_dl a k)) ∧ w9 = wM am cB cI cL go gc gb gd gh gr gt gk gn 0 op sz) := by
  refine jw_ofi (cc := b_M_count) (nL := 5) (ret := (some .int)) (by decide) rfl (Nat.le_of_ble_eq_true rfl) (fun p e s m args below meth c A F hnm => ?_)
  refine jw_at (lv' := [(0, .ref (am 0)), (1, .int (nI r)), (2, .int (nI 1))]) (st' := []) (ws' := wM am cB cI cL go gc gb gd gh gr gt gk gn er op sz) rfl rfl rfl ?_
  have hop := hQ.2.1.1
  subst hop
  obtain ⟨hI, hA, hV⟩ := hQ
  have hn := hI.1
  refine jw_aload_n (pc := 0) F 0 d_M_count_0 rfl rfl ?_
  refine jw_iconst (pc := 1) (v := 0) F d_M_count_1 (by decide) ?_
  refine jw_put (pc := 2) (v := .int 0) (ty := .int) (ws' := wM am cB cI cL go gc gb gd gh gr gt gk gn 0 (nI (a_n a)) sz) F (jms inM) tM tM_ok nmM 0 rfl rfl 0 (by decide) (jm w_342) rfl (by decide +kernel) rfl rfl (Nat.le_of_ble_eq_true rfl) d_M_count_2 rfl ?_
  refine jw_aload_n (pc := 5) F 0 d_M_count_5 rfl rfl ?_
  refine jw_iload_n (pc := 6) F 1 d_M_count_6 rfl rfl ?_
  refine jw_callS_Ei (pc := 7) (As := [.int (nI r)]) (rest := [.ref (am 0)]) F (m_isReplica l D cB cI cL (nI r)) (jw_cwS F.1.2.2.2.2 wl_good w_387 w_388 w_30 w_389 hd_M_isReplica ⟨by decide, by decide⟩) rfl rfl (Nat.le_of_ble_eq_true rfl) d_M_count_7 ⟨rfl, rfl⟩ ⟨by decide, by decide⟩ ?_
  refine jw_if_eq (pc := 10) F 25 d_M_count_10 (by decide) (fun hz1 => False.elim (absurd (jb_0.mp hz1) (by rw [m_isrep_nI hr]; decide))) (fun hz1 => ?_)
  refine jw_iload_n (pc := 13) F 2 d_M_count_13 rfl rfl ?_
  refine jw_i2l (pc := 14) F d_M_count_14 ?_
  refine jw_lconst (pc := 15) (v := 0) F d_M_count_15 (by decide) ?_
  refine jw_ldc2 (pc := 16) (v := 3) F d_M_count_16 (jm w_390) ?_
  refine jw_callS_Ei (pc := 19) (As := [.long ((nI 1).toInt64), .long 0, .long 3]) (rest := [.ref (am 0)]) F (m_in_c l D cB cI cL (nI 1).toInt64 0 3) (jw_cwS F.1.2.2.2.2 wl_good w_391 w_392 w_30 w_393 hd_M_in ⟨by decide, by decide⟩) rfl rfl (Nat.le_of_ble_eq_true rfl) d_M_count_19 ⟨rfl, rfl⟩ ⟨by decide, by decide⟩ ?_
  rw [m_in_rep]
  refine jw_if_ne (pc := 22) F 29 d_M_count_22 (by decide) (fun hz2 => ?_) (fun hz2 => False.elim (absurd (jb_0.mp hz2) (by rw [m_isrep_nI (by decide)]; decide)))
  refine jw_iconst (pc := 29) (v := 0) F d_M_count_29 (by decide) ?_
  refine jw_iconst (pc := 30) (v := 1) F d_M_count_30 (by decide) ?_
  refine jw_callV_Ei (pc := 31) (As := [.int 0, .int 1]) (rest := []) F ([]) ([]) (m_failsF l D am cB cI cL go gc gb gd gh gr gt gk gn (nI (a_n a)) sz false rfl 1) (jw_cwV F.1.2.2.2.2 wl_good w_394 w_396 w_17 w_30 w_397 hd_M_fails ⟨by decide, by decide⟩) 0 1 rfl rfl rfl (by simp) rfl rfl (Nat.le_of_ble_eq_true rfl) d_M_count_31 ⟨rfl, rfl⟩ ⟨by decide, by decide⟩ ?_
  refine jw_if_eq (pc := 34) F 39 d_M_count_34 (by decide) (fun hz3 => ?_) (fun hz3 => False.elim (hz3 rfl))
  refine jw_iload_n (pc := 39) F 2 d_M_count_39 rfl rfl ?_
  refine jw_iconst (pc := 40) (v := nI 3) F d_M_count_40 (by decide) ?_
  refine jw_icmp_ne (pc := 41) F 50 d_M_count_41 (by decide) (fun hz4 => ?_) (fun hz4 => False.elim (absurd hz4 (by decide)))
  refine jw_iload_n (pc := 50) F 2 d_M_count_50 rfl rfl ?_
  refine jw_iconst (pc := 51) (v := nI 2) F d_M_count_51 (by decide) ?_
  refine jw_icmp_ne (pc := 52) F 65 d_M_count_52 (by decide) (fun hz5 => ?_) (fun hz5 => False.elim (absurd hz5 (by decide)))
  have loop : ∀ (t i : Nat), i + t = a_n a → jw_J p l e rm_M_count s m args below meth c D vCl A 5 (MQ below (va_Qi (fun r9 w9 => r9 = nI ((List.range (a_n a)).countP (fun k => a_hd a r k && !a_dl a k)) ∧ w9 = wM am cB cI cL go gc gb gd gh gr gt gk gn 0 (nI (a_n a)) sz) (jw_B D vCl (vTy cB cI cL) A) A) args s rm_M_count.cells rm_M_count.slots A) 0 0 70 [(0, .ref (am 0)), (1, .int (nI r)), (2, .int (nI 1)), (3, .int (nI ((List.range i).countP (fun k => a_hd a r k && !a_dl a k)))), (4, .int (nI i))] [] (wM am cB cI cL go gc gb gd gh gr gt gk gn 0 (nI (a_n a)) sz) := by
    intro t
    induction t with
    | zero =>
      intro i hi
      obtain rfl : i = a_n a := hi
      refine jw_iload (pc := 70) F 4 d_M_count_70 rfl ?_
      refine jw_aload_n (pc := 72) F 0 d_M_count_72 rfl rfl ?_
      refine jw_get (pc := 73) F (jms inM) 0 rfl rfl 1 (by decide) (jm w_343) rfl d_M_count_73 ?_
      refine jw_icmp_ge (pc := 76) F 112 d_M_count_76 (by decide) (fun hz6 => ?_) (fun hz6 => False.elim (hz6 (nI_le (Nat.le_refl _) (by omega))))
      refine jw_iload_n (pc := 112) F 3 d_M_count_112 rfl rfl ?_
      exact jw_iret F d_M_count_113 ⟨rfl, rfl⟩
    | succ t ih =>
      intro i hi
      have hlt : i < a_n a := by omega
      refine jw_iload (pc := 70) F 4 d_M_count_70 rfl ?_
      refine jw_aload_n (pc := 72) F 0 d_M_count_72 rfl rfl ?_
      refine jw_get (pc := 73) F (jms inM) 0 rfl rfl 1 (by decide) (jm w_343) rfl d_M_count_73 ?_
      refine jw_icmp_ge (pc := 76) F 112 d_M_count_76 (by decide) (fun hz7 => False.elim (nI_ge hlt (by omega) hz7)) (fun hz7 => ?_)
      refine jw_aload_n (pc := 79) F 0 d_M_count_79 rfl rfl ?_
      refine jw_iload_n (pc := 80) F 1 d_M_count_80 rfl rfl ?_
      refine jw_iload (pc := 81) F 4 d_M_count_81 rfl ?_
      refine jw_callV_Ei (pc := 83) (As := [.int (nI r), .int (nI i)]) (rest := []) F ([]) ([]) (m_has l D am cB cI cL go gc gb gd gh gr gt gk gn 0 (nI (a_n a)) sz a hI hA r i hr hlt) (jw_cwV F.1.2.2.2.2 wl_good w_406 w_408 w_20 w_30 w_409 hd_M_has ⟨by decide, by decide⟩) 0 1 rfl rfl rfl (by simp) rfl rfl (Nat.le_of_ble_eq_true rfl) d_M_count_83 ⟨rfl, rfl⟩ ⟨by decide, by decide⟩ ?_
      refine jw_if_eq (pc := 86) F 106 d_M_count_86 (by decide) (fun h1 => ?_) (fun h1 => ?_)
      · refine jw_iinc (pc := 106) (v := nI (i + 1)) (lv' := [(0, .ref (am 0)), (1, .int (nI r)), (2, .int (nI 1)), (3, .int (nI ((List.range i).countP (fun k => a_hd a r k && !a_dl a k)))), (4, .int (nI (i + 1)))]) F 4 d_M_count_106 rfl (jw_inc _) (by decide) rfl ?_
        refine jw_goto (pc := 109) F 70 d_M_count_109 (by decide) ?_
        have q := ih (i + 1) (by omega)
        rw [gl_range_s, if_neg (by simp only [jb_0.mp h1, Bool.false_and]; decide), Nat.add_zero] at q
        exact q
      · refine jw_iload_n (pc := 89) F 2 d_M_count_89 rfl rfl ?_
        refine jw_if_eq (pc := 90) F 103 d_M_count_90 (by decide) (fun hz8 => False.elim (absurd hz8 (by decide))) (fun hz8 => ?_)
        refine jw_aload_n (pc := 93) F 0 d_M_count_93 rfl rfl ?_
        refine jw_get (pc := 94) F (jms inM) 0 rfl rfl 6 (by decide) (jm w_348) rfl d_M_count_94 ?_
        refine jw_iload (pc := 97) F 4 d_M_count_97 rfl ?_
        refine jw_zaldN (pc := 99) F 5 0 rfl rfl i rfl (by omega) (by decide) d_M_count_99 ?_
        rw [hA.2.2.2.2.1 i hlt]
        refine jw_if_ne (pc := 100) F 106 d_M_count_100 (by decide) (fun h2 => ?_) (fun h2 => ?_)
        · refine jw_iinc (pc := 106) (v := nI (i + 1)) (lv' := [(0, .ref (am 0)), (1, .int (nI r)), (2, .int (nI 1)), (3, .int (nI ((List.range i).countP (fun k => a_hd a r k && !a_dl a k)))), (4, .int (nI (i + 1)))]) F 4 d_M_count_106 rfl (jw_inc _) (by decide) rfl ?_
          refine jw_goto (pc := 109) F 70 d_M_count_109 (by decide) ?_
          have q := ih (i + 1) (by omega)
          rw [gl_range_s, if_neg (by simp only [jb_n.mp h2, Bool.not_true, Bool.and_false]; decide), Nat.add_zero] at q
          exact q
        · refine jw_iinc (pc := 103) (v := nI ((List.range i).countP (fun k => a_hd a r k && !a_dl a k) + 1)) (lv' := [(0, .ref (am 0)), (1, .int (nI r)), (2, .int (nI 1)), (3, .int (nI ((List.range i).countP (fun k => a_hd a r k && !a_dl a k) + 1))), (4, .int (nI i))]) F 3 d_M_count_103 rfl (jw_inc _) (by decide) rfl ?_
          refine jw_iinc (pc := 106) (v := nI (i + 1)) (lv' := [(0, .ref (am 0)), (1, .int (nI r)), (2, .int (nI 1)), (3, .int (nI ((List.range i).countP (fun k => a_hd a r k && !a_dl a k) + 1))), (4, .int (nI (i + 1)))]) F 4 d_M_count_106 rfl (jw_inc _) (by decide) rfl ?_
          refine jw_goto (pc := 109) F 70 d_M_count_109 (by decide) ?_
          have q := ih (i + 1) (by omega)
          rw [gl_range_s, if_pos (by simp only [jb_n.mp h1, jb_0.mp h2, Bool.not_false, Bool.and_true])] at q
          exact q
  refine jw_iconst (pc := 65) (v := nI 0) F d_M_count_65 (by decide) ?_
  refine jw_istore_n (pc := 66) (lv' := [(0, .ref (am 0)), (1, .int (nI r)), (2, .int (nI 1)), (3, .int (nI 0))]) F d_M_count_66 rfl (by decide) rfl ?_
  refine jw_iconst (pc := 67) (v := nI 0) F d_M_count_67 (by decide) ?_
  refine jw_istore (pc := 68) (lv' := [(0, .ref (am 0)), (1, .int (nI r)), (2, .int (nI 1)), (3, .int (nI 0)), (4, .int (nI 0))]) F d_M_count_68 (by decide) rfl ?_
  exact loop (a_n a) 0 (by omega)
end
section
section LK
def nx_P (a : AS) (r : Nat) (pr ls : Option Nat) (k : Nat) : Bool := !a_dl a k && (a_hd a r k && (decide (a_par a k = pr) && (match ls with | none => true | some q => a_ltb a q k)))
def nx_on (pr : Option Nat) : Int32 := match pr with | none => -1 | some e => nI e
theorem nx_on_iff {a : AS} {pr : Option Nat} {k : Nat} (hI : ab_I a) (hk : k < a_n a) (he : ∀ e, pr = some e → e < a_n a) : a_tg a k = nx_on pr ↔ a_par a k = pr := by
  have hn := hI.1
  cases pr with
  | none =>
    constructor
    · intro h; exact ab_par_m1 h
    · intro h
      unfold a_par at h
      by_cases g : a_tg a k = -1
      · exact g
      · rw [if_neg g] at h; cases h
  | some e =>
    have := he e rfl
    constructor
    · intro h; exact ab_par_nI (by omega) h
    · intro h; exact (ab_par_lt hI hk h).2.1
theorem nx_P_t {a : AS} {r k : Nat} {pr ls : Option Nat} : nx_P a r pr ls k = true ↔ a_dl a k = false ∧ a_hd a r k = true ∧ a_par a k = pr ∧ ∀ q, ls = some q → a_lt a q k := by
  unfold nx_P
  cases ls with
  | none => simp
  | some q =>
    simp only [Bool.and_eq_true, Bool.not_eq_true', decide_eq_true_eq, a_ltb_t]
    constructor
    · rintro ⟨h1, h2, h3, h4⟩
      exact ⟨h1, h2, h3, fun q2 e => by cases e; exact h4⟩
    · rintro ⟨h1, h2, h3, h4⟩
      exact ⟨h1, h2, h3, h4 q rfl⟩
def nx_inv (P : Nat → Bool) (lt : Nat → Nat → Prop) (i : Nat) (bv : Int32) : Prop := (bv = -1 ∧ ∀ k, k < i → P k = false) ∨ ∃ b, b < i ∧ bv = nI b ∧ P b = true ∧ ∀ k, k < i → P k = true → k = b ∨ lt b k
theorem nx_skip {P : Nat → Bool} {lt : Nat → Nat → Prop} {i : Nat} {bv : Int32} (h : nx_inv P lt i bv) (hp : P i = false) : nx_inv P lt (i + 1) bv := by
  rcases h with ⟨h1, h2⟩ | ⟨b, h1, h2, h3, h4⟩
  · refine Or.inl ⟨h1, fun k hk => ?_⟩
    by_cases e : k = i
    · rw [e]; exact hp
    · exact h2 k (by omega)
  · refine Or.inr ⟨b, by omega, h2, h3, fun k hk hpk => ?_⟩
    by_cases e : k = i
    · rw [e, hp] at hpk; cases hpk
    · exact h4 k (by omega) hpk
theorem nx_new {P : Nat → Bool} {lt : Nat → Nat → Prop} {i : Nat} (h2 : ∀ k, k < i → P k = false) (hp : P i = true) : nx_inv P lt (i + 1) (nI i) := by
  refine Or.inr ⟨i, by omega, rfl, hp, fun k hk hpk => ?_⟩
  by_cases e : k = i
  · exact Or.inl e
  · rw [h2 k (by omega)] at hpk; cases hpk
theorem nx_less {P : Nat → Bool} {lt : Nat → Nat → Prop} {i b : Nat} (htr : ∀ a b c, lt a b → lt b c → lt a c) (h4 : ∀ k, k < i → P k = true → k = b ∨ lt b k) (hp : P i = true) (hl : lt i b) : nx_inv P lt (i + 1) (nI i) := by
  refine Or.inr ⟨i, by omega, rfl, hp, fun k hk hpk => ?_⟩
  by_cases e : k = i
  · exact Or.inl e
  · rcases h4 k (by omega) hpk with g | g
    · rw [g]; exact Or.inr hl
    · exact Or.inr (htr _ _ _ hl g)
theorem nx_keep {P : Nat → Bool} {lt : Nat → Nat → Prop} {i b : Nat} (hb : b < i) (h3 : P b = true) (h4 : ∀ k, k < i → P k = true → k = b ∨ lt b k) (hl : lt b i) : nx_inv P lt (i + 1) (nI b) := by
  refine Or.inr ⟨b, by omega, rfl, h3, fun k hk hpk => ?_⟩
  by_cases e : k = i
  · rw [e]; exact Or.inr hl
  · exact h4 k (by omega) hpk
def lk_I (a : AS) (r : Nat) (R T : List Nat) : Prop := (R ++ T.reverse).Nodup ∧ (∀ x ∈ R ++ T.reverse, x < a_n a ∧ a_dl a x = false ∧ a_hd a r x = true) ∧ gm_good (a_par a) (a_lt a) [] (R ++ T.reverse) ∧ ∀ x ∈ T, ∀ p, a_par a x = some p → p ∈ R
def lk_C (a : AS) (r : Nat) (R T : List Nat) : Prop := ∀ x, x < a_n a → a_dl a x = false → a_hd a r x = true → (a_par a x = none → x ∈ R ++ T.reverse) ∧ ∀ p, a_par a x = some p → p ∈ R → x ∈ R ++ T.reverse
def lk_H (a : AS) (pr : Option Nat) (R T0 : List Nat) : Prop := match pr with
  | none => R = [] ∧ T0 = []
  | some e => (∃ R0, R = R0 ++ [e]) ∧ ∀ y0, T0.getLast? = some y0 → a_lt a y0 e
def lk_Q (a : AS) (r : Nat) (pr : Option Nat) (R T0 cs : List Nat) : Prop := lk_I a r R (T0 ++ cs) ∧ lk_H a pr R T0 ∧ (∀ x ∈ T0, a_par a x ≠ pr) ∧ (∀ x ∈ cs, a_par a x = pr) ∧ (∀ x ∈ cs, ∀ q, cs.getLast? = some q → x = q ∨ a_lt a x q) ∧
  ∀ x, x < a_n a → a_dl a x = false → a_hd a r x = true → a_par a x = pr → x ∈ cs ∨ ∀ q, cs.getLast? = some q → a_lt a q x
theorem lk_len {a : AS} {r : Nat} {R T : List Nat} (h : lk_I a r R T) : R.length + T.length ≤ a_n a := by
  have := gm_pig h.1 (fun x hx => (h.2.1 x hx).1)
  rw [List.length_append, List.length_reverse] at this
  exact this
theorem lk_pre {par : Nat → Option Nat} {lt : Nat → Nat → Prop} {xs ys : List Nat} {k p : Nat} (h : gm_good par lt [] (xs ++ ys)) (hk : k ∈ xs) (hp : par k = some p) : p ∈ xs := by
  obtain ⟨s, t, rfl⟩ := List.append_of_mem hk
  have h1 := (gm_good_app.mp (gm_good_app.mp h).1).2.1
  rcases gm_own_mem h1 with g | ⟨q, hq, g⟩
  · rw [g] at hp; cases hp
  · rw [g] at hp; cases hp
    simp at hq
    simp [hq]
theorem lk_notin {a : AS} {r k : Nat} {pr : Option Nat} {R T0 cs : List Nat} (hI : ab_I a) (h : lk_Q a r pr R T0 cs) (hk : k < a_n a) (hp : a_par a k = pr) (hq : ∀ q, cs.getLast? = some q → a_lt a q k) : k ∉ R ++ (T0 ++ cs).reverse := by
  obtain ⟨⟨n1, n2, n3, n4⟩, hH, h3, h4, h5, h6⟩ := h
  intro hm
  rcases List.mem_append.mp hm with g | g
  · cases pr with
    | none => rw [hH.1] at g; cases g
    | some e =>
      obtain ⟨⟨R0, rfl⟩, -⟩ := hH
      have hlt := (ab_par_lt hI hk hp).1
      rw [List.append_assoc] at n3 n1
      rcases List.mem_append.mp g with g | g
      · have he := lk_pre n3 g hp
        rw [List.nodup_append] at n1
        exact n1.2.2 e he e (by simp) rfl
      · have := List.mem_singleton.mp g
        omega
  · rw [List.mem_reverse] at g
    rcases List.mem_append.mp g with g | g
    · exact h3 k g hp
    · cases hl : cs.getLast? with
      | none => rw [List.getLast?_eq_none_iff] at hl; rw [hl] at g; cases g
      | some q =>
        have g1 := hq q hl
        rcases h5 k g q hl with e | e
        · rw [e] at g1; exact gm_lt_as _ _ g1 g1
        · exact gm_lt_as _ _ g1 e
theorem lk_push {a : AS} {r k : Nat} {pr : Option Nat} {R T0 cs : List Nat} (hI : ab_I a) (h : lk_Q a r pr R T0 cs) (hk : k < a_n a) (hP : nx_P a r pr cs.getLast? k = true) (hmin : ∀ x, x < a_n a → nx_P a r pr cs.getLast? x = true → x = k ∨ a_lt a k x) : lk_Q a r pr R T0 (cs ++ [k]) ∧ R.length + (T0 ++ cs).length < a_n a := by
  obtain ⟨hd, hh, hp, hq⟩ := nx_P_t.mp hP
  have hni := lk_notin hI h hk hp hq
  obtain ⟨⟨n1, n2, n3, n4⟩, hH, h3, h4, h5, h6⟩ := h
  have el : R ++ (T0 ++ (cs ++ [k])).reverse = R ++ k :: (T0 ++ cs).reverse := by
    rw [← List.append_assoc, List.reverse_append]; rfl
  have hown : gm_own (a_par a) (a_lt a) k R.reverse := by
    cases pr with
    | none => rw [hH.1]; exact hp
    | some e =>
      obtain ⟨⟨R0, rfl⟩, -⟩ := hH
      rw [List.reverse_append]
      exact Or.inl hp
  have hhead : ∀ y0, (T0 ++ cs).reverse.head? = some y0 → a_lt a y0 k := by
    intro y0 hy
    rw [List.head?_reverse] at hy
    cases hl : cs.getLast? with
    | none =>
      rw [List.getLast?_eq_none_iff] at hl
      subst hl
      rw [List.append_nil] at hy
      cases pr with
      | none => rw [hH.2] at hy; cases hy
      | some e => exact gm_lt_tr _ _ _ (hH.2 y0 hy) (Or.inl (ab_par_lt hI hk hp).2.2.2.1)
    | some q =>
      rw [List.getLast?_append, hl] at hy
      cases hy
      exact hq y0 hl
  have hnd : (R ++ k :: (T0 ++ cs).reverse).Nodup := by
    have hpm : (R ++ k :: (T0 ++ cs).reverse).Perm (k :: (R ++ (T0 ++ cs).reverse)) := List.perm_middle
    rw [hpm.nodup_iff, List.nodup_cons]
    exact ⟨hni, n1⟩
  have hmem : ∀ x, x ∈ R ++ k :: (T0 ++ cs).reverse → x = k ∨ x ∈ R ++ (T0 ++ cs).reverse := by
    intro x hx
    rcases List.mem_append.mp hx with g | g
    · exact Or.inr (List.mem_append_left _ g)
    · rcases List.mem_cons.mp g with g | g
      · exact Or.inl g
      · exact Or.inr (List.mem_append_right _ g)
  have hall : ∀ x ∈ R ++ k :: (T0 ++ cs).reverse, x < a_n a ∧ a_dl a x = false ∧ a_hd a r x = true := by
    intro x hx
    rcases hmem x hx with g | g
    · rw [g]; exact ⟨hk, hd, hh⟩
    · exact n2 x g
  have hlen := gm_pig hnd (fun x hx => (hall x hx).1)
  refine ⟨⟨⟨?_, ?_, ?_, ?_⟩, hH, h3, ?_, ?_, ?_⟩, ?_⟩
  · rw [el]; exact hnd
  · rw [el]; exact hall
  · rw [el]; exact gm_insert gm_lt_tr n3 hown hhead
  · intro x hx p hxp
    rw [← List.append_assoc] at hx
    rcases List.mem_append.mp hx with g | g
    · exact n4 x g p hxp
    · rw [List.mem_singleton.mp g, hp] at hxp
      subst hxp
      obtain ⟨⟨R0, rfl⟩, -⟩ := hH
      simp
  · intro x hx
    rcases List.mem_append.mp hx with g | g
    · exact h4 x g
    · rw [List.mem_singleton.mp g]; exact hp
  · intro x hx q hq2
    rw [List.getLast?_append] at hq2
    cases hq2
    rcases List.mem_append.mp hx with g | g
    · right
      cases hl : cs.getLast? with
      | none => rw [List.getLast?_eq_none_iff] at hl; rw [hl] at g; cases g
      | some q =>
        rcases h5 x g q hl with e | e
        · rw [e]; exact hq q hl
        · exact gm_lt_tr _ _ _ e (hq q hl)
    · exact Or.inl (List.mem_singleton.mp g)
  · intro x hx hxd hxh hxp
    rcases h6 x hx hxd hxh hxp with g | g
    · exact Or.inl (List.mem_append_left _ g)
    · rcases hmin x hx (nx_P_t.mpr ⟨hxd, hxh, hxp, g⟩) with e | e
      · exact Or.inl (by rw [e]; simp)
      · refine Or.inr (fun q hq2 => ?_)
        rw [List.getLast?_append] at hq2
        cases hq2
        exact e
  · rw [List.length_append, List.length_cons, List.length_reverse] at hlen
    omega
theorem lk_done {a : AS} {r : Nat} {pr : Option Nat} {R T0 cs : List Nat} (h : lk_Q a r pr R T0 cs) (hno : ∀ x, x < a_n a → nx_P a r pr cs.getLast? x = false) : ∀ x, x < a_n a → a_dl a x = false → a_hd a r x = true → a_par a x = pr → x ∈ cs := by
  intro x hx hxd hxh hxp
  rcases h.2.2.2.2.2 x hx hxd hxh hxp with g | g
  · exact g
  · have := nx_P_t.mpr ⟨hxd, hxh, hxp, g⟩
    rw [hno x hx] at this; cases this
theorem lk_0 {a : AS} {r : Nat} : lk_Q a r none [] [] [] := ⟨⟨List.nodup_nil, fun x hx => (by cases hx), trivial, fun x hx => (by cases hx)⟩, ⟨rfl, rfl⟩, fun x hx => (by cases hx), fun x hx => (by cases hx), fun x hx => (by cases hx), fun x _ _ _ _ => Or.inr (fun q hq => by cases hq)⟩
theorem lk_C0 {a : AS} {r : Nat} {cs : List Nat} (h : lk_Q a r none [] [] cs) (hno : ∀ x, x < a_n a → nx_P a r none cs.getLast? x = false) : lk_C a r [] cs := by
  intro x hx hxd hxh
  refine ⟨fun hp => ?_, fun p _ hp => by cases hp⟩
  have := lk_done h hno x hx hxd hxh hp
  simp [this]
theorem lk_pop {a : AS} {r e : Nat} {R T0 : List Nat} (h : lk_I a r R (T0 ++ [e])) : lk_Q a r (some e) (R ++ [e]) T0 [] := by
  obtain ⟨n1, n2, n3, n4⟩ := h
  have el : R ++ (T0 ++ [e]).reverse = (R ++ [e]) ++ (T0 ++ []).reverse := by
    rw [List.reverse_append, List.append_nil]; simp
  rw [el] at n1 n2 n3
  have hne : e ∉ R := by
    intro g
    rw [List.append_assoc, List.nodup_append] at n1
    exact n1.2.2 e g e (by simp) rfl
  have hp0 : ∀ x ∈ T0, a_par a x ≠ some e := fun x hx g => hne (n4 x (by simp [hx]) e g)
  refine ⟨⟨n1, n2, n3, fun x hx p hp => ?_⟩, ⟨⟨R, rfl⟩, fun y0 hy => ?_⟩, hp0, fun x hx => (by cases hx), fun x hx => (by cases hx), fun x _ _ _ _ => Or.inr (fun q hq => by cases hq)⟩
  · rw [List.append_nil] at hx
    exact List.mem_append_left _ (n4 x (by simp [hx]) p hp)
  · rw [List.append_nil] at n3
    have h1 := (gm_good_app.mp n3).2
    have hr : T0.reverse.head? = some y0 := by rw [List.head?_reverse]; exact hy
    cases hT : T0.reverse with
    | nil => rw [hT] at hr; cases hr
    | cons z l =>
      rw [hT] at hr h1
      cases hr
      have h2 := h1.1
      rw [List.reverse_append, List.append_nil] at h2
      rcases h2 with g | g
      · have hm : y0 ∈ T0 := by rw [← List.mem_reverse, hT]; simp
        exact absurd g (hp0 y0 hm)
      · exact g.1
theorem lk_Cp {a : AS} {r e : Nat} {R T0 cs : List Nat} (hC : lk_C a r R (T0 ++ [e])) (h : lk_Q a r (some e) (R ++ [e]) T0 cs) (hno : ∀ x, x < a_n a → nx_P a r (some e) cs.getLast? x = false) : lk_C a r (R ++ [e]) (T0 ++ cs) := by
  intro x hx hxd hxh
  have hsub : x ∈ R ++ (T0 ++ [e]).reverse → x ∈ R ++ [e] ++ (T0 ++ cs).reverse := by
    intro g
    simp only [List.mem_append, List.mem_reverse, List.mem_singleton] at g ⊢
    rcases g with g | g | g
    · exact Or.inl (Or.inl g)
    · exact Or.inr (Or.inl g)
    · exact Or.inl (Or.inr g)
  refine ⟨fun hp => hsub ((hC x hx hxd hxh).1 hp), fun p hp hpm => ?_⟩
  rcases List.mem_append.mp hpm with g | g
  · exact hsub ((hC x hx hxd hxh).2 p hp g)
  · rw [List.mem_singleton.mp g] at hp
    have := lk_done h hno x hx hxd hxh hp
    simp [this]
theorem lk_end {a : AS} {r : Nat} {R : List Nat} (hI : ab_I a) (h : lk_I a r R []) (hC : lk_C a r R []) : ab_own a r R := by
  obtain ⟨n1, n2, n3, n4⟩ := h
  have e : R ++ ([] : List Nat).reverse = R := by simp
  rw [e] at n1 n2 n3
  refine ⟨n1, fun x => ⟨fun hx => n2 x hx, ?_⟩, n3⟩
  induction x using Nat.strongRecOn with
  | ind x ih =>
    rintro ⟨hx, hxd, hxh⟩
    have h1 := hC x hx hxd hxh
    rw [e] at h1
    cases hp : a_par a x with
    | none => exact h1.1 hp
    | some p =>
      obtain ⟨g1, -, g3, -, g5⟩ := ab_par_lt hI hx hp
      exact h1.2 p hp (ih p g1 ⟨by omega, g3, g5 r hxh⟩)
def td_L (T : List Nat) (g : Nat → Int32) : Prop := ∀ i (h : i < T.length), g i = nI T[i]
theorem td_0 (g : Nat → Int32) : td_L [] g := fun i h => absurd h (Nat.not_lt_zero i)
theorem td_push {T : List Nat} {g : Nat → Int32} {k : Nat} (h : td_L T g) : td_L (T ++ [k]) (upd g T.length (nI k)) := by
  intro i hi
  rw [List.length_append] at hi
  have hi2 : i < T.length + 1 := hi
  by_cases e : i = T.length
  · subst e; rw [pk_us, List.getElem_append_right (Nat.le_refl _)]; simp
  · rw [pk_un e, List.getElem_append_left (by omega)]; exact h i (by omega)
theorem td_pop {T : List Nat} {g : Nat → Int32} {k : Nat} (h : td_L (T ++ [k]) g) : td_L T g ∧ g T.length = nI k := by
  refine ⟨fun i hi => ?_, ?_⟩
  · have := h i (by rw [List.length_append]; omega)
    rw [List.getElem_append_left hi] at this
    exact this
  · have := h T.length (by rw [List.length_append]; exact Nat.lt_succ_self _)
    rw [this, List.getElem_append_right (Nat.le_refl _)]
    simp
end LK
end
section
theorem w_451 : Cond.methodLink RM 84 y_M_isLess ∈ WL := jwl 451 rfl rfl
theorem w_453 : Cond.instanceMethod y_M_isLess ∈ WL := jwl 453 rfl rfl
theorem w_26 : Cond.selects RM y_M_isLess y_M_isLess ∈ WL := jwl 26 rfl rfl
theorem w_454 : Cond.code y_M_isLess b_M_isLess 3 (some .boolean) ∈ WL := jwl 454 rfl rfl
theorem w_351 : Cond.fieldLink RM 33 "WovenRowModel" "todo" "[I" ∈ WL := jwl 351 rfl rfl
theorem w_350 : Cond.fieldLink RM 30 "WovenRowModel" "row" "[I" ∈ WL := jwl 350 rfl rfl
theorem w_353 : Cond.fieldLink RM 87 "WovenRowModel" "size" "I" ∈ WL := jwl 353 rfl rfl
theorem w_447 : Cond.methodLink RM 90 y_M_next ∈ WL := jwl 447 rfl rfl
theorem w_449 : Cond.instanceMethod y_M_next ∈ WL := jwl 449 rfl rfl
theorem w_25 : Cond.selects RM y_M_next y_M_next ∈ WL := jwl 25 rfl rfl
theorem w_450 : Cond.code y_M_next b_M_next 6 (some .int) ∈ WL := jwl 450 rfl rfl
abbrev rm_M_next : Room := { frames := 1, cells := 0, slots := 0, locals := 22 }
abbrev rm_M_look : Room := { frames := 2, cells := 0, slots := 0, locals := 47 }
set_option maxHeartbeats 4000000 in
set_option maxRecDepth 100000 in
theorem m_next0 (l : Launch) (D : va_G) (am : Nat → Nat) (cB cI cL : ClassId) (go gc gb gd gh gr gt gk : Nat → Int32) (gn : Nat → Int64) (er op sz : Int32) (a : AS) (hI : ab_I a) (hA : mx_A a go gc gb gd gh op) (r : Nat) (hr : r < 4) (pr : Option Nat) (hpr : ∀ e, pr = some e → e < a_n a) : jw_Mi l D vCl (vTy cB cI cL) y_M_next s_M_next rm_M_next [.ref (am 0), .int (nI r), .int (nx_on pr), .int (-1)] (wM am cB cI cL go gc gb gd gh gr gt gk gn er op sz) (fun r9 w9 => nx_inv (nx_P a r pr none) (a_lt a) (a_n a) r9 ∧ w9 = wM am cB cI cL go gc gb gd gh gr gt gk gn er op sz) := by
  refine jw_ofi (cc := b_M_next) (nL := 6) (ret := (some .int)) (by decide) rfl (Nat.le_of_ble_eq_true rfl) (fun p e s m args below meth c A F hnm => ?_)
  refine jw_at (lv' := [(0, .ref (am 0)), (1, .int (nI r)), (2, .int (nx_on pr)), (3, .int (-1))]) (st' := []) (ws' := wM am cB cI cL go gc gb gd gh gr gt gk gn er op sz) rfl rfl rfl ?_
  have hn := hI.1
  have hop := hA.1
  subst hop
  have loop : ∀ (u i : Nat) (bv : Int32), i + u = a_n a → nx_inv (nx_P a r pr none) (a_lt a) i bv → jw_J p l e rm_M_next s m args below meth c D vCl A 6 (MQ below (va_Qi (fun r9 w9 => nx_inv (nx_P a r pr none) (a_lt a) (a_n a) r9 ∧ w9 = wM am cB cI cL go gc gb gd gh gr gt gk gn er (nI (a_n a)) sz) (jw_B D vCl (vTy cB cI cL) A) A) args s rm_M_next.cells rm_M_next.slots A) 0 0 6 [(0, .ref (am 0)), (1, .int (nI r)), (2, .int (nx_on pr)), (3, .int (-1)), (4, .int bv), (5, .int (nI i))] [] (wM am cB cI cL go gc gb gd gh gr gt gk gn er (nI (a_n a)) sz) := by
    intro u
    induction u with
    | zero =>
      intro i bv hi hb
      obtain rfl : i = a_n a := hi
      refine jw_iload (pc := 6) F 5 d_M_next_6 rfl ?_
      refine jw_aload_n (pc := 8) F 0 d_M_next_8 rfl rfl ?_
      refine jw_get (pc := 9) F (jms inM) 0 rfl rfl 1 (by decide) (jm w_343) rfl d_M_next_9 ?_
      refine jw_icmp_ge (pc := 12) F 89 d_M_next_12 (by decide) (fun hz1 => ?_) (fun hz1 => False.elim (hz1 (nI_le (Nat.le_refl _) (by omega))))
      refine jw_iload (pc := 89) F 4 d_M_next_89 rfl ?_
      exact jw_iret F d_M_next_91 ⟨hb, rfl⟩
    | succ u ih =>
      intro i bv hi hb
      have hlt : i < a_n a := by omega
      refine jw_iload (pc := 6) F 5 d_M_next_6 rfl ?_
      refine jw_aload_n (pc := 8) F 0 d_M_next_8 rfl rfl ?_
      refine jw_get (pc := 9) F (jms inM) 0 rfl rfl 1 (by decide) (jm w_343) rfl d_M_next_9 ?_
      refine jw_icmp_ge (pc := 12) F 89 d_M_next_12 (by decide) (fun hz2 => False.elim (nI_ge hlt (by omega) hz2)) (fun hz2 => ?_)
      refine jw_aload_n (pc := 15) F 0 d_M_next_15 rfl rfl ?_
      refine jw_get (pc := 16) F (jms inM) 0 rfl rfl 6 (by decide) (jm w_348) rfl d_M_next_16 ?_
      refine jw_iload (pc := 19) F 5 d_M_next_19 rfl ?_
      refine jw_zaldN (pc := 21) F 5 0 rfl rfl i rfl (by omega) (by decide) d_M_next_21 ?_
      rw [hA.2.2.2.2.1 i hlt]
      refine jw_if_ne (pc := 22) F 83 d_M_next_22 (by decide) (fun h1 => ?_) (fun h1 => ?_)
      · refine jw_iinc (pc := 83) (v := nI (i + 1)) (lv' := [(0, .ref (am 0)), (1, .int (nI r)), (2, .int (nx_on pr)), (3, .int (-1)), (4, .int bv), (5, .int (nI (i + 1)))]) F 5 d_M_next_83 rfl (jw_inc _) (by decide) rfl ?_
        refine jw_goto (pc := 86) F 6 d_M_next_86 (by decide) ?_
        exact ih (i + 1) bv (by omega) (nx_skip hb (by simp [nx_P, jb_n.mp h1]))
      · refine jw_aload_n (pc := 25) F 0 d_M_next_25 rfl rfl ?_
        refine jw_iload_n (pc := 26) F 1 d_M_next_26 rfl rfl ?_
        refine jw_iload (pc := 27) F 5 d_M_next_27 rfl ?_
        refine jw_callV_Ei (pc := 29) (As := [.int (nI r), .int (nI i)]) (rest := []) F ([]) ([]) (m_has l D am cB cI cL go gc gb gd gh gr gt gk gn er (nI (a_n a)) sz a hI hA r i hr hlt) (jw_cwV F.1.2.2.2.2 wl_good w_406 w_408 w_20 w_30 w_409 hd_M_has ⟨by decide, by decide⟩) 0 1 rfl rfl rfl (by simp) rfl rfl (Nat.le_of_ble_eq_true rfl) d_M_next_29 ⟨rfl, rfl⟩ ⟨by decide, by decide⟩ ?_
        refine jw_if_eq (pc := 32) F 83 d_M_next_32 (by decide) (fun h2 => ?_) (fun h2 => ?_)
        · refine jw_iinc (pc := 83) (v := nI (i + 1)) (lv' := [(0, .ref (am 0)), (1, .int (nI r)), (2, .int (nx_on pr)), (3, .int (-1)), (4, .int bv), (5, .int (nI (i + 1)))]) F 5 d_M_next_83 rfl (jw_inc _) (by decide) rfl ?_
          refine jw_goto (pc := 86) F 6 d_M_next_86 (by decide) ?_
          exact ih (i + 1) bv (by omega) (nx_skip hb (by simp [nx_P, jb_0.mp h2]))
        · refine jw_aload_n (pc := 35) F 0 d_M_next_35 rfl rfl ?_
          refine jw_get (pc := 36) F (jms inM) 0 rfl rfl 2 (by decide) (jm w_344) rfl d_M_next_36 ?_
          refine jw_iload (pc := 39) F 5 d_M_next_39 rfl ?_
          refine jw_ialdN (pc := 41) F 1 1 rfl rfl i rfl (by omega) (by decide) d_M_next_41 ?_
          rw [hA.2.1 i hlt]
          refine jw_iload_n (pc := 42) F 2 d_M_next_42 rfl rfl ?_
          refine jw_icmp_ne (pc := 43) F 83 d_M_next_43 (by decide) (fun h3 => ?_) (fun h3 => ?_)
          · have hp : ¬ a_par a i = pr := fun q => h3 ((nx_on_iff hI hlt hpr).mpr q)
            refine jw_iinc (pc := 83) (v := nI (i + 1)) (lv' := [(0, .ref (am 0)), (1, .int (nI r)), (2, .int (nx_on pr)), (3, .int (-1)), (4, .int bv), (5, .int (nI (i + 1)))]) F 5 d_M_next_83 rfl (jw_inc _) (by decide) rfl ?_
            refine jw_goto (pc := 86) F 6 d_M_next_86 (by decide) ?_
            exact ih (i + 1) bv (by omega) (nx_skip hb (by simp [nx_P, hp]))
          · have hp : a_par a i = pr := (nx_on_iff hI hlt hpr).mp h3
            refine jw_iload_n (pc := 46) F 3 d_M_next_46 rfl rfl ?_
            refine jw_if_lt (pc := 47) F 63 d_M_next_47 (by decide) (fun hz3 => ?_) (fun hz3 => False.elim (absurd hz3 (by decide)))
            have hPi : (nx_P a r pr none) i = true := by simp [nx_P, jb_0.mp h1, jb_n.mp h2, hp]
            rcases hb with ⟨rfl, hno⟩ | ⟨b, hb1, rfl, hb2, hb3⟩
            · refine jw_iload (pc := 63) F 4 d_M_next_63 rfl ?_
              refine jw_if_lt (pc := 65) F 79 d_M_next_65 (by decide) (fun hz4 => ?_) (fun hz4 => False.elim (absurd hz4 (by decide)))
              refine jw_iload (pc := 79) F 5 d_M_next_79 rfl ?_
              refine jw_istore (pc := 81) (lv' := [(0, .ref (am 0)), (1, .int (nI r)), (2, .int (nx_on pr)), (3, .int (-1)), (4, .int (nI i)), (5, .int (nI i))]) F d_M_next_81 (by decide) rfl ?_
              refine jw_iinc (pc := 83) (v := nI (i + 1)) (lv' := [(0, .ref (am 0)), (1, .int (nI r)), (2, .int (nx_on pr)), (3, .int (-1)), (4, .int (nI i)), (5, .int (nI (i + 1)))]) F 5 d_M_next_83 rfl (jw_inc _) (by decide) rfl ?_
              refine jw_goto (pc := 86) F 6 d_M_next_86 (by decide) ?_
              exact ih (i + 1) (nI i) (by omega) (nx_new hno hPi)
            · refine jw_iload (pc := 63) F 4 d_M_next_63 rfl ?_
              refine jw_if_lt (pc := 65) F 79 d_M_next_65 (by decide) (fun hz5 => False.elim (nI_pos (by omega) hz5)) (fun hz5 => ?_)
              refine jw_aload_n (pc := 68) F 0 d_M_next_68 rfl rfl ?_
              refine jw_iload (pc := 69) F 5 d_M_next_69 rfl ?_
              refine jw_iload (pc := 71) F 4 d_M_next_71 rfl ?_
              refine jw_callV_Ei (pc := 73) (As := [.int (nI i), .int (nI b)]) (rest := []) F ([]) ([]) (m_isLess l D am cB cI cL go gc gb gd gh gr gt gk gn er (nI (a_n a)) sz a hI hA i b hlt (by omega)) (jw_cwV F.1.2.2.2.2 wl_good w_451 w_453 w_26 w_30 w_454 hd_M_isLess ⟨by decide, by decide⟩) 0 1 rfl rfl rfl (by simp) rfl rfl (Nat.le_of_ble_eq_true rfl) d_M_next_73 ⟨rfl, rfl⟩ ⟨by decide, by decide⟩ ?_
              refine jw_if_eq (pc := 76) F 83 d_M_next_76 (by decide) (fun h5 => ?_) (fun h5 => ?_)
              · refine jw_iinc (pc := 83) (v := nI (i + 1)) (lv' := [(0, .ref (am 0)), (1, .int (nI r)), (2, .int (nx_on pr)), (3, .int (-1)), (4, .int (nI b)), (5, .int (nI (i + 1)))]) F 5 d_M_next_83 rfl (jw_inc _) (by decide) rfl ?_
                refine jw_goto (pc := 86) F 6 d_M_next_86 (by decide) ?_
                exact ih (i + 1) (nI b) (by omega) (nx_keep hb1 hb2 hb3 (ab_tot hI hlt (by omega) (by omega) (fun q => by rw [a_ltb_t.mpr q] at h5; exact absurd h5 (by decide))))
              · refine jw_iload (pc := 79) F 5 d_M_next_79 rfl ?_
                refine jw_istore (pc := 81) (lv' := [(0, .ref (am 0)), (1, .int (nI r)), (2, .int (nx_on pr)), (3, .int (-1)), (4, .int (nI i)), (5, .int (nI i))]) F d_M_next_81 (by decide) rfl ?_
                refine jw_iinc (pc := 83) (v := nI (i + 1)) (lv' := [(0, .ref (am 0)), (1, .int (nI r)), (2, .int (nx_on pr)), (3, .int (-1)), (4, .int (nI i)), (5, .int (nI (i + 1)))]) F 5 d_M_next_83 rfl (jw_inc _) (by decide) rfl ?_
                refine jw_goto (pc := 86) F 6 d_M_next_86 (by decide) ?_
                exact ih (i + 1) (nI i) (by omega) (nx_less gm_lt_tr hb3 hPi (a_ltb_t.mp (jb_n.mp h5)))
  refine jw_iconst (pc := 0) (v := -1) F d_M_next_0 (by decide) ?_
  refine jw_istore (pc := 1) (lv' := [(0, .ref (am 0)), (1, .int (nI r)), (2, .int (nx_on pr)), (3, .int (-1)), (4, .int (-1))]) F d_M_next_1 (by decide) rfl ?_
  refine jw_iconst (pc := 3) (v := nI 0) F d_M_next_3 (by decide) ?_
  refine jw_istore (pc := 4) (lv' := [(0, .ref (am 0)), (1, .int (nI r)), (2, .int (nx_on pr)), (3, .int (-1)), (4, .int (-1)), (5, .int (nI 0))]) F d_M_next_4 (by decide) rfl ?_
  exact loop (a_n a) 0 (-1) (by omega) (Or.inl ⟨rfl, fun k hk => absurd hk (Nat.not_lt_zero k)⟩)
set_option maxHeartbeats 4000000 in
set_option maxRecDepth 100000 in
theorem m_next1 (l : Launch) (D : va_G) (am : Nat → Nat) (cB cI cL : ClassId) (go gc gb gd gh gr gt gk : Nat → Int32) (gn : Nat → Int64) (er op sz : Int32) (a : AS) (hI : ab_I a) (hA : mx_A a go gc gb gd gh op) (r : Nat) (hr : r < 4) (pr : Option Nat) (hpr : ∀ e, pr = some e → e < a_n a) (q9 : Nat) (hq9 : q9 < a_n a) : jw_Mi l D vCl (vTy cB cI cL) y_M_next s_M_next rm_M_next [.ref (am 0), .int (nI r), .int (nx_on pr), .int (nI q9)] (wM am cB cI cL go gc gb gd gh gr gt gk gn er op sz) (fun r9 w9 => nx_inv (nx_P a r pr (some q9)) (a_lt a) (a_n a) r9 ∧ w9 = wM am cB cI cL go gc gb gd gh gr gt gk gn er op sz) := by
  refine jw_ofi (cc := b_M_next) (nL := 6) (ret := (some .int)) (by decide) rfl (Nat.le_of_ble_eq_true rfl) (fun p e s m args below meth c A F hnm => ?_)
  refine jw_at (lv' := [(0, .ref (am 0)), (1, .int (nI r)), (2, .int (nx_on pr)), (3, .int (nI q9))]) (st' := []) (ws' := wM am cB cI cL go gc gb gd gh gr gt gk gn er op sz) rfl rfl rfl ?_
  have hn := hI.1
  have hop := hA.1
  subst hop
  have loop : ∀ (u i : Nat) (bv : Int32), i + u = a_n a → nx_inv (nx_P a r pr (some q9)) (a_lt a) i bv → jw_J p l e rm_M_next s m args below meth c D vCl A 6 (MQ below (va_Qi (fun r9 w9 => nx_inv (nx_P a r pr (some q9)) (a_lt a) (a_n a) r9 ∧ w9 = wM am cB cI cL go gc gb gd gh gr gt gk gn er (nI (a_n a)) sz) (jw_B D vCl (vTy cB cI cL) A) A) args s rm_M_next.cells rm_M_next.slots A) 0 0 6 [(0, .ref (am 0)), (1, .int (nI r)), (2, .int (nx_on pr)), (3, .int (nI q9)), (4, .int bv), (5, .int (nI i))] [] (wM am cB cI cL go gc gb gd gh gr gt gk gn er (nI (a_n a)) sz) := by
    intro u
    induction u with
    | zero =>
      intro i bv hi hb
      obtain rfl : i = a_n a := hi
      refine jw_iload (pc := 6) F 5 d_M_next_6 rfl ?_
      refine jw_aload_n (pc := 8) F 0 d_M_next_8 rfl rfl ?_
      refine jw_get (pc := 9) F (jms inM) 0 rfl rfl 1 (by decide) (jm w_343) rfl d_M_next_9 ?_
      refine jw_icmp_ge (pc := 12) F 89 d_M_next_12 (by decide) (fun hz1 => ?_) (fun hz1 => False.elim (hz1 (nI_le (Nat.le_refl _) (by omega))))
      refine jw_iload (pc := 89) F 4 d_M_next_89 rfl ?_
      exact jw_iret F d_M_next_91 ⟨hb, rfl⟩
    | succ u ih =>
      intro i bv hi hb
      have hlt : i < a_n a := by omega
      refine jw_iload (pc := 6) F 5 d_M_next_6 rfl ?_
      refine jw_aload_n (pc := 8) F 0 d_M_next_8 rfl rfl ?_
      refine jw_get (pc := 9) F (jms inM) 0 rfl rfl 1 (by decide) (jm w_343) rfl d_M_next_9 ?_
      refine jw_icmp_ge (pc := 12) F 89 d_M_next_12 (by decide) (fun hz2 => False.elim (nI_ge hlt (by omega) hz2)) (fun hz2 => ?_)
      refine jw_aload_n (pc := 15) F 0 d_M_next_15 rfl rfl ?_
      refine jw_get (pc := 16) F (jms inM) 0 rfl rfl 6 (by decide) (jm w_348) rfl d_M_next_16 ?_
      refine jw_iload (pc := 19) F 5 d_M_next_19 rfl ?_
      refine jw_zaldN (pc := 21) F 5 0 rfl rfl i rfl (by omega) (by decide) d_M_next_21 ?_
      rw [hA.2.2.2.2.1 i hlt]
      refine jw_if_ne (pc := 22) F 83 d_M_next_22 (by decide) (fun h1 => ?_) (fun h1 => ?_)
      · refine jw_iinc (pc := 83) (v := nI (i + 1)) (lv' := [(0, .ref (am 0)), (1, .int (nI r)), (2, .int (nx_on pr)), (3, .int (nI q9)), (4, .int bv), (5, .int (nI (i + 1)))]) F 5 d_M_next_83 rfl (jw_inc _) (by decide) rfl ?_
        refine jw_goto (pc := 86) F 6 d_M_next_86 (by decide) ?_
        exact ih (i + 1) bv (by omega) (nx_skip hb (by simp [nx_P, jb_n.mp h1]))
      · refine jw_aload_n (pc := 25) F 0 d_M_next_25 rfl rfl ?_
        refine jw_iload_n (pc := 26) F 1 d_M_next_26 rfl rfl ?_
        refine jw_iload (pc := 27) F 5 d_M_next_27 rfl ?_
        refine jw_callV_Ei (pc := 29) (As := [.int (nI r), .int (nI i)]) (rest := []) F ([]) ([]) (m_has l D am cB cI cL go gc gb gd gh gr gt gk gn er (nI (a_n a)) sz a hI hA r i hr hlt) (jw_cwV F.1.2.2.2.2 wl_good w_406 w_408 w_20 w_30 w_409 hd_M_has ⟨by decide, by decide⟩) 0 1 rfl rfl rfl (by simp) rfl rfl (Nat.le_of_ble_eq_true rfl) d_M_next_29 ⟨rfl, rfl⟩ ⟨by decide, by decide⟩ ?_
        refine jw_if_eq (pc := 32) F 83 d_M_next_32 (by decide) (fun h2 => ?_) (fun h2 => ?_)
        · refine jw_iinc (pc := 83) (v := nI (i + 1)) (lv' := [(0, .ref (am 0)), (1, .int (nI r)), (2, .int (nx_on pr)), (3, .int (nI q9)), (4, .int bv), (5, .int (nI (i + 1)))]) F 5 d_M_next_83 rfl (jw_inc _) (by decide) rfl ?_
          refine jw_goto (pc := 86) F 6 d_M_next_86 (by decide) ?_
          exact ih (i + 1) bv (by omega) (nx_skip hb (by simp [nx_P, jb_0.mp h2]))
        · refine jw_aload_n (pc := 35) F 0 d_M_next_35 rfl rfl ?_
          refine jw_get (pc := 36) F (jms inM) 0 rfl rfl 2 (by decide) (jm w_344) rfl d_M_next_36 ?_
          refine jw_iload (pc := 39) F 5 d_M_next_39 rfl ?_
          refine jw_ialdN (pc := 41) F 1 1 rfl rfl i rfl (by omega) (by decide) d_M_next_41 ?_
          rw [hA.2.1 i hlt]
          refine jw_iload_n (pc := 42) F 2 d_M_next_42 rfl rfl ?_
          refine jw_icmp_ne (pc := 43) F 83 d_M_next_43 (by decide) (fun h3 => ?_) (fun h3 => ?_)
          · have hp : ¬ a_par a i = pr := fun q => h3 ((nx_on_iff hI hlt hpr).mpr q)
            refine jw_iinc (pc := 83) (v := nI (i + 1)) (lv' := [(0, .ref (am 0)), (1, .int (nI r)), (2, .int (nx_on pr)), (3, .int (nI q9)), (4, .int bv), (5, .int (nI (i + 1)))]) F 5 d_M_next_83 rfl (jw_inc _) (by decide) rfl ?_
            refine jw_goto (pc := 86) F 6 d_M_next_86 (by decide) ?_
            exact ih (i + 1) bv (by omega) (nx_skip hb (by simp [nx_P, hp]))
          · have hp : a_par a i = pr := (nx_on_iff hI hlt hpr).mp h3
            refine jw_iload_n (pc := 46) F 3 d_M_next_46 rfl rfl ?_
            refine jw_if_lt (pc := 47) F 63 d_M_next_47 (by decide) (fun hz3 => False.elim (nI_pos (by omega) hz3)) (fun hz3 => ?_)
            refine jw_aload_n (pc := 50) F 0 d_M_next_50 rfl rfl ?_
            refine jw_iload_n (pc := 51) F 3 d_M_next_51 rfl rfl ?_
            refine jw_iload (pc := 52) F 5 d_M_next_52 rfl ?_
            refine jw_callV_Ei (pc := 54) (As := [.int (nI q9), .int (nI i)]) (rest := []) F ([]) ([]) (m_isLess l D am cB cI cL go gc gb gd gh gr gt gk gn er (nI (a_n a)) sz a hI hA q9 i hq9 hlt) (jw_cwV F.1.2.2.2.2 wl_good w_451 w_453 w_26 w_30 w_454 hd_M_isLess ⟨by decide, by decide⟩) 0 1 rfl rfl rfl (by simp) rfl rfl (Nat.le_of_ble_eq_true rfl) d_M_next_54 ⟨rfl, rfl⟩ ⟨by decide, by decide⟩ ?_
            refine jw_if_ne (pc := 57) F 63 d_M_next_57 (by decide) (fun h4 => ?_) (fun h4 => ?_)
            · have hPi : (nx_P a r pr (some q9)) i = true := by simp [nx_P, jb_0.mp h1, jb_n.mp h2, hp, jb_n.mp h4]
              rcases hb with ⟨rfl, hno⟩ | ⟨b, hb1, rfl, hb2, hb3⟩
              · refine jw_iload (pc := 63) F 4 d_M_next_63 rfl ?_
                refine jw_if_lt (pc := 65) F 79 d_M_next_65 (by decide) (fun hz4 => ?_) (fun hz4 => False.elim (absurd hz4 (by decide)))
                refine jw_iload (pc := 79) F 5 d_M_next_79 rfl ?_
                refine jw_istore (pc := 81) (lv' := [(0, .ref (am 0)), (1, .int (nI r)), (2, .int (nx_on pr)), (3, .int (nI q9)), (4, .int (nI i)), (5, .int (nI i))]) F d_M_next_81 (by decide) rfl ?_
                refine jw_iinc (pc := 83) (v := nI (i + 1)) (lv' := [(0, .ref (am 0)), (1, .int (nI r)), (2, .int (nx_on pr)), (3, .int (nI q9)), (4, .int (nI i)), (5, .int (nI (i + 1)))]) F 5 d_M_next_83 rfl (jw_inc _) (by decide) rfl ?_
                refine jw_goto (pc := 86) F 6 d_M_next_86 (by decide) ?_
                exact ih (i + 1) (nI i) (by omega) (nx_new hno hPi)
              · refine jw_iload (pc := 63) F 4 d_M_next_63 rfl ?_
                refine jw_if_lt (pc := 65) F 79 d_M_next_65 (by decide) (fun hz5 => False.elim (nI_pos (by omega) hz5)) (fun hz5 => ?_)
                refine jw_aload_n (pc := 68) F 0 d_M_next_68 rfl rfl ?_
                refine jw_iload (pc := 69) F 5 d_M_next_69 rfl ?_
                refine jw_iload (pc := 71) F 4 d_M_next_71 rfl ?_
                refine jw_callV_Ei (pc := 73) (As := [.int (nI i), .int (nI b)]) (rest := []) F ([]) ([]) (m_isLess l D am cB cI cL go gc gb gd gh gr gt gk gn er (nI (a_n a)) sz a hI hA i b hlt (by omega)) (jw_cwV F.1.2.2.2.2 wl_good w_451 w_453 w_26 w_30 w_454 hd_M_isLess ⟨by decide, by decide⟩) 0 1 rfl rfl rfl (by simp) rfl rfl (Nat.le_of_ble_eq_true rfl) d_M_next_73 ⟨rfl, rfl⟩ ⟨by decide, by decide⟩ ?_
                refine jw_if_eq (pc := 76) F 83 d_M_next_76 (by decide) (fun h5 => ?_) (fun h5 => ?_)
                · refine jw_iinc (pc := 83) (v := nI (i + 1)) (lv' := [(0, .ref (am 0)), (1, .int (nI r)), (2, .int (nx_on pr)), (3, .int (nI q9)), (4, .int (nI b)), (5, .int (nI (i + 1)))]) F 5 d_M_next_83 rfl (jw_inc _) (by decide) rfl ?_
                  refine jw_goto (pc := 86) F 6 d_M_next_86 (by decide) ?_
                  exact ih (i + 1) (nI b) (by omega) (nx_keep hb1 hb2 hb3 (ab_tot hI hlt (by omega) (by omega) (fun q => by rw [a_ltb_t.mpr q] at h5; exact absurd h5 (by decide))))
                · refine jw_iload (pc := 79) F 5 d_M_next_79 rfl ?_
                  refine jw_istore (pc := 81) (lv' := [(0, .ref (am 0)), (1, .int (nI r)), (2, .int (nx_on pr)), (3, .int (nI q9)), (4, .int (nI i)), (5, .int (nI i))]) F d_M_next_81 (by decide) rfl ?_
                  refine jw_iinc (pc := 83) (v := nI (i + 1)) (lv' := [(0, .ref (am 0)), (1, .int (nI r)), (2, .int (nx_on pr)), (3, .int (nI q9)), (4, .int (nI i)), (5, .int (nI (i + 1)))]) F 5 d_M_next_83 rfl (jw_inc _) (by decide) rfl ?_
                  refine jw_goto (pc := 86) F 6 d_M_next_86 (by decide) ?_
                  exact ih (i + 1) (nI i) (by omega) (nx_less gm_lt_tr hb3 hPi (a_ltb_t.mp (jb_n.mp h5)))
            · refine jw_goto (pc := 60) F 83 d_M_next_60 (by decide) ?_
              refine jw_iinc (pc := 83) (v := nI (i + 1)) (lv' := [(0, .ref (am 0)), (1, .int (nI r)), (2, .int (nx_on pr)), (3, .int (nI q9)), (4, .int bv), (5, .int (nI (i + 1)))]) F 5 d_M_next_83 rfl (jw_inc _) (by decide) rfl ?_
              refine jw_goto (pc := 86) F 6 d_M_next_86 (by decide) ?_
              exact ih (i + 1) bv (by omega) (nx_skip hb (by simp [nx_P, jb_0.mp h4]))
  refine jw_iconst (pc := 0) (v := -1) F d_M_next_0 (by decide) ?_
  refine jw_istore (pc := 1) (lv' := [(0, .ref (am 0)), (1, .int (nI r)), (2, .int (nx_on pr)), (3, .int (nI q9)), (4, .int (-1))]) F d_M_next_1 (by decide) rfl ?_
  refine jw_iconst (pc := 3) (v := nI 0) F d_M_next_3 (by decide) ?_
  refine jw_istore (pc := 4) (lv' := [(0, .ref (am 0)), (1, .int (nI r)), (2, .int (nx_on pr)), (3, .int (nI q9)), (4, .int (-1)), (5, .int (nI 0))]) F d_M_next_4 (by decide) rfl ?_
  exact loop (a_n a) 0 (-1) (by omega) (Or.inl ⟨rfl, fun k hk => absurd hk (Nat.not_lt_zero k)⟩)
set_option maxHeartbeats 4000000 in
set_option maxRecDepth 100000 in
theorem m_look (l : Launch) (D : va_G) (am : Nat → Nat) (cB cI cL : ClassId) (go gc gb gd gh gr gt gk : Nat → Int32) (gn : Nat → Int64) (er op sz : Int32) (a : AS) (hI : ab_I a) (hA : mx_A a go gc gb gd gh op) (r : Nat) (hr : r < 4) : jw_Mv l D vCl (vTy cB cI cL) y_M_look s_M_look rm_M_look [.ref (am 0), .int (nI r)] (wM am cB cI cL go gc gb gd gh gr gt gk gn er op sz) (fun w9 => ∃ (hr9 ht9 : Nat → Int32) (M : List Nat), w9 = wM am cB cI cL go gc gb gd gh hr9 ht9 gk gn er op (nI M.length) ∧ td_L M hr9 ∧ ab_own a r M) := by
  refine jw_ofv (cc := b_M_look) (nL := 5) (ret := none) (by decide) rfl (Nat.le_of_ble_eq_true rfl) (fun p e s m args below meth c A F hnm => ?_)
  refine jw_at (lv' := [(0, .ref (am 0)), (1, .int (nI r))]) (st' := []) (ws' := wM am cB cI cL go gc gb gd gh gr gt gk gn er op sz) rfl rfl rfl ?_
  have hn := hI.1
  have outer : ∀ (u : Nat) (R T : List Nat) (g7 g8 : Nat → Int32), R.length + u = a_n a → lk_I a r R T → lk_C a r R T → td_L R g7 → td_L T g8 → jw_J p l e rm_M_look s m args below meth c D vCl A 5 (MQ below (va_Qv (fun w9 => ∃ (hr9 ht9 : Nat → Int32) (M : List Nat), w9 = wM am cB cI cL go gc gb gd gh hr9 ht9 gk gn er op (nI M.length) ∧ td_L M hr9 ∧ ab_own a r M) (jw_B D vCl (vTy cB cI cL) A) A) args s rm_M_look.cells rm_M_look.slots A) 0 0 40 [(0, .ref (am 0)), (1, .int (nI r)), (2, .int (nI T.length))] [] (wM am cB cI cL go gc gb gd gh g7 g8 gk gn er op (nI R.length)) := by
    intro u
    induction u with
    | zero =>
      intro R T g7 g8 hu hi hc h7 h8
      have hlen := lk_len hi
      obtain rfl : T = [] := List.eq_nil_of_length_eq_zero (by omega)
      refine jw_at (lv' := [(0, .ref (am 0)), (1, .int (nI r)), (2, .int (nI 0))]) (st' := []) (ws' := wM am cB cI cL go gc gb gd gh g7 g8 gk gn er op (nI R.length)) rfl rfl rfl ?_
      refine jw_iload_n (pc := 40) F 2 d_M_look_40 rfl rfl ?_
      refine jw_if_le (pc := 41) F 112 d_M_look_41 (by decide) (fun hz1 => ?_) (fun hz1 => False.elim (hz1 (by decide)))
      exact jw_vret F d_M_look_112 ⟨_, _, R, rfl, h7, lk_end hI hi hc⟩
    | succ u ihw =>
      intro R T g7 g8 hu hi hc h7 h8
      have hlen := lk_len hi
      rcases List.eq_nil_or_concat T with rfl | ⟨T0, e9, rfl⟩
      · refine jw_at (lv' := [(0, .ref (am 0)), (1, .int (nI r)), (2, .int (nI 0))]) (st' := []) (ws' := wM am cB cI cL go gc gb gd gh g7 g8 gk gn er op (nI R.length)) rfl rfl rfl ?_
        refine jw_iload_n (pc := 40) F 2 d_M_look_40 rfl rfl ?_
        refine jw_if_le (pc := 41) F 112 d_M_look_41 (by decide) (fun hz2 => ?_) (fun hz2 => False.elim (hz2 (by decide)))
        exact jw_vret F d_M_look_112 ⟨_, _, R, rfl, h7, lk_end hI hi hc⟩
      · rw [List.concat_eq_append] at hi hc h8 hlen ⊢
        obtain ⟨h8a, h8b⟩ := td_pop h8
        have he9 := hi.2.1 e9 (by simp)
        have hlen2 : R.length + T0.length + 1 ≤ a_n a := by rw [List.length_append] at hlen; exact hlen
        refine jw_at (lv' := [(0, .ref (am 0)), (1, .int (nI r)), (2, .int (nI (T0.length + 1)))]) (st' := []) (ws' := wM am cB cI cL go gc gb gd gh g7 g8 gk gn er op (nI R.length)) (by rw [List.length_append]; rfl) rfl rfl ?_
        refine jw_iload_n (pc := 40) F 2 d_M_look_40 rfl rfl ?_
        refine jw_if_le (pc := 41) F 112 d_M_look_41 (by decide) (fun hz3 => False.elim (nI_nle (by omega) (by omega) hz3)) (fun hz3 => ?_)
        refine jw_aload_n (pc := 44) F 0 d_M_look_44 rfl rfl ?_
        refine jw_get (pc := 45) F (jms inM) 0 rfl rfl 9 (by decide) (jm w_351) rfl d_M_look_45 ?_
        refine jw_iinc (pc := 48) (v := nI T0.length) (lv' := [(0, .ref (am 0)), (1, .int (nI r)), (2, .int (nI T0.length))]) F 2 d_M_look_48 rfl (jw_dec _) (by decide) rfl ?_
        refine jw_iload_n (pc := 51) F 2 d_M_look_51 rfl rfl ?_
        refine jw_ialdN (pc := 52) F 8 1 rfl rfl T0.length rfl (by omega) (by decide) d_M_look_52 ?_
        rw [h8b]
        refine jw_istore_n (pc := 53) (lv' := [(0, .ref (am 0)), (1, .int (nI r)), (2, .int (nI T0.length)), (3, .int (nI e9))]) F d_M_look_53 rfl (by decide) rfl ?_
        refine jw_aload_n (pc := 54) F 0 d_M_look_54 rfl rfl ?_
        refine jw_get (pc := 55) F (jms inM) 0 rfl rfl 8 (by decide) (jm w_350) rfl d_M_look_55 ?_
        refine jw_aload_n (pc := 58) F 0 d_M_look_58 rfl rfl ?_
        refine jw_dup (pc := 59) F d_M_look_59 rfl ?_
        refine jw_get (pc := 60) F (jms inM) 0 rfl rfl 11 (by decide) (jm w_353) rfl d_M_look_60 ?_
        refine jw_dup_x1 (pc := 63) F d_M_look_63 rfl rfl ?_
        refine jw_iconst (pc := 64) (v := 1) F d_M_look_64 (by decide) ?_
        refine jw_iadd (pc := 65) F d_M_look_65 ?_
        rw [nI_1]
        refine jw_put (pc := 66) (v := .int (nI (R.length + 1))) (ty := .int) (ws' := wM am cB cI cL go gc gb gd gh g7 g8 gk gn er op (nI (R.length + 1))) F (jms inM) tM tM_ok nmM 0 rfl rfl 11 (by decide) (jm w_353) rfl (by decide +kernel) rfl rfl (Nat.le_of_ble_eq_true rfl) d_M_look_66 rfl ?_
        refine jw_iload_n (pc := 69) F 3 d_M_look_69 rfl rfl ?_
        refine jw_iastN (pc := 70) (ws' := wM am cB cI cL go gc gb gd gh (upd g7 R.length (nI e9)) g8 gk gn er op (nI (R.length + 1))) F 7 1 rfl rfl R.length rfl (by omega) (by decide) d_M_look_70 rfl ?_
        refine jw_aload_n (pc := 71) F 0 d_M_look_71 rfl rfl ?_
        refine jw_iload_n (pc := 72) F 1 d_M_look_72 rfl rfl ?_
        refine jw_iload_n (pc := 73) F 3 d_M_look_73 rfl rfl ?_
        refine jw_iconst (pc := 74) (v := -1) F d_M_look_74 (by decide) ?_
        refine jw_callV_Ci (pc := 75) (As := [.int (nI r), .int (nI e9), .int (-1)]) (rest := []) F (m_next0 l D am cB cI cL go gc gb gd gh (upd g7 R.length (nI e9)) g8 gk gn er op (nI (R.length + 1)) a hI hA r hr (some e9) (fun e h => by cases h; exact he9.1)) (jw_cwV F.1.2.2.2.2 wl_good w_447 w_449 w_25 w_30 w_450 hd_M_next ⟨by decide, by decide⟩) 0 1 rfl rfl rfl rfl rfl rfl (Nat.le_of_ble_eq_true rfl) d_M_look_75 ⟨rfl, rfl⟩ ⟨by decide, by decide⟩ (fun kv w hw => ?_)
        obtain ⟨hb, rfl⟩ := hw
        have hQ0 := lk_pop hi
        have h7a : td_L (R ++ [e9]) (upd g7 R.length (nI e9)) := td_push h7
        have inner : ∀ (n9 : Nat) (cs : List Nat) (g9 : Nat → Int32) (kv : Int32), R.length + 1 + (T0 ++ cs).length + n9 = a_n a → lk_Q a r (some e9) (R ++ [e9]) T0 cs → nx_inv (nx_P a r (some e9) cs.getLast?) (a_lt a) (a_n a) kv → td_L (T0 ++ cs) g9 → jw_J p l e rm_M_look s m args below meth c D vCl A 5 (MQ below (va_Qv (fun w9 => ∃ (hr9 ht9 : Nat → Int32) (M : List Nat), w9 = wM am cB cI cL go gc gb gd gh hr9 ht9 gk gn er op (nI M.length) ∧ td_L M hr9 ∧ ab_own a r M) (jw_B D vCl (vTy cB cI cL) A) A) args s rm_M_look.cells rm_M_look.slots A) 0 0 80 [(0, .ref (am 0)), (1, .int (nI r)), (2, .int (nI (T0 ++ cs).length)), (3, .int (nI e9)), (4, .int kv)] [] (wM am cB cI cL go gc gb gd gh (upd g7 R.length (nI e9)) g9 gk gn er op (nI (R.length + 1))) := by
          intro n9
          induction n9 with
          | zero =>
            intro cs g9 kv hc9 hq hb hg
            rcases hb with ⟨rfl, hno⟩ | ⟨k, hk, rfl, hk2, hk3⟩
            · refine jw_iload (pc := 80) F 4 d_M_look_80 rfl ?_
              refine jw_if_lt (pc := 82) F 109 d_M_look_82 (by decide) (fun hz4 => ?_) (fun hz4 => False.elim (absurd hz4 (by decide)))
              refine jw_goto (pc := 109) F 40 d_M_look_109 (by decide) ?_
              refine jw_loc (lv' := [(0, .ref (am 0)), (1, .int (nI r)), (2, .int (nI (T0 ++ cs).length))]) [0, 1, 2] rfl ?_
              have q := ihw (R ++ [e9]) (T0 ++ cs) _ g9 (by rw [List.length_append]; show R.length + 1 + u = _; omega) hq.1 (lk_Cp hc hq hno) h7a hg
              rw [List.length_append (as := R) (bs := [e9]), List.length_singleton] at q
              exact q
            · exfalso
              have := (lk_push hI hq hk hk2 hk3).2
              rw [List.length_append, List.length_singleton] at this
              omega
          | succ n9 ih =>
            intro cs g9 kv hc9 hq hb hg
            rcases hb with ⟨rfl, hno⟩ | ⟨k, hk, rfl, hk2, hk3⟩
            · refine jw_iload (pc := 80) F 4 d_M_look_80 rfl ?_
              refine jw_if_lt (pc := 82) F 109 d_M_look_82 (by decide) (fun hz5 => ?_) (fun hz5 => False.elim (absurd hz5 (by decide)))
              refine jw_goto (pc := 109) F 40 d_M_look_109 (by decide) ?_
              refine jw_loc (lv' := [(0, .ref (am 0)), (1, .int (nI r)), (2, .int (nI (T0 ++ cs).length))]) [0, 1, 2] rfl ?_
              have q := ihw (R ++ [e9]) (T0 ++ cs) _ g9 (by rw [List.length_append]; show R.length + 1 + u = _; omega) hq.1 (lk_Cp hc hq hno) h7a hg
              rw [List.length_append (as := R) (bs := [e9]), List.length_singleton] at q
              exact q
            · obtain ⟨hq2, hlt2⟩ := lk_push hI hq hk hk2 hk3
              refine jw_iload (pc := 80) F 4 d_M_look_80 rfl ?_
              refine jw_if_lt (pc := 82) F 109 d_M_look_82 (by decide) (fun hz6 => False.elim (nI_pos (by omega) hz6)) (fun hz6 => ?_)
              refine jw_aload_n (pc := 85) F 0 d_M_look_85 rfl rfl ?_
              refine jw_get (pc := 86) F (jms inM) 0 rfl rfl 9 (by decide) (jm w_351) rfl d_M_look_86 ?_
              refine jw_iload_n (pc := 89) F 2 d_M_look_89 rfl rfl ?_
              refine jw_iinc (pc := 90) (v := nI ((T0 ++ cs).length + 1)) (lv' := [(0, .ref (am 0)), (1, .int (nI r)), (2, .int (nI ((T0 ++ cs).length + 1))), (3, .int (nI e9)), (4, .int (nI k))]) F 2 d_M_look_90 rfl (jw_inc _) (by decide) rfl ?_
              refine jw_iload (pc := 93) F 4 d_M_look_93 rfl ?_
              refine jw_iastN (pc := 95) (ws' := wM am cB cI cL go gc gb gd gh (upd g7 R.length (nI e9)) (upd g9 ((T0 ++ cs).length) (nI k)) gk gn er op (nI (R.length + 1))) F 8 1 rfl rfl ((T0 ++ cs).length) rfl (by omega) (by decide) d_M_look_95 rfl ?_
              refine jw_aload_n (pc := 96) F 0 d_M_look_96 rfl rfl ?_
              refine jw_iload_n (pc := 97) F 1 d_M_look_97 rfl rfl ?_
              refine jw_iload_n (pc := 98) F 3 d_M_look_98 rfl rfl ?_
              refine jw_iload (pc := 99) F 4 d_M_look_99 rfl ?_
              refine jw_callV_Ci (pc := 101) (As := [.int (nI r), .int (nI e9), .int (nI k)]) (rest := []) F (m_next1 l D am cB cI cL go gc gb gd gh (upd g7 R.length (nI e9)) (upd g9 ((T0 ++ cs).length) (nI k)) gk gn er op (nI (R.length + 1)) a hI hA r hr (some e9) (fun e h => by cases h; exact he9.1) k hk) (jw_cwV F.1.2.2.2.2 wl_good w_447 w_449 w_25 w_30 w_450 hd_M_next ⟨by decide, by decide⟩) 0 1 rfl rfl rfl rfl rfl rfl (Nat.le_of_ble_eq_true rfl) d_M_look_101 ⟨rfl, rfl⟩ ⟨by decide, by decide⟩ (fun kw w hw => ?_)
              obtain ⟨hb2, rfl⟩ := hw
              refine jw_istore (pc := 104) (lv' := [(0, .ref (am 0)), (1, .int (nI r)), (2, .int (nI ((T0 ++ cs).length + 1))), (3, .int (nI e9)), (4, .int kw)]) F d_M_look_104 (by decide) rfl ?_
              refine jw_goto (pc := 106) F 80 d_M_look_106 (by decide) ?_
              have q := ih (cs ++ [k]) (upd g9 (T0 ++ cs).length (nI k)) kw (by rw [← List.append_assoc, List.length_append (bs := [k]), List.length_singleton]; omega) hq2 (by rw [List.getLast?_append]; exact hb2) (by rw [← List.append_assoc]; exact td_push hg)
              rw [← List.append_assoc, List.length_append (bs := [k]), List.length_singleton] at q
              exact q
        refine jw_istore (pc := 78) (lv' := [(0, .ref (am 0)), (1, .int (nI r)), (2, .int (nI T0.length)), (3, .int (nI e9)), (4, .int kv)]) F d_M_look_78 (by decide) rfl ?_
        have q := inner (a_n a - (R.length + 1 + T0.length)) [] g8 kv (by rw [List.append_nil]; omega) hQ0 hb (by rw [List.append_nil]; exact h8a)
        rw [List.append_nil] at q
        exact q
  have roots : ∀ (n9 : Nat) (cs : List Nat) (g8 : Nat → Int32) (kv : Int32), cs.length + n9 = a_n a → lk_Q a r none [] [] cs → nx_inv (nx_P a r none cs.getLast?) (a_lt a) (a_n a) kv → td_L cs g8 → jw_J p l e rm_M_look s m args below meth c D vCl A 5 (MQ below (va_Qv (fun w9 => ∃ (hr9 ht9 : Nat → Int32) (M : List Nat), w9 = wM am cB cI cL go gc gb gd gh hr9 ht9 gk gn er op (nI M.length) ∧ td_L M hr9 ∧ ab_own a r M) (jw_B D vCl (vTy cB cI cL) A) A) args s rm_M_look.cells rm_M_look.slots A) 0 0 15 [(0, .ref (am 0)), (1, .int (nI r)), (2, .int (nI cs.length)), (3, .int kv)] [] (wM am cB cI cL go gc gb gd gh gr g8 gk gn er op (nI 0)) := by
    intro n9
    induction n9 with
    | zero =>
      intro cs g8 kv hc9 hq hb hg
      rcases hb with ⟨rfl, hno⟩ | ⟨k, hk, rfl, hk2, hk3⟩
      · refine jw_iload_n (pc := 15) F 3 d_M_look_15 rfl rfl ?_
        refine jw_if_lt (pc := 16) F 40 d_M_look_16 (by decide) (fun hz7 => ?_) (fun hz7 => False.elim (absurd hz7 (by decide)))
        refine jw_loc (lv' := [(0, .ref (am 0)), (1, .int (nI r)), (2, .int (nI cs.length))]) [0, 1, 2] rfl ?_
        exact outer (a_n a) [] cs gr g8 (Nat.zero_add _) hq.1 (lk_C0 hq hno) (td_0 _) hg
      · exfalso
        have h9 : ([] : List Nat).length + ([] ++ cs).length < a_n a := (lk_push hI hq hk hk2 hk3).2
        rw [List.nil_append, List.length_nil] at h9
        omega
    | succ n9 ih =>
      intro cs g8 kv hc9 hq hb hg
      rcases hb with ⟨rfl, hno⟩ | ⟨k, hk, rfl, hk2, hk3⟩
      · refine jw_iload_n (pc := 15) F 3 d_M_look_15 rfl rfl ?_
        refine jw_if_lt (pc := 16) F 40 d_M_look_16 (by decide) (fun hz8 => ?_) (fun hz8 => False.elim (absurd hz8 (by decide)))
        refine jw_loc (lv' := [(0, .ref (am 0)), (1, .int (nI r)), (2, .int (nI cs.length))]) [0, 1, 2] rfl ?_
        exact outer (a_n a) [] cs gr g8 (Nat.zero_add _) hq.1 (lk_C0 hq hno) (td_0 _) hg
      · have hq2 := (lk_push hI hq hk hk2 hk3).1
        refine jw_iload_n (pc := 15) F 3 d_M_look_15 rfl rfl ?_
        refine jw_if_lt (pc := 16) F 40 d_M_look_16 (by decide) (fun hz9 => False.elim (nI_pos (by omega) hz9)) (fun hz9 => ?_)
        refine jw_aload_n (pc := 19) F 0 d_M_look_19 rfl rfl ?_
        refine jw_get (pc := 20) F (jms inM) 0 rfl rfl 9 (by decide) (jm w_351) rfl d_M_look_20 ?_
        refine jw_iload_n (pc := 23) F 2 d_M_look_23 rfl rfl ?_
        refine jw_iinc (pc := 24) (v := nI (cs.length + 1)) (lv' := [(0, .ref (am 0)), (1, .int (nI r)), (2, .int (nI (cs.length + 1))), (3, .int (nI k))]) F 2 d_M_look_24 rfl (jw_inc _) (by decide) rfl ?_
        refine jw_iload_n (pc := 27) F 3 d_M_look_27 rfl rfl ?_
        refine jw_iastN (pc := 28) (ws' := wM am cB cI cL go gc gb gd gh gr (upd g8 cs.length (nI k)) gk gn er op (nI 0)) F 8 1 rfl rfl cs.length rfl (by omega) (by decide) d_M_look_28 rfl ?_
        refine jw_aload_n (pc := 29) F 0 d_M_look_29 rfl rfl ?_
        refine jw_iload_n (pc := 30) F 1 d_M_look_30 rfl rfl ?_
        refine jw_iconst (pc := 31) (v := -1) F d_M_look_31 (by decide) ?_
        refine jw_iload_n (pc := 32) F 3 d_M_look_32 rfl rfl ?_
        refine jw_callV_Ci (pc := 33) (As := [.int (nI r), .int (-1), .int (nI k)]) (rest := []) F (m_next1 l D am cB cI cL go gc gb gd gh gr (upd g8 cs.length (nI k)) gk gn er op (nI 0) a hI hA r hr none (fun e h => by cases h) k hk) (jw_cwV F.1.2.2.2.2 wl_good w_447 w_449 w_25 w_30 w_450 hd_M_next ⟨by decide, by decide⟩) 0 1 rfl rfl rfl rfl rfl rfl (Nat.le_of_ble_eq_true rfl) d_M_look_33 ⟨rfl, rfl⟩ ⟨by decide, by decide⟩ (fun kw w hw => ?_)
        obtain ⟨hb2, rfl⟩ := hw
        refine jw_istore_n (pc := 36) (lv' := [(0, .ref (am 0)), (1, .int (nI r)), (2, .int (nI (cs.length + 1))), (3, .int kw)]) F d_M_look_36 rfl (by decide) rfl ?_
        refine jw_goto (pc := 37) F 15 d_M_look_37 (by decide) ?_
        have q := ih (cs ++ [k]) (upd g8 cs.length (nI k)) kw (by rw [List.length_append, List.length_singleton]; omega) hq2 (by rw [List.getLast?_append]; exact hb2) (td_push hg)
        rw [List.length_append, List.length_singleton] at q
        exact q
  refine jw_aload_n (pc := 0) F 0 d_M_look_0 rfl rfl ?_
  refine jw_iconst (pc := 1) (v := nI 0) F d_M_look_1 (by decide) ?_
  refine jw_put (pc := 2) (v := .int (nI 0)) (ty := .int) (ws' := wM am cB cI cL go gc gb gd gh gr gt gk gn er op (nI 0)) F (jms inM) tM tM_ok nmM 0 rfl rfl 11 (by decide) (jm w_353) rfl (by decide +kernel) rfl rfl (Nat.le_of_ble_eq_true rfl) d_M_look_2 rfl ?_
  refine jw_iconst (pc := 5) (v := nI 0) F d_M_look_5 (by decide) ?_
  refine jw_istore_n (pc := 6) (lv' := [(0, .ref (am 0)), (1, .int (nI r)), (2, .int (nI 0))]) F d_M_look_6 rfl (by decide) rfl ?_
  refine jw_aload_n (pc := 7) F 0 d_M_look_7 rfl rfl ?_
  refine jw_iload_n (pc := 8) F 1 d_M_look_8 rfl rfl ?_
  refine jw_iconst (pc := 9) (v := -1) F d_M_look_9 (by decide) ?_
  refine jw_iconst (pc := 10) (v := -1) F d_M_look_10 (by decide) ?_
  refine jw_callV_Ci (pc := 11) (As := [.int (nI r), .int (-1), .int (-1)]) (rest := []) F (m_next0 l D am cB cI cL go gc gb gd gh gr gt gk gn er op (nI 0) a hI hA r hr none (fun e h => by cases h)) (jw_cwV F.1.2.2.2.2 wl_good w_447 w_449 w_25 w_30 w_450 hd_M_next ⟨by decide, by decide⟩) 0 1 rfl rfl rfl rfl rfl rfl (Nat.le_of_ble_eq_true rfl) d_M_look_11 ⟨rfl, rfl⟩ ⟨by decide, by decide⟩ (fun kv w hw => ?_)
  obtain ⟨hb, rfl⟩ := hw
  refine jw_istore_n (pc := 14) (lv' := [(0, .ref (am 0)), (1, .int (nI r)), (2, .int (nI 0)), (3, .int kv)]) F d_M_look_14 rfl (by decide) rfl ?_
  exact roots (a_n a) [] gt kv (by rw [List.length_nil]; omega) lk_0 hb (td_0 _)
end
section
theorem gl_filter_s {f : Nat → Bool} {L : List Nat} {i : Nat} (h : i < L.length) : (L.take (i + 1)).filter f = (L.take i).filter f ++ (if f L[i] = true then [L[i]] else []) := by
  rw [List.take_succ_eq_append_getElem h, List.filter_append]
  congr 1
  by_cases e : f L[i] = true
  · rw [if_pos e, List.filter_cons_of_pos e]; rfl
  · rw [if_neg e, List.filter_cons_of_neg e]; rfl
theorem gl_filter_le {f : Nat → Bool} {L : List Nat} {i : Nat} : ((L.take i).filter f).length ≤ i := by
  refine Nat.le_trans (List.length_filter_le _ _) ?_
  rw [List.length_take]
  exact Nat.min_le_left _ _
theorem ab_seen_eq {a : AS} {r : Nat} {L M : List Nat} (hI : ab_I a) (hR : ab_row a L) (hM : ab_own a r M) : M.filter (fun e => !a_del a r e) = L.filter (a_seen a r) := by
  rw [ab_own_eq hI hR hM, List.filter_filter]
  apply List.filter_congr
  intro x _
  show (!a_del a r x && a_hd a r x) = (a_hd a r x && !a_del a r x)
  exact Bool.and_comm _ _
theorem ab_own_len {a : AS} {r : Nat} {M : List Nat} (hI : ab_I a) (hM : ab_own a r M) : M.length ≤ 160 ∧ ∀ x ∈ M, x < a_n a := by
  have h1 : ∀ x ∈ M, x < a_n a := fun x hx => ((hM.2.1 x).mp hx).1
  have := gm_pig hM.1 h1
  have := hI.1
  exact ⟨by omega, h1⟩
theorem ab_seen_len {a : AS} {r : Nat} {L : List Nat} (hI : ab_I a) (hR : ab_row a L) : (L.filter (a_seen a r)).length ≤ 160 := Nat.le_trans (List.length_filter_le _ _) (cx_R_M hI hR).2
theorem w_443 : Cond.methodLink RM 94 y_M_look ∈ WL := jwl 443 rfl rfl
theorem w_445 : Cond.instanceMethod y_M_look ∈ WL := jwl 445 rfl rfl
theorem w_24 : Cond.selects RM y_M_look y_M_look ∈ WL := jwl 24 rfl rfl
theorem w_446 : Cond.code y_M_look b_M_look 5 none ∈ WL := jwl 446 rfl rfl
theorem w_455 : Cond.methodLink RM 98 y_M_isSeen ∈ WL := jwl 455 rfl rfl
theorem w_457 : Cond.instanceMethod y_M_isSeen ∈ WL := jwl 457 rfl rfl
theorem w_27 : Cond.selects RM y_M_isSeen y_M_isSeen ∈ WL := jwl 27 rfl rfl
theorem w_458 : Cond.code y_M_isSeen b_M_isSeen 4 (some .boolean) ∈ WL := jwl 458 rfl rfl
theorem w_439 : Cond.methodLink RM 101 y_M_lookSeen ∈ WL := jwl 439 rfl rfl
theorem w_441 : Cond.instanceMethod y_M_lookSeen ∈ WL := jwl 441 rfl rfl
theorem w_23 : Cond.selects RM y_M_lookSeen y_M_lookSeen ∈ WL := jwl 23 rfl rfl
theorem w_442 : Cond.code y_M_lookSeen b_M_lookSeen 4 none ∈ WL := jwl 442 rfl rfl
theorem w_352 : Cond.fieldLink RM 36 "WovenRowModel" "kept" "[I" ∈ WL := jwl 352 rfl rfl
abbrev rm_M_isSeen : Room := { frames := 1, cells := 0, slots := 0, locals := 22 }
abbrev rm_M_lookSeen : Room := { frames := 3, cells := 0, slots := 0, locals := 71 }
abbrev rm_M_at : Room := { frames := 4, cells := 0, slots := 0, locals := 94 }
abbrev rm_M_place : Room := { frames := 3, cells := 0, slots := 0, locals := 71 }
abbrev rm_M_same : Room := { frames := 4, cells := 0, slots := 0, locals := 94 }
set_option maxHeartbeats 4000000 in
set_option maxRecDepth 100000 in
theorem m_isSeen (l : Launch) (D : va_G) (am : Nat → Nat) (cB cI cL : ClassId) (go gc gb gd gh gr gt gk : Nat → Int32) (gn : Nat → Int64) (er op sz : Int32) (a : AS) (hI : ab_I a) (hA : mx_A a go gc gb gd gh op) (r : Nat) (hr : r < 4) (k9 : Nat) : jw_Ei l D vCl (vTy cB cI cL) y_M_isSeen s_M_isSeen rm_M_isSeen [.ref (am 0), .int (nI r), .int (nI k9)] (wM am cB cI cL go gc gb gd gh gr gt gk gn er op sz) ((jb (!a_del a r k9))) := by
  refine jw_ofi (cc := b_M_isSeen) (nL := 4) (ret := (some .boolean)) (by decide) rfl (Nat.le_of_ble_eq_true rfl) (fun p e s m args below meth c A F hnm => ?_)
  refine jw_at (lv' := [(0, .ref (am 0)), (1, .int (nI r)), (2, .int (nI k9))]) (st' := []) (ws' := wM am cB cI cL go gc gb gd gh gr gt gk gn er op sz) rfl rfl rfl ?_
  have hn := hI.1
  have hop := hA.1
  subst hop
  have loop : ∀ (t i : Nat), i + t = a_n a → (∀ k, k < i → (a_dl a k && (a_tg a k == nI k9) && a_hd a r k) = false) → jw_J p l e rm_M_isSeen s m args below meth c D vCl A 4 (MQ below (va_Qi (fun r9 w9 => r9 = (jb (!a_del a r k9)) ∧ w9 = wM am cB cI cL go gc gb gd gh gr gt gk gn er (nI (a_n a)) sz) (jw_B D vCl (vTy cB cI cL) A) A) args s rm_M_isSeen.cells rm_M_isSeen.slots A) 0 0 2 [(0, .ref (am 0)), (1, .int (nI r)), (2, .int (nI k9)), (3, .int (nI i))] [] (wM am cB cI cL go gc gb gd gh gr gt gk gn er (nI (a_n a)) sz) := by
    intro t
    induction t with
    | zero =>
      intro i hi hc
      obtain rfl : i = a_n a := hi
      refine jw_iload_n (pc := 2) F 3 d_M_isSeen_2 rfl rfl ?_
      refine jw_aload_n (pc := 3) F 0 d_M_isSeen_3 rfl rfl ?_
      refine jw_get (pc := 4) F (jms inM) 0 rfl rfl 1 (by decide) (jm w_343) rfl d_M_isSeen_4 ?_
      refine jw_icmp_ge (pc := 7) F 46 d_M_isSeen_7 (by decide) (fun hz1 => ?_) (fun hz1 => False.elim (hz1 (nI_le (Nat.le_refl _) (by omega))))
      refine jw_iconst (pc := 46) (v := 1) F d_M_isSeen_46 (by decide) ?_
      exact jw_zret F d_M_isSeen_47 (by decide) ⟨by rw [show a_del a r k9 = false by unfold a_del; rw [List.any_eq_false]; intro k hk; rw [hc k (List.mem_range.mp hk)]; decide]; rfl, rfl⟩
    | succ t ih =>
      intro i hi hc
      have hlt : i < a_n a := by omega
      refine jw_iload_n (pc := 2) F 3 d_M_isSeen_2 rfl rfl ?_
      refine jw_aload_n (pc := 3) F 0 d_M_isSeen_3 rfl rfl ?_
      refine jw_get (pc := 4) F (jms inM) 0 rfl rfl 1 (by decide) (jm w_343) rfl d_M_isSeen_4 ?_
      refine jw_icmp_ge (pc := 7) F 46 d_M_isSeen_7 (by decide) (fun hz2 => False.elim (nI_ge hlt (by omega) hz2)) (fun hz2 => ?_)
      refine jw_aload_n (pc := 10) F 0 d_M_isSeen_10 rfl rfl ?_
      refine jw_get (pc := 11) F (jms inM) 0 rfl rfl 6 (by decide) (jm w_348) rfl d_M_isSeen_11 ?_
      refine jw_iload_n (pc := 14) F 3 d_M_isSeen_14 rfl rfl ?_
      refine jw_zaldN (pc := 15) F 5 0 rfl rfl i rfl (by omega) (by decide) d_M_isSeen_15 ?_
      rw [hA.2.2.2.2.1 i hlt]
      refine jw_if_eq (pc := 16) F 40 d_M_isSeen_16 (by decide) (fun h1 => ?_) (fun h1 => ?_)
      · refine jw_iinc (pc := 40) (v := nI (i + 1)) (lv' := [(0, .ref (am 0)), (1, .int (nI r)), (2, .int (nI k9)), (3, .int (nI (i + 1)))]) F 3 d_M_isSeen_40 rfl (jw_inc _) (by decide) rfl ?_
        refine jw_goto (pc := 43) F 2 d_M_isSeen_43 (by decide) ?_
        exact ih (i + 1) (by omega) (fun k hk => by
            by_cases e1 : k = i
            · subst e1; rw [jb_0.mp h1]; rfl
            · exact hc k (by omega))
      · refine jw_aload_n (pc := 19) F 0 d_M_isSeen_19 rfl rfl ?_
        refine jw_get (pc := 20) F (jms inM) 0 rfl rfl 2 (by decide) (jm w_344) rfl d_M_isSeen_20 ?_
        refine jw_iload_n (pc := 23) F 3 d_M_isSeen_23 rfl rfl ?_
        refine jw_ialdN (pc := 24) F 1 1 rfl rfl i rfl (by omega) (by decide) d_M_isSeen_24 ?_
        rw [hA.2.1 i hlt]
        refine jw_iload_n (pc := 25) F 2 d_M_isSeen_25 rfl rfl ?_
        refine jw_icmp_ne (pc := 26) F 40 d_M_isSeen_26 (by decide) (fun h2 => ?_) (fun h2 => ?_)
        · refine jw_iinc (pc := 40) (v := nI (i + 1)) (lv' := [(0, .ref (am 0)), (1, .int (nI r)), (2, .int (nI k9)), (3, .int (nI (i + 1)))]) F 3 d_M_isSeen_40 rfl (jw_inc _) (by decide) rfl ?_
          refine jw_goto (pc := 43) F 2 d_M_isSeen_43 (by decide) ?_
          exact ih (i + 1) (by omega) (fun k hk => by
            by_cases e1 : k = i
            · subst e1; rw [beq_eq_false_iff_ne.mpr h2, Bool.and_false]; rfl
            · exact hc k (by omega))
        · refine jw_aload_n (pc := 29) F 0 d_M_isSeen_29 rfl rfl ?_
          refine jw_iload_n (pc := 30) F 1 d_M_isSeen_30 rfl rfl ?_
          refine jw_iload_n (pc := 31) F 3 d_M_isSeen_31 rfl rfl ?_
          refine jw_callV_Ei (pc := 32) (As := [.int (nI r), .int (nI i)]) (rest := []) F ([]) ([]) (m_has l D am cB cI cL go gc gb gd gh gr gt gk gn er (nI (a_n a)) sz a hI hA r i hr hlt) (jw_cwV F.1.2.2.2.2 wl_good w_406 w_408 w_20 w_30 w_409 hd_M_has ⟨by decide, by decide⟩) 0 1 rfl rfl rfl (by simp) rfl rfl (Nat.le_of_ble_eq_true rfl) d_M_isSeen_32 ⟨rfl, rfl⟩ ⟨by decide, by decide⟩ ?_
          refine jw_if_eq (pc := 35) F 40 d_M_isSeen_35 (by decide) (fun h3 => ?_) (fun h3 => ?_)
          · refine jw_iinc (pc := 40) (v := nI (i + 1)) (lv' := [(0, .ref (am 0)), (1, .int (nI r)), (2, .int (nI k9)), (3, .int (nI (i + 1)))]) F 3 d_M_isSeen_40 rfl (jw_inc _) (by decide) rfl ?_
            refine jw_goto (pc := 43) F 2 d_M_isSeen_43 (by decide) ?_
            exact ih (i + 1) (by omega) (fun k hk => by
            by_cases e1 : k = i
            · subst e1; rw [jb_0.mp h3, Bool.and_false]
            · exact hc k (by omega))
          · refine jw_iconst (pc := 38) (v := 0) F d_M_isSeen_38 (by decide) ?_
            exact jw_zret F d_M_isSeen_39 (by decide) ⟨by rw [show a_del a r k9 = true by unfold a_del; rw [List.any_eq_true]; exact ⟨i, List.mem_range.mpr hlt, by rw [jb_n.mp h1, jb_n.mp h3, beq_iff_eq.mpr h2]; rfl⟩]; rfl, rfl⟩
  refine jw_iconst (pc := 0) (v := nI 0) F d_M_isSeen_0 (by decide) ?_
  refine jw_istore_n (pc := 1) (lv' := [(0, .ref (am 0)), (1, .int (nI r)), (2, .int (nI k9)), (3, .int (nI 0))]) F d_M_isSeen_1 rfl (by decide) rfl ?_
  exact loop (a_n a) 0 (by omega) (fun k hk => absurd hk (Nat.not_lt_zero k))
set_option maxHeartbeats 4000000 in
set_option maxRecDepth 100000 in
theorem m_lookSeen (l : Launch) (D : va_G) (am : Nat → Nat) (cB cI cL : ClassId) (go gc gb gd gh gr gt gk : Nat → Int32) (gn : Nat → Int64) (er op sz : Int32) (a : AS) (hI : ab_I a) (hA : mx_A a go gc gb gd gh op) (L : List Nat) (hR : ab_row a L) (r : Nat) (hr : r < 4) : jw_Mv l D vCl (vTy cB cI cL) y_M_lookSeen s_M_lookSeen rm_M_lookSeen [.ref (am 0), .int (nI r)] (wM am cB cI cL go gc gb gd gh gr gt gk gn er op sz) (fun w9 => ∃ (hr9 ht9 : Nat → Int32), w9 = wM am cB cI cL go gc gb gd gh hr9 ht9 gk gn er op (nI (L.filter (a_seen a r)).length) ∧ td_L (L.filter (a_seen a r)) hr9) := by
  refine jw_ofv (cc := b_M_lookSeen) (nL := 4) (ret := none) (by decide) rfl (Nat.le_of_ble_eq_true rfl) (fun p e s m args below meth c A F hnm => ?_)
  refine jw_at (lv' := [(0, .ref (am 0)), (1, .int (nI r))]) (st' := []) (ws' := wM am cB cI cL go gc gb gd gh gr gt gk gn er op sz) rfl rfl rfl ?_
  have hn := hI.1
  refine jw_aload_n (pc := 0) F 0 d_M_lookSeen_0 rfl rfl ?_
  refine jw_iload_n (pc := 1) F 1 d_M_lookSeen_1 rfl rfl ?_
  refine jw_callV_Cv (pc := 2) (As := [.int (nI r)]) (rest := []) F (m_look l D am cB cI cL go gc gb gd gh gr gt gk gn er op sz a hI hA r hr) (jw_cwV F.1.2.2.2.2 wl_good w_443 w_445 w_24 w_30 w_446 hd_M_look ⟨by decide, by decide⟩) 0 1 rfl rfl rfl rfl rfl rfl (Nat.le_of_ble_eq_true rfl) d_M_lookSeen_2 ⟨rfl, rfl⟩ ⟨by decide, by decide⟩ (fun w hw => ?_)
  obtain ⟨g0, ht9, M, rfl, hM0, hM⟩ := hw
  obtain ⟨hl, hMn⟩ := ab_own_len hI hM
  have loop : ∀ (t i : Nat) (g7 : Nat → Int32), i + t = M.length → td_L ((M.take i).filter (fun e => !a_del a r e)) g7 → (∀ j (h : j < M.length), i ≤ j → g7 j = nI M[j]) → jw_J p l e rm_M_lookSeen s m args below meth c D vCl A 4 (MQ below (va_Qv (fun w9 => ∃ (hr9 ht9 : Nat → Int32), w9 = wM am cB cI cL go gc gb gd gh hr9 ht9 gk gn er op (nI (L.filter (a_seen a r)).length) ∧ td_L (L.filter (a_seen a r)) hr9) (jw_B D vCl (vTy cB cI cL) A) A) args s rm_M_lookSeen.cells rm_M_lookSeen.slots A) 0 0 9 [(0, .ref (am 0)), (1, .int (nI r)), (2, .int (nI ((M.take i).filter (fun e => !a_del a r e)).length)), (3, .int (nI i))] [] (wM am cB cI cL go gc gb gd gh g7 ht9 gk gn er op (nI M.length)) := by
    intro t
    induction t with
    | zero =>
      intro i g7 hi h1 h2
      obtain rfl : i = M.length := hi
      refine jw_iload_n (pc := 9) F 3 d_M_lookSeen_9 rfl rfl ?_
      refine jw_aload_n (pc := 10) F 0 d_M_lookSeen_10 rfl rfl ?_
      refine jw_get (pc := 11) F (jms inM) 0 rfl rfl 11 (by decide) (jm w_353) rfl d_M_lookSeen_11 ?_
      refine jw_icmp_ge (pc := 14) F 52 d_M_lookSeen_14 (by decide) (fun hz1 => ?_) (fun hz1 => False.elim (hz1 (nI_le (Nat.le_refl _) (by omega))))
      refine jw_aload_n (pc := 52) F 0 d_M_lookSeen_52 rfl rfl ?_
      refine jw_iload_n (pc := 53) F 2 d_M_lookSeen_53 rfl rfl ?_
      refine jw_put (pc := 54) (v := .int (nI ((M.take M.length).filter (fun e => !a_del a r e)).length)) (ty := .int) (ws' := wM am cB cI cL go gc gb gd gh g7 ht9 gk gn er op (nI ((M.take M.length).filter (fun e => !a_del a r e)).length)) F (jms inM) tM tM_ok nmM 0 rfl rfl 11 (by decide) (jm w_353) rfl (by decide +kernel) rfl rfl (Nat.le_of_ble_eq_true rfl) d_M_lookSeen_54 rfl ?_
      exact jw_vret F d_M_lookSeen_57 ⟨g7, ht9, by rw [List.take_length, ab_seen_eq hI hR hM], by rw [← ab_seen_eq hI hR hM]; rw [List.take_length] at h1; exact h1⟩
    | succ t ih =>
      intro i g7 hi h1 h2
      have hlt : i < M.length := by omega
      have hle : ((M.take i).filter (fun e => !a_del a r e)).length ≤ i := gl_filter_le
      refine jw_iload_n (pc := 9) F 3 d_M_lookSeen_9 rfl rfl ?_
      refine jw_aload_n (pc := 10) F 0 d_M_lookSeen_10 rfl rfl ?_
      refine jw_get (pc := 11) F (jms inM) 0 rfl rfl 11 (by decide) (jm w_353) rfl d_M_lookSeen_11 ?_
      refine jw_icmp_ge (pc := 14) F 52 d_M_lookSeen_14 (by decide) (fun hz2 => False.elim (nI_ge hlt (by omega) hz2)) (fun hz2 => ?_)
      refine jw_aload_n (pc := 17) F 0 d_M_lookSeen_17 rfl rfl ?_
      refine jw_iload_n (pc := 18) F 1 d_M_lookSeen_18 rfl rfl ?_
      refine jw_aload_n (pc := 19) F 0 d_M_lookSeen_19 rfl rfl ?_
      refine jw_get (pc := 20) F (jms inM) 0 rfl rfl 8 (by decide) (jm w_350) rfl d_M_lookSeen_20 ?_
      refine jw_iload_n (pc := 23) F 3 d_M_lookSeen_23 rfl rfl ?_
      refine jw_ialdN (pc := 24) F 7 1 rfl rfl i rfl (by omega) (by decide) d_M_lookSeen_24 ?_
      rw [h2 i hlt (Nat.le_refl _)]
      refine jw_callV_Ei (pc := 25) (As := [.int (nI r), .int (nI (M[i]'hlt))]) (rest := []) F ([]) ([]) (m_isSeen l D am cB cI cL go gc gb gd gh g7 ht9 gk gn er op (nI M.length) a hI hA r hr (M[i]'hlt)) (jw_cwV F.1.2.2.2.2 wl_good w_455 w_457 w_27 w_30 w_458 hd_M_isSeen ⟨by decide, by decide⟩) 0 1 rfl rfl rfl (by simp) rfl rfl (Nat.le_of_ble_eq_true rfl) d_M_lookSeen_25 ⟨rfl, rfl⟩ ⟨by decide, by decide⟩ ?_
      refine jw_if_eq (pc := 28) F 46 d_M_lookSeen_28 (by decide) (fun h3 => ?_) (fun h3 => ?_)
      · refine jw_iinc (pc := 46) (v := nI (i + 1)) (lv' := [(0, .ref (am 0)), (1, .int (nI r)), (2, .int (nI ((M.take i).filter (fun e => !a_del a r e)).length)), (3, .int (nI (i + 1)))]) F 3 d_M_lookSeen_46 rfl (jw_inc _) (by decide) rfl ?_
        refine jw_goto (pc := 49) F 9 d_M_lookSeen_49 (by decide) ?_
        have hs : (M.take (i + 1)).filter (fun e => !a_del a r e) = (M.take i).filter (fun e => !a_del a r e) := by rw [gl_filter_s hlt, if_neg (by rw [jb_0.mp h3]; decide), List.append_nil]
        have q := ih (i + 1) g7 (by omega) (by rw [hs]; exact h1) (fun j hj hij => h2 j hj (by omega))
        rw [hs] at q
        exact q
      · refine jw_aload_n (pc := 31) F 0 d_M_lookSeen_31 rfl rfl ?_
        refine jw_get (pc := 32) F (jms inM) 0 rfl rfl 8 (by decide) (jm w_350) rfl d_M_lookSeen_32 ?_
        refine jw_iload_n (pc := 35) F 2 d_M_lookSeen_35 rfl rfl ?_
        refine jw_iinc (pc := 36) (v := nI (((M.take i).filter (fun e => !a_del a r e)).length + 1)) (lv' := [(0, .ref (am 0)), (1, .int (nI r)), (2, .int (nI (((M.take i).filter (fun e => !a_del a r e)).length + 1))), (3, .int (nI i))]) F 2 d_M_lookSeen_36 rfl (jw_inc _) (by decide) rfl ?_
        refine jw_aload_n (pc := 39) F 0 d_M_lookSeen_39 rfl rfl ?_
        refine jw_get (pc := 40) F (jms inM) 0 rfl rfl 8 (by decide) (jm w_350) rfl d_M_lookSeen_40 ?_
        refine jw_iload_n (pc := 43) F 3 d_M_lookSeen_43 rfl rfl ?_
        refine jw_ialdN (pc := 44) F 7 1 rfl rfl i rfl (by omega) (by decide) d_M_lookSeen_44 ?_
        rw [h2 i hlt (Nat.le_refl _)]
        refine jw_iastN (pc := 45) (ws' := wM am cB cI cL go gc gb gd gh (upd g7 (((M.take i).filter (fun e => !a_del a r e)).length) (nI (M[i]'hlt))) ht9 gk gn er op (nI M.length)) F 7 1 rfl rfl (((M.take i).filter (fun e => !a_del a r e)).length) rfl (by omega) (by decide) d_M_lookSeen_45 rfl ?_
        refine jw_iinc (pc := 46) (v := nI (i + 1)) (lv' := [(0, .ref (am 0)), (1, .int (nI r)), (2, .int (nI (((M.take i).filter (fun e => !a_del a r e)).length + 1))), (3, .int (nI (i + 1)))]) F 3 d_M_lookSeen_46 rfl (jw_inc _) (by decide) rfl ?_
        refine jw_goto (pc := 49) F 9 d_M_lookSeen_49 (by decide) ?_
        have hs : (M.take (i + 1)).filter (fun e => !a_del a r e) = (M.take i).filter (fun e => !a_del a r e) ++ [M[i]] := by rw [gl_filter_s hlt, if_pos (jb_n.mp h3)]
        have q := ih (i + 1) (upd g7 ((M.take i).filter (fun e => !a_del a r e)).length (nI M[i])) (by omega) (by rw [hs]; exact td_push h1) (fun j hj hij => by rw [pk_un (by omega)]; exact h2 j hj (by omega))
        rw [hs, List.length_append, List.length_singleton] at q
        exact q
  refine jw_iconst (pc := 5) (v := nI 0) F d_M_lookSeen_5 (by decide) ?_
  refine jw_istore_n (pc := 6) (lv' := [(0, .ref (am 0)), (1, .int (nI r)), (2, .int (nI 0))]) F d_M_lookSeen_6 rfl (by decide) rfl ?_
  refine jw_iconst (pc := 7) (v := nI 0) F d_M_lookSeen_7 (by decide) ?_
  refine jw_istore_n (pc := 8) (lv' := [(0, .ref (am 0)), (1, .int (nI r)), (2, .int (nI 0)), (3, .int (nI 0))]) F d_M_lookSeen_8 rfl (by decide) rfl ?_
  exact loop M.length 0 g0 (by omega) (td_0 _) (fun j hj _ => hM0 j hj)
set_option maxHeartbeats 4000000 in
set_option maxRecDepth 100000 in
theorem m_at_1 (l : Launch) (D : va_G) (am : Nat → Nat) (cB cI cL : ClassId) (go gc gb gd gh gr gt gk : Nat → Int32) (gn : Nat → Int64) (er op sz : Int32) (a : AS) (hQ : mx_R a go gc gb gd gh gn op) (r : Int32) (hr : a_isrep r = false) (tt : Int32) : jw_Mi l D vCl (vTy cB cI cL) y_M_at s_M_at rm_M_at [.ref (am 0), .int r, .int tt] (wM am cB cI cL go gc gb gd gh gr gt gk gn er op sz) (fun r9 w9 => r9 = 0 ∧ w9 = wM am cB cI cL go gc gb gd gh gr gt gk gn 1 op sz) := by
  refine jw_ofi (cc := b_M_at) (nL := 3) (ret := (some .int)) (by decide) rfl (Nat.le_of_ble_eq_true rfl) (fun p e s m args below meth c A F hnm => ?_)
  refine jw_at (lv' := [(0, .ref (am 0)), (1, .int r), (2, .int tt)]) (st' := []) (ws' := wM am cB cI cL go gc gb gd gh gr gt gk gn er op sz) rfl rfl rfl ?_
  refine jw_aload_n (pc := 0) F 0 d_M_at_0 rfl rfl ?_
  refine jw_iconst (pc := 1) (v := 0) F d_M_at_1 (by decide) ?_
  refine jw_put (pc := 2) (v := .int 0) (ty := .int) (ws' := wM am cB cI cL go gc gb gd gh gr gt gk gn 0 op sz) F (jms inM) tM tM_ok nmM 0 rfl rfl 0 (by decide) (jm w_342) rfl (by decide +kernel) rfl rfl (Nat.le_of_ble_eq_true rfl) d_M_at_2 rfl ?_
  refine jw_aload_n (pc := 5) F 0 d_M_at_5 rfl rfl ?_
  refine jw_iload_n (pc := 6) F 1 d_M_at_6 rfl rfl ?_
  refine jw_callS_Ei (pc := 7) (As := [.int r]) (rest := [.ref (am 0)]) F (m_isReplica l D cB cI cL r) (jw_cwS F.1.2.2.2.2 wl_good w_387 w_388 w_30 w_389 hd_M_isReplica ⟨by decide, by decide⟩) rfl rfl (Nat.le_of_ble_eq_true rfl) d_M_at_7 ⟨rfl, rfl⟩ ⟨by decide, by decide⟩ ?_
  refine jw_if_ne (pc := 10) F 17 d_M_at_10 (by decide) (fun hz1 => False.elim (absurd (jb_n.mp hz1) (by rw [hr]; decide))) (fun hz1 => ?_)
  refine jw_iconst (pc := 13) (v := 1) F d_M_at_13 (by decide) ?_
  refine jw_goto (pc := 14) F 18 d_M_at_14 (by decide) ?_
  refine jw_iconst (pc := 18) (v := 1) F d_M_at_18 (by decide) ?_
  refine jw_callV_Ci (pc := 19) (As := [.int 1, .int 1]) (rest := []) F (m_failsT l D am cB cI cL go gc gb gd gh gr gt gk gn op sz true rfl 1 (by decide)) (jw_cwV F.1.2.2.2.2 wl_good w_394 w_396 w_17 w_30 w_397 hd_M_fails ⟨by decide, by decide⟩) 0 1 rfl rfl rfl rfl rfl rfl (Nat.le_of_ble_eq_true rfl) d_M_at_19 ⟨rfl, rfl⟩ ⟨by decide, by decide⟩ (fun r w hw => ?_)
  obtain ⟨rfl, rfl⟩ := hw
  refine jw_if_eq (pc := 22) F 27 d_M_at_22 (by decide) (fun hz2 => False.elim (absurd hz2 (by decide))) (fun hz2 => ?_)
  refine jw_iconst (pc := 25) (v := 0) F d_M_at_25 (by decide) ?_
  exact jw_iret F d_M_at_26 ⟨rfl, rfl⟩
set_option maxHeartbeats 4000000 in
set_option maxRecDepth 100000 in
theorem m_at_0 (l : Launch) (D : va_G) (am : Nat → Nat) (cB cI cL : ClassId) (go gc gb gd gh gr gt gk : Nat → Int32) (gn : Nat → Int64) (er op sz : Int32) (a : AS) (hQ : mx_R a go gc gb gd gh gn op) (L : List Nat) (hR : ab_row a L) (r : Nat) (hr : r < 4) (k : Int32) : jw_Mi l D vCl (vTy cB cI cL) y_M_at s_M_at rm_M_at [.ref (am 0), .int (nI r), .int k] (wM am cB cI cL go gc gb gd gh gr gt gk gn er op sz) (fun r9 w9 => r9 = gl_at (L.filter (a_seen a r)) k ∧ ∃ (k7 k8 k9 : Nat → Int32) (ks : Int32), w9 = wM am cB cI cL go gc gb gd gh k7 k8 k9 gn 0 op ks) := by
  refine jw_ofi (cc := b_M_at) (nL := 3) (ret := (some .int)) (by decide) rfl (Nat.le_of_ble_eq_true rfl) (fun p e s m args below meth c A F hnm => ?_)
  refine jw_at (lv' := [(0, .ref (am 0)), (1, .int (nI r)), (2, .int k)]) (st' := []) (ws' := wM am cB cI cL go gc gb gd gh gr gt gk gn er op sz) rfl rfl rfl ?_
  obtain ⟨hI, hA, hV⟩ := hQ
  have hn := hI.1
  have hsl := ab_seen_len (r := r) hI hR
  refine jw_aload_n (pc := 0) F 0 d_M_at_0 rfl rfl ?_
  refine jw_iconst (pc := 1) (v := 0) F d_M_at_1 (by decide) ?_
  refine jw_put (pc := 2) (v := .int 0) (ty := .int) (ws' := wM am cB cI cL go gc gb gd gh gr gt gk gn 0 op sz) F (jms inM) tM tM_ok nmM 0 rfl rfl 0 (by decide) (jm w_342) rfl (by decide +kernel) rfl rfl (Nat.le_of_ble_eq_true rfl) d_M_at_2 rfl ?_
  refine jw_aload_n (pc := 5) F 0 d_M_at_5 rfl rfl ?_
  refine jw_iload_n (pc := 6) F 1 d_M_at_6 rfl rfl ?_
  refine jw_callS_Ei (pc := 7) (As := [.int (nI r)]) (rest := [.ref (am 0)]) F (m_isReplica l D cB cI cL (nI r)) (jw_cwS F.1.2.2.2.2 wl_good w_387 w_388 w_30 w_389 hd_M_isReplica ⟨by decide, by decide⟩) rfl rfl (Nat.le_of_ble_eq_true rfl) d_M_at_7 ⟨rfl, rfl⟩ ⟨by decide, by decide⟩ ?_
  refine jw_if_ne (pc := 10) F 17 d_M_at_10 (by decide) (fun hz1 => ?_) (fun hz1 => False.elim (absurd (jb_0.mp hz1) (by rw [m_isrep_nI hr]; decide)))
  refine jw_iconst (pc := 17) (v := 0) F d_M_at_17 (by decide) ?_
  refine jw_iconst (pc := 18) (v := 1) F d_M_at_18 (by decide) ?_
  refine jw_callV_Ei (pc := 19) (As := [.int 0, .int 1]) (rest := []) F ([]) ([]) (m_failsF l D am cB cI cL go gc gb gd gh gr gt gk gn op sz false rfl 1) (jw_cwV F.1.2.2.2.2 wl_good w_394 w_396 w_17 w_30 w_397 hd_M_fails ⟨by decide, by decide⟩) 0 1 rfl rfl rfl (by simp) rfl rfl (Nat.le_of_ble_eq_true rfl) d_M_at_19 ⟨rfl, rfl⟩ ⟨by decide, by decide⟩ ?_
  refine jw_if_eq (pc := 22) F 27 d_M_at_22 (by decide) (fun hz2 => ?_) (fun hz2 => False.elim (hz2 rfl))
  refine jw_aload_n (pc := 27) F 0 d_M_at_27 rfl rfl ?_
  refine jw_iload_n (pc := 28) F 1 d_M_at_28 rfl rfl ?_
  refine jw_callV_Cv (pc := 29) (As := [.int (nI r)]) (rest := []) F (m_lookSeen l D am cB cI cL go gc gb gd gh gr gt gk gn 0 op sz a hI hA L hR r hr) (jw_cwV F.1.2.2.2.2 wl_good w_439 w_441 w_23 w_30 w_442 hd_M_lookSeen ⟨by decide, by decide⟩) 0 1 rfl rfl rfl rfl rfl rfl (Nat.le_of_ble_eq_true rfl) d_M_at_29 ⟨rfl, rfl⟩ ⟨by decide, by decide⟩ (fun w hw => ?_)
  obtain ⟨g7, g8, rfl, h7⟩ := hw
  refine jw_iload_n (pc := 32) F 2 d_M_at_32 rfl rfl ?_
  refine jw_i2l (pc := 33) F d_M_at_33 ?_
  refine jw_lconst (pc := 34) (v := 0) F d_M_at_34 (by decide) ?_
  refine jw_aload_n (pc := 35) F 0 d_M_at_35 rfl rfl ?_
  refine jw_get (pc := 36) F (jms inM) 0 rfl rfl 11 (by decide) (jm w_353) rfl d_M_at_36 ?_
  refine jw_iconst (pc := 39) (v := nI 1) F d_M_at_39 (by decide) ?_
  refine jw_isub (pc := 40) F d_M_at_40 ?_
  refine jw_i2l (pc := 41) F d_M_at_41 ?_
  refine jw_callS_Ei (pc := 42) (As := [.long (k.toInt64), .long 0, .long (((nI (L.filter (a_seen a r)).length) - (nI 1)).toInt64)]) (rest := []) F (m_in_c l D cB cI cL k.toInt64 0 (nI (L.filter (a_seen a r)).length - nI 1).toInt64) (jw_cwS F.1.2.2.2.2 wl_good w_391 w_392 w_30 w_393 hd_M_in ⟨by decide, by decide⟩) rfl rfl (Nat.le_of_ble_eq_true rfl) d_M_at_42 ⟨rfl, rfl⟩ ⟨by decide, by decide⟩ ?_
  rw [m_in_op k (by omega)]
  refine jw_if_eq (pc := 45) F 57 d_M_at_45 (by decide) (fun h1 => ?_) (fun h1 => ?_)
  · refine jw_iconst (pc := 57) (v := -1) F d_M_at_57 (by decide) ?_
    exact jw_iret F d_M_at_58 ⟨(gl_at_none (fun j hj hk => Nat.le_of_not_lt (fun q => absurd (jb_0.mp h1) (by rw [hk, a_isop_nI (by omega) q]; decide)))).symm, _, _, _, _, rfl⟩
  · obtain ⟨j, hj, rfl⟩ := a_isop_t (by omega) (jb_n.mp h1)
    refine jw_aload_n (pc := 48) F 0 d_M_at_48 rfl rfl ?_
    refine jw_get (pc := 49) F (jms inM) 0 rfl rfl 8 (by decide) (jm w_350) rfl d_M_at_49 ?_
    refine jw_iload_n (pc := 52) F 2 d_M_at_52 rfl rfl ?_
    refine jw_ialdN (pc := 53) F 7 1 rfl rfl j rfl (by omega) (by decide) d_M_at_53 ?_
    refine jw_goto (pc := 54) F 58 d_M_at_54 (by decide) ?_
    rw [h7 j hj]
    exact jw_iret F d_M_at_58 ⟨(gl_at_nI (by omega) (List.getElem?_eq_getElem hj)).symm, _, _, _, _, rfl⟩
set_option maxHeartbeats 4000000 in
set_option maxRecDepth 100000 in
theorem m_place_1 (l : Launch) (D : va_G) (am : Nat → Nat) (cB cI cL : ClassId) (go gc gb gd gh gr gt gk : Nat → Int32) (gn : Nat → Int64) (er op sz : Int32) (a : AS) (hQ : mx_R a go gc gb gd gh gn op) (r : Int32) (hr : a_isrep r = false) (tt : Int32) : jw_Mi l D vCl (vTy cB cI cL) y_M_place s_M_place rm_M_place [.ref (am 0), .int r, .int tt] (wM am cB cI cL go gc gb gd gh gr gt gk gn er op sz) (fun r9 w9 => r9 = 0 ∧ w9 = wM am cB cI cL go gc gb gd gh gr gt gk gn 1 op sz) := by
  refine jw_ofi (cc := b_M_place) (nL := 4) (ret := (some .int)) (by decide) rfl (Nat.le_of_ble_eq_true rfl) (fun p e s m args below meth c A F hnm => ?_)
  refine jw_at (lv' := [(0, .ref (am 0)), (1, .int r), (2, .int tt)]) (st' := []) (ws' := wM am cB cI cL go gc gb gd gh gr gt gk gn er op sz) rfl rfl rfl ?_
  refine jw_aload_n (pc := 0) F 0 d_M_place_0 rfl rfl ?_
  refine jw_iconst (pc := 1) (v := 0) F d_M_place_1 (by decide) ?_
  refine jw_put (pc := 2) (v := .int 0) (ty := .int) (ws' := wM am cB cI cL go gc gb gd gh gr gt gk gn 0 op sz) F (jms inM) tM tM_ok nmM 0 rfl rfl 0 (by decide) (jm w_342) rfl (by decide +kernel) rfl rfl (Nat.le_of_ble_eq_true rfl) d_M_place_2 rfl ?_
  refine jw_aload_n (pc := 5) F 0 d_M_place_5 rfl rfl ?_
  refine jw_iload_n (pc := 6) F 1 d_M_place_6 rfl rfl ?_
  refine jw_callS_Ei (pc := 7) (As := [.int r]) (rest := [.ref (am 0)]) F (m_isReplica l D cB cI cL r) (jw_cwS F.1.2.2.2.2 wl_good w_387 w_388 w_30 w_389 hd_M_isReplica ⟨by decide, by decide⟩) rfl rfl (Nat.le_of_ble_eq_true rfl) d_M_place_7 ⟨rfl, rfl⟩ ⟨by decide, by decide⟩ ?_
  refine jw_if_ne (pc := 10) F 17 d_M_place_10 (by decide) (fun hz1 => False.elim (absurd (jb_n.mp hz1) (by rw [hr]; decide))) (fun hz1 => ?_)
  refine jw_iconst (pc := 13) (v := 1) F d_M_place_13 (by decide) ?_
  refine jw_goto (pc := 14) F 18 d_M_place_14 (by decide) ?_
  refine jw_iconst (pc := 18) (v := 1) F d_M_place_18 (by decide) ?_
  refine jw_callV_Ci (pc := 19) (As := [.int 1, .int 1]) (rest := []) F (m_failsT l D am cB cI cL go gc gb gd gh gr gt gk gn op sz true rfl 1 (by decide)) (jw_cwV F.1.2.2.2.2 wl_good w_394 w_396 w_17 w_30 w_397 hd_M_fails ⟨by decide, by decide⟩) 0 1 rfl rfl rfl rfl rfl rfl (Nat.le_of_ble_eq_true rfl) d_M_place_19 ⟨rfl, rfl⟩ ⟨by decide, by decide⟩ (fun r w hw => ?_)
  obtain ⟨rfl, rfl⟩ := hw
  refine jw_if_ne (pc := 22) F 68 d_M_place_22 (by decide) (fun hz2 => ?_) (fun hz2 => False.elim (absurd hz2 (by decide)))
  refine jw_iconst (pc := 68) (v := 0) F d_M_place_68 (by decide) ?_
  exact jw_iret F d_M_place_69 ⟨rfl, rfl⟩
set_option maxHeartbeats 4000000 in
set_option maxRecDepth 100000 in
theorem m_place_2 (l : Launch) (D : va_G) (am : Nat → Nat) (cB cI cL : ClassId) (go gc gb gd gh gr gt gk : Nat → Int32) (gn : Nat → Int64) (er op sz : Int32) (a : AS) (hQ : mx_R a go gc gb gd gh gn op) (r : Nat) (hr : r < 4) (tt : Int32) (ht : a_isop (a_n a) tt = false) : jw_Mi l D vCl (vTy cB cI cL) y_M_place s_M_place rm_M_place [.ref (am 0), .int (nI r), .int tt] (wM am cB cI cL go gc gb gd gh gr gt gk gn er op sz) (fun r9 w9 => r9 = 0 ∧ w9 = wM am cB cI cL go gc gb gd gh gr gt gk gn 2 op sz) := by
  refine jw_ofi (cc := b_M_place) (nL := 4) (ret := (some .int)) (by decide) rfl (Nat.le_of_ble_eq_true rfl) (fun p e s m args below meth c A F hnm => ?_)
  refine jw_at (lv' := [(0, .ref (am 0)), (1, .int (nI r)), (2, .int tt)]) (st' := []) (ws' := wM am cB cI cL go gc gb gd gh gr gt gk gn er op sz) rfl rfl rfl ?_
  obtain ⟨hI, hA, hV⟩ := hQ
  have hn := hI.1
  refine jw_aload_n (pc := 0) F 0 d_M_place_0 rfl rfl ?_
  refine jw_iconst (pc := 1) (v := 0) F d_M_place_1 (by decide) ?_
  refine jw_put (pc := 2) (v := .int 0) (ty := .int) (ws' := wM am cB cI cL go gc gb gd gh gr gt gk gn 0 op sz) F (jms inM) tM tM_ok nmM 0 rfl rfl 0 (by decide) (jm w_342) rfl (by decide +kernel) rfl rfl (Nat.le_of_ble_eq_true rfl) d_M_place_2 rfl ?_
  refine jw_aload_n (pc := 5) F 0 d_M_place_5 rfl rfl ?_
  refine jw_iload_n (pc := 6) F 1 d_M_place_6 rfl rfl ?_
  refine jw_callS_Ei (pc := 7) (As := [.int (nI r)]) (rest := [.ref (am 0)]) F (m_isReplica l D cB cI cL (nI r)) (jw_cwS F.1.2.2.2.2 wl_good w_387 w_388 w_30 w_389 hd_M_isReplica ⟨by decide, by decide⟩) rfl rfl (Nat.le_of_ble_eq_true rfl) d_M_place_7 ⟨rfl, rfl⟩ ⟨by decide, by decide⟩ ?_
  refine jw_if_ne (pc := 10) F 17 d_M_place_10 (by decide) (fun hz1 => ?_) (fun hz1 => False.elim (absurd (jb_0.mp hz1) (by rw [m_isrep_nI hr]; decide)))
  refine jw_iconst (pc := 17) (v := 0) F d_M_place_17 (by decide) ?_
  refine jw_iconst (pc := 18) (v := 1) F d_M_place_18 (by decide) ?_
  refine jw_callV_Ei (pc := 19) (As := [.int 0, .int 1]) (rest := []) F ([]) ([]) (m_failsF l D am cB cI cL go gc gb gd gh gr gt gk gn op sz false rfl 1) (jw_cwV F.1.2.2.2.2 wl_good w_394 w_396 w_17 w_30 w_397 hd_M_fails ⟨by decide, by decide⟩) 0 1 rfl rfl rfl (by simp) rfl rfl (Nat.le_of_ble_eq_true rfl) d_M_place_19 ⟨rfl, rfl⟩ ⟨by decide, by decide⟩ ?_
  refine jw_if_ne (pc := 22) F 68 d_M_place_22 (by decide) (fun hz2 => False.elim (hz2 rfl)) (fun hz2 => ?_)
  refine jw_aload_n (pc := 25) F 0 d_M_place_25 rfl rfl ?_
  refine jw_aload_n (pc := 26) F 0 d_M_place_26 rfl rfl ?_
  refine jw_iload_n (pc := 27) F 2 d_M_place_27 rfl rfl ?_
  refine jw_callV_Ei (pc := 28) (As := [.int tt]) (rest := [.ref (am 0)]) F ([]) ([]) (m_isThere l D am cB cI cL go gc gb gd gh gr gt gk gn 0 op sz (a_n a) hn hA.1 tt) (jw_cwV F.1.2.2.2.2 wl_good w_402 w_404 w_19 w_30 w_405 hd_M_isThere ⟨by decide, by decide⟩) 0 1 rfl rfl rfl (by simp) rfl rfl (Nat.le_of_ble_eq_true rfl) d_M_place_28 ⟨rfl, rfl⟩ ⟨by decide, by decide⟩ ?_
  refine jw_if_ne (pc := 31) F 38 d_M_place_31 (by decide) (fun hz3 => False.elim (absurd (jb_n.mp hz3) (by rw [ht]; decide))) (fun hz3 => ?_)
  refine jw_iconst (pc := 34) (v := 1) F d_M_place_34 (by decide) ?_
  refine jw_goto (pc := 35) F 39 d_M_place_35 (by decide) ?_
  refine jw_iconst (pc := 39) (v := 2) F d_M_place_39 (by decide) ?_
  refine jw_callV_Ci (pc := 40) (As := [.int 1, .int 2]) (rest := []) F (m_failsT l D am cB cI cL go gc gb gd gh gr gt gk gn op sz true rfl 2 (by decide)) (jw_cwV F.1.2.2.2.2 wl_good w_394 w_396 w_17 w_30 w_397 hd_M_fails ⟨by decide, by decide⟩) 0 1 rfl rfl rfl rfl rfl rfl (Nat.le_of_ble_eq_true rfl) d_M_place_40 ⟨rfl, rfl⟩ ⟨by decide, by decide⟩ (fun r w hw => ?_)
  obtain ⟨rfl, rfl⟩ := hw
  refine jw_if_ne (pc := 43) F 68 d_M_place_43 (by decide) (fun hz4 => ?_) (fun hz4 => False.elim (absurd hz4 (by decide)))
  refine jw_iconst (pc := 68) (v := 0) F d_M_place_68 (by decide) ?_
  exact jw_iret F d_M_place_69 ⟨rfl, rfl⟩
set_option maxHeartbeats 4000000 in
set_option maxRecDepth 100000 in
theorem m_place_3 (l : Launch) (D : va_G) (am : Nat → Nat) (cB cI cL : ClassId) (go gc gb gd gh gr gt gk : Nat → Int32) (gn : Nat → Int64) (er op sz : Int32) (a : AS) (hQ : mx_R a go gc gb gd gh gn op) (r : Nat) (hr : r < 4) (tt : Int32) (ht : a_isop (a_n a) tt = true) (hh : a_haseB a r tt = false) : jw_Mi l D vCl (vTy cB cI cL) y_M_place s_M_place rm_M_place [.ref (am 0), .int (nI r), .int tt] (wM am cB cI cL go gc gb gd gh gr gt gk gn er op sz) (fun r9 w9 => r9 = 0 ∧ w9 = wM am cB cI cL go gc gb gd gh gr gt gk gn 3 op sz) := by
  refine jw_ofi (cc := b_M_place) (nL := 4) (ret := (some .int)) (by decide) rfl (Nat.le_of_ble_eq_true rfl) (fun p e s m args below meth c A F hnm => ?_)
  refine jw_at (lv' := [(0, .ref (am 0)), (1, .int (nI r)), (2, .int tt)]) (st' := []) (ws' := wM am cB cI cL go gc gb gd gh gr gt gk gn er op sz) rfl rfl rfl ?_
  obtain ⟨hI, hA, hV⟩ := hQ
  have hn := hI.1
  refine jw_aload_n (pc := 0) F 0 d_M_place_0 rfl rfl ?_
  refine jw_iconst (pc := 1) (v := 0) F d_M_place_1 (by decide) ?_
  refine jw_put (pc := 2) (v := .int 0) (ty := .int) (ws' := wM am cB cI cL go gc gb gd gh gr gt gk gn 0 op sz) F (jms inM) tM tM_ok nmM 0 rfl rfl 0 (by decide) (jm w_342) rfl (by decide +kernel) rfl rfl (Nat.le_of_ble_eq_true rfl) d_M_place_2 rfl ?_
  refine jw_aload_n (pc := 5) F 0 d_M_place_5 rfl rfl ?_
  refine jw_iload_n (pc := 6) F 1 d_M_place_6 rfl rfl ?_
  refine jw_callS_Ei (pc := 7) (As := [.int (nI r)]) (rest := [.ref (am 0)]) F (m_isReplica l D cB cI cL (nI r)) (jw_cwS F.1.2.2.2.2 wl_good w_387 w_388 w_30 w_389 hd_M_isReplica ⟨by decide, by decide⟩) rfl rfl (Nat.le_of_ble_eq_true rfl) d_M_place_7 ⟨rfl, rfl⟩ ⟨by decide, by decide⟩ ?_
  refine jw_if_ne (pc := 10) F 17 d_M_place_10 (by decide) (fun hz1 => ?_) (fun hz1 => False.elim (absurd (jb_0.mp hz1) (by rw [m_isrep_nI hr]; decide)))
  refine jw_iconst (pc := 17) (v := 0) F d_M_place_17 (by decide) ?_
  refine jw_iconst (pc := 18) (v := 1) F d_M_place_18 (by decide) ?_
  refine jw_callV_Ei (pc := 19) (As := [.int 0, .int 1]) (rest := []) F ([]) ([]) (m_failsF l D am cB cI cL go gc gb gd gh gr gt gk gn op sz false rfl 1) (jw_cwV F.1.2.2.2.2 wl_good w_394 w_396 w_17 w_30 w_397 hd_M_fails ⟨by decide, by decide⟩) 0 1 rfl rfl rfl (by simp) rfl rfl (Nat.le_of_ble_eq_true rfl) d_M_place_19 ⟨rfl, rfl⟩ ⟨by decide, by decide⟩ ?_
  refine jw_if_ne (pc := 22) F 68 d_M_place_22 (by decide) (fun hz2 => False.elim (hz2 rfl)) (fun hz2 => ?_)
  refine jw_aload_n (pc := 25) F 0 d_M_place_25 rfl rfl ?_
  refine jw_aload_n (pc := 26) F 0 d_M_place_26 rfl rfl ?_
  refine jw_iload_n (pc := 27) F 2 d_M_place_27 rfl rfl ?_
  refine jw_callV_Ei (pc := 28) (As := [.int tt]) (rest := [.ref (am 0)]) F ([]) ([]) (m_isThere l D am cB cI cL go gc gb gd gh gr gt gk gn 0 op sz (a_n a) hn hA.1 tt) (jw_cwV F.1.2.2.2.2 wl_good w_402 w_404 w_19 w_30 w_405 hd_M_isThere ⟨by decide, by decide⟩) 0 1 rfl rfl rfl (by simp) rfl rfl (Nat.le_of_ble_eq_true rfl) d_M_place_28 ⟨rfl, rfl⟩ ⟨by decide, by decide⟩ ?_
  refine jw_if_ne (pc := 31) F 38 d_M_place_31 (by decide) (fun hz3 => ?_) (fun hz3 => False.elim (absurd (jb_0.mp hz3) (by rw [ht]; decide)))
  refine jw_iconst (pc := 38) (v := 0) F d_M_place_38 (by decide) ?_
  refine jw_iconst (pc := 39) (v := 2) F d_M_place_39 (by decide) ?_
  refine jw_callV_Ei (pc := 40) (As := [.int 0, .int 2]) (rest := []) F ([]) ([]) (m_failsF l D am cB cI cL go gc gb gd gh gr gt gk gn op sz false rfl 2) (jw_cwV F.1.2.2.2.2 wl_good w_394 w_396 w_17 w_30 w_397 hd_M_fails ⟨by decide, by decide⟩) 0 1 rfl rfl rfl (by simp) rfl rfl (Nat.le_of_ble_eq_true rfl) d_M_place_40 ⟨rfl, rfl⟩ ⟨by decide, by decide⟩ ?_
  refine jw_if_ne (pc := 43) F 68 d_M_place_43 (by decide) (fun hz4 => False.elim (hz4 rfl)) (fun hz4 => ?_)
  refine jw_aload_n (pc := 46) F 0 d_M_place_46 rfl rfl ?_
  refine jw_aload_n (pc := 47) F 0 d_M_place_47 rfl rfl ?_
  refine jw_iload_n (pc := 48) F 1 d_M_place_48 rfl rfl ?_
  refine jw_iload_n (pc := 49) F 2 d_M_place_49 rfl rfl ?_
  refine jw_callV_Ei (pc := 50) (As := [.int (nI r), .int tt]) (rest := [.ref (am 0)]) F ([]) ([]) (m_hasElement l D am cB cI cL go gc gb gd gh gr gt gk gn 0 op sz a hI hA r hr tt) (jw_cwV F.1.2.2.2.2 wl_good w_398 w_400 w_18 w_30 w_401 hd_M_hasElement ⟨by decide, by decide⟩) 0 1 rfl rfl rfl (by simp) rfl rfl (Nat.le_of_ble_eq_true rfl) d_M_place_50 ⟨rfl, rfl⟩ ⟨by decide, by decide⟩ ?_
  refine jw_if_ne (pc := 53) F 60 d_M_place_53 (by decide) (fun hz5 => False.elim (absurd (jb_n.mp hz5) (by rw [hh]; decide))) (fun hz5 => ?_)
  refine jw_iconst (pc := 56) (v := 1) F d_M_place_56 (by decide) ?_
  refine jw_goto (pc := 57) F 61 d_M_place_57 (by decide) ?_
  refine jw_iconst (pc := 61) (v := 3) F d_M_place_61 (by decide) ?_
  refine jw_callV_Ci (pc := 62) (As := [.int 1, .int 3]) (rest := []) F (m_failsT l D am cB cI cL go gc gb gd gh gr gt gk gn op sz true rfl 3 (by decide)) (jw_cwV F.1.2.2.2.2 wl_good w_394 w_396 w_17 w_30 w_397 hd_M_fails ⟨by decide, by decide⟩) 0 1 rfl rfl rfl rfl rfl rfl (Nat.le_of_ble_eq_true rfl) d_M_place_62 ⟨rfl, rfl⟩ ⟨by decide, by decide⟩ (fun r w hw => ?_)
  obtain ⟨rfl, rfl⟩ := hw
  refine jw_if_eq (pc := 65) F 70 d_M_place_65 (by decide) (fun hz6 => False.elim (absurd hz6 (by decide))) (fun hz6 => ?_)
  refine jw_iconst (pc := 68) (v := 0) F d_M_place_68 (by decide) ?_
  exact jw_iret F d_M_place_69 ⟨rfl, rfl⟩
set_option maxHeartbeats 4000000 in
set_option maxRecDepth 100000 in
theorem m_place_0 (l : Launch) (D : va_G) (am : Nat → Nat) (cB cI cL : ClassId) (go gc gb gd gh gr gt gk : Nat → Int32) (gn : Nat → Int64) (er op sz : Int32) (a : AS) (hQ : mx_R a go gc gb gd gh gn op) (L : List Nat) (hR : ab_row a L) (r : Nat) (hr : r < 4) (k : Nat) (hk : k < a_n a) (hd : a_dl a k = false) (hh : a_hd a r k = true) : jw_Mi l D vCl (vTy cB cI cL) y_M_place s_M_place rm_M_place [.ref (am 0), .int (nI r), .int (nI k)] (wM am cB cI cL go gc gb gd gh gr gt gk gn er op sz) (fun r9 w9 => (∃ (i : Nat) (h : i < (L.filter (a_hd a r)).length), (L.filter (a_hd a r))[i] = k ∧ r9 = nI i) ∧ ∃ (k7 k8 k9 : Nat → Int32) (ks : Int32), w9 = wM am cB cI cL go gc gb gd gh k7 k8 k9 gn 0 op ks) := by
  refine jw_ofi (cc := b_M_place) (nL := 4) (ret := (some .int)) (by decide) rfl (Nat.le_of_ble_eq_true rfl) (fun p e s m args below meth c A F hnm => ?_)
  refine jw_at (lv' := [(0, .ref (am 0)), (1, .int (nI r)), (2, .int (nI k))]) (st' := []) (ws' := wM am cB cI cL go gc gb gd gh gr gt gk gn er op sz) rfl rfl rfl ?_
  obtain ⟨hI, hA, hV⟩ := hQ
  have hn := hI.1
  refine jw_aload_n (pc := 0) F 0 d_M_place_0 rfl rfl ?_
  refine jw_iconst (pc := 1) (v := 0) F d_M_place_1 (by decide) ?_
  refine jw_put (pc := 2) (v := .int 0) (ty := .int) (ws' := wM am cB cI cL go gc gb gd gh gr gt gk gn 0 op sz) F (jms inM) tM tM_ok nmM 0 rfl rfl 0 (by decide) (jm w_342) rfl (by decide +kernel) rfl rfl (Nat.le_of_ble_eq_true rfl) d_M_place_2 rfl ?_
  refine jw_aload_n (pc := 5) F 0 d_M_place_5 rfl rfl ?_
  refine jw_iload_n (pc := 6) F 1 d_M_place_6 rfl rfl ?_
  refine jw_callS_Ei (pc := 7) (As := [.int (nI r)]) (rest := [.ref (am 0)]) F (m_isReplica l D cB cI cL (nI r)) (jw_cwS F.1.2.2.2.2 wl_good w_387 w_388 w_30 w_389 hd_M_isReplica ⟨by decide, by decide⟩) rfl rfl (Nat.le_of_ble_eq_true rfl) d_M_place_7 ⟨rfl, rfl⟩ ⟨by decide, by decide⟩ ?_
  refine jw_if_ne (pc := 10) F 17 d_M_place_10 (by decide) (fun hz1 => ?_) (fun hz1 => False.elim (absurd (jb_0.mp hz1) (by rw [m_isrep_nI hr]; decide)))
  refine jw_iconst (pc := 17) (v := 0) F d_M_place_17 (by decide) ?_
  refine jw_iconst (pc := 18) (v := 1) F d_M_place_18 (by decide) ?_
  refine jw_callV_Ei (pc := 19) (As := [.int 0, .int 1]) (rest := []) F ([]) ([]) (m_failsF l D am cB cI cL go gc gb gd gh gr gt gk gn op sz false rfl 1) (jw_cwV F.1.2.2.2.2 wl_good w_394 w_396 w_17 w_30 w_397 hd_M_fails ⟨by decide, by decide⟩) 0 1 rfl rfl rfl (by simp) rfl rfl (Nat.le_of_ble_eq_true rfl) d_M_place_19 ⟨rfl, rfl⟩ ⟨by decide, by decide⟩ ?_
  refine jw_if_ne (pc := 22) F 68 d_M_place_22 (by decide) (fun hz2 => False.elim (hz2 rfl)) (fun hz2 => ?_)
  refine jw_aload_n (pc := 25) F 0 d_M_place_25 rfl rfl ?_
  refine jw_aload_n (pc := 26) F 0 d_M_place_26 rfl rfl ?_
  refine jw_iload_n (pc := 27) F 2 d_M_place_27 rfl rfl ?_
  refine jw_callV_Ei (pc := 28) (As := [.int (nI k)]) (rest := [.ref (am 0)]) F ([]) ([]) (m_isThere l D am cB cI cL go gc gb gd gh gr gt gk gn 0 op sz (a_n a) hn hA.1 (nI k)) (jw_cwV F.1.2.2.2.2 wl_good w_402 w_404 w_19 w_30 w_405 hd_M_isThere ⟨by decide, by decide⟩) 0 1 rfl rfl rfl (by simp) rfl rfl (Nat.le_of_ble_eq_true rfl) d_M_place_28 ⟨rfl, rfl⟩ ⟨by decide, by decide⟩ ?_
  refine jw_if_ne (pc := 31) F 38 d_M_place_31 (by decide) (fun hz3 => ?_) (fun hz3 => False.elim (absurd (jb_0.mp hz3) (by rw [a_isop_nI (by omega) hk]; decide)))
  refine jw_iconst (pc := 38) (v := 0) F d_M_place_38 (by decide) ?_
  refine jw_iconst (pc := 39) (v := 2) F d_M_place_39 (by decide) ?_
  refine jw_callV_Ei (pc := 40) (As := [.int 0, .int 2]) (rest := []) F ([]) ([]) (m_failsF l D am cB cI cL go gc gb gd gh gr gt gk gn op sz false rfl 2) (jw_cwV F.1.2.2.2.2 wl_good w_394 w_396 w_17 w_30 w_397 hd_M_fails ⟨by decide, by decide⟩) 0 1 rfl rfl rfl (by simp) rfl rfl (Nat.le_of_ble_eq_true rfl) d_M_place_40 ⟨rfl, rfl⟩ ⟨by decide, by decide⟩ ?_
  refine jw_if_ne (pc := 43) F 68 d_M_place_43 (by decide) (fun hz4 => False.elim (hz4 rfl)) (fun hz4 => ?_)
  refine jw_aload_n (pc := 46) F 0 d_M_place_46 rfl rfl ?_
  refine jw_aload_n (pc := 47) F 0 d_M_place_47 rfl rfl ?_
  refine jw_iload_n (pc := 48) F 1 d_M_place_48 rfl rfl ?_
  refine jw_iload_n (pc := 49) F 2 d_M_place_49 rfl rfl ?_
  refine jw_callV_Ei (pc := 50) (As := [.int (nI r), .int (nI k)]) (rest := [.ref (am 0)]) F ([]) ([]) (m_hasElement l D am cB cI cL go gc gb gd gh gr gt gk gn 0 op sz a hI hA r hr (nI k)) (jw_cwV F.1.2.2.2.2 wl_good w_398 w_400 w_18 w_30 w_401 hd_M_hasElement ⟨by decide, by decide⟩) 0 1 rfl rfl rfl (by simp) rfl rfl (Nat.le_of_ble_eq_true rfl) d_M_place_50 ⟨rfl, rfl⟩ ⟨by decide, by decide⟩ ?_
  refine jw_if_ne (pc := 53) F 60 d_M_place_53 (by decide) (fun hz5 => ?_) (fun hz5 => False.elim (absurd (jb_0.mp hz5) (by rw [show a_haseB a r (nI k) = true by rw [a_haseB_nI hn hk, hd, hh]; rfl]; decide)))
  refine jw_iconst (pc := 60) (v := 0) F d_M_place_60 (by decide) ?_
  refine jw_iconst (pc := 61) (v := 3) F d_M_place_61 (by decide) ?_
  refine jw_callV_Ei (pc := 62) (As := [.int 0, .int 3]) (rest := []) F ([]) ([]) (m_failsF l D am cB cI cL go gc gb gd gh gr gt gk gn op sz false rfl 3) (jw_cwV F.1.2.2.2.2 wl_good w_394 w_396 w_17 w_30 w_397 hd_M_fails ⟨by decide, by decide⟩) 0 1 rfl rfl rfl (by simp) rfl rfl (Nat.le_of_ble_eq_true rfl) d_M_place_62 ⟨rfl, rfl⟩ ⟨by decide, by decide⟩ ?_
  refine jw_if_eq (pc := 65) F 70 d_M_place_65 (by decide) (fun hz6 => ?_) (fun hz6 => False.elim (hz6 rfl))
  refine jw_aload_n (pc := 70) F 0 d_M_place_70 rfl rfl ?_
  refine jw_iload_n (pc := 71) F 1 d_M_place_71 rfl rfl ?_
  refine jw_callV_Cv (pc := 72) (As := [.int (nI r)]) (rest := []) F (m_look l D am cB cI cL go gc gb gd gh gr gt gk gn 0 op sz a hI hA r hr) (jw_cwV F.1.2.2.2.2 wl_good w_443 w_445 w_24 w_30 w_446 hd_M_look ⟨by decide, by decide⟩) 0 1 rfl rfl rfl rfl rfl rfl (Nat.le_of_ble_eq_true rfl) d_M_place_72 ⟨rfl, rfl⟩ ⟨by decide, by decide⟩ (fun w hw => ?_)
  obtain ⟨g7, g8, M, rfl, h7, hM⟩ := hw
  obtain ⟨hl, hMn⟩ := ab_own_len hI hM
  have hML := ab_own_eq hI hR hM
  have loop : ∀ (t i : Nat), i + t = M.length → (∀ j (h : j < M.length), j < i → M[j] ≠ k) → jw_J p l e rm_M_place s m args below meth c D vCl A 4 (MQ below (va_Qi (fun r9 w9 => (∃ (i : Nat) (h : i < (L.filter (a_hd a r)).length), (L.filter (a_hd a r))[i] = k ∧ r9 = nI i) ∧ ∃ (k7 k8 k9 : Nat → Int32) (ks : Int32), w9 = wM am cB cI cL go gc gb gd gh k7 k8 k9 gn 0 op ks) (jw_B D vCl (vTy cB cI cL) A) A) args s rm_M_place.cells rm_M_place.slots A) 0 0 77 [(0, .ref (am 0)), (1, .int (nI r)), (2, .int (nI k)), (3, .int (nI i))] [] (wM am cB cI cL go gc gb gd gh g7 g8 gk gn 0 op (nI M.length)) := by
    intro t
    induction t with
    | zero =>
      intro i hi hc
      exfalso
      obtain ⟨j, hj, g⟩ := List.getElem_of_mem ((hM.2.1 k).mpr ⟨hk, hd, hh⟩)
      exact hc j hj (by omega) g
    | succ t ih =>
      intro i hi hc
      have hlt : i < M.length := by omega
      have hm := hMn _ (List.getElem_mem hlt)
      refine jw_iload_n (pc := 77) F 3 d_M_place_77 rfl rfl ?_
      refine jw_aload_n (pc := 78) F 0 d_M_place_78 rfl rfl ?_
      refine jw_get (pc := 79) F (jms inM) 0 rfl rfl 11 (by decide) (jm w_353) rfl d_M_place_79 ?_
      refine jw_icmp_ge (pc := 82) F 103 d_M_place_82 (by decide) (fun hz7 => False.elim (nI_ge hlt (by omega) hz7)) (fun hz7 => ?_)
      refine jw_aload_n (pc := 85) F 0 d_M_place_85 rfl rfl ?_
      refine jw_get (pc := 86) F (jms inM) 0 rfl rfl 8 (by decide) (jm w_350) rfl d_M_place_86 ?_
      refine jw_iload_n (pc := 89) F 3 d_M_place_89 rfl rfl ?_
      refine jw_ialdN (pc := 90) F 7 1 rfl rfl i rfl (by omega) (by decide) d_M_place_90 ?_
      rw [h7 i hlt]
      refine jw_iload_n (pc := 91) F 2 d_M_place_91 rfl rfl ?_
      refine jw_icmp_ne (pc := 92) F 97 d_M_place_92 (by decide) (fun h1 => ?_) (fun h1 => ?_)
      · refine jw_iinc (pc := 97) (v := nI (i + 1)) (lv' := [(0, .ref (am 0)), (1, .int (nI r)), (2, .int (nI k)), (3, .int (nI (i + 1)))]) F 3 d_M_place_97 rfl (jw_inc _) (by decide) rfl ?_
        refine jw_goto (pc := 100) F 77 d_M_place_100 (by decide) ?_
        exact ih (i + 1) (by omega) (fun j hj hji g => by
            by_cases e1 : j = i
            · subst e1; exact h1 (by rw [g])
            · exact hc j hj (by omega) g)
      · refine jw_iload_n (pc := 95) F 3 d_M_place_95 rfl rfl ?_
        exact jw_iret F d_M_place_96 ⟨by rw [← hML]; exact ⟨i, hlt, ab_nI_inj (by omega) (by omega) h1, rfl⟩, _, _, _, _, rfl⟩
  refine jw_iconst (pc := 75) (v := nI 0) F d_M_place_75 (by decide) ?_
  refine jw_istore_n (pc := 76) (lv' := [(0, .ref (am 0)), (1, .int (nI r)), (2, .int (nI k)), (3, .int (nI 0))]) F d_M_place_76 rfl (by decide) rfl ?_
  exact loop M.length 0 (by omega) (fun j _ hj => absurd hj (Nat.not_lt_zero j))
set_option maxHeartbeats 4000000 in
set_option maxRecDepth 100000 in
theorem m_count_v2 (l : Launch) (D : va_G) (am : Nat → Nat) (cB cI cL : ClassId) (go gc gb gd gh gr gt gk : Nat → Int32) (gn : Nat → Int64) (er op sz : Int32) (a : AS) (hQ : mx_R a go gc gb gd gh gn op) (L : List Nat) (hR : ab_row a L) (r : Nat) (hr : r < 4) : jw_Mi l D vCl (vTy cB cI cL) y_M_count s_M_count rm_M_count [.ref (am 0), .int (nI r), .int (nI 2)] (wM am cB cI cL go gc gb gd gh gr gt gk gn er op sz) (fun r9 w9 => r9 = nI (L.filter (a_seen a r)).length ∧ ∃ (k7 k8 k9 : Nat → Int32) (ks : Int32), w9 = wM am cB cI cL go gc gb gd gh k7 k8 k9 gn 0 op ks) := by
  refine jw_ofi (cc := b_M_count) (nL := 5) (ret := (some .int)) (by decide) rfl (Nat.le_of_ble_eq_true rfl) (fun p e s m args below meth c A F hnm => ?_)
  refine jw_at (lv' := [(0, .ref (am 0)), (1, .int (nI r)), (2, .int (nI 2))]) (st' := []) (ws' := wM am cB cI cL go gc gb gd gh gr gt gk gn er op sz) rfl rfl rfl ?_
  obtain ⟨hI, hA, hV⟩ := hQ
  have hn := hI.1
  refine jw_aload_n (pc := 0) F 0 d_M_count_0 rfl rfl ?_
  refine jw_iconst (pc := 1) (v := 0) F d_M_count_1 (by decide) ?_
  refine jw_put (pc := 2) (v := .int 0) (ty := .int) (ws' := wM am cB cI cL go gc gb gd gh gr gt gk gn 0 op sz) F (jms inM) tM tM_ok nmM 0 rfl rfl 0 (by decide) (jm w_342) rfl (by decide +kernel) rfl rfl (Nat.le_of_ble_eq_true rfl) d_M_count_2 rfl ?_
  refine jw_aload_n (pc := 5) F 0 d_M_count_5 rfl rfl ?_
  refine jw_iload_n (pc := 6) F 1 d_M_count_6 rfl rfl ?_
  refine jw_callS_Ei (pc := 7) (As := [.int (nI r)]) (rest := [.ref (am 0)]) F (m_isReplica l D cB cI cL (nI r)) (jw_cwS F.1.2.2.2.2 wl_good w_387 w_388 w_30 w_389 hd_M_isReplica ⟨by decide, by decide⟩) rfl rfl (Nat.le_of_ble_eq_true rfl) d_M_count_7 ⟨rfl, rfl⟩ ⟨by decide, by decide⟩ ?_
  refine jw_if_eq (pc := 10) F 25 d_M_count_10 (by decide) (fun hz1 => False.elim (absurd (jb_0.mp hz1) (by rw [m_isrep_nI hr]; decide))) (fun hz1 => ?_)
  refine jw_iload_n (pc := 13) F 2 d_M_count_13 rfl rfl ?_
  refine jw_i2l (pc := 14) F d_M_count_14 ?_
  refine jw_lconst (pc := 15) (v := 0) F d_M_count_15 (by decide) ?_
  refine jw_ldc2 (pc := 16) (v := 3) F d_M_count_16 (jm w_390) ?_
  refine jw_callS_Ei (pc := 19) (As := [.long ((nI 2).toInt64), .long 0, .long 3]) (rest := [.ref (am 0)]) F (m_in_c l D cB cI cL (nI 2).toInt64 0 3) (jw_cwS F.1.2.2.2.2 wl_good w_391 w_392 w_30 w_393 hd_M_in ⟨by decide, by decide⟩) rfl rfl (Nat.le_of_ble_eq_true rfl) d_M_count_19 ⟨rfl, rfl⟩ ⟨by decide, by decide⟩ ?_
  rw [m_in_rep]
  refine jw_if_ne (pc := 22) F 29 d_M_count_22 (by decide) (fun hz2 => ?_) (fun hz2 => False.elim (absurd (jb_0.mp hz2) (by rw [m_isrep_nI (by decide)]; decide)))
  refine jw_iconst (pc := 29) (v := 0) F d_M_count_29 (by decide) ?_
  refine jw_iconst (pc := 30) (v := 1) F d_M_count_30 (by decide) ?_
  refine jw_callV_Ei (pc := 31) (As := [.int 0, .int 1]) (rest := []) F ([]) ([]) (m_failsF l D am cB cI cL go gc gb gd gh gr gt gk gn op sz false rfl 1) (jw_cwV F.1.2.2.2.2 wl_good w_394 w_396 w_17 w_30 w_397 hd_M_fails ⟨by decide, by decide⟩) 0 1 rfl rfl rfl (by simp) rfl rfl (Nat.le_of_ble_eq_true rfl) d_M_count_31 ⟨rfl, rfl⟩ ⟨by decide, by decide⟩ ?_
  refine jw_if_eq (pc := 34) F 39 d_M_count_34 (by decide) (fun hz3 => ?_) (fun hz3 => False.elim (hz3 rfl))
  refine jw_iload_n (pc := 39) F 2 d_M_count_39 rfl rfl ?_
  refine jw_iconst (pc := 40) (v := nI 3) F d_M_count_40 (by decide) ?_
  refine jw_icmp_ne (pc := 41) F 50 d_M_count_41 (by decide) (fun hz4 => ?_) (fun hz4 => False.elim (absurd hz4 (by decide)))
  refine jw_iload_n (pc := 50) F 2 d_M_count_50 rfl rfl ?_
  refine jw_iconst (pc := 51) (v := nI 2) F d_M_count_51 (by decide) ?_
  refine jw_icmp_ne (pc := 52) F 65 d_M_count_52 (by decide) (fun hz5 => False.elim (hz5 rfl)) (fun hz5 => ?_)
  refine jw_aload_n (pc := 55) F 0 d_M_count_55 rfl rfl ?_
  refine jw_iload_n (pc := 56) F 1 d_M_count_56 rfl rfl ?_
  refine jw_callV_Cv (pc := 57) (As := [.int (nI r)]) (rest := []) F (m_lookSeen l D am cB cI cL go gc gb gd gh gr gt gk gn 0 op sz a hI hA L hR r hr) (jw_cwV F.1.2.2.2.2 wl_good w_439 w_441 w_23 w_30 w_442 hd_M_lookSeen ⟨by decide, by decide⟩) 0 1 rfl rfl rfl rfl rfl rfl (Nat.le_of_ble_eq_true rfl) d_M_count_57 ⟨rfl, rfl⟩ ⟨by decide, by decide⟩ (fun w hw => ?_)
  obtain ⟨g7, g8, rfl, h7⟩ := hw
  refine jw_aload_n (pc := 60) F 0 d_M_count_60 rfl rfl ?_
  refine jw_get (pc := 61) F (jms inM) 0 rfl rfl 11 (by decide) (jm w_353) rfl d_M_count_61 ?_
  exact jw_iret F d_M_count_64 ⟨rfl, _, _, _, _, rfl⟩
set_option maxHeartbeats 4000000 in
set_option maxRecDepth 100000 in
theorem m_same_1 (l : Launch) (D : va_G) (am : Nat → Nat) (cB cI cL : ClassId) (go gc gb gd gh gr gt gk : Nat → Int32) (gn : Nat → Int64) (er op sz : Int32) (a : AS) (hQ : mx_R a go gc gb gd gh gn op) (r : Int32) (hr : a_isrep r = false) (tt : Int32) : jw_Mi l D vCl (vTy cB cI cL) y_M_same s_M_same rm_M_same [.ref (am 0), .int r, .int tt] (wM am cB cI cL go gc gb gd gh gr gt gk gn er op sz) (fun r9 w9 => r9 = 0 ∧ w9 = wM am cB cI cL go gc gb gd gh gr gt gk gn 1 op sz) := by
  refine jw_ofi (cc := b_M_same) (nL := 5) (ret := (some .boolean)) (by decide) rfl (Nat.le_of_ble_eq_true rfl) (fun p e s m args below meth c A F hnm => ?_)
  refine jw_at (lv' := [(0, .ref (am 0)), (1, .int r), (2, .int tt)]) (st' := []) (ws' := wM am cB cI cL go gc gb gd gh gr gt gk gn er op sz) rfl rfl rfl ?_
  refine jw_aload_n (pc := 0) F 0 d_M_same_0 rfl rfl ?_
  refine jw_iconst (pc := 1) (v := 0) F d_M_same_1 (by decide) ?_
  refine jw_put (pc := 2) (v := .int 0) (ty := .int) (ws' := wM am cB cI cL go gc gb gd gh gr gt gk gn 0 op sz) F (jms inM) tM tM_ok nmM 0 rfl rfl 0 (by decide) (jm w_342) rfl (by decide +kernel) rfl rfl (Nat.le_of_ble_eq_true rfl) d_M_same_2 rfl ?_
  refine jw_aload_n (pc := 5) F 0 d_M_same_5 rfl rfl ?_
  refine jw_iload_n (pc := 6) F 1 d_M_same_6 rfl rfl ?_
  refine jw_callS_Ei (pc := 7) (As := [.int r]) (rest := [.ref (am 0)]) F (m_isReplica l D cB cI cL r) (jw_cwS F.1.2.2.2.2 wl_good w_387 w_388 w_30 w_389 hd_M_isReplica ⟨by decide, by decide⟩) rfl rfl (Nat.le_of_ble_eq_true rfl) d_M_same_7 ⟨rfl, rfl⟩ ⟨by decide, by decide⟩ ?_
  refine jw_if_eq (pc := 10) F 20 d_M_same_10 (by decide) (fun hz1 => ?_) (fun hz1 => False.elim (absurd (jb_n.mp hz1) (by rw [hr]; decide)))
  refine jw_iconst (pc := 20) (v := 1) F d_M_same_20 (by decide) ?_
  refine jw_goto (pc := 21) F 25 d_M_same_21 (by decide) ?_
  refine jw_iconst (pc := 25) (v := 1) F d_M_same_25 (by decide) ?_
  refine jw_callV_Ci (pc := 26) (As := [.int 1, .int 1]) (rest := []) F (m_failsT l D am cB cI cL go gc gb gd gh gr gt gk gn op sz true rfl 1 (by decide)) (jw_cwV F.1.2.2.2.2 wl_good w_394 w_396 w_17 w_30 w_397 hd_M_fails ⟨by decide, by decide⟩) 0 1 rfl rfl rfl rfl rfl rfl (Nat.le_of_ble_eq_true rfl) d_M_same_26 ⟨rfl, rfl⟩ ⟨by decide, by decide⟩ (fun r w hw => ?_)
  obtain ⟨rfl, rfl⟩ := hw
  refine jw_if_eq (pc := 29) F 34 d_M_same_29 (by decide) (fun hz2 => False.elim (absurd hz2 (by decide))) (fun hz2 => ?_)
  refine jw_iconst (pc := 32) (v := 0) F d_M_same_32 (by decide) ?_
  exact jw_zret F d_M_same_33 (by decide) ⟨rfl, rfl⟩
set_option maxHeartbeats 4000000 in
set_option maxRecDepth 100000 in
theorem m_same_2 (l : Launch) (D : va_G) (am : Nat → Nat) (cB cI cL : ClassId) (go gc gb gd gh gr gt gk : Nat → Int32) (gn : Nat → Int64) (er op sz : Int32) (a : AS) (hQ : mx_R a go gc gb gd gh gn op) (r : Nat) (hr : r < 4) (tt : Int32) (ht : a_isrep tt = false) : jw_Mi l D vCl (vTy cB cI cL) y_M_same s_M_same rm_M_same [.ref (am 0), .int (nI r), .int tt] (wM am cB cI cL go gc gb gd gh gr gt gk gn er op sz) (fun r9 w9 => r9 = 0 ∧ w9 = wM am cB cI cL go gc gb gd gh gr gt gk gn 1 op sz) := by
  refine jw_ofi (cc := b_M_same) (nL := 5) (ret := (some .boolean)) (by decide) rfl (Nat.le_of_ble_eq_true rfl) (fun p e s m args below meth c A F hnm => ?_)
  refine jw_at (lv' := [(0, .ref (am 0)), (1, .int (nI r)), (2, .int tt)]) (st' := []) (ws' := wM am cB cI cL go gc gb gd gh gr gt gk gn er op sz) rfl rfl rfl ?_
  refine jw_aload_n (pc := 0) F 0 d_M_same_0 rfl rfl ?_
  refine jw_iconst (pc := 1) (v := 0) F d_M_same_1 (by decide) ?_
  refine jw_put (pc := 2) (v := .int 0) (ty := .int) (ws' := wM am cB cI cL go gc gb gd gh gr gt gk gn 0 op sz) F (jms inM) tM tM_ok nmM 0 rfl rfl 0 (by decide) (jm w_342) rfl (by decide +kernel) rfl rfl (Nat.le_of_ble_eq_true rfl) d_M_same_2 rfl ?_
  refine jw_aload_n (pc := 5) F 0 d_M_same_5 rfl rfl ?_
  refine jw_iload_n (pc := 6) F 1 d_M_same_6 rfl rfl ?_
  refine jw_callS_Ei (pc := 7) (As := [.int (nI r)]) (rest := [.ref (am 0)]) F (m_isReplica l D cB cI cL (nI r)) (jw_cwS F.1.2.2.2.2 wl_good w_387 w_388 w_30 w_389 hd_M_isReplica ⟨by decide, by decide⟩) rfl rfl (Nat.le_of_ble_eq_true rfl) d_M_same_7 ⟨rfl, rfl⟩ ⟨by decide, by decide⟩ ?_
  refine jw_if_eq (pc := 10) F 20 d_M_same_10 (by decide) (fun hz1 => False.elim (absurd (jb_0.mp hz1) (by rw [m_isrep_nI hr]; decide))) (fun hz1 => ?_)
  refine jw_iload_n (pc := 13) F 2 d_M_same_13 rfl rfl ?_
  refine jw_callS_Ei (pc := 14) (As := [.int tt]) (rest := [.ref (am 0)]) F (m_isReplica l D cB cI cL tt) (jw_cwS F.1.2.2.2.2 wl_good w_387 w_388 w_30 w_389 hd_M_isReplica ⟨by decide, by decide⟩) rfl rfl (Nat.le_of_ble_eq_true rfl) d_M_same_14 ⟨rfl, rfl⟩ ⟨by decide, by decide⟩ ?_
  refine jw_if_ne (pc := 17) F 24 d_M_same_17 (by decide) (fun hz2 => False.elim (absurd (jb_n.mp hz2) (by rw [ht]; decide))) (fun hz2 => ?_)
  refine jw_iconst (pc := 20) (v := 1) F d_M_same_20 (by decide) ?_
  refine jw_goto (pc := 21) F 25 d_M_same_21 (by decide) ?_
  refine jw_iconst (pc := 25) (v := 1) F d_M_same_25 (by decide) ?_
  refine jw_callV_Ci (pc := 26) (As := [.int 1, .int 1]) (rest := []) F (m_failsT l D am cB cI cL go gc gb gd gh gr gt gk gn op sz true rfl 1 (by decide)) (jw_cwV F.1.2.2.2.2 wl_good w_394 w_396 w_17 w_30 w_397 hd_M_fails ⟨by decide, by decide⟩) 0 1 rfl rfl rfl rfl rfl rfl (Nat.le_of_ble_eq_true rfl) d_M_same_26 ⟨rfl, rfl⟩ ⟨by decide, by decide⟩ (fun r w hw => ?_)
  obtain ⟨rfl, rfl⟩ := hw
  refine jw_if_eq (pc := 29) F 34 d_M_same_29 (by decide) (fun hz3 => False.elim (absurd hz3 (by decide))) (fun hz3 => ?_)
  refine jw_iconst (pc := 32) (v := 0) F d_M_same_32 (by decide) ?_
  exact jw_zret F d_M_same_33 (by decide) ⟨rfl, rfl⟩
set_option maxHeartbeats 4000000 in
set_option maxRecDepth 100000 in
theorem m_same_0 (l : Launch) (D : va_G) (am : Nat → Nat) (cB cI cL : ClassId) (go gc gb gd gh gr gt gk : Nat → Int32) (gn : Nat → Int64) (er op sz : Int32) (a : AS) (hQ : mx_R a go gc gb gd gh gn op) (L : List Nat) (hR : ab_row a L) (r s9 : Nat) (hr : r < 4) (hs9 : s9 < 4) : jw_Mi l D vCl (vTy cB cI cL) y_M_same s_M_same rm_M_same [.ref (am 0), .int (nI r), .int (nI s9)] (wM am cB cI cL go gc gb gd gh gr gt gk gn er op sz) (fun r9 w9 => r9 = jb (decide ((L.filter (a_seen a r)) = (L.filter (a_seen a s9)))) ∧ ∃ (k7 k8 k9 : Nat → Int32) (ks : Int32), w9 = wM am cB cI cL go gc gb gd gh k7 k8 k9 gn 0 op ks) := by
  refine jw_ofi (cc := b_M_same) (nL := 5) (ret := (some .boolean)) (by decide) rfl (Nat.le_of_ble_eq_true rfl) (fun p e s m args below meth c A F hnm => ?_)
  refine jw_at (lv' := [(0, .ref (am 0)), (1, .int (nI r)), (2, .int (nI s9))]) (st' := []) (ws' := wM am cB cI cL go gc gb gd gh gr gt gk gn er op sz) rfl rfl rfl ?_
  obtain ⟨hI, hA, hV⟩ := hQ
  have hn := hI.1
  have hsl := ab_seen_len (r := r) hI hR
  have hsl2 := ab_seen_len (r := s9) hI hR
  refine jw_aload_n (pc := 0) F 0 d_M_same_0 rfl rfl ?_
  refine jw_iconst (pc := 1) (v := 0) F d_M_same_1 (by decide) ?_
  refine jw_put (pc := 2) (v := .int 0) (ty := .int) (ws' := wM am cB cI cL go gc gb gd gh gr gt gk gn 0 op sz) F (jms inM) tM tM_ok nmM 0 rfl rfl 0 (by decide) (jm w_342) rfl (by decide +kernel) rfl rfl (Nat.le_of_ble_eq_true rfl) d_M_same_2 rfl ?_
  refine jw_aload_n (pc := 5) F 0 d_M_same_5 rfl rfl ?_
  refine jw_iload_n (pc := 6) F 1 d_M_same_6 rfl rfl ?_
  refine jw_callS_Ei (pc := 7) (As := [.int (nI r)]) (rest := [.ref (am 0)]) F (m_isReplica l D cB cI cL (nI r)) (jw_cwS F.1.2.2.2.2 wl_good w_387 w_388 w_30 w_389 hd_M_isReplica ⟨by decide, by decide⟩) rfl rfl (Nat.le_of_ble_eq_true rfl) d_M_same_7 ⟨rfl, rfl⟩ ⟨by decide, by decide⟩ ?_
  refine jw_if_eq (pc := 10) F 20 d_M_same_10 (by decide) (fun hz1 => False.elim (absurd (jb_0.mp hz1) (by rw [m_isrep_nI hr]; decide))) (fun hz1 => ?_)
  refine jw_iload_n (pc := 13) F 2 d_M_same_13 rfl rfl ?_
  refine jw_callS_Ei (pc := 14) (As := [.int (nI s9)]) (rest := [.ref (am 0)]) F (m_isReplica l D cB cI cL (nI s9)) (jw_cwS F.1.2.2.2.2 wl_good w_387 w_388 w_30 w_389 hd_M_isReplica ⟨by decide, by decide⟩) rfl rfl (Nat.le_of_ble_eq_true rfl) d_M_same_14 ⟨rfl, rfl⟩ ⟨by decide, by decide⟩ ?_
  refine jw_if_ne (pc := 17) F 24 d_M_same_17 (by decide) (fun hz2 => ?_) (fun hz2 => False.elim (absurd (jb_0.mp hz2) (by rw [m_isrep_nI hs9]; decide)))
  refine jw_iconst (pc := 24) (v := 0) F d_M_same_24 (by decide) ?_
  refine jw_iconst (pc := 25) (v := 1) F d_M_same_25 (by decide) ?_
  refine jw_callV_Ei (pc := 26) (As := [.int 0, .int 1]) (rest := []) F ([]) ([]) (m_failsF l D am cB cI cL go gc gb gd gh gr gt gk gn op sz false rfl 1) (jw_cwV F.1.2.2.2.2 wl_good w_394 w_396 w_17 w_30 w_397 hd_M_fails ⟨by decide, by decide⟩) 0 1 rfl rfl rfl (by simp) rfl rfl (Nat.le_of_ble_eq_true rfl) d_M_same_26 ⟨rfl, rfl⟩ ⟨by decide, by decide⟩ ?_
  refine jw_if_eq (pc := 29) F 34 d_M_same_29 (by decide) (fun hz3 => ?_) (fun hz3 => False.elim (hz3 rfl))
  refine jw_aload_n (pc := 34) F 0 d_M_same_34 rfl rfl ?_
  refine jw_iload_n (pc := 35) F 1 d_M_same_35 rfl rfl ?_
  refine jw_callV_Cv (pc := 36) (As := [.int (nI r)]) (rest := []) F (m_lookSeen l D am cB cI cL go gc gb gd gh gr gt gk gn 0 op sz a hI hA L hR r hr) (jw_cwV F.1.2.2.2.2 wl_good w_439 w_441 w_23 w_30 w_442 hd_M_lookSeen ⟨by decide, by decide⟩) 0 1 rfl rfl rfl rfl rfl rfl (Nat.le_of_ble_eq_true rfl) d_M_same_36 ⟨rfl, rfl⟩ ⟨by decide, by decide⟩ (fun w hw => ?_)
  obtain ⟨g7, g8, rfl, h7⟩ := hw
  have loop2 : ∀ (t i : Nat) (g9 k7 k8 : Nat → Int32), i + t = (L.filter (a_seen a r)).length → (L.filter (a_seen a r)).length = (L.filter (a_seen a s9)).length → td_L (L.filter (a_seen a r)) g9 → td_L (L.filter (a_seen a s9)) k7 → (∀ j (h : j < (L.filter (a_seen a r)).length) (h2 : j < (L.filter (a_seen a s9)).length), j < i → (L.filter (a_seen a r))[j] = (L.filter (a_seen a s9))[j]) → jw_J p l e rm_M_same s m args below meth c D vCl A 5 (MQ below (va_Qi (fun r9 w9 => r9 = jb (decide ((L.filter (a_seen a r)) = (L.filter (a_seen a s9)))) ∧ ∃ (k7 k8 k9 : Nat → Int32) (ks : Int32), w9 = wM am cB cI cL go gc gb gd gh k7 k8 k9 gn 0 op ks) (jw_B D vCl (vTy cB cI cL) A) A) args s rm_M_same.cells rm_M_same.slots A) 0 0 91 [(0, .ref (am 0)), (1, .int (nI r)), (2, .int (nI s9)), (3, .int (nI (L.filter (a_seen a r)).length)), (4, .int (nI i))] [] (wM am cB cI cL go gc gb gd gh k7 k8 g9 gn 0 op (nI (L.filter (a_seen a s9)).length)) := by
    intro t
    induction t with
    | zero =>
      intro i g9 k7 k8 hi hq h9 h10 hc
      obtain rfl : i = (L.filter (a_seen a r)).length := hi
      refine jw_iload (pc := 91) F 4 d_M_same_91 rfl ?_
      refine jw_iload_n (pc := 93) F 3 d_M_same_93 rfl rfl ?_
      refine jw_icmp_ge (pc := 94) F 122 d_M_same_94 (by decide) (fun hz4 => ?_) (fun hz4 => False.elim (hz4 (nI_le (Nat.le_refl _) (by omega))))
      refine jw_iconst (pc := 122) (v := 1) F d_M_same_122 (by decide) ?_
      exact jw_zret F d_M_same_123 (by decide) ⟨by rw [decide_eq_true (List.ext_getElem hq (fun j h1 h2 => hc j h1 h2 h1))]; rfl, _, _, _, _, rfl⟩
    | succ t ih =>
      intro i g9 k7 k8 hi hq h9 h10 hc
      have hlt : i < (L.filter (a_seen a r)).length := by omega
      have hlt2 : i < (L.filter (a_seen a s9)).length := by omega
      have b1 := (cx_R_M hI hR).1 _ (List.mem_filter.mp (List.getElem_mem hlt)).1
      have b2 := (cx_R_M hI hR).1 _ (List.mem_filter.mp (List.getElem_mem hlt2)).1
      refine jw_iload (pc := 91) F 4 d_M_same_91 rfl ?_
      refine jw_iload_n (pc := 93) F 3 d_M_same_93 rfl rfl ?_
      refine jw_icmp_ge (pc := 94) F 122 d_M_same_94 (by decide) (fun hz5 => False.elim (nI_ge hlt (by omega) hz5)) (fun hz5 => ?_)
      refine jw_aload_n (pc := 97) F 0 d_M_same_97 rfl rfl ?_
      refine jw_get (pc := 98) F (jms inM) 0 rfl rfl 10 (by decide) (jm w_352) rfl d_M_same_98 ?_
      refine jw_iload (pc := 101) F 4 d_M_same_101 rfl ?_
      refine jw_ialdN (pc := 103) F 9 1 rfl rfl i rfl (by omega) (by decide) d_M_same_103 ?_
      rw [h9 i hlt]
      refine jw_aload_n (pc := 104) F 0 d_M_same_104 rfl rfl ?_
      refine jw_get (pc := 105) F (jms inM) 0 rfl rfl 8 (by decide) (jm w_350) rfl d_M_same_105 ?_
      refine jw_iload (pc := 108) F 4 d_M_same_108 rfl ?_
      refine jw_ialdN (pc := 110) F 7 1 rfl rfl i rfl (by omega) (by decide) d_M_same_110 ?_
      rw [h10 i hlt2]
      refine jw_icmp_eq (pc := 111) F 116 d_M_same_111 (by decide) (fun h1 => ?_) (fun h1 => ?_)
      · refine jw_iinc (pc := 116) (v := nI (i + 1)) (lv' := [(0, .ref (am 0)), (1, .int (nI r)), (2, .int (nI s9)), (3, .int (nI (L.filter (a_seen a r)).length)), (4, .int (nI (i + 1)))]) F 4 d_M_same_116 rfl (jw_inc _) (by decide) rfl ?_
        refine jw_goto (pc := 119) F 91 d_M_same_119 (by decide) ?_
        exact ih (i + 1) g9 k7 k8 (by omega) hq h9 h10 (fun j hj hj2 hji => by
            by_cases e1 : j = i
            · subst e1; exact ab_nI_inj (by omega) (by omega) h1
            · exact hc j hj hj2 (by omega))
      · refine jw_iconst (pc := 114) (v := 0) F d_M_same_114 (by decide) ?_
        exact jw_zret F d_M_same_115 (by decide) ⟨by rw [decide_eq_false (fun q => h1 (congrArg nI (List.getElem_of_eq q hlt)))]; rfl, _, _, _, _, rfl⟩
  have loop1 : ∀ (t i : Nat) (g9 : Nat → Int32), i + t = (L.filter (a_seen a r)).length → (∀ j (h : j < (L.filter (a_seen a r)).length), j < i → g9 j = nI (L.filter (a_seen a r))[j]) → jw_J p l e rm_M_same s m args below meth c D vCl A 5 (MQ below (va_Qi (fun r9 w9 => r9 = jb (decide ((L.filter (a_seen a r)) = (L.filter (a_seen a s9)))) ∧ ∃ (k7 k8 k9 : Nat → Int32) (ks : Int32), w9 = wM am cB cI cL go gc gb gd gh k7 k8 k9 gn 0 op ks) (jw_B D vCl (vTy cB cI cL) A) A) args s rm_M_same.cells rm_M_same.slots A) 0 0 47 [(0, .ref (am 0)), (1, .int (nI r)), (2, .int (nI s9)), (3, .int (nI (L.filter (a_seen a r)).length)), (4, .int (nI i))] [] (wM am cB cI cL go gc gb gd gh g7 g8 g9 gn 0 op (nI (L.filter (a_seen a r)).length)) := by
    intro t
    induction t with
    | zero =>
      intro i g9 hi hc
      obtain rfl : i = (L.filter (a_seen a r)).length := hi
      refine jw_iload (pc := 47) F 4 d_M_same_47 rfl ?_
      refine jw_iload_n (pc := 49) F 3 d_M_same_49 rfl rfl ?_
      refine jw_icmp_ge (pc := 50) F 73 d_M_same_50 (by decide) (fun hz6 => ?_) (fun hz6 => False.elim (hz6 (nI_le (Nat.le_refl _) (by omega))))
      refine jw_aload_n (pc := 73) F 0 d_M_same_73 rfl rfl ?_
      refine jw_iload_n (pc := 74) F 2 d_M_same_74 rfl rfl ?_
      refine jw_callV_Cv (pc := 75) (As := [.int (nI s9)]) (rest := []) F (m_lookSeen l D am cB cI cL go gc gb gd gh g7 g8 g9 gn 0 op (nI (L.filter (a_seen a r)).length) a hI hA L hR s9 hs9) (jw_cwV F.1.2.2.2.2 wl_good w_439 w_441 w_23 w_30 w_442 hd_M_lookSeen ⟨by decide, by decide⟩) 0 1 rfl rfl rfl rfl rfl rfl (Nat.le_of_ble_eq_true rfl) d_M_same_75 ⟨rfl, rfl⟩ ⟨by decide, by decide⟩ (fun w hw => ?_)
      obtain ⟨k7, k8, rfl, hk7⟩ := hw
      refine jw_iload_n (pc := 78) F 3 d_M_same_78 rfl rfl ?_
      refine jw_aload_n (pc := 79) F 0 d_M_same_79 rfl rfl ?_
      refine jw_get (pc := 80) F (jms inM) 0 rfl rfl 11 (by decide) (jm w_353) rfl d_M_same_80 ?_
      refine jw_icmp_eq (pc := 83) F 88 d_M_same_83 (by decide) (fun h1 => ?_) (fun h1 => ?_)
      · refine jw_iconst (pc := 88) (v := nI 0) F d_M_same_88 (by decide) ?_
        refine jw_istore (pc := 89) (lv' := [(0, .ref (am 0)), (1, .int (nI r)), (2, .int (nI s9)), (3, .int (nI (L.filter (a_seen a r)).length)), (4, .int (nI 0))]) F d_M_same_89 (by decide) rfl ?_
        exact loop2 (L.filter (a_seen a r)).length 0 g9 k7 k8 (by omega) (ab_nI_inj (by omega) (by omega) h1) (fun j hj => hc j hj hj) hk7 (fun j _ _ hj => absurd hj (Nat.not_lt_zero j))
      · refine jw_iconst (pc := 86) (v := 0) F d_M_same_86 (by decide) ?_
        exact jw_zret F d_M_same_87 (by decide) ⟨by rw [decide_eq_false (fun q => h1 (by rw [q]))]; rfl, _, _, _, _, rfl⟩
    | succ t ih =>
      intro i g9 hi hc
      have hlt : i < (L.filter (a_seen a r)).length := by omega
      refine jw_iload (pc := 47) F 4 d_M_same_47 rfl ?_
      refine jw_iload_n (pc := 49) F 3 d_M_same_49 rfl rfl ?_
      refine jw_icmp_ge (pc := 50) F 73 d_M_same_50 (by decide) (fun hz7 => False.elim (nI_ge hlt (by omega) hz7)) (fun hz7 => ?_)
      refine jw_aload_n (pc := 53) F 0 d_M_same_53 rfl rfl ?_
      refine jw_get (pc := 54) F (jms inM) 0 rfl rfl 10 (by decide) (jm w_352) rfl d_M_same_54 ?_
      refine jw_iload (pc := 57) F 4 d_M_same_57 rfl ?_
      refine jw_aload_n (pc := 59) F 0 d_M_same_59 rfl rfl ?_
      refine jw_get (pc := 60) F (jms inM) 0 rfl rfl 8 (by decide) (jm w_350) rfl d_M_same_60 ?_
      refine jw_iload (pc := 63) F 4 d_M_same_63 rfl ?_
      refine jw_ialdN (pc := 65) F 7 1 rfl rfl i rfl (by omega) (by decide) d_M_same_65 ?_
      rw [h7 i hlt]
      refine jw_iastN (pc := 66) (ws' := wM am cB cI cL go gc gb gd gh g7 g8 (upd g9 i (nI ((L.filter (a_seen a r))[i]'hlt))) gn 0 op (nI (L.filter (a_seen a r)).length)) F 9 1 rfl rfl i rfl (by omega) (by decide) d_M_same_66 rfl ?_
      refine jw_iinc (pc := 67) (v := nI (i + 1)) (lv' := [(0, .ref (am 0)), (1, .int (nI r)), (2, .int (nI s9)), (3, .int (nI (L.filter (a_seen a r)).length)), (4, .int (nI (i + 1)))]) F 4 d_M_same_67 rfl (jw_inc _) (by decide) rfl ?_
      refine jw_goto (pc := 70) F 47 d_M_same_70 (by decide) ?_
      exact ih (i + 1) _ (by omega) (fun j hj hji => by
            by_cases e1 : j = i
            · subst e1; rw [pk_us]
            · rw [pk_un e1]; exact hc j hj (by omega))
  refine jw_aload_n (pc := 39) F 0 d_M_same_39 rfl rfl ?_
  refine jw_get (pc := 40) F (jms inM) 0 rfl rfl 11 (by decide) (jm w_353) rfl d_M_same_40 ?_
  refine jw_istore_n (pc := 43) (lv' := [(0, .ref (am 0)), (1, .int (nI r)), (2, .int (nI s9)), (3, .int (nI (L.filter (a_seen a r)).length))]) F d_M_same_43 rfl (by decide) rfl ?_
  refine jw_iconst (pc := 44) (v := nI 0) F d_M_same_44 (by decide) ?_
  refine jw_istore (pc := 45) (lv' := [(0, .ref (am 0)), (1, .int (nI r)), (2, .int (nI s9)), (3, .int (nI (L.filter (a_seen a r)).length)), (4, .int (nI 0))]) F d_M_same_45 (by decide) rfl ?_
  exact loop1 (L.filter (a_seen a r)).length 0 gk (by omega) (fun j _ hj => absurd hj (Nat.not_lt_zero j))
end
section
section JL
variable {p : Program} {l : Launch} {e : Env} {R : Room} {s : State} {m : MethodId} {args : Array Value} {below : List Frame} {meth : Method} {c : Code} {Q : State → Prop} {cells slots : Nat}
variable {D : va_G} {cl : List vw_C} {tys : List (ClassId × FieldType)} {A : Nat → Prop} {nL : Nat} {cc : ByteArray} {own : String} {Ts : List Cond} {ret : Option FieldType}
variable {pc : Nat} {lv lv' : List (Nat × Value)} {rest : List Value} {ws ws' : va_W}
def jw_Ni (l : Launch) (D : va_G) (cl : List vw_C) (tys : List (ClassId × FieldType)) (y : MethodName) (Ts : List Cond) (rm : Room) (av : List Value) (wc : va_W) (Z : (Nat → Prop) → State → Prop) (post : Int32 → va_W → Prop) : Prop := ∀ sz : Nat, Met l y Ts rm (jw_PX D cl tys av wc Z sz) (va_Qi post (jw_B D cl tys (va_A wc sz)) (va_A wc sz)) rm.cells rm.slots (va_A wc sz)
theorem jw_ofWM {y : MethodName} {ws0 : List Cond} {rm : Room} {av : List Value} {wc : va_W} {hh : List (Nat × Nat × Nat × Nat)} {post : Int32 → va_W → Prop} (hy : plainName y.cls = true) (hw : Ts = Cond.codeWith y cc nL ret hh :: ws0) (hlen : (lg_sl av).length ≤ nL)
    (body : ∀ (p : Program) (e : Env) (s : State) (m : MethodId) (args : Array Value) (below : List Frame) (meth : Method) (c : Code) (A : Nat → Prop), jw_F p s m args meth c D cl tys A nL cc y.cls Ts ret → c.exceptionTable.toList = tableOf hh → jw_J p l e rm s m args below meth c D cl A nL (MQ below (va_Qi post (jw_B D cl tys A) A) args s rm.cells rm.slots A) (0) (0) (0) (lv_args 0 av) ([]) (wc)) : jw_Mi l D cl tys y Ts rm av wc post := by
  intro sz
  refine va_MetW (cc := cc) (maxL := nL) (ret := ret) (hh := hh) hy hw ?_
  intro p e s m args below meth c s₁ B hml hv
  obtain ⟨rfl, hsz, hP, hK, hD0⟩ := hv
  subst hsz
  have hts := atoms_spec (ws := Ts) B.pre
  have htab := vx_table (x := y) B (hts (Cond.codeWith y cc nL ret hh) (by rw [hw]; exact List.mem_cons_self))
  rw [lg_entry_eq]
  exact body p e s m _ below meth c (va_A wc s.heap.size) ⟨⟨B.exec, B.bytes, hml, findClass_of_methodNamed B.named, hts⟩, hK, fun q h => Or.inr h, B.notSynchronized, B.returns⟩ htab _ s.heap [] (lv_entry av hlen) hP hD0.self va_S.rf
theorem jw_ofWN {y : MethodName} {ws0 : List Cond} {rm : Room} {av : List Value} {wc : va_W} {Z : (Nat → Prop) → State → Prop} {hh : List (Nat × Nat × Nat × Nat)} {post : Int32 → va_W → Prop} (hy : plainName y.cls = true) (hw : Ts = Cond.codeWith y cc nL ret hh :: ws0) (hlen : (lg_sl av).length ≤ nL)
    (body : ∀ (p : Program) (e : Env) (s : State) (m : MethodId) (args : Array Value) (below : List Frame) (meth : Method) (c : Code) (A : Nat → Prop), jw_F p s m args meth c D cl tys A nL cc y.cls Ts ret → c.exceptionTable.toList = tableOf hh → Z A s → jw_J p l e rm s m args below meth c D cl A nL (MQ below (va_Qi post (jw_B D cl tys A) A) args s rm.cells rm.slots A) (0) (0) (0) (lv_args 0 av) ([]) (wc)) : jw_Ni l D cl tys y Ts rm av wc Z post := by
  intro sz
  refine va_MetW (cc := cc) (maxL := nL) (ret := ret) (hh := hh) hy hw ?_
  intro p e s m args below meth c s₁ B hml hv
  obtain ⟨rfl, hsz, hP, hK, hD0, hZ⟩ := hv
  subst hsz
  have hts := atoms_spec (ws := Ts) B.pre
  have htab := vx_table (x := y) B (hts (Cond.codeWith y cc nL ret hh) (by rw [hw]; exact List.mem_cons_self))
  rw [lg_entry_eq]
  exact body p e s m _ below meth c (va_A wc s.heap.size) ⟨⟨B.exec, B.bytes, hml, findClass_of_methodNamed B.named, hts⟩, hK, fun q h => Or.inr h, B.notSynchronized, B.returns⟩ htab hZ _ s.heap [] (lv_entry av hlen) hP hD0.self va_S.rf
theorem jw_cwSW {WL : List Cond} {c0 : Cond} {index maxL n : Nat} {y : MethodName} {bytes : ByteArray} {ty : Option FieldType} {hh : List (Nat × Nat × Nat × Nat)} {rm : Room} (hts : ∀ w ∈ c0 :: WL, w.before args s = true) (hg : ∀ w ∈ WL, goodWord w = true) (h1 : Cond.methodLink own index y ∈ WL) (h2 : Cond.static y ∈ WL) (h4 : Cond.initialized y.cls ∈ WL) (h5 : Cond.codeWith y bytes maxL ty hh ∈ WL)
    (hd : y.cls ≠ "java/lang/invoke/MethodHandle" ∧ y.cls ≠ "java/lang/invoke/VarHandle" ∧ (parseMethodDescriptor y.desc).map (fun d => d.parameters.length) = some n) (hR : rm.frames + 1 ≤ R.frames ∧ 8 + (maxL + 11) + rm.locals ≤ R.locals) : vx_CSW R s args own index y bytes maxL ty hh (Cond.codeWith y bytes maxL ty hh :: WL) rm rm.cells rm.slots n := by
  refine vx_cwSW (Ts := c0 :: WL) n hts (fun w hw => ?_) rfl rfl rfl hd hR
  have hm : w ∈ WL := by
    unfold va_wsS at hw
    rcases List.mem_append.mp hw with h | h
    · simp only [List.mem_cons, List.not_mem_nil, or_false] at h
      rcases h with h | h | h <;> rw [h] <;> assumption
    · rcases List.mem_cons.mp h with h | h
      · rw [h]; exact h5
      · exact h
  exact ⟨List.mem_cons_of_mem _ hm, good_of_word (hg w hm)⟩
theorem jw_callSW_M (F : jw_F p s m args meth c D cl tys A nL cc own Ts ret) {y : MethodName} {bytes : ByteArray} {maxL n index : Nat} {ty : Option FieldType} {hh : List (Nat × Nat × Nat × Nat)} {Ts2 : List Cond} {rm : Room} {As st0 : List Value} {wc : va_W} {post : Int32 → va_W → Prop} (w0 w2 : va_W) (hM : jw_Mi l D cl tys y Ts2 rm As wc post) (cw : vx_CSW R s args own index y bytes maxL ty hh Ts2 rm rm.cells rm.slots n) (hws : ws = w0 ++ wc ++ w2) (hst : st0 = As.reverse ++ rest) (hn : As.length = n) (hr : (rest.map fun v => v.category).sum ≤ 8) (d : decode cc pc = .ok (.invokestatic index, 3)) (hf : cells + rm.cells ≤ R.cells ∧ slots + rm.slots ≤ R.slots) (kk : ∀ (r : Int32) (w : va_W), post r w → jw_J p l e R s m args below meth c D cl A nL (Q) (cells + rm.cells) (slots + rm.slots) (pc + 3) (lv) (.int r :: rest) (w0 ++ w ++ w2)) : jw_J p l e R s m args below meth c D cl A nL (Q) (cells) (slots) (pc) (lv) (st0) (ws) := by
  subst hws; subst hst
  intro ls H locs hl hP hD hS
  have hPc := jw_part hP
  have hDc := jw_partD hD
  have hFc := jw_partF hDc hS F.2.2.1
  refine va_calli (vx_runSW (As := As) (rest := rest) F.1 (hM H.size) cw ⟨jw_Pc_blind, fun U hU hW => ⟨rfl, by rw [hU], by rw [hU]; exact hPc, va_K.moved hW.alike F.2.1, hDc.weaken (fun _ _ _ _ => trivial)⟩⟩ rfl hn hl.1 rfl (lv_room hr) d hf) hS (fun x _ h => hFc x h) hFc (fun r w t H1 locs1 ht hvm hp hB hz1 hk hS1 => ?_)
  obtain ⟨hP1, hK1, hD1⟩ := hB
  rw [ht] at hP1
  obtain ⟨hP2, hD2⟩ := jw_join hP hD hk hFc hP1 hD1
  exact kk r w hp ls H1 locs1 hl hP2 hD2 hS1
theorem jw_callSW_N (F : jw_F p s m args meth c D cl tys A nL cc own Ts ret) {y : MethodName} {bytes : ByteArray} {maxL n index : Nat} {ty : Option FieldType} {hh : List (Nat × Nat × Nat × Nat)} {Ts2 : List Cond} {rm : Room} {As st0 : List Value} {wc : va_W} {post : Int32 → va_W → Prop} {Z : (Nat → Prop) → State → Prop} (hZk : jw_Zok Z) (hz : Z A s) (w0 w2 : va_W) (hM : jw_Ni l D cl tys y Ts2 rm As wc Z post) (cw : vx_CSW R s args own index y bytes maxL ty hh Ts2 rm rm.cells rm.slots n) (hws : ws = w0 ++ wc ++ w2) (hst : st0 = As.reverse ++ rest) (hn : As.length = n) (hr : (rest.map fun v => v.category).sum ≤ 8) (d : decode cc pc = .ok (.invokestatic index, 3)) (hf : cells + rm.cells ≤ R.cells ∧ slots + rm.slots ≤ R.slots) (kk : ∀ (r : Int32) (w : va_W), post r w → jw_J p l e R s m args below meth c D cl A nL (Q) (cells + rm.cells) (slots + rm.slots) (pc + 3) (lv) (.int r :: rest) (w0 ++ w ++ w2)) : jw_J p l e R s m args below meth c D cl A nL (Q) (cells) (slots) (pc) (lv) (st0) (ws) := by
  subst hws; subst hst
  intro ls H locs hl hP hD hS
  have hPc := jw_part hP
  have hDc := jw_partD hD
  have hFc := jw_partF hDc hS F.2.2.1
  refine va_calli (vx_runSW (As := As) (rest := rest) F.1 (hM H.size) cw ⟨jw_PX_blind hZk, fun U hU hW => ⟨rfl, by rw [hU], by rw [hU]; exact hPc, va_K.moved hW.alike F.2.1, hDc.weaken (fun _ _ _ _ => trivial), hZk.2 A _ s U hW hz (fun q h1 h2 => by rw [hU]; exact hS.2.1 q h1 h2) hFc⟩⟩ rfl hn hl.1 rfl (lv_room hr) d hf) hS (fun x _ h => hFc x h) hFc (fun r w t H1 locs1 ht hvm hp hB hz1 hk hS1 => ?_)
  obtain ⟨hP1, hK1, hD1⟩ := hB
  rw [ht] at hP1
  obtain ⟨hP2, hD2⟩ := jw_join hP hD hk hFc hP1 hD1
  exact kk r w hp ls H1 locs1 hl hP2 hD2 hS1
theorem jw_callV_Gi (F : jw_F p s m args meth c D cl tys A nL cc own Ts ret) {y : MethodName} {bytes : ByteArray} {maxL n index : Nat} {ty : Option FieldType} {Ts2 : List Cond} {rm : Room} {C : String} {b : Nat} {As st0 : List Value} {wc : va_W} {post : Int32 → va_W → Prop} (w0 w2 : va_W) (hM : jw_Mi l D cl tys y Ts2 rm (.ref b :: As) wc post) (cw : CallW R s args own C index y bytes maxL ty Ts2 rm rm.cells rm.slots n) (q0 ci : Nat) {fs : List Value} {q : vw_C} (hc : cl[ci]? = some q) (hq : q.1 = C) (he : wc[q0]? = some (b, .inr (ci, fs))) (hws : ws = w0 ++ wc ++ w2) (hst : st0 = As.reverse ++ .ref b :: rest) (hn : As.length = n) (hr : (rest.map fun v => v.category).sum ≤ 8) (d : decode cc pc = .ok (.invokevirtual index, 3)) (h0 : rm.cells = 0 ∧ rm.slots = 0) (hf : cells ≤ R.cells ∧ slots ≤ R.slots) (kk : ∀ (r : Int32) (w : va_W), post r w → jw_J p l e R s m args below meth c D cl A nL (Q) (cells) (slots) (pc + 3) (lv) (.int r :: rest) (w0 ++ w ++ w2)) : jw_J p l e R s m args below meth c D cl A nL (Q) (cells) (slots) (pc) (lv) (st0) (ws) := by
  refine jw_callV_i F w0 w2 hM cw q0 ci hc hq he hws hst hn hr d ⟨by rw [h0.1]; exact hf.1, by rw [h0.2]; exact hf.2⟩ (fun r w hw => ?_)
  have h9 := kk r w hw
  rw [h0.1, h0.2]
  exact h9
theorem jw_callV_Gl (F : jw_F p s m args meth c D cl tys A nL cc own Ts ret) {y : MethodName} {bytes : ByteArray} {maxL n index : Nat} {ty : Option FieldType} {Ts2 : List Cond} {rm : Room} {C : String} {b : Nat} {As st0 : List Value} {wc : va_W} {post : Int64 → va_W → Prop} (w0 w2 : va_W) (hM : jw_Ml l D cl tys y Ts2 rm (.ref b :: As) wc post) (cw : CallW R s args own C index y bytes maxL ty Ts2 rm rm.cells rm.slots n) (q0 ci : Nat) {fs : List Value} {q : vw_C} (hc : cl[ci]? = some q) (hq : q.1 = C) (he : wc[q0]? = some (b, .inr (ci, fs))) (hws : ws = w0 ++ wc ++ w2) (hst : st0 = As.reverse ++ .ref b :: rest) (hn : As.length = n) (hr : (rest.map fun v => v.category).sum ≤ 8) (d : decode cc pc = .ok (.invokevirtual index, 3)) (h0 : rm.cells = 0 ∧ rm.slots = 0) (hf : cells ≤ R.cells ∧ slots ≤ R.slots) (kk : ∀ (r : Int64) (w : va_W), post r w → jw_J p l e R s m args below meth c D cl A nL (Q) (cells) (slots) (pc + 3) (lv) (.long r :: rest) (w0 ++ w ++ w2)) : jw_J p l e R s m args below meth c D cl A nL (Q) (cells) (slots) (pc) (lv) (st0) (ws) := by
  refine jw_callV_l F w0 w2 hM cw q0 ci hc hq he hws hst hn hr d ⟨by rw [h0.1]; exact hf.1, by rw [h0.2]; exact hf.2⟩ (fun r w hw => ?_)
  have h9 := kk r w hw
  rw [h0.1, h0.2]
  exact h9
theorem jw_callV_Gv (F : jw_F p s m args meth c D cl tys A nL cc own Ts ret) {y : MethodName} {bytes : ByteArray} {maxL n index : Nat} {ty : Option FieldType} {Ts2 : List Cond} {rm : Room} {C : String} {b : Nat} {As st0 : List Value} {wc : va_W} {post : va_W → Prop} (w0 w2 : va_W) (hM : jw_Mv l D cl tys y Ts2 rm (.ref b :: As) wc post) (cw : CallW R s args own C index y bytes maxL ty Ts2 rm rm.cells rm.slots n) (q0 ci : Nat) {fs : List Value} {q : vw_C} (hc : cl[ci]? = some q) (hq : q.1 = C) (he : wc[q0]? = some (b, .inr (ci, fs))) (hws : ws = w0 ++ wc ++ w2) (hst : st0 = As.reverse ++ .ref b :: rest) (hn : As.length = n) (hr : (rest.map fun v => v.category).sum ≤ 8) (d : decode cc pc = .ok (.invokevirtual index, 3)) (h0 : rm.cells = 0 ∧ rm.slots = 0) (hf : cells ≤ R.cells ∧ slots ≤ R.slots) (kk : ∀ (w : va_W), post w → jw_J p l e R s m args below meth c D cl A nL (Q) (cells) (slots) (pc + 3) (lv) (rest) (w0 ++ w ++ w2)) : jw_J p l e R s m args below meth c D cl A nL (Q) (cells) (slots) (pc) (lv) (st0) (ws) := by
  refine jw_callV_v F w0 w2 hM cw q0 ci hc hq he hws hst hn hr d ⟨by rw [h0.1]; exact hf.1, by rw [h0.2]; exact hf.2⟩ (fun w hw => ?_)
  have h9 := kk w hw
  rw [h0.1, h0.2]
  exact h9
theorem jw_xcatch (F : jw_F p s m args meth c D cl tys A nL cc own Ts ret) {y : MethodName} {bytes : ByteArray} {maxL n index : Nat} {ty : Option FieldType} {Ts2 : List Cond} {rm : Room} {C : String} {b : Nat} {As st0 : List Value} {wc : va_W} {Z : (Nat → Prop) → State → Prop} {E0 name : String} (w0 w2 : va_W) (hZk : jw_Zok Z) (hz : Z A s) (hM : jw_Tx l D cl tys y Ts2 rm (.ref b :: As) wc Z E0) (cw : CallW R s args own C index y bytes maxL ty Ts2 rm rm.cells rm.slots n) (q0 ci : Nat) {fs : List Value} {q : vw_C} (hcq : cl[ci]? = some q) (hq : q.1 = C) (he : wc[q0]? = some (b, .inr (ci, fs))) (hws : ws = w0 ++ wc ++ w2) (hst : st0 = As.reverse ++ .ref b :: rest) (hn : As.length = n) (hr : (rest.map fun v => v.category).sum ≤ 8) (d : decode cc pc = .ok (.invokevirtual index, 3)) (hf : cells + rm.cells ≤ R.cells ∧ slots + rm.slots ≤ R.slots)
    (pre : List ExceptionTableEntry) (x : ExceptionTableEntry) (suf : List ExceptionTableEntry) (hsplit : c.exceptionTable.toList = pre ++ x :: suf) (hpass : ∀ z ∈ pre, covers z pc = false ∨ (z.catchType ≠ 0 ∧ ∃ nm : String, (Cond.classLink own z.catchType nm).before args s = true ∧ va_Nc E0 nm s)) (hx : covers x pc = true) (h0 : x.catchType ≠ 0) (hlink : (Cond.classLink own x.catchType name).before args s = true) (hcast : (Cond.castable E0 name).before args s = true)
    (kk : ∀ q9 : Nat, jw_J p l e R s m args below meth c D cl A nL (Q) (cells + rm.cells) (slots + rm.slots) (x.handlerPc) (lv) ([.ref q9]) (ws)) : jw_J p l e R s m args below meth c D cl A nL (Q) (cells) (slots) (pc) (lv) (st0) (ws) := by
  subst hws; subst hst
  intro ls H locs hl hP hD hS
  have hPc := jw_part hP
  have hDc := jw_partD hD
  have hFc := jw_partF hDc hS F.2.2.1
  have hrecv : ∃ cellB : Cell, H[b]? = some cellB ∧ cellB.vm.isStatics = false ∧ s.vm.findClass C = some cellB.cls := by rw [← hq]; exact va_recv F.2.1 hPc hcq he
  have hrun := vx_runV (e := e) (below := below) (meth := meth) (locs := locs) (cells := cells) (slots := slots) (g := F0 m pc ls (As.reverse ++ .ref b :: rest)) (C := C) (b := b) (As := As) (rest := rest) F.1 (hM H.size) cw ⟨jw_PX_blind hZk, hrecv, fun U hU hW => ⟨rfl, by rw [hU], by rw [hU]; exact hPc, va_K.moved hW.alike F.2.1, hDc.weaken (fun _ _ _ _ => trivial), hZk.2 A _ s U hW hz (fun q h1 h2 => by rw [hU]; exact hS.2.1 q h1 h2) hFc⟩⟩ rfl hn hl.1 rfl (lv_room hr) d hf
  intro T hTT X
  rcases hrun T hTT X with ⟨v, st₀, t, T', L, h0, X', hL, e1, e2, hq9, st⟩ | ⟨q9, st₀, t, T', L, E, ce, h9, X', hL, e1, e2, ⟨u, hp, ⟨hE, hP1, hK1, hD1⟩, hF⟩, hce, hcv, hcl, st⟩
  · exact hq9.elim
  · obtain ⟨k1, k2, k3⟩ := vx_keep h9 e1 hS (fun x _ h => hFc x h) hFc hL hF
    subst hE
    rw [← e1] at hP1
    obtain ⟨hP2, hD2⟩ := jw_join hP hD k2 hFc hP1 hD1
    obtain ⟨t2, a1, b1⟩ := vx_catch (pc := pc) (ls := ls) (rest := rest) F.1.2.2.2.1 pre x suf hsplit hpass hx h0 hlink hcast (by rw [e1]; exact hce) hcv hcl (kk q9 ls T'.heap (locs ++ L) hl hP2 hD2 k3) T' rfl X'
    exact ⟨t2, st.trans a1, b1⟩
theorem jw_sld (F : jw_F p s m args meth c D cl tys A nL cc own Ts ret) {b L : Nat} {xs : Nat → Int32} (hX : va_X b L xs s s.heap) (hbl : b < s.heap.size) (hbA : ¬ A b) {i : Int32} (j : Nat) (hj : i = nI j) (hlt : j < L) (hL : L < 2147483648) (d : decode cc pc = .ok (.iaload, 1)) (k : jw_J p l e R s m args below meth c D cl A nL (Q) (cells) (slots) (pc + 1) (lv) (.int (xs j) :: rest) (ws)) : jw_J p l e R s m args below meth c D cl A nL (Q) (cells) (slots) (pc) (lv) (.int i :: .ref b :: rest) (ws) := by
  subst hj
  intro ls H locs hl hP hD hS
  refine va_sld F.1.1 F.1.2.1 hX hbl hbA hS (vp_in_nI hlt hL) d ?_
  rw [nI_clamp (Nat.lt_trans hlt hL)]
  exact k ls H locs hl hP hD hS
theorem jw_slen (F : jw_F p s m args meth c D cl tys A nL cc own Ts ret) {b L : Nat} {xs : Nat → Int32} (hX : va_X b L xs s s.heap) (hbl : b < s.heap.size) (hbA : ¬ A b) (d : decode cc pc = .ok (.arraylength, 1)) (k : jw_J p l e R s m args below meth c D cl A nL (Q) (cells) (slots) (pc + 1) (lv) (.int (nI L) :: rest) (ws)) : jw_J p l e R s m args below meth c D cl A nL (Q) (cells) (slots) (pc) (lv) (.ref b :: rest) (ws) := fun ls H locs hl hP hD hS => va_slen F.1.1 F.1.2.1 hX hbl hbA hS d (k ls H locs hl hP hD hS)
end JL
def jz_Y (A : Nat → Prop) (U : State) : Prop := jz_Z A U ∧ va_Nc "java/lang/IndexOutOfBoundsException" "java/lang/IllegalArgumentException" U ∧ va_Nc "java/lang/IllegalStateException" "java/lang/IllegalArgumentException" U ∧ va_Nc "java/lang/IllegalStateException" "java/lang/IndexOutOfBoundsException" U
theorem jz_okY : jw_Zok jz_Y := by
  refine ⟨fun A U U1 hv hh h => ?_, fun A B s U hW h hk hAB => ?_⟩
  · exact ⟨jz_ok.1 A U U1 hv hh h.1, va_Nc.moved (by rw [hv]; exact Vm.Alike.refl _) h.2.1, va_Nc.moved (by rw [hv]; exact Vm.Alike.refl _) h.2.2.1, va_Nc.moved (by rw [hv]; exact Vm.Alike.refl _) h.2.2.2⟩
  · exact ⟨jz_ok.2 A B s U hW h.1 hk hAB, va_Nc.moved hW.alike h.2.1, va_Nc.moved hW.alike h.2.2.1, va_Nc.moved hW.alike h.2.2.2⟩
def wO (ao : Nat) (cL : ClassId) (o : Nat → Int64) : va_W := [(ao, .inl (cL, 1, .inr (.inl o)))]
theorem jz_castIAE {A : Nat → Prop} {s : State} {args : Array Value} (hZ : jz_Z A s) : (Cond.castable "java/lang/IllegalArgumentException" "java/lang/IllegalArgumentException").before args s = true := jz_same rfl rfl (hZ.2.2.1 (Cond.castable "java/lang/IllegalArgumentException" "java/lang/IllegalArgumentException") (by decide +kernel))
theorem jz_castIOB {A : Nat → Prop} {s : State} {args : Array Value} (hZ : jz_Z A s) : (Cond.castable "java/lang/IndexOutOfBoundsException" "java/lang/IndexOutOfBoundsException").before args s = true := jz_same rfl rfl (hZ.2.2.1 (Cond.castable "java/lang/IndexOutOfBoundsException" "java/lang/IndexOutOfBoundsException") (by decide +kernel))
theorem jz_castISE {A : Nat → Prop} {s : State} {args : Array Value} (hZ : jz_Z A s) : (Cond.castable "java/lang/IllegalStateException" "java/lang/IllegalStateException").before args s = true := jz_same rfl rfl (hZ.2.2.1 (Cond.castable "java/lang/IllegalStateException" "java/lang/IllegalStateException") (by decide +kernel))
end
