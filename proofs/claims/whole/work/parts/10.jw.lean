/-! the judgement over pictures: jw_J says W at every frame whose locals are lv and every heap that holds the cells ws -/
section JW1
theorem jw_P_iff {D : va_G} {cl : List vw_C} {ws : va_W} {H : Heap} : va_P D cl ws H ↔ ∀ q ∈ ws, va_at D cl q H :=
  ⟨fun h q hq => by obtain ⟨k, hk⟩ := List.getElem?_of_mem hq; exact h k q hk, fun h k q hk => h q (List.mem_of_getElem? hk)⟩
theorem jw_D_iff {A : Nat → Prop} {ws : va_W} : va_D A ws ↔ (ws.map Prod.fst).Nodup ∧ ∀ q ∈ ws, A q.1 := by
  constructor
  · intro h
    refine ⟨?_, fun q hq => ?_⟩
    · unfold List.Nodup
      rw [List.pairwise_iff_getElem]
      intro i j hi hj hij he
      rw [List.getElem_map, List.getElem_map] at he
      rw [List.length_map] at hi hj
      have h1 := h.1 i j _ _ (List.getElem?_eq_getElem hi) (List.getElem?_eq_getElem hj) he
      omega
    · obtain ⟨k, hk⟩ := List.getElem?_of_mem hq
      exact h.2 k q hk
  · intro h
    refine ⟨fun i j p q hi hj he => ?_, fun k q hk => h.2 q (List.mem_of_getElem? hk)⟩
    obtain ⟨h1, h2⟩ := List.getElem?_eq_some_iff.mp hi
    obtain ⟨h3, h4⟩ := List.getElem?_eq_some_iff.mp hj
    have hn := h.1
    unfold List.Nodup at hn
    rw [List.pairwise_iff_getElem] at hn
    rcases Nat.lt_trichotomy i j with g | g | g
    · exact absurd (show (ws.map Prod.fst)[i]'(by rw [List.length_map]; exact h1) = (ws.map Prod.fst)[j]'(by rw [List.length_map]; exact h3) by rw [List.getElem_map, List.getElem_map, h2, h4]; exact he) (hn i j _ _ g)
    · exact g
    · exact absurd (show (ws.map Prod.fst)[j]'(by rw [List.length_map]; exact h3) = (ws.map Prod.fst)[i]'(by rw [List.length_map]; exact h1) by rw [List.getElem_map, List.getElem_map, h2, h4]; exact he.symm) (hn j i _ _ g)
theorem jw_join {A0 : Nat → Prop} {D : va_G} {cl : List vw_C} {w0 wc w2 w1 : va_W} {H H1 : Heap} (hP : va_P D cl (w0 ++ wc ++ w2) H) (hD : va_D A0 (w0 ++ wc ++ w2))
    (hk : ∀ q : Nat, q < H.size → ¬ va_A wc H.size q → H1[q]? = H[q]?) (hF : ∀ q, va_A wc H.size q → A0 q) (hP1 : va_P D cl w1 H1) (hD1 : va_D (va_A wc H.size) w1) : va_P D cl (w0 ++ w1 ++ w2) H1 ∧ va_D A0 (w0 ++ w1 ++ w2) := by
  rw [jw_P_iff] at hP hP1 ⊢
  rw [jw_D_iff] at hD hD1 ⊢
  obtain ⟨hn, hA⟩ := hD
  obtain ⟨hn1, hA1⟩ := hD1
  rw [List.map_append, List.map_append] at hn ⊢
  rw [List.nodup_append] at hn ⊢
  obtain ⟨hn0c, hn2, hx⟩ := hn
  rw [List.nodup_append] at hn0c
  obtain ⟨hn0, hnc, hx0⟩ := hn0c
  have ap0 : ∀ q ∈ w0, q.1 < H.size ∧ ¬ va_A wc H.size q.1 := by
    intro q hq
    have hl := (hP q (by simp [hq])).lt
    refine ⟨hl, fun h => ?_⟩
    rcases h with ⟨k, e, h⟩ | h
    · exact hx0 q.1 (List.mem_map_of_mem hq) q.1 (List.mem_map.mpr ⟨_, List.mem_of_getElem? h, rfl⟩) rfl
    · omega
  have ap2 : ∀ q ∈ w2, q.1 < H.size ∧ ¬ va_A wc H.size q.1 := by
    intro q hq
    have hl := (hP q (by simp [hq])).lt
    refine ⟨hl, fun h => ?_⟩
    rcases h with ⟨k, e, h⟩ | h
    · exact hx q.1 (List.mem_append_right _ (List.mem_map.mpr ⟨_, List.mem_of_getElem? h, rfl⟩)) q.1 (List.mem_map_of_mem hq) rfl
    · omega
  refine ⟨fun q hq => ?_, ⟨List.nodup_append.mpr ⟨hn0, hn1, ?_⟩, hn2, ?_⟩, fun q hq => ?_⟩
  · rcases List.mem_append.mp hq with h | h
    · rcases List.mem_append.mp h with h | h
      · exact (hP q (by simp [h])).kept (hk _ (ap0 q h).1 (ap0 q h).2)
      · exact hP1 q h
    · exact (hP q (by simp [h])).kept (hk _ (ap2 q h).1 (ap2 q h).2)
  · intro a ha b hb hab
    obtain ⟨x, hx, rfl⟩ := List.mem_map.mp ha
    obtain ⟨y, hy, rfl⟩ := List.mem_map.mp hb
    exact (ap0 x hx).2 (by rw [hab]; exact hA1 y hy)
  · intro a ha b hb hab
    obtain ⟨y, hy, rfl⟩ := List.mem_map.mp hb
    rcases List.mem_append.mp ha with h | h
    · exact hx a (List.mem_append_left _ h) y.1 (List.mem_map_of_mem hy) hab
    · obtain ⟨x, hx', rfl⟩ := List.mem_map.mp h
      exact (ap2 y hy).2 (by rw [← hab]; exact hA1 x hx')
  · rcases List.mem_append.mp hq with h | h
    · rcases List.mem_append.mp h with h | h
      · exact hA q (by simp [h])
      · exact hF _ (hA1 q h)
    · exact hA q (by simp [h])
def jw_ins (i : Nat) (v : Value) : List (Nat × Value) → List (Nat × Value)
  | [] => [(i, v)]
  | q :: r => if i ≤ q.1 then (i, v) :: q :: r else q :: jw_ins i v r
theorem jw_ins_mem {i : Nat} {v : Value} {q : Nat × Value} : ∀ {l : List (Nat × Value)}, q ∈ jw_ins i v l → q ∈ (i, v) :: l
  | [], h => h
  | a :: r, h => by
    unfold jw_ins at h
    split at h
    · exact h
    · rcases List.mem_cons.mp h with h | h
      · rw [h]; simp
      · rcases List.mem_cons.mp (jw_ins_mem h) with h | h
        · rw [h]; simp
        · simp [h]
def jw_set1 (i : Nat) (v : Value) (lv : List (Nat × Value)) : List (Nat × Value) := jw_ins i v (lv.filter (fun q => !(q.1 == i) && !(q.1 + 1 == i && q.2.category == 2)))
def jw_set2 (i : Nat) (v : Value) (lv : List (Nat × Value)) : List (Nat × Value) := jw_ins i v (lv.filter (fun q => !(q.1 == i) && (!(q.1 == i + 1) && !(q.1 + 1 == i && q.2.category == 2))))
theorem jw_has {ls : Array Slot} {nL i : Nat} {v : Value} {l : List (Nat × Value)} (h : lv_has ls nL ((i, v) :: l)) : lv_has ls nL (jw_ins i v l) := ⟨h.1, h.2.1, fun q hq => h.2.2 q (jw_ins_mem hq)⟩
/-- what holds all along a body: tables, words, classes, the part of the heap that it may change -/
def jw_F (p : Program) (s : State) (m : MethodId) (args : Array Value) (meth : Method) (c : Code) (D : va_G) (cl : List vw_C) (tys : List (ClassId × FieldType)) (A : Nat → Prop) (nL : Nat) (cc : ByteArray) (own : String) (Ts : List Cond) (ret : Option FieldType) : Prop :=
  (p.tables.exec = Jvm.exec ∧ c.code = cc ∧ c.maxLocals = nL ∧ s.vm.findClass own = some m.cls ∧ ∀ w ∈ Ts, w.before args s = true) ∧ va_K D cl tys s ∧ (∀ q : Nat, s.heap.size ≤ q → A q) ∧ meth.locks = false ∧ meth.sig.returnType = ret
def jw_J (p : Program) (l : Launch) (e : Env) (R : Room) (s : State) (m : MethodId) (args : Array Value) (below : List Frame) (meth : Method) (c : Code) (D : va_G) (cl : List vw_C) (A : Nat → Prop) (nL : Nat) (Q : State → Prop) (cells slots pc : Nat) (lv : List (Nat × Value)) (st : List Value) (ws : va_W) : Prop :=
  ∀ (ls : Array Slot) (H : Heap) (locs : List Loc), lv_has ls nL lv → va_P D cl ws H → va_D A ws → va_S A s.heap H locs → W p l e R s m args below meth c H locs cells slots Q (F0 m pc ls st)
/-- the world behind a method -/
def jw_B (D : va_G) (cl : List vw_C) (tys : List (ClassId × FieldType)) (A : Nat → Prop) : va_W → State → Prop := fun w t => va_P D cl w t.heap ∧ va_K D cl tys t ∧ va_D A w
def jw_Pc (D : va_G) (cl : List vw_C) (tys : List (ClassId × FieldType)) (av : List Value) (wc : va_W) (sz : Nat) : Array Value → State → Prop := va_Pc av (fun U => U.heap.size = sz ∧ va_P D cl wc U.heap ∧ va_K D cl tys U ∧ va_D (fun _ => True) wc)
def jw_PX (D : va_G) (cl : List vw_C) (tys : List (ClassId × FieldType)) (av : List Value) (wc : va_W) (Z : (Nat → Prop) → State → Prop) (sz : Nat) : Array Value → State → Prop := va_Pc av (fun U => U.heap.size = sz ∧ va_P D cl wc U.heap ∧ va_K D cl tys U ∧ va_D (fun _ => True) wc ∧ Z (va_A wc sz) U)
theorem jw_Pc_blind {D : va_G} {cl : List vw_C} {tys : List (ClassId × FieldType)} {av : List Value} {wc : va_W} {sz : Nat} : FrameBlind (jw_Pc D cl tys av wc sz) := fun a U g mk q => by
  obtain ⟨q0, q1, qP, qK, qD⟩ := q
  exact ⟨q0, q1, qP, va_K.moved (u := U) (U := U.calling g mk a) (Vm.Alike.refl U.vm) qK, qD⟩
def jw_Zok (Z : (Nat → Prop) → State → Prop) : Prop := (∀ (A : Nat → Prop) (U U' : State), U'.vm = U.vm → U'.heap = U.heap → Z A U → Z A U') ∧ ∀ (A B : Nat → Prop) (s U : State), s.WarmedH U.vm → Z A s → (∀ q : Nat, q < s.heap.size → ¬ A q → U.heap[q]? = s.heap[q]?) → (∀ q, B q → A q) → Z B U
theorem jw_PX_blind {D : va_G} {cl : List vw_C} {tys : List (ClassId × FieldType)} {av : List Value} {wc : va_W} {Z : (Nat → Prop) → State → Prop} (hZ : jw_Zok Z) {sz : Nat} : FrameBlind (jw_PX D cl tys av wc Z sz) := fun a U g mk q => by
  obtain ⟨q0, q1, qP, qK, qD, qZ⟩ := q
  exact ⟨q0, q1, qP, va_K.moved (u := U) (U := U.calling g mk a) (Vm.Alike.refl U.vm) qK, qD, hZ.1 _ U _ rfl rfl qZ⟩
def jw_Mi (l : Launch) (D : va_G) (cl : List vw_C) (tys : List (ClassId × FieldType)) (y : MethodName) (Ts : List Cond) (rm : Room) (av : List Value) (wc : va_W) (post : Int32 → va_W → Prop) : Prop := ∀ sz : Nat, Met l y Ts rm (jw_Pc D cl tys av wc sz) (va_Qi post (jw_B D cl tys (va_A wc sz)) (va_A wc sz)) rm.cells rm.slots (va_A wc sz)
def jw_Ml (l : Launch) (D : va_G) (cl : List vw_C) (tys : List (ClassId × FieldType)) (y : MethodName) (Ts : List Cond) (rm : Room) (av : List Value) (wc : va_W) (post : Int64 → va_W → Prop) : Prop := ∀ sz : Nat, Met l y Ts rm (jw_Pc D cl tys av wc sz) (va_Ql post (jw_B D cl tys (va_A wc sz)) (va_A wc sz)) rm.cells rm.slots (va_A wc sz)
def jw_Mv (l : Launch) (D : va_G) (cl : List vw_C) (tys : List (ClassId × FieldType)) (y : MethodName) (Ts : List Cond) (rm : Room) (av : List Value) (wc : va_W) (post : va_W → Prop) : Prop := ∀ sz : Nat, Met l y Ts rm (jw_Pc D cl tys av wc sz) (va_Qv post (jw_B D cl tys (va_A wc sz)) (va_A wc sz)) rm.cells rm.slots (va_A wc sz)
/-- it throws an object of class E, and the cells stay -/
def jw_XC (D : va_G) (cl : List vw_C) (tys : List (ClassId × FieldType)) (A : Nat → Prop) (wc : va_W) (E0 : String) : String → State → State → Prop := vx_X (fun _ : Unit => True) (fun E _ t => E = E0 ∧ jw_B D cl tys A wc t) A
def jw_Tx (l : Launch) (D : va_G) (cl : List vw_C) (tys : List (ClassId × FieldType)) (y : MethodName) (Ts : List Cond) (rm : Room) (av : List Value) (wc : va_W) (Z : (Nat → Prop) → State → Prop) (E0 : String) : Prop := ∀ sz : Nat, vx_Met l y Ts rm (jw_PX D cl tys av wc Z sz) (fun _ _ _ _ => False) (jw_XC D cl tys (va_A wc sz) wc E0) rm.cells rm.slots (va_A wc sz)
/-- reads: the answer is v, the cells stay -/
abbrev jw_Ei (l : Launch) (D : va_G) (cl : List vw_C) (tys : List (ClassId × FieldType)) (y : MethodName) (Ts : List Cond) (rm : Room) (av : List Value) (wc : va_W) (v : Int32) : Prop := jw_Mi l D cl tys y Ts rm av wc (fun r w => r = v ∧ w = wc)
abbrev jw_El (l : Launch) (D : va_G) (cl : List vw_C) (tys : List (ClassId × FieldType)) (y : MethodName) (Ts : List Cond) (rm : Room) (av : List Value) (wc : va_W) (v : Int64) : Prop := jw_Ml l D cl tys y Ts rm av wc (fun r w => r = v ∧ w = wc)
abbrev jw_Ev (l : Launch) (D : va_G) (cl : List vw_C) (tys : List (ClassId × FieldType)) (y : MethodName) (Ts : List Cond) (rm : Room) (av : List Value) (wc : va_W) : Prop := jw_Mv l D cl tys y Ts rm av wc (fun w => w = wc)
end JW1
theorem jm {c0 w : Cond} {WL : List Cond} (h : w ∈ WL) : w ∈ c0 :: WL := List.mem_cons_of_mem _ h
theorem jms {c0 : Cond} {us WL : List Cond} (h : ∀ w ∈ us, w ∈ WL) : ∀ w ∈ us, w ∈ c0 :: WL := fun w hw => List.mem_cons_of_mem _ (h w hw)
theorem jw_inc (i : Nat) : nI i + Int32.ofInt 1 = nI (i + 1) := by rw [show Int32.ofInt 1 = 1 by decide]; exact nI_1 i
theorem jw_dec (i : Nat) : nI (i + 1) + Int32.ofInt (-1) = nI i := by rw [show Int32.ofInt (-1) = -1 by decide]; exact pk_m1 i
theorem jw_inc5 (i : Nat) : nI i + Int32.ofInt 5 = nI (i + 5) := by rw [show Int32.ofInt 5 = nI 5 by decide]; exact nI_add i 5
section JW2
variable {p : Program} {l : Launch} {e : Env} {R : Room} {s : State} {m : MethodId} {args : Array Value} {below : List Frame} {meth : Method} {c : Code} {Q : State → Prop} {cells slots : Nat}
variable {D : va_G} {cl : List vw_C} {tys : List (ClassId × FieldType)} {A : Nat → Prop} {nL : Nat} {cc : ByteArray} {own : String} {Ts : List Cond} {ret : Option FieldType}
variable {pc : Nat} {lv lv' : List (Nat × Value)} {rest : List Value} {ws ws' : va_W}
theorem jw_iconst (F : jw_F p s m args meth c D cl tys A nL cc own Ts ret) {n : Int} {v : Int32} (d : decode cc pc = .ok (.iconst n, 1)) (hv : Int32.ofInt n = v) (k : jw_J p l e R s m args below meth c D cl A nL (Q) (cells) (slots) (pc + 1) (lv) (.int v :: rest) (ws)) : jw_J p l e R s m args below meth c D cl A nL (Q) (cells) (slots) (pc) (lv) (rest) (ws) := fun ls H locs hl hP hD hS => lv_iconst F.1.1 F.1.2.1 d hv (k ls H locs hl hP hD hS)
theorem jw_bipush (F : jw_F p s m args meth c D cl tys A nL cc own Ts ret) {n : Int} {v : Int32} (d : decode cc pc = .ok (.bipush n, 2)) (hv : (Int8.ofInt n).toInt32 = v) (k : jw_J p l e R s m args below meth c D cl A nL (Q) (cells) (slots) (pc + 2) (lv) (.int v :: rest) (ws)) : jw_J p l e R s m args below meth c D cl A nL (Q) (cells) (slots) (pc) (lv) (rest) (ws) := fun ls H locs hl hP hD hS => lv_bipush F.1.1 F.1.2.1 d hv (k ls H locs hl hP hD hS)
theorem jw_sipush (F : jw_F p s m args meth c D cl tys A nL cc own Ts ret) {n : Int} {v : Int32} (d : decode cc pc = .ok (.sipush n, 3)) (hv : (Int16.ofInt n).toInt32 = v) (k : jw_J p l e R s m args below meth c D cl A nL (Q) (cells) (slots) (pc + 3) (lv) (.int v :: rest) (ws)) : jw_J p l e R s m args below meth c D cl A nL (Q) (cells) (slots) (pc) (lv) (rest) (ws) := fun ls H locs hl hP hD hS => lv_sipush F.1.1 F.1.2.1 d hv (k ls H locs hl hP hD hS)
theorem jw_lconst (F : jw_F p s m args meth c D cl tys A nL cc own Ts ret) {n : Fin 2} {v : Int64} (d : decode cc pc = .ok (.lconst n, 1)) (hv : Int64.ofNat (n : Nat) = v) (k : jw_J p l e R s m args below meth c D cl A nL (Q) (cells) (slots) (pc + 1) (lv) (.long v :: rest) (ws)) : jw_J p l e R s m args below meth c D cl A nL (Q) (cells) (slots) (pc) (lv) (rest) (ws) := fun ls H locs hl hP hD hS => lv_lconst F.1.1 F.1.2.1 d hv (k ls H locs hl hP hD hS)
theorem jw_ldc (F : jw_F p s m args meth c D cl tys A nL cc own Ts ret) {index : Nat} {v : Int32} (d : decode cc pc = .ok (.ldc index, 2)) (hw : Cond.constant own index v ∈ Ts) (k : jw_J p l e R s m args below meth c D cl A nL (Q) (cells) (slots) (pc + 2) (lv) (.int v :: rest) (ws)) : jw_J p l e R s m args below meth c D cl A nL (Q) (cells) (slots) (pc) (lv) (rest) (ws) := fun ls H locs hl hP hD hS => lv_ldc F.1.1 F.1.2.1 F.1.2.2.2.1 (F.1.2.2.2.2 _ hw) d (k ls H locs hl hP hD hS)
theorem jw_ldc2 (F : jw_F p s m args meth c D cl tys A nL cc own Ts ret) {index : Nat} {v : Int64} (d : decode cc pc = .ok (.ldc2_w index, 3)) (hw : Cond.constantLong own index v ∈ Ts) (k : jw_J p l e R s m args below meth c D cl A nL (Q) (cells) (slots) (pc + 3) (lv) (.long v :: rest) (ws)) : jw_J p l e R s m args below meth c D cl A nL (Q) (cells) (slots) (pc) (lv) (rest) (ws) := fun ls H locs hl hP hD hS => lv_ldc2 F.1.1 F.1.2.1 F.1.2.2.2.1 (F.1.2.2.2.2 _ hw) d (k ls H locs hl hP hD hS)
theorem jw_iload_n (F : jw_F p s m args meth c D cl tys A nL cc own Ts ret) (q : Nat) {i : Nat} {kf : Fin 4} {x : Int32} (d : decode cc pc = .ok (.iload_n kf, 1)) (hi : (kf : Nat) = i) (h : lv[q]? = some (i, .int x)) (k : jw_J p l e R s m args below meth c D cl A nL (Q) (cells) (slots) (pc + 1) (lv) (.int x :: rest) (ws)) : jw_J p l e R s m args below meth c D cl A nL (Q) (cells) (slots) (pc) (lv) (rest) (ws) := fun ls H locs hl hP hD hS => lv_iload_n F.1.1 F.1.2.1 d hi (lv_at hl q h) (k ls H locs hl hP hD hS)
theorem jw_iload (F : jw_F p s m args meth c D cl tys A nL cc own Ts ret) (q : Nat) {i : Nat} {x : Int32} (d : decode cc pc = .ok (.iload i, 2)) (h : lv[q]? = some (i, .int x)) (k : jw_J p l e R s m args below meth c D cl A nL (Q) (cells) (slots) (pc + 2) (lv) (.int x :: rest) (ws)) : jw_J p l e R s m args below meth c D cl A nL (Q) (cells) (slots) (pc) (lv) (rest) (ws) := fun ls H locs hl hP hD hS => lv_iload F.1.1 F.1.2.1 d (lv_at hl q h) (k ls H locs hl hP hD hS)
theorem jw_istore_n (F : jw_F p s m args meth c D cl tys A nL cc own Ts ret) {i : Nat} {kf : Fin 4} {x : Int32} (d : decode cc pc = .ok (.istore_n kf, 1)) (hi : (kf : Nat) = i) (hn : i < nL) (hl' : jw_set1 i (.int x) lv = lv') (k : jw_J p l e R s m args below meth c D cl A nL (Q) (cells) (slots) (pc + 1) (lv') (rest) (ws)) : jw_J p l e R s m args below meth c D cl A nL (Q) (cells) (slots) (pc) (lv) (.int x :: rest) (ws) := fun ls H locs hl hP hD hS => lv_istore_n F.1.1 F.1.2.1 d hi hl hn rfl (fun ls' h' => k ls' H locs (hl' ▸ jw_has h') hP hD hS)
theorem jw_istore (F : jw_F p s m args meth c D cl tys A nL cc own Ts ret) {i : Nat} {x : Int32} (d : decode cc pc = .ok (.istore i, 2)) (hn : i < nL) (hl' : jw_set1 i (.int x) lv = lv') (k : jw_J p l e R s m args below meth c D cl A nL (Q) (cells) (slots) (pc + 2) (lv') (rest) (ws)) : jw_J p l e R s m args below meth c D cl A nL (Q) (cells) (slots) (pc) (lv) (.int x :: rest) (ws) := fun ls H locs hl hP hD hS => lv_istore F.1.1 F.1.2.1 d hl hn rfl (fun ls' h' => k ls' H locs (hl' ▸ jw_has h') hP hD hS)
theorem jw_lload_n (F : jw_F p s m args meth c D cl tys A nL cc own Ts ret) (q : Nat) {i : Nat} {kf : Fin 4} {x : Int64} (d : decode cc pc = .ok (.lload_n kf, 1)) (hi : (kf : Nat) = i) (h : lv[q]? = some (i, .long x)) (k : jw_J p l e R s m args below meth c D cl A nL (Q) (cells) (slots) (pc + 1) (lv) (.long x :: rest) (ws)) : jw_J p l e R s m args below meth c D cl A nL (Q) (cells) (slots) (pc) (lv) (rest) (ws) := fun ls H locs hl hP hD hS => lv_lload_n F.1.1 F.1.2.1 d hi (lv_at hl q h) (k ls H locs hl hP hD hS)
theorem jw_lload (F : jw_F p s m args meth c D cl tys A nL cc own Ts ret) (q : Nat) {i : Nat} {x : Int64} (d : decode cc pc = .ok (.lload i, 2)) (h : lv[q]? = some (i, .long x)) (k : jw_J p l e R s m args below meth c D cl A nL (Q) (cells) (slots) (pc + 2) (lv) (.long x :: rest) (ws)) : jw_J p l e R s m args below meth c D cl A nL (Q) (cells) (slots) (pc) (lv) (rest) (ws) := fun ls H locs hl hP hD hS => lv_lload F.1.1 F.1.2.1 d (lv_at hl q h) (k ls H locs hl hP hD hS)
theorem jw_lstore_n (F : jw_F p s m args meth c D cl tys A nL cc own Ts ret) {i : Nat} {kf : Fin 4} {x : Int64} (d : decode cc pc = .ok (.lstore_n kf, 1)) (hi : (kf : Nat) = i) (hn : i + 1 < nL) (hl' : jw_set2 i (.long x) lv = lv') (k : jw_J p l e R s m args below meth c D cl A nL (Q) (cells) (slots) (pc + 1) (lv') (rest) (ws)) : jw_J p l e R s m args below meth c D cl A nL (Q) (cells) (slots) (pc) (lv) (.long x :: rest) (ws) := fun ls H locs hl hP hD hS => lv_lstore_n F.1.1 F.1.2.1 d hi hl hn rfl (fun ls' h' => k ls' H locs (hl' ▸ jw_has h') hP hD hS)
theorem jw_lstore (F : jw_F p s m args meth c D cl tys A nL cc own Ts ret) {i : Nat} {x : Int64} (d : decode cc pc = .ok (.lstore i, 2)) (hn : i + 1 < nL) (hl' : jw_set2 i (.long x) lv = lv') (k : jw_J p l e R s m args below meth c D cl A nL (Q) (cells) (slots) (pc + 2) (lv') (rest) (ws)) : jw_J p l e R s m args below meth c D cl A nL (Q) (cells) (slots) (pc) (lv) (.long x :: rest) (ws) := fun ls H locs hl hP hD hS => lv_lstore F.1.1 F.1.2.1 d hl hn rfl (fun ls' h' => k ls' H locs (hl' ▸ jw_has h') hP hD hS)
theorem jw_aload_n (F : jw_F p s m args meth c D cl tys A nL cc own Ts ret) (q : Nat) {i : Nat} {kf : Fin 4} {x : Nat} (d : decode cc pc = .ok (.aload_n kf, 1)) (hi : (kf : Nat) = i) (h : lv[q]? = some (i, .ref x)) (k : jw_J p l e R s m args below meth c D cl A nL (Q) (cells) (slots) (pc + 1) (lv) (.ref x :: rest) (ws)) : jw_J p l e R s m args below meth c D cl A nL (Q) (cells) (slots) (pc) (lv) (rest) (ws) := fun ls H locs hl hP hD hS => lv_aload_n F.1.1 F.1.2.1 d hi (lv_at hl q h) (k ls H locs hl hP hD hS)
theorem jw_aload (F : jw_F p s m args meth c D cl tys A nL cc own Ts ret) (q : Nat) {i : Nat} {x : Nat} (d : decode cc pc = .ok (.aload i, 2)) (h : lv[q]? = some (i, .ref x)) (k : jw_J p l e R s m args below meth c D cl A nL (Q) (cells) (slots) (pc + 2) (lv) (.ref x :: rest) (ws)) : jw_J p l e R s m args below meth c D cl A nL (Q) (cells) (slots) (pc) (lv) (rest) (ws) := fun ls H locs hl hP hD hS => lv_aload F.1.1 F.1.2.1 d (lv_at hl q h) (k ls H locs hl hP hD hS)
theorem jw_astore_n (F : jw_F p s m args meth c D cl tys A nL cc own Ts ret) {i : Nat} {kf : Fin 4} {x : Nat} (d : decode cc pc = .ok (.astore_n kf, 1)) (hi : (kf : Nat) = i) (hn : i < nL) (hl' : jw_set1 i (.ref x) lv = lv') (k : jw_J p l e R s m args below meth c D cl A nL (Q) (cells) (slots) (pc + 1) (lv') (rest) (ws)) : jw_J p l e R s m args below meth c D cl A nL (Q) (cells) (slots) (pc) (lv) (.ref x :: rest) (ws) := fun ls H locs hl hP hD hS => lv_astore_n F.1.1 F.1.2.1 d hi hl hn rfl (fun ls' h' => k ls' H locs (hl' ▸ jw_has h') hP hD hS)
theorem jw_astore (F : jw_F p s m args meth c D cl tys A nL cc own Ts ret) {i : Nat} {x : Nat} (d : decode cc pc = .ok (.astore i, 2)) (hn : i < nL) (hl' : jw_set1 i (.ref x) lv = lv') (k : jw_J p l e R s m args below meth c D cl A nL (Q) (cells) (slots) (pc + 2) (lv') (rest) (ws)) : jw_J p l e R s m args below meth c D cl A nL (Q) (cells) (slots) (pc) (lv) (.ref x :: rest) (ws) := fun ls H locs hl hP hD hS => lv_astore F.1.1 F.1.2.1 d hl hn rfl (fun ls' h' => k ls' H locs (hl' ▸ jw_has h') hP hD hS)
theorem jw_iinc (F : jw_F p s m args meth c D cl tys A nL cc own Ts ret) (q : Nat) {i : Nat} {n : Int} {x v : Int32} (d : decode cc pc = .ok (.iinc i n, 3)) (h : lv[q]? = some (i, .int x)) (hv : x + Int32.ofInt n = v) (hn : i < nL) (hl' : jw_set1 i (.int v) lv = lv') (k : jw_J p l e R s m args below meth c D cl A nL (Q) (cells) (slots) (pc + 3) (lv') (rest) (ws)) : jw_J p l e R s m args below meth c D cl A nL (Q) (cells) (slots) (pc) (lv) (rest) (ws) := fun ls H locs hl hP hD hS => lv_iinc F.1.1 F.1.2.1 d hl h hv hn rfl (fun ls' h' => k ls' H locs (hl' ▸ jw_has h') hP hD hS)
theorem jw_iadd (F : jw_F p s m args meth c D cl tys A nL cc own Ts ret) {x y : Int32} (d : decode cc pc = .ok (.iadd, 1))  (k : jw_J p l e R s m args below meth c D cl A nL (Q) (cells) (slots) (pc + 1) (lv) (.int (x + y) :: rest) (ws)) : jw_J p l e R s m args below meth c D cl A nL (Q) (cells) (slots) (pc) (lv) (.int y :: .int x :: rest) (ws) := fun ls H locs hl hP hD hS => lv_iadd F.1.1 F.1.2.1 d (k ls H locs hl hP hD hS)
theorem jw_isub (F : jw_F p s m args meth c D cl tys A nL cc own Ts ret) {x y : Int32} (d : decode cc pc = .ok (.isub, 1))  (k : jw_J p l e R s m args below meth c D cl A nL (Q) (cells) (slots) (pc + 1) (lv) (.int (x - y) :: rest) (ws)) : jw_J p l e R s m args below meth c D cl A nL (Q) (cells) (slots) (pc) (lv) (.int y :: .int x :: rest) (ws) := fun ls H locs hl hP hD hS => lv_isub F.1.1 F.1.2.1 d (k ls H locs hl hP hD hS)
theorem jw_imul (F : jw_F p s m args meth c D cl tys A nL cc own Ts ret) {x y : Int32} (d : decode cc pc = .ok (.imul, 1))  (k : jw_J p l e R s m args below meth c D cl A nL (Q) (cells) (slots) (pc + 1) (lv) (.int (x * y) :: rest) (ws)) : jw_J p l e R s m args below meth c D cl A nL (Q) (cells) (slots) (pc) (lv) (.int y :: .int x :: rest) (ws) := fun ls H locs hl hP hD hS => lv_imul F.1.1 F.1.2.1 d (k ls H locs hl hP hD hS)
theorem jw_iand (F : jw_F p s m args meth c D cl tys A nL cc own Ts ret) {x y : Int32} (d : decode cc pc = .ok (.iand, 1))  (k : jw_J p l e R s m args below meth c D cl A nL (Q) (cells) (slots) (pc + 1) (lv) (.int (x &&& y) :: rest) (ws)) : jw_J p l e R s m args below meth c D cl A nL (Q) (cells) (slots) (pc) (lv) (.int y :: .int x :: rest) (ws) := fun ls H locs hl hP hD hS => lv_iand F.1.1 F.1.2.1 d (k ls H locs hl hP hD hS)
theorem jw_ior (F : jw_F p s m args meth c D cl tys A nL cc own Ts ret) {x y : Int32} (d : decode cc pc = .ok (.ior, 1))  (k : jw_J p l e R s m args below meth c D cl A nL (Q) (cells) (slots) (pc + 1) (lv) (.int (x ||| y) :: rest) (ws)) : jw_J p l e R s m args below meth c D cl A nL (Q) (cells) (slots) (pc) (lv) (.int y :: .int x :: rest) (ws) := fun ls H locs hl hP hD hS => lv_ior F.1.1 F.1.2.1 d (k ls H locs hl hP hD hS)
theorem jw_ixor (F : jw_F p s m args meth c D cl tys A nL cc own Ts ret) {x y : Int32} (d : decode cc pc = .ok (.ixor, 1))  (k : jw_J p l e R s m args below meth c D cl A nL (Q) (cells) (slots) (pc + 1) (lv) (.int (x ^^^ y) :: rest) (ws)) : jw_J p l e R s m args below meth c D cl A nL (Q) (cells) (slots) (pc) (lv) (.int y :: .int x :: rest) (ws) := fun ls H locs hl hP hD hS => lv_ixor F.1.1 F.1.2.1 d (k ls H locs hl hP hD hS)
theorem jw_ishl (F : jw_F p s m args meth c D cl tys A nL cc own Ts ret) {x y : Int32} (d : decode cc pc = .ok (.ishl, 1))  (k : jw_J p l e R s m args below meth c D cl A nL (Q) (cells) (slots) (pc + 1) (lv) (.int (x <<< (y &&& 31)) :: rest) (ws)) : jw_J p l e R s m args below meth c D cl A nL (Q) (cells) (slots) (pc) (lv) (.int y :: .int x :: rest) (ws) := fun ls H locs hl hP hD hS => lv_ishl F.1.1 F.1.2.1 d (k ls H locs hl hP hD hS)
theorem jw_ishr (F : jw_F p s m args meth c D cl tys A nL cc own Ts ret) {x y : Int32} (d : decode cc pc = .ok (.ishr, 1))  (k : jw_J p l e R s m args below meth c D cl A nL (Q) (cells) (slots) (pc + 1) (lv) (.int (x >>> (y &&& 31)) :: rest) (ws)) : jw_J p l e R s m args below meth c D cl A nL (Q) (cells) (slots) (pc) (lv) (.int y :: .int x :: rest) (ws) := fun ls H locs hl hP hD hS => lv_ishr F.1.1 F.1.2.1 d (k ls H locs hl hP hD hS)
theorem jw_ladd (F : jw_F p s m args meth c D cl tys A nL cc own Ts ret) {x y : Int64} (d : decode cc pc = .ok (.ladd, 1))  (k : jw_J p l e R s m args below meth c D cl A nL (Q) (cells) (slots) (pc + 1) (lv) (.long (x + y) :: rest) (ws)) : jw_J p l e R s m args below meth c D cl A nL (Q) (cells) (slots) (pc) (lv) (.long y :: .long x :: rest) (ws) := fun ls H locs hl hP hD hS => lv_ladd F.1.1 F.1.2.1 d (k ls H locs hl hP hD hS)
theorem jw_lsub (F : jw_F p s m args meth c D cl tys A nL cc own Ts ret) {x y : Int64} (d : decode cc pc = .ok (.lsub, 1))  (k : jw_J p l e R s m args below meth c D cl A nL (Q) (cells) (slots) (pc + 1) (lv) (.long (x - y) :: rest) (ws)) : jw_J p l e R s m args below meth c D cl A nL (Q) (cells) (slots) (pc) (lv) (.long y :: .long x :: rest) (ws) := fun ls H locs hl hP hD hS => lv_lsub F.1.1 F.1.2.1 d (k ls H locs hl hP hD hS)
theorem jw_land (F : jw_F p s m args meth c D cl tys A nL cc own Ts ret) {x y : Int64} (d : decode cc pc = .ok (.land, 1))  (k : jw_J p l e R s m args below meth c D cl A nL (Q) (cells) (slots) (pc + 1) (lv) (.long (x &&& y) :: rest) (ws)) : jw_J p l e R s m args below meth c D cl A nL (Q) (cells) (slots) (pc) (lv) (.long y :: .long x :: rest) (ws) := fun ls H locs hl hP hD hS => lv_land F.1.1 F.1.2.1 d (k ls H locs hl hP hD hS)
theorem jw_lor (F : jw_F p s m args meth c D cl tys A nL cc own Ts ret) {x y : Int64} (d : decode cc pc = .ok (.lor, 1))  (k : jw_J p l e R s m args below meth c D cl A nL (Q) (cells) (slots) (pc + 1) (lv) (.long (x ||| y) :: rest) (ws)) : jw_J p l e R s m args below meth c D cl A nL (Q) (cells) (slots) (pc) (lv) (.long y :: .long x :: rest) (ws) := fun ls H locs hl hP hD hS => lv_lor F.1.1 F.1.2.1 d (k ls H locs hl hP hD hS)
theorem jw_i2l (F : jw_F p s m args meth c D cl tys A nL cc own Ts ret) {x : Int32} (d : decode cc pc = .ok (.i2l, 1))  (k : jw_J p l e R s m args below meth c D cl A nL (Q) (cells) (slots) (pc + 1) (lv) (.long x.toInt64 :: rest) (ws)) : jw_J p l e R s m args below meth c D cl A nL (Q) (cells) (slots) (pc) (lv) (.int x :: rest) (ws) := fun ls H locs hl hP hD hS => lv_i2l F.1.1 F.1.2.1 d rfl (k ls H locs hl hP hD hS)
theorem jw_lshl (F : jw_F p s m args meth c D cl tys A nL cc own Ts ret) {x : Int64} {y : Int32} (d : decode cc pc = .ok (.lshl, 1))  (k : jw_J p l e R s m args below meth c D cl A nL (Q) (cells) (slots) (pc + 1) (lv) (.long (x <<< (y.toInt64 &&& 63)) :: rest) (ws)) : jw_J p l e R s m args below meth c D cl A nL (Q) (cells) (slots) (pc) (lv) (.int y :: .long x :: rest) (ws) := fun ls H locs hl hP hD hS => lv_lshl F.1.1 F.1.2.1 d rfl (k ls H locs hl hP hD hS)
theorem jw_lcmp (F : jw_F p s m args meth c D cl tys A nL cc own Ts ret) {x y : Int64} (d : decode cc pc = .ok (.lcmp, 1))  (k : jw_J p l e R s m args below meth c D cl A nL (Q) (cells) (slots) (pc + 1) (lv) (.int (lg_cmp x y) :: rest) (ws)) : jw_J p l e R s m args below meth c D cl A nL (Q) (cells) (slots) (pc) (lv) (.long y :: .long x :: rest) (ws) := fun ls H locs hl hP hD hS => W.lcmp F.1.1 F.1.2.1 d (k ls H locs hl hP hD hS)
theorem jw_dup (F : jw_F p s m args meth c D cl tys A nL cc own Ts ret) {va : Value} (d : decode cc pc = .ok (.dup, 1)) (h1 : va.category = 1) (k : jw_J p l e R s m args below meth c D cl A nL (Q) (cells) (slots) (pc + 1) (lv) (va :: va :: rest) (ws)) : jw_J p l e R s m args below meth c D cl A nL (Q) (cells) (slots) (pc) (lv) (va :: rest) (ws) := fun ls H locs hl hP hD hS => lv_dup F.1.1 F.1.2.1 d h1 (k ls H locs hl hP hD hS)
theorem jw_pop (F : jw_F p s m args meth c D cl tys A nL cc own Ts ret) {va : Value} (d : decode cc pc = .ok (.pop, 1)) (h1 : va.category = 1) (k : jw_J p l e R s m args below meth c D cl A nL (Q) (cells) (slots) (pc + 1) (lv) (rest) (ws)) : jw_J p l e R s m args below meth c D cl A nL (Q) (cells) (slots) (pc) (lv) (va :: rest) (ws) := fun ls H locs hl hP hD hS => lv_pop F.1.1 F.1.2.1 d h1 (k ls H locs hl hP hD hS)
theorem jw_dup_x1 (F : jw_F p s m args meth c D cl tys A nL cc own Ts ret) {va vb : Value} (d : decode cc pc = .ok (.dup_x1, 1)) (h1 : va.category = 1) (h2 : vb.category = 1) (k : jw_J p l e R s m args below meth c D cl A nL (Q) (cells) (slots) (pc + 1) (lv) (va :: vb :: va :: rest) (ws)) : jw_J p l e R s m args below meth c D cl A nL (Q) (cells) (slots) (pc) (lv) (va :: vb :: rest) (ws) := fun ls H locs hl hP hD hS => lv_dup_x1 F.1.1 F.1.2.1 d h1 h2 (k ls H locs hl hP hD hS)
theorem jw_dup2 (F : jw_F p s m args meth c D cl tys A nL cc own Ts ret) {va vb : Value} (d : decode cc pc = .ok (.dup2, 1)) (h1 : va.category = 1) (h2 : vb.category = 1) (k : jw_J p l e R s m args below meth c D cl A nL (Q) (cells) (slots) (pc + 1) (lv) (va :: vb :: va :: vb :: rest) (ws)) : jw_J p l e R s m args below meth c D cl A nL (Q) (cells) (slots) (pc) (lv) (va :: vb :: rest) (ws) := fun ls H locs hl hP hD hS => lv_dup2_11 F.1.1 F.1.2.1 d h1 h2 (k ls H locs hl hP hD hS)
theorem jw_if_eq (F : jw_F p s m args meth c D cl tys A nL cc own Ts ret) {x : Int32} {off : Int} (tgt : Nat) (d : decode cc pc = .ok (.ifCond .eq off, 3)) (ht : (pc : Int) + off = (tgt : Int)) (kt : x = 0 → jw_J p l e R s m args below meth c D cl A nL (Q) (cells) (slots) (tgt) (lv) (rest) (ws)) (kf : ¬ x = 0 → jw_J p l e R s m args below meth c D cl A nL (Q) (cells) (slots) (pc + 3) (lv) (rest) (ws)) : jw_J p l e R s m args below meth c D cl A nL (Q) (cells) (slots) (pc) (lv) (.int x :: rest) (ws) := fun ls H locs hl hP hD hS => lv_if_eq F.1.1 F.1.2.1 d ht (fun h => kt h ls H locs hl hP hD hS) (fun h => kf h ls H locs hl hP hD hS)
theorem jw_icmp_eq (F : jw_F p s m args meth c D cl tys A nL cc own Ts ret) {x y : Int32} {off : Int} (tgt : Nat) (d : decode cc pc = .ok (.if_icmp .eq off, 3)) (ht : (pc : Int) + off = (tgt : Int)) (kt : x = y → jw_J p l e R s m args below meth c D cl A nL (Q) (cells) (slots) (tgt) (lv) (rest) (ws)) (kf : ¬ x = y → jw_J p l e R s m args below meth c D cl A nL (Q) (cells) (slots) (pc + 3) (lv) (rest) (ws)) : jw_J p l e R s m args below meth c D cl A nL (Q) (cells) (slots) (pc) (lv) (.int y :: .int x :: rest) (ws) := fun ls H locs hl hP hD hS => lv_icmp_eq F.1.1 F.1.2.1 d ht (fun h => kt h ls H locs hl hP hD hS) (fun h => kf h ls H locs hl hP hD hS)
theorem jw_if_ne (F : jw_F p s m args meth c D cl tys A nL cc own Ts ret) {x : Int32} {off : Int} (tgt : Nat) (d : decode cc pc = .ok (.ifCond .ne off, 3)) (ht : (pc : Int) + off = (tgt : Int)) (kt : ¬ x = 0 → jw_J p l e R s m args below meth c D cl A nL (Q) (cells) (slots) (tgt) (lv) (rest) (ws)) (kf : x = 0 → jw_J p l e R s m args below meth c D cl A nL (Q) (cells) (slots) (pc + 3) (lv) (rest) (ws)) : jw_J p l e R s m args below meth c D cl A nL (Q) (cells) (slots) (pc) (lv) (.int x :: rest) (ws) := fun ls H locs hl hP hD hS => lv_if_ne F.1.1 F.1.2.1 d ht (fun h => kt h ls H locs hl hP hD hS) (fun h => kf h ls H locs hl hP hD hS)
theorem jw_icmp_ne (F : jw_F p s m args meth c D cl tys A nL cc own Ts ret) {x y : Int32} {off : Int} (tgt : Nat) (d : decode cc pc = .ok (.if_icmp .ne off, 3)) (ht : (pc : Int) + off = (tgt : Int)) (kt : ¬ x = y → jw_J p l e R s m args below meth c D cl A nL (Q) (cells) (slots) (tgt) (lv) (rest) (ws)) (kf : x = y → jw_J p l e R s m args below meth c D cl A nL (Q) (cells) (slots) (pc + 3) (lv) (rest) (ws)) : jw_J p l e R s m args below meth c D cl A nL (Q) (cells) (slots) (pc) (lv) (.int y :: .int x :: rest) (ws) := fun ls H locs hl hP hD hS => lv_icmp_ne F.1.1 F.1.2.1 d ht (fun h => kt h ls H locs hl hP hD hS) (fun h => kf h ls H locs hl hP hD hS)
theorem jw_if_lt (F : jw_F p s m args meth c D cl tys A nL cc own Ts ret) {x : Int32} {off : Int} (tgt : Nat) (d : decode cc pc = .ok (.ifCond .lt off, 3)) (ht : (pc : Int) + off = (tgt : Int)) (kt : x < 0 → jw_J p l e R s m args below meth c D cl A nL (Q) (cells) (slots) (tgt) (lv) (rest) (ws)) (kf : ¬ x < 0 → jw_J p l e R s m args below meth c D cl A nL (Q) (cells) (slots) (pc + 3) (lv) (rest) (ws)) : jw_J p l e R s m args below meth c D cl A nL (Q) (cells) (slots) (pc) (lv) (.int x :: rest) (ws) := fun ls H locs hl hP hD hS => lv_if_lt F.1.1 F.1.2.1 d ht (fun h => kt h ls H locs hl hP hD hS) (fun h => kf h ls H locs hl hP hD hS)
theorem jw_icmp_lt (F : jw_F p s m args meth c D cl tys A nL cc own Ts ret) {x y : Int32} {off : Int} (tgt : Nat) (d : decode cc pc = .ok (.if_icmp .lt off, 3)) (ht : (pc : Int) + off = (tgt : Int)) (kt : x < y → jw_J p l e R s m args below meth c D cl A nL (Q) (cells) (slots) (tgt) (lv) (rest) (ws)) (kf : ¬ x < y → jw_J p l e R s m args below meth c D cl A nL (Q) (cells) (slots) (pc + 3) (lv) (rest) (ws)) : jw_J p l e R s m args below meth c D cl A nL (Q) (cells) (slots) (pc) (lv) (.int y :: .int x :: rest) (ws) := fun ls H locs hl hP hD hS => lv_icmp_lt F.1.1 F.1.2.1 d ht (fun h => kt h ls H locs hl hP hD hS) (fun h => kf h ls H locs hl hP hD hS)
theorem jw_if_ge (F : jw_F p s m args meth c D cl tys A nL cc own Ts ret) {x : Int32} {off : Int} (tgt : Nat) (d : decode cc pc = .ok (.ifCond .ge off, 3)) (ht : (pc : Int) + off = (tgt : Int)) (kt : 0 ≤ x → jw_J p l e R s m args below meth c D cl A nL (Q) (cells) (slots) (tgt) (lv) (rest) (ws)) (kf : ¬ 0 ≤ x → jw_J p l e R s m args below meth c D cl A nL (Q) (cells) (slots) (pc + 3) (lv) (rest) (ws)) : jw_J p l e R s m args below meth c D cl A nL (Q) (cells) (slots) (pc) (lv) (.int x :: rest) (ws) := fun ls H locs hl hP hD hS => lv_if_ge F.1.1 F.1.2.1 d ht (fun h => kt h ls H locs hl hP hD hS) (fun h => kf h ls H locs hl hP hD hS)
theorem jw_icmp_ge (F : jw_F p s m args meth c D cl tys A nL cc own Ts ret) {x y : Int32} {off : Int} (tgt : Nat) (d : decode cc pc = .ok (.if_icmp .ge off, 3)) (ht : (pc : Int) + off = (tgt : Int)) (kt : y ≤ x → jw_J p l e R s m args below meth c D cl A nL (Q) (cells) (slots) (tgt) (lv) (rest) (ws)) (kf : ¬ y ≤ x → jw_J p l e R s m args below meth c D cl A nL (Q) (cells) (slots) (pc + 3) (lv) (rest) (ws)) : jw_J p l e R s m args below meth c D cl A nL (Q) (cells) (slots) (pc) (lv) (.int y :: .int x :: rest) (ws) := fun ls H locs hl hP hD hS => lv_icmp_ge F.1.1 F.1.2.1 d ht (fun h => kt h ls H locs hl hP hD hS) (fun h => kf h ls H locs hl hP hD hS)
theorem jw_if_gt (F : jw_F p s m args meth c D cl tys A nL cc own Ts ret) {x : Int32} {off : Int} (tgt : Nat) (d : decode cc pc = .ok (.ifCond .gt off, 3)) (ht : (pc : Int) + off = (tgt : Int)) (kt : 0 < x → jw_J p l e R s m args below meth c D cl A nL (Q) (cells) (slots) (tgt) (lv) (rest) (ws)) (kf : ¬ 0 < x → jw_J p l e R s m args below meth c D cl A nL (Q) (cells) (slots) (pc + 3) (lv) (rest) (ws)) : jw_J p l e R s m args below meth c D cl A nL (Q) (cells) (slots) (pc) (lv) (.int x :: rest) (ws) := fun ls H locs hl hP hD hS => lv_if_gt F.1.1 F.1.2.1 d ht (fun h => kt h ls H locs hl hP hD hS) (fun h => kf h ls H locs hl hP hD hS)
theorem jw_icmp_gt (F : jw_F p s m args meth c D cl tys A nL cc own Ts ret) {x y : Int32} {off : Int} (tgt : Nat) (d : decode cc pc = .ok (.if_icmp .gt off, 3)) (ht : (pc : Int) + off = (tgt : Int)) (kt : y < x → jw_J p l e R s m args below meth c D cl A nL (Q) (cells) (slots) (tgt) (lv) (rest) (ws)) (kf : ¬ y < x → jw_J p l e R s m args below meth c D cl A nL (Q) (cells) (slots) (pc + 3) (lv) (rest) (ws)) : jw_J p l e R s m args below meth c D cl A nL (Q) (cells) (slots) (pc) (lv) (.int y :: .int x :: rest) (ws) := fun ls H locs hl hP hD hS => lv_icmp_gt F.1.1 F.1.2.1 d ht (fun h => kt h ls H locs hl hP hD hS) (fun h => kf h ls H locs hl hP hD hS)
theorem jw_if_le (F : jw_F p s m args meth c D cl tys A nL cc own Ts ret) {x : Int32} {off : Int} (tgt : Nat) (d : decode cc pc = .ok (.ifCond .le off, 3)) (ht : (pc : Int) + off = (tgt : Int)) (kt : x ≤ 0 → jw_J p l e R s m args below meth c D cl A nL (Q) (cells) (slots) (tgt) (lv) (rest) (ws)) (kf : ¬ x ≤ 0 → jw_J p l e R s m args below meth c D cl A nL (Q) (cells) (slots) (pc + 3) (lv) (rest) (ws)) : jw_J p l e R s m args below meth c D cl A nL (Q) (cells) (slots) (pc) (lv) (.int x :: rest) (ws) := fun ls H locs hl hP hD hS => lv_if_le F.1.1 F.1.2.1 d ht (fun h => kt h ls H locs hl hP hD hS) (fun h => kf h ls H locs hl hP hD hS)
theorem jw_icmp_le (F : jw_F p s m args meth c D cl tys A nL cc own Ts ret) {x y : Int32} {off : Int} (tgt : Nat) (d : decode cc pc = .ok (.if_icmp .le off, 3)) (ht : (pc : Int) + off = (tgt : Int)) (kt : x ≤ y → jw_J p l e R s m args below meth c D cl A nL (Q) (cells) (slots) (tgt) (lv) (rest) (ws)) (kf : ¬ x ≤ y → jw_J p l e R s m args below meth c D cl A nL (Q) (cells) (slots) (pc + 3) (lv) (rest) (ws)) : jw_J p l e R s m args below meth c D cl A nL (Q) (cells) (slots) (pc) (lv) (.int y :: .int x :: rest) (ws) := fun ls H locs hl hP hD hS => lv_icmp_le F.1.1 F.1.2.1 d ht (fun h => kt h ls H locs hl hP hD hS) (fun h => kf h ls H locs hl hP hD hS)
theorem jw_goto (F : jw_F p s m args meth c D cl tys A nL cc own Ts ret) {off : Int} (tgt : Nat) (d : decode cc pc = .ok (.goto off, 3)) (ht : (pc : Int) + off = (tgt : Int)) (k : jw_J p l e R s m args below meth c D cl A nL (Q) (cells) (slots) (tgt) (lv) (rest) (ws)) : jw_J p l e R s m args below meth c D cl A nL (Q) (cells) (slots) (pc) (lv) (rest) (ws) := fun ls H locs hl hP hD hS => lv_goto F.1.1 F.1.2.1 d ht (k ls H locs hl hP hD hS)
theorem jw_tableIn (F : jw_F p s m args meth c D cl tys A nL cc own Ts ret) {dflt lo hi : Int} {offs : Array Int} {len : Nat} {x : Int32} {off : Int} (tgt : Nat) (d : decode cc pc = .ok (.tableswitch dflt lo hi offs, len)) (h1 : ¬ x.toInt < lo) (h2 : ¬ hi < x.toInt) (ho : offs[(x.toInt - lo).toNat]? = some off) (ht : (pc : Int) + off = (tgt : Int)) (k : jw_J p l e R s m args below meth c D cl A nL (Q) (cells) (slots) (tgt) (lv) (rest) (ws)) : jw_J p l e R s m args below meth c D cl A nL (Q) (cells) (slots) (pc) (lv) (.int x :: rest) (ws) := fun ls H locs hl hP hD hS => lv_tableIn F.1.1 F.1.2.1 d h1 h2 ho ht (k ls H locs hl hP hD hS)
theorem jw_tableOut (F : jw_F p s m args meth c D cl tys A nL cc own Ts ret) {dflt lo hi : Int} {offs : Array Int} {len : Nat} {x : Int32} (tgt : Nat) (d : decode cc pc = .ok (.tableswitch dflt lo hi offs, len)) (h : x.toInt < lo ∨ hi < x.toInt) (ht : (pc : Int) + dflt = (tgt : Int)) (k : jw_J p l e R s m args below meth c D cl A nL (Q) (cells) (slots) (tgt) (lv) (rest) (ws)) : jw_J p l e R s m args below meth c D cl A nL (Q) (cells) (slots) (pc) (lv) (.int x :: rest) (ws) := fun ls H locs hl hP hD hS => lv_tableOut F.1.1 F.1.2.1 d h ht (k ls H locs hl hP hD hS)
theorem jw_top {x : Int32} (k : ∀ y : Int32, y = x → jw_J p l e R s m args below meth c D cl A nL (Q) (cells) (slots) (pc) (lv) (.int y :: rest) (ws)) : jw_J p l e R s m args below meth c D cl A nL (Q) (cells) (slots) (pc) (lv) (.int x :: rest) (ws) := k x rfl
theorem jw_topl {x : Int64} (k : ∀ y : Int64, y = x → jw_J p l e R s m args below meth c D cl A nL (Q) (cells) (slots) (pc) (lv) (.long y :: rest) (ws)) : jw_J p l e R s m args below meth c D cl A nL (Q) (cells) (slots) (pc) (lv) (.long x :: rest) (ws) := k x rfl
theorem jw_at {st st' : List Value} (h1 : lv = lv') (h2 : st = st') (h3 : ws = ws') (k : jw_J p l e R s m args below meth c D cl A nL (Q) (cells) (slots) (pc) (lv') (st') (ws')) : jw_J p l e R s m args below meth c D cl A nL (Q) (cells) (slots) (pc) (lv) (st) (ws) := by subst h1; subst h2; subst h3; exact k
theorem jw_loc {st : List Value} (ks : List Nat) (h : lv_pick lv ks = lv') (k : jw_J p l e R s m args below meth c D cl A nL (Q) (cells) (slots) (pc) (lv') (st) (ws)) : jw_J p l e R s m args below meth c D cl A nL (Q) (cells) (slots) (pc) (lv) (st) (ws) := fun ls H locs hl hP hD hS => k ls H locs (lv_sub hl ks h) hP hD hS
theorem jw_widen {st : List Value} {k n : Nat} (h1 : cells ≤ k) (h2 : slots ≤ n) (kk : jw_J p l e R s m args below meth c D cl A nL (Q) (k) (n) (pc) (lv) (st) (ws)) : jw_J p l e R s m args below meth c D cl A nL (Q) (cells) (slots) (pc) (lv) (st) (ws) := fun ls H locs hl hP hD hS => W.widen h1 h2 (kk ls H locs hl hP hD hS)
theorem jw_get (F : jw_F p s m args meth c D cl tys A nL cc own Ts ret) {C : String} {T : u_T} {N ci index a : Nat} (hin : ∀ w ∈ u_ws C T N, w ∈ Ts) (q0 : Nat) {fs : List Value} (he : ws[q0]? = some (a, .inr (ci, fs))) (hc : cl[ci]? = some (C, T, N)) (k : Nat) (hk : k < N) (hw : Cond.fieldLink own index (T k).1 (T k).2.1 (T k).2.2.1 ∈ Ts) {v : Value} (hv : fs[k]? = some v) (d : decode cc pc = .ok (.getfield index, 3)) (kk : jw_J p l e R s m args below meth c D cl A nL (Q) (cells) (slots) (pc + 3) (lv) (v :: rest) (ws)) : jw_J p l e R s m args below meth c D cl A nL (Q) (cells) (slots) (pc) (lv) (.ref a :: rest) (ws) := fun ls H locs hl hP hD hS => va_get F.1.1 F.1.2.1 F.1.2.2.2.2 hin F.1.2.2.2.1 F.2.1 hP q0 he hc k hk (F.1.2.2.2.2 _ hw) (fun _ h9 => h9) hv d (kk ls H locs hl hP hD hS)
theorem jw_put (F : jw_F p s m args meth c D cl tys A nL cc own Ts ret) {C : String} {T : u_T} {N ci index a : Nat} (hin : ∀ w ∈ u_ws C T N, w ∈ Ts) (ty0 : Nat → FieldType) (hty : ∀ k, k < N → parseFieldDescriptor (T k).2.2.1 = some (ty0 k)) (hnm : ∀ a, a < N → ∀ b, b < N → a ≠ b → (T a).2.1 ≠ (T b).2.1) (q0 : Nat) {fs : List Value} (he : ws[q0]? = some (a, .inr (ci, fs))) (hc : cl[ci]? = some (C, T, N)) (k : Nat) (hk : k < N) (hw : Cond.fieldLink own index (T k).1 (T k).2.1 (T k).2.2.1 ∈ Ts) (hfin : (T k).2.2.2 = false)  {ty : FieldType} {v : Value} (hd : parseFieldDescriptor (T k).2.2.1 = some ty) (hn : narrow ty v = v) (hfit : fits ty v = true) (hlen : k < fs.length) (d : decode cc pc = .ok (.putfield index, 3)) (hs : ws.set q0 (a, .inr (ci, fs.set k v)) = ws') (kk : jw_J p l e R s m args below meth c D cl A nL (Q) (cells) (slots) (pc + 3) (lv) (rest) (ws')) : jw_J p l e R s m args below meth c D cl A nL (Q) (cells) (slots) (pc) (lv) (v :: .ref a :: rest) (ws) := fun ls H locs hl hP hD hS => va_put F.1.1 F.1.2.1 F.1.2.2.2.2 hin ty0 hty hnm F.1.2.2.2.1 F.2.1 hP hD hS q0 he hc k hk (F.1.2.2.2.2 _ hw) (fun _ h9 => h9) hfin  hd hn hfit hlen d (fun H1 locs1 hP1 hD1 hS1 => by rw [hs] at hP1 hD1; exact kk ls H1 locs1 hl hP1 hD1 hS1)
theorem jw_putF (F : jw_F p s m args meth c D cl tys A nL cc own Ts ret) {C : String} {T : u_T} {N ci index a : Nat} (hin : ∀ w ∈ u_ws C T N, w ∈ Ts) (ty0 : Nat → FieldType) (hty : ∀ k, k < N → parseFieldDescriptor (T k).2.2.1 = some (ty0 k)) (hnm : ∀ a, a < N → ∀ b, b < N → a ≠ b → (T a).2.1 ≠ (T b).2.1) (q0 : Nat) {fs : List Value} (he : ws[q0]? = some (a, .inr (ci, fs))) (hc : cl[ci]? = some (C, T, N)) (k : Nat) (hk : k < N) (hw : Cond.fieldLink own index (T k).1 (T k).2.1 (T k).2.2.1 ∈ Ts) (hfin : (T k).2.2.2 = true) (hin2 : meth.name = "<init>") (hdecl : (T k).1 = own) {ty : FieldType} {v : Value} (hd : parseFieldDescriptor (T k).2.2.1 = some ty) (hn : narrow ty v = v) (hfit : fits ty v = true) (hlen : k < fs.length) (d : decode cc pc = .ok (.putfield index, 3)) (hs : ws.set q0 (a, .inr (ci, fs.set k v)) = ws') (kk : jw_J p l e R s m args below meth c D cl A nL (Q) (cells) (slots) (pc + 3) (lv) (rest) (ws')) : jw_J p l e R s m args below meth c D cl A nL (Q) (cells) (slots) (pc) (lv) (v :: .ref a :: rest) (ws) := fun ls H locs hl hP hD hS => va_putF F.1.1 F.1.2.1 F.1.2.2.2.2 hin ty0 hty hnm F.1.2.2.2.1 F.2.1 hP hD hS q0 he hc k hk (F.1.2.2.2.2 _ hw) (fun _ h9 => h9) hfin hin2 hdecl hd hn hfit hlen d (fun H1 locs1 hP1 hD1 hS1 => by rw [hs] at hP1 hD1; exact kk ls H1 locs1 hl hP1 hD1 hS1)
theorem jw_iald (F : jw_F p s m args meth c D cl tys A nL cc own Ts ret) {a : Nat} (q0 t0 : Nat) {cA : ClassId} {n : Nat} {f : Nat → Int32} (ha : ws[q0]? = some (a, .inl (cA, n, .inl f))) (ht : tys[t0]? = some (cA, .int)) {i : Int32} (hin : vp_in i n) (d : decode cc pc = .ok (.iaload, 1)) (k : jw_J p l e R s m args below meth c D cl A nL (Q) (cells) (slots) (pc + 1) (lv) (.int (f i.toNatClampNeg) :: rest) (ws)) : jw_J p l e R s m args below meth c D cl A nL (Q) (cells) (slots) (pc) (lv) (.int i :: .ref a :: rest) (ws) := fun ls H locs hl hP hD hS => va_iald F.1.1 F.1.2.1 F.2.1 hP q0 t0 ha ht hin d (k ls H locs hl hP hD hS)
theorem jw_iast (F : jw_F p s m args meth c D cl tys A nL cc own Ts ret) {a : Nat} (q0 t0 : Nat) {cA : ClassId} {n : Nat} {f : Nat → Int32} (ha : ws[q0]? = some (a, .inl (cA, n, .inl f))) (ht : tys[t0]? = some (cA, .int)) {i : Int32} {x : Int32} (hin : vp_in i n) (d : decode cc pc = .ok (.iastore, 1)) (hs : ws.set q0 (a, .inl (cA, n, .inl (upd f i.toNatClampNeg x))) = ws') (k : jw_J p l e R s m args below meth c D cl A nL (Q) (cells) (slots) (pc + 1) (lv) (rest) (ws')) : jw_J p l e R s m args below meth c D cl A nL (Q) (cells) (slots) (pc) (lv) (.int x :: .int i :: .ref a :: rest) (ws) := fun ls H locs hl hP hD hS => va_iast F.1.1 F.1.2.1 F.2.1 hP hD hS q0 t0 ha ht hin d (fun H1 locs1 hP1 hD1 hS1 => by rw [hs] at hP1 hD1; exact k ls H1 locs1 hl hP1 hD1 hS1)
theorem jw_zald (F : jw_F p s m args meth c D cl tys A nL cc own Ts ret) {a : Nat} (q0 t0 : Nat) {cA : ClassId} {n : Nat} {f : Nat → Int32} (ha : ws[q0]? = some (a, .inl (cA, n, .inl f))) (ht : tys[t0]? = some (cA, .boolean)) {i : Int32} (hin : vp_in i n) (d : decode cc pc = .ok (.baload, 1)) (k : jw_J p l e R s m args below meth c D cl A nL (Q) (cells) (slots) (pc + 1) (lv) (.int (f i.toNatClampNeg) :: rest) (ws)) : jw_J p l e R s m args below meth c D cl A nL (Q) (cells) (slots) (pc) (lv) (.int i :: .ref a :: rest) (ws) := fun ls H locs hl hP hD hS => va_zald F.1.1 F.1.2.1 F.2.1 hP q0 t0 ha ht hin d (k ls H locs hl hP hD hS)
theorem jw_zast (F : jw_F p s m args meth c D cl tys A nL cc own Ts ret) {a : Nat} (q0 t0 : Nat) {cA : ClassId} {n : Nat} {f : Nat → Int32} (ha : ws[q0]? = some (a, .inl (cA, n, .inl f))) (ht : tys[t0]? = some (cA, .boolean)) {i : Int32} {x : Int32} (hin : vp_in i n) (d : decode cc pc = .ok (.bastore, 1)) (hs : ws.set q0 (a, .inl (cA, n, .inl (upd f i.toNatClampNeg (vp_nar .boolean x)))) = ws') (k : jw_J p l e R s m args below meth c D cl A nL (Q) (cells) (slots) (pc + 1) (lv) (rest) (ws')) : jw_J p l e R s m args below meth c D cl A nL (Q) (cells) (slots) (pc) (lv) (.int x :: .int i :: .ref a :: rest) (ws) := fun ls H locs hl hP hD hS => va_zast F.1.1 F.1.2.1 F.2.1 hP hD hS q0 t0 ha ht hin d (fun H1 locs1 hP1 hD1 hS1 => by rw [hs] at hP1 hD1; exact k ls H1 locs1 hl hP1 hD1 hS1)
theorem jw_lald (F : jw_F p s m args meth c D cl tys A nL cc own Ts ret) {a : Nat} (q0 t0 : Nat) {cA : ClassId} {n : Nat} {f : Nat → Int64} (ha : ws[q0]? = some (a, .inl (cA, n, .inr (.inl f)))) (ht : tys[t0]? = some (cA, .long)) {i : Int32} (hin : vp_in i n) (d : decode cc pc = .ok (.laload, 1)) (k : jw_J p l e R s m args below meth c D cl A nL (Q) (cells) (slots) (pc + 1) (lv) (.long (f i.toNatClampNeg) :: rest) (ws)) : jw_J p l e R s m args below meth c D cl A nL (Q) (cells) (slots) (pc) (lv) (.int i :: .ref a :: rest) (ws) := fun ls H locs hl hP hD hS => va_lald F.1.1 F.1.2.1 F.2.1 hP q0 t0 ha ht hin d (k ls H locs hl hP hD hS)
theorem jw_last (F : jw_F p s m args meth c D cl tys A nL cc own Ts ret) {a : Nat} (q0 t0 : Nat) {cA : ClassId} {n : Nat} {f : Nat → Int64} (ha : ws[q0]? = some (a, .inl (cA, n, .inr (.inl f)))) (ht : tys[t0]? = some (cA, .long)) {i : Int32} {x : Int64} (hin : vp_in i n) (d : decode cc pc = .ok (.lastore, 1)) (hs : ws.set q0 (a, .inl (cA, n, .inr (.inl (vp_updL f i.toNatClampNeg x)))) = ws') (k : jw_J p l e R s m args below meth c D cl A nL (Q) (cells) (slots) (pc + 1) (lv) (rest) (ws')) : jw_J p l e R s m args below meth c D cl A nL (Q) (cells) (slots) (pc) (lv) (.long x :: .int i :: .ref a :: rest) (ws) := fun ls H locs hl hP hD hS => va_last F.1.1 F.1.2.1 F.2.1 hP hD hS q0 t0 ha ht hin d (fun H1 locs1 hP1 hD1 hS1 => by rw [hs] at hP1 hD1; exact k ls H1 locs1 hl hP1 hD1 hS1)
theorem jw_ialdN (F : jw_F p s m args meth c D cl tys A nL cc own Ts ret) {a : Nat} (q0 t0 : Nat) {cA : ClassId} {n : Nat} {f : Nat → Int32} (ha : ws[q0]? = some (a, .inl (cA, n, .inl f))) (ht : tys[t0]? = some (cA, .int)) {i : Int32} (j : Nat) (hj : i = nI j) (hlt : j < n) (hn : n < 2147483648) (d : decode cc pc = .ok (.iaload, 1)) (k : jw_J p l e R s m args below meth c D cl A nL (Q) (cells) (slots) (pc + 1) (lv) (.int (f j) :: rest) (ws)) : jw_J p l e R s m args below meth c D cl A nL (Q) (cells) (slots) (pc) (lv) (.int i :: .ref a :: rest) (ws) := by
  subst hj
  refine jw_iald F q0 t0 ha ht (vp_in_nI hlt hn) d ?_
  rw [nI_clamp (Nat.lt_trans hlt hn)]
  exact k
theorem jw_iastN (F : jw_F p s m args meth c D cl tys A nL cc own Ts ret) {a : Nat} (q0 t0 : Nat) {cA : ClassId} {n : Nat} {f : Nat → Int32} (ha : ws[q0]? = some (a, .inl (cA, n, .inl f))) (ht : tys[t0]? = some (cA, .int)) {i : Int32} {x : Int32} (j : Nat) (hj : i = nI j) (hlt : j < n) (hn : n < 2147483648) (d : decode cc pc = .ok (.iastore, 1)) (hs : ws.set q0 (a, .inl (cA, n, .inl (upd f j x))) = ws') (k : jw_J p l e R s m args below meth c D cl A nL (Q) (cells) (slots) (pc + 1) (lv) (rest) (ws')) : jw_J p l e R s m args below meth c D cl A nL (Q) (cells) (slots) (pc) (lv) (.int x :: .int i :: .ref a :: rest) (ws) := by
  subst hj
  refine jw_iast F q0 t0 ha ht (vp_in_nI hlt hn) d ?_ k
  rw [nI_clamp (Nat.lt_trans hlt hn)]
  exact hs
theorem jw_zaldN (F : jw_F p s m args meth c D cl tys A nL cc own Ts ret) {a : Nat} (q0 t0 : Nat) {cA : ClassId} {n : Nat} {f : Nat → Int32} (ha : ws[q0]? = some (a, .inl (cA, n, .inl f))) (ht : tys[t0]? = some (cA, .boolean)) {i : Int32} (j : Nat) (hj : i = nI j) (hlt : j < n) (hn : n < 2147483648) (d : decode cc pc = .ok (.baload, 1)) (k : jw_J p l e R s m args below meth c D cl A nL (Q) (cells) (slots) (pc + 1) (lv) (.int (f j) :: rest) (ws)) : jw_J p l e R s m args below meth c D cl A nL (Q) (cells) (slots) (pc) (lv) (.int i :: .ref a :: rest) (ws) := by
  subst hj
  refine jw_zald F q0 t0 ha ht (vp_in_nI hlt hn) d ?_
  rw [nI_clamp (Nat.lt_trans hlt hn)]
  exact k
theorem jw_zastN (F : jw_F p s m args meth c D cl tys A nL cc own Ts ret) {a : Nat} (q0 t0 : Nat) {cA : ClassId} {n : Nat} {f : Nat → Int32} (ha : ws[q0]? = some (a, .inl (cA, n, .inl f))) (ht : tys[t0]? = some (cA, .boolean)) {i : Int32} {x : Int32} (j : Nat) (hj : i = nI j) (hlt : j < n) (hn : n < 2147483648) (d : decode cc pc = .ok (.bastore, 1)) (hs : ws.set q0 (a, .inl (cA, n, .inl (upd f j (vp_nar .boolean x)))) = ws') (k : jw_J p l e R s m args below meth c D cl A nL (Q) (cells) (slots) (pc + 1) (lv) (rest) (ws')) : jw_J p l e R s m args below meth c D cl A nL (Q) (cells) (slots) (pc) (lv) (.int x :: .int i :: .ref a :: rest) (ws) := by
  subst hj
  refine jw_zast F q0 t0 ha ht (vp_in_nI hlt hn) d ?_ k
  rw [nI_clamp (Nat.lt_trans hlt hn)]
  exact hs
theorem jw_laldN (F : jw_F p s m args meth c D cl tys A nL cc own Ts ret) {a : Nat} (q0 t0 : Nat) {cA : ClassId} {n : Nat} {f : Nat → Int64} (ha : ws[q0]? = some (a, .inl (cA, n, .inr (.inl f)))) (ht : tys[t0]? = some (cA, .long)) {i : Int32} (j : Nat) (hj : i = nI j) (hlt : j < n) (hn : n < 2147483648) (d : decode cc pc = .ok (.laload, 1)) (k : jw_J p l e R s m args below meth c D cl A nL (Q) (cells) (slots) (pc + 1) (lv) (.long (f j) :: rest) (ws)) : jw_J p l e R s m args below meth c D cl A nL (Q) (cells) (slots) (pc) (lv) (.int i :: .ref a :: rest) (ws) := by
  subst hj
  refine jw_lald F q0 t0 ha ht (vp_in_nI hlt hn) d ?_
  rw [nI_clamp (Nat.lt_trans hlt hn)]
  exact k
theorem jw_lastN (F : jw_F p s m args meth c D cl tys A nL cc own Ts ret) {a : Nat} (q0 t0 : Nat) {cA : ClassId} {n : Nat} {f : Nat → Int64} (ha : ws[q0]? = some (a, .inl (cA, n, .inr (.inl f)))) (ht : tys[t0]? = some (cA, .long)) {i : Int32} {x : Int64} (j : Nat) (hj : i = nI j) (hlt : j < n) (hn : n < 2147483648) (d : decode cc pc = .ok (.lastore, 1)) (hs : ws.set q0 (a, .inl (cA, n, .inr (.inl (vp_updL f j x)))) = ws') (k : jw_J p l e R s m args below meth c D cl A nL (Q) (cells) (slots) (pc + 1) (lv) (rest) (ws')) : jw_J p l e R s m args below meth c D cl A nL (Q) (cells) (slots) (pc) (lv) (.long x :: .int i :: .ref a :: rest) (ws) := by
  subst hj
  refine jw_last F q0 t0 ha ht (vp_in_nI hlt hn) d ?_ k
  rw [nI_clamp (Nat.lt_trans hlt hn)]
  exact hs
theorem jw_new (F : jw_F p s m args meth c D cl tys A nL cc own Ts ret) {C : String} {T : u_T} {N ci index : Nat} (hin : ∀ w ∈ u_ws C T N, w ∈ Ts) (ty : Nat → FieldType) (hty : ∀ k, k < N → parseFieldDescriptor (T k).2.2.1 = some (ty k)) (h1 : Cond.classLink own index C ∈ Ts) (h2 : Cond.instantiable C N ∈ Ts) (h3 : Cond.initialized C ∈ Ts) (hc : cl[ci]? = some (C, T, N)) {fs : List Value} (hfs : ∀ j, j < N → defaultValue (ty j) = vp_V fs j) (hcells : cells + 1 ≤ R.cells) (hslots : slots + N ≤ R.slots) (d : decode cc pc = .ok (.new index, 3)) (kk : ∀ q : Nat, jw_J p l e R s m args below meth c D cl A nL (Q) (cells + 1) (slots + N) (pc + 3) (lv) (.ref q :: rest) (ws ++ [(q, .inr (ci, fs))])) : jw_J p l e R s m args below meth c D cl A nL (Q) (cells) (slots) (pc) (lv) (rest) (ws) := fun ls H locs hl hP hD hS => va_new F.1.1 F.1.2.1 F.1.2.2.2.2 hin ty hty F.1.2.2.2.1 (F.1.2.2.2.2 _ h1) (F.1.2.2.2.2 _ h2) (F.1.2.2.2.2 _ h3) F.2.1 hP hD hS F.2.2.1 hc hfs hcells hslots d (fun q H1 hP1 hD1 hS1 => kk q ls H1 locs hl hP1 hD1 hS1)
theorem jw_RA {U : State} {c1 c2 : ClassId} {ty : FieldType} (hty : ∀ C, ty ≠ .object C) (h1 : va_RA U c1 ty) (h2 : va_RA U c2 ty) : c1 = c2 := by
  cases ty with
  | object C => exact absurd rfl (hty C)
  | _ => exact Option.some.inj (Eq.trans (Eq.symm h1) h2)
theorem jw_newa (F : jw_F p s m args meth c D cl tys A nL cc own Ts ret) {atype : ArrayType} (t0 : Nat) {cA : ClassId} {ty : FieldType} (ht : tys[t0]? = some (cA, ty)) (hno : ∀ C, ty ≠ .object C) (harr : Cond.arrayClass (newarray.typeOf atype) ∈ Ts) (hty : newarray.typeOf atype = ty) {n : Int32} {N' : Nat} {a0 : vp_A} (ha : ∀ cA : ClassId, vp_cell cA a0 = arrV cA N' (fun _ => defaultValue ty)) (hn : ¬ n < 0) (hN : n.toNatClampNeg = N') (hbytes : N' * componentBytes ty ≤ 536870912) (hcells : cells + 1 ≤ R.cells) (hslots : slots + N' ≤ R.slots) (d : decode cc pc = .ok (.newarray atype, 2)) (kk : ∀ q : Nat, jw_J p l e R s m args below meth c D cl A nL (Q) (cells + 1) (slots + N') (pc + 2) (lv) (.ref q :: rest) (ws ++ [(q, .inl (cA, a0))])) : jw_J p l e R s m args below meth c D cl A nL (Q) (cells) (slots) (pc) (lv) (.int n :: rest) (ws) := by
  intro ls H locs hl hP hD hS
  refine va_newa F.1.1 F.1.2.1 (F.1.2.2.2.2 _ harr) hty F.2.1 hP hD hS F.2.2.1 ha hn hN hbytes hcells hslots d (fun q cA' H1 hK1 hP1 hD1 hS1 => ?_)
  have e1 : cA' = cA := jw_RA hno (hK1.2 tys.length (cA', ty) (by simp)).2 (F.2.1.2 t0 _ ht).2
  subst e1
  exact kk q ls H1 locs hl hP1 hD1 hS1
theorem jw_objInit (F : jw_F p s m args meth c D cl tys A nL cc own Ts ret) {a idx : Nat} (h1 : Cond.methodLink own idx Lib.objectInit ∈ Ts) (h2 : Cond.instanceMethod Lib.objectInit ∈ Ts) (h3 : Cond.code Lib.objectInit ⟨#[0xb1]⟩ 1 none ∈ Ts) (d : decode cc pc = .ok (.invokespecial idx, 3)) (hfr : 1 ≤ R.frames) (hlo : (rest.map fun v => v.category).sum + 12 ≤ R.locals) (k : jw_J p l e R s m args below meth c D cl A nL (Q) (cells) (slots) (pc + 3) (lv) (rest) (ws)) : jw_J p l e R s m args below meth c D cl A nL (Q) (cells) (slots) (pc) (lv) (.ref a :: rest) (ws) := fun ls H locs hl hP hD hS => W.objInit F.1.1 F.1.2.1 F.1.2.2.2.1 (F.1.2.2.2.2 _ h1) (F.1.2.2.2.2 _ h2) (F.1.2.2.2.2 _ h3) rfl (by rw [F.1.2.2.1]; exact hl.1) rfl d hfr (by show 2 * 0 + _ + 12 ≤ _; omega) (k ls H locs hl hP hD hS)
theorem jw_mmax (F : jw_F p s m args meth c D cl tys A nL cc own Ts ret) {x y : Int32} {index : Nat} (h1 : Cond.methodLink own index Lib.Math.max.name ∈ Ts) (h2 : Cond.static Lib.Math.max.name ∈ Ts) (h3 : Cond.initialized "java/lang/Math" ∈ Ts) (h4 : Cond.code Lib.Math.max.name Lib.Math.max.code 2 (some .int) ∈ Ts) (hfr : 1 ≤ R.frames) (hlo : (rest.map fun v => v.category).sum + 13 ≤ R.locals) (hc : cells ≤ R.cells) (hs : slots ≤ R.slots) (d : decode cc pc = .ok (.invokestatic index, 3)) (k : jw_J p l e R s m args below meth c D cl A nL (Q) (cells) (slots) (pc + 3) (lv) (.int (if x < y then y else x) :: rest) (ws)) : jw_J p l e R s m args below meth c D cl A nL (Q) (cells) (slots) (pc) (lv) (.int y :: .int x :: rest) (ws) := fun ls H locs hl hP hD hS => va_mmax F.1.1 F.1.2.1 (by rw [F.1.2.2.1]; exact hl.1.symm) F.1.2.2.2.1 (F.1.2.2.2.2 _ h1) (F.1.2.2.2.2 _ h2) (F.1.2.2.2.2 _ h3) (F.1.2.2.2.2 _ h4) hfr hlo hc hs d (k ls H locs hl hP hD hS)
theorem jw_iret (F : jw_F p s m args meth c D cl tys A nL cc own Ts (some .int)) {post : Int32 → va_W → Prop} {r : Int32} (d : decode cc pc = .ok (.ireturn, 1)) (hp : post r ws) : jw_J p l e R s m args below meth c D cl A nL (MQ below (va_Qi post (jw_B D cl tys A) A) args s cells slots A) (cells) (slots) (pc) (lv) ([.int r]) (ws) := fun ls H locs hl hP hD hS => W.iret F.1.1 F.1.2.1 F.2.2.2.2 (fun t ht hW => ⟨⟨r, ws, rfl, hp, by rw [ht]; exact hP, va_K.moved hW.alike F.2.1, hD⟩, hS.F ht⟩) hS.2.2 d F.2.2.2.1
theorem jw_lret (F : jw_F p s m args meth c D cl tys A nL cc own Ts (some .long)) {post : Int64 → va_W → Prop} {r : Int64} (d : decode cc pc = .ok (.lreturn, 1)) (hp : post r ws) : jw_J p l e R s m args below meth c D cl A nL (MQ below (va_Ql post (jw_B D cl tys A) A) args s cells slots A) (cells) (slots) (pc) (lv) ([.long r]) (ws) := fun ls H locs hl hP hD hS => W.lret F.1.1 F.1.2.1 F.2.2.2.2 (fun t ht hW => ⟨⟨r, ws, rfl, hp, by rw [ht]; exact hP, va_K.moved hW.alike F.2.1, hD⟩, hS.F ht⟩) hS.2.2 d F.2.2.2.1
theorem jw_zret (F : jw_F p s m args meth c D cl tys A nL cc own Ts (some .boolean)) {post : Int32 → va_W → Prop} {r : Int32} (d : decode cc pc = .ok (.ireturn, 1)) (hn : narrow .boolean (.int r) = .int r) (hp : post r ws) : jw_J p l e R s m args below meth c D cl A nL (MQ below (va_Qi post (jw_B D cl tys A) A) args s cells slots A) (cells) (slots) (pc) (lv) ([.int r]) (ws) := fun ls H locs hl hP hD hS => W.zret F.1.1 F.1.2.1 F.2.2.2.2 hn (fun t ht hW => ⟨⟨r, ws, rfl, hp, by rw [ht]; exact hP, va_K.moved hW.alike F.2.1, hD⟩, hS.F ht⟩) hS.2.2 d F.2.2.2.1
theorem jw_vret (F : jw_F p s m args meth c D cl tys A nL cc own Ts none) {post : va_W → Prop} (d : decode cc pc = .ok (.return_, 1)) (hp : post ws) : jw_J p l e R s m args below meth c D cl A nL (MQ below (va_Qv post (jw_B D cl tys A) A) args s cells slots A) (cells) (slots) (pc) (lv) ([]) (ws) := fun ls H locs hl hP hD hS => W.vret F.1.1 F.1.2.1 F.2.2.2.2 (fun t ht hW => ⟨⟨ws, rfl, hp, by rw [ht]; exact hP, va_K.moved hW.alike F.2.1, hD⟩, hS.F ht⟩) hS.2.2 d F.2.2.2.1
theorem jw_ofi {y : MethodName} {ws0 : List Cond} {rm : Room} {av : List Value} {wc : va_W} {post : Int32 → va_W → Prop} (hy : plainName y.cls = true) (hw : Ts = Cond.code y cc nL ret :: ws0) (hlen : (lg_sl av).length ≤ nL)
    (body : ∀ (p : Program) (e : Env) (s : State) (m : MethodId) (args : Array Value) (below : List Frame) (meth : Method) (c : Code) (A : Nat → Prop), jw_F p s m args meth c D cl tys A nL cc y.cls Ts ret → meth.name = y.name → jw_J p l e rm s m args below meth c D cl A nL (MQ below (va_Qi post (jw_B D cl tys A) A) args s rm.cells rm.slots A) (0) (0) (0) (lv_args 0 av) ([]) (wc)) : jw_Mi l D cl tys y Ts rm av wc post := by
  intro sz
  refine Met.ofW (cc := cc) (maxL := nL) (ret := ret) hy hw ?_
  intro p e s m args below meth c s₁ B hml hv
  obtain ⟨rfl, hsz, hP, hK, hD0⟩ := hv
  subst hsz
  rw [lg_entry_eq]
  exact body p e s m _ below meth c (va_A wc s.heap.size) ⟨⟨B.exec, B.bytes, hml, findClass_of_methodNamed B.named, atoms_spec (ws := Ts) B.pre⟩, hK, fun q h => Or.inr h, B.notSynchronized, B.returns⟩ (name_of_methodNamed B.named B.method).1 _ s.heap [] (lv_entry av hlen) hP hD0.self va_S.rf
theorem jw_ofl {y : MethodName} {ws0 : List Cond} {rm : Room} {av : List Value} {wc : va_W} {post : Int64 → va_W → Prop} (hy : plainName y.cls = true) (hw : Ts = Cond.code y cc nL ret :: ws0) (hlen : (lg_sl av).length ≤ nL)
    (body : ∀ (p : Program) (e : Env) (s : State) (m : MethodId) (args : Array Value) (below : List Frame) (meth : Method) (c : Code) (A : Nat → Prop), jw_F p s m args meth c D cl tys A nL cc y.cls Ts ret → meth.name = y.name → jw_J p l e rm s m args below meth c D cl A nL (MQ below (va_Ql post (jw_B D cl tys A) A) args s rm.cells rm.slots A) (0) (0) (0) (lv_args 0 av) ([]) (wc)) : jw_Ml l D cl tys y Ts rm av wc post := by
  intro sz
  refine Met.ofW (cc := cc) (maxL := nL) (ret := ret) hy hw ?_
  intro p e s m args below meth c s₁ B hml hv
  obtain ⟨rfl, hsz, hP, hK, hD0⟩ := hv
  subst hsz
  rw [lg_entry_eq]
  exact body p e s m _ below meth c (va_A wc s.heap.size) ⟨⟨B.exec, B.bytes, hml, findClass_of_methodNamed B.named, atoms_spec (ws := Ts) B.pre⟩, hK, fun q h => Or.inr h, B.notSynchronized, B.returns⟩ (name_of_methodNamed B.named B.method).1 _ s.heap [] (lv_entry av hlen) hP hD0.self va_S.rf
theorem jw_ofv {y : MethodName} {ws0 : List Cond} {rm : Room} {av : List Value} {wc : va_W} {post : va_W → Prop} (hy : plainName y.cls = true) (hw : Ts = Cond.code y cc nL ret :: ws0) (hlen : (lg_sl av).length ≤ nL)
    (body : ∀ (p : Program) (e : Env) (s : State) (m : MethodId) (args : Array Value) (below : List Frame) (meth : Method) (c : Code) (A : Nat → Prop), jw_F p s m args meth c D cl tys A nL cc y.cls Ts ret → meth.name = y.name → jw_J p l e rm s m args below meth c D cl A nL (MQ below (va_Qv post (jw_B D cl tys A) A) args s rm.cells rm.slots A) (0) (0) (0) (lv_args 0 av) ([]) (wc)) : jw_Mv l D cl tys y Ts rm av wc post := by
  intro sz
  refine Met.ofW (cc := cc) (maxL := nL) (ret := ret) hy hw ?_
  intro p e s m args below meth c s₁ B hml hv
  obtain ⟨rfl, hsz, hP, hK, hD0⟩ := hv
  subst hsz
  rw [lg_entry_eq]
  exact body p e s m _ below meth c (va_A wc s.heap.size) ⟨⟨B.exec, B.bytes, hml, findClass_of_methodNamed B.named, atoms_spec (ws := Ts) B.pre⟩, hK, fun q h => Or.inr h, B.notSynchronized, B.returns⟩ (name_of_methodNamed B.named B.method).1 _ s.heap [] (lv_entry av hlen) hP hD0.self va_S.rf
end JW2
section JW3
variable {p : Program} {l : Launch} {e : Env} {R : Room} {s : State} {m : MethodId} {args : Array Value} {below : List Frame} {meth : Method} {c : Code} {Q : State → Prop} {cells slots : Nat}
variable {D : va_G} {cl : List vw_C} {tys : List (ClassId × FieldType)} {A : Nat → Prop} {nL : Nat} {cc : ByteArray} {own : String} {Ts : List Cond} {ret : Option FieldType}
variable {pc : Nat} {lv lv' : List (Nat × Value)} {rest : List Value} {ws ws' : va_W}
theorem jw_part {w0 wc w2 : va_W} {H : Heap} (hP : va_P D cl (w0 ++ wc ++ w2) H) : va_P D cl wc H := by
  rw [jw_P_iff] at hP ⊢
  exact fun q hq => hP q (by simp [hq])
theorem jw_partD {w0 wc w2 : va_W} (hD : va_D A (w0 ++ wc ++ w2)) : va_D A wc := by
  rw [jw_D_iff] at hD ⊢
  obtain ⟨hn, hA⟩ := hD
  rw [List.map_append, List.map_append, List.nodup_append] at hn
  exact ⟨(List.nodup_append.mp hn.1).2.1, fun q hq => hA q (by simp [hq])⟩
theorem jw_partF {wc : va_W} {H0 H : Heap} {locs : List Loc} (hD : va_D A wc) (hS : va_S A H0 H locs) (hA : ∀ q : Nat, H0.size ≤ q → A q) : ∀ q, va_A wc H.size q → A q := by
  intro q h
  rcases h with ⟨k, e, h⟩ | h
  · exact hD.2 k _ h
  · exact hA q (Nat.le_trans hS.1 h)
theorem jw_cwV {WL : List Cond} {c0 : Cond} {C : String} {index maxL n : Nat} {y : MethodName} {bytes : ByteArray} {ty : Option FieldType} {rm : Room} (hts : ∀ w ∈ c0 :: WL, w.before args s = true) (hg : ∀ w ∈ WL, goodWord w = true) (h1 : Cond.methodLink own index y ∈ WL) (h2 : Cond.instanceMethod y ∈ WL) (h3 : Cond.selects C y y ∈ WL) (h4 : Cond.initialized C ∈ WL) (h5 : Cond.code y bytes maxL ty ∈ WL)
    (hd : y.cls = C ∧ y.cls ≠ "java/lang/invoke/MethodHandle" ∧ y.cls ≠ "java/lang/invoke/VarHandle" ∧ (parseMethodDescriptor y.desc).map (fun d => d.parameters.length) = some n) (hR : rm.frames + 1 ≤ R.frames ∧ 8 + (maxL + 11) + rm.locals ≤ R.locals) : CallW R s args own C index y bytes maxL ty (Cond.code y bytes maxL ty :: WL) rm rm.cells rm.slots n := by
  refine cwV (Ts := c0 :: WL) n hts (fun w hw => ?_) rfl rfl rfl hd hR
  have hm : w ∈ WL := by
    unfold wsV at hw
    rcases List.mem_append.mp hw with h | h
    · simp only [List.mem_cons, List.not_mem_nil, or_false] at h
      rcases h with h | h | h | h <;> rw [h] <;> assumption
    · rcases List.mem_cons.mp h with h | h
      · rw [h]; exact h5
      · exact h
  exact ⟨List.mem_cons_of_mem _ hm, good_of_word (hg w hm)⟩
theorem jw_cwS {WL : List Cond} {c0 : Cond} {index maxL n : Nat} {y : MethodName} {bytes : ByteArray} {ty : Option FieldType} {rm : Room} (hts : ∀ w ∈ c0 :: WL, w.before args s = true) (hg : ∀ w ∈ WL, goodWord w = true) (h1 : Cond.methodLink own index y ∈ WL) (h2 : Cond.static y ∈ WL) (h4 : Cond.initialized own ∈ WL) (h5 : Cond.code y bytes maxL ty ∈ WL)
    (hd : y.cls = own ∧ y.cls ≠ "java/lang/invoke/MethodHandle" ∧ y.cls ≠ "java/lang/invoke/VarHandle" ∧ (parseMethodDescriptor y.desc).map (fun d => d.parameters.length) = some n) (hR : rm.frames + 1 ≤ R.frames ∧ 8 + (maxL + 11) + rm.locals ≤ R.locals) : CallB R s args own index y bytes maxL ty (Cond.code y bytes maxL ty :: WL) rm rm.cells rm.slots n ∧ (Cond.static y).before args s = true := by
  refine cwS (Ts := c0 :: WL) n hts (fun w hw => ?_) rfl rfl rfl hd hR
  have hm : w ∈ WL := by
    unfold wsS at hw
    rcases List.mem_append.mp hw with h | h
    · simp only [List.mem_cons, List.not_mem_nil, or_false] at h
      rcases h with h | h | h <;> rw [h] <;> assumption
    · rcases List.mem_cons.mp h with h | h
      · rw [h]; exact h5
      · exact h
  exact ⟨List.mem_cons_of_mem _ hm, good_of_word (hg w hm)⟩
theorem jw_callV_i (F : jw_F p s m args meth c D cl tys A nL cc own Ts ret) {y : MethodName} {bytes : ByteArray} {maxL n index : Nat} {ty : Option FieldType} {Ts2 : List Cond} {rm : Room} {C : String} {b : Nat} {As st0 : List Value} {wc : va_W} {post : Int32 → va_W → Prop} (w0 w2 : va_W) (hM : jw_Mi l D cl tys y Ts2 rm (.ref b :: As) wc post) (cw : CallW R s args own C index y bytes maxL ty Ts2 rm rm.cells rm.slots n) (q0 ci : Nat) {fs : List Value} {q : vw_C} (hc : cl[ci]? = some q) (hq : q.1 = C) (he : wc[q0]? = some (b, .inr (ci, fs))) (hws : ws = w0 ++ wc ++ w2) (hst : st0 = As.reverse ++ .ref b :: rest) (hn : As.length = n) (hr : (rest.map fun v => v.category).sum ≤ 8) (d : decode cc pc = .ok (.invokevirtual index, 3)) (hf : cells + rm.cells ≤ R.cells ∧ slots + rm.slots ≤ R.slots) (kk : ∀ (r : Int32) (w : va_W), post r w → jw_J p l e R s m args below meth c D cl A nL (Q) (cells + rm.cells) (slots + rm.slots) (pc + 3) (lv) (.int r :: rest) (w0 ++ w ++ w2)) : jw_J p l e R s m args below meth c D cl A nL (Q) (cells) (slots) (pc) (lv) (st0) (ws) := by
  subst hws; subst hst
  intro ls H locs hl hP hD hS
  have hPc := jw_part hP
  have hDc := jw_partD hD
  have hFc := jw_partF hDc hS F.2.2.1
  have hrecv : ∃ cellB : Cell, H[b]? = some cellB ∧ cellB.vm.isStatics = false ∧ s.vm.findClass C = some cellB.cls := by rw [← hq]; exact va_recv F.2.1 hPc hc he
  refine va_calli (va_runV (C := C) (b := b) (As := As) (rest := rest) F.1 (hM H.size) cw ⟨jw_Pc_blind, hrecv, fun U hU hW => ⟨rfl, by rw [hU], by rw [hU]; exact hPc, va_K.moved hW.alike F.2.1, hDc.weaken (fun _ _ _ _ => trivial)⟩⟩ rfl hn hl.1 rfl (lv_room hr) d hf) hS (fun x _ h => hFc x h) hFc (fun r w t H1 locs1 ht hvm hp hB hz hk hS1 => ?_)
  obtain ⟨hP1, hK1, hD1⟩ := hB
  rw [ht] at hP1
  obtain ⟨hP2, hD2⟩ := jw_join hP hD hk hFc hP1 hD1
  exact kk r w hp ls H1 locs1 hl hP2 hD2 hS1
theorem jw_callS_i (F : jw_F p s m args meth c D cl tys A nL cc own Ts ret) {y : MethodName} {bytes : ByteArray} {maxL n index : Nat} {ty : Option FieldType} {Ts2 : List Cond} {rm : Room} {As st0 : List Value} {wc : va_W} {post : Int32 → va_W → Prop} (w0 w2 : va_W) (hM : jw_Mi l D cl tys y Ts2 rm (As) wc post) (cw : CallB R s args own index y bytes maxL ty Ts2 rm rm.cells rm.slots n ∧ (Cond.static y).before args s = true) (hws : ws = w0 ++ wc ++ w2) (hst : st0 = As.reverse ++ rest) (hn : As.length = n) (hr : (rest.map fun v => v.category).sum ≤ 8) (d : decode cc pc = .ok (.invokestatic index, 3)) (hf : cells + rm.cells ≤ R.cells ∧ slots + rm.slots ≤ R.slots) (kk : ∀ (r : Int32) (w : va_W), post r w → jw_J p l e R s m args below meth c D cl A nL (Q) (cells + rm.cells) (slots + rm.slots) (pc + 3) (lv) (.int r :: rest) (w0 ++ w ++ w2)) : jw_J p l e R s m args below meth c D cl A nL (Q) (cells) (slots) (pc) (lv) (st0) (ws) := by
  subst hws; subst hst
  intro ls H locs hl hP hD hS
  have hPc := jw_part hP
  have hDc := jw_partD hD
  have hFc := jw_partF hDc hS F.2.2.1
  refine va_calli (va_runS (As := As) (rest := rest) F.1 (hM H.size) cw ⟨jw_Pc_blind, fun U hU hW => ⟨rfl, by rw [hU], by rw [hU]; exact hPc, va_K.moved hW.alike F.2.1, hDc.weaken (fun _ _ _ _ => trivial)⟩⟩ rfl hn hl.1 rfl (lv_room hr) d hf) hS (fun x _ h => hFc x h) hFc (fun r w t H1 locs1 ht hvm hp hB hz hk hS1 => ?_)
  obtain ⟨hP1, hK1, hD1⟩ := hB
  rw [ht] at hP1
  obtain ⟨hP2, hD2⟩ := jw_join hP hD hk hFc hP1 hD1
  exact kk r w hp ls H1 locs1 hl hP2 hD2 hS1
theorem jw_callV_l (F : jw_F p s m args meth c D cl tys A nL cc own Ts ret) {y : MethodName} {bytes : ByteArray} {maxL n index : Nat} {ty : Option FieldType} {Ts2 : List Cond} {rm : Room} {C : String} {b : Nat} {As st0 : List Value} {wc : va_W} {post : Int64 → va_W → Prop} (w0 w2 : va_W) (hM : jw_Ml l D cl tys y Ts2 rm (.ref b :: As) wc post) (cw : CallW R s args own C index y bytes maxL ty Ts2 rm rm.cells rm.slots n) (q0 ci : Nat) {fs : List Value} {q : vw_C} (hc : cl[ci]? = some q) (hq : q.1 = C) (he : wc[q0]? = some (b, .inr (ci, fs))) (hws : ws = w0 ++ wc ++ w2) (hst : st0 = As.reverse ++ .ref b :: rest) (hn : As.length = n) (hr : (rest.map fun v => v.category).sum ≤ 8) (d : decode cc pc = .ok (.invokevirtual index, 3)) (hf : cells + rm.cells ≤ R.cells ∧ slots + rm.slots ≤ R.slots) (kk : ∀ (r : Int64) (w : va_W), post r w → jw_J p l e R s m args below meth c D cl A nL (Q) (cells + rm.cells) (slots + rm.slots) (pc + 3) (lv) (.long r :: rest) (w0 ++ w ++ w2)) : jw_J p l e R s m args below meth c D cl A nL (Q) (cells) (slots) (pc) (lv) (st0) (ws) := by
  subst hws; subst hst
  intro ls H locs hl hP hD hS
  have hPc := jw_part hP
  have hDc := jw_partD hD
  have hFc := jw_partF hDc hS F.2.2.1
  have hrecv : ∃ cellB : Cell, H[b]? = some cellB ∧ cellB.vm.isStatics = false ∧ s.vm.findClass C = some cellB.cls := by rw [← hq]; exact va_recv F.2.1 hPc hc he
  refine va_calll (va_runV (C := C) (b := b) (As := As) (rest := rest) F.1 (hM H.size) cw ⟨jw_Pc_blind, hrecv, fun U hU hW => ⟨rfl, by rw [hU], by rw [hU]; exact hPc, va_K.moved hW.alike F.2.1, hDc.weaken (fun _ _ _ _ => trivial)⟩⟩ rfl hn hl.1 rfl (lv_room hr) d hf) hS (fun x _ h => hFc x h) hFc (fun r w t H1 locs1 ht hvm hp hB hz hk hS1 => ?_)
  obtain ⟨hP1, hK1, hD1⟩ := hB
  rw [ht] at hP1
  obtain ⟨hP2, hD2⟩ := jw_join hP hD hk hFc hP1 hD1
  exact kk r w hp ls H1 locs1 hl hP2 hD2 hS1
theorem jw_callS_l (F : jw_F p s m args meth c D cl tys A nL cc own Ts ret) {y : MethodName} {bytes : ByteArray} {maxL n index : Nat} {ty : Option FieldType} {Ts2 : List Cond} {rm : Room} {As st0 : List Value} {wc : va_W} {post : Int64 → va_W → Prop} (w0 w2 : va_W) (hM : jw_Ml l D cl tys y Ts2 rm (As) wc post) (cw : CallB R s args own index y bytes maxL ty Ts2 rm rm.cells rm.slots n ∧ (Cond.static y).before args s = true) (hws : ws = w0 ++ wc ++ w2) (hst : st0 = As.reverse ++ rest) (hn : As.length = n) (hr : (rest.map fun v => v.category).sum ≤ 8) (d : decode cc pc = .ok (.invokestatic index, 3)) (hf : cells + rm.cells ≤ R.cells ∧ slots + rm.slots ≤ R.slots) (kk : ∀ (r : Int64) (w : va_W), post r w → jw_J p l e R s m args below meth c D cl A nL (Q) (cells + rm.cells) (slots + rm.slots) (pc + 3) (lv) (.long r :: rest) (w0 ++ w ++ w2)) : jw_J p l e R s m args below meth c D cl A nL (Q) (cells) (slots) (pc) (lv) (st0) (ws) := by
  subst hws; subst hst
  intro ls H locs hl hP hD hS
  have hPc := jw_part hP
  have hDc := jw_partD hD
  have hFc := jw_partF hDc hS F.2.2.1
  refine va_calll (va_runS (As := As) (rest := rest) F.1 (hM H.size) cw ⟨jw_Pc_blind, fun U hU hW => ⟨rfl, by rw [hU], by rw [hU]; exact hPc, va_K.moved hW.alike F.2.1, hDc.weaken (fun _ _ _ _ => trivial)⟩⟩ rfl hn hl.1 rfl (lv_room hr) d hf) hS (fun x _ h => hFc x h) hFc (fun r w t H1 locs1 ht hvm hp hB hz hk hS1 => ?_)
  obtain ⟨hP1, hK1, hD1⟩ := hB
  rw [ht] at hP1
  obtain ⟨hP2, hD2⟩ := jw_join hP hD hk hFc hP1 hD1
  exact kk r w hp ls H1 locs1 hl hP2 hD2 hS1
theorem jw_callV_v (F : jw_F p s m args meth c D cl tys A nL cc own Ts ret) {y : MethodName} {bytes : ByteArray} {maxL n index : Nat} {ty : Option FieldType} {Ts2 : List Cond} {rm : Room} {C : String} {b : Nat} {As st0 : List Value} {wc : va_W} {post : va_W → Prop} (w0 w2 : va_W) (hM : jw_Mv l D cl tys y Ts2 rm (.ref b :: As) wc post) (cw : CallW R s args own C index y bytes maxL ty Ts2 rm rm.cells rm.slots n) (q0 ci : Nat) {fs : List Value} {q : vw_C} (hc : cl[ci]? = some q) (hq : q.1 = C) (he : wc[q0]? = some (b, .inr (ci, fs))) (hws : ws = w0 ++ wc ++ w2) (hst : st0 = As.reverse ++ .ref b :: rest) (hn : As.length = n) (hr : (rest.map fun v => v.category).sum ≤ 8) (d : decode cc pc = .ok (.invokevirtual index, 3)) (hf : cells + rm.cells ≤ R.cells ∧ slots + rm.slots ≤ R.slots) (kk : ∀ (w : va_W), post w → jw_J p l e R s m args below meth c D cl A nL (Q) (cells + rm.cells) (slots + rm.slots) (pc + 3) (lv) (rest) (w0 ++ w ++ w2)) : jw_J p l e R s m args below meth c D cl A nL (Q) (cells) (slots) (pc) (lv) (st0) (ws) := by
  subst hws; subst hst
  intro ls H locs hl hP hD hS
  have hPc := jw_part hP
  have hDc := jw_partD hD
  have hFc := jw_partF hDc hS F.2.2.1
  have hrecv : ∃ cellB : Cell, H[b]? = some cellB ∧ cellB.vm.isStatics = false ∧ s.vm.findClass C = some cellB.cls := by rw [← hq]; exact va_recv F.2.1 hPc hc he
  refine va_callv (va_runV (C := C) (b := b) (As := As) (rest := rest) F.1 (hM H.size) cw ⟨jw_Pc_blind, hrecv, fun U hU hW => ⟨rfl, by rw [hU], by rw [hU]; exact hPc, va_K.moved hW.alike F.2.1, hDc.weaken (fun _ _ _ _ => trivial)⟩⟩ rfl hn hl.1 rfl (lv_room hr) d hf) hS (fun x _ h => hFc x h) hFc (fun w t H1 locs1 ht hvm hp hB hz hk hS1 => ?_)
  obtain ⟨hP1, hK1, hD1⟩ := hB
  rw [ht] at hP1
  obtain ⟨hP2, hD2⟩ := jw_join hP hD hk hFc hP1 hD1
  exact kk w hp ls H1 locs1 hl hP2 hD2 hS1
theorem jw_callS_v (F : jw_F p s m args meth c D cl tys A nL cc own Ts ret) {y : MethodName} {bytes : ByteArray} {maxL n index : Nat} {ty : Option FieldType} {Ts2 : List Cond} {rm : Room} {As st0 : List Value} {wc : va_W} {post : va_W → Prop} (w0 w2 : va_W) (hM : jw_Mv l D cl tys y Ts2 rm (As) wc post) (cw : CallB R s args own index y bytes maxL ty Ts2 rm rm.cells rm.slots n ∧ (Cond.static y).before args s = true) (hws : ws = w0 ++ wc ++ w2) (hst : st0 = As.reverse ++ rest) (hn : As.length = n) (hr : (rest.map fun v => v.category).sum ≤ 8) (d : decode cc pc = .ok (.invokestatic index, 3)) (hf : cells + rm.cells ≤ R.cells ∧ slots + rm.slots ≤ R.slots) (kk : ∀ (w : va_W), post w → jw_J p l e R s m args below meth c D cl A nL (Q) (cells + rm.cells) (slots + rm.slots) (pc + 3) (lv) (rest) (w0 ++ w ++ w2)) : jw_J p l e R s m args below meth c D cl A nL (Q) (cells) (slots) (pc) (lv) (st0) (ws) := by
  subst hws; subst hst
  intro ls H locs hl hP hD hS
  have hPc := jw_part hP
  have hDc := jw_partD hD
  have hFc := jw_partF hDc hS F.2.2.1
  refine va_callv (va_runS (As := As) (rest := rest) F.1 (hM H.size) cw ⟨jw_Pc_blind, fun U hU hW => ⟨rfl, by rw [hU], by rw [hU]; exact hPc, va_K.moved hW.alike F.2.1, hDc.weaken (fun _ _ _ _ => trivial)⟩⟩ rfl hn hl.1 rfl (lv_room hr) d hf) hS (fun x _ h => hFc x h) hFc (fun w t H1 locs1 ht hvm hp hB hz hk hS1 => ?_)
  obtain ⟨hP1, hK1, hD1⟩ := hB
  rw [ht] at hP1
  obtain ⟨hP2, hD2⟩ := jw_join hP hD hk hFc hP1 hD1
  exact kk w hp ls H1 locs1 hl hP2 hD2 hS1
theorem jw_callI_v (F : jw_F p s m args meth c D cl tys A nL cc own Ts ret) {y : MethodName} {bytes : ByteArray} {maxL n index : Nat} {Ts2 : List Cond} {rm : Room} {b : Nat} {As st0 : List Value} {wc : va_W} {post : va_W → Prop} (w0 w2 : va_W) (hM : jw_Mv l D cl tys y Ts2 rm (.ref b :: As) wc post) (cw : CallB R s args own index y bytes maxL none Ts2 rm rm.cells rm.slots n ∧ y.name = "<init>" ∧ (Cond.instanceMethod y).before args s = true) (hws : ws = w0 ++ wc ++ w2) (hst : st0 = As.reverse ++ .ref b :: rest) (hn : As.length = n) (hr : (rest.map fun v => v.category).sum ≤ 8) (d : decode cc pc = .ok (.invokespecial index, 3)) (hf : cells + rm.cells ≤ R.cells ∧ slots + rm.slots ≤ R.slots) (kk : ∀ (w : va_W), post w → jw_J p l e R s m args below meth c D cl A nL (Q) (cells + rm.cells) (slots + rm.slots) (pc + 3) (lv) (rest) (w0 ++ w ++ w2)) : jw_J p l e R s m args below meth c D cl A nL (Q) (cells) (slots) (pc) (lv) (st0) (ws) := by
  subst hws; subst hst
  intro ls H locs hl hP hD hS
  have hPc := jw_part hP
  have hDc := jw_partD hD
  have hFc := jw_partF hDc hS F.2.2.1
  refine va_callv (va_runI (b := b) (As := As) (rest := rest) F.1 (hM H.size) cw ⟨jw_Pc_blind, fun U hU hW => ⟨rfl, by rw [hU], by rw [hU]; exact hPc, va_K.moved hW.alike F.2.1, hDc.weaken (fun _ _ _ _ => trivial)⟩⟩ rfl hn hl.1 rfl (lv_room hr) d hf) hS (fun x _ h => hFc x h) hFc (fun w t H1 locs1 ht hvm hp hB hz hk hS1 => ?_)
  obtain ⟨hP1, hK1, hD1⟩ := hB
  rw [ht] at hP1
  obtain ⟨hP2, hD2⟩ := jw_join hP hD hk hFc hP1 hD1
  exact kk w hp ls H1 locs1 hl hP2 hD2 hS1
theorem jw_callV_Ei (F : jw_F p s m args meth c D cl tys A nL cc own Ts ret) {y : MethodName} {bytes : ByteArray} {maxL n index : Nat} {ty : Option FieldType} {Ts2 : List Cond} {rm : Room} {C : String} {b : Nat} {As st0 : List Value} {wc : va_W} {v : Int32} (w0 w2 : va_W) (hM : jw_Ei l D cl tys y Ts2 rm (.ref b :: As) wc v) (cw : CallW R s args own C index y bytes maxL ty Ts2 rm rm.cells rm.slots n) (q0 ci : Nat) {fs : List Value} {q : vw_C} (hc : cl[ci]? = some q) (hq : q.1 = C) (he : wc[q0]? = some (b, .inr (ci, fs))) (hws : ws = w0 ++ wc ++ w2) (hst : st0 = As.reverse ++ .ref b :: rest) (hn : As.length = n) (hr : (rest.map fun v => v.category).sum ≤ 8) (d : decode cc pc = .ok (.invokevirtual index, 3)) (h0 : rm.cells = 0 ∧ rm.slots = 0) (hf : cells ≤ R.cells ∧ slots ≤ R.slots) (kk : jw_J p l e R s m args below meth c D cl A nL (Q) (cells) (slots) (pc + 3) (lv) (.int v :: rest) (ws)) : jw_J p l e R s m args below meth c D cl A nL (Q) (cells) (slots) (pc) (lv) (st0) (ws) := by
  refine jw_callV_i F w0 w2 hM cw q0 ci hc hq he hws hst hn hr d ⟨by rw [h0.1]; exact hf.1, by rw [h0.2]; exact hf.2⟩ (fun r w hw => ?_)
  obtain ⟨rfl, rfl⟩ := hw
  rw [h0.1, h0.2, ← hws]
  exact kk
theorem jw_callS_Ei (F : jw_F p s m args meth c D cl tys A nL cc own Ts ret) {y : MethodName} {bytes : ByteArray} {maxL n index : Nat} {ty : Option FieldType} {Ts2 : List Cond} {rm : Room} {As st0 : List Value} {v : Int32} (hM : jw_Ei l D cl tys y Ts2 rm As [] v) (cw : CallB R s args own index y bytes maxL ty Ts2 rm rm.cells rm.slots n ∧ (Cond.static y).before args s = true) (hst : st0 = As.reverse ++ rest) (hn : As.length = n) (hr : (rest.map fun v => v.category).sum ≤ 8) (d : decode cc pc = .ok (.invokestatic index, 3)) (h0 : rm.cells = 0 ∧ rm.slots = 0) (hf : cells ≤ R.cells ∧ slots ≤ R.slots) (kk : jw_J p l e R s m args below meth c D cl A nL (Q) (cells) (slots) (pc + 3) (lv) (.int v :: rest) (ws)) : jw_J p l e R s m args below meth c D cl A nL (Q) (cells) (slots) (pc) (lv) (st0) (ws) := by
  refine jw_callS_i F ws [] hM cw (by simp) hst hn hr d ⟨by rw [h0.1]; exact hf.1, by rw [h0.2]; exact hf.2⟩ (fun r w hw => ?_)
  obtain ⟨rfl, rfl⟩ := hw
  rw [h0.1, h0.2, List.append_nil, List.append_nil]
  exact kk
theorem jw_callV_Ci (F : jw_F p s m args meth c D cl tys A nL cc own Ts ret) {y : MethodName} {bytes : ByteArray} {maxL n index : Nat} {ty : Option FieldType} {Ts2 : List Cond} {rm : Room} {C : String} {b : Nat} {As st0 : List Value} {wc : va_W} {post : Int32 → va_W → Prop} (hM : jw_Mi l D cl tys y Ts2 rm (.ref b :: As) wc post) (cw : CallW R s args own C index y bytes maxL ty Ts2 rm rm.cells rm.slots n) (q0 ci : Nat) {fs : List Value} {q : vw_C} (hc : cl[ci]? = some q) (hq : q.1 = C) (he : wc[q0]? = some (b, .inr (ci, fs))) (hws : ws = wc) (hst : st0 = As.reverse ++ .ref b :: rest) (hn : As.length = n) (hr : (rest.map fun v => v.category).sum ≤ 8) (d : decode cc pc = .ok (.invokevirtual index, 3)) (h0 : rm.cells = 0 ∧ rm.slots = 0) (hf : cells ≤ R.cells ∧ slots ≤ R.slots) (kk : ∀ (r : Int32) (w : va_W), post r w → jw_J p l e R s m args below meth c D cl A nL (Q) (cells) (slots) (pc + 3) (lv) (.int r :: rest) (w)) : jw_J p l e R s m args below meth c D cl A nL (Q) (cells) (slots) (pc) (lv) (st0) (ws) := by
  subst hws
  refine jw_callV_i F [] [] hM cw q0 ci hc hq he (by simp) hst hn hr d ⟨by rw [h0.1]; exact hf.1, by rw [h0.2]; exact hf.2⟩ (fun r w hw => ?_)
  have h9 := kk r w hw
  rw [h0.1, h0.2, List.append_nil, List.nil_append]
  exact h9
theorem jw_callV_El (F : jw_F p s m args meth c D cl tys A nL cc own Ts ret) {y : MethodName} {bytes : ByteArray} {maxL n index : Nat} {ty : Option FieldType} {Ts2 : List Cond} {rm : Room} {C : String} {b : Nat} {As st0 : List Value} {wc : va_W} {v : Int64} (w0 w2 : va_W) (hM : jw_El l D cl tys y Ts2 rm (.ref b :: As) wc v) (cw : CallW R s args own C index y bytes maxL ty Ts2 rm rm.cells rm.slots n) (q0 ci : Nat) {fs : List Value} {q : vw_C} (hc : cl[ci]? = some q) (hq : q.1 = C) (he : wc[q0]? = some (b, .inr (ci, fs))) (hws : ws = w0 ++ wc ++ w2) (hst : st0 = As.reverse ++ .ref b :: rest) (hn : As.length = n) (hr : (rest.map fun v => v.category).sum ≤ 8) (d : decode cc pc = .ok (.invokevirtual index, 3)) (h0 : rm.cells = 0 ∧ rm.slots = 0) (hf : cells ≤ R.cells ∧ slots ≤ R.slots) (kk : jw_J p l e R s m args below meth c D cl A nL (Q) (cells) (slots) (pc + 3) (lv) (.long v :: rest) (ws)) : jw_J p l e R s m args below meth c D cl A nL (Q) (cells) (slots) (pc) (lv) (st0) (ws) := by
  refine jw_callV_l F w0 w2 hM cw q0 ci hc hq he hws hst hn hr d ⟨by rw [h0.1]; exact hf.1, by rw [h0.2]; exact hf.2⟩ (fun r w hw => ?_)
  obtain ⟨rfl, rfl⟩ := hw
  rw [h0.1, h0.2, ← hws]
  exact kk
theorem jw_callS_El (F : jw_F p s m args meth c D cl tys A nL cc own Ts ret) {y : MethodName} {bytes : ByteArray} {maxL n index : Nat} {ty : Option FieldType} {Ts2 : List Cond} {rm : Room} {As st0 : List Value} {v : Int64} (hM : jw_El l D cl tys y Ts2 rm As [] v) (cw : CallB R s args own index y bytes maxL ty Ts2 rm rm.cells rm.slots n ∧ (Cond.static y).before args s = true) (hst : st0 = As.reverse ++ rest) (hn : As.length = n) (hr : (rest.map fun v => v.category).sum ≤ 8) (d : decode cc pc = .ok (.invokestatic index, 3)) (h0 : rm.cells = 0 ∧ rm.slots = 0) (hf : cells ≤ R.cells ∧ slots ≤ R.slots) (kk : jw_J p l e R s m args below meth c D cl A nL (Q) (cells) (slots) (pc + 3) (lv) (.long v :: rest) (ws)) : jw_J p l e R s m args below meth c D cl A nL (Q) (cells) (slots) (pc) (lv) (st0) (ws) := by
  refine jw_callS_l F ws [] hM cw (by simp) hst hn hr d ⟨by rw [h0.1]; exact hf.1, by rw [h0.2]; exact hf.2⟩ (fun r w hw => ?_)
  obtain ⟨rfl, rfl⟩ := hw
  rw [h0.1, h0.2, List.append_nil, List.append_nil]
  exact kk
theorem jw_callV_Cl (F : jw_F p s m args meth c D cl tys A nL cc own Ts ret) {y : MethodName} {bytes : ByteArray} {maxL n index : Nat} {ty : Option FieldType} {Ts2 : List Cond} {rm : Room} {C : String} {b : Nat} {As st0 : List Value} {wc : va_W} {post : Int64 → va_W → Prop} (hM : jw_Ml l D cl tys y Ts2 rm (.ref b :: As) wc post) (cw : CallW R s args own C index y bytes maxL ty Ts2 rm rm.cells rm.slots n) (q0 ci : Nat) {fs : List Value} {q : vw_C} (hc : cl[ci]? = some q) (hq : q.1 = C) (he : wc[q0]? = some (b, .inr (ci, fs))) (hws : ws = wc) (hst : st0 = As.reverse ++ .ref b :: rest) (hn : As.length = n) (hr : (rest.map fun v => v.category).sum ≤ 8) (d : decode cc pc = .ok (.invokevirtual index, 3)) (h0 : rm.cells = 0 ∧ rm.slots = 0) (hf : cells ≤ R.cells ∧ slots ≤ R.slots) (kk : ∀ (r : Int64) (w : va_W), post r w → jw_J p l e R s m args below meth c D cl A nL (Q) (cells) (slots) (pc + 3) (lv) (.long r :: rest) (w)) : jw_J p l e R s m args below meth c D cl A nL (Q) (cells) (slots) (pc) (lv) (st0) (ws) := by
  subst hws
  refine jw_callV_l F [] [] hM cw q0 ci hc hq he (by simp) hst hn hr d ⟨by rw [h0.1]; exact hf.1, by rw [h0.2]; exact hf.2⟩ (fun r w hw => ?_)
  have h9 := kk r w hw
  rw [h0.1, h0.2, List.append_nil, List.nil_append]
  exact h9
theorem jw_callV_Ev (F : jw_F p s m args meth c D cl tys A nL cc own Ts ret) {y : MethodName} {bytes : ByteArray} {maxL n index : Nat} {ty : Option FieldType} {Ts2 : List Cond} {rm : Room} {C : String} {b : Nat} {As st0 : List Value} {wc : va_W} (w0 w2 : va_W) (hM : jw_Ev l D cl tys y Ts2 rm (.ref b :: As) wc) (cw : CallW R s args own C index y bytes maxL ty Ts2 rm rm.cells rm.slots n) (q0 ci : Nat) {fs : List Value} {q : vw_C} (hc : cl[ci]? = some q) (hq : q.1 = C) (he : wc[q0]? = some (b, .inr (ci, fs))) (hws : ws = w0 ++ wc ++ w2) (hst : st0 = As.reverse ++ .ref b :: rest) (hn : As.length = n) (hr : (rest.map fun v => v.category).sum ≤ 8) (d : decode cc pc = .ok (.invokevirtual index, 3)) (h0 : rm.cells = 0 ∧ rm.slots = 0) (hf : cells ≤ R.cells ∧ slots ≤ R.slots) (kk : jw_J p l e R s m args below meth c D cl A nL (Q) (cells) (slots) (pc + 3) (lv) (rest) (ws)) : jw_J p l e R s m args below meth c D cl A nL (Q) (cells) (slots) (pc) (lv) (st0) (ws) := by
  refine jw_callV_v F w0 w2 hM cw q0 ci hc hq he hws hst hn hr d ⟨by rw [h0.1]; exact hf.1, by rw [h0.2]; exact hf.2⟩ (fun w hw => ?_)
  obtain rfl := hw
  rw [h0.1, h0.2, ← hws]
  exact kk
theorem jw_callS_Ev (F : jw_F p s m args meth c D cl tys A nL cc own Ts ret) {y : MethodName} {bytes : ByteArray} {maxL n index : Nat} {ty : Option FieldType} {Ts2 : List Cond} {rm : Room} {As st0 : List Value} (hM : jw_Ev l D cl tys y Ts2 rm As []) (cw : CallB R s args own index y bytes maxL ty Ts2 rm rm.cells rm.slots n ∧ (Cond.static y).before args s = true) (hst : st0 = As.reverse ++ rest) (hn : As.length = n) (hr : (rest.map fun v => v.category).sum ≤ 8) (d : decode cc pc = .ok (.invokestatic index, 3)) (h0 : rm.cells = 0 ∧ rm.slots = 0) (hf : cells ≤ R.cells ∧ slots ≤ R.slots) (kk : jw_J p l e R s m args below meth c D cl A nL (Q) (cells) (slots) (pc + 3) (lv) (rest) (ws)) : jw_J p l e R s m args below meth c D cl A nL (Q) (cells) (slots) (pc) (lv) (st0) (ws) := by
  refine jw_callS_v F ws [] hM cw (by simp) hst hn hr d ⟨by rw [h0.1]; exact hf.1, by rw [h0.2]; exact hf.2⟩ (fun w hw => ?_)
  obtain rfl := hw
  rw [h0.1, h0.2, List.append_nil, List.append_nil]
  exact kk
theorem jw_callV_Cv (F : jw_F p s m args meth c D cl tys A nL cc own Ts ret) {y : MethodName} {bytes : ByteArray} {maxL n index : Nat} {ty : Option FieldType} {Ts2 : List Cond} {rm : Room} {C : String} {b : Nat} {As st0 : List Value} {wc : va_W} {post : va_W → Prop} (hM : jw_Mv l D cl tys y Ts2 rm (.ref b :: As) wc post) (cw : CallW R s args own C index y bytes maxL ty Ts2 rm rm.cells rm.slots n) (q0 ci : Nat) {fs : List Value} {q : vw_C} (hc : cl[ci]? = some q) (hq : q.1 = C) (he : wc[q0]? = some (b, .inr (ci, fs))) (hws : ws = wc) (hst : st0 = As.reverse ++ .ref b :: rest) (hn : As.length = n) (hr : (rest.map fun v => v.category).sum ≤ 8) (d : decode cc pc = .ok (.invokevirtual index, 3)) (h0 : rm.cells = 0 ∧ rm.slots = 0) (hf : cells ≤ R.cells ∧ slots ≤ R.slots) (kk : ∀ (w : va_W), post w → jw_J p l e R s m args below meth c D cl A nL (Q) (cells) (slots) (pc + 3) (lv) (rest) (w)) : jw_J p l e R s m args below meth c D cl A nL (Q) (cells) (slots) (pc) (lv) (st0) (ws) := by
  subst hws
  refine jw_callV_v F [] [] hM cw q0 ci hc hq he (by simp) hst hn hr d ⟨by rw [h0.1]; exact hf.1, by rw [h0.2]; exact hf.2⟩ (fun w hw => ?_)
  have h9 := kk w hw
  rw [h0.1, h0.2, List.append_nil, List.nil_append]
  exact h9
end JW3
