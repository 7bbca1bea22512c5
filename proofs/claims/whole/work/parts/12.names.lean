def WL : List Cond := lw_tbl.filter goodWord
theorem jwl {w : Cond} (i : Nat) (h : lw_tbl[i]? = some w) (g : goodWord w = true) : w ∈ WL := List.mem_filter.mpr ⟨List.mem_of_getElem? h, g⟩
theorem wl_good : ∀ w ∈ WL, goodWord w = true := fun w h => (List.mem_filter.mp h).2
theorem wl_tbl : ∀ w ∈ WL, w ∈ lw_tbl := fun w h => (List.mem_filter.mp h).1
def RX : String := "WovenRow"
def TX : u_T := fun k => match k with
  | 0 => ("WovenRow", "made", "I", false)
  | 1 => ("WovenRow", "isDelete", "[Z", true)
  | 2 => ("WovenRow", "target", "[I", true)
  | 3 => ("WovenRow", "number", "[J", true)
  | 4 => ("WovenRow", "stampCount", "[I", true)
  | 5 => ("WovenRow", "maker", "[I", true)
  | 6 => ("WovenRow", "holders", "[I", true)
  | 7 => ("WovenRow", "deleters", "[I", true)
  | 8 => ("WovenRow", "greatestCount", "[I", true)
  | 9 => ("WovenRow", "row", "[I", true)
  | _ => ("WovenRow", "rowLength", "I", false)
def tX : Nat → FieldType := fun k => match k with
  | 0 => .int
  | 1 => .array .boolean
  | 2 => .array .int
  | 3 => .array .long
  | 4 => .array .int
  | 5 => .array .int
  | 6 => .array .int
  | 7 => .array .int
  | 8 => .array .int
  | 9 => .array .int
  | _ => .int
theorem nmX : ∀ a, a < 11 → ∀ b, b < 11 → a ≠ b → (TX a).2.1 ≠ (TX b).2.1 := by decide +kernel
theorem tX_ok : ∀ k, k < 11 → parseFieldDescriptor (TX k).2.2.1 = some (tX k) := by decide +kernel
theorem inX : ∀ w ∈ u_ws RX TX 11, w ∈ WL := by decide +kernel
def RM : String := "WovenRowModel"
def TM : u_T := fun k => match k with
  | 0 => ("WovenRowModel", "err", "I", false)
  | 1 => ("WovenRowModel", "operations", "I", false)
  | 2 => ("WovenRowModel", "of", "[I", true)
  | 3 => ("WovenRowModel", "counts", "[I", true)
  | 4 => ("WovenRowModel", "by", "[I", true)
  | 5 => ("WovenRowModel", "numbers", "[J", true)
  | 6 => ("WovenRowModel", "deletes", "[Z", true)
  | 7 => ("WovenRowModel", "held", "[Z", true)
  | 8 => ("WovenRowModel", "row", "[I", true)
  | 9 => ("WovenRowModel", "todo", "[I", true)
  | 10 => ("WovenRowModel", "kept", "[I", true)
  | _ => ("WovenRowModel", "size", "I", false)
def tM : Nat → FieldType := fun k => match k with
  | 0 => .int
  | 1 => .int
  | 2 => .array .int
  | 3 => .array .int
  | 4 => .array .int
  | 5 => .array .long
  | 6 => .array .boolean
  | 7 => .array .boolean
  | 8 => .array .int
  | 9 => .array .int
  | 10 => .array .int
  | _ => .int
theorem nmM : ∀ a, a < 12 → ∀ b, b < 12 → a ≠ b → (TM a).2.1 ≠ (TM b).2.1 := by decide +kernel
theorem tM_ok : ∀ k, k < 12 → parseFieldDescriptor (TM k).2.2.1 = some (tM k) := by decide +kernel
theorem inM : ∀ w ∈ u_ws RM TM 12, w ∈ WL := by decide +kernel
def RL : String := "WovenRowLaw"
abbrev vCl : List vw_C := [(RX, TX, 11), (RM, TM, 12)]
abbrev vTy (cB cI cL : ClassId) : List (ClassId × FieldType) := [(cB, .boolean), (cI, .int), (cL, .long)]
abbrev b_X_init : ByteArray := prog_1_method_1_code
def y_X_init : MethodName := ⟨RX, "<init>", "()V"⟩
abbrev s_X_init : List Cond := Cond.code y_X_init b_X_init 1 none :: WL
abbrev b_X_insert : ByteArray := prog_1_method_2_code
def y_X_insert : MethodName := ⟨RX, "insert", "(IIJ)I"⟩
abbrev s_X_insert : List Cond := Cond.code y_X_insert b_X_insert 6 (some .int) :: WL
theorem hd_X_insert : y_X_insert.cls = RX ∧ y_X_insert.cls ≠ "java/lang/invoke/MethodHandle" ∧ y_X_insert.cls ≠ "java/lang/invoke/VarHandle" ∧ (parseMethodDescriptor y_X_insert.desc).map (fun d => d.parameters.length) = some 3 := by decide +kernel
abbrev b_X_delete : ByteArray := prog_1_method_3_code
def y_X_delete : MethodName := ⟨RX, "delete", "(II)I"⟩
abbrev s_X_delete : List Cond := Cond.code y_X_delete b_X_delete 3 (some .int) :: WL
theorem hd_X_delete : y_X_delete.cls = RX ∧ y_X_delete.cls ≠ "java/lang/invoke/MethodHandle" ∧ y_X_delete.cls ≠ "java/lang/invoke/VarHandle" ∧ (parseMethodDescriptor y_X_delete.desc).map (fun d => d.parameters.length) = some 2 := by decide +kernel
abbrev b_X_give : ByteArray := prog_1_method_4_code
def y_X_give : MethodName := ⟨RX, "give", "(II)V"⟩
abbrev s_X_give : List Cond := Cond.code y_X_give b_X_give 3 none :: WL
theorem hd_X_give : y_X_give.cls = RX ∧ y_X_give.cls ≠ "java/lang/invoke/MethodHandle" ∧ y_X_give.cls ≠ "java/lang/invoke/VarHandle" ∧ (parseMethodDescriptor y_X_give.desc).map (fun d => d.parameters.length) = some 2 := by decide +kernel
abbrev b_X_tell : ByteArray := prog_1_method_5_code
def y_X_tell : MethodName := ⟨RX, "tell", "(II)I"⟩
abbrev s_X_tell : List Cond := Cond.code y_X_tell b_X_tell 5 (some .int) :: WL
theorem hd_X_tell : y_X_tell.cls = RX ∧ y_X_tell.cls ≠ "java/lang/invoke/MethodHandle" ∧ y_X_tell.cls ≠ "java/lang/invoke/VarHandle" ∧ (parseMethodDescriptor y_X_tell.desc).map (fun d => d.parameters.length) = some 2 := by decide +kernel
abbrev b_X_holds : ByteArray := prog_1_method_6_code
def y_X_holds : MethodName := ⟨RX, "holds", "(II)Z"⟩
abbrev s_X_holds : List Cond := Cond.code y_X_holds b_X_holds 3 (some .boolean) :: WL
theorem hd_X_holds : y_X_holds.cls = RX ∧ y_X_holds.cls ≠ "java/lang/invoke/MethodHandle" ∧ y_X_holds.cls ≠ "java/lang/invoke/VarHandle" ∧ (parseMethodDescriptor y_X_holds.desc).map (fun d => d.parameters.length) = some 2 := by decide +kernel
abbrev b_X_at : ByteArray := prog_1_method_7_code
def y_X_at : MethodName := ⟨RX, "at", "(II)I"⟩
abbrev s_X_at : List Cond := Cond.code y_X_at b_X_at 5 (some .int) :: WL
theorem hd_X_at : y_X_at.cls = RX ∧ y_X_at.cls ≠ "java/lang/invoke/MethodHandle" ∧ y_X_at.cls ≠ "java/lang/invoke/VarHandle" ∧ (parseMethodDescriptor y_X_at.desc).map (fun d => d.parameters.length) = some 2 := by decide +kernel
abbrev b_X_place : ByteArray := prog_1_method_8_code
def y_X_place : MethodName := ⟨RX, "place", "(II)I"⟩
abbrev s_X_place : List Cond := Cond.code y_X_place b_X_place 5 (some .int) :: WL
theorem hd_X_place : y_X_place.cls = RX ∧ y_X_place.cls ≠ "java/lang/invoke/MethodHandle" ∧ y_X_place.cls ≠ "java/lang/invoke/VarHandle" ∧ (parseMethodDescriptor y_X_place.desc).map (fun d => d.parameters.length) = some 2 := by decide +kernel
abbrev b_X_value : ByteArray := prog_1_method_9_code
def y_X_value : MethodName := ⟨RX, "value", "(I)J"⟩
abbrev s_X_value : List Cond := Cond.code y_X_value b_X_value 2 (some .long) :: WL
theorem hd_X_value : y_X_value.cls = RX ∧ y_X_value.cls ≠ "java/lang/invoke/MethodHandle" ∧ y_X_value.cls ≠ "java/lang/invoke/VarHandle" ∧ (parseMethodDescriptor y_X_value.desc).map (fun d => d.parameters.length) = some 1 := by decide +kernel
abbrev b_X_stamp : ByteArray := prog_1_method_10_code
def y_X_stamp : MethodName := ⟨RX, "stamp", "(I)I"⟩
abbrev s_X_stamp : List Cond := Cond.code y_X_stamp b_X_stamp 2 (some .int) :: WL
theorem hd_X_stamp : y_X_stamp.cls = RX ∧ y_X_stamp.cls ≠ "java/lang/invoke/MethodHandle" ∧ y_X_stamp.cls ≠ "java/lang/invoke/VarHandle" ∧ (parseMethodDescriptor y_X_stamp.desc).map (fun d => d.parameters.length) = some 1 := by decide +kernel
abbrev b_X_count : ByteArray := prog_1_method_11_code
def y_X_count : MethodName := ⟨RX, "count", "(II)I"⟩
abbrev s_X_count : List Cond := Cond.code y_X_count b_X_count 3 (some .int) :: WL
theorem hd_X_count : y_X_count.cls = RX ∧ y_X_count.cls ≠ "java/lang/invoke/MethodHandle" ∧ y_X_count.cls ≠ "java/lang/invoke/VarHandle" ∧ (parseMethodDescriptor y_X_count.desc).map (fun d => d.parameters.length) = some 2 := by decide +kernel
abbrev b_X_same : ByteArray := prog_1_method_12_code
def y_X_same : MethodName := ⟨RX, "same", "(II)Z"⟩
abbrev s_X_same : List Cond := Cond.code y_X_same b_X_same 4 (some .boolean) :: WL
theorem hd_X_same : y_X_same.cls = RX ∧ y_X_same.cls ≠ "java/lang/invoke/MethodHandle" ∧ y_X_same.cls ≠ "java/lang/invoke/VarHandle" ∧ (parseMethodDescriptor y_X_same.desc).map (fun d => d.parameters.length) = some 2 := by decide +kernel
abbrev b_X_checkReplica : ByteArray := prog_1_method_13_code
def y_X_checkReplica : MethodName := ⟨RX, "checkReplica", "(I)V"⟩
abbrev s_X_checkReplica : List Cond := Cond.code y_X_checkReplica b_X_checkReplica 2 none :: WL
theorem hd_X_checkReplica : y_X_checkReplica.cls = RX ∧ y_X_checkReplica.cls ≠ "java/lang/invoke/MethodHandle" ∧ y_X_checkReplica.cls ≠ "java/lang/invoke/VarHandle" ∧ (parseMethodDescriptor y_X_checkReplica.desc).map (fun d => d.parameters.length) = some 1 := by decide +kernel
abbrev b_X_checkRoom : ByteArray := prog_1_method_14_code
def y_X_checkRoom : MethodName := ⟨RX, "checkRoom", "()V"⟩
abbrev s_X_checkRoom : List Cond := Cond.code y_X_checkRoom b_X_checkRoom 1 none :: WL
theorem hd_X_checkRoom : y_X_checkRoom.cls = RX ∧ y_X_checkRoom.cls ≠ "java/lang/invoke/MethodHandle" ∧ y_X_checkRoom.cls ≠ "java/lang/invoke/VarHandle" ∧ (parseMethodDescriptor y_X_checkRoom.desc).map (fun d => d.parameters.length) = some 0 := by decide +kernel
abbrev b_X_checkOperation : ByteArray := prog_1_method_15_code
def y_X_checkOperation : MethodName := ⟨RX, "checkOperation", "(I)V"⟩
abbrev s_X_checkOperation : List Cond := Cond.code y_X_checkOperation b_X_checkOperation 2 none :: WL
theorem hd_X_checkOperation : y_X_checkOperation.cls = RX ∧ y_X_checkOperation.cls ≠ "java/lang/invoke/MethodHandle" ∧ y_X_checkOperation.cls ≠ "java/lang/invoke/VarHandle" ∧ (parseMethodDescriptor y_X_checkOperation.desc).map (fun d => d.parameters.length) = some 1 := by decide +kernel
abbrev b_X_checkHeldElement : ByteArray := prog_1_method_16_code
def y_X_checkHeldElement : MethodName := ⟨RX, "checkHeldElement", "(II)V"⟩
abbrev s_X_checkHeldElement : List Cond := Cond.code y_X_checkHeldElement b_X_checkHeldElement 3 none :: WL
theorem hd_X_checkHeldElement : y_X_checkHeldElement.cls = RX ∧ y_X_checkHeldElement.cls ≠ "java/lang/invoke/MethodHandle" ∧ y_X_checkHeldElement.cls ≠ "java/lang/invoke/VarHandle" ∧ (parseMethodDescriptor y_X_checkHeldElement.desc).map (fun d => d.parameters.length) = some 2 := by decide +kernel
abbrev b_X_isOperation : ByteArray := prog_1_method_17_code
def y_X_isOperation : MethodName := ⟨RX, "isOperation", "(I)Z"⟩
abbrev s_X_isOperation : List Cond := Cond.code y_X_isOperation b_X_isOperation 2 (some .boolean) :: WL
theorem hd_X_isOperation : y_X_isOperation.cls = RX ∧ y_X_isOperation.cls ≠ "java/lang/invoke/MethodHandle" ∧ y_X_isOperation.cls ≠ "java/lang/invoke/VarHandle" ∧ (parseMethodDescriptor y_X_isOperation.desc).map (fun d => d.parameters.length) = some 1 := by decide +kernel
abbrev b_X_isElement : ByteArray := prog_1_method_18_code
def y_X_isElement : MethodName := ⟨RX, "isElement", "(I)Z"⟩
abbrev s_X_isElement : List Cond := Cond.code y_X_isElement b_X_isElement 2 (some .boolean) :: WL
theorem hd_X_isElement : y_X_isElement.cls = RX ∧ y_X_isElement.cls ≠ "java/lang/invoke/MethodHandle" ∧ y_X_isElement.cls ≠ "java/lang/invoke/VarHandle" ∧ (parseMethodDescriptor y_X_isElement.desc).map (fun d => d.parameters.length) = some 1 := by decide +kernel
abbrev b_X_isHeld : ByteArray := prog_1_method_19_code
def y_X_isHeld : MethodName := ⟨RX, "isHeld", "(II)Z"⟩
abbrev s_X_isHeld : List Cond := Cond.code y_X_isHeld b_X_isHeld 3 (some .boolean) :: WL
theorem hd_X_isHeld : y_X_isHeld.cls = RX ∧ y_X_isHeld.cls ≠ "java/lang/invoke/MethodHandle" ∧ y_X_isHeld.cls ≠ "java/lang/invoke/VarHandle" ∧ (parseMethodDescriptor y_X_isHeld.desc).map (fun d => d.parameters.length) = some 2 := by decide +kernel
abbrev b_X_isSeen : ByteArray := prog_1_method_20_code
def y_X_isSeen : MethodName := ⟨RX, "isSeen", "(II)Z"⟩
abbrev s_X_isSeen : List Cond := Cond.code y_X_isSeen b_X_isSeen 3 (some .boolean) :: WL
theorem hd_X_isSeen : y_X_isSeen.cls = RX ∧ y_X_isSeen.cls ≠ "java/lang/invoke/MethodHandle" ∧ y_X_isSeen.cls ≠ "java/lang/invoke/VarHandle" ∧ (parseMethodDescriptor y_X_isSeen.desc).map (fun d => d.parameters.length) = some 2 := by decide +kernel
abbrev b_X_bitOf : ByteArray := prog_1_method_21_code
def y_X_bitOf : MethodName := ⟨RX, "bitOf", "(I)I"⟩
abbrev s_X_bitOf : List Cond := Cond.code y_X_bitOf b_X_bitOf 1 (some .int) :: WL
theorem hd_X_bitOf : y_X_bitOf.cls = RX ∧ y_X_bitOf.cls ≠ "java/lang/invoke/MethodHandle" ∧ y_X_bitOf.cls ≠ "java/lang/invoke/VarHandle" ∧ (parseMethodDescriptor y_X_bitOf.desc).map (fun d => d.parameters.length) = some 1 := by decide +kernel
abbrev b_X_make : ByteArray := prog_1_method_22_code
def y_X_make : MethodName := ⟨RX, "make", "(IIZ)I"⟩
abbrev s_X_make : List Cond := Cond.code y_X_make b_X_make 5 (some .int) :: WL
theorem hd_X_make : y_X_make.cls = RX ∧ y_X_make.cls ≠ "java/lang/invoke/MethodHandle" ∧ y_X_make.cls ≠ "java/lang/invoke/VarHandle" ∧ (parseMethodDescriptor y_X_make.desc).map (fun d => d.parameters.length) = some 3 := by decide +kernel
abbrev b_X_take : ByteArray := prog_1_method_23_code
def y_X_take : MethodName := ⟨RX, "take", "(II)V"⟩
abbrev s_X_take : List Cond := Cond.code y_X_take b_X_take 3 none :: WL
theorem hd_X_take : y_X_take.cls = RX ∧ y_X_take.cls ≠ "java/lang/invoke/MethodHandle" ∧ y_X_take.cls ≠ "java/lang/invoke/VarHandle" ∧ (parseMethodDescriptor y_X_take.desc).map (fun d => d.parameters.length) = some 2 := by decide +kernel
abbrev b_X_weave : ByteArray := prog_1_method_24_code
def y_X_weave : MethodName := ⟨RX, "weave", "(I)V"⟩
abbrev s_X_weave : List Cond := Cond.code y_X_weave b_X_weave 4 none :: WL
theorem hd_X_weave : y_X_weave.cls = RX ∧ y_X_weave.cls ≠ "java/lang/invoke/MethodHandle" ∧ y_X_weave.cls ≠ "java/lang/invoke/VarHandle" ∧ (parseMethodDescriptor y_X_weave.desc).map (fun d => d.parameters.length) = some 1 := by decide +kernel
abbrev b_X_positionBehind : ByteArray := prog_1_method_25_code
def y_X_positionBehind : MethodName := ⟨RX, "positionBehind", "(I)I"⟩
abbrev s_X_positionBehind : List Cond := Cond.code y_X_positionBehind b_X_positionBehind 3 (some .int) :: WL
theorem hd_X_positionBehind : y_X_positionBehind.cls = RX ∧ y_X_positionBehind.cls ≠ "java/lang/invoke/MethodHandle" ∧ y_X_positionBehind.cls ≠ "java/lang/invoke/VarHandle" ∧ (parseMethodDescriptor y_X_positionBehind.desc).map (fun d => d.parameters.length) = some 1 := by decide +kernel
abbrev b_X_isGreater : ByteArray := prog_1_method_26_code
def y_X_isGreater : MethodName := ⟨RX, "isGreater", "(II)Z"⟩
abbrev s_X_isGreater : List Cond := Cond.code y_X_isGreater b_X_isGreater 3 (some .boolean) :: WL
theorem hd_X_isGreater : y_X_isGreater.cls = RX ∧ y_X_isGreater.cls ≠ "java/lang/invoke/MethodHandle" ∧ y_X_isGreater.cls ≠ "java/lang/invoke/VarHandle" ∧ (parseMethodDescriptor y_X_isGreater.desc).map (fun d => d.parameters.length) = some 2 := by decide +kernel
abbrev b_X_countHeldOperations : ByteArray := prog_1_method_27_code
def y_X_countHeldOperations : MethodName := ⟨RX, "countHeldOperations", "(I)I"⟩
abbrev s_X_countHeldOperations : List Cond := Cond.code y_X_countHeldOperations b_X_countHeldOperations 4 (some .int) :: WL
theorem hd_X_countHeldOperations : y_X_countHeldOperations.cls = RX ∧ y_X_countHeldOperations.cls ≠ "java/lang/invoke/MethodHandle" ∧ y_X_countHeldOperations.cls ≠ "java/lang/invoke/VarHandle" ∧ (parseMethodDescriptor y_X_countHeldOperations.desc).map (fun d => d.parameters.length) = some 1 := by decide +kernel
abbrev b_X_countHeldElements : ByteArray := prog_1_method_28_code
def y_X_countHeldElements : MethodName := ⟨RX, "countHeldElements", "(I)I"⟩
abbrev s_X_countHeldElements : List Cond := Cond.code y_X_countHeldElements b_X_countHeldElements 4 (some .int) :: WL
theorem hd_X_countHeldElements : y_X_countHeldElements.cls = RX ∧ y_X_countHeldElements.cls ≠ "java/lang/invoke/MethodHandle" ∧ y_X_countHeldElements.cls ≠ "java/lang/invoke/VarHandle" ∧ (parseMethodDescriptor y_X_countHeldElements.desc).map (fun d => d.parameters.length) = some 1 := by decide +kernel
abbrev b_X_countSeen : ByteArray := prog_1_method_29_code
def y_X_countSeen : MethodName := ⟨RX, "countSeen", "(I)I"⟩
abbrev s_X_countSeen : List Cond := Cond.code y_X_countSeen b_X_countSeen 4 (some .int) :: WL
theorem hd_X_countSeen : y_X_countSeen.cls = RX ∧ y_X_countSeen.cls ≠ "java/lang/invoke/MethodHandle" ∧ y_X_countSeen.cls ≠ "java/lang/invoke/VarHandle" ∧ (parseMethodDescriptor y_X_countSeen.desc).map (fun d => d.parameters.length) = some 1 := by decide +kernel
abbrev b_M_init : ByteArray := prog_3_method_1_code
def y_M_init : MethodName := ⟨RM, "<init>", "()V"⟩
abbrev s_M_init : List Cond := Cond.code y_M_init b_M_init 1 none :: WL
abbrev b_M_thrown : ByteArray := prog_3_method_2_code
def y_M_thrown : MethodName := ⟨RM, "thrown", "()I"⟩
abbrev s_M_thrown : List Cond := Cond.code y_M_thrown b_M_thrown 1 (some .int) :: WL
theorem hd_M_thrown : y_M_thrown.cls = RM ∧ y_M_thrown.cls ≠ "java/lang/invoke/MethodHandle" ∧ y_M_thrown.cls ≠ "java/lang/invoke/VarHandle" ∧ (parseMethodDescriptor y_M_thrown.desc).map (fun d => d.parameters.length) = some 0 := by decide +kernel
abbrev b_M_in : ByteArray := prog_3_method_3_code
def y_M_in : MethodName := ⟨RM, "in", "(JJJ)Z"⟩
abbrev s_M_in : List Cond := Cond.code y_M_in b_M_in 6 (some .boolean) :: WL
theorem hd_M_in : y_M_in.cls = RM ∧ y_M_in.cls ≠ "java/lang/invoke/MethodHandle" ∧ y_M_in.cls ≠ "java/lang/invoke/VarHandle" ∧ (parseMethodDescriptor y_M_in.desc).map (fun d => d.parameters.length) = some 3 := by decide +kernel
abbrev b_M_fails : ByteArray := prog_3_method_4_code
def y_M_fails : MethodName := ⟨RM, "fails", "(ZI)Z"⟩
abbrev s_M_fails : List Cond := Cond.code y_M_fails b_M_fails 3 (some .boolean) :: WL
theorem hd_M_fails : y_M_fails.cls = RM ∧ y_M_fails.cls ≠ "java/lang/invoke/MethodHandle" ∧ y_M_fails.cls ≠ "java/lang/invoke/VarHandle" ∧ (parseMethodDescriptor y_M_fails.desc).map (fun d => d.parameters.length) = some 2 := by decide +kernel
abbrev b_M_isReplica : ByteArray := prog_3_method_5_code
def y_M_isReplica : MethodName := ⟨RM, "isReplica", "(I)Z"⟩
abbrev s_M_isReplica : List Cond := Cond.code y_M_isReplica b_M_isReplica 1 (some .boolean) :: WL
theorem hd_M_isReplica : y_M_isReplica.cls = RM ∧ y_M_isReplica.cls ≠ "java/lang/invoke/MethodHandle" ∧ y_M_isReplica.cls ≠ "java/lang/invoke/VarHandle" ∧ (parseMethodDescriptor y_M_isReplica.desc).map (fun d => d.parameters.length) = some 1 := by decide +kernel
abbrev b_M_isThere : ByteArray := prog_3_method_6_code
def y_M_isThere : MethodName := ⟨RM, "isThere", "(I)Z"⟩
abbrev s_M_isThere : List Cond := Cond.code y_M_isThere b_M_isThere 2 (some .boolean) :: WL
theorem hd_M_isThere : y_M_isThere.cls = RM ∧ y_M_isThere.cls ≠ "java/lang/invoke/MethodHandle" ∧ y_M_isThere.cls ≠ "java/lang/invoke/VarHandle" ∧ (parseMethodDescriptor y_M_isThere.desc).map (fun d => d.parameters.length) = some 1 := by decide +kernel
abbrev b_M_has : ByteArray := prog_3_method_7_code
def y_M_has : MethodName := ⟨RM, "has", "(II)Z"⟩
abbrev s_M_has : List Cond := Cond.code y_M_has b_M_has 3 (some .boolean) :: WL
theorem hd_M_has : y_M_has.cls = RM ∧ y_M_has.cls ≠ "java/lang/invoke/MethodHandle" ∧ y_M_has.cls ≠ "java/lang/invoke/VarHandle" ∧ (parseMethodDescriptor y_M_has.desc).map (fun d => d.parameters.length) = some 2 := by decide +kernel
abbrev b_M_hasElement : ByteArray := prog_3_method_8_code
def y_M_hasElement : MethodName := ⟨RM, "hasElement", "(II)Z"⟩
abbrev s_M_hasElement : List Cond := Cond.code y_M_hasElement b_M_hasElement 3 (some .boolean) :: WL
theorem hd_M_hasElement : y_M_hasElement.cls = RM ∧ y_M_hasElement.cls ≠ "java/lang/invoke/MethodHandle" ∧ y_M_hasElement.cls ≠ "java/lang/invoke/VarHandle" ∧ (parseMethodDescriptor y_M_hasElement.desc).map (fun d => d.parameters.length) = some 2 := by decide +kernel
abbrev b_M_greatest : ByteArray := prog_3_method_9_code
def y_M_greatest : MethodName := ⟨RM, "greatest", "(I)I"⟩
abbrev s_M_greatest : List Cond := Cond.code y_M_greatest b_M_greatest 4 (some .int) :: WL
theorem hd_M_greatest : y_M_greatest.cls = RM ∧ y_M_greatest.cls ≠ "java/lang/invoke/MethodHandle" ∧ y_M_greatest.cls ≠ "java/lang/invoke/VarHandle" ∧ (parseMethodDescriptor y_M_greatest.desc).map (fun d => d.parameters.length) = some 1 := by decide +kernel
abbrev b_M_made : ByteArray := prog_3_method_10_code
def y_M_made : MethodName := ⟨RM, "made", "(IIJZ)I"⟩
abbrev s_M_made : List Cond := Cond.code y_M_made b_M_made 8 (some .int) :: WL
theorem hd_M_made : y_M_made.cls = RM ∧ y_M_made.cls ≠ "java/lang/invoke/MethodHandle" ∧ y_M_made.cls ≠ "java/lang/invoke/VarHandle" ∧ (parseMethodDescriptor y_M_made.desc).map (fun d => d.parameters.length) = some 4 := by decide +kernel
abbrev b_M_insert : ByteArray := prog_3_method_11_code
def y_M_insert : MethodName := ⟨RM, "insert", "(IIJ)I"⟩
abbrev s_M_insert : List Cond := Cond.code y_M_insert b_M_insert 5 (some .int) :: WL
theorem hd_M_insert : y_M_insert.cls = RM ∧ y_M_insert.cls ≠ "java/lang/invoke/MethodHandle" ∧ y_M_insert.cls ≠ "java/lang/invoke/VarHandle" ∧ (parseMethodDescriptor y_M_insert.desc).map (fun d => d.parameters.length) = some 3 := by decide +kernel
abbrev b_M_delete : ByteArray := prog_3_method_12_code
def y_M_delete : MethodName := ⟨RM, "delete", "(II)I"⟩
abbrev s_M_delete : List Cond := Cond.code y_M_delete b_M_delete 3 (some .int) :: WL
theorem hd_M_delete : y_M_delete.cls = RM ∧ y_M_delete.cls ≠ "java/lang/invoke/MethodHandle" ∧ y_M_delete.cls ≠ "java/lang/invoke/VarHandle" ∧ (parseMethodDescriptor y_M_delete.desc).map (fun d => d.parameters.length) = some 2 := by decide +kernel
abbrev b_M_give : ByteArray := prog_3_method_13_code
def y_M_give : MethodName := ⟨RM, "give", "(II)V"⟩
abbrev s_M_give : List Cond := Cond.code y_M_give b_M_give 3 none :: WL
theorem hd_M_give : y_M_give.cls = RM ∧ y_M_give.cls ≠ "java/lang/invoke/MethodHandle" ∧ y_M_give.cls ≠ "java/lang/invoke/VarHandle" ∧ (parseMethodDescriptor y_M_give.desc).map (fun d => d.parameters.length) = some 2 := by decide +kernel
abbrev b_M_tell : ByteArray := prog_3_method_14_code
def y_M_tell : MethodName := ⟨RM, "tell", "(II)I"⟩
abbrev s_M_tell : List Cond := Cond.code y_M_tell b_M_tell 5 (some .int) :: WL
theorem hd_M_tell : y_M_tell.cls = RM ∧ y_M_tell.cls ≠ "java/lang/invoke/MethodHandle" ∧ y_M_tell.cls ≠ "java/lang/invoke/VarHandle" ∧ (parseMethodDescriptor y_M_tell.desc).map (fun d => d.parameters.length) = some 2 := by decide +kernel
abbrev b_M_holds : ByteArray := prog_3_method_15_code
def y_M_holds : MethodName := ⟨RM, "holds", "(II)Z"⟩
abbrev s_M_holds : List Cond := Cond.code y_M_holds b_M_holds 3 (some .boolean) :: WL
theorem hd_M_holds : y_M_holds.cls = RM ∧ y_M_holds.cls ≠ "java/lang/invoke/MethodHandle" ∧ y_M_holds.cls ≠ "java/lang/invoke/VarHandle" ∧ (parseMethodDescriptor y_M_holds.desc).map (fun d => d.parameters.length) = some 2 := by decide +kernel
abbrev b_M_isLess : ByteArray := prog_3_method_16_code
def y_M_isLess : MethodName := ⟨RM, "isLess", "(II)Z"⟩
abbrev s_M_isLess : List Cond := Cond.code y_M_isLess b_M_isLess 3 (some .boolean) :: WL
theorem hd_M_isLess : y_M_isLess.cls = RM ∧ y_M_isLess.cls ≠ "java/lang/invoke/MethodHandle" ∧ y_M_isLess.cls ≠ "java/lang/invoke/VarHandle" ∧ (parseMethodDescriptor y_M_isLess.desc).map (fun d => d.parameters.length) = some 2 := by decide +kernel
abbrev b_M_next : ByteArray := prog_3_method_17_code
def y_M_next : MethodName := ⟨RM, "next", "(III)I"⟩
abbrev s_M_next : List Cond := Cond.code y_M_next b_M_next 6 (some .int) :: WL
theorem hd_M_next : y_M_next.cls = RM ∧ y_M_next.cls ≠ "java/lang/invoke/MethodHandle" ∧ y_M_next.cls ≠ "java/lang/invoke/VarHandle" ∧ (parseMethodDescriptor y_M_next.desc).map (fun d => d.parameters.length) = some 3 := by decide +kernel
abbrev b_M_look : ByteArray := prog_3_method_18_code
def y_M_look : MethodName := ⟨RM, "look", "(I)V"⟩
abbrev s_M_look : List Cond := Cond.code y_M_look b_M_look 5 none :: WL
theorem hd_M_look : y_M_look.cls = RM ∧ y_M_look.cls ≠ "java/lang/invoke/MethodHandle" ∧ y_M_look.cls ≠ "java/lang/invoke/VarHandle" ∧ (parseMethodDescriptor y_M_look.desc).map (fun d => d.parameters.length) = some 1 := by decide +kernel
abbrev b_M_isSeen : ByteArray := prog_3_method_19_code
def y_M_isSeen : MethodName := ⟨RM, "isSeen", "(II)Z"⟩
abbrev s_M_isSeen : List Cond := Cond.code y_M_isSeen b_M_isSeen 4 (some .boolean) :: WL
theorem hd_M_isSeen : y_M_isSeen.cls = RM ∧ y_M_isSeen.cls ≠ "java/lang/invoke/MethodHandle" ∧ y_M_isSeen.cls ≠ "java/lang/invoke/VarHandle" ∧ (parseMethodDescriptor y_M_isSeen.desc).map (fun d => d.parameters.length) = some 2 := by decide +kernel
abbrev b_M_lookSeen : ByteArray := prog_3_method_20_code
def y_M_lookSeen : MethodName := ⟨RM, "lookSeen", "(I)V"⟩
abbrev s_M_lookSeen : List Cond := Cond.code y_M_lookSeen b_M_lookSeen 4 none :: WL
theorem hd_M_lookSeen : y_M_lookSeen.cls = RM ∧ y_M_lookSeen.cls ≠ "java/lang/invoke/MethodHandle" ∧ y_M_lookSeen.cls ≠ "java/lang/invoke/VarHandle" ∧ (parseMethodDescriptor y_M_lookSeen.desc).map (fun d => d.parameters.length) = some 1 := by decide +kernel
abbrev b_M_at : ByteArray := prog_3_method_21_code
def y_M_at : MethodName := ⟨RM, "at", "(II)I"⟩
abbrev s_M_at : List Cond := Cond.code y_M_at b_M_at 3 (some .int) :: WL
theorem hd_M_at : y_M_at.cls = RM ∧ y_M_at.cls ≠ "java/lang/invoke/MethodHandle" ∧ y_M_at.cls ≠ "java/lang/invoke/VarHandle" ∧ (parseMethodDescriptor y_M_at.desc).map (fun d => d.parameters.length) = some 2 := by decide +kernel
abbrev b_M_place : ByteArray := prog_3_method_22_code
def y_M_place : MethodName := ⟨RM, "place", "(II)I"⟩
abbrev s_M_place : List Cond := Cond.code y_M_place b_M_place 4 (some .int) :: WL
theorem hd_M_place : y_M_place.cls = RM ∧ y_M_place.cls ≠ "java/lang/invoke/MethodHandle" ∧ y_M_place.cls ≠ "java/lang/invoke/VarHandle" ∧ (parseMethodDescriptor y_M_place.desc).map (fun d => d.parameters.length) = some 2 := by decide +kernel
abbrev b_M_value : ByteArray := prog_3_method_23_code
def y_M_value : MethodName := ⟨RM, "value", "(I)J"⟩
abbrev s_M_value : List Cond := Cond.code y_M_value b_M_value 2 (some .long) :: WL
theorem hd_M_value : y_M_value.cls = RM ∧ y_M_value.cls ≠ "java/lang/invoke/MethodHandle" ∧ y_M_value.cls ≠ "java/lang/invoke/VarHandle" ∧ (parseMethodDescriptor y_M_value.desc).map (fun d => d.parameters.length) = some 1 := by decide +kernel
abbrev b_M_stamp : ByteArray := prog_3_method_24_code
def y_M_stamp : MethodName := ⟨RM, "stamp", "(I)I"⟩
abbrev s_M_stamp : List Cond := Cond.code y_M_stamp b_M_stamp 2 (some .int) :: WL
theorem hd_M_stamp : y_M_stamp.cls = RM ∧ y_M_stamp.cls ≠ "java/lang/invoke/MethodHandle" ∧ y_M_stamp.cls ≠ "java/lang/invoke/VarHandle" ∧ (parseMethodDescriptor y_M_stamp.desc).map (fun d => d.parameters.length) = some 1 := by decide +kernel
abbrev b_M_count : ByteArray := prog_3_method_25_code
def y_M_count : MethodName := ⟨RM, "count", "(II)I"⟩
abbrev s_M_count : List Cond := Cond.code y_M_count b_M_count 5 (some .int) :: WL
theorem hd_M_count : y_M_count.cls = RM ∧ y_M_count.cls ≠ "java/lang/invoke/MethodHandle" ∧ y_M_count.cls ≠ "java/lang/invoke/VarHandle" ∧ (parseMethodDescriptor y_M_count.desc).map (fun d => d.parameters.length) = some 2 := by decide +kernel
abbrev b_M_same : ByteArray := prog_3_method_26_code
def y_M_same : MethodName := ⟨RM, "same", "(II)Z"⟩
abbrev s_M_same : List Cond := Cond.code y_M_same b_M_same 5 (some .boolean) :: WL
theorem hd_M_same : y_M_same.cls = RM ∧ y_M_same.cls ≠ "java/lang/invoke/MethodHandle" ∧ y_M_same.cls ≠ "java/lang/invoke/VarHandle" ∧ (parseMethodDescriptor y_M_same.desc).map (fun d => d.parameters.length) = some 2 := by decide +kernel
abbrev b_L_insert : ByteArray := method_3_code
def y_L_insert : MethodName := ⟨RL, "insert", "(LWovenRow;IIJ[J)I"⟩
abbrev s_L_insert : List Cond := Cond.codeWith y_L_insert b_L_insert 7 (some .int) [(0, 12, 15, 13), (0, 12, 19, 15), (0, 12, 23, 17)] :: WL
theorem hd_L_insert : y_L_insert.cls = RL ∧ y_L_insert.cls ≠ "java/lang/invoke/MethodHandle" ∧ y_L_insert.cls ≠ "java/lang/invoke/VarHandle" ∧ (parseMethodDescriptor y_L_insert.desc).map (fun d => d.parameters.length) = some 5 := by decide +kernel
abbrev b_L_delete : ByteArray := method_4_code
def y_L_delete : MethodName := ⟨RL, "delete", "(LWovenRow;II[J)I"⟩
abbrev s_L_delete : List Cond := Cond.codeWith y_L_delete b_L_delete 5 (some .int) [(0, 10, 13, 13), (0, 10, 17, 15), (0, 10, 21, 17)] :: WL
theorem hd_L_delete : y_L_delete.cls = RL ∧ y_L_delete.cls ≠ "java/lang/invoke/MethodHandle" ∧ y_L_delete.cls ≠ "java/lang/invoke/VarHandle" ∧ (parseMethodDescriptor y_L_delete.desc).map (fun d => d.parameters.length) = some 4 := by decide +kernel
abbrev b_L_give : ByteArray := method_5_code
def y_L_give : MethodName := ⟨RL, "give", "(LWovenRow;II)I"⟩
abbrev s_L_give : List Cond := Cond.codeWith y_L_give b_L_give 4 (some .int) [(0, 6, 9, 13), (0, 6, 12, 15), (0, 6, 15, 17)] :: WL
theorem hd_L_give : y_L_give.cls = RL ∧ y_L_give.cls ≠ "java/lang/invoke/MethodHandle" ∧ y_L_give.cls ≠ "java/lang/invoke/VarHandle" ∧ (parseMethodDescriptor y_L_give.desc).map (fun d => d.parameters.length) = some 3 := by decide +kernel
abbrev b_L_tell : ByteArray := method_6_code
def y_L_tell : MethodName := ⟨RL, "tell", "(LWovenRow;II[J)I"⟩
abbrev s_L_tell : List Cond := Cond.codeWith y_L_tell b_L_tell 5 (some .int) [(0, 10, 13, 13)] :: WL
theorem hd_L_tell : y_L_tell.cls = RL ∧ y_L_tell.cls ≠ "java/lang/invoke/MethodHandle" ∧ y_L_tell.cls ≠ "java/lang/invoke/VarHandle" ∧ (parseMethodDescriptor y_L_tell.desc).map (fun d => d.parameters.length) = some 4 := by decide +kernel
abbrev b_L_holds : ByteArray := method_7_code
def y_L_holds : MethodName := ⟨RL, "holds", "(LWovenRow;II[J)I"⟩
abbrev s_L_holds : List Cond := Cond.codeWith y_L_holds b_L_holds 5 (some .int) [(0, 17, 20, 13), (0, 17, 24, 15)] :: WL
theorem hd_L_holds : y_L_holds.cls = RL ∧ y_L_holds.cls ≠ "java/lang/invoke/MethodHandle" ∧ y_L_holds.cls ≠ "java/lang/invoke/VarHandle" ∧ (parseMethodDescriptor y_L_holds.desc).map (fun d => d.parameters.length) = some 4 := by decide +kernel
abbrev b_L_at : ByteArray := method_8_code
def y_L_at : MethodName := ⟨RL, "at", "(LWovenRow;II[J)I"⟩
abbrev s_L_at : List Cond := Cond.codeWith y_L_at b_L_at 5 (some .int) [(0, 10, 13, 13)] :: WL
theorem hd_L_at : y_L_at.cls = RL ∧ y_L_at.cls ≠ "java/lang/invoke/MethodHandle" ∧ y_L_at.cls ≠ "java/lang/invoke/VarHandle" ∧ (parseMethodDescriptor y_L_at.desc).map (fun d => d.parameters.length) = some 4 := by decide +kernel
abbrev b_L_place : ByteArray := method_9_code
def y_L_place : MethodName := ⟨RL, "place", "(LWovenRow;II[J)I"⟩
abbrev s_L_place : List Cond := Cond.codeWith y_L_place b_L_place 5 (some .int) [(0, 10, 13, 13), (0, 10, 17, 15), (0, 10, 21, 17)] :: WL
theorem hd_L_place : y_L_place.cls = RL ∧ y_L_place.cls ≠ "java/lang/invoke/MethodHandle" ∧ y_L_place.cls ≠ "java/lang/invoke/VarHandle" ∧ (parseMethodDescriptor y_L_place.desc).map (fun d => d.parameters.length) = some 4 := by decide +kernel
abbrev b_L_value : ByteArray := method_10_code
def y_L_value : MethodName := ⟨RL, "value", "(LWovenRow;I[J)I"⟩
abbrev s_L_value : List Cond := Cond.codeWith y_L_value b_L_value 4 (some .int) [(0, 8, 11, 15)] :: WL
theorem hd_L_value : y_L_value.cls = RL ∧ y_L_value.cls ≠ "java/lang/invoke/MethodHandle" ∧ y_L_value.cls ≠ "java/lang/invoke/VarHandle" ∧ (parseMethodDescriptor y_L_value.desc).map (fun d => d.parameters.length) = some 3 := by decide +kernel
abbrev b_L_stamp : ByteArray := method_11_code
def y_L_stamp : MethodName := ⟨RL, "stamp", "(LWovenRow;I[J)I"⟩
abbrev s_L_stamp : List Cond := Cond.codeWith y_L_stamp b_L_stamp 4 (some .int) [(0, 9, 12, 15)] :: WL
theorem hd_L_stamp : y_L_stamp.cls = RL ∧ y_L_stamp.cls ≠ "java/lang/invoke/MethodHandle" ∧ y_L_stamp.cls ≠ "java/lang/invoke/VarHandle" ∧ (parseMethodDescriptor y_L_stamp.desc).map (fun d => d.parameters.length) = some 3 := by decide +kernel
abbrev b_L_count : ByteArray := method_12_code
def y_L_count : MethodName := ⟨RL, "count", "(LWovenRow;II[J)I"⟩
abbrev s_L_count : List Cond := Cond.codeWith y_L_count b_L_count 5 (some .int) [(0, 10, 13, 13)] :: WL
theorem hd_L_count : y_L_count.cls = RL ∧ y_L_count.cls ≠ "java/lang/invoke/MethodHandle" ∧ y_L_count.cls ≠ "java/lang/invoke/VarHandle" ∧ (parseMethodDescriptor y_L_count.desc).map (fun d => d.parameters.length) = some 4 := by decide +kernel
abbrev b_L_same : ByteArray := method_13_code
def y_L_same : MethodName := ⟨RL, "same", "(LWovenRow;II[J)I"⟩
abbrev s_L_same : List Cond := Cond.codeWith y_L_same b_L_same 5 (some .int) [(0, 17, 20, 13)] :: WL
theorem hd_L_same : y_L_same.cls = RL ∧ y_L_same.cls ≠ "java/lang/invoke/MethodHandle" ∧ y_L_same.cls ≠ "java/lang/invoke/VarHandle" ∧ (parseMethodDescriptor y_L_same.desc).map (fun d => d.parameters.length) = some 4 := by decide +kernel
abbrev b_L_law : ByteArray := code
def y_L_law : MethodName := ⟨RL, "law", "([I)Z"⟩
