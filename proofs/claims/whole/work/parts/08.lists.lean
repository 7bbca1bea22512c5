/-! Lists walked by an index: what the class's loops count and find. -/
section GL
theorem gl_cnt_s {f : Nat → Bool} {L : List Nat} {i : Nat} (h : i < L.length) : (L.take (i + 1)).countP f = (L.take i).countP f + (if f L[i] = true then 1 else 0) := by
  rw [List.take_succ_eq_append_getElem h, List.countP_append, List.countP_cons, List.countP_nil]
  simp
theorem gl_cnt_le {f : Nat → Bool} {L : List Nat} {i : Nat} : (L.take i).countP f ≤ L.length := by
  refine Nat.le_trans List.countP_le_length ?_
  rw [List.length_take]
  exact Nat.min_le_right _ _
theorem gl_cnt_i {f : Nat → Bool} {L : List Nat} {i : Nat} : (L.take i).countP f ≤ i := by
  refine Nat.le_trans List.countP_le_length ?_
  rw [List.length_take]
  exact Nat.min_le_left _ _
theorem gl_nth {f : Nat → Bool} {L : List Nat} {i : Nat} (h : i < L.length) (hf : f L[i] = true) : (L.filter f)[(L.take i).countP f]? = some L[i] := by
  have e : L = L.take i ++ L[i] :: L.drop (i + 1) := by
    rw [List.getElem_cons_drop, List.take_append_drop]
  have e2 : L.filter f = (L.take i).filter f ++ L[i] :: (L.drop (i + 1)).filter f := by
    conv => lhs; rw [e]
    rw [List.filter_append, List.filter_cons_of_pos hf]
  rw [e2, List.countP_eq_length_filter, List.getElem?_append_right (Nat.le_refl _), Nat.sub_self]
  rfl
theorem gl_len {f : Nat → Bool} {L : List Nat} : (L.filter f).length = L.countP f := by rw [List.countP_eq_length_filter]
/-- the k-th of a list, -1 if there is none -/
def gl_at (M : List Nat) (k : Int32) : Int32 := if k < 0 then -1 else match M[k.toNatClampNeg]? with
  | some e => nI e
  | none => -1
theorem gl_at_nI {M : List Nat} {j e : Nat} (hj : j < 2147483648) (h : M[j]? = some e) : gl_at M (nI j) = nI e := by
  unfold gl_at
  rw [if_neg (nI_pos hj), nI_clamp hj, h]
theorem gl_at_none {M : List Nat} {k : Int32} (h : ∀ j : Nat, j < 2147483648 → k = nI j → M.length ≤ j) : gl_at M k = -1 := by
  unfold gl_at
  by_cases hk : k < 0
  · rw [if_pos hk]
  · rw [if_neg hk]
    obtain ⟨j, hj, rfl⟩ := nI_of hk
    have h1 := h j hj rfl
    rw [nI_clamp hj, List.getElem?_eq_none h1]
/-- is k the number of an operation -/
def a_isop (n : Nat) (k : Int32) : Bool := decide (¬ k < 0) && decide (k < nI n)
theorem a_isop_nI {n j : Nat} (hn : n < 2147483648) (h : j < n) : a_isop n (nI j) = true := by
  unfold a_isop
  simp only [Bool.and_eq_true, decide_eq_true_eq]
  exact ⟨nI_pos (by omega), nI_lt h hn⟩
theorem a_isop_t {n : Nat} {k : Int32} (hn : n < 2147483648) (h : a_isop n k = true) : ∃ j, j < n ∧ k = nI j := by
  unfold a_isop at h
  simp only [Bool.and_eq_true, decide_eq_true_eq] at h
  obtain ⟨j, hj, rfl⟩ := nI_of h.1
  exact ⟨j, (nI_ltI hj hn).mp h.2, rfl⟩
/-- is r a replica -/
def a_isrep (r : Int32) : Bool := a_isop 4 r
theorem a_isrep_t {r : Int32} (h : a_isrep r = true) : ∃ j, j < 4 ∧ r = nI j := a_isop_t (by decide) h
/-- r holds such an element -/
def a_haseB (a : AS) (r : Nat) (e : Int32) : Bool := a_isop (a_n a) e && (!a_dl a e.toNatClampNeg && a_hd a r e.toNatClampNeg)
theorem a_haseB_nI {a : AS} {r j : Nat} (hn : a_n a ≤ 160) (hj : j < a_n a) : a_haseB a r (nI j) = (!a_dl a j && a_hd a r j) := by
  unfold a_haseB
  rw [a_isop_nI (by omega) hj, nI_clamp (by omega)]
  rfl
theorem a_haseB_t {a : AS} {r : Nat} {e : Int32} (hn : a_n a ≤ 160) (h : a_haseB a r e = true) : ∃ j, j < a_n a ∧ e = nI j ∧ a_dl a j = false ∧ a_hd a r j = true := by
  have h1 : a_isop (a_n a) e = true := by
    unfold a_haseB at h
    simp only [Bool.and_eq_true] at h
    exact h.1
  obtain ⟨j, hj, rfl⟩ := a_isop_t (by omega) h1
  rw [a_haseB_nI hn hj] at h
  simp only [Bool.and_eq_true, Bool.not_eq_true'] at h
  exact ⟨j, hj, rfl, h.1, h.2⟩
def a_ltb (a : AS) (i j : Nat) : Bool := decide (a_ct a i < a_ct a j) || (decide (a_ct a i = a_ct a j) && decide (a_mk a i < a_mk a j))
theorem a_ltb_t {a : AS} {i j : Nat} : a_ltb a i j = true ↔ a_lt a i j := by
  unfold a_ltb a_lt gm_lt
  simp only [Bool.or_eq_true, Bool.and_eq_true, decide_eq_true_eq]
theorem gl_cx {L : List Nat} {f7 : Nat → Int32} {ln : Int32} (h : cx_L L f7 ln) {i : Nat} (hi : i < L.length) : f7 i = nI L[i] := h.2 i hi
/-- weaving in, seen in the array -/
theorem gl_weave {L : List Nat} {f7 g : Nat → Int32} {e p : Nat} (hp : p ≤ L.length) (h : ∀ i (h : i < L.length), f7 i = nI L[i]) (hg : ∀ t, t ≤ L.length → g t = if p < t then f7 (t - 1) else f7 t) : cx_L (L.take p ++ e :: L.drop p) (upd g p (nI e)) (nI (L.length + 1)) := by
  refine ⟨?_, fun i hi => ?_⟩
  · congr 1
    rw [List.length_append, List.length_cons, List.length_take, List.length_drop]
    omega
  · have hi' : i < L.length + 1 := by
      rw [List.length_append, List.length_cons, List.length_take, List.length_drop] at hi
      omega
    have hlt : (L.take p).length = p := by rw [List.length_take]; omega
    by_cases e1 : i = p
    · subst e1
      rw [pk_us]
      congr 1
      rw [List.getElem_append_right (by omega)]
      simp [hlt]
    · rw [pk_un e1, hg i (by omega)]
      by_cases e2 : p < i
      · rw [if_pos e2, h (i - 1) (by omega)]
        congr 1
        rw [List.getElem_append_right (by omega)]
        have e3 : i - (L.take p).length = (i - p - 1) + 1 := by omega
        simp only [e3, List.getElem_cons_succ, List.getElem_drop]
        congr 1
        omega
      · rw [if_neg e2, h i (by omega)]
        congr 1
        rw [List.getElem_append_left (by omega), List.getElem_take]
end GL
