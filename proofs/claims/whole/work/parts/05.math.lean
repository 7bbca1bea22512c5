/-! The order of the row, without machine: a list is good if each element, walking back from it, steps over greater ones until it meets the one that it is behind (the front, if none). -/
section GM
def gm_own (par : Nat → Option Nat) (lt : Nat → Nat → Prop) (e : Nat) : List Nat → Prop
  | [] => par e = none
  | x :: acc => par e = some x ∨ (lt e x ∧ gm_own par lt e acc)
def gm_good (par : Nat → Option Nat) (lt : Nat → Nat → Prop) : List Nat → List Nat → Prop
  | _, [] => True
  | acc, e :: l => gm_own par lt e acc ∧ gm_good par lt (e :: acc) l
variable {par : Nat → Option Nat} {lt : Nat → Nat → Prop}
theorem gm_good_app {xs ys : List Nat} : ∀ {acc : List Nat}, gm_good par lt acc (xs ++ ys) ↔ gm_good par lt acc xs ∧ gm_good par lt (xs.reverse ++ acc) ys := by
  induction xs with
  | nil => intro acc; simp [gm_good]
  | cons x xs ih =>
    intro acc
    simp only [List.cons_append, gm_good, ih, List.reverse_cons, List.append_assoc, and_assoc, List.nil_append]
theorem gm_own_ins {e y : Nat} {acc : List Nat} (htr : ∀ a b c, lt a b → lt b c → lt a c) : ∀ {b : List Nat}, gm_own par lt y (b ++ acc) → (∀ y0, b.getLast? = some y0 → lt y0 e) → (b = [] → lt y e) → gm_own par lt y (b ++ e :: acc)
  | [], h, _, h0 => Or.inr ⟨h0 rfl, h⟩
  | x :: b, h, hl, _ => by
    rcases h with h | ⟨h1, h2⟩
    · exact Or.inl h
    · refine Or.inr ⟨h1, gm_own_ins htr h2 (fun y0 hy => ?_) (fun hb => ?_)⟩
      · refine hl y0 ?_
        cases b with
        | nil => cases hy
        | cons z b => rw [List.getLast?_cons_cons]; exact hy
      · subst hb
        exact htr _ _ _ h1 (hl x rfl)
theorem gm_good_ins {e : Nat} {acc : List Nat} (htr : ∀ a b c, lt a b → lt b c → lt a c) : ∀ {ys b : List Nat}, gm_good par lt (b ++ acc) ys → (∀ y0, b.getLast? = some y0 → lt y0 e) → (b = [] → ∀ y0, ys.head? = some y0 → lt y0 e) → gm_good par lt (b ++ e :: acc) ys
  | [], _, _, _, _ => trivial
  | y :: ys, b, h, hl, h0 => by
    obtain ⟨h1, h2⟩ := h
    refine ⟨gm_own_ins htr h1 hl (fun hb => h0 hb y rfl), ?_⟩
    refine gm_good_ins (b := y :: b) htr h2 (fun y0 hy => ?_) (fun hb => by cases hb)
    cases b with
    | nil => exact h0 rfl y0 (by simpa using hy)
    | cons z b => rw [List.getLast?_cons_cons] at hy; exact hl y0 hy
/-- a new element, directly ahead of a smaller one (or at the end), behind its own and greater ones -/
theorem gm_insert {e : Nat} {xs ys : List Nat} (htr : ∀ a b c, lt a b → lt b c → lt a c) (h : gm_good par lt [] (xs ++ ys)) (ho : gm_own par lt e xs.reverse) (h0 : ∀ y0, ys.head? = some y0 → lt y0 e) : gm_good par lt [] (xs ++ e :: ys) := by
  rw [gm_good_app] at h ⊢
  refine ⟨h.1, ?_, ?_⟩
  · rw [List.append_nil]; exact ho
  · exact gm_good_ins (b := []) htr h.2 (fun _ q => by cases q) (fun _ => h0)
theorem gm_own_filter {S : Nat → Bool} {e : Nat} (hS : ∀ p, par e = some p → S p = true) : ∀ {acc : List Nat}, gm_own par lt e acc → gm_own par lt e (acc.filter S)
  | [], h => h
  | x :: acc, h => by
    rcases h with h | ⟨h1, h2⟩
    · rw [List.filter_cons_of_pos (hS x h)]
      exact Or.inl h
    · by_cases hx : S x = true
      · rw [List.filter_cons_of_pos hx]
        exact Or.inr ⟨h1, gm_own_filter hS h2⟩
      · rw [List.filter_cons_of_neg hx]
        exact gm_own_filter hS h2
/-- the part of it that a replica holds is good again -/
theorem gm_good_filter {S : Nat → Bool} (hS : ∀ e p, S e = true → par e = some p → S p = true) : ∀ {l acc : List Nat}, gm_good par lt acc l → gm_good par lt (acc.filter S) (l.filter S)
  | [], _, _ => trivial
  | e :: l, acc, h => by
    obtain ⟨h1, h2⟩ := h
    have ih := gm_good_filter hS h2
    by_cases hx : S e = true
    · rw [List.filter_cons_of_pos hx] at ih
      rw [List.filter_cons_of_pos hx]
      exact ⟨gm_own_filter (fun p hp => hS e p hx hp) h1, ih⟩
    · rw [List.filter_cons_of_neg hx] at ih
      rw [List.filter_cons_of_neg hx]
      exact ih
theorem gm_own_mem {e : Nat} : ∀ {acc : List Nat}, gm_own par lt e acc → par e = none ∨ ∃ p ∈ acc, par e = some p
  | [], h => Or.inl h
  | x :: acc, h => by
    rcases h with h | ⟨-, h⟩
    · exact Or.inr ⟨x, List.mem_cons_self, h⟩
    · rcases gm_own_mem h with h | ⟨p, hp, h⟩
      · exact Or.inl h
      · exact Or.inr ⟨p, List.mem_cons_of_mem _ hp, h⟩
theorem gm_own_skip {e a : Nat} {acc : List Nat} (hm : par e = none ∨ ∃ p ∈ acc, par e = some p) (ha : a ∉ acc) : ∀ {st : List Nat}, (∀ x ∈ acc, x ∉ st) → gm_own par lt e (st ++ a :: acc) → lt e a
  | [], _, h => by
    rcases h with h | h
    · exfalso
      rcases hm with g | ⟨p, hp, g⟩
      · rw [h] at g; cases g
      · rw [h] at g; cases g; exact ha hp
    · exact h.1
  | x :: st, hd, h => by
    rcases h with h | h
    · exfalso
      rcases hm with g | ⟨p, hp, g⟩
      · rw [h] at g; cases g
      · rw [h] at g; cases g; exact hd x hp List.mem_cons_self
    · exact gm_own_skip hm ha (fun y hy q => hd y hy (List.mem_cons_of_mem _ q)) h.2
theorem gm_step {a b : Nat} {l acc : List Nat} (h : gm_good par lt acc (a :: l)) (hb : gm_own par lt b acc) (hl : b ∈ l) (hn : ∀ x ∈ acc, x ∉ a :: l) : lt b a := by
  obtain ⟨st, t, rfl⟩ := List.append_of_mem hl
  have h2 := (gm_good_app.mp h.2).2.1
  have hm := gm_own_mem hb
  refine gm_own_skip (st := st.reverse) hm (fun q => hn a q List.mem_cons_self) (fun x hx q => hn x hx ?_) h2
  simp at q
  simp [q]
/-- one set has at most one good list -/
theorem gm_unique (has : ∀ a b, lt a b → ¬ lt b a) : ∀ {l1 l2 acc : List Nat}, gm_good par lt acc l1 → gm_good par lt acc l2 → l1.Nodup → l2.Nodup → (∀ x ∈ acc, x ∉ l1) → (∀ x, x ∈ l1 ↔ x ∈ l2) → l1 = l2
  | [], [], _, _, _, _, _, _, _ => rfl
  | [], b :: l2, _, _, _, _, _, _, hm => absurd ((hm b).mpr List.mem_cons_self) (by simp)
  | a :: l1, [], _, _, _, _, _, _, hm => absurd ((hm a).mp List.mem_cons_self) (by simp)
  | a :: l1, b :: l2, acc, h1, h2, n1, n2, hd, hm => by
    have hd2 : ∀ x ∈ acc, x ∉ b :: l2 := fun x hx q => hd x hx ((hm x).mpr q)
    by_cases hab : a = b
    · subst hab
      rw [List.nodup_cons] at n1 n2
      have ih := gm_unique has (acc := a :: acc) h1.2 h2.2 n1.2 n2.2 (fun x hx q => by
        rcases List.mem_cons.mp hx with h | h
        · rw [h] at q; exact n1.1 q
        · exact hd x h (List.mem_cons_of_mem _ q)) (fun x => by
        constructor
        · intro q
          rcases List.mem_cons.mp ((hm x).mp (List.mem_cons_of_mem _ q)) with h | h
          · rw [h] at q; exact absurd q n1.1
          · exact h
        · intro q
          rcases List.mem_cons.mp ((hm x).mpr (List.mem_cons_of_mem _ q)) with h | h
          · rw [h] at q; exact absurd q n2.1
          · exact h)
      rw [ih]
    · exfalso
      have hb : b ∈ l1 := by
        rcases List.mem_cons.mp ((hm b).mpr List.mem_cons_self) with h | h
        · exact absurd h.symm hab
        · exact h
      have ha : a ∈ l2 := by
        rcases List.mem_cons.mp ((hm a).mp List.mem_cons_self) with h | h
        · exact absurd h hab
        · exact h
      exact has _ _ (gm_step h1 h2.1 hb hd) (gm_step h2 h1.1 ha hd2)
/-- stamps -/
def gm_lt (ct mk : Nat → Nat) (a b : Nat) : Prop := ct a < ct b ∨ (ct a = ct b ∧ mk a < mk b)
theorem gm_lt_tr {ct mk : Nat → Nat} (a b c : Nat) (h1 : gm_lt ct mk a b) (h2 : gm_lt ct mk b c) : gm_lt ct mk a c := by
  unfold gm_lt at *; omega
theorem gm_lt_as {ct mk : Nat → Nat} (a b : Nat) (h1 : gm_lt ct mk a b) : ¬ gm_lt ct mk b a := by
  unfold gm_lt at *; omega
theorem gm_pig {n : Nat} {l : List Nat} (hn : l.Nodup) (h : ∀ x ∈ l, x < n) : l.length ≤ n := by
  have h1 := List.Nodup.length_le_of_subset (l₂ := List.range n) hn (fun x hx => List.mem_range.mpr (h x hx))
  simpa using h1
theorem gm_filter_eq {L : List Nat} {f g : Nat → Bool} : L.filter f = L.filter g ↔ ∀ x ∈ L, f x = g x := by
  constructor
  · intro h x hx
    have h1 : x ∈ L.filter f ↔ x ∈ L.filter g := by rw [h]
    simp only [List.mem_filter, hx, true_and] at h1
    cases hf : f x <;> cases hg : g x <;> simp_all
  · intro h
    exact List.filter_congr h
theorem gm_count {L : List Nat} {n : Nat} {d f : Nat → Bool} (hn : L.Nodup) (hm : ∀ x, x ∈ L ↔ x < n ∧ d x = false) : L.countP f = (List.range n).countP (fun k => f k && !d k) := by
  have hp : L.Perm ((List.range n).filter (fun k => !d k)) := by
    rw [List.perm_ext_iff_of_nodup hn (List.Pairwise.filter _ List.nodup_range)]
    intro x
    rw [hm, List.mem_filter, List.mem_range]
    simp
  rw [hp.countP_eq, List.countP_filter]
end GM
