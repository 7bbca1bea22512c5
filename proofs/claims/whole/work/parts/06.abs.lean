/-! The state as mathematics: n operations; each a delete or not, what it speaks of, its stamp (count, maker), who holds it, its number. -/
section AB
def ab_up {α : Type} (f : Nat → α) (k : Nat) (v : α) : Nat → α := fun j => if j = k then v else f j
theorem ab_us {α : Type} {f : Nat → α} {k : Nat} {v : α} : ab_up f k v k = v := by simp [ab_up]
theorem ab_un {α : Type} {f : Nat → α} {k j : Nat} {v : α} (h : j ≠ k) : ab_up f k v j = f j := by simp [ab_up, h]
def ab_max (h : Nat → Bool) (f : Nat → Nat) : Nat → Nat
  | 0 => 0
  | k + 1 => if h k = true then Nat.max (ab_max h f k) (f k) else ab_max h f k
theorem ab_max_ge {h : Nat → Bool} {f : Nat → Nat} : ∀ {n k : Nat}, k < n → h k = true → f k ≤ ab_max h f n
  | 0, _, hk, _ => by omega
  | n + 1, k, hk, hh => by
    unfold ab_max
    by_cases e : k = n
    · subst e
      rw [if_pos hh]
      exact Nat.le_max_right _ _
    · have ih := ab_max_ge (h := h) (f := f) (n := n) (k := k) (by omega) hh
      split
      · exact Nat.le_trans ih (Nat.le_max_left _ _)
      · exact ih
theorem ab_max_le {h : Nat → Bool} {f : Nat → Nat} {B : Nat} : ∀ {n : Nat}, (∀ k, k < n → h k = true → f k ≤ B) → ab_max h f n ≤ B
  | 0, _ => Nat.zero_le _
  | n + 1, hb => by
    have ih := ab_max_le (h := h) (f := f) (B := B) (n := n) (fun k hk => hb k (by omega))
    unfold ab_max
    split
    · exact Nat.max_le.mpr ⟨ih, hb n (by omega) (by assumption)⟩
    · exact ih
theorem ab_max_congr {h h' : Nat → Bool} {f f' : Nat → Nat} : ∀ {n : Nat}, (∀ k, k < n → h k = h' k ∧ f k = f' k) → ab_max h f n = ab_max h' f' n
  | 0, _ => rfl
  | n + 1, hb => by
    have ih := ab_max_congr (h := h) (h' := h') (f := f) (f' := f') (n := n) (fun k hk => hb k (by omega))
    unfold ab_max
    rw [ih, (hb n (by omega)).1, (hb n (by omega)).2]
/-- one more held: the greatest is the greater of both -/
theorem ab_max_up {h : Nat → Bool} {f : Nat → Nat} {j : Nat} : ∀ {n : Nat}, j < n → ab_max (ab_up h j true) f n = Nat.max (ab_max h f n) (f j)
  | 0, hj => by omega
  | n + 1, hj => by
    by_cases e : j = n
    · subst e
      have h1 : ab_max (ab_up h j true) f j = ab_max h f j := ab_max_congr (fun k hk => ⟨ab_un (by omega), rfl⟩)
      unfold ab_max
      rw [ab_us, if_pos rfl, h1]
      show Nat.max (ab_max h f j) (f j) = Nat.max (if h j = true then Nat.max (ab_max h f j) (f j) else ab_max h f j) (f j)
      split
      · simp only [Nat.max_def]
        repeat' split
        all_goals omega
      · rfl
    · have ih := ab_max_up (h := h) (f := f) (j := j) (n := n) (by omega)
      show (if ab_up h j true n = true then Nat.max (ab_max (ab_up h j true) f n) (f n) else ab_max (ab_up h j true) f n) = Nat.max (if h n = true then Nat.max (ab_max h f n) (f n) else ab_max h f n) (f j)
      rw [ab_un (fun q => e q.symm), ih]
      split
      · simp only [Nat.max_def]
        repeat' split
        all_goals omega
      · rfl
abbrev AS : Type := Nat × (Nat → Bool) × (Nat → Int32) × (Nat → Nat) × (Nat → Nat) × (Nat → Nat → Bool) × (Nat → Int64)
def a_n (a : AS) : Nat := a.1
def a_dl (a : AS) : Nat → Bool := a.2.1
def a_tg (a : AS) : Nat → Int32 := a.2.2.1
def a_ct (a : AS) : Nat → Nat := a.2.2.2.1
def a_mk (a : AS) : Nat → Nat := a.2.2.2.2.1
def a_hd (a : AS) : Nat → Nat → Bool := a.2.2.2.2.2.1
def a_vl (a : AS) : Nat → Int64 := a.2.2.2.2.2.2
def a_gr (a : AS) (r : Nat) : Nat := ab_max (a_hd a r) (a_ct a) (a_n a)
def a_par (a : AS) (k : Nat) : Option Nat := if a_tg a k = -1 then none else some (a_tg a k).toNatClampNeg
def a_lt (a : AS) : Nat → Nat → Prop := gm_lt (a_ct a) (a_mk a)
/-- r holds a delete of e -/
def a_del (a : AS) (r e : Nat) : Bool := (List.range (a_n a)).any (fun k => a_dl a k && (a_tg a k == nI e) && a_hd a r k)
def a_seen (a : AS) (r e : Nat) : Bool := a_hd a r e && !a_del a r e
def ab_0 : AS := (0, fun _ => false, fun _ => 0, fun _ => 0, fun _ => 0, fun _ _ => false, fun _ => 0)
def ab_new (a : AS) (r : Nat) (t : Int32) (d : Bool) (v : Int64) : AS :=
  (a_n a + 1, ab_up (a_dl a) (a_n a) d, ab_up (a_tg a) (a_n a) t, ab_up (a_ct a) (a_n a) (a_gr a r + 1), ab_up (a_mk a) (a_n a) r, ab_up (a_hd a) r (ab_up (a_hd a r) (a_n a) true), ab_up (a_vl a) (a_n a) v)
def ab_take (a : AS) (r k : Nat) : AS := (a_n a, a_dl a, a_tg a, a_ct a, a_mk a, ab_up (a_hd a) r (ab_up (a_hd a r) k true), a_vl a)
def ab_I (a : AS) : Prop :=
  a_n a ≤ 160 ∧ (∀ r k, a_n a ≤ k → a_hd a r k = false) ∧
  (∀ k, k < a_n a → (a_tg a k = -1 ∧ a_dl a k = false) ∨ ∃ j, j < k ∧ a_tg a k = nI j ∧ a_dl a j = false ∧ a_ct a j < a_ct a k ∧ ∀ r, a_hd a r k = true → a_hd a r j = true) ∧
  (∀ k, k < a_n a → a_mk a k < 4 ∧ a_hd a (a_mk a k) k = true ∧ a_ct a k ≤ k + 1) ∧
  (∀ j k, j < k → k < a_n a → a_mk a j = a_mk a k → a_ct a j < a_ct a k)
theorem ab_I0 : ab_I ab_0 := ⟨by decide, fun _ _ _ => rfl, fun k h => absurd h (Nat.not_lt_zero k), fun k h => absurd h (Nat.not_lt_zero k), fun _ k _ h => absurd h (Nat.not_lt_zero k)⟩
theorem ab_gr_le {a : AS} (h : ab_I a) (r : Nat) : a_gr a r ≤ a_n a := ab_max_le (fun k hk _ => by have := (h.2.2.2.1 k hk).2.2; omega)
theorem ab_gr_ge {a : AS} {r k : Nat} (hk : k < a_n a) (h : a_hd a r k = true) : a_ct a k ≤ a_gr a r := ab_max_ge hk h
theorem ab_hd_lt {a : AS} (h : ab_I a) {r k : Nat} (hk : a_hd a r k = true) : k < a_n a := by
  rcases Nat.lt_or_ge k (a_n a) with h1 | h1
  · exact h1
  · rw [h.2.1 r k h1] at hk; cases hk
theorem ab_up_hd {f : Nat → Nat → Bool} {r k s i : Nat} : ab_up f r (ab_up (f r) k true) s i = true ↔ (s = r ∧ i = k) ∨ f s i = true := by
  by_cases h1 : s = r
  · subst h1
    rw [ab_us]
    by_cases h2 : i = k
    · subst h2; rw [ab_us]; simp
    · rw [ab_un h2]; simp [h2]
  · rw [ab_un h1]; simp [h1]
theorem ab_up_hdF {f : Nat → Nat → Bool} {r k s i : Nat} (h : i ≠ k) : ab_up f r (ab_up (f r) k true) s i = f s i := by
  by_cases h1 : s = r
  · subst h1
    rw [ab_us, ab_un h]
  · rw [ab_un h1]
/-- what a new operation may speak of -/
def ab_ok (a : AS) (r : Nat) (t : Int32) (d : Bool) : Prop := (t = -1 ∧ d = false) ∨ ∃ j, j < a_n a ∧ t = nI j ∧ a_dl a j = false ∧ a_hd a r j = true
theorem ab_I_new {a : AS} {r : Nat} {t : Int32} {d : Bool} {v : Int64} (h : ab_I a) (hn : a_n a < 160) (hr : r < 4) (ht : ab_ok a r t d) : ab_I (ab_new a r t d v) := by
  obtain ⟨h1, h2, h3, h4, h5⟩ := id h
  refine ⟨?_, ?_, ?_, ?_, ?_⟩
  · show a_n a + 1 ≤ 160
    omega
  · intro s k hk
    have hk' : a_n a + 1 ≤ k := hk
    show ab_up (a_hd a) r (ab_up (a_hd a r) (a_n a) true) s k = false
    rw [ab_up_hdF (by omega)]
    exact h2 s k (by omega)
  · intro k hk
    have hk' : k < a_n a + 1 := hk
    show (ab_up (a_tg a) (a_n a) t k = -1 ∧ ab_up (a_dl a) (a_n a) d k = false) ∨ ∃ j, j < k ∧ ab_up (a_tg a) (a_n a) t k = nI j ∧ ab_up (a_dl a) (a_n a) d j = false ∧ ab_up (a_ct a) (a_n a) (a_gr a r + 1) j < ab_up (a_ct a) (a_n a) (a_gr a r + 1) k ∧ ∀ s, ab_up (a_hd a) r (ab_up (a_hd a r) (a_n a) true) s k = true → ab_up (a_hd a) r (ab_up (a_hd a r) (a_n a) true) s j = true
    by_cases e : k = a_n a
    · subst e
      rw [ab_us, ab_us]
      rcases ht with ht | ⟨j, hj, e1, e2, e3⟩
      · exact Or.inl ht
      · refine Or.inr ⟨j, hj, e1, ?_, ?_, ?_⟩
        · rw [ab_un (by omega)]; exact e2
        · rw [ab_un (by omega), ab_us]
          have := ab_gr_ge hj e3
          omega
        · intro s hs
          rw [ab_up_hd] at hs
          rw [ab_up_hd]
          rcases hs with ⟨hs, -⟩ | hs
          · rw [hs]; exact Or.inr e3
          · rw [h2 s _ (Nat.le_refl _)] at hs; cases hs
    · have hk2 : k < a_n a := by omega
      rw [ab_un e, ab_un e, ab_un e]
      rcases h3 k hk2 with g | ⟨j, hj, g1, g2, g3, g4⟩
      · exact Or.inl g
      · refine Or.inr ⟨j, hj, g1, ?_, ?_, ?_⟩
        · rw [ab_un (by omega)]; exact g2
        · rw [ab_un (by omega)]; exact g3
        · intro s hs
          rw [ab_up_hdF e] at hs
          rw [ab_up_hdF (by omega)]
          exact g4 s hs
  · intro k hk
    have hk' : k < a_n a + 1 := hk
    show ab_up (a_mk a) (a_n a) r k < 4 ∧ ab_up (a_hd a) r (ab_up (a_hd a r) (a_n a) true) (ab_up (a_mk a) (a_n a) r k) k = true ∧ ab_up (a_ct a) (a_n a) (a_gr a r + 1) k ≤ k + 1
    by_cases e : k = a_n a
    · subst e
      rw [ab_us, ab_us, ab_us, ab_us]
      refine ⟨hr, rfl, ?_⟩
      have := ab_gr_le h r
      omega
    · rw [ab_un e, ab_un e, ab_up_hdF e]
      exact h4 k (by omega)
  · intro j k hjk hk hm
    have hk' : k < a_n a + 1 := hk
    have hm' : ab_up (a_mk a) (a_n a) r j = ab_up (a_mk a) (a_n a) r k := hm
    show ab_up (a_ct a) (a_n a) (a_gr a r + 1) j < ab_up (a_ct a) (a_n a) (a_gr a r + 1) k
    rw [ab_un (show j ≠ a_n a by omega)] at hm' ⊢
    by_cases e : k = a_n a
    · subst e
      rw [ab_us] at hm' ⊢
      have g := (h4 j hjk).2.1
      rw [hm'] at g
      have := ab_gr_ge hjk g
      omega
    · rw [ab_un e] at hm' ⊢
      exact h5 j k hjk (by omega) hm'
theorem ab_nI_inj {i j : Nat} (hi : i < 2147483648) (hj : j < 2147483648) (h : nI i = nI j) : i = j := (nI_eq hi hj).mp h
theorem ab_nI_m1 {i : Nat} (hi : i < 2147483648) : nI i ≠ -1 := by
  intro h
  have h1 := nI_pos (n := i) hi
  rw [h] at h1
  exact h1 (by decide)
theorem ab_I_take {a : AS} {r k : Nat} (h : ab_I a) (hk : k < a_n a) (ht : ∀ j, j < k → a_tg a k = nI j → a_hd a r j = true) : ab_I (ab_take a r k) := by
  obtain ⟨h1, h2, h3, h4, h5⟩ := id h
  refine ⟨h1, ?_, ?_, ?_, h5⟩
  · intro s i hi
    have hi' : a_n a ≤ i := hi
    show ab_up (a_hd a) r (ab_up (a_hd a r) k true) s i = false
    rw [ab_up_hdF (by omega)]
    exact h2 s i hi'
  · intro i hi
    rcases h3 i hi with g | ⟨j, hj, g1, g2, g3, g4⟩
    · exact Or.inl g
    · refine Or.inr ⟨j, hj, g1, g2, g3, fun s hs => ?_⟩
      have hs' : ab_up (a_hd a) r (ab_up (a_hd a r) k true) s i = true := hs
      show ab_up (a_hd a) r (ab_up (a_hd a r) k true) s j = true
      rw [ab_up_hd] at hs' ⊢
      rcases hs' with ⟨rfl, rfl⟩ | hs'
      · exact Or.inr (ht j hj g1)
      · exact Or.inr (g4 s hs')
  · intro i hi
    refine ⟨(h4 i hi).1, ?_, (h4 i hi).2.2⟩
    show ab_up (a_hd a) r (ab_up (a_hd a r) k true) (a_mk a i) i = true
    exact ab_up_hd.mpr (Or.inr (h4 i hi).2.1)
/-- stamps of different operations differ -/
theorem ab_tot {a : AS} (h : ab_I a) {i j : Nat} (hi : i < a_n a) (hj : j < a_n a) (hne : i ≠ j) (hn : ¬ a_lt a i j) : a_lt a j i := by
  unfold a_lt gm_lt at *
  rcases Nat.lt_trichotomy i j with g | g | g
  · by_cases e : a_mk a i = a_mk a j
    · have := h.2.2.2.2 i j g hj e
      omega
    · omega
  · exact absurd g hne
  · by_cases e : a_mk a j = a_mk a i
    · have := h.2.2.2.2 j i g hi e
      omega
    · omega
theorem ab_par_lt {a : AS} (h : ab_I a) {k p : Nat} (hk : k < a_n a) (hp : a_par a k = some p) : p < k ∧ a_tg a k = nI p ∧ a_dl a p = false ∧ a_ct a p < a_ct a k ∧ ∀ r, a_hd a r k = true → a_hd a r p = true := by
  have hn := h.1
  rcases h.2.2.1 k hk with g | ⟨j, hj, g1, g2, g3, g4⟩
  · unfold a_par at hp
    rw [g.1] at hp
    simp at hp
  · unfold a_par at hp
    rw [if_neg (by rw [g1]; exact ab_nI_m1 (by omega)), g1, nI_clamp (by omega)] at hp
    cases hp
    exact ⟨hj, g1, g2, g3, g4⟩
theorem ab_par_nI {a : AS} {k j : Nat} (hj : j < 2147483648) (h : a_tg a k = nI j) : a_par a k = some j := by
  unfold a_par
  rw [if_neg (by rw [h]; exact ab_nI_m1 hj), h, nI_clamp hj]
theorem ab_par_m1 {a : AS} {k : Nat} (h : a_tg a k = -1) : a_par a k = none := by
  unfold a_par
  rw [if_pos h]
/-- the list speaks of old operations only: nothing changes for it where theirs doesn't -/
theorem gm_own_congr {par par' : Nat → Option Nat} {lt lt' : Nat → Nat → Prop} {e : Nat} (hp : par e = par' e) : ∀ {acc : List Nat}, (∀ x ∈ acc, lt e x → lt' e x) → gm_own par lt e acc → gm_own par' lt' e acc
  | [], _, h => by
    have h' : par e = none := h
    show par' e = none
    rw [← hp]; exact h'
  | x :: acc, hl, h => by
    rcases h with h | ⟨h1, h2⟩
    · exact Or.inl (by rw [← hp]; exact h)
    · exact Or.inr ⟨hl x List.mem_cons_self h1, gm_own_congr hp (fun y hy => hl y (List.mem_cons_of_mem _ hy)) h2⟩
theorem gm_good_congr {par par' : Nat → Option Nat} {lt lt' : Nat → Nat → Prop} : ∀ {l acc : List Nat}, (∀ e ∈ l, par e = par' e) → (∀ e ∈ l, ∀ x, x ∈ acc ∨ x ∈ l → lt e x → lt' e x) → gm_good par lt acc l → gm_good par' lt' acc l
  | [], _, _, _, _ => trivial
  | e :: l, acc, hp, hl, h => by
    obtain ⟨h1, h2⟩ := h
    refine ⟨gm_own_congr (hp e List.mem_cons_self) (fun x hx => hl e List.mem_cons_self x (Or.inl hx)) h1, ?_⟩
    refine gm_good_congr (fun y hy => hp y (List.mem_cons_of_mem _ hy)) (fun y hy x hx => hl y (List.mem_cons_of_mem _ hy) x ?_) h2
    rcases hx with hx | hx
    · rcases List.mem_cons.mp hx with hx | hx
      · exact Or.inr (by rw [hx]; exact List.mem_cons_self)
      · exact Or.inl hx
    · exact Or.inr (List.mem_cons_of_mem _ hx)
/-- the good list of all elements -/
def ab_row (a : AS) (L : List Nat) : Prop := L.Nodup ∧ (∀ x, x ∈ L ↔ x < a_n a ∧ a_dl a x = false) ∧ gm_good (a_par a) (a_lt a) [] L
/-- the good list of what r holds -/
def ab_own (a : AS) (r : Nat) (L : List Nat) : Prop := L.Nodup ∧ (∀ x, x ∈ L ↔ x < a_n a ∧ a_dl a x = false ∧ a_hd a r x = true) ∧ gm_good (a_par a) (a_lt a) [] L
theorem ab_own_eq {a : AS} {r : Nat} {L M : List Nat} (h : ab_I a) (hL : ab_row a L) (hM : ab_own a r M) : M = L.filter (a_hd a r) := by
  refine gm_unique (par := a_par a) (lt := a_lt a) gm_lt_as hM.2.2 ?_ hM.1 (List.Pairwise.filter _ hL.1) (fun x hx => by cases hx) (fun x => ?_)
  · have hg := gm_good_filter (S := fun e => decide (e < a_n a) && a_hd a r e) (fun e p he hp => ?_) hL.2.2
    · have he : L.filter (fun e => decide (e < a_n a) && a_hd a r e) = L.filter (a_hd a r) := gm_filter_eq.mpr (fun x hx => by simp [((hL.2.1 x).mp hx).1])
      rw [he] at hg
      exact hg
    · simp only [Bool.and_eq_true, decide_eq_true_eq] at he ⊢
      have g := ab_par_lt h he.1 hp
      exact ⟨by omega, g.2.2.2.2 r he.2⟩
  · rw [hM.2.1, List.mem_filter, hL.2.1]
    exact ⟨fun q => ⟨⟨q.1, q.2.1⟩, q.2.2⟩, fun q => ⟨q.1.1, q.1.2, q.2⟩⟩
theorem ab_row_take {a : AS} {r k : Nat} {L : List Nat} (h : ab_row a L) : ab_row (ab_take a r k) L := h
theorem ab_lt_old {a : AS} {r : Nat} {t : Int32} {d : Bool} {v : Int64} {i j : Nat} (hi : i < a_n a) (hj : j < a_n a) : a_lt (ab_new a r t d v) i j ↔ a_lt a i j := by
  show gm_lt (ab_up (a_ct a) (a_n a) _) (ab_up (a_mk a) (a_n a) _) i j ↔ _
  unfold gm_lt a_lt gm_lt
  rw [ab_un (show i ≠ a_n a by omega), ab_un (show j ≠ a_n a by omega), ab_un (show i ≠ a_n a by omega), ab_un (show j ≠ a_n a by omega)]
theorem ab_par_old {a : AS} {r : Nat} {t : Int32} {d : Bool} {v : Int64} {i : Nat} (hi : i < a_n a) : a_par (ab_new a r t d v) i = a_par a i := by
  show (if ab_up (a_tg a) (a_n a) t i = -1 then none else some (ab_up (a_tg a) (a_n a) t i).toNatClampNeg) = _
  rw [ab_un (show i ≠ a_n a by omega)]
  rfl
theorem ab_good_new {a : AS} {r : Nat} {t : Int32} {d : Bool} {v : Int64} {L : List Nat} (h : ab_row a L) : gm_good (a_par (ab_new a r t d v)) (a_lt (ab_new a r t d v)) [] L := by
  refine gm_good_congr (fun e he => (ab_par_old ((h.2.1 e).mp he).1).symm) (fun e he x hx hl => ?_) h.2.2
  rcases hx with hx | hx
  · cases hx
  · exact (ab_lt_old ((h.2.1 e).mp he).1 ((h.2.1 x).mp hx).1).mpr hl
/-- a delete: the row stays -/
theorem ab_row_del {a : AS} {r : Nat} {t : Int32} {v : Int64} {L : List Nat} (h : ab_row a L) : ab_row (ab_new a r t true v) L := by
  refine ⟨h.1, fun x => ?_, ab_good_new h⟩
  show x ∈ L ↔ x < a_n a + 1 ∧ ab_up (a_dl a) (a_n a) true x = false
  rw [h.2.1]
  by_cases e : x = a_n a
  · subst e; rw [ab_us]; simp
  · rw [ab_un e]
    exact ⟨fun q => ⟨by omega, q.2⟩, fun q => ⟨by omega, q.2⟩⟩
/-- an insert: woven in -/
theorem ab_row_ins {a : AS} {r : Nat} {t : Int32} {v : Int64} {xs ys : List Nat} (h : ab_row a (xs ++ ys)) (ho : gm_own (a_par (ab_new a r t false v)) (a_lt (ab_new a r t false v)) (a_n a) xs.reverse) (h0 : ∀ y0, ys.head? = some y0 → a_lt (ab_new a r t false v) y0 (a_n a)) : ab_row (ab_new a r t false v) (xs ++ a_n a :: ys) := by
  have hnm : a_n a ∉ xs ++ ys := fun q => by have := ((h.2.1 _).mp q).1; omega
  refine ⟨?_, fun x => ?_, gm_insert gm_lt_tr (ab_good_new h) ho h0⟩
  · have h1 := h.1
    have hp : (xs ++ a_n a :: ys).Perm (a_n a :: (xs ++ ys)) := List.perm_middle
    rw [hp.nodup_iff, List.nodup_cons]
    exact ⟨hnm, h1⟩
  · have hm : x ∈ xs ++ a_n a :: ys ↔ x = a_n a ∨ x ∈ xs ++ ys := by
      simp only [List.mem_append, List.mem_cons]
      constructor
      · rintro (q | q | q)
        · exact Or.inr (Or.inl q)
        · exact Or.inl q
        · exact Or.inr (Or.inr q)
      · rintro (q | q | q)
        · exact Or.inr (Or.inl q)
        · exact Or.inl q
        · exact Or.inr (Or.inr q)
    rw [hm, h.2.1]
    show _ ↔ x < a_n a + 1 ∧ ab_up (a_dl a) (a_n a) false x = false
    by_cases e : x = a_n a
    · subst e; rw [ab_us]; simp
    · rw [ab_un e]
      constructor
      · rintro (q | q)
        · exact absurd q e
        · exact ⟨by omega, q.2⟩
      · intro q
        exact Or.inr ⟨by omega, q.2⟩
end AB
