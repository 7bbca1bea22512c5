section LK
def nx_P (a : AS) (r : Nat) (pr ls : Option Nat) (k : Nat) : Bool := !a_dl a k && (a_hd a r k && (decide (a_par a k = pr) && (match ls with | none => true | some q => a_ltb a q k)))
def nx_on (pr : Option Nat) : Int32 := match pr with | none => -1 | some e => nI e
theorem nx_on_iff {a : AS} {pr : Option Nat} {k : Nat} (hI : ab_I a) (hk : k < a_n a) (he : ∀ e, pr = some e → e < a_n a) : a_tg a k = nx_on pr ↔ a_par a k = pr := by
  have hn := hI.1
  cases pr with
  | none =>
    constructor
    · intro h; exact ab_par_m1 h
    · intro h
      unfold a_par at h
      by_cases g : a_tg a k = -1
      · exact g
      · rw [if_neg g] at h; cases h
  | some e =>
    have := he e rfl
    constructor
    · intro h; exact ab_par_nI (by omega) h
    · intro h; exact (ab_par_lt hI hk h).2.1
theorem nx_P_t {a : AS} {r k : Nat} {pr ls : Option Nat} : nx_P a r pr ls k = true ↔ a_dl a k = false ∧ a_hd a r k = true ∧ a_par a k = pr ∧ ∀ q, ls = some q → a_lt a q k := by
  unfold nx_P
  cases ls with
  | none => simp
  | some q =>
    simp only [Bool.and_eq_true, Bool.not_eq_true', decide_eq_true_eq, a_ltb_t]
    constructor
    · rintro ⟨h1, h2, h3, h4⟩
      exact ⟨h1, h2, h3, fun q2 e => by cases e; exact h4⟩
    · rintro ⟨h1, h2, h3, h4⟩
      exact ⟨h1, h2, h3, h4 q rfl⟩
def nx_inv (P : Nat → Bool) (lt : Nat → Nat → Prop) (i : Nat) (bv : Int32) : Prop := (bv = -1 ∧ ∀ k, k < i → P k = false) ∨ ∃ b, b < i ∧ bv = nI b ∧ P b = true ∧ ∀ k, k < i → P k = true → k = b ∨ lt b k
theorem nx_skip {P : Nat → Bool} {lt : Nat → Nat → Prop} {i : Nat} {bv : Int32} (h : nx_inv P lt i bv) (hp : P i = false) : nx_inv P lt (i + 1) bv := by
  rcases h with ⟨h1, h2⟩ | ⟨b, h1, h2, h3, h4⟩
  · refine Or.inl ⟨h1, fun k hk => ?_⟩
    by_cases e : k = i
    · rw [e]; exact hp
    · exact h2 k (by omega)
  · refine Or.inr ⟨b, by omega, h2, h3, fun k hk hpk => ?_⟩
    by_cases e : k = i
    · rw [e, hp] at hpk; cases hpk
    · exact h4 k (by omega) hpk
theorem nx_new {P : Nat → Bool} {lt : Nat → Nat → Prop} {i : Nat} (h2 : ∀ k, k < i → P k = false) (hp : P i = true) : nx_inv P lt (i + 1) (nI i) := by
  refine Or.inr ⟨i, by omega, rfl, hp, fun k hk hpk => ?_⟩
  by_cases e : k = i
  · exact Or.inl e
  · rw [h2 k (by omega)] at hpk; cases hpk
theorem nx_less {P : Nat → Bool} {lt : Nat → Nat → Prop} {i b : Nat} (htr : ∀ a b c, lt a b → lt b c → lt a c) (h4 : ∀ k, k < i → P k = true → k = b ∨ lt b k) (hp : P i = true) (hl : lt i b) : nx_inv P lt (i + 1) (nI i) := by
  refine Or.inr ⟨i, by omega, rfl, hp, fun k hk hpk => ?_⟩
  by_cases e : k = i
  · exact Or.inl e
  · rcases h4 k (by omega) hpk with g | g
    · rw [g]; exact Or.inr hl
    · exact Or.inr (htr _ _ _ hl g)
theorem nx_keep {P : Nat → Bool} {lt : Nat → Nat → Prop} {i b : Nat} (hb : b < i) (h3 : P b = true) (h4 : ∀ k, k < i → P k = true → k = b ∨ lt b k) (hl : lt b i) : nx_inv P lt (i + 1) (nI b) := by
  refine Or.inr ⟨b, by omega, rfl, h3, fun k hk hpk => ?_⟩
  by_cases e : k = i
  · rw [e]; exact Or.inr hl
  · exact h4 k (by omega) hpk
def lk_I (a : AS) (r : Nat) (R T : List Nat) : Prop := (R ++ T.reverse).Nodup ∧ (∀ x ∈ R ++ T.reverse, x < a_n a ∧ a_dl a x = false ∧ a_hd a r x = true) ∧ gm_good (a_par a) (a_lt a) [] (R ++ T.reverse) ∧ ∀ x ∈ T, ∀ p, a_par a x = some p → p ∈ R
def lk_C (a : AS) (r : Nat) (R T : List Nat) : Prop := ∀ x, x < a_n a → a_dl a x = false → a_hd a r x = true → (a_par a x = none → x ∈ R ++ T.reverse) ∧ ∀ p, a_par a x = some p → p ∈ R → x ∈ R ++ T.reverse
def lk_H (a : AS) (pr : Option Nat) (R T0 : List Nat) : Prop := match pr with
  | none => R = [] ∧ T0 = []
  | some e => (∃ R0, R = R0 ++ [e]) ∧ ∀ y0, T0.getLast? = some y0 → a_lt a y0 e
def lk_Q (a : AS) (r : Nat) (pr : Option Nat) (R T0 cs : List Nat) : Prop := lk_I a r R (T0 ++ cs) ∧ lk_H a pr R T0 ∧ (∀ x ∈ T0, a_par a x ≠ pr) ∧ (∀ x ∈ cs, a_par a x = pr) ∧ (∀ x ∈ cs, ∀ q, cs.getLast? = some q → x = q ∨ a_lt a x q) ∧
  ∀ x, x < a_n a → a_dl a x = false → a_hd a r x = true → a_par a x = pr → x ∈ cs ∨ ∀ q, cs.getLast? = some q → a_lt a q x
theorem lk_len {a : AS} {r : Nat} {R T : List Nat} (h : lk_I a r R T) : R.length + T.length ≤ a_n a := by
  have := gm_pig h.1 (fun x hx => (h.2.1 x hx).1)
  rw [List.length_append, List.length_reverse] at this
  exact this
theorem lk_pre {par : Nat → Option Nat} {lt : Nat → Nat → Prop} {xs ys : List Nat} {k p : Nat} (h : gm_good par lt [] (xs ++ ys)) (hk : k ∈ xs) (hp : par k = some p) : p ∈ xs := by
  obtain ⟨s, t, rfl⟩ := List.append_of_mem hk
  have h1 := (gm_good_app.mp (gm_good_app.mp h).1).2.1
  rcases gm_own_mem h1 with g | ⟨q, hq, g⟩
  · rw [g] at hp; cases hp
  · rw [g] at hp; cases hp
    simp at hq
    simp [hq]
theorem lk_notin {a : AS} {r k : Nat} {pr : Option Nat} {R T0 cs : List Nat} (hI : ab_I a) (h : lk_Q a r pr R T0 cs) (hk : k < a_n a) (hp : a_par a k = pr) (hq : ∀ q, cs.getLast? = some q → a_lt a q k) : k ∉ R ++ (T0 ++ cs).reverse := by
  obtain ⟨⟨n1, n2, n3, n4⟩, hH, h3, h4, h5, h6⟩ := h
  intro hm
  rcases List.mem_append.mp hm with g | g
  · cases pr with
    | none => rw [hH.1] at g; cases g
    | some e =>
      obtain ⟨⟨R0, rfl⟩, -⟩ := hH
      have hlt := (ab_par_lt hI hk hp).1
      rw [List.append_assoc] at n3 n1
      rcases List.mem_append.mp g with g | g
      · have he := lk_pre n3 g hp
        rw [List.nodup_append] at n1
        exact n1.2.2 e he e (by simp) rfl
      · have := List.mem_singleton.mp g
        omega
  · rw [List.mem_reverse] at g
    rcases List.mem_append.mp g with g | g
    · exact h3 k g hp
    · cases hl : cs.getLast? with
      | none => rw [List.getLast?_eq_none_iff] at hl; rw [hl] at g; cases g
      | some q =>
        have g1 := hq q hl
        rcases h5 k g q hl with e | e
        · rw [e] at g1; exact gm_lt_as _ _ g1 g1
        · exact gm_lt_as _ _ g1 e
theorem lk_push {a : AS} {r k : Nat} {pr : Option Nat} {R T0 cs : List Nat} (hI : ab_I a) (h : lk_Q a r pr R T0 cs) (hk : k < a_n a) (hP : nx_P a r pr cs.getLast? k = true) (hmin : ∀ x, x < a_n a → nx_P a r pr cs.getLast? x = true → x = k ∨ a_lt a k x) : lk_Q a r pr R T0 (cs ++ [k]) ∧ R.length + (T0 ++ cs).length < a_n a := by
  obtain ⟨hd, hh, hp, hq⟩ := nx_P_t.mp hP
  have hni := lk_notin hI h hk hp hq
  obtain ⟨⟨n1, n2, n3, n4⟩, hH, h3, h4, h5, h6⟩ := h
  have el : R ++ (T0 ++ (cs ++ [k])).reverse = R ++ k :: (T0 ++ cs).reverse := by
    rw [← List.append_assoc, List.reverse_append]; rfl
  have hown : gm_own (a_par a) (a_lt a) k R.reverse := by
    cases pr with
    | none => rw [hH.1]; exact hp
    | some e =>
      obtain ⟨⟨R0, rfl⟩, -⟩ := hH
      rw [List.reverse_append]
      exact Or.inl hp
  have hhead : ∀ y0, (T0 ++ cs).reverse.head? = some y0 → a_lt a y0 k := by
    intro y0 hy
    rw [List.head?_reverse] at hy
    cases hl : cs.getLast? with
    | none =>
      rw [List.getLast?_eq_none_iff] at hl
      subst hl
      rw [List.append_nil] at hy
      cases pr with
      | none => rw [hH.2] at hy; cases hy
      | some e => exact gm_lt_tr _ _ _ (hH.2 y0 hy) (Or.inl (ab_par_lt hI hk hp).2.2.2.1)
    | some q =>
      rw [List.getLast?_append, hl] at hy
      cases hy
      exact hq y0 hl
  have hnd : (R ++ k :: (T0 ++ cs).reverse).Nodup := by
    have hpm : (R ++ k :: (T0 ++ cs).reverse).Perm (k :: (R ++ (T0 ++ cs).reverse)) := List.perm_middle
    rw [hpm.nodup_iff, List.nodup_cons]
    exact ⟨hni, n1⟩
  have hmem : ∀ x, x ∈ R ++ k :: (T0 ++ cs).reverse → x = k ∨ x ∈ R ++ (T0 ++ cs).reverse := by
    intro x hx
    rcases List.mem_append.mp hx with g | g
    · exact Or.inr (List.mem_append_left _ g)
    · rcases List.mem_cons.mp g with g | g
      · exact Or.inl g
      · exact Or.inr (List.mem_append_right _ g)
  have hall : ∀ x ∈ R ++ k :: (T0 ++ cs).reverse, x < a_n a ∧ a_dl a x = false ∧ a_hd a r x = true := by
    intro x hx
    rcases hmem x hx with g | g
    · rw [g]; exact ⟨hk, hd, hh⟩
    · exact n2 x g
  have hlen := gm_pig hnd (fun x hx => (hall x hx).1)
  refine ⟨⟨⟨?_, ?_, ?_, ?_⟩, hH, h3, ?_, ?_, ?_⟩, ?_⟩
  · rw [el]; exact hnd
  · rw [el]; exact hall
  · rw [el]; exact gm_insert gm_lt_tr n3 hown hhead
  · intro x hx p hxp
    rw [← List.append_assoc] at hx
    rcases List.mem_append.mp hx with g | g
    · exact n4 x g p hxp
    · rw [List.mem_singleton.mp g, hp] at hxp
      subst hxp
      obtain ⟨⟨R0, rfl⟩, -⟩ := hH
      simp
  · intro x hx
    rcases List.mem_append.mp hx with g | g
    · exact h4 x g
    · rw [List.mem_singleton.mp g]; exact hp
  · intro x hx q hq2
    rw [List.getLast?_append] at hq2
    cases hq2
    rcases List.mem_append.mp hx with g | g
    · right
      cases hl : cs.getLast? with
      | none => rw [List.getLast?_eq_none_iff] at hl; rw [hl] at g; cases g
      | some q =>
        rcases h5 x g q hl with e | e
        · rw [e]; exact hq q hl
        · exact gm_lt_tr _ _ _ e (hq q hl)
    · exact Or.inl (List.mem_singleton.mp g)
  · intro x hx hxd hxh hxp
    rcases h6 x hx hxd hxh hxp with g | g
    · exact Or.inl (List.mem_append_left _ g)
    · rcases hmin x hx (nx_P_t.mpr ⟨hxd, hxh, hxp, g⟩) with e | e
      · exact Or.inl (by rw [e]; simp)
      · refine Or.inr (fun q hq2 => ?_)
        rw [List.getLast?_append] at hq2
        cases hq2
        exact e
  · rw [List.length_append, List.length_cons, List.length_reverse] at hlen
    omega
theorem lk_done {a : AS} {r : Nat} {pr : Option Nat} {R T0 cs : List Nat} (h : lk_Q a r pr R T0 cs) (hno : ∀ x, x < a_n a → nx_P a r pr cs.getLast? x = false) : ∀ x, x < a_n a → a_dl a x = false → a_hd a r x = true → a_par a x = pr → x ∈ cs := by
  intro x hx hxd hxh hxp
  rcases h.2.2.2.2.2 x hx hxd hxh hxp with g | g
  · exact g
  · have := nx_P_t.mpr ⟨hxd, hxh, hxp, g⟩
    rw [hno x hx] at this; cases this
theorem lk_0 {a : AS} {r : Nat} : lk_Q a r none [] [] [] := ⟨⟨List.nodup_nil, fun x hx => (by cases hx), trivial, fun x hx => (by cases hx)⟩, ⟨rfl, rfl⟩, fun x hx => (by cases hx), fun x hx => (by cases hx), fun x hx => (by cases hx), fun x _ _ _ _ => Or.inr (fun q hq => by cases hq)⟩
theorem lk_C0 {a : AS} {r : Nat} {cs : List Nat} (h : lk_Q a r none [] [] cs) (hno : ∀ x, x < a_n a → nx_P a r none cs.getLast? x = false) : lk_C a r [] cs := by
  intro x hx hxd hxh
  refine ⟨fun hp => ?_, fun p _ hp => by cases hp⟩
  have := lk_done h hno x hx hxd hxh hp
  simp [this]
theorem lk_pop {a : AS} {r e : Nat} {R T0 : List Nat} (h : lk_I a r R (T0 ++ [e])) : lk_Q a r (some e) (R ++ [e]) T0 [] := by
  obtain ⟨n1, n2, n3, n4⟩ := h
  have el : R ++ (T0 ++ [e]).reverse = (R ++ [e]) ++ (T0 ++ []).reverse := by
    rw [List.reverse_append, List.append_nil]; simp
  rw [el] at n1 n2 n3
  have hne : e ∉ R := by
    intro g
    rw [List.append_assoc, List.nodup_append] at n1
    exact n1.2.2 e g e (by simp) rfl
  have hp0 : ∀ x ∈ T0, a_par a x ≠ some e := fun x hx g => hne (n4 x (by simp [hx]) e g)
  refine ⟨⟨n1, n2, n3, fun x hx p hp => ?_⟩, ⟨⟨R, rfl⟩, fun y0 hy => ?_⟩, hp0, fun x hx => (by cases hx), fun x hx => (by cases hx), fun x _ _ _ _ => Or.inr (fun q hq => by cases hq)⟩
  · rw [List.append_nil] at hx
    exact List.mem_append_left _ (n4 x (by simp [hx]) p hp)
  · rw [List.append_nil] at n3
    have h1 := (gm_good_app.mp n3).2
    have hr : T0.reverse.head? = some y0 := by rw [List.head?_reverse]; exact hy
    cases hT : T0.reverse with
    | nil => rw [hT] at hr; cases hr
    | cons z l =>
      rw [hT] at hr h1
      cases hr
      have h2 := h1.1
      rw [List.reverse_append, List.append_nil] at h2
      rcases h2 with g | g
      · have hm : y0 ∈ T0 := by rw [← List.mem_reverse, hT]; simp
        exact absurd g (hp0 y0 hm)
      · exact g.1
theorem lk_Cp {a : AS} {r e : Nat} {R T0 cs : List Nat} (hC : lk_C a r R (T0 ++ [e])) (h : lk_Q a r (some e) (R ++ [e]) T0 cs) (hno : ∀ x, x < a_n a → nx_P a r (some e) cs.getLast? x = false) : lk_C a r (R ++ [e]) (T0 ++ cs) := by
  intro x hx hxd hxh
  have hsub : x ∈ R ++ (T0 ++ [e]).reverse → x ∈ R ++ [e] ++ (T0 ++ cs).reverse := by
    intro g
    simp only [List.mem_append, List.mem_reverse, List.mem_singleton] at g ⊢
    rcases g with g | g | g
    · exact Or.inl (Or.inl g)
    · exact Or.inr (Or.inl g)
    · exact Or.inl (Or.inr g)
  refine ⟨fun hp => hsub ((hC x hx hxd hxh).1 hp), fun p hp hpm => ?_⟩
  rcases List.mem_append.mp hpm with g | g
  · exact hsub ((hC x hx hxd hxh).2 p hp g)
  · rw [List.mem_singleton.mp g] at hp
    have := lk_done h hno x hx hxd hxh hp
    simp [this]
theorem lk_end {a : AS} {r : Nat} {R : List Nat} (hI : ab_I a) (h : lk_I a r R []) (hC : lk_C a r R []) : ab_own a r R := by
  obtain ⟨n1, n2, n3, n4⟩ := h
  have e : R ++ ([] : List Nat).reverse = R := by simp
  rw [e] at n1 n2 n3
  refine ⟨n1, fun x => ⟨fun hx => n2 x hx, ?_⟩, n3⟩
  induction x using Nat.strongRecOn with
  | ind x ih =>
    rintro ⟨hx, hxd, hxh⟩
    have h1 := hC x hx hxd hxh
    rw [e] at h1
    cases hp : a_par a x with
    | none => exact h1.1 hp
    | some p =>
      obtain ⟨g1, -, g3, -, g5⟩ := ab_par_lt hI hx hp
      exact h1.2 p hp (ih p g1 ⟨by omega, g3, g5 r hxh⟩)
def td_L (T : List Nat) (g : Nat → Int32) : Prop := ∀ i (h : i < T.length), g i = nI T[i]
theorem td_0 (g : Nat → Int32) : td_L [] g := fun i h => absurd h (Nat.not_lt_zero i)
theorem td_push {T : List Nat} {g : Nat → Int32} {k : Nat} (h : td_L T g) : td_L (T ++ [k]) (upd g T.length (nI k)) := by
  intro i hi
  rw [List.length_append] at hi
  have hi2 : i < T.length + 1 := hi
  by_cases e : i = T.length
  · subst e; rw [pk_us, List.getElem_append_right (Nat.le_refl _)]; simp
  · rw [pk_un e, List.getElem_append_left (by omega)]; exact h i (by omega)
theorem td_pop {T : List Nat} {g : Nat → Int32} {k : Nat} (h : td_L (T ++ [k]) g) : td_L T g ∧ g T.length = nI k := by
  refine ⟨fun i hi => ?_, ?_⟩
  · have := h i (by rw [List.length_append]; omega)
    rw [List.getElem_append_left hi] at this
    exact this
  · have := h T.length (by rw [List.length_append]; exact Nat.lt_succ_self _)
    rw [this, List.getElem_append_right (Nat.le_refl _)]
    simp
end LK
