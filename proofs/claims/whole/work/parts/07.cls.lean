/-! The class's arrays against the state: raw functions of the cells, and what they say. -/
section CX
def jb (b : Bool) : Int32 := if b = true then 1 else 0
theorem jb_t : jb true = 1 := rfl
theorem jb_f : jb false = 0 := rfl
theorem jb_0 {b : Bool} : jb b = 0 ↔ b = false := by cases b <;> decide
theorem jb_n {b : Bool} : ¬ jb b = 0 ↔ b = true := by cases b <;> decide
theorem jb_nar (b : Bool) : vp_nar .boolean (jb b) = jb b := by cases b <;> decide
theorem jb_narrow (b : Bool) : narrow .boolean (.int (jb b)) = .int (jb b) := by cases b <;> decide
def ab_mask (h : Nat → Bool) : Nat := (if h 0 = true then 1 else 0) + (if h 1 = true then 2 else 0) + (if h 2 = true then 4 else 0) + (if h 3 = true then 8 else 0)
def ab_bit (r : Nat) : Int32 := (1 : Int32) <<< (nI r &&& 31)
theorem ab_mask_congr {h h' : Nat → Bool} (e : ∀ r, r < 4 → h r = h' r) : ab_mask h = ab_mask h' := by
  unfold ab_mask
  rw [e 0 (by omega), e 1 (by omega), e 2 (by omega), e 3 (by omega)]
theorem ab_mask_bit {h : Nat → Bool} : ∀ {r : Nat}, r < 4 → ((nI (ab_mask h) &&& ab_bit r) = 0 ↔ h r = false)
  | 0, _ => by unfold ab_mask; cases h 0 <;> cases h 1 <;> cases h 2 <;> cases h 3 <;> decide
  | 1, _ => by unfold ab_mask; cases h 0 <;> cases h 1 <;> cases h 2 <;> cases h 3 <;> decide
  | 2, _ => by unfold ab_mask; cases h 0 <;> cases h 1 <;> cases h 2 <;> cases h 3 <;> decide
  | 3, _ => by unfold ab_mask; cases h 0 <;> cases h 1 <;> cases h 2 <;> cases h 3 <;> decide
  | n + 4, q => by omega
theorem ab_mask_or {h : Nat → Bool} : ∀ {r : Nat}, r < 4 → nI (ab_mask h) ||| ab_bit r = nI (ab_mask (ab_up h r true))
  | 0, _ => by
    show _ = nI ((if (true : Bool) = true then 1 else 0) + (if h 1 = true then 2 else 0) + (if h 2 = true then 4 else 0) + (if h 3 = true then 8 else 0))
    unfold ab_mask; cases h 0 <;> cases h 1 <;> cases h 2 <;> cases h 3 <;> decide
  | 1, _ => by
    show _ = nI ((if h 0 = true then 1 else 0) + (if (true : Bool) = true then 2 else 0) + (if h 2 = true then 4 else 0) + (if h 3 = true then 8 else 0))
    unfold ab_mask; cases h 0 <;> cases h 1 <;> cases h 2 <;> cases h 3 <;> decide
  | 2, _ => by
    show _ = nI ((if h 0 = true then 1 else 0) + (if h 1 = true then 2 else 0) + (if (true : Bool) = true then 4 else 0) + (if h 3 = true then 8 else 0))
    unfold ab_mask; cases h 0 <;> cases h 1 <;> cases h 2 <;> cases h 3 <;> decide
  | 3, _ => by
    show _ = nI ((if h 0 = true then 1 else 0) + (if h 1 = true then 2 else 0) + (if h 2 = true then 4 else 0) + (if (true : Bool) = true then 8 else 0))
    unfold ab_mask; cases h 0 <;> cases h 1 <;> cases h 2 <;> cases h 3 <;> decide
  | n + 4, q => by omega
theorem ab_imax {i j : Nat} (hi : i < 2147483648) (hj : j < 2147483648) : (if nI i < nI j then nI j else nI i) = nI (Nat.max i j) := by
  simp only [nI_ltI hi hj, Nat.max_def]
  by_cases h : i < j
  · rw [if_pos h, if_pos (by omega)]
  · rw [if_neg h]
    by_cases h2 : i ≤ j
    · rw [if_pos h2, show i = j by omega]
    · rw [if_neg h2]
theorem ab_any_up {n : Nat} {g : Nat → Bool} {h : Nat → Bool} {k : Nat} (hk : k < n) : (List.range n).any (fun i => g i && ab_up h k true i) = ((List.range n).any (fun i => g i && h i) || g k) := by
  rw [Bool.eq_iff_iff]
  simp only [List.any_eq_true, Bool.or_eq_true, List.mem_range, Bool.and_eq_true]
  constructor
  · rintro ⟨i, hi, h1, h2⟩
    by_cases e : i = k
    · subst e; exact Or.inr h1
    · rw [ab_un e] at h2; exact Or.inl ⟨i, hi, h1, h2⟩
  · rintro (⟨i, hi, h1, h2⟩ | h1)
    · refine ⟨i, hi, h1, ?_⟩
      by_cases e : i = k
      · subst e; rw [ab_us]
      · rw [ab_un e]; exact h2
    · exact ⟨k, hk, h1, ab_us⟩
theorem ab_del_take {a : AS} {r k s e : Nat} (hk : k < a_n a) : a_del (ab_take a r k) s e = (a_del a s e || (decide (s = r) && a_dl a k && (a_tg a k == nI e))) := by
  show (List.range (a_n a)).any (fun i => a_dl a i && (a_tg a i == nI e) && ab_up (a_hd a) r (ab_up (a_hd a r) k true) s i) = _
  by_cases h : s = r
  · subst h
    rw [ab_us, ab_any_up (g := fun i => a_dl a i && (a_tg a i == nI e)) hk]
    simp [a_del]
  · rw [ab_un h]
    simp [a_del, h]
def cx_A (a : AS) (f0 f1 f2 f3 f4 f5 f6 : Nat → Int32) (md : Int32) : Prop :=
  md = nI (a_n a) ∧ (∀ k, k < a_n a → f0 k = jb (a_dl a k)) ∧ (∀ k, k < a_n a → f1 k = a_tg a k) ∧ (∀ k, k < a_n a → f2 k = nI (a_ct a k)) ∧ (∀ k, k < a_n a → f3 k = nI (a_mk a k)) ∧
  (∀ k, k < 160 → f4 k = nI (ab_mask (fun r => a_hd a r k))) ∧ (∀ e, e < 160 → f5 e = nI (ab_mask (fun r => a_del a r e))) ∧ (∀ r, r < 4 → f6 r = nI (a_gr a r))
def cx_V (a : AS) (v : Nat → Int64) : Prop := ∀ k, k < a_n a → a_dl a k = false → v k = a_vl a k
def cx_L (L : List Nat) (f7 : Nat → Int32) (ln : Int32) : Prop := ln = nI L.length ∧ ∀ i (h : i < L.length), f7 i = nI L[i]
theorem cx_hold {a : AS} {f4 : Nat → Int32} {r k : Nat} (h4 : ∀ k, k < 160 → f4 k = nI (ab_mask (fun r => a_hd a r k))) (hk : k < 160) (hr : r < 4) : f4 k ||| ab_bit r = nI (ab_mask (fun s => ab_up (a_hd a) r (ab_up (a_hd a r) k true) s k)) := by
  rw [h4 k hk, ab_mask_or hr]
  congr 1
  apply ab_mask_congr
  intro s _
  by_cases e : s = r
  · subst e; rw [ab_us, ab_us, ab_us]
  · rw [ab_un e, ab_un e]
/-- bounds: a state whose operations number at most 160, with counts at most 161 -/
def cx_B (a : AS) : Prop := a_n a ≤ 160 ∧ (∀ k, k < a_n a → a_ct a k ≤ 161) ∧ ∀ k, k < a_n a → a_dl a k = true → ∃ j, j < 160 ∧ a_tg a k = nI j
theorem cx_gr_le {a : AS} (h : cx_B a) (r : Nat) : a_gr a r ≤ 161 := ab_max_le (fun k hk _ => h.2.1 k hk)
theorem cx_take_gr {a : AS} {f2 f6 : Nat → Int32} {r k : Nat} (hB : cx_B a) (hk : k < a_n a) (hr : r < 4) (h2 : ∀ k, k < a_n a → f2 k = nI (a_ct a k)) (h6 : ∀ r, r < 4 → f6 r = nI (a_gr a r)) : ∀ s, s < 4 → upd f6 r (if f6 r < f2 k then f2 k else f6 r) s = nI (a_gr (ab_take a r k) s) := by
  intro s hs
  show _ = nI (ab_max (ab_up (a_hd a) r (ab_up (a_hd a r) k true) s) (a_ct a) (a_n a))
  by_cases e : s = r
  · subst e
    have g1 := cx_gr_le hB s
    have g2 := hB.2.1 k hk
    rw [pk_us, ab_us, ab_max_up hk, h2 k hk, h6 s hs, ab_imax (by omega) (by omega)]
    rfl
  · rw [pk_un e, ab_un e]
    exact h6 s hs
theorem cx_take_hold {a : AS} {f4 : Nat → Int32} {r k : Nat} (hk : k < 160) (hr : r < 4) (h4 : ∀ k, k < 160 → f4 k = nI (ab_mask (fun r => a_hd a r k))) : ∀ i, i < 160 → upd f4 k (f4 k ||| ab_bit r) i = nI (ab_mask (fun s => a_hd (ab_take a r k) s i)) := by
  intro i hi
  show _ = nI (ab_mask (fun s => ab_up (a_hd a) r (ab_up (a_hd a r) k true) s i))
  by_cases e : i = k
  · subst e
    rw [pk_us]
    exact cx_hold h4 hi hr
  · rw [pk_un e, h4 i hi]
    congr 1
    apply ab_mask_congr
    intro s _
    rw [ab_up_hdF e]
theorem cx_take_i {a : AS} {f0 f1 f2 f3 f4 f5 f6 : Nat → Int32} {md : Int32} {r k : Nat} (hB : cx_B a) (hk : k < a_n a) (hr : r < 4) (hd : a_dl a k = false) (h : cx_A a f0 f1 f2 f3 f4 f5 f6 md) :
    cx_A (ab_take a r k) f0 f1 f2 f3 (upd f4 k (f4 k ||| ab_bit r)) f5 (upd f6 r (if f6 r < f2 k then f2 k else f6 r)) md := by
  obtain ⟨g0, g1, g2, g3, g4, g5, g6, g7⟩ := h
  have hn := hB.1
  refine ⟨g0, g1, g2, g3, g4, cx_take_hold (by omega) hr g5, fun e he => ?_, cx_take_gr hB hk hr g3 g7⟩
  rw [g6 e he]
  congr 1
  apply ab_mask_congr
  intro s _
  rw [ab_del_take hk, hd]
  simp
theorem cx_take_d {a : AS} {f0 f1 f2 f3 f4 f5 f6 : Nat → Int32} {md : Int32} {r k j : Nat} (hB : cx_B a) (hk : k < a_n a) (hr : r < 4) (hd : a_dl a k = true) (hj : j < 160) (ht : a_tg a k = nI j) (h : cx_A a f0 f1 f2 f3 f4 f5 f6 md) :
    cx_A (ab_take a r k) f0 f1 f2 f3 (upd f4 k (f4 k ||| ab_bit r)) (upd f5 j (f5 j ||| ab_bit r)) (upd f6 r (if f6 r < f2 k then f2 k else f6 r)) md := by
  obtain ⟨g0, g1, g2, g3, g4, g5, g6, g7⟩ := h
  have hn := hB.1
  refine ⟨g0, g1, g2, g3, g4, cx_take_hold (by omega) hr g5, fun e he => ?_, cx_take_gr hB hk hr g3 g7⟩
  by_cases e1 : e = j
  · subst e1
    rw [pk_us, g6 e he, ab_mask_or hr]
    congr 1
    apply ab_mask_congr
    intro s _
    show ab_up (fun s => a_del a s e) r true s = _
    rw [ab_del_take hk, hd, ht]
    by_cases e2 : s = r
    · subst e2; rw [ab_us]; simp
    · rw [ab_un e2]; simp [e2]
  · rw [pk_un e1, g6 e he]
    congr 1
    apply ab_mask_congr
    intro s _
    rw [ab_del_take hk, hd, ht]
    have : (nI j == nI e) = false := by
      rw [beq_eq_false_iff_ne]
      intro q
      exact e1 (ab_nI_inj (by omega) (by omega) q).symm
    simp [this]
/-- the new operation before anyone holds it -/
def ab_pre (a : AS) (r : Nat) (t : Int32) (d : Bool) (v : Int64) : AS :=
  (a_n a + 1, ab_up (a_dl a) (a_n a) d, ab_up (a_tg a) (a_n a) t, ab_up (a_ct a) (a_n a) (a_gr a r + 1), ab_up (a_mk a) (a_n a) r, a_hd a, ab_up (a_vl a) (a_n a) v)
theorem ab_pre_take {a : AS} {r : Nat} {t : Int32} {d : Bool} {v : Int64} : ab_take (ab_pre a r t d v) r (a_n a) = ab_new a r t d v := rfl
theorem ab_pre_gr {a : AS} {r s : Nat} {t : Int32} {d : Bool} {v : Int64} (h : ab_I a) : a_gr (ab_pre a r t d v) s = a_gr a s := by
  show ab_max (a_hd a s) (ab_up (a_ct a) (a_n a) (a_gr a r + 1)) (a_n a + 1) = ab_max (a_hd a s) (a_ct a) (a_n a)
  show (if a_hd a s (a_n a) = true then _ else ab_max (a_hd a s) (ab_up (a_ct a) (a_n a) (a_gr a r + 1)) (a_n a)) = _
  rw [h.2.1 s _ (Nat.le_refl _), if_neg (by decide)]
  exact ab_max_congr (fun k hk => ⟨rfl, ab_un (by omega)⟩)
theorem ab_pre_del {a : AS} {r s e : Nat} {t : Int32} {d : Bool} {v : Int64} (h : ab_I a) : a_del (ab_pre a r t d v) s e = a_del a s e := by
  show (List.range (a_n a + 1)).any (fun i => ab_up (a_dl a) (a_n a) d i && (ab_up (a_tg a) (a_n a) t i == nI e) && a_hd a s i) = (List.range (a_n a)).any (fun i => a_dl a i && (a_tg a i == nI e) && a_hd a s i)
  rw [Bool.eq_iff_iff]
  simp only [List.any_eq_true, List.mem_range, Bool.and_eq_true]
  constructor
  · rintro ⟨i, hi, ⟨h1, h2⟩, h3⟩
    have hlt := ab_hd_lt h h3
    rw [ab_un (show i ≠ a_n a by omega)] at h1 h2
    exact ⟨i, hlt, ⟨h1, h2⟩, h3⟩
  · rintro ⟨i, hi, ⟨h1, h2⟩, h3⟩
    refine ⟨i, by omega, ⟨?_, ?_⟩, h3⟩
    · rw [ab_un (show i ≠ a_n a by omega)]; exact h1
    · rw [ab_un (show i ≠ a_n a by omega)]; exact h2
theorem cx_pre {a : AS} {f0 f1 f2 f3 f4 f5 f6 : Nat → Int32} {md : Int32} {r : Nat} {t : Int32} {d : Bool} {v : Int64} (hI : ab_I a) (hr : r < 4) (h : cx_A a f0 f1 f2 f3 f4 f5 f6 md) :
    cx_A (ab_pre a r t d v) (upd f0 (a_n a) (jb d)) (upd f1 (a_n a) t) (upd f2 (a_n a) (f6 r + 1)) (upd f3 (a_n a) (nI r)) f4 f5 f6 (nI (a_n a + 1)) := by
  obtain ⟨g0, g1, g2, g3, g4, g5, g6, g7⟩ := h
  refine ⟨rfl, ?_, ?_, ?_, ?_, g5, ?_, ?_⟩
  · intro k hk
    show upd f0 (a_n a) (jb d) k = jb (ab_up (a_dl a) (a_n a) d k)
    have hk' : k < a_n a + 1 := hk
    by_cases e : k = a_n a
    · subst e; rw [pk_us, ab_us]
    · rw [pk_un e, ab_un e]; exact g1 k (by omega)
  · intro k hk
    show upd f1 (a_n a) t k = ab_up (a_tg a) (a_n a) t k
    have hk' : k < a_n a + 1 := hk
    by_cases e : k = a_n a
    · subst e; rw [pk_us, ab_us]
    · rw [pk_un e, ab_un e]; exact g2 k (by omega)
  · intro k hk
    show upd f2 (a_n a) (f6 r + 1) k = nI (ab_up (a_ct a) (a_n a) (a_gr a r + 1) k)
    have hk' : k < a_n a + 1 := hk
    by_cases e : k = a_n a
    · subst e; rw [pk_us, ab_us, g7 r hr, nI_1]
    · rw [pk_un e, ab_un e]; exact g3 k (by omega)
  · intro k hk
    show upd f3 (a_n a) (nI r) k = nI (ab_up (a_mk a) (a_n a) r k)
    have hk' : k < a_n a + 1 := hk
    by_cases e : k = a_n a
    · subst e; rw [pk_us, ab_us]
    · rw [pk_un e, ab_un e]; exact g4 k (by omega)
  · intro e he
    rw [g6 e he]
    congr 1
    apply ab_mask_congr
    intro s _
    exact (ab_pre_del hI).symm
  · intro s hs
    rw [g7 s hs, ab_pre_gr hI]
theorem cx_B_of {a : AS} (h : ab_I a) : cx_B a := by
  refine ⟨h.1, fun k hk => ?_, fun k hk hd => ?_⟩
  · have := (h.2.2.2.1 k hk).2.2
    have := h.1
    omega
  · rcases h.2.2.1 k hk with g | ⟨j, hj, g1, -⟩
    · rw [g.2] at hd; cases hd
    · have := h.1
      exact ⟨j, by omega, g1⟩
theorem cx_B_pre {a : AS} {r : Nat} {t : Int32} {d : Bool} {v : Int64} (h : ab_I a) (hn : a_n a < 160) (ht : ab_ok a r t d) : cx_B (ab_pre a r t d v) := by
  have hB := cx_B_of h
  refine ⟨?_, fun k hk => ?_, fun k hk hd => ?_⟩
  · show a_n a + 1 ≤ 160
    omega
  · show ab_up (a_ct a) (a_n a) (a_gr a r + 1) k ≤ 161
    have hk' : k < a_n a + 1 := hk
    by_cases e : k = a_n a
    · subst e; rw [ab_us]
      have := ab_gr_le h r
      omega
    · rw [ab_un e]; exact hB.2.1 k (by omega)
  · show ∃ j, j < 160 ∧ ab_up (a_tg a) (a_n a) t k = nI j
    have hk' : k < a_n a + 1 := hk
    have hd' : ab_up (a_dl a) (a_n a) d k = true := hd
    by_cases e : k = a_n a
    · subst e
      rw [ab_us] at hd' ⊢
      rcases ht with ht | ⟨j, hj, e1, -⟩
      · rw [ht.2] at hd'; cases hd'
      · exact ⟨j, by omega, e1⟩
    · rw [ab_un e] at hd' ⊢
      exact hB.2.2 k (by omega) hd'
end CX
