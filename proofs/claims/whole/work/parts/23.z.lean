def jz_cd : Cond → Bool
  | .castable .. => true
  | .declares _ => true
  | _ => false
def jz_LIAE : List Cond := vx_atS RX 102 "java/lang/IllegalArgumentException" ["java/lang/RuntimeException", "java/lang/Exception"]
def jz_LIOB : List Cond := vx_atS RX 85 "java/lang/IndexOutOfBoundsException" ["java/lang/RuntimeException", "java/lang/Exception"]
def jz_LISE : List Cond := vx_atS RX 116 "java/lang/IllegalStateException" ["java/lang/RuntimeException", "java/lang/Exception"]
def jz_B : List Cond := (jz_LIAE.filter (fun w => !goodWord w)) ++ ((jz_LIOB.filter (fun w => !goodWord w)) ++ (jz_LISE.filter (fun w => !goodWord w)))
theorem jz_B_cd : ∀ w ∈ jz_B, jz_cd w = true := by decide +kernel
theorem jz_B_tbl : ∀ w ∈ jz_B, w ∈ lw_tbl := by decide +kernel
theorem jz_warm {w : Cond} {s U : State} {A B : Array Value} (hw : jz_cd w = true) (hW : s.WarmedH U.vm) (h : w.before A s = true) : w.before B U = true := by
  cases w with
  | castable a b => exact va_tabs rfl (rfl : (s.setVm U.vm).vm = U.vm) (by rw [Cond.castable_setVm hW.alike]; exact h)
  | declares x => exact va_tabs rfl (rfl : (s.setVm U.vm).vm = U.vm) (by rw [Cond.declares_setVm hW.alike]; exact h)
  | _ => cases hw
theorem jz_same {w : Cond} {s U : State} {A B : Array Value} (hw : jz_cd w = true) (hvm : s.vm = U.vm) (h : w.before A s = true) : w.before B U = true := by
  cases w with
  | castable a b => exact va_tabs rfl hvm h
  | declares x => exact va_tabs rfl hvm h
  | _ => cases hw
def jz_Z (A : Nat → Prop) (U : State) : Prop := vx_Zq Bundle.tN "UNASSIGNED_STACK" Bundle.steD A U U.heap ∧ vx_Zq Bundle.tN "SUPPRESSED_SENTINEL" Bundle.listD A U U.heap ∧ (∀ w ∈ jz_B, w.before #[] U = true) ∧ (∃ sa, vk_R RX 103 "no such replica" sa U) ∧ (∃ sa, vk_R RX 105 "no room for another operation" sa U) ∧ (∃ sa, vk_R RX 114 "the replica holds no such element" sa U) ∧ (∃ sa, vk_R RX 110 "no such operation" sa U) ∧ (∃ sa, vk_R RX 83 "no such element" sa U) ∧ (∃ sa, vk_R RX 100 "no such count" sa U)
theorem jz_ok : jw_Zok jz_Z := by
  refine ⟨fun A U U1 hv hh h => ?_, fun A B s U hW h hk hAB => ?_⟩
  · obtain ⟨h1, h2, h3, h4, h5, h6, h7, h8, h9⟩ := h
    refine ⟨?_, ?_, fun w hw => jz_same (jz_B_cd w hw) hv.symm (h3 w hw), ?_, ?_, ?_, ?_, ?_, ?_⟩
    · rw [hh]; exact vx_Zq.moved (by rw [hv]; exact Vm.Alike.refl _) h1
    · rw [hh]; exact vx_Zq.moved (by rw [hv]; exact Vm.Alike.refl _) h2
    · obtain ⟨sa, g⟩ := h4
      exact ⟨sa, vk_R.same hv g⟩
    · obtain ⟨sa, g⟩ := h5
      exact ⟨sa, vk_R.same hv g⟩
    · obtain ⟨sa, g⟩ := h6
      exact ⟨sa, vk_R.same hv g⟩
    · obtain ⟨sa, g⟩ := h7
      exact ⟨sa, vk_R.same hv g⟩
    · obtain ⟨sa, g⟩ := h8
      exact ⟨sa, vk_R.same hv g⟩
    · obtain ⟨sa, g⟩ := h9
      exact ⟨sa, vk_R.same hv g⟩
  · obtain ⟨h1, h2, h3, h4, h5, h6, h7, h8, h9⟩ := h
    refine ⟨?_, ?_, fun w hw => jz_warm (jz_B_cd w hw) hW (h3 w hw), ?_, ?_, ?_, ?_, ?_, ?_⟩
    · exact (vx_Zq.moved hW.alike (h1.kept hk)).narrow hAB
    · exact (vx_Zq.moved hW.alike (h2.kept hk)).narrow hAB
    · obtain ⟨sa, g⟩ := h4
      exact ⟨sa, vk_R.warm hW g⟩
    · obtain ⟨sa, g⟩ := h5
      exact ⟨sa, vk_R.warm hW g⟩
    · obtain ⟨sa, g⟩ := h6
      exact ⟨sa, vk_R.warm hW g⟩
    · obtain ⟨sa, g⟩ := h7
      exact ⟨sa, vk_R.warm hW g⟩
    · obtain ⟨sa, g⟩ := h8
      exact ⟨sa, vk_R.warm hW g⟩
    · obtain ⟨sa, g⟩ := h9
      exact ⟨sa, vk_R.warm hW g⟩
theorem jz_inIAE : ∀ w ∈ jz_LIAE.filter goodWord, w ∈ WL := by decide +kernel
theorem jz_hatIAE {A : Nat → Prop} {s : State} {args : Array Value} {c0 : Cond} (hts : ∀ w ∈ c0 :: WL, w.before args s = true) (hZ : jz_Z A s) : ∀ w ∈ jz_LIAE, w.before args s = true :=
  vx_hat (B := jz_B) (fun w hw => hts w (jm (jz_inIAE w hw))) (fun w h => List.mem_append_left _ h) (fun w hw => jz_same (jz_B_cd w hw) rfl (hZ.2.2.1 w hw))
theorem jz_otIAE : ∀ w ∈ Cond.classLink RX 98 "java/lang/IllegalArgumentException" :: Cond.initialized "java/lang/IllegalArgumentException" :: jz_LIAE, vx_ot w = true := by decide +kernel
theorem jz_inIOB : ∀ w ∈ jz_LIOB.filter goodWord, w ∈ WL := by decide +kernel
theorem jz_hatIOB {A : Nat → Prop} {s : State} {args : Array Value} {c0 : Cond} (hts : ∀ w ∈ c0 :: WL, w.before args s = true) (hZ : jz_Z A s) : ∀ w ∈ jz_LIOB, w.before args s = true :=
  vx_hat (B := jz_B) (fun w hw => hts w (jm (jz_inIOB w hw))) (fun w h => List.mem_append_right _ (List.mem_append_left _ h)) (fun w hw => jz_same (jz_B_cd w hw) rfl (hZ.2.2.1 w hw))
theorem jz_otIOB : ∀ w ∈ Cond.classLink RX 81 "java/lang/IndexOutOfBoundsException" :: Cond.initialized "java/lang/IndexOutOfBoundsException" :: jz_LIOB, vx_ot w = true := by decide +kernel
theorem jz_inISE : ∀ w ∈ jz_LISE.filter goodWord, w ∈ WL := by decide +kernel
theorem jz_hatISE {A : Nat → Prop} {s : State} {args : Array Value} {c0 : Cond} (hts : ∀ w ∈ c0 :: WL, w.before args s = true) (hZ : jz_Z A s) : ∀ w ∈ jz_LISE, w.before args s = true :=
  vx_hat (B := jz_B) (fun w hw => hts w (jm (jz_inISE w hw))) (fun w h => List.mem_append_right _ (List.mem_append_right _ h)) (fun w hw => jz_same (jz_B_cd w hw) rfl (hZ.2.2.1 w hw))
theorem jz_otISE : ∀ w ∈ Cond.classLink RX 112 "java/lang/IllegalStateException" :: Cond.initialized "java/lang/IllegalStateException" :: jz_LISE, vx_ot w = true := by decide +kernel
