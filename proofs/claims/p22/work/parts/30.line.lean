set_option maxHeartbeats 4000000 in
set_option maxRecDepth 100000 in
theorem c_nameOf_0 (l : Launch) (D : va_G) (cA : Nat → ClassId) (zv : Nat → Nat) (sz : Nat)   : Met l yX3_nameOf wsX3_nameOf ({ frames := 0, cells := 0, slots := 0, locals := 0 }) (va_Pc [.int 0] (zUX D cA zv sz [])) (va_Qr (fun (_ : Unit) => True) (fun (_ : Unit) ra t => ra = zv (20 + 0) ∧ zB D [] sz [] t) (va_A [] sz)) 0 0 (va_A [] sz) := by
  refine Met.ofW (cc := cX3_nameOf) (maxL := 1) (ret := (some (.object "java/lang/String"))) (by decide) rfl ?_
  intro p e s m args below meth c s₁ B hml hv
  obtain ⟨rfl, ⟨hsz, hP, hK, hD0, hE0⟩, hX0⟩ := hv
  have hx := B.exec
  have hb := B.bytes
  have hr := B.returns
  have hts := atoms_spec (ws := wsX3_nameOf) B.pre
  have hown : s.vm.findClass RX3 = some m.cls := findClass_of_methodNamed B.named
  have hlocks := B.notSynchronized
  subst hsz
  have hD := hD0.self (sz := s.heap.size)
  generalize hAe : va_A [] s.heap.size = A at hD hE0 hX0 ⊢
  have hA : ∀ q : Nat, s.heap.size ≤ q → A q := fun q h => by rw [← hAe]; exact Or.inr h
  have hS : va_S A s.heap s.heap [] := va_S.rf
  have hl := lv_entry ([.int 0]) (n := 1) (Nat.le_of_ble_eq_true rfl)
  rw [lg_entry_eq]
  generalize (lg_sl ([.int 0]) ++ List.replicate (1 - (lg_sl ([.int 0])).length) Slot.unset).toArray = ls at hl ⊢
  have hl : lv_has ls 1 [(0, .int 0)] := hl
  refine lv_iload_n hx hb dX3_nameOf_0 rfl (lv_at hl 0 rfl) ?_
  refine lv_tableOut (tgt := 72) hx hb dX3_nameOf_1 (by decide) (by decide) ?_
  refine z_ldcw hx hb hown (hX0.2.2.1.1 (294, "closed", 20) (by decide +kernel)) dX3_nameOf_72 ?_
  refine W.widen (k := 0) (n := 0) (by omega) (by omega) ?_
  exact W.aret (v := .ref (zv (20 + 0))) hx hb hr (Or.inl ⟨_, rfl⟩) (Or.inr ⟨_, rfl⟩) (fun t ht hW => ⟨⟨(), zv (20 + 0), rfl, trivial, ⟨rfl, ⟨by rw [ht]; exact hP, by rw [hAe]; exact hD⟩⟩⟩, hS.F ht⟩) hS.2.2 dX3_nameOf_75
set_option maxHeartbeats 4000000 in
set_option maxRecDepth 100000 in
theorem c_nameOf_1 (l : Launch) (D : va_G) (cA : Nat → ClassId) (zv : Nat → Nat) (sz : Nat)   : Met l yX3_nameOf wsX3_nameOf ({ frames := 0, cells := 0, slots := 0, locals := 0 }) (va_Pc [.int 1] (zUX D cA zv sz [])) (va_Qr (fun (_ : Unit) => True) (fun (_ : Unit) ra t => ra = zv (20 + 1) ∧ zB D [] sz [] t) (va_A [] sz)) 0 0 (va_A [] sz) := by
  refine Met.ofW (cc := cX3_nameOf) (maxL := 1) (ret := (some (.object "java/lang/String"))) (by decide) rfl ?_
  intro p e s m args below meth c s₁ B hml hv
  obtain ⟨rfl, ⟨hsz, hP, hK, hD0, hE0⟩, hX0⟩ := hv
  have hx := B.exec
  have hb := B.bytes
  have hr := B.returns
  have hts := atoms_spec (ws := wsX3_nameOf) B.pre
  have hown : s.vm.findClass RX3 = some m.cls := findClass_of_methodNamed B.named
  have hlocks := B.notSynchronized
  subst hsz
  have hD := hD0.self (sz := s.heap.size)
  generalize hAe : va_A [] s.heap.size = A at hD hE0 hX0 ⊢
  have hA : ∀ q : Nat, s.heap.size ≤ q → A q := fun q h => by rw [← hAe]; exact Or.inr h
  have hS : va_S A s.heap s.heap [] := va_S.rf
  have hl := lv_entry ([.int 1]) (n := 1) (Nat.le_of_ble_eq_true rfl)
  rw [lg_entry_eq]
  generalize (lg_sl ([.int 1]) ++ List.replicate (1 - (lg_sl ([.int 1])).length) Slot.unset).toArray = ls at hl ⊢
  have hl : lv_has ls 1 [(0, .int 1)] := hl
  refine lv_iload_n hx hb dX3_nameOf_0 rfl (lv_at hl 0 rfl) ?_
  refine lv_tableIn (off := 43) (tgt := 44) hx hb dX3_nameOf_1 (by decide) (by decide) rfl (by decide) ?_
  refine z_ldcw hx hb hown (hX0.2.2.1.1 (281, "asking", 21) (by decide +kernel)) dX3_nameOf_44 ?_
  refine W.widen (k := 0) (n := 0) (by omega) (by omega) ?_
  exact W.aret (v := .ref (zv (20 + 1))) hx hb hr (Or.inl ⟨_, rfl⟩) (Or.inr ⟨_, rfl⟩) (fun t ht hW => ⟨⟨(), zv (20 + 1), rfl, trivial, ⟨rfl, ⟨by rw [ht]; exact hP, by rw [hAe]; exact hD⟩⟩⟩, hS.F ht⟩) hS.2.2 dX3_nameOf_47
set_option maxHeartbeats 4000000 in
set_option maxRecDepth 100000 in
theorem c_nameOf_2 (l : Launch) (D : va_G) (cA : Nat → ClassId) (zv : Nat → Nat) (sz : Nat)   : Met l yX3_nameOf wsX3_nameOf ({ frames := 0, cells := 0, slots := 0, locals := 0 }) (va_Pc [.int 2] (zUX D cA zv sz [])) (va_Qr (fun (_ : Unit) => True) (fun (_ : Unit) ra t => ra = zv (20 + 2) ∧ zB D [] sz [] t) (va_A [] sz)) 0 0 (va_A [] sz) := by
  refine Met.ofW (cc := cX3_nameOf) (maxL := 1) (ret := (some (.object "java/lang/String"))) (by decide) rfl ?_
  intro p e s m args below meth c s₁ B hml hv
  obtain ⟨rfl, ⟨hsz, hP, hK, hD0, hE0⟩, hX0⟩ := hv
  have hx := B.exec
  have hb := B.bytes
  have hr := B.returns
  have hts := atoms_spec (ws := wsX3_nameOf) B.pre
  have hown : s.vm.findClass RX3 = some m.cls := findClass_of_methodNamed B.named
  have hlocks := B.notSynchronized
  subst hsz
  have hD := hD0.self (sz := s.heap.size)
  generalize hAe : va_A [] s.heap.size = A at hD hE0 hX0 ⊢
  have hA : ∀ q : Nat, s.heap.size ≤ q → A q := fun q h => by rw [← hAe]; exact Or.inr h
  have hS : va_S A s.heap s.heap [] := va_S.rf
  have hl := lv_entry ([.int 2]) (n := 1) (Nat.le_of_ble_eq_true rfl)
  rw [lg_entry_eq]
  generalize (lg_sl ([.int 2]) ++ List.replicate (1 - (lg_sl ([.int 2])).length) Slot.unset).toArray = ls at hl ⊢
  have hl : lv_has ls 1 [(0, .int 2)] := hl
  refine lv_iload_n hx hb dX3_nameOf_0 rfl (lv_at hl 0 rfl) ?_
  refine lv_tableIn (off := 47) (tgt := 48) hx hb dX3_nameOf_1 (by decide) (by decide) rfl (by decide) ?_
  refine z_ldcw hx hb hown (hX0.2.2.1.1 (283, "heard", 22) (by decide +kernel)) dX3_nameOf_48 ?_
  refine W.widen (k := 0) (n := 0) (by omega) (by omega) ?_
  exact W.aret (v := .ref (zv (20 + 2))) hx hb hr (Or.inl ⟨_, rfl⟩) (Or.inr ⟨_, rfl⟩) (fun t ht hW => ⟨⟨(), zv (20 + 2), rfl, trivial, ⟨rfl, ⟨by rw [ht]; exact hP, by rw [hAe]; exact hD⟩⟩⟩, hS.F ht⟩) hS.2.2 dX3_nameOf_51
set_option maxHeartbeats 4000000 in
set_option maxRecDepth 100000 in
theorem c_nameOf_3 (l : Launch) (D : va_G) (cA : Nat → ClassId) (zv : Nat → Nat) (sz : Nat)   : Met l yX3_nameOf wsX3_nameOf ({ frames := 0, cells := 0, slots := 0, locals := 0 }) (va_Pc [.int 3] (zUX D cA zv sz [])) (va_Qr (fun (_ : Unit) => True) (fun (_ : Unit) ra t => ra = zv (20 + 3) ∧ zB D [] sz [] t) (va_A [] sz)) 0 0 (va_A [] sz) := by
  refine Met.ofW (cc := cX3_nameOf) (maxL := 1) (ret := (some (.object "java/lang/String"))) (by decide) rfl ?_
  intro p e s m args below meth c s₁ B hml hv
  obtain ⟨rfl, ⟨hsz, hP, hK, hD0, hE0⟩, hX0⟩ := hv
  have hx := B.exec
  have hb := B.bytes
  have hr := B.returns
  have hts := atoms_spec (ws := wsX3_nameOf) B.pre
  have hown : s.vm.findClass RX3 = some m.cls := findClass_of_methodNamed B.named
  have hlocks := B.notSynchronized
  subst hsz
  have hD := hD0.self (sz := s.heap.size)
  generalize hAe : va_A [] s.heap.size = A at hD hE0 hX0 ⊢
  have hA : ∀ q : Nat, s.heap.size ≤ q → A q := fun q h => by rw [← hAe]; exact Or.inr h
  have hS : va_S A s.heap s.heap [] := va_S.rf
  have hl := lv_entry ([.int 3]) (n := 1) (Nat.le_of_ble_eq_true rfl)
  rw [lg_entry_eq]
  generalize (lg_sl ([.int 3]) ++ List.replicate (1 - (lg_sl ([.int 3])).length) Slot.unset).toArray = ls at hl ⊢
  have hl : lv_has ls 1 [(0, .int 3)] := hl
  refine lv_iload_n hx hb dX3_nameOf_0 rfl (lv_at hl 0 rfl) ?_
  refine lv_tableIn (off := 51) (tgt := 52) hx hb dX3_nameOf_1 (by decide) (by decide) rfl (by decide) ?_
  refine z_ldcw hx hb hown (hX0.2.2.1.1 (285, "told", 23) (by decide +kernel)) dX3_nameOf_52 ?_
  refine W.widen (k := 0) (n := 0) (by omega) (by omega) ?_
  exact W.aret (v := .ref (zv (20 + 3))) hx hb hr (Or.inl ⟨_, rfl⟩) (Or.inr ⟨_, rfl⟩) (fun t ht hW => ⟨⟨(), zv (20 + 3), rfl, trivial, ⟨rfl, ⟨by rw [ht]; exact hP, by rw [hAe]; exact hD⟩⟩⟩, hS.F ht⟩) hS.2.2 dX3_nameOf_55
set_option maxHeartbeats 4000000 in
set_option maxRecDepth 100000 in
theorem c_nameOf_4 (l : Launch) (D : va_G) (cA : Nat → ClassId) (zv : Nat → Nat) (sz : Nat)   : Met l yX3_nameOf wsX3_nameOf ({ frames := 0, cells := 0, slots := 0, locals := 0 }) (va_Pc [.int 4] (zUX D cA zv sz [])) (va_Qr (fun (_ : Unit) => True) (fun (_ : Unit) ra t => ra = zv (20 + 4) ∧ zB D [] sz [] t) (va_A [] sz)) 0 0 (va_A [] sz) := by
  refine Met.ofW (cc := cX3_nameOf) (maxL := 1) (ret := (some (.object "java/lang/String"))) (by decide) rfl ?_
  intro p e s m args below meth c s₁ B hml hv
  obtain ⟨rfl, ⟨hsz, hP, hK, hD0, hE0⟩, hX0⟩ := hv
  have hx := B.exec
  have hb := B.bytes
  have hr := B.returns
  have hts := atoms_spec (ws := wsX3_nameOf) B.pre
  have hown : s.vm.findClass RX3 = some m.cls := findClass_of_methodNamed B.named
  have hlocks := B.notSynchronized
  subst hsz
  have hD := hD0.self (sz := s.heap.size)
  generalize hAe : va_A [] s.heap.size = A at hD hE0 hX0 ⊢
  have hA : ∀ q : Nat, s.heap.size ≤ q → A q := fun q h => by rw [← hAe]; exact Or.inr h
  have hS : va_S A s.heap s.heap [] := va_S.rf
  have hl := lv_entry ([.int 4]) (n := 1) (Nat.le_of_ble_eq_true rfl)
  rw [lg_entry_eq]
  generalize (lg_sl ([.int 4]) ++ List.replicate (1 - (lg_sl ([.int 4])).length) Slot.unset).toArray = ls at hl ⊢
  have hl : lv_has ls 1 [(0, .int 4)] := hl
  refine lv_iload_n hx hb dX3_nameOf_0 rfl (lv_at hl 0 rfl) ?_
  refine lv_tableIn (off := 55) (tgt := 56) hx hb dX3_nameOf_1 (by decide) (by decide) rfl (by decide) ?_
  refine z_ldcw hx hb hown (hX0.2.2.1.1 (287, "opened", 24) (by decide +kernel)) dX3_nameOf_56 ?_
  refine W.widen (k := 0) (n := 0) (by omega) (by omega) ?_
  exact W.aret (v := .ref (zv (20 + 4))) hx hb hr (Or.inl ⟨_, rfl⟩) (Or.inr ⟨_, rfl⟩) (fun t ht hW => ⟨⟨(), zv (20 + 4), rfl, trivial, ⟨rfl, ⟨by rw [ht]; exact hP, by rw [hAe]; exact hD⟩⟩⟩, hS.F ht⟩) hS.2.2 dX3_nameOf_59
set_option maxHeartbeats 4000000 in
set_option maxRecDepth 100000 in
theorem c_nameOf_5 (l : Launch) (D : va_G) (cA : Nat → ClassId) (zv : Nat → Nat) (sz : Nat)   : Met l yX3_nameOf wsX3_nameOf ({ frames := 0, cells := 0, slots := 0, locals := 0 }) (va_Pc [.int 5] (zUX D cA zv sz [])) (va_Qr (fun (_ : Unit) => True) (fun (_ : Unit) ra t => ra = zv (20 + 5) ∧ zB D [] sz [] t) (va_A [] sz)) 0 0 (va_A [] sz) := by
  refine Met.ofW (cc := cX3_nameOf) (maxL := 1) (ret := (some (.object "java/lang/String"))) (by decide) rfl ?_
  intro p e s m args below meth c s₁ B hml hv
  obtain ⟨rfl, ⟨hsz, hP, hK, hD0, hE0⟩, hX0⟩ := hv
  have hx := B.exec
  have hb := B.bytes
  have hr := B.returns
  have hts := atoms_spec (ws := wsX3_nameOf) B.pre
  have hown : s.vm.findClass RX3 = some m.cls := findClass_of_methodNamed B.named
  have hlocks := B.notSynchronized
  subst hsz
  have hD := hD0.self (sz := s.heap.size)
  generalize hAe : va_A [] s.heap.size = A at hD hE0 hX0 ⊢
  have hA : ∀ q : Nat, s.heap.size ≤ q → A q := fun q h => by rw [← hAe]; exact Or.inr h
  have hS : va_S A s.heap s.heap [] := va_S.rf
  have hl := lv_entry ([.int 5]) (n := 1) (Nat.le_of_ble_eq_true rfl)
  rw [lg_entry_eq]
  generalize (lg_sl ([.int 5]) ++ List.replicate (1 - (lg_sl ([.int 5])).length) Slot.unset).toArray = ls at hl ⊢
  have hl : lv_has ls 1 [(0, .int 5)] := hl
  refine lv_iload_n hx hb dX3_nameOf_0 rfl (lv_at hl 0 rfl) ?_
  refine lv_tableIn (off := 59) (tgt := 60) hx hb dX3_nameOf_1 (by decide) (by decide) rfl (by decide) ?_
  refine z_ldcw hx hb hown (hX0.2.2.1.1 (289, "closing", 25) (by decide +kernel)) dX3_nameOf_60 ?_
  refine W.widen (k := 0) (n := 0) (by omega) (by omega) ?_
  exact W.aret (v := .ref (zv (20 + 5))) hx hb hr (Or.inl ⟨_, rfl⟩) (Or.inr ⟨_, rfl⟩) (fun t ht hW => ⟨⟨(), zv (20 + 5), rfl, trivial, ⟨rfl, ⟨by rw [ht]; exact hP, by rw [hAe]; exact hD⟩⟩⟩, hS.F ht⟩) hS.2.2 dX3_nameOf_63
set_option maxHeartbeats 4000000 in
set_option maxRecDepth 100000 in
theorem c_nameOf_6 (l : Launch) (D : va_G) (cA : Nat → ClassId) (zv : Nat → Nat) (sz : Nat)   : Met l yX3_nameOf wsX3_nameOf ({ frames := 0, cells := 0, slots := 0, locals := 0 }) (va_Pc [.int 6] (zUX D cA zv sz [])) (va_Qr (fun (_ : Unit) => True) (fun (_ : Unit) ra t => ra = zv (20 + 6) ∧ zB D [] sz [] t) (va_A [] sz)) 0 0 (va_A [] sz) := by
  refine Met.ofW (cc := cX3_nameOf) (maxL := 1) (ret := (some (.object "java/lang/String"))) (by decide) rfl ?_
  intro p e s m args below meth c s₁ B hml hv
  obtain ⟨rfl, ⟨hsz, hP, hK, hD0, hE0⟩, hX0⟩ := hv
  have hx := B.exec
  have hb := B.bytes
  have hr := B.returns
  have hts := atoms_spec (ws := wsX3_nameOf) B.pre
  have hown : s.vm.findClass RX3 = some m.cls := findClass_of_methodNamed B.named
  have hlocks := B.notSynchronized
  subst hsz
  have hD := hD0.self (sz := s.heap.size)
  generalize hAe : va_A [] s.heap.size = A at hD hE0 hX0 ⊢
  have hA : ∀ q : Nat, s.heap.size ≤ q → A q := fun q h => by rw [← hAe]; exact Or.inr h
  have hS : va_S A s.heap s.heap [] := va_S.rf
  have hl := lv_entry ([.int 6]) (n := 1) (Nat.le_of_ble_eq_true rfl)
  rw [lg_entry_eq]
  generalize (lg_sl ([.int 6]) ++ List.replicate (1 - (lg_sl ([.int 6])).length) Slot.unset).toArray = ls at hl ⊢
  have hl : lv_has ls 1 [(0, .int 6)] := hl
  refine lv_iload_n hx hb dX3_nameOf_0 rfl (lv_at hl 0 rfl) ?_
  refine lv_tableIn (off := 63) (tgt := 64) hx hb dX3_nameOf_1 (by decide) (by decide) rfl (by decide) ?_
  refine z_ldcw hx hb hown (hX0.2.2.1.1 (291, "failed", 26) (by decide +kernel)) dX3_nameOf_64 ?_
  refine W.widen (k := 0) (n := 0) (by omega) (by omega) ?_
  exact W.aret (v := .ref (zv (20 + 6))) hx hb hr (Or.inl ⟨_, rfl⟩) (Or.inr ⟨_, rfl⟩) (fun t ht hW => ⟨⟨(), zv (20 + 6), rfl, trivial, ⟨rfl, ⟨by rw [ht]; exact hP, by rw [hAe]; exact hD⟩⟩⟩, hS.F ht⟩) hS.2.2 dX3_nameOf_67
set_option maxHeartbeats 4000000 in
set_option maxRecDepth 100000 in
theorem c_nameOf_7 (l : Launch) (D : va_G) (cA : Nat → ClassId) (zv : Nat → Nat) (sz : Nat)   : Met l yX3_nameOf wsX3_nameOf ({ frames := 0, cells := 0, slots := 0, locals := 0 }) (va_Pc [.int 7] (zUX D cA zv sz [])) (va_Qr (fun (_ : Unit) => True) (fun (_ : Unit) ra t => ra = zv (20 + 7) ∧ zB D [] sz [] t) (va_A [] sz)) 0 0 (va_A [] sz) := by
  refine Met.ofW (cc := cX3_nameOf) (maxL := 1) (ret := (some (.object "java/lang/String"))) (by decide) rfl ?_
  intro p e s m args below meth c s₁ B hml hv
  obtain ⟨rfl, ⟨hsz, hP, hK, hD0, hE0⟩, hX0⟩ := hv
  have hx := B.exec
  have hb := B.bytes
  have hr := B.returns
  have hts := atoms_spec (ws := wsX3_nameOf) B.pre
  have hown : s.vm.findClass RX3 = some m.cls := findClass_of_methodNamed B.named
  have hlocks := B.notSynchronized
  subst hsz
  have hD := hD0.self (sz := s.heap.size)
  generalize hAe : va_A [] s.heap.size = A at hD hE0 hX0 ⊢
  have hA : ∀ q : Nat, s.heap.size ≤ q → A q := fun q h => by rw [← hAe]; exact Or.inr h
  have hS : va_S A s.heap s.heap [] := va_S.rf
  have hl := lv_entry ([.int 7]) (n := 1) (Nat.le_of_ble_eq_true rfl)
  rw [lg_entry_eq]
  generalize (lg_sl ([.int 7]) ++ List.replicate (1 - (lg_sl ([.int 7])).length) Slot.unset).toArray = ls at hl ⊢
  have hl : lv_has ls 1 [(0, .int 7)] := hl
  refine lv_iload_n hx hb dX3_nameOf_0 rfl (lv_at hl 0 rfl) ?_
  refine lv_tableIn (off := 67) (tgt := 68) hx hb dX3_nameOf_1 (by decide) (by decide) rfl (by decide) ?_
  refine z_ldcw hx hb hown (hX0.2.2.1.1 (293, "looped", 27) (by decide +kernel)) dX3_nameOf_68 ?_
  refine W.widen (k := 0) (n := 0) (by omega) (by omega) ?_
  exact W.aret (v := .ref (zv (20 + 7))) hx hb hr (Or.inl ⟨_, rfl⟩) (Or.inr ⟨_, rfl⟩) (fun t ht hW => ⟨⟨(), zv (20 + 7), rfl, trivial, ⟨rfl, ⟨by rw [ht]; exact hP, by rw [hAe]; exact hD⟩⟩⟩, hS.F ht⟩) hS.2.2 dX3_nameOf_71
set_option maxHeartbeats 4000000 in
set_option maxRecDepth 100000 in
theorem c_X3_nameOf (l : Launch) (D : va_G) (cA : Nat → ClassId) (zv : Nat → Nat) (sz : Nat) (k : Nat) (hk : k < 8) : Met l yX3_nameOf wsX3_nameOf ({ frames := 0, cells := 0, slots := 0, locals := 0 }) (va_Pc [.int (nI k)] (zUX D cA zv sz [])) (va_Qr (fun (_ : Unit) => True) (fun (_ : Unit) ra t => ra = zv (20 + k) ∧ zB D [] sz [] t) (va_A [] sz)) 0 0 (va_A [] sz) := by
  match k, hk with
  | 0, _ => exact c_nameOf_0 l D cA zv sz
  | 1, _ => exact c_nameOf_1 l D cA zv sz
  | 2, _ => exact c_nameOf_2 l D cA zv sz
  | 3, _ => exact c_nameOf_3 l D cA zv sz
  | 4, _ => exact c_nameOf_4 l D cA zv sz
  | 5, _ => exact c_nameOf_5 l D cA zv sz
  | 6, _ => exact c_nameOf_6 l D cA zv sz
  | 7, _ => exact c_nameOf_7 l D cA zv sz
  | _ + 8, h => exact absurd h (by omega)
set_option maxHeartbeats 4000000 in
set_option maxRecDepth 100000 in
theorem c_sbi (l : Launch) (D : va_G) (cA : Nat → ClassId) (zv : Nat → Nat) (sz : Nat) (sb vb : Nat) (ml : Int32) (ct n : Nat) (g : Nat → Int32) (v : Nat) (hn : n = 16 ∨ n = 34) (hct : ct ≤ n) (hfb : bfit n g) (hr34 : ct + 3 ≤ 34) (hv : v ≤ 100) : Met l yJ4_append_bf812 wsJ4_append_bf812 ({ frames := 5, cells := 1, slots := 34, locals := 127 }) (va_Pc [.ref sb, .int (nI v)] (zUX D cA zv sz [(sb, .inr (0, [.ref vb, .int 0, .int ml, .int (nI ct)])), (vb, .inl (cA 2, n, .inl g))])) (va_Qr (fun (u : (Nat × Nat × (Nat → Int32))) => apd u.2.1 u.2.2 g ct (lnD v)) (fun (u : (Nat × Nat × (Nat → Int32))) ra t => ra = sb ∧ zB D [(sb, .inr (0, [.ref vb, .int 0, .int ml, .int (nI ct)])), (vb, .inl (cA 2, n, .inl g))] sz [(sb, .inr (0, [.ref u.1, .int 0, .int ml, .int (nI (ct + (lnD v).length))])), (u.1, .inl (cA 2, u.2.1, .inl u.2.2))] t) (va_A [(sb, .inr (0, [.ref vb, .int 0, .int ml, .int (nI ct)])), (vb, .inl (cA 2, n, .inl g))] sz)) 1 34 (va_A [(sb, .inr (0, [.ref vb, .int 0, .int ml, .int (nI ct)])), (vb, .inl (cA 2, n, .inl g))] sz) := by
  rcases (show v ≤ 9 ∨ (10 ≤ v ∧ v ≤ 99) ∨ v = 100 by omega) with h | ⟨h1, h2⟩ | rfl
  · rw [lnD_a h]; exact c_sbi_a l D cA zv sz sb vb ml ct n g v hn hct hfb (by omega) (by omega) h
  · rw [lnD_b h1 h2]; exact c_sbi_b l D cA zv sz sb vb ml ct n g v hn hct hfb (by omega) h1 h2
  · rw [lnD_c (Nat.le_refl 100)]; exact c_sbi_c l D cA zv sz sb vb ml ct n g hn hct hfb (by omega)
set_option maxHeartbeats 4000000 in
set_option maxRecDepth 100000 in
/-- OptionWire.writeLine(end) -/
theorem c_X3_writeLine (l : Launch) (D : va_G) (cA : Nat → ClassId) (zv : Nat → Nat) (sz : Nat) (o F G : Nat) (lo nw se : Int32) (pa : Nat → Nat) (an ln : Nat) (x : Nat → Nat) (xv : Nat → Int32) (k vb nb ct : Nat) (ml : Int32) (f g : Nat → Int32) (hk : k < 8) (hk0 : xv 0 = nI k) (hok : ∀ j, j < 4 → okv (f j)) (hn : nb = 16 ∨ nb = 34) (hct : ct ≤ nb) (hfb : bfit nb g) : Met l yX3_writeLine wsX3_writeLine ({ frames := 6, cells := 13, slots := 442, locals := 148 }) (va_Pc [.ref o, .ref (x 0)] (zUX D cA zv sz [(o, .inr (4, [.ref F, .ref G, .int lo, .int nw, .int se, .ref (pa 0), .ref an, .ref ln])), cE x xv, (x 7, .inl (cA 0, 4, .inl f)), (ln, .inr (0, [.ref vb, .int 0, .int ml, .int (nI ct)])), (vb, .inl (cA 2, nb, .inl g))])) (va_Qv (fun (u : (Nat × Int32 × Nat × (Nat → Int32))) => apd u.2.2.1 u.2.2.2 g 0 (lnT k f 4)) (fun (u : (Nat × Int32 × Nat × (Nat → Int32))) t => zB D [(o, .inr (4, [.ref F, .ref G, .int lo, .int nw, .int se, .ref (pa 0), .ref an, .ref ln])), cE x xv, (x 7, .inl (cA 0, 4, .inl f)), (ln, .inr (0, [.ref vb, .int 0, .int ml, .int (nI ct)])), (vb, .inl (cA 2, nb, .inl g))] sz [(o, .inr (4, [.ref F, .ref G, .int lo, .int nw, .int se, .ref (pa 0), .ref an, .ref ln])), cE x xv, (x 7, .inl (cA 0, 4, .inl f)), (ln, .inr (0, [.ref u.1, .int 0, .int u.2.1, .int (nI ((lnT k f 4).length))])), (u.1, .inl (cA 2, u.2.2.1, .inl u.2.2.2))] t) (va_A [(o, .inr (4, [.ref F, .ref G, .int lo, .int nw, .int se, .ref (pa 0), .ref an, .ref ln])), cE x xv, (x 7, .inl (cA 0, 4, .inl f)), (ln, .inr (0, [.ref vb, .int 0, .int ml, .int (nI ct)])), (vb, .inl (cA 2, nb, .inl g))] sz)) 13 442 (va_A [(o, .inr (4, [.ref F, .ref G, .int lo, .int nw, .int se, .ref (pa 0), .ref an, .ref ln])), cE x xv, (x 7, .inl (cA 0, 4, .inl f)), (ln, .inr (0, [.ref vb, .int 0, .int ml, .int (nI ct)])), (vb, .inl (cA 2, nb, .inl g))] sz) := by
  refine Met.ofW (cc := cX3_writeLine) (maxL := 3) (ret := none) (by decide) rfl ?_
  intro p e s m args below meth c s₁ B hml hv
  obtain ⟨rfl, ⟨hsz, hP, hK, hD0, hE0⟩, hX0⟩ := hv
  have hx := B.exec
  have hb := B.bytes
  have hr := B.returns
  have hts := atoms_spec (ws := wsX3_writeLine) B.pre
  have hown : s.vm.findClass RX3 = some m.cls := findClass_of_methodNamed B.named
  have hlocks := B.notSynchronized
  subst hsz
  have hD := hD0.self (sz := s.heap.size)
  generalize hAe : va_A [(o, .inr (4, [.ref F, .ref G, .int lo, .int nw, .int se, .ref (pa 0), .ref an, .ref ln])), cE x xv, (x 7, .inl (cA 0, 4, .inl f)), (ln, .inr (0, [.ref vb, .int 0, .int ml, .int (nI ct)])), (vb, .inl (cA 2, nb, .inl g))] s.heap.size = A at hD hE0 hX0 ⊢
  have hA : ∀ q : Nat, s.heap.size ≤ q → A q := fun q h => by rw [← hAe]; exact Or.inr h
  have hS : va_S A s.heap s.heap [] := va_S.rf
  have hl := lv_entry ([.ref o, .ref (x 0)]) (n := 3) (Nat.le_of_ble_eq_true rfl)
  rw [lg_entry_eq]
  generalize (lg_sl ([.ref o, .ref (x 0)]) ++ List.replicate (3 - (lg_sl ([.ref o, .ref (x 0)])).length) Slot.unset).toArray = ls at hl ⊢
  have hl : lv_has ls 3 [(0, .ref o), (1, .ref (x 0))] := hl
  refine lv_aload_n hx hb dX3_writeLine_0 rfl (lv_at hl 0 rfl) ?_
  refine va_get (D := D) (ci := 4) (v := .ref ln) (C := RX3) (T := TX3) (N := 8) hx hb hts (fun _ h => List.mem_cons_of_mem _ (List.mem_append_left _ (List.mem_append_left _ (List.mem_append_right _ (h))))) hown hK hP 0 rfl rfl 7 (by decide) (hts (.fieldLink RX3 44 "OptionWire" "line" "Ljava/lang/StringBuilder;") (List.mem_of_getElem? (i := 1) rfl)) (fun _ h9 => h9) rfl dX3_writeLine_1 ?_
  refine lv_iconst (v := 0) hx hb dX3_writeLine_4 (by decide) ?_
  have hPc := hP.sub (ws' := [(ln, .inr (0, [.ref vb, .int 0, .int ml, .int (nI ct)])), (vb, .inl (cA 2, nb, .inl g))]) [3, 4] rfl
  have hDc := hD.sub (ws' := [(ln, .inr (0, [.ref vb, .int 0, .int ml, .int (nI ct)])), (vb, .inl (cA 2, nb, .inl g))]) [3, 4] (by decide) rfl
  have hFc := va_free (wc := [(ln, .inr (0, [.ref vb, .int 0, .int ml, .int (nI ct)])), (vb, .inl (cA 2, nb, .inl g))]) hD hS hA [3, 4] rfl
  refine va_callv (va_runV (As := [.int 0]) (rest := []) ⟨hx, hb, hml, hown, hts⟩ (c_J4_setLength_d00df l D cA s.heap.size ln vb ml ct nb g hn hct) (cwV 1 hts gX3_writeLine_J4_setLength_d00df rfl rfl rfl (by decide +kernel) ⟨Nat.le_of_ble_eq_true rfl, Nat.le_of_ble_eq_true rfl⟩) ⟨zU_blind, va_recv hK hPc (ci := 0) (q0 := 0) rfl rfl, fun U hU hW => ⟨rfl, zU_call hU hPc hW.alike hK hDc⟩⟩ rfl rfl hl.1 rfl (lv_room (Nat.le_of_ble_eq_true rfl)) dX3_writeLine_5 ⟨(Nat.zero_le _), (Nat.zero_le _)⟩) hS (fun q _ h => hFc q h) hFc (fun u t H1 locs ht hvm hw hB hz1 hk1 hS => ?_)
  obtain ⟨ml'_1, rfl⟩ : ∃ z, z = u := ⟨_, rfl⟩
  obtain ⟨hP1, hD1⟩ := hB
  rw [ht] at hP1
  try dsimp only at hw hP1 hD1
  obtain ⟨hP, hD⟩ := va_join (wr := [(o, .inr (4, [.ref F, .ref G, .int lo, .int nw, .int se, .ref (pa 0), .ref an, .ref ln])), cE x xv, (x 7, .inl (cA 0, 4, .inl f))]) (w1 := [(ln, .inr (0, [.ref vb, .int 0, .int ml'_1, .int (nI 0)])), (vb, .inl (cA 2, nb, .inl g))]) hP hD [3, 4] [0, 1, 2] rfl rfl (by decide) (by decide) hk1 hFc hP1 hD1
  generalize H1 = H at hP hS ⊢
  have hP := hP.sub (ws' := [(o, .inr (4, [.ref F, .ref G, .int lo, .int nw, .int se, .ref (pa 0), .ref an, .ref ln])), cE x xv, (x 7, .inl (cA 0, 4, .inl f)), (ln, .inr (0, [.ref vb, .int 0, .int ml'_1, .int (nI 0)])), (vb, .inl (cA 2, nb, .inl g))]) [0, 1, 2, 3, 4] rfl
  have hD := hD.sub (ws' := [(o, .inr (4, [.ref F, .ref G, .int lo, .int nw, .int se, .ref (pa 0), .ref an, .ref ln])), cE x xv, (x 7, .inl (cA 0, 4, .inl f)), (ln, .inr (0, [.ref vb, .int 0, .int ml'_1, .int (nI 0)])), (vb, .inl (cA 2, nb, .inl g))]) [0, 1, 2, 3, 4] (by decide) rfl
  clear hPc hDc hFc hP1 hD1 hk1 hz1
  have hw_1 := hw
  refine lv_aload_n hx hb dX3_writeLine_8 rfl (lv_at hl 0 rfl) ?_
  refine va_get (D := D) (ci := 4) (v := .ref ln) (C := RX3) (T := TX3) (N := 8) hx hb hts (fun _ h => List.mem_cons_of_mem _ (List.mem_append_left _ (List.mem_append_left _ (List.mem_append_right _ (h))))) hown hK hP 0 rfl rfl 7 (by decide) (hts (.fieldLink RX3 44 "OptionWire" "line" "Ljava/lang/StringBuilder;") (List.mem_of_getElem? (i := 1) rfl)) (fun _ h9 => h9) rfl dX3_writeLine_9 ?_
  refine lv_aload_n hx hb dX3_writeLine_12 rfl (lv_at hl 1 rfl) ?_
  refine va_get (D := D) (ci := 1) (v := .int (xv 0)) (C := RX0) (T := TX0) (N := 16) hx hb hts (fun _ h => List.mem_cons_of_mem _ (List.mem_append_left _ (List.mem_append_right _ (h)))) hown hK hP 1 rfl rfl 9 (by decide) (hts (.fieldLink RX3 95 "OptionWire$End" "state" "I") (List.mem_of_getElem? (i := 2) rfl)) (fun _ h9 => h9) rfl dX3_writeLine_13 ?_
  refine z_top (y := (nI k)) hk0 ?_
  have hPc := hP.sub (ws' := []) [] rfl
  have hDc := hD.sub (ws' := []) [] (by decide) rfl
  have hFc := va_free (wc := []) hD hS hA [] rfl
  refine va_callr (va_runS (As := [.int (nI k)]) (rest := [.ref ln]) ⟨hx, hb, hml, hown, hts⟩ (c_X3_nameOf l D cA zv H.size k (by assumption)) (va_cwS 1 hts gX3_writeLine_X3_nameOf rfl rfl rfl (by decide +kernel) ⟨Nat.le_of_ble_eq_true rfl, Nat.le_of_ble_eq_true rfl⟩) ⟨zUX_blind, fun U hU hW => ⟨rfl, zUX_call hE0 hX0 hS hFc hU hPc hW hK hDc⟩⟩ rfl rfl hl.1 rfl (lv_room (Nat.le_of_ble_eq_true rfl)) dX3_writeLine_16 ⟨(Nat.zero_le _), (Nat.zero_le _)⟩) hS (fun q _ h => hFc q h) hFc (fun u ra t H1 locs ht hvm hw hB hz1 hk1 hS => ?_)
  obtain ⟨hra, hP1, hD1⟩ := hB
  rw [ht] at hP1
  subst ra
  obtain ⟨hP, hD⟩ := va_join (wr := [(o, .inr (4, [.ref F, .ref G, .int lo, .int nw, .int se, .ref (pa 0), .ref an, .ref ln])), cE x xv, (x 7, .inl (cA 0, 4, .inl f)), (ln, .inr (0, [.ref vb, .int 0, .int ml'_1, .int (nI 0)])), (vb, .inl (cA 2, nb, .inl g))]) (w1 := []) hP hD [] [0, 1, 2, 3, 4] rfl rfl (by decide) (by decide) hk1 hFc hP1 hD1
  generalize H1 = H at hP hS ⊢
  have hP := hP.sub (ws' := [(o, .inr (4, [.ref F, .ref G, .int lo, .int nw, .int se, .ref (pa 0), .ref an, .ref ln])), cE x xv, (x 7, .inl (cA 0, 4, .inl f)), (ln, .inr (0, [.ref vb, .int 0, .int ml'_1, .int (nI 0)])), (vb, .inl (cA 2, nb, .inl g))]) [0, 1, 2, 3, 4] rfl
  have hD := hD.sub (ws' := [(o, .inr (4, [.ref F, .ref G, .int lo, .int nw, .int se, .ref (pa 0), .ref an, .ref ln])), cE x xv, (x 7, .inl (cA 0, 4, .inl f)), (ln, .inr (0, [.ref vb, .int 0, .int ml'_1, .int (nI 0)])), (vb, .inl (cA 2, nb, .inl g))]) [0, 1, 2, 3, 4] (by decide) rfl
  clear hPc hDc hFc hP1 hD1 hk1 hz1
  have hw_2 := hw
  have hPc := hP.sub (ws' := [(ln, .inr (0, [.ref vb, .int 0, .int ml'_1, .int (nI 0)])), (vb, .inl (cA 2, nb, .inl g))]) [3, 4] rfl
  have hDc := hD.sub (ws' := [(ln, .inr (0, [.ref vb, .int 0, .int ml'_1, .int (nI 0)])), (vb, .inl (cA 2, nb, .inl g))]) [3, 4] (by decide) rfl
  have hFc := va_free (wc := [(ln, .inr (0, [.ref vb, .int 0, .int ml'_1, .int (nI 0)])), (vb, .inl (cA 2, nb, .inl g))]) hD hS hA [3, 4] rfl
  refine va_callr (va_runV (As := [.ref (zv (20 + k))]) (rest := []) ⟨hx, hb, hml, hown, hts⟩ (c_J4_append_15ec4 l D cA zv H.size ln vb ml'_1 0 nb g k hn (Nat.zero_le _) hfb (by assumption) (by have q9 := zlen7 hk; omega)) (cwV 1 hts gX3_writeLine_J4_append_15ec4 rfl rfl rfl (by decide +kernel) ⟨Nat.le_of_ble_eq_true rfl, Nat.le_of_ble_eq_true rfl⟩) ⟨zUX_blind, va_recv hK hPc (ci := 0) (q0 := 0) rfl rfl, fun U hU hW => ⟨rfl, zUX_call hE0 hX0 hS hFc hU hPc hW hK hDc⟩⟩ rfl rfl hl.1 rfl (lv_room (Nat.le_of_ble_eq_true rfl)) dX3_writeLine_19 ⟨Nat.le_of_ble_eq_true rfl, Nat.le_of_ble_eq_true rfl⟩) hS (fun q _ h => hFc q h) hFc (fun u ra t H1 locs ht hvm hw hB hz1 hk1 hS => ?_)
  obtain ⟨vb'_3, n'_3, g'_3⟩ := u
  obtain ⟨hra, hP1, hD1⟩ := hB
  rw [ht] at hP1
  try dsimp only at hw hP1 hD1 hra
  subst ra
  obtain ⟨hP, hD⟩ := va_join (wr := [(o, .inr (4, [.ref F, .ref G, .int lo, .int nw, .int se, .ref (pa 0), .ref an, .ref ln])), cE x xv, (x 7, .inl (cA 0, 4, .inl f))]) (w1 := [(ln, .inr (0, [.ref vb'_3, .int 0, .int ml'_1, .int (nI (0 + zLen.getD k 0))])), (vb'_3, .inl (cA 2, n'_3, .inl g'_3))]) hP hD [3, 4] [0, 1, 2] rfl rfl (by decide) (by decide) hk1 hFc hP1 hD1
  generalize H1 = H at hP hS ⊢
  have hP := hP.sub (ws' := [(o, .inr (4, [.ref F, .ref G, .int lo, .int nw, .int se, .ref (pa 0), .ref an, .ref ln])), cE x xv, (x 7, .inl (cA 0, 4, .inl f)), (ln, .inr (0, [.ref vb'_3, .int 0, .int ml'_1, .int (nI (0 + zLen.getD k 0))])), (vb'_3, .inl (cA 2, n'_3, .inl g'_3))]) [0, 1, 2, 3, 4] rfl
  have hD := hD.sub (ws' := [(o, .inr (4, [.ref F, .ref G, .int lo, .int nw, .int se, .ref (pa 0), .ref an, .ref ln])), cE x xv, (x 7, .inl (cA 0, 4, .inl f)), (ln, .inr (0, [.ref vb'_3, .int 0, .int ml'_1, .int (nI (0 + zLen.getD k 0))])), (vb'_3, .inl (cA 2, n'_3, .inl g'_3))]) [0, 1, 2, 3, 4] (by decide) rfl
  clear hPc hDc hFc hP1 hD1 hk1 hz1
  refine W.widen (k := 1) (n := 34) (by omega) (by omega) ?_
  have hw_3 := hw
  refine z_cut (Inv := fun H locs ls st => ∃ (vbx0 : Nat), ∃ (nx0 : Nat), ∃ (ctx0 : Nat), ∃ (gx0 : Nat → Int32), st = [] ∧ va_P D vwCl [(o, .inr (4, [.ref F, .ref G, .int lo, .int nw, .int se, .ref (pa 0), .ref an, .ref ln])), cE x xv, (x 7, .inl (cA 0, 4, .inl f)), (ln, .inr (0, [.ref vbx0, .int 0, .int ml'_1, .int (nI ctx0)])), (vbx0, .inl (cA 2, nx0, .inl gx0))] H ∧ va_D A [(o, .inr (4, [.ref F, .ref G, .int lo, .int nw, .int se, .ref (pa 0), .ref an, .ref ln])), cE x xv, (x 7, .inl (cA 0, 4, .inl f)), (ln, .inr (0, [.ref vbx0, .int 0, .int ml'_1, .int (nI ctx0)])), (vbx0, .inl (cA 2, nx0, .inl gx0))] ∧ va_S A s.heap H locs ∧ lv_has ls 3 [(0, .ref o), (1, .ref (x 0))] ∧ apd nx0 gx0 g 0 (lnT k f 0) ∧ ctx0 = (lnT k f 0).length) 23 (fun H locs ls st hI => ?_) (fun kJ => ?_)
  · obtain ⟨vbx0, nx0, ctx0, gx0, rfl, hP, hD, hS, hl, ha0, hc0⟩ := hI
    refine lv_iconst (v := 0) hx hb dX3_writeLine_23 (by decide) ?_
    refine lv_istore_n (lv' := [(2, .int 0), (0, .ref o), (1, .ref (x 0))]) hx hb dX3_writeLine_24 rfl hl (by decide) rfl (fun ls hl => ?_)
    refine lv_iload_n hx hb dX3_writeLine_25 rfl (lv_at hl 0 rfl) ?_
    refine lv_iconst (v := 4) hx hb dX3_writeLine_26 (by decide) ?_
    refine lv_icmp_ge (tgt := 73) hx hb dX3_writeLine_27 (by decide) (fun c_4 => absurd c_4 (by decide)) (fun _ => ?_)
    refine z_cutA (Inv := fun H locs ls st => ∃ (vbx1 : Nat), ∃ (nx1 : Nat), ∃ (ctx1 : Nat), ∃ (gx1 : Nat → Int32), st = [] ∧ va_P D vwCl [(o, .inr (4, [.ref F, .ref G, .int lo, .int nw, .int se, .ref (pa 0), .ref an, .ref ln])), cE x xv, (x 7, .inl (cA 0, 4, .inl f)), (ln, .inr (0, [.ref vbx1, .int 0, .int ml'_1, .int (nI ctx1)])), (vbx1, .inl (cA 2, nx1, .inl gx1))] H ∧ va_D A [(o, .inr (4, [.ref F, .ref G, .int lo, .int nw, .int se, .ref (pa 0), .ref an, .ref ln])), cE x xv, (x 7, .inl (cA 0, 4, .inl f)), (ln, .inr (0, [.ref vbx1, .int 0, .int ml'_1, .int (nI ctx1)])), (vbx1, .inl (cA 2, nx1, .inl gx1))] ∧ va_S A s.heap H locs ∧ lv_has ls 3 [(2, .int 0), (0, .ref o), (1, .ref (x 0))] ∧ apd nx1 gx1 g 0 (lnT k f 1) ∧ ctx1 = (lnT k f 1).length) 67 4 136 (fun H locs ls st hI => ?_) (fun kJ => ?_)
    · obtain ⟨vbx1, nx1, ctx1, gx1, rfl, hP, hD, hS, hl, ha1, hc1⟩ := hI
      refine lv_iinc (v := 1) (lv' := [(2, .int 1), (0, .ref o), (1, .ref (x 0))]) hx hb dX3_writeLine_67 hl (k := 0) rfl (by decide) (by decide) rfl (fun ls hl => ?_)
      refine lv_goto (tgt := 25) hx hb dX3_writeLine_70 (by decide) ?_
      refine lv_iload_n hx hb dX3_writeLine_25 rfl (lv_at hl 0 rfl) ?_
      refine lv_iconst (v := 4) hx hb dX3_writeLine_26 (by decide) ?_
      refine lv_icmp_ge (tgt := 73) hx hb dX3_writeLine_27 (by decide) (fun c_5 => absurd c_5 (by decide)) (fun _ => ?_)
      refine z_cutA (Inv := fun H locs ls st => ∃ (vbx2 : Nat), ∃ (nx2 : Nat), ∃ (ctx2 : Nat), ∃ (gx2 : Nat → Int32), st = [] ∧ va_P D vwCl [(o, .inr (4, [.ref F, .ref G, .int lo, .int nw, .int se, .ref (pa 0), .ref an, .ref ln])), cE x xv, (x 7, .inl (cA 0, 4, .inl f)), (ln, .inr (0, [.ref vbx2, .int 0, .int ml'_1, .int (nI ctx2)])), (vbx2, .inl (cA 2, nx2, .inl gx2))] H ∧ va_D A [(o, .inr (4, [.ref F, .ref G, .int lo, .int nw, .int se, .ref (pa 0), .ref an, .ref ln])), cE x xv, (x 7, .inl (cA 0, 4, .inl f)), (ln, .inr (0, [.ref vbx2, .int 0, .int ml'_1, .int (nI ctx2)])), (vbx2, .inl (cA 2, nx2, .inl gx2))] ∧ va_S A s.heap H locs ∧ lv_has ls 3 [(2, .int 1), (0, .ref o), (1, .ref (x 0))] ∧ apd nx2 gx2 g 0 (lnT k f 2) ∧ ctx2 = (lnT k f 2).length) 67 7 238 (fun H locs ls st hI => ?_) (fun kJ => ?_)
      · obtain ⟨vbx2, nx2, ctx2, gx2, rfl, hP, hD, hS, hl, ha2, hc2⟩ := hI
        refine lv_iinc (v := 2) (lv' := [(2, .int 2), (0, .ref o), (1, .ref (x 0))]) hx hb dX3_writeLine_67 hl (k := 0) rfl (by decide) (by decide) rfl (fun ls hl => ?_)
        refine lv_goto (tgt := 25) hx hb dX3_writeLine_70 (by decide) ?_
        refine lv_iload_n hx hb dX3_writeLine_25 rfl (lv_at hl 0 rfl) ?_
        refine lv_iconst (v := 4) hx hb dX3_writeLine_26 (by decide) ?_
        refine lv_icmp_ge (tgt := 73) hx hb dX3_writeLine_27 (by decide) (fun c_6 => absurd c_6 (by decide)) (fun _ => ?_)
        refine z_cutA (Inv := fun H locs ls st => ∃ (vbx3 : Nat), ∃ (nx3 : Nat), ∃ (ctx3 : Nat), ∃ (gx3 : Nat → Int32), st = [] ∧ va_P D vwCl [(o, .inr (4, [.ref F, .ref G, .int lo, .int nw, .int se, .ref (pa 0), .ref an, .ref ln])), cE x xv, (x 7, .inl (cA 0, 4, .inl f)), (ln, .inr (0, [.ref vbx3, .int 0, .int ml'_1, .int (nI ctx3)])), (vbx3, .inl (cA 2, nx3, .inl gx3))] H ∧ va_D A [(o, .inr (4, [.ref F, .ref G, .int lo, .int nw, .int se, .ref (pa 0), .ref an, .ref ln])), cE x xv, (x 7, .inl (cA 0, 4, .inl f)), (ln, .inr (0, [.ref vbx3, .int 0, .int ml'_1, .int (nI ctx3)])), (vbx3, .inl (cA 2, nx3, .inl gx3))] ∧ va_S A s.heap H locs ∧ lv_has ls 3 [(2, .int 2), (0, .ref o), (1, .ref (x 0))] ∧ apd nx3 gx3 g 0 (lnT k f 3) ∧ ctx3 = (lnT k f 3).length) 67 10 340 (fun H locs ls st hI => ?_) (fun kJ => ?_)
        · obtain ⟨vbx3, nx3, ctx3, gx3, rfl, hP, hD, hS, hl, ha3, hc3⟩ := hI
          refine lv_iinc (v := 3) (lv' := [(2, .int 3), (0, .ref o), (1, .ref (x 0))]) hx hb dX3_writeLine_67 hl (k := 0) rfl (by decide) (by decide) rfl (fun ls hl => ?_)
          refine lv_goto (tgt := 25) hx hb dX3_writeLine_70 (by decide) ?_
          refine lv_iload_n hx hb dX3_writeLine_25 rfl (lv_at hl 0 rfl) ?_
          refine lv_iconst (v := 4) hx hb dX3_writeLine_26 (by decide) ?_
          refine lv_icmp_ge (tgt := 73) hx hb dX3_writeLine_27 (by decide) (fun c_7 => absurd c_7 (by decide)) (fun _ => ?_)
          refine z_cutA (Inv := fun H locs ls st => ∃ (vbx4 : Nat), ∃ (nx4 : Nat), ∃ (ctx4 : Nat), ∃ (gx4 : Nat → Int32), st = [] ∧ va_P D vwCl [(o, .inr (4, [.ref F, .ref G, .int lo, .int nw, .int se, .ref (pa 0), .ref an, .ref ln])), cE x xv, (x 7, .inl (cA 0, 4, .inl f)), (ln, .inr (0, [.ref vbx4, .int 0, .int ml'_1, .int (nI ctx4)])), (vbx4, .inl (cA 2, nx4, .inl gx4))] H ∧ va_D A [(o, .inr (4, [.ref F, .ref G, .int lo, .int nw, .int se, .ref (pa 0), .ref an, .ref ln])), cE x xv, (x 7, .inl (cA 0, 4, .inl f)), (ln, .inr (0, [.ref vbx4, .int 0, .int ml'_1, .int (nI ctx4)])), (vbx4, .inl (cA 2, nx4, .inl gx4))] ∧ va_S A s.heap H locs ∧ lv_has ls 3 [(2, .int 3), (0, .ref o), (1, .ref (x 0))] ∧ apd nx4 gx4 g 0 (lnT k f 4) ∧ ctx4 = (lnT k f 4).length) 67 13 442 (fun H locs ls st hI => ?_) (fun kJ => ?_)
          · obtain ⟨vbx4, nx4, ctx4, gx4, rfl, hP, hD, hS, hl, ha4, hc4⟩ := hI
            refine lv_iinc (v := 4) (lv' := [(2, .int 4), (0, .ref o), (1, .ref (x 0))]) hx hb dX3_writeLine_67 hl (k := 0) rfl (by decide) (by decide) rfl (fun ls hl => ?_)
            refine lv_goto (tgt := 25) hx hb dX3_writeLine_70 (by decide) ?_
            refine lv_iload_n hx hb dX3_writeLine_25 rfl (lv_at hl 0 rfl) ?_
            refine lv_iconst (v := 4) hx hb dX3_writeLine_26 (by decide) ?_
            refine lv_icmp_ge (tgt := 73) hx hb dX3_writeLine_27 (by decide) (fun _ => ?_) (fun c_8 => absurd c_8 (by decide))
            subst hc4
            refine W.widen (k := 13) (n := 442) (by omega) (by omega) ?_
            exact W.vret hx hb hr (fun t ht hW => ⟨⟨(vbx4, ml'_1, nx4, gx4), rfl, ha4, ⟨by rw [ht]; exact hP, by rw [hAe]; exact hD⟩⟩, hS.F ht⟩) hS.2.2 dX3_writeLine_73
          · skip
            refine lv_aload_n hx hb dX3_writeLine_30 rfl (lv_at hl 2 rfl) ?_
            refine va_get (D := D) (ci := 1) (v := .ref (x 7)) (C := RX0) (T := TX0) (N := 16) hx hb hts (fun _ h => List.mem_cons_of_mem _ (List.mem_append_left _ (List.mem_append_right _ (h)))) hown hK hP 1 rfl rfl 6 (by decide) (hts (.fieldLink RX3 107 "OptionWire$End" "asked" "[I") (List.mem_of_getElem? (i := 3) rfl)) (fun _ h9 => h9) rfl dX3_writeLine_31 ?_
            refine lv_iload_n hx hb dX3_writeLine_34 rfl (lv_at hl 0 rfl) ?_
            refine z_iald (k := 3) (v := (f 3)) hx hb hK hP 2 0 rfl rfl rfl (by omega) (by decide) rfl dX3_writeLine_35 ?_
            refine lv_iconst (v := (-1)) hx hb dX3_writeLine_36 (by decide) ?_
            refine lv_icmp_eq (tgt := 67) hx hb dX3_writeLine_37 (by decide) (fun c_9 => ?_) (fun c_9 => ?_)
            · skip
              refine W.widen (k := 13) (n := 442) (by omega) (by omega) ?_
              exact kJ _ _ _ _ ⟨vbx3, nx3, ctx3, gx3, rfl, hP, hD, hS, lv_sub hl [0, 1, 2] rfl, (by rw [show lnT k f 4 = _ from lnT_n c_9]; exact ha3), (by rw [show lnT k f 4 = _ from lnT_n c_9]; exact hc3)⟩
            · skip
              obtain ⟨vv3, hv3, hfv3⟩ := (hok 3 (by decide)).resolve_left c_9
              have hn3 := ha3.1
              have hq3 : ctx3 ≤ nx3 := by have q9 := ha3.2.1; omega
              have hf3 := ha3.2.2.1
              have h34_3 : ctx3 + 5 ≤ 34 := by have q9 := lnT_le (f := f) hk 3; omega
              refine lv_aload_n hx hb dX3_writeLine_40 rfl (lv_at hl 1 rfl) ?_
              refine va_get (D := D) (ci := 4) (v := .ref ln) (C := RX3) (T := TX3) (N := 8) hx hb hts (fun _ h => List.mem_cons_of_mem _ (List.mem_append_left _ (List.mem_append_left _ (List.mem_append_right _ (h))))) hown hK hP 0 rfl rfl 7 (by decide) (hts (.fieldLink RX3 44 "OptionWire" "line" "Ljava/lang/StringBuilder;") (List.mem_of_getElem? (i := 1) rfl)) (fun _ h9 => h9) rfl dX3_writeLine_41 ?_
              refine lv_bipush (v := 32) hx hb dX3_writeLine_44 (by decide) ?_
              have hPc := hP.sub (ws' := [(ln, .inr (0, [.ref vbx3, .int 0, .int ml'_1, .int (nI ctx3)])), (vbx3, .inl (cA 2, nx3, .inl gx3))]) [3, 4] rfl
              have hDc := hD.sub (ws' := [(ln, .inr (0, [.ref vbx3, .int 0, .int ml'_1, .int (nI ctx3)])), (vbx3, .inl (cA 2, nx3, .inl gx3))]) [3, 4] (by decide) rfl
              have hFc := va_free (wc := [(ln, .inr (0, [.ref vbx3, .int 0, .int ml'_1, .int (nI ctx3)])), (vbx3, .inl (cA 2, nx3, .inl gx3))]) hD hS hA [3, 4] rfl
              refine va_callr (va_runV (As := [.int 32]) (rest := []) ⟨hx, hb, hml, hown, hts⟩ (c_J4_append_cf468 l D cA zv H.size ln vbx3 ml'_1 ctx3 nx3 gx3 32 hn3 hq3 hf3 (by omega) (by decide) (by decide)) (cwV 1 hts gX3_writeLine_J4_append_cf468 rfl rfl rfl (by decide +kernel) ⟨Nat.le_of_ble_eq_true rfl, Nat.le_of_ble_eq_true rfl⟩) ⟨zUX_blind, va_recv hK hPc (ci := 0) (q0 := 0) rfl rfl, fun U hU hW => ⟨rfl, zUX_call hE0 hX0 hS hFc hU hPc hW hK hDc⟩⟩ rfl rfl hl.1 rfl (lv_room (Nat.le_of_ble_eq_true rfl)) dX3_writeLine_46 ⟨Nat.le_of_ble_eq_true rfl, Nat.le_of_ble_eq_true rfl⟩) hS (fun q _ h => hFc q h) hFc (fun u ra t H1 locs ht hvm hw hB hz1 hk1 hS => ?_)
              obtain ⟨vb'_10, n'_10, g'_10⟩ := u
              obtain ⟨hra, hP1, hD1⟩ := hB
              rw [ht] at hP1
              try dsimp only at hw hP1 hD1 hra
              subst ra
              obtain ⟨hP, hD⟩ := va_join (wr := [(o, .inr (4, [.ref F, .ref G, .int lo, .int nw, .int se, .ref (pa 0), .ref an, .ref ln])), cE x xv, (x 7, .inl (cA 0, 4, .inl f))]) (w1 := [(ln, .inr (0, [.ref vb'_10, .int 0, .int ml'_1, .int (nI (ctx3 + 1))])), (vb'_10, .inl (cA 2, n'_10, .inl g'_10))]) hP hD [3, 4] [0, 1, 2] rfl rfl (by decide) (by decide) hk1 hFc hP1 hD1
              generalize H1 = H at hP hS ⊢
              have hP := hP.sub (ws' := [(o, .inr (4, [.ref F, .ref G, .int lo, .int nw, .int se, .ref (pa 0), .ref an, .ref ln])), cE x xv, (x 7, .inl (cA 0, 4, .inl f)), (ln, .inr (0, [.ref vb'_10, .int 0, .int ml'_1, .int (nI (ctx3 + 1))])), (vb'_10, .inl (cA 2, n'_10, .inl g'_10))]) [0, 1, 2, 3, 4] rfl
              have hD := hD.sub (ws' := [(o, .inr (4, [.ref F, .ref G, .int lo, .int nw, .int se, .ref (pa 0), .ref an, .ref ln])), cE x xv, (x 7, .inl (cA 0, 4, .inl f)), (ln, .inr (0, [.ref vb'_10, .int 0, .int ml'_1, .int (nI (ctx3 + 1))])), (vb'_10, .inl (cA 2, n'_10, .inl g'_10))]) [0, 1, 2, 3, 4] (by decide) rfl
              clear hPc hDc hFc hP1 hD1 hk1 hz1
              refine W.widen (k := 11) (n := 374) (by omega) (by omega) ?_
              have hw_10 := hw
              refine lv_bipush (v := 97) hx hb dX3_writeLine_49 (by decide) ?_
              refine lv_iload_n hx hb dX3_writeLine_51 rfl (lv_at hl 0 rfl) ?_
              refine lv_iadd hx hb dX3_writeLine_52 ?_
              refine z_top (y := 100) (by decide) ?_
              refine lv_i2c (v := 100) hx hb dX3_writeLine_53 (by decide) ?_
              have hPc := hP.sub (ws' := [(ln, .inr (0, [.ref vb'_10, .int 0, .int ml'_1, .int (nI (ctx3 + 1))])), (vb'_10, .inl (cA 2, n'_10, .inl g'_10))]) [3, 4] rfl
              have hDc := hD.sub (ws' := [(ln, .inr (0, [.ref vb'_10, .int 0, .int ml'_1, .int (nI (ctx3 + 1))])), (vb'_10, .inl (cA 2, n'_10, .inl g'_10))]) [3, 4] (by decide) rfl
              have hFc := va_free (wc := [(ln, .inr (0, [.ref vb'_10, .int 0, .int ml'_1, .int (nI (ctx3 + 1))])), (vb'_10, .inl (cA 2, n'_10, .inl g'_10))]) hD hS hA [3, 4] rfl
              refine va_callr (va_runV (As := [.int 100]) (rest := []) ⟨hx, hb, hml, hown, hts⟩ (c_J4_append_cf468 l D cA zv H.size ln vb'_10 ml'_1 (ctx3 + 1) n'_10 g'_10 100 hw_10.1 hw_10.2.1 hw_10.2.2.1 (by omega) (by decide) (by decide)) (cwV 1 hts gX3_writeLine_J4_append_cf468 rfl rfl rfl (by decide +kernel) ⟨Nat.le_of_ble_eq_true rfl, Nat.le_of_ble_eq_true rfl⟩) ⟨zUX_blind, va_recv hK hPc (ci := 0) (q0 := 0) rfl rfl, fun U hU hW => ⟨rfl, zUX_call hE0 hX0 hS hFc hU hPc hW hK hDc⟩⟩ rfl rfl hl.1 rfl (lv_room (Nat.le_of_ble_eq_true rfl)) dX3_writeLine_54 ⟨Nat.le_of_ble_eq_true rfl, Nat.le_of_ble_eq_true rfl⟩) hS (fun q _ h => hFc q h) hFc (fun u ra t H1 locs ht hvm hw hB hz1 hk1 hS => ?_)
              obtain ⟨vb'_11, n'_11, g'_11⟩ := u
              obtain ⟨hra, hP1, hD1⟩ := hB
              rw [ht] at hP1
              try dsimp only at hw hP1 hD1 hra
              subst ra
              obtain ⟨hP, hD⟩ := va_join (wr := [(o, .inr (4, [.ref F, .ref G, .int lo, .int nw, .int se, .ref (pa 0), .ref an, .ref ln])), cE x xv, (x 7, .inl (cA 0, 4, .inl f))]) (w1 := [(ln, .inr (0, [.ref vb'_11, .int 0, .int ml'_1, .int (nI ((ctx3 + 1) + 1))])), (vb'_11, .inl (cA 2, n'_11, .inl g'_11))]) hP hD [3, 4] [0, 1, 2] rfl rfl (by decide) (by decide) hk1 hFc hP1 hD1
              generalize H1 = H at hP hS ⊢
              have hP := hP.sub (ws' := [(o, .inr (4, [.ref F, .ref G, .int lo, .int nw, .int se, .ref (pa 0), .ref an, .ref ln])), cE x xv, (x 7, .inl (cA 0, 4, .inl f)), (ln, .inr (0, [.ref vb'_11, .int 0, .int ml'_1, .int (nI ((ctx3 + 1) + 1))])), (vb'_11, .inl (cA 2, n'_11, .inl g'_11))]) [0, 1, 2, 3, 4] rfl
              have hD := hD.sub (ws' := [(o, .inr (4, [.ref F, .ref G, .int lo, .int nw, .int se, .ref (pa 0), .ref an, .ref ln])), cE x xv, (x 7, .inl (cA 0, 4, .inl f)), (ln, .inr (0, [.ref vb'_11, .int 0, .int ml'_1, .int (nI ((ctx3 + 1) + 1))])), (vb'_11, .inl (cA 2, n'_11, .inl g'_11))]) [0, 1, 2, 3, 4] (by decide) rfl
              clear hPc hDc hFc hP1 hD1 hk1 hz1
              refine W.widen (k := 12) (n := 408) (by omega) (by omega) ?_
              have hw_11 := hw
              refine lv_aload_n hx hb dX3_writeLine_57 rfl (lv_at hl 2 rfl) ?_
              refine va_get (D := D) (ci := 1) (v := .ref (x 7)) (C := RX0) (T := TX0) (N := 16) hx hb hts (fun _ h => List.mem_cons_of_mem _ (List.mem_append_left _ (List.mem_append_right _ (h)))) hown hK hP 1 rfl rfl 6 (by decide) (hts (.fieldLink RX3 107 "OptionWire$End" "asked" "[I") (List.mem_of_getElem? (i := 3) rfl)) (fun _ h9 => h9) rfl dX3_writeLine_58 ?_
              refine lv_iload_n hx hb dX3_writeLine_61 rfl (lv_at hl 0 rfl) ?_
              refine z_iald (k := 3) (v := (nI vv3)) hx hb hK hP 2 0 rfl rfl rfl (by omega) (by decide) hfv3 dX3_writeLine_62 ?_
              have hPc := hP.sub (ws' := [(ln, .inr (0, [.ref vb'_11, .int 0, .int ml'_1, .int (nI ((ctx3 + 1) + 1))])), (vb'_11, .inl (cA 2, n'_11, .inl g'_11))]) [3, 4] rfl
              have hDc := hD.sub (ws' := [(ln, .inr (0, [.ref vb'_11, .int 0, .int ml'_1, .int (nI ((ctx3 + 1) + 1))])), (vb'_11, .inl (cA 2, n'_11, .inl g'_11))]) [3, 4] (by decide) rfl
              have hFc := va_free (wc := [(ln, .inr (0, [.ref vb'_11, .int 0, .int ml'_1, .int (nI ((ctx3 + 1) + 1))])), (vb'_11, .inl (cA 2, n'_11, .inl g'_11))]) hD hS hA [3, 4] rfl
              refine va_callr (va_runV (As := [.int (nI vv3)]) (rest := []) ⟨hx, hb, hml, hown, hts⟩ (c_sbi l D cA zv H.size ln vb'_11 ml'_1 ((ctx3 + 1) + 1) n'_11 g'_11 vv3 hw_11.1 hw_11.2.1 hw_11.2.2.1 (by omega) hv3) (cwV 1 hts gX3_writeLine_J4_append_bf812 rfl rfl rfl (by decide +kernel) ⟨Nat.le_of_ble_eq_true rfl, Nat.le_of_ble_eq_true rfl⟩) ⟨zUX_blind, va_recv hK hPc (ci := 0) (q0 := 0) rfl rfl, fun U hU hW => ⟨rfl, zUX_call hE0 hX0 hS hFc hU hPc hW hK hDc⟩⟩ rfl rfl hl.1 rfl (lv_room (Nat.le_of_ble_eq_true rfl)) dX3_writeLine_63 ⟨Nat.le_of_ble_eq_true rfl, Nat.le_of_ble_eq_true rfl⟩) hS (fun q _ h => hFc q h) hFc (fun u ra t H1 locs ht hvm hw hB hz1 hk1 hS => ?_)
              obtain ⟨vb'_12, n'_12, g'_12⟩ := u
              obtain ⟨hra, hP1, hD1⟩ := hB
              rw [ht] at hP1
              try dsimp only at hw hP1 hD1 hra
              subst ra
              obtain ⟨hP, hD⟩ := va_join (wr := [(o, .inr (4, [.ref F, .ref G, .int lo, .int nw, .int se, .ref (pa 0), .ref an, .ref ln])), cE x xv, (x 7, .inl (cA 0, 4, .inl f))]) (w1 := [(ln, .inr (0, [.ref vb'_12, .int 0, .int ml'_1, .int (nI (((ctx3 + 1) + 1) + (lnD vv3).length))])), (vb'_12, .inl (cA 2, n'_12, .inl g'_12))]) hP hD [3, 4] [0, 1, 2] rfl rfl (by decide) (by decide) hk1 hFc hP1 hD1
              generalize H1 = H at hP hS ⊢
              have hP := hP.sub (ws' := [(o, .inr (4, [.ref F, .ref G, .int lo, .int nw, .int se, .ref (pa 0), .ref an, .ref ln])), cE x xv, (x 7, .inl (cA 0, 4, .inl f)), (ln, .inr (0, [.ref vb'_12, .int 0, .int ml'_1, .int (nI (((ctx3 + 1) + 1) + (lnD vv3).length))])), (vb'_12, .inl (cA 2, n'_12, .inl g'_12))]) [0, 1, 2, 3, 4] rfl
              have hD := hD.sub (ws' := [(o, .inr (4, [.ref F, .ref G, .int lo, .int nw, .int se, .ref (pa 0), .ref an, .ref ln])), cE x xv, (x 7, .inl (cA 0, 4, .inl f)), (ln, .inr (0, [.ref vb'_12, .int 0, .int ml'_1, .int (nI (((ctx3 + 1) + 1) + (lnD vv3).length))])), (vb'_12, .inl (cA 2, n'_12, .inl g'_12))]) [0, 1, 2, 3, 4] (by decide) rfl
              clear hPc hDc hFc hP1 hD1 hk1 hz1
              refine W.widen (k := 13) (n := 442) (by omega) (by omega) ?_
              have hw_12 := hw
              refine lv_pop hx hb dX3_writeLine_66 rfl ?_
              refine W.widen (k := 13) (n := 442) (by omega) (by omega) ?_
              exact kJ _ _ _ _ ⟨vb'_12, n'_12, (((ctx3 + 1) + 1) + (lnD vv3).length), g'_12, rfl, hP, hD, hS, lv_sub hl [0, 1, 2] rfl, (by rw [show lnT k f 4 = _ from lnT_v hv3 hfv3]; exact apd_rnd ha3 hc3 hw_10 hw_11 hw_12), (by rw [show lnT k f 4 = _ from lnT_v hv3 hfv3, hc3]; simp only [List.length_append, List.length_cons]; omega)⟩
        · skip
          refine lv_aload_n hx hb dX3_writeLine_30 rfl (lv_at hl 2 rfl) ?_
          refine va_get (D := D) (ci := 1) (v := .ref (x 7)) (C := RX0) (T := TX0) (N := 16) hx hb hts (fun _ h => List.mem_cons_of_mem _ (List.mem_append_left _ (List.mem_append_right _ (h)))) hown hK hP 1 rfl rfl 6 (by decide) (hts (.fieldLink RX3 107 "OptionWire$End" "asked" "[I") (List.mem_of_getElem? (i := 3) rfl)) (fun _ h9 => h9) rfl dX3_writeLine_31 ?_
          refine lv_iload_n hx hb dX3_writeLine_34 rfl (lv_at hl 0 rfl) ?_
          refine z_iald (k := 2) (v := (f 2)) hx hb hK hP 2 0 rfl rfl rfl (by omega) (by decide) rfl dX3_writeLine_35 ?_
          refine lv_iconst (v := (-1)) hx hb dX3_writeLine_36 (by decide) ?_
          refine lv_icmp_eq (tgt := 67) hx hb dX3_writeLine_37 (by decide) (fun c_13 => ?_) (fun c_13 => ?_)
          · skip
            refine W.widen (k := 10) (n := 340) (by omega) (by omega) ?_
            exact kJ _ _ _ _ ⟨vbx2, nx2, ctx2, gx2, rfl, hP, hD, hS, lv_sub hl [0, 1, 2] rfl, (by rw [show lnT k f 3 = _ from lnT_n c_13]; exact ha2), (by rw [show lnT k f 3 = _ from lnT_n c_13]; exact hc2)⟩
          · skip
            obtain ⟨vv2, hv2, hfv2⟩ := (hok 2 (by decide)).resolve_left c_13
            have hn2 := ha2.1
            have hq2 : ctx2 ≤ nx2 := by have q9 := ha2.2.1; omega
            have hf2 := ha2.2.2.1
            have h34_2 : ctx2 + 5 ≤ 34 := by have q9 := lnT_le (f := f) hk 2; omega
            refine lv_aload_n hx hb dX3_writeLine_40 rfl (lv_at hl 1 rfl) ?_
            refine va_get (D := D) (ci := 4) (v := .ref ln) (C := RX3) (T := TX3) (N := 8) hx hb hts (fun _ h => List.mem_cons_of_mem _ (List.mem_append_left _ (List.mem_append_left _ (List.mem_append_right _ (h))))) hown hK hP 0 rfl rfl 7 (by decide) (hts (.fieldLink RX3 44 "OptionWire" "line" "Ljava/lang/StringBuilder;") (List.mem_of_getElem? (i := 1) rfl)) (fun _ h9 => h9) rfl dX3_writeLine_41 ?_
            refine lv_bipush (v := 32) hx hb dX3_writeLine_44 (by decide) ?_
            have hPc := hP.sub (ws' := [(ln, .inr (0, [.ref vbx2, .int 0, .int ml'_1, .int (nI ctx2)])), (vbx2, .inl (cA 2, nx2, .inl gx2))]) [3, 4] rfl
            have hDc := hD.sub (ws' := [(ln, .inr (0, [.ref vbx2, .int 0, .int ml'_1, .int (nI ctx2)])), (vbx2, .inl (cA 2, nx2, .inl gx2))]) [3, 4] (by decide) rfl
            have hFc := va_free (wc := [(ln, .inr (0, [.ref vbx2, .int 0, .int ml'_1, .int (nI ctx2)])), (vbx2, .inl (cA 2, nx2, .inl gx2))]) hD hS hA [3, 4] rfl
            refine va_callr (va_runV (As := [.int 32]) (rest := []) ⟨hx, hb, hml, hown, hts⟩ (c_J4_append_cf468 l D cA zv H.size ln vbx2 ml'_1 ctx2 nx2 gx2 32 hn2 hq2 hf2 (by omega) (by decide) (by decide)) (cwV 1 hts gX3_writeLine_J4_append_cf468 rfl rfl rfl (by decide +kernel) ⟨Nat.le_of_ble_eq_true rfl, Nat.le_of_ble_eq_true rfl⟩) ⟨zUX_blind, va_recv hK hPc (ci := 0) (q0 := 0) rfl rfl, fun U hU hW => ⟨rfl, zUX_call hE0 hX0 hS hFc hU hPc hW hK hDc⟩⟩ rfl rfl hl.1 rfl (lv_room (Nat.le_of_ble_eq_true rfl)) dX3_writeLine_46 ⟨Nat.le_of_ble_eq_true rfl, Nat.le_of_ble_eq_true rfl⟩) hS (fun q _ h => hFc q h) hFc (fun u ra t H1 locs ht hvm hw hB hz1 hk1 hS => ?_)
            obtain ⟨vb'_14, n'_14, g'_14⟩ := u
            obtain ⟨hra, hP1, hD1⟩ := hB
            rw [ht] at hP1
            try dsimp only at hw hP1 hD1 hra
            subst ra
            obtain ⟨hP, hD⟩ := va_join (wr := [(o, .inr (4, [.ref F, .ref G, .int lo, .int nw, .int se, .ref (pa 0), .ref an, .ref ln])), cE x xv, (x 7, .inl (cA 0, 4, .inl f))]) (w1 := [(ln, .inr (0, [.ref vb'_14, .int 0, .int ml'_1, .int (nI (ctx2 + 1))])), (vb'_14, .inl (cA 2, n'_14, .inl g'_14))]) hP hD [3, 4] [0, 1, 2] rfl rfl (by decide) (by decide) hk1 hFc hP1 hD1
            generalize H1 = H at hP hS ⊢
            have hP := hP.sub (ws' := [(o, .inr (4, [.ref F, .ref G, .int lo, .int nw, .int se, .ref (pa 0), .ref an, .ref ln])), cE x xv, (x 7, .inl (cA 0, 4, .inl f)), (ln, .inr (0, [.ref vb'_14, .int 0, .int ml'_1, .int (nI (ctx2 + 1))])), (vb'_14, .inl (cA 2, n'_14, .inl g'_14))]) [0, 1, 2, 3, 4] rfl
            have hD := hD.sub (ws' := [(o, .inr (4, [.ref F, .ref G, .int lo, .int nw, .int se, .ref (pa 0), .ref an, .ref ln])), cE x xv, (x 7, .inl (cA 0, 4, .inl f)), (ln, .inr (0, [.ref vb'_14, .int 0, .int ml'_1, .int (nI (ctx2 + 1))])), (vb'_14, .inl (cA 2, n'_14, .inl g'_14))]) [0, 1, 2, 3, 4] (by decide) rfl
            clear hPc hDc hFc hP1 hD1 hk1 hz1
            refine W.widen (k := 8) (n := 272) (by omega) (by omega) ?_
            have hw_14 := hw
            refine lv_bipush (v := 97) hx hb dX3_writeLine_49 (by decide) ?_
            refine lv_iload_n hx hb dX3_writeLine_51 rfl (lv_at hl 0 rfl) ?_
            refine lv_iadd hx hb dX3_writeLine_52 ?_
            refine z_top (y := 99) (by decide) ?_
            refine lv_i2c (v := 99) hx hb dX3_writeLine_53 (by decide) ?_
            have hPc := hP.sub (ws' := [(ln, .inr (0, [.ref vb'_14, .int 0, .int ml'_1, .int (nI (ctx2 + 1))])), (vb'_14, .inl (cA 2, n'_14, .inl g'_14))]) [3, 4] rfl
            have hDc := hD.sub (ws' := [(ln, .inr (0, [.ref vb'_14, .int 0, .int ml'_1, .int (nI (ctx2 + 1))])), (vb'_14, .inl (cA 2, n'_14, .inl g'_14))]) [3, 4] (by decide) rfl
            have hFc := va_free (wc := [(ln, .inr (0, [.ref vb'_14, .int 0, .int ml'_1, .int (nI (ctx2 + 1))])), (vb'_14, .inl (cA 2, n'_14, .inl g'_14))]) hD hS hA [3, 4] rfl
            refine va_callr (va_runV (As := [.int 99]) (rest := []) ⟨hx, hb, hml, hown, hts⟩ (c_J4_append_cf468 l D cA zv H.size ln vb'_14 ml'_1 (ctx2 + 1) n'_14 g'_14 99 hw_14.1 hw_14.2.1 hw_14.2.2.1 (by omega) (by decide) (by decide)) (cwV 1 hts gX3_writeLine_J4_append_cf468 rfl rfl rfl (by decide +kernel) ⟨Nat.le_of_ble_eq_true rfl, Nat.le_of_ble_eq_true rfl⟩) ⟨zUX_blind, va_recv hK hPc (ci := 0) (q0 := 0) rfl rfl, fun U hU hW => ⟨rfl, zUX_call hE0 hX0 hS hFc hU hPc hW hK hDc⟩⟩ rfl rfl hl.1 rfl (lv_room (Nat.le_of_ble_eq_true rfl)) dX3_writeLine_54 ⟨Nat.le_of_ble_eq_true rfl, Nat.le_of_ble_eq_true rfl⟩) hS (fun q _ h => hFc q h) hFc (fun u ra t H1 locs ht hvm hw hB hz1 hk1 hS => ?_)
            obtain ⟨vb'_15, n'_15, g'_15⟩ := u
            obtain ⟨hra, hP1, hD1⟩ := hB
            rw [ht] at hP1
            try dsimp only at hw hP1 hD1 hra
            subst ra
            obtain ⟨hP, hD⟩ := va_join (wr := [(o, .inr (4, [.ref F, .ref G, .int lo, .int nw, .int se, .ref (pa 0), .ref an, .ref ln])), cE x xv, (x 7, .inl (cA 0, 4, .inl f))]) (w1 := [(ln, .inr (0, [.ref vb'_15, .int 0, .int ml'_1, .int (nI ((ctx2 + 1) + 1))])), (vb'_15, .inl (cA 2, n'_15, .inl g'_15))]) hP hD [3, 4] [0, 1, 2] rfl rfl (by decide) (by decide) hk1 hFc hP1 hD1
            generalize H1 = H at hP hS ⊢
            have hP := hP.sub (ws' := [(o, .inr (4, [.ref F, .ref G, .int lo, .int nw, .int se, .ref (pa 0), .ref an, .ref ln])), cE x xv, (x 7, .inl (cA 0, 4, .inl f)), (ln, .inr (0, [.ref vb'_15, .int 0, .int ml'_1, .int (nI ((ctx2 + 1) + 1))])), (vb'_15, .inl (cA 2, n'_15, .inl g'_15))]) [0, 1, 2, 3, 4] rfl
            have hD := hD.sub (ws' := [(o, .inr (4, [.ref F, .ref G, .int lo, .int nw, .int se, .ref (pa 0), .ref an, .ref ln])), cE x xv, (x 7, .inl (cA 0, 4, .inl f)), (ln, .inr (0, [.ref vb'_15, .int 0, .int ml'_1, .int (nI ((ctx2 + 1) + 1))])), (vb'_15, .inl (cA 2, n'_15, .inl g'_15))]) [0, 1, 2, 3, 4] (by decide) rfl
            clear hPc hDc hFc hP1 hD1 hk1 hz1
            refine W.widen (k := 9) (n := 306) (by omega) (by omega) ?_
            have hw_15 := hw
            refine lv_aload_n hx hb dX3_writeLine_57 rfl (lv_at hl 2 rfl) ?_
            refine va_get (D := D) (ci := 1) (v := .ref (x 7)) (C := RX0) (T := TX0) (N := 16) hx hb hts (fun _ h => List.mem_cons_of_mem _ (List.mem_append_left _ (List.mem_append_right _ (h)))) hown hK hP 1 rfl rfl 6 (by decide) (hts (.fieldLink RX3 107 "OptionWire$End" "asked" "[I") (List.mem_of_getElem? (i := 3) rfl)) (fun _ h9 => h9) rfl dX3_writeLine_58 ?_
            refine lv_iload_n hx hb dX3_writeLine_61 rfl (lv_at hl 0 rfl) ?_
            refine z_iald (k := 2) (v := (nI vv2)) hx hb hK hP 2 0 rfl rfl rfl (by omega) (by decide) hfv2 dX3_writeLine_62 ?_
            have hPc := hP.sub (ws' := [(ln, .inr (0, [.ref vb'_15, .int 0, .int ml'_1, .int (nI ((ctx2 + 1) + 1))])), (vb'_15, .inl (cA 2, n'_15, .inl g'_15))]) [3, 4] rfl
            have hDc := hD.sub (ws' := [(ln, .inr (0, [.ref vb'_15, .int 0, .int ml'_1, .int (nI ((ctx2 + 1) + 1))])), (vb'_15, .inl (cA 2, n'_15, .inl g'_15))]) [3, 4] (by decide) rfl
            have hFc := va_free (wc := [(ln, .inr (0, [.ref vb'_15, .int 0, .int ml'_1, .int (nI ((ctx2 + 1) + 1))])), (vb'_15, .inl (cA 2, n'_15, .inl g'_15))]) hD hS hA [3, 4] rfl
            refine va_callr (va_runV (As := [.int (nI vv2)]) (rest := []) ⟨hx, hb, hml, hown, hts⟩ (c_sbi l D cA zv H.size ln vb'_15 ml'_1 ((ctx2 + 1) + 1) n'_15 g'_15 vv2 hw_15.1 hw_15.2.1 hw_15.2.2.1 (by omega) hv2) (cwV 1 hts gX3_writeLine_J4_append_bf812 rfl rfl rfl (by decide +kernel) ⟨Nat.le_of_ble_eq_true rfl, Nat.le_of_ble_eq_true rfl⟩) ⟨zUX_blind, va_recv hK hPc (ci := 0) (q0 := 0) rfl rfl, fun U hU hW => ⟨rfl, zUX_call hE0 hX0 hS hFc hU hPc hW hK hDc⟩⟩ rfl rfl hl.1 rfl (lv_room (Nat.le_of_ble_eq_true rfl)) dX3_writeLine_63 ⟨Nat.le_of_ble_eq_true rfl, Nat.le_of_ble_eq_true rfl⟩) hS (fun q _ h => hFc q h) hFc (fun u ra t H1 locs ht hvm hw hB hz1 hk1 hS => ?_)
            obtain ⟨vb'_16, n'_16, g'_16⟩ := u
            obtain ⟨hra, hP1, hD1⟩ := hB
            rw [ht] at hP1
            try dsimp only at hw hP1 hD1 hra
            subst ra
            obtain ⟨hP, hD⟩ := va_join (wr := [(o, .inr (4, [.ref F, .ref G, .int lo, .int nw, .int se, .ref (pa 0), .ref an, .ref ln])), cE x xv, (x 7, .inl (cA 0, 4, .inl f))]) (w1 := [(ln, .inr (0, [.ref vb'_16, .int 0, .int ml'_1, .int (nI (((ctx2 + 1) + 1) + (lnD vv2).length))])), (vb'_16, .inl (cA 2, n'_16, .inl g'_16))]) hP hD [3, 4] [0, 1, 2] rfl rfl (by decide) (by decide) hk1 hFc hP1 hD1
            generalize H1 = H at hP hS ⊢
            have hP := hP.sub (ws' := [(o, .inr (4, [.ref F, .ref G, .int lo, .int nw, .int se, .ref (pa 0), .ref an, .ref ln])), cE x xv, (x 7, .inl (cA 0, 4, .inl f)), (ln, .inr (0, [.ref vb'_16, .int 0, .int ml'_1, .int (nI (((ctx2 + 1) + 1) + (lnD vv2).length))])), (vb'_16, .inl (cA 2, n'_16, .inl g'_16))]) [0, 1, 2, 3, 4] rfl
            have hD := hD.sub (ws' := [(o, .inr (4, [.ref F, .ref G, .int lo, .int nw, .int se, .ref (pa 0), .ref an, .ref ln])), cE x xv, (x 7, .inl (cA 0, 4, .inl f)), (ln, .inr (0, [.ref vb'_16, .int 0, .int ml'_1, .int (nI (((ctx2 + 1) + 1) + (lnD vv2).length))])), (vb'_16, .inl (cA 2, n'_16, .inl g'_16))]) [0, 1, 2, 3, 4] (by decide) rfl
            clear hPc hDc hFc hP1 hD1 hk1 hz1
            refine W.widen (k := 10) (n := 340) (by omega) (by omega) ?_
            have hw_16 := hw
            refine lv_pop hx hb dX3_writeLine_66 rfl ?_
            refine W.widen (k := 10) (n := 340) (by omega) (by omega) ?_
            exact kJ _ _ _ _ ⟨vb'_16, n'_16, (((ctx2 + 1) + 1) + (lnD vv2).length), g'_16, rfl, hP, hD, hS, lv_sub hl [0, 1, 2] rfl, (by rw [show lnT k f 3 = _ from lnT_v hv2 hfv2]; exact apd_rnd ha2 hc2 hw_14 hw_15 hw_16), (by rw [show lnT k f 3 = _ from lnT_v hv2 hfv2, hc2]; simp only [List.length_append, List.length_cons]; omega)⟩
      · skip
        refine lv_aload_n hx hb dX3_writeLine_30 rfl (lv_at hl 2 rfl) ?_
        refine va_get (D := D) (ci := 1) (v := .ref (x 7)) (C := RX0) (T := TX0) (N := 16) hx hb hts (fun _ h => List.mem_cons_of_mem _ (List.mem_append_left _ (List.mem_append_right _ (h)))) hown hK hP 1 rfl rfl 6 (by decide) (hts (.fieldLink RX3 107 "OptionWire$End" "asked" "[I") (List.mem_of_getElem? (i := 3) rfl)) (fun _ h9 => h9) rfl dX3_writeLine_31 ?_
        refine lv_iload_n hx hb dX3_writeLine_34 rfl (lv_at hl 0 rfl) ?_
        refine z_iald (k := 1) (v := (f 1)) hx hb hK hP 2 0 rfl rfl rfl (by omega) (by decide) rfl dX3_writeLine_35 ?_
        refine lv_iconst (v := (-1)) hx hb dX3_writeLine_36 (by decide) ?_
        refine lv_icmp_eq (tgt := 67) hx hb dX3_writeLine_37 (by decide) (fun c_17 => ?_) (fun c_17 => ?_)
        · skip
          refine W.widen (k := 7) (n := 238) (by omega) (by omega) ?_
          exact kJ _ _ _ _ ⟨vbx1, nx1, ctx1, gx1, rfl, hP, hD, hS, lv_sub hl [0, 1, 2] rfl, (by rw [show lnT k f 2 = _ from lnT_n c_17]; exact ha1), (by rw [show lnT k f 2 = _ from lnT_n c_17]; exact hc1)⟩
        · skip
          obtain ⟨vv1, hv1, hfv1⟩ := (hok 1 (by decide)).resolve_left c_17
          have hn1 := ha1.1
          have hq1 : ctx1 ≤ nx1 := by have q9 := ha1.2.1; omega
          have hf1 := ha1.2.2.1
          have h34_1 : ctx1 + 5 ≤ 34 := by have q9 := lnT_le (f := f) hk 1; omega
          refine lv_aload_n hx hb dX3_writeLine_40 rfl (lv_at hl 1 rfl) ?_
          refine va_get (D := D) (ci := 4) (v := .ref ln) (C := RX3) (T := TX3) (N := 8) hx hb hts (fun _ h => List.mem_cons_of_mem _ (List.mem_append_left _ (List.mem_append_left _ (List.mem_append_right _ (h))))) hown hK hP 0 rfl rfl 7 (by decide) (hts (.fieldLink RX3 44 "OptionWire" "line" "Ljava/lang/StringBuilder;") (List.mem_of_getElem? (i := 1) rfl)) (fun _ h9 => h9) rfl dX3_writeLine_41 ?_
          refine lv_bipush (v := 32) hx hb dX3_writeLine_44 (by decide) ?_
          have hPc := hP.sub (ws' := [(ln, .inr (0, [.ref vbx1, .int 0, .int ml'_1, .int (nI ctx1)])), (vbx1, .inl (cA 2, nx1, .inl gx1))]) [3, 4] rfl
          have hDc := hD.sub (ws' := [(ln, .inr (0, [.ref vbx1, .int 0, .int ml'_1, .int (nI ctx1)])), (vbx1, .inl (cA 2, nx1, .inl gx1))]) [3, 4] (by decide) rfl
          have hFc := va_free (wc := [(ln, .inr (0, [.ref vbx1, .int 0, .int ml'_1, .int (nI ctx1)])), (vbx1, .inl (cA 2, nx1, .inl gx1))]) hD hS hA [3, 4] rfl
          refine va_callr (va_runV (As := [.int 32]) (rest := []) ⟨hx, hb, hml, hown, hts⟩ (c_J4_append_cf468 l D cA zv H.size ln vbx1 ml'_1 ctx1 nx1 gx1 32 hn1 hq1 hf1 (by omega) (by decide) (by decide)) (cwV 1 hts gX3_writeLine_J4_append_cf468 rfl rfl rfl (by decide +kernel) ⟨Nat.le_of_ble_eq_true rfl, Nat.le_of_ble_eq_true rfl⟩) ⟨zUX_blind, va_recv hK hPc (ci := 0) (q0 := 0) rfl rfl, fun U hU hW => ⟨rfl, zUX_call hE0 hX0 hS hFc hU hPc hW hK hDc⟩⟩ rfl rfl hl.1 rfl (lv_room (Nat.le_of_ble_eq_true rfl)) dX3_writeLine_46 ⟨Nat.le_of_ble_eq_true rfl, Nat.le_of_ble_eq_true rfl⟩) hS (fun q _ h => hFc q h) hFc (fun u ra t H1 locs ht hvm hw hB hz1 hk1 hS => ?_)
          obtain ⟨vb'_18, n'_18, g'_18⟩ := u
          obtain ⟨hra, hP1, hD1⟩ := hB
          rw [ht] at hP1
          try dsimp only at hw hP1 hD1 hra
          subst ra
          obtain ⟨hP, hD⟩ := va_join (wr := [(o, .inr (4, [.ref F, .ref G, .int lo, .int nw, .int se, .ref (pa 0), .ref an, .ref ln])), cE x xv, (x 7, .inl (cA 0, 4, .inl f))]) (w1 := [(ln, .inr (0, [.ref vb'_18, .int 0, .int ml'_1, .int (nI (ctx1 + 1))])), (vb'_18, .inl (cA 2, n'_18, .inl g'_18))]) hP hD [3, 4] [0, 1, 2] rfl rfl (by decide) (by decide) hk1 hFc hP1 hD1
          generalize H1 = H at hP hS ⊢
          have hP := hP.sub (ws' := [(o, .inr (4, [.ref F, .ref G, .int lo, .int nw, .int se, .ref (pa 0), .ref an, .ref ln])), cE x xv, (x 7, .inl (cA 0, 4, .inl f)), (ln, .inr (0, [.ref vb'_18, .int 0, .int ml'_1, .int (nI (ctx1 + 1))])), (vb'_18, .inl (cA 2, n'_18, .inl g'_18))]) [0, 1, 2, 3, 4] rfl
          have hD := hD.sub (ws' := [(o, .inr (4, [.ref F, .ref G, .int lo, .int nw, .int se, .ref (pa 0), .ref an, .ref ln])), cE x xv, (x 7, .inl (cA 0, 4, .inl f)), (ln, .inr (0, [.ref vb'_18, .int 0, .int ml'_1, .int (nI (ctx1 + 1))])), (vb'_18, .inl (cA 2, n'_18, .inl g'_18))]) [0, 1, 2, 3, 4] (by decide) rfl
          clear hPc hDc hFc hP1 hD1 hk1 hz1
          refine W.widen (k := 5) (n := 170) (by omega) (by omega) ?_
          have hw_18 := hw
          refine lv_bipush (v := 97) hx hb dX3_writeLine_49 (by decide) ?_
          refine lv_iload_n hx hb dX3_writeLine_51 rfl (lv_at hl 0 rfl) ?_
          refine lv_iadd hx hb dX3_writeLine_52 ?_
          refine z_top (y := 98) (by decide) ?_
          refine lv_i2c (v := 98) hx hb dX3_writeLine_53 (by decide) ?_
          have hPc := hP.sub (ws' := [(ln, .inr (0, [.ref vb'_18, .int 0, .int ml'_1, .int (nI (ctx1 + 1))])), (vb'_18, .inl (cA 2, n'_18, .inl g'_18))]) [3, 4] rfl
          have hDc := hD.sub (ws' := [(ln, .inr (0, [.ref vb'_18, .int 0, .int ml'_1, .int (nI (ctx1 + 1))])), (vb'_18, .inl (cA 2, n'_18, .inl g'_18))]) [3, 4] (by decide) rfl
          have hFc := va_free (wc := [(ln, .inr (0, [.ref vb'_18, .int 0, .int ml'_1, .int (nI (ctx1 + 1))])), (vb'_18, .inl (cA 2, n'_18, .inl g'_18))]) hD hS hA [3, 4] rfl
          refine va_callr (va_runV (As := [.int 98]) (rest := []) ⟨hx, hb, hml, hown, hts⟩ (c_J4_append_cf468 l D cA zv H.size ln vb'_18 ml'_1 (ctx1 + 1) n'_18 g'_18 98 hw_18.1 hw_18.2.1 hw_18.2.2.1 (by omega) (by decide) (by decide)) (cwV 1 hts gX3_writeLine_J4_append_cf468 rfl rfl rfl (by decide +kernel) ⟨Nat.le_of_ble_eq_true rfl, Nat.le_of_ble_eq_true rfl⟩) ⟨zUX_blind, va_recv hK hPc (ci := 0) (q0 := 0) rfl rfl, fun U hU hW => ⟨rfl, zUX_call hE0 hX0 hS hFc hU hPc hW hK hDc⟩⟩ rfl rfl hl.1 rfl (lv_room (Nat.le_of_ble_eq_true rfl)) dX3_writeLine_54 ⟨Nat.le_of_ble_eq_true rfl, Nat.le_of_ble_eq_true rfl⟩) hS (fun q _ h => hFc q h) hFc (fun u ra t H1 locs ht hvm hw hB hz1 hk1 hS => ?_)
          obtain ⟨vb'_19, n'_19, g'_19⟩ := u
          obtain ⟨hra, hP1, hD1⟩ := hB
          rw [ht] at hP1
          try dsimp only at hw hP1 hD1 hra
          subst ra
          obtain ⟨hP, hD⟩ := va_join (wr := [(o, .inr (4, [.ref F, .ref G, .int lo, .int nw, .int se, .ref (pa 0), .ref an, .ref ln])), cE x xv, (x 7, .inl (cA 0, 4, .inl f))]) (w1 := [(ln, .inr (0, [.ref vb'_19, .int 0, .int ml'_1, .int (nI ((ctx1 + 1) + 1))])), (vb'_19, .inl (cA 2, n'_19, .inl g'_19))]) hP hD [3, 4] [0, 1, 2] rfl rfl (by decide) (by decide) hk1 hFc hP1 hD1
          generalize H1 = H at hP hS ⊢
          have hP := hP.sub (ws' := [(o, .inr (4, [.ref F, .ref G, .int lo, .int nw, .int se, .ref (pa 0), .ref an, .ref ln])), cE x xv, (x 7, .inl (cA 0, 4, .inl f)), (ln, .inr (0, [.ref vb'_19, .int 0, .int ml'_1, .int (nI ((ctx1 + 1) + 1))])), (vb'_19, .inl (cA 2, n'_19, .inl g'_19))]) [0, 1, 2, 3, 4] rfl
          have hD := hD.sub (ws' := [(o, .inr (4, [.ref F, .ref G, .int lo, .int nw, .int se, .ref (pa 0), .ref an, .ref ln])), cE x xv, (x 7, .inl (cA 0, 4, .inl f)), (ln, .inr (0, [.ref vb'_19, .int 0, .int ml'_1, .int (nI ((ctx1 + 1) + 1))])), (vb'_19, .inl (cA 2, n'_19, .inl g'_19))]) [0, 1, 2, 3, 4] (by decide) rfl
          clear hPc hDc hFc hP1 hD1 hk1 hz1
          refine W.widen (k := 6) (n := 204) (by omega) (by omega) ?_
          have hw_19 := hw
          refine lv_aload_n hx hb dX3_writeLine_57 rfl (lv_at hl 2 rfl) ?_
          refine va_get (D := D) (ci := 1) (v := .ref (x 7)) (C := RX0) (T := TX0) (N := 16) hx hb hts (fun _ h => List.mem_cons_of_mem _ (List.mem_append_left _ (List.mem_append_right _ (h)))) hown hK hP 1 rfl rfl 6 (by decide) (hts (.fieldLink RX3 107 "OptionWire$End" "asked" "[I") (List.mem_of_getElem? (i := 3) rfl)) (fun _ h9 => h9) rfl dX3_writeLine_58 ?_
          refine lv_iload_n hx hb dX3_writeLine_61 rfl (lv_at hl 0 rfl) ?_
          refine z_iald (k := 1) (v := (nI vv1)) hx hb hK hP 2 0 rfl rfl rfl (by omega) (by decide) hfv1 dX3_writeLine_62 ?_
          have hPc := hP.sub (ws' := [(ln, .inr (0, [.ref vb'_19, .int 0, .int ml'_1, .int (nI ((ctx1 + 1) + 1))])), (vb'_19, .inl (cA 2, n'_19, .inl g'_19))]) [3, 4] rfl
          have hDc := hD.sub (ws' := [(ln, .inr (0, [.ref vb'_19, .int 0, .int ml'_1, .int (nI ((ctx1 + 1) + 1))])), (vb'_19, .inl (cA 2, n'_19, .inl g'_19))]) [3, 4] (by decide) rfl
          have hFc := va_free (wc := [(ln, .inr (0, [.ref vb'_19, .int 0, .int ml'_1, .int (nI ((ctx1 + 1) + 1))])), (vb'_19, .inl (cA 2, n'_19, .inl g'_19))]) hD hS hA [3, 4] rfl
          refine va_callr (va_runV (As := [.int (nI vv1)]) (rest := []) ⟨hx, hb, hml, hown, hts⟩ (c_sbi l D cA zv H.size ln vb'_19 ml'_1 ((ctx1 + 1) + 1) n'_19 g'_19 vv1 hw_19.1 hw_19.2.1 hw_19.2.2.1 (by omega) hv1) (cwV 1 hts gX3_writeLine_J4_append_bf812 rfl rfl rfl (by decide +kernel) ⟨Nat.le_of_ble_eq_true rfl, Nat.le_of_ble_eq_true rfl⟩) ⟨zUX_blind, va_recv hK hPc (ci := 0) (q0 := 0) rfl rfl, fun U hU hW => ⟨rfl, zUX_call hE0 hX0 hS hFc hU hPc hW hK hDc⟩⟩ rfl rfl hl.1 rfl (lv_room (Nat.le_of_ble_eq_true rfl)) dX3_writeLine_63 ⟨Nat.le_of_ble_eq_true rfl, Nat.le_of_ble_eq_true rfl⟩) hS (fun q _ h => hFc q h) hFc (fun u ra t H1 locs ht hvm hw hB hz1 hk1 hS => ?_)
          obtain ⟨vb'_20, n'_20, g'_20⟩ := u
          obtain ⟨hra, hP1, hD1⟩ := hB
          rw [ht] at hP1
          try dsimp only at hw hP1 hD1 hra
          subst ra
          obtain ⟨hP, hD⟩ := va_join (wr := [(o, .inr (4, [.ref F, .ref G, .int lo, .int nw, .int se, .ref (pa 0), .ref an, .ref ln])), cE x xv, (x 7, .inl (cA 0, 4, .inl f))]) (w1 := [(ln, .inr (0, [.ref vb'_20, .int 0, .int ml'_1, .int (nI (((ctx1 + 1) + 1) + (lnD vv1).length))])), (vb'_20, .inl (cA 2, n'_20, .inl g'_20))]) hP hD [3, 4] [0, 1, 2] rfl rfl (by decide) (by decide) hk1 hFc hP1 hD1
          generalize H1 = H at hP hS ⊢
          have hP := hP.sub (ws' := [(o, .inr (4, [.ref F, .ref G, .int lo, .int nw, .int se, .ref (pa 0), .ref an, .ref ln])), cE x xv, (x 7, .inl (cA 0, 4, .inl f)), (ln, .inr (0, [.ref vb'_20, .int 0, .int ml'_1, .int (nI (((ctx1 + 1) + 1) + (lnD vv1).length))])), (vb'_20, .inl (cA 2, n'_20, .inl g'_20))]) [0, 1, 2, 3, 4] rfl
          have hD := hD.sub (ws' := [(o, .inr (4, [.ref F, .ref G, .int lo, .int nw, .int se, .ref (pa 0), .ref an, .ref ln])), cE x xv, (x 7, .inl (cA 0, 4, .inl f)), (ln, .inr (0, [.ref vb'_20, .int 0, .int ml'_1, .int (nI (((ctx1 + 1) + 1) + (lnD vv1).length))])), (vb'_20, .inl (cA 2, n'_20, .inl g'_20))]) [0, 1, 2, 3, 4] (by decide) rfl
          clear hPc hDc hFc hP1 hD1 hk1 hz1
          refine W.widen (k := 7) (n := 238) (by omega) (by omega) ?_
          have hw_20 := hw
          refine lv_pop hx hb dX3_writeLine_66 rfl ?_
          refine W.widen (k := 7) (n := 238) (by omega) (by omega) ?_
          exact kJ _ _ _ _ ⟨vb'_20, n'_20, (((ctx1 + 1) + 1) + (lnD vv1).length), g'_20, rfl, hP, hD, hS, lv_sub hl [0, 1, 2] rfl, (by rw [show lnT k f 2 = _ from lnT_v hv1 hfv1]; exact apd_rnd ha1 hc1 hw_18 hw_19 hw_20), (by rw [show lnT k f 2 = _ from lnT_v hv1 hfv1, hc1]; simp only [List.length_append, List.length_cons]; omega)⟩
    · skip
      refine lv_aload_n hx hb dX3_writeLine_30 rfl (lv_at hl 2 rfl) ?_
      refine va_get (D := D) (ci := 1) (v := .ref (x 7)) (C := RX0) (T := TX0) (N := 16) hx hb hts (fun _ h => List.mem_cons_of_mem _ (List.mem_append_left _ (List.mem_append_right _ (h)))) hown hK hP 1 rfl rfl 6 (by decide) (hts (.fieldLink RX3 107 "OptionWire$End" "asked" "[I") (List.mem_of_getElem? (i := 3) rfl)) (fun _ h9 => h9) rfl dX3_writeLine_31 ?_
      refine lv_iload_n hx hb dX3_writeLine_34 rfl (lv_at hl 0 rfl) ?_
      refine z_iald (k := 0) (v := (f 0)) hx hb hK hP 2 0 rfl rfl rfl (by omega) (by decide) rfl dX3_writeLine_35 ?_
      refine lv_iconst (v := (-1)) hx hb dX3_writeLine_36 (by decide) ?_
      refine lv_icmp_eq (tgt := 67) hx hb dX3_writeLine_37 (by decide) (fun c_21 => ?_) (fun c_21 => ?_)
      · skip
        refine W.widen (k := 4) (n := 136) (by omega) (by omega) ?_
        exact kJ _ _ _ _ ⟨vbx0, nx0, ctx0, gx0, rfl, hP, hD, hS, lv_sub hl [0, 1, 2] rfl, (by rw [show lnT k f 1 = _ from lnT_n c_21]; exact ha0), (by rw [show lnT k f 1 = _ from lnT_n c_21]; exact hc0)⟩
      · skip
        obtain ⟨vv0, hv0, hfv0⟩ := (hok 0 (by decide)).resolve_left c_21
        have hn0 := ha0.1
        have hq0 : ctx0 ≤ nx0 := by have q9 := ha0.2.1; omega
        have hf0 := ha0.2.2.1
        have h34_0 : ctx0 + 5 ≤ 34 := by have q9 := lnT_le (f := f) hk 0; omega
        refine lv_aload_n hx hb dX3_writeLine_40 rfl (lv_at hl 1 rfl) ?_
        refine va_get (D := D) (ci := 4) (v := .ref ln) (C := RX3) (T := TX3) (N := 8) hx hb hts (fun _ h => List.mem_cons_of_mem _ (List.mem_append_left _ (List.mem_append_left _ (List.mem_append_right _ (h))))) hown hK hP 0 rfl rfl 7 (by decide) (hts (.fieldLink RX3 44 "OptionWire" "line" "Ljava/lang/StringBuilder;") (List.mem_of_getElem? (i := 1) rfl)) (fun _ h9 => h9) rfl dX3_writeLine_41 ?_
        refine lv_bipush (v := 32) hx hb dX3_writeLine_44 (by decide) ?_
        have hPc := hP.sub (ws' := [(ln, .inr (0, [.ref vbx0, .int 0, .int ml'_1, .int (nI ctx0)])), (vbx0, .inl (cA 2, nx0, .inl gx0))]) [3, 4] rfl
        have hDc := hD.sub (ws' := [(ln, .inr (0, [.ref vbx0, .int 0, .int ml'_1, .int (nI ctx0)])), (vbx0, .inl (cA 2, nx0, .inl gx0))]) [3, 4] (by decide) rfl
        have hFc := va_free (wc := [(ln, .inr (0, [.ref vbx0, .int 0, .int ml'_1, .int (nI ctx0)])), (vbx0, .inl (cA 2, nx0, .inl gx0))]) hD hS hA [3, 4] rfl
        refine va_callr (va_runV (As := [.int 32]) (rest := []) ⟨hx, hb, hml, hown, hts⟩ (c_J4_append_cf468 l D cA zv H.size ln vbx0 ml'_1 ctx0 nx0 gx0 32 hn0 hq0 hf0 (by omega) (by decide) (by decide)) (cwV 1 hts gX3_writeLine_J4_append_cf468 rfl rfl rfl (by decide +kernel) ⟨Nat.le_of_ble_eq_true rfl, Nat.le_of_ble_eq_true rfl⟩) ⟨zUX_blind, va_recv hK hPc (ci := 0) (q0 := 0) rfl rfl, fun U hU hW => ⟨rfl, zUX_call hE0 hX0 hS hFc hU hPc hW hK hDc⟩⟩ rfl rfl hl.1 rfl (lv_room (Nat.le_of_ble_eq_true rfl)) dX3_writeLine_46 ⟨Nat.le_of_ble_eq_true rfl, Nat.le_of_ble_eq_true rfl⟩) hS (fun q _ h => hFc q h) hFc (fun u ra t H1 locs ht hvm hw hB hz1 hk1 hS => ?_)
        obtain ⟨vb'_22, n'_22, g'_22⟩ := u
        obtain ⟨hra, hP1, hD1⟩ := hB
        rw [ht] at hP1
        try dsimp only at hw hP1 hD1 hra
        subst ra
        obtain ⟨hP, hD⟩ := va_join (wr := [(o, .inr (4, [.ref F, .ref G, .int lo, .int nw, .int se, .ref (pa 0), .ref an, .ref ln])), cE x xv, (x 7, .inl (cA 0, 4, .inl f))]) (w1 := [(ln, .inr (0, [.ref vb'_22, .int 0, .int ml'_1, .int (nI (ctx0 + 1))])), (vb'_22, .inl (cA 2, n'_22, .inl g'_22))]) hP hD [3, 4] [0, 1, 2] rfl rfl (by decide) (by decide) hk1 hFc hP1 hD1
        generalize H1 = H at hP hS ⊢
        have hP := hP.sub (ws' := [(o, .inr (4, [.ref F, .ref G, .int lo, .int nw, .int se, .ref (pa 0), .ref an, .ref ln])), cE x xv, (x 7, .inl (cA 0, 4, .inl f)), (ln, .inr (0, [.ref vb'_22, .int 0, .int ml'_1, .int (nI (ctx0 + 1))])), (vb'_22, .inl (cA 2, n'_22, .inl g'_22))]) [0, 1, 2, 3, 4] rfl
        have hD := hD.sub (ws' := [(o, .inr (4, [.ref F, .ref G, .int lo, .int nw, .int se, .ref (pa 0), .ref an, .ref ln])), cE x xv, (x 7, .inl (cA 0, 4, .inl f)), (ln, .inr (0, [.ref vb'_22, .int 0, .int ml'_1, .int (nI (ctx0 + 1))])), (vb'_22, .inl (cA 2, n'_22, .inl g'_22))]) [0, 1, 2, 3, 4] (by decide) rfl
        clear hPc hDc hFc hP1 hD1 hk1 hz1
        refine W.widen (k := 2) (n := 68) (by omega) (by omega) ?_
        have hw_22 := hw
        refine lv_bipush (v := 97) hx hb dX3_writeLine_49 (by decide) ?_
        refine lv_iload_n hx hb dX3_writeLine_51 rfl (lv_at hl 0 rfl) ?_
        refine lv_iadd hx hb dX3_writeLine_52 ?_
        refine z_top (y := 97) (by decide) ?_
        refine lv_i2c (v := 97) hx hb dX3_writeLine_53 (by decide) ?_
        have hPc := hP.sub (ws' := [(ln, .inr (0, [.ref vb'_22, .int 0, .int ml'_1, .int (nI (ctx0 + 1))])), (vb'_22, .inl (cA 2, n'_22, .inl g'_22))]) [3, 4] rfl
        have hDc := hD.sub (ws' := [(ln, .inr (0, [.ref vb'_22, .int 0, .int ml'_1, .int (nI (ctx0 + 1))])), (vb'_22, .inl (cA 2, n'_22, .inl g'_22))]) [3, 4] (by decide) rfl
        have hFc := va_free (wc := [(ln, .inr (0, [.ref vb'_22, .int 0, .int ml'_1, .int (nI (ctx0 + 1))])), (vb'_22, .inl (cA 2, n'_22, .inl g'_22))]) hD hS hA [3, 4] rfl
        refine va_callr (va_runV (As := [.int 97]) (rest := []) ⟨hx, hb, hml, hown, hts⟩ (c_J4_append_cf468 l D cA zv H.size ln vb'_22 ml'_1 (ctx0 + 1) n'_22 g'_22 97 hw_22.1 hw_22.2.1 hw_22.2.2.1 (by omega) (by decide) (by decide)) (cwV 1 hts gX3_writeLine_J4_append_cf468 rfl rfl rfl (by decide +kernel) ⟨Nat.le_of_ble_eq_true rfl, Nat.le_of_ble_eq_true rfl⟩) ⟨zUX_blind, va_recv hK hPc (ci := 0) (q0 := 0) rfl rfl, fun U hU hW => ⟨rfl, zUX_call hE0 hX0 hS hFc hU hPc hW hK hDc⟩⟩ rfl rfl hl.1 rfl (lv_room (Nat.le_of_ble_eq_true rfl)) dX3_writeLine_54 ⟨Nat.le_of_ble_eq_true rfl, Nat.le_of_ble_eq_true rfl⟩) hS (fun q _ h => hFc q h) hFc (fun u ra t H1 locs ht hvm hw hB hz1 hk1 hS => ?_)
        obtain ⟨vb'_23, n'_23, g'_23⟩ := u
        obtain ⟨hra, hP1, hD1⟩ := hB
        rw [ht] at hP1
        try dsimp only at hw hP1 hD1 hra
        subst ra
        obtain ⟨hP, hD⟩ := va_join (wr := [(o, .inr (4, [.ref F, .ref G, .int lo, .int nw, .int se, .ref (pa 0), .ref an, .ref ln])), cE x xv, (x 7, .inl (cA 0, 4, .inl f))]) (w1 := [(ln, .inr (0, [.ref vb'_23, .int 0, .int ml'_1, .int (nI ((ctx0 + 1) + 1))])), (vb'_23, .inl (cA 2, n'_23, .inl g'_23))]) hP hD [3, 4] [0, 1, 2] rfl rfl (by decide) (by decide) hk1 hFc hP1 hD1
        generalize H1 = H at hP hS ⊢
        have hP := hP.sub (ws' := [(o, .inr (4, [.ref F, .ref G, .int lo, .int nw, .int se, .ref (pa 0), .ref an, .ref ln])), cE x xv, (x 7, .inl (cA 0, 4, .inl f)), (ln, .inr (0, [.ref vb'_23, .int 0, .int ml'_1, .int (nI ((ctx0 + 1) + 1))])), (vb'_23, .inl (cA 2, n'_23, .inl g'_23))]) [0, 1, 2, 3, 4] rfl
        have hD := hD.sub (ws' := [(o, .inr (4, [.ref F, .ref G, .int lo, .int nw, .int se, .ref (pa 0), .ref an, .ref ln])), cE x xv, (x 7, .inl (cA 0, 4, .inl f)), (ln, .inr (0, [.ref vb'_23, .int 0, .int ml'_1, .int (nI ((ctx0 + 1) + 1))])), (vb'_23, .inl (cA 2, n'_23, .inl g'_23))]) [0, 1, 2, 3, 4] (by decide) rfl
        clear hPc hDc hFc hP1 hD1 hk1 hz1
        refine W.widen (k := 3) (n := 102) (by omega) (by omega) ?_
        have hw_23 := hw
        refine lv_aload_n hx hb dX3_writeLine_57 rfl (lv_at hl 2 rfl) ?_
        refine va_get (D := D) (ci := 1) (v := .ref (x 7)) (C := RX0) (T := TX0) (N := 16) hx hb hts (fun _ h => List.mem_cons_of_mem _ (List.mem_append_left _ (List.mem_append_right _ (h)))) hown hK hP 1 rfl rfl 6 (by decide) (hts (.fieldLink RX3 107 "OptionWire$End" "asked" "[I") (List.mem_of_getElem? (i := 3) rfl)) (fun _ h9 => h9) rfl dX3_writeLine_58 ?_
        refine lv_iload_n hx hb dX3_writeLine_61 rfl (lv_at hl 0 rfl) ?_
        refine z_iald (k := 0) (v := (nI vv0)) hx hb hK hP 2 0 rfl rfl rfl (by omega) (by decide) hfv0 dX3_writeLine_62 ?_
        have hPc := hP.sub (ws' := [(ln, .inr (0, [.ref vb'_23, .int 0, .int ml'_1, .int (nI ((ctx0 + 1) + 1))])), (vb'_23, .inl (cA 2, n'_23, .inl g'_23))]) [3, 4] rfl
        have hDc := hD.sub (ws' := [(ln, .inr (0, [.ref vb'_23, .int 0, .int ml'_1, .int (nI ((ctx0 + 1) + 1))])), (vb'_23, .inl (cA 2, n'_23, .inl g'_23))]) [3, 4] (by decide) rfl
        have hFc := va_free (wc := [(ln, .inr (0, [.ref vb'_23, .int 0, .int ml'_1, .int (nI ((ctx0 + 1) + 1))])), (vb'_23, .inl (cA 2, n'_23, .inl g'_23))]) hD hS hA [3, 4] rfl
        refine va_callr (va_runV (As := [.int (nI vv0)]) (rest := []) ⟨hx, hb, hml, hown, hts⟩ (c_sbi l D cA zv H.size ln vb'_23 ml'_1 ((ctx0 + 1) + 1) n'_23 g'_23 vv0 hw_23.1 hw_23.2.1 hw_23.2.2.1 (by omega) hv0) (cwV 1 hts gX3_writeLine_J4_append_bf812 rfl rfl rfl (by decide +kernel) ⟨Nat.le_of_ble_eq_true rfl, Nat.le_of_ble_eq_true rfl⟩) ⟨zUX_blind, va_recv hK hPc (ci := 0) (q0 := 0) rfl rfl, fun U hU hW => ⟨rfl, zUX_call hE0 hX0 hS hFc hU hPc hW hK hDc⟩⟩ rfl rfl hl.1 rfl (lv_room (Nat.le_of_ble_eq_true rfl)) dX3_writeLine_63 ⟨Nat.le_of_ble_eq_true rfl, Nat.le_of_ble_eq_true rfl⟩) hS (fun q _ h => hFc q h) hFc (fun u ra t H1 locs ht hvm hw hB hz1 hk1 hS => ?_)
        obtain ⟨vb'_24, n'_24, g'_24⟩ := u
        obtain ⟨hra, hP1, hD1⟩ := hB
        rw [ht] at hP1
        try dsimp only at hw hP1 hD1 hra
        subst ra
        obtain ⟨hP, hD⟩ := va_join (wr := [(o, .inr (4, [.ref F, .ref G, .int lo, .int nw, .int se, .ref (pa 0), .ref an, .ref ln])), cE x xv, (x 7, .inl (cA 0, 4, .inl f))]) (w1 := [(ln, .inr (0, [.ref vb'_24, .int 0, .int ml'_1, .int (nI (((ctx0 + 1) + 1) + (lnD vv0).length))])), (vb'_24, .inl (cA 2, n'_24, .inl g'_24))]) hP hD [3, 4] [0, 1, 2] rfl rfl (by decide) (by decide) hk1 hFc hP1 hD1
        generalize H1 = H at hP hS ⊢
        have hP := hP.sub (ws' := [(o, .inr (4, [.ref F, .ref G, .int lo, .int nw, .int se, .ref (pa 0), .ref an, .ref ln])), cE x xv, (x 7, .inl (cA 0, 4, .inl f)), (ln, .inr (0, [.ref vb'_24, .int 0, .int ml'_1, .int (nI (((ctx0 + 1) + 1) + (lnD vv0).length))])), (vb'_24, .inl (cA 2, n'_24, .inl g'_24))]) [0, 1, 2, 3, 4] rfl
        have hD := hD.sub (ws' := [(o, .inr (4, [.ref F, .ref G, .int lo, .int nw, .int se, .ref (pa 0), .ref an, .ref ln])), cE x xv, (x 7, .inl (cA 0, 4, .inl f)), (ln, .inr (0, [.ref vb'_24, .int 0, .int ml'_1, .int (nI (((ctx0 + 1) + 1) + (lnD vv0).length))])), (vb'_24, .inl (cA 2, n'_24, .inl g'_24))]) [0, 1, 2, 3, 4] (by decide) rfl
        clear hPc hDc hFc hP1 hD1 hk1 hz1
        refine W.widen (k := 4) (n := 136) (by omega) (by omega) ?_
        have hw_24 := hw
        refine lv_pop hx hb dX3_writeLine_66 rfl ?_
        refine W.widen (k := 4) (n := 136) (by omega) (by omega) ?_
        exact kJ _ _ _ _ ⟨vb'_24, n'_24, (((ctx0 + 1) + 1) + (lnD vv0).length), g'_24, rfl, hP, hD, hS, lv_sub hl [0, 1, 2] rfl, (by rw [show lnT k f 1 = _ from lnT_v hv0 hfv0]; exact apd_rnd ha0 hc0 hw_22 hw_23 hw_24), (by rw [show lnT k f 1 = _ from lnT_v hv0 hfv0, hc0]; simp only [List.length_append, List.length_cons]; omega)⟩
  · skip
    refine lv_pop hx hb dX3_writeLine_22 rfl ?_
    exact kJ _ _ _ _ ⟨vb'_3, n'_3, (0 + zLen.getD k 0), g'_3, rfl, hP, hD, hS, lv_sub hl [0, 1] rfl, hw_3, (by rw [Nat.zero_add]; exact (zlen_ok hk).symm)⟩
set_option maxHeartbeats 4000000 in
set_option maxRecDepth 100000 in
theorem c_X3_lineLength_k (l : Launch) (D : va_G) (cA : Nat → ClassId) (zv : Nat → Nat) (sz : Nat) (o F G : Nat) (lo nw se : Int32) (pa : Nat → Nat) (an ln : Nat) (x : Nat → Nat) (y0 : Nat) (n : Int32) (xv : Nat → Int32) (k vb nb ct : Nat) (ml : Int32) (f g : Nat → Int32) (he : en n F G (x 0) y0) (hk : k < 8) (hk0 : xv 0 = nI k) (hok : ∀ j, j < 4 → okv (f j)) (hn : nb = 16 ∨ nb = 34) (hct : ct ≤ nb) (hfb : bfit nb g) : Met l yX3_lineLength wsX3_lineLength ({ frames := 7, cells := 13, slots := 442, locals := 170 }) (va_Pc [.ref o, .int n] (zUX D cA zv sz [(o, .inr (4, [.ref F, .ref G, .int lo, .int nw, .int se, .ref (pa 0), .ref an, .ref ln])), cE x xv, (x 7, .inl (cA 0, 4, .inl f)), (ln, .inr (0, [.ref vb, .int 0, .int ml, .int (nI ct)])), (vb, .inl (cA 2, nb, .inl g))])) (va_Qi (fun (r : Int32) (u : (Nat × Int32 × Nat × (Nat → Int32))) => apd u.2.2.1 u.2.2.2 g 0 (lnT k f 4) ∧ r = nI (lnT k f 4).length) (fun (u : (Nat × Int32 × Nat × (Nat → Int32))) t => zB D [(o, .inr (4, [.ref F, .ref G, .int lo, .int nw, .int se, .ref (pa 0), .ref an, .ref ln])), cE x xv, (x 7, .inl (cA 0, 4, .inl f)), (ln, .inr (0, [.ref vb, .int 0, .int ml, .int (nI ct)])), (vb, .inl (cA 2, nb, .inl g))] sz [(o, .inr (4, [.ref F, .ref G, .int lo, .int nw, .int se, .ref (pa 0), .ref an, .ref ln])), cE x xv, (x 7, .inl (cA 0, 4, .inl f)), (ln, .inr (0, [.ref u.1, .int 0, .int u.2.1, .int (nI ((lnT k f 4).length))])), (u.1, .inl (cA 2, u.2.2.1, .inl u.2.2.2))] t) (va_A [(o, .inr (4, [.ref F, .ref G, .int lo, .int nw, .int se, .ref (pa 0), .ref an, .ref ln])), cE x xv, (x 7, .inl (cA 0, 4, .inl f)), (ln, .inr (0, [.ref vb, .int 0, .int ml, .int (nI ct)])), (vb, .inl (cA 2, nb, .inl g))] sz)) 13 442 (va_A [(o, .inr (4, [.ref F, .ref G, .int lo, .int nw, .int se, .ref (pa 0), .ref an, .ref ln])), cE x xv, (x 7, .inl (cA 0, 4, .inl f)), (ln, .inr (0, [.ref vb, .int 0, .int ml, .int (nI ct)])), (vb, .inl (cA 2, nb, .inl g))] sz) := by
  refine Met.ofW (cc := cX3_lineLength) (maxL := 2) (ret := (some .int)) (by decide) rfl ?_
  intro p e s m args below meth c s₁ B hml hv
  obtain ⟨rfl, ⟨hsz, hP, hK, hD0, hE0⟩, hX0⟩ := hv
  have hx := B.exec
  have hb := B.bytes
  have hr := B.returns
  have hts := atoms_spec (ws := wsX3_lineLength) B.pre
  have hown : s.vm.findClass RX3 = some m.cls := findClass_of_methodNamed B.named
  have hlocks := B.notSynchronized
  subst hsz
  have hD := hD0.self (sz := s.heap.size)
  generalize hAe : va_A [(o, .inr (4, [.ref F, .ref G, .int lo, .int nw, .int se, .ref (pa 0), .ref an, .ref ln])), cE x xv, (x 7, .inl (cA 0, 4, .inl f)), (ln, .inr (0, [.ref vb, .int 0, .int ml, .int (nI ct)])), (vb, .inl (cA 2, nb, .inl g))] s.heap.size = A at hD hE0 hX0 ⊢
  have hA : ∀ q : Nat, s.heap.size ≤ q → A q := fun q h => by rw [← hAe]; exact Or.inr h
  have hS : va_S A s.heap s.heap [] := va_S.rf
  have hl := lv_entry ([.ref o, .int n]) (n := 2) (Nat.le_of_ble_eq_true rfl)
  rw [lg_entry_eq]
  generalize (lg_sl ([.ref o, .int n]) ++ List.replicate (2 - (lg_sl ([.ref o, .int n])).length) Slot.unset).toArray = ls at hl ⊢
  have hl : lv_has ls 2 [(0, .ref o), (1, .int n)] := hl
  refine lv_iload_n hx hb dX3_lineLength_0 rfl (lv_at hl 1 rfl) ?_
  have hPc := hP.sub (ws' := []) [] rfl
  have hDc := hD.sub (ws' := []) [] (by decide) rfl
  have hFc := va_free (wc := []) hD hS hA [] rfl
  refine va_callv (va_runS (As := [.int n]) (rest := []) ⟨hx, hb, hml, hown, hts⟩ (c_X3_checkEnd_k l D cA s.heap.size n (en_inr he)) (va_cwS 1 hts gX3_lineLength_X3_checkEnd rfl rfl rfl (by decide +kernel) ⟨Nat.le_of_ble_eq_true rfl, Nat.le_of_ble_eq_true rfl⟩) ⟨zU_blind, fun U hU hW => ⟨rfl, zU_call hU hPc hW.alike hK hDc⟩⟩ rfl rfl hl.1 rfl (lv_room (Nat.le_of_ble_eq_true rfl)) dX3_lineLength_1 ⟨(Nat.zero_le _), (Nat.zero_le _)⟩) hS (fun q _ h => hFc q h) hFc (fun u t H1 locs ht hvm hw hB hz1 hk1 hS => ?_)
  obtain ⟨hP1, hD1⟩ := hB
  rw [ht] at hP1
  obtain ⟨hP, hD⟩ := va_join (wr := [(o, .inr (4, [.ref F, .ref G, .int lo, .int nw, .int se, .ref (pa 0), .ref an, .ref ln])), cE x xv, (x 7, .inl (cA 0, 4, .inl f)), (ln, .inr (0, [.ref vb, .int 0, .int ml, .int (nI ct)])), (vb, .inl (cA 2, nb, .inl g))]) (w1 := []) hP hD [] [0, 1, 2, 3, 4] rfl rfl (by decide) (by decide) hk1 hFc hP1 hD1
  generalize H1 = H at hP hS ⊢
  have hP := hP.sub (ws' := [(o, .inr (4, [.ref F, .ref G, .int lo, .int nw, .int se, .ref (pa 0), .ref an, .ref ln])), cE x xv, (x 7, .inl (cA 0, 4, .inl f)), (ln, .inr (0, [.ref vb, .int 0, .int ml, .int (nI ct)])), (vb, .inl (cA 2, nb, .inl g))]) [0, 1, 2, 3, 4] rfl
  have hD := hD.sub (ws' := [(o, .inr (4, [.ref F, .ref G, .int lo, .int nw, .int se, .ref (pa 0), .ref an, .ref ln])), cE x xv, (x 7, .inl (cA 0, 4, .inl f)), (ln, .inr (0, [.ref vb, .int 0, .int ml, .int (nI ct)])), (vb, .inl (cA 2, nb, .inl g))]) [0, 1, 2, 3, 4] (by decide) rfl
  clear hPc hDc hFc hP1 hD1 hk1 hz1
  have hw_1 := hw
  refine lv_aload_n hx hb dX3_lineLength_4 rfl (lv_at hl 0 rfl) ?_
  refine lv_aload_n hx hb dX3_lineLength_5 rfl (lv_at hl 0 rfl) ?_
  refine lv_iload_n hx hb dX3_lineLength_6 rfl (lv_at hl 1 rfl) ?_
  have hPc := hP.sub (ws' := [(o, .inr (4, [.ref F, .ref G, .int lo, .int nw, .int se, .ref (pa 0), .ref an, .ref ln]))]) [0] rfl
  have hDc := hD.sub (ws' := [(o, .inr (4, [.ref F, .ref G, .int lo, .int nw, .int se, .ref (pa 0), .ref an, .ref ln]))]) [0] (by decide) rfl
  have hFc := va_free (wc := [(o, .inr (4, [.ref F, .ref G, .int lo, .int nw, .int se, .ref (pa 0), .ref an, .ref ln]))]) hD hS hA [0] rfl
  refine va_callr (va_runV (As := [.int n]) (rest := [.ref o]) ⟨hx, hb, hml, hown, hts⟩ (c_X3_endOf l D cA H.size o F G lo nw se pa an ln n (x 0) y0 (by assumption)) (cwV 1 hts gX3_lineLength_X3_endOf rfl rfl rfl (by decide +kernel) ⟨Nat.le_of_ble_eq_true rfl, Nat.le_of_ble_eq_true rfl⟩) ⟨zU_blind, va_recv hK hPc (ci := 4) (q0 := 0) rfl rfl, fun U hU hW => ⟨rfl, zU_call hU hPc hW.alike hK hDc⟩⟩ rfl rfl hl.1 rfl (lv_room (Nat.le_of_ble_eq_true rfl)) dX3_lineLength_7 ⟨(Nat.zero_le _), (Nat.zero_le _)⟩) hS (fun q _ h => hFc q h) hFc (fun u ra t H1 locs ht hvm hw hB hz1 hk1 hS => ?_)
  obtain ⟨hra, hP1, hD1⟩ := hB
  rw [ht] at hP1
  subst ra
  obtain ⟨hP, hD⟩ := va_join (wr := [cE x xv, (x 7, .inl (cA 0, 4, .inl f)), (ln, .inr (0, [.ref vb, .int 0, .int ml, .int (nI ct)])), (vb, .inl (cA 2, nb, .inl g))]) (w1 := [(o, .inr (4, [.ref F, .ref G, .int lo, .int nw, .int se, .ref (pa 0), .ref an, .ref ln]))]) hP hD [0] [1, 2, 3, 4] rfl rfl (by decide) (by decide) hk1 hFc hP1 hD1
  generalize H1 = H at hP hS ⊢
  have hP := hP.sub (ws' := [(o, .inr (4, [.ref F, .ref G, .int lo, .int nw, .int se, .ref (pa 0), .ref an, .ref ln])), cE x xv, (x 7, .inl (cA 0, 4, .inl f)), (ln, .inr (0, [.ref vb, .int 0, .int ml, .int (nI ct)])), (vb, .inl (cA 2, nb, .inl g))]) [4, 0, 1, 2, 3] rfl
  have hD := hD.sub (ws' := [(o, .inr (4, [.ref F, .ref G, .int lo, .int nw, .int se, .ref (pa 0), .ref an, .ref ln])), cE x xv, (x 7, .inl (cA 0, 4, .inl f)), (ln, .inr (0, [.ref vb, .int 0, .int ml, .int (nI ct)])), (vb, .inl (cA 2, nb, .inl g))]) [4, 0, 1, 2, 3] (by decide) rfl
  clear hPc hDc hFc hP1 hD1 hk1 hz1
  have hw_2 := hw
  have hPc := hP.sub (ws' := [(o, .inr (4, [.ref F, .ref G, .int lo, .int nw, .int se, .ref (pa 0), .ref an, .ref ln])), cE x xv, (x 7, .inl (cA 0, 4, .inl f)), (ln, .inr (0, [.ref vb, .int 0, .int ml, .int (nI ct)])), (vb, .inl (cA 2, nb, .inl g))]) [0, 1, 2, 3, 4] rfl
  have hDc := hD.sub (ws' := [(o, .inr (4, [.ref F, .ref G, .int lo, .int nw, .int se, .ref (pa 0), .ref an, .ref ln])), cE x xv, (x 7, .inl (cA 0, 4, .inl f)), (ln, .inr (0, [.ref vb, .int 0, .int ml, .int (nI ct)])), (vb, .inl (cA 2, nb, .inl g))]) [0, 1, 2, 3, 4] (by decide) rfl
  have hFc := va_free (wc := [(o, .inr (4, [.ref F, .ref G, .int lo, .int nw, .int se, .ref (pa 0), .ref an, .ref ln])), cE x xv, (x 7, .inl (cA 0, 4, .inl f)), (ln, .inr (0, [.ref vb, .int 0, .int ml, .int (nI ct)])), (vb, .inl (cA 2, nb, .inl g))]) hD hS hA [0, 1, 2, 3, 4] rfl
  refine va_callv (va_runV (As := [.ref (x 0)]) (rest := []) ⟨hx, hb, hml, hown, hts⟩ (c_X3_writeLine l D cA zv H.size o F G lo nw se pa an ln x xv k vb nb ct ml f g (by assumption) (by assumption) (by assumption) (by assumption) (by assumption) (by assumption)) (cwV 1 hts gX3_lineLength_X3_writeLine rfl rfl rfl (by decide +kernel) ⟨Nat.le_of_ble_eq_true rfl, Nat.le_of_ble_eq_true rfl⟩) ⟨zUX_blind, va_recv hK hPc (ci := 4) (q0 := 0) rfl rfl, fun U hU hW => ⟨rfl, zUX_call hE0 hX0 hS hFc hU hPc hW hK hDc⟩⟩ rfl rfl hl.1 rfl (lv_room (Nat.le_of_ble_eq_true rfl)) dX3_lineLength_10 ⟨Nat.le_of_ble_eq_true rfl, Nat.le_of_ble_eq_true rfl⟩) hS (fun q _ h => hFc q h) hFc (fun u t H1 locs ht hvm hw hB hz1 hk1 hS => ?_)
  obtain ⟨vb'_3, ml'_3, nb'_3, g'_3⟩ := u
  obtain ⟨hP1, hD1⟩ := hB
  rw [ht] at hP1
  try dsimp only at hw hP1 hD1
  obtain ⟨hP, hD⟩ := va_join (wr := []) (w1 := [(o, .inr (4, [.ref F, .ref G, .int lo, .int nw, .int se, .ref (pa 0), .ref an, .ref ln])), cE x xv, (x 7, .inl (cA 0, 4, .inl f)), (ln, .inr (0, [.ref vb'_3, .int 0, .int ml'_3, .int (nI ((lnT k f 4).length))])), (vb'_3, .inl (cA 2, nb'_3, .inl g'_3))]) hP hD [0, 1, 2, 3, 4] [] rfl rfl (by decide) (by decide) hk1 hFc hP1 hD1
  generalize H1 = H at hP hS ⊢
  have hP := hP.sub (ws' := [(o, .inr (4, [.ref F, .ref G, .int lo, .int nw, .int se, .ref (pa 0), .ref an, .ref ln])), cE x xv, (x 7, .inl (cA 0, 4, .inl f)), (ln, .inr (0, [.ref vb'_3, .int 0, .int ml'_3, .int (nI ((lnT k f 4).length))])), (vb'_3, .inl (cA 2, nb'_3, .inl g'_3))]) [0, 1, 2, 3, 4] rfl
  have hD := hD.sub (ws' := [(o, .inr (4, [.ref F, .ref G, .int lo, .int nw, .int se, .ref (pa 0), .ref an, .ref ln])), cE x xv, (x 7, .inl (cA 0, 4, .inl f)), (ln, .inr (0, [.ref vb'_3, .int 0, .int ml'_3, .int (nI ((lnT k f 4).length))])), (vb'_3, .inl (cA 2, nb'_3, .inl g'_3))]) [0, 1, 2, 3, 4] (by decide) rfl
  clear hPc hDc hFc hP1 hD1 hk1 hz1
  refine W.widen (k := 13) (n := 442) (by omega) (by omega) ?_
  have hw_3 := hw
  refine lv_aload_n hx hb dX3_lineLength_13 rfl (lv_at hl 0 rfl) ?_
  refine va_get (D := D) (ci := 4) (v := .ref ln) (C := RX3) (T := TX3) (N := 8) hx hb hts (fun _ h => List.mem_cons_of_mem _ (List.mem_append_left _ (List.mem_append_left _ (List.mem_append_left _ (List.mem_append_right _ (h)))))) hown hK hP 0 rfl rfl 7 (by decide) (hts (.fieldLink RX3 44 "OptionWire" "line" "Ljava/lang/StringBuilder;") (List.mem_of_getElem? (i := 1) rfl)) (fun _ h9 => h9) rfl dX3_lineLength_14 ?_
  have hPc := hP.sub (ws' := [(ln, .inr (0, [.ref vb'_3, .int 0, .int ml'_3, .int (nI ((lnT k f 4).length))]))]) [3] rfl
  have hDc := hD.sub (ws' := [(ln, .inr (0, [.ref vb'_3, .int 0, .int ml'_3, .int (nI ((lnT k f 4).length))]))]) [3] (by decide) rfl
  have hFc := va_free (wc := [(ln, .inr (0, [.ref vb'_3, .int 0, .int ml'_3, .int (nI ((lnT k f 4).length))]))]) hD hS hA [3] rfl
  refine va_calli (va_runV (As := []) (rest := []) ⟨hx, hb, hml, hown, hts⟩ (c_J4_length_8abf5 l D cA H.size ln vb'_3 ml'_3 ((lnT k f 4).length)) (cwV 0 hts gX3_lineLength_J4_length_8abf5 rfl rfl rfl (by decide +kernel) ⟨Nat.le_of_ble_eq_true rfl, Nat.le_of_ble_eq_true rfl⟩) ⟨zU_blind, va_recv hK hPc (ci := 0) (q0 := 0) rfl rfl, fun U hU hW => ⟨rfl, zU_call hU hPc hW.alike hK hDc⟩⟩ rfl rfl hl.1 rfl (lv_room (Nat.le_of_ble_eq_true rfl)) dX3_lineLength_17 ⟨Nat.le_of_ble_eq_true rfl, Nat.le_of_ble_eq_true rfl⟩) hS (fun q _ h => hFc q h) hFc (fun zr u t H1 locs ht hvm hw hB hz1 hk1 hS => ?_)
  obtain ⟨hP1, hD1⟩ := hB
  rw [ht] at hP1
  obtain ⟨hP, hD⟩ := va_join (wr := [(o, .inr (4, [.ref F, .ref G, .int lo, .int nw, .int se, .ref (pa 0), .ref an, .ref ln])), cE x xv, (x 7, .inl (cA 0, 4, .inl f)), (vb'_3, .inl (cA 2, nb'_3, .inl g'_3))]) (w1 := [(ln, .inr (0, [.ref vb'_3, .int 0, .int ml'_3, .int (nI ((lnT k f 4).length))]))]) hP hD [3] [0, 1, 2, 4] rfl rfl (by decide) (by decide) hk1 hFc hP1 hD1
  generalize H1 = H at hP hS ⊢
  have hP := hP.sub (ws' := [(o, .inr (4, [.ref F, .ref G, .int lo, .int nw, .int se, .ref (pa 0), .ref an, .ref ln])), cE x xv, (x 7, .inl (cA 0, 4, .inl f)), (ln, .inr (0, [.ref vb'_3, .int 0, .int ml'_3, .int (nI ((lnT k f 4).length))])), (vb'_3, .inl (cA 2, nb'_3, .inl g'_3))]) [0, 1, 2, 4, 3] rfl
  have hD := hD.sub (ws' := [(o, .inr (4, [.ref F, .ref G, .int lo, .int nw, .int se, .ref (pa 0), .ref an, .ref ln])), cE x xv, (x 7, .inl (cA 0, 4, .inl f)), (ln, .inr (0, [.ref vb'_3, .int 0, .int ml'_3, .int (nI ((lnT k f 4).length))])), (vb'_3, .inl (cA 2, nb'_3, .inl g'_3))]) [0, 1, 2, 4, 3] (by decide) rfl
  clear hPc hDc hFc hP1 hD1 hk1 hz1
  have hw_4 := hw
  obtain rfl := hw
  refine W.widen (k := 13) (n := 442) (by omega) (by omega) ?_
  exact W.iret (v := (nI ((lnT k f 4).length))) hx hb hr (fun t ht hW => ⟨⟨nI ((lnT k f 4).length), (vb'_3, ml'_3, nb'_3, g'_3), rfl, ⟨hw_3, rfl⟩, ⟨by rw [ht]; exact hP, by rw [hAe]; exact hD⟩⟩, hS.F ht⟩) hS.2.2 dX3_lineLength_20
set_option maxHeartbeats 4000000 in
set_option maxRecDepth 100000 in
theorem c_X3_lineLength_b (l : Launch) (D : va_G) (cA : Nat → ClassId) (zv : Nat → Nat) (sz : Nat) (hl0 : l.stackTraces = false) (o F G : Nat) (lo nw se : Int32) (pa : Nat → Nat) (an ln : Nat) (n  : Int32) (hbad : ¬ inr n 0 1) : vx_Met l yX3_lineLength wsX3_lineLength ({ frames := 9, cells := 1, slots := 6, locals := 120 }) (va_Pc [.ref o, .int n] (zUX D cA zv sz [(o, .inr (4, [.ref F, .ref G, .int lo, .int nw, .int se, .ref (pa 0), .ref an, .ref ln]))])) (va_Qi (fun (_ : Int32) (_ : Unit) => False) (fun (_ : Unit) _ => True) (va_A [(o, .inr (4, [.ref F, .ref G, .int lo, .int nw, .int se, .ref (pa 0), .ref an, .ref ln]))] sz)) (vx_X (fun (_ : Unit) => True) (fun E (_ : Unit) t => E = "java/lang/IllegalArgumentException" ∧ zB D [(o, .inr (4, [.ref F, .ref G, .int lo, .int nw, .int se, .ref (pa 0), .ref an, .ref ln]))] sz [(o, .inr (4, [.ref F, .ref G, .int lo, .int nw, .int se, .ref (pa 0), .ref an, .ref ln]))] t) (va_A [(o, .inr (4, [.ref F, .ref G, .int lo, .int nw, .int se, .ref (pa 0), .ref an, .ref ln]))] sz)) 1 6 (va_A [(o, .inr (4, [.ref F, .ref G, .int lo, .int nw, .int se, .ref (pa 0), .ref an, .ref ln]))] sz) := by
  refine vx_ofW (cc := cX3_lineLength) (maxL := 2) (ret := (some .int)) (by decide) rfl ?_
  intro p e s m args below meth c s₁ B hml htab hv
  obtain ⟨rfl, ⟨hsz, hP, hK, hD0, hE0⟩, hX0⟩ := hv
  have hx := B.exec
  have hb := B.bytes
  have hr := B.returns
  have hts := atoms_spec (ws := wsX3_lineLength) B.pre
  have hown : s.vm.findClass RX3 = some m.cls := findClass_of_methodNamed B.named
  have hlocks := B.notSynchronized
  subst hsz
  have hD := hD0.self (sz := s.heap.size)
  generalize hAe : va_A [(o, .inr (4, [.ref F, .ref G, .int lo, .int nw, .int se, .ref (pa 0), .ref an, .ref ln]))] s.heap.size = A at hD hE0 hX0 ⊢
  have hA : ∀ q : Nat, s.heap.size ≤ q → A q := fun q h => by rw [← hAe]; exact Or.inr h
  have hS : va_S A s.heap s.heap [] := va_S.rf
  have hl := lv_entry ([.ref o, .int n]) (n := 2) (Nat.le_of_ble_eq_true rfl)
  rw [lg_entry_eq]
  generalize (lg_sl ([.ref o, .int n]) ++ List.replicate (2 - (lg_sl ([.ref o, .int n])).length) Slot.unset).toArray = ls at hl ⊢
  have hl : lv_has ls 2 [(0, .ref o), (1, .int n)] := hl
  refine lv_iload_n hx hb dX3_lineLength_0 rfl (lv_at hl 1 rfl) ?_
  have hPc := hP.sub (ws' := []) [] rfl
  have hDc := hD.sub (ws' := []) [] (by decide) rfl
  have hFc := va_free (wc := []) hD hS hA [] rfl
  refine vx_callv (vx_runS (As := [.int n]) (rest := []) ⟨hx, hb, hml, hown, hts⟩ (c_X3_checkEnd_t l D cA zv s.heap.size hl0 n hbad) (va_cwS 1 hts gX3_lineLength_X3_checkEnd rfl rfl rfl (by decide +kernel) ⟨Nat.le_of_ble_eq_true rfl, Nat.le_of_ble_eq_true rfl⟩) ⟨zUX_blind, fun U hU hW => ⟨rfl, zUX_call hE0 hX0 hS hFc hU hPc hW hK hDc⟩⟩ rfl rfl hl.1 rfl (lv_room (Nat.le_of_ble_eq_true rfl)) dX3_lineLength_1 ⟨Nat.le_of_ble_eq_true rfl, Nat.le_of_ble_eq_true rfl⟩) hS (fun q _ h => hFc q h) hFc (fun q _ h => hFc q h) (fun E9 ce9 q9 u t H1 locs ht hvm hpx hB hz1 hk1 hS hcell hcv hcl => ?_) (fun u t H1 locs1 ht hvm hw _ _ _ _ => hw.elim)
  obtain ⟨rfl, hP1, hD1⟩ := hB
  rw [ht] at hP1
  obtain ⟨hP, hD⟩ := va_join (wr := [(o, .inr (4, [.ref F, .ref G, .int lo, .int nw, .int se, .ref (pa 0), .ref an, .ref ln]))]) (w1 := []) hP hD [] [0] rfl rfl (by decide) (by decide) hk1 hFc hP1 hD1
  have hP := hP.sub (ws' := [(o, .inr (4, [.ref F, .ref G, .int lo, .int nw, .int se, .ref (pa 0), .ref an, .ref ln]))]) [0] rfl
  have hD := hD.sub (ws' := [(o, .inr (4, [.ref F, .ref G, .int lo, .int nw, .int se, .ref (pa 0), .ref an, .ref ln]))]) [0] (by decide) rfl
  exact vx_out (fun x h => (htab x h).elim) hlocks hcell hcv hcl (fun t2 h7 h8 => z_thrO hP hD hS hAe h7) hS.2.2 (by omega) (by omega)
set_option maxHeartbeats 4000000 in
set_option maxRecDepth 100000 in
theorem c_X3_lineChar_k (l : Launch) (D : va_G) (cA : Nat → ClassId) (zv : Nat → Nat) (sz : Nat) (o F G : Nat) (lo nw se : Int32) (pa : Nat → Nat) (an ln : Nat) (x : Nat → Nat) (y0 : Nat) (n : Int32) (xv : Nat → Int32) (k vb nb ct : Nat) (ml : Int32) (f g : Nat → Int32) (i : Nat) (he : en n F G (x 0) y0) (hk : k < 8) (hk0 : xv 0 = nI k) (hok : ∀ j, j < 4 → okv (f j)) (hn : nb = 16 ∨ nb = 34) (hct : ct ≤ nb) (hfb : bfit nb g) (hi : i < (lnT k f 4).length) : Met l yX3_lineChar wsX3_lineChar ({ frames := 7, cells := 13, slots := 442, locals := 170 }) (va_Pc [.ref o, .int n, .int (nI i)] (zUX D cA zv sz [(o, .inr (4, [.ref F, .ref G, .int lo, .int nw, .int se, .ref (pa 0), .ref an, .ref ln])), cE x xv, (x 7, .inl (cA 0, 4, .inl f)), (ln, .inr (0, [.ref vb, .int 0, .int ml, .int (nI ct)])), (vb, .inl (cA 2, nb, .inl g))])) (va_Qi (fun (r : Int32) (u : (Nat × Int32 × Nat × (Nat → Int32))) => apd u.2.2.1 u.2.2.2 g 0 (lnT k f 4) ∧ r = (lnT k f 4).getD i 0) (fun (u : (Nat × Int32 × Nat × (Nat → Int32))) t => zB D [(o, .inr (4, [.ref F, .ref G, .int lo, .int nw, .int se, .ref (pa 0), .ref an, .ref ln])), cE x xv, (x 7, .inl (cA 0, 4, .inl f)), (ln, .inr (0, [.ref vb, .int 0, .int ml, .int (nI ct)])), (vb, .inl (cA 2, nb, .inl g))] sz [(o, .inr (4, [.ref F, .ref G, .int lo, .int nw, .int se, .ref (pa 0), .ref an, .ref ln])), cE x xv, (x 7, .inl (cA 0, 4, .inl f)), (ln, .inr (0, [.ref u.1, .int 0, .int u.2.1, .int (nI ((lnT k f 4).length))])), (u.1, .inl (cA 2, u.2.2.1, .inl u.2.2.2))] t) (va_A [(o, .inr (4, [.ref F, .ref G, .int lo, .int nw, .int se, .ref (pa 0), .ref an, .ref ln])), cE x xv, (x 7, .inl (cA 0, 4, .inl f)), (ln, .inr (0, [.ref vb, .int 0, .int ml, .int (nI ct)])), (vb, .inl (cA 2, nb, .inl g))] sz)) 13 442 (va_A [(o, .inr (4, [.ref F, .ref G, .int lo, .int nw, .int se, .ref (pa 0), .ref an, .ref ln])), cE x xv, (x 7, .inl (cA 0, 4, .inl f)), (ln, .inr (0, [.ref vb, .int 0, .int ml, .int (nI ct)])), (vb, .inl (cA 2, nb, .inl g))] sz) := by
  refine Met.ofW (cc := cX3_lineChar) (maxL := 3) (ret := (some .char)) (by decide) rfl ?_
  intro p e s m args below meth c s₁ B hml hv
  obtain ⟨rfl, ⟨hsz, hP, hK, hD0, hE0⟩, hX0⟩ := hv
  have hx := B.exec
  have hb := B.bytes
  have hr := B.returns
  have hts := atoms_spec (ws := wsX3_lineChar) B.pre
  have hown : s.vm.findClass RX3 = some m.cls := findClass_of_methodNamed B.named
  have hlocks := B.notSynchronized
  subst hsz
  have hD := hD0.self (sz := s.heap.size)
  generalize hAe : va_A [(o, .inr (4, [.ref F, .ref G, .int lo, .int nw, .int se, .ref (pa 0), .ref an, .ref ln])), cE x xv, (x 7, .inl (cA 0, 4, .inl f)), (ln, .inr (0, [.ref vb, .int 0, .int ml, .int (nI ct)])), (vb, .inl (cA 2, nb, .inl g))] s.heap.size = A at hD hE0 hX0 ⊢
  have hA : ∀ q : Nat, s.heap.size ≤ q → A q := fun q h => by rw [← hAe]; exact Or.inr h
  have hS : va_S A s.heap s.heap [] := va_S.rf
  have hl := lv_entry ([.ref o, .int n, .int (nI i)]) (n := 3) (Nat.le_of_ble_eq_true rfl)
  rw [lg_entry_eq]
  generalize (lg_sl ([.ref o, .int n, .int (nI i)]) ++ List.replicate (3 - (lg_sl ([.ref o, .int n, .int (nI i)])).length) Slot.unset).toArray = ls at hl ⊢
  have hl : lv_has ls 3 [(0, .ref o), (1, .int n), (2, .int (nI i))] := hl
  refine lv_iload_n hx hb dX3_lineChar_0 rfl (lv_at hl 1 rfl) ?_
  have hPc := hP.sub (ws' := []) [] rfl
  have hDc := hD.sub (ws' := []) [] (by decide) rfl
  have hFc := va_free (wc := []) hD hS hA [] rfl
  refine va_callv (va_runS (As := [.int n]) (rest := []) ⟨hx, hb, hml, hown, hts⟩ (c_X3_checkEnd_k l D cA s.heap.size n (en_inr he)) (va_cwS 1 hts gX3_lineChar_X3_checkEnd rfl rfl rfl (by decide +kernel) ⟨Nat.le_of_ble_eq_true rfl, Nat.le_of_ble_eq_true rfl⟩) ⟨zU_blind, fun U hU hW => ⟨rfl, zU_call hU hPc hW.alike hK hDc⟩⟩ rfl rfl hl.1 rfl (lv_room (Nat.le_of_ble_eq_true rfl)) dX3_lineChar_1 ⟨(Nat.zero_le _), (Nat.zero_le _)⟩) hS (fun q _ h => hFc q h) hFc (fun u t H1 locs ht hvm hw hB hz1 hk1 hS => ?_)
  obtain ⟨hP1, hD1⟩ := hB
  rw [ht] at hP1
  obtain ⟨hP, hD⟩ := va_join (wr := [(o, .inr (4, [.ref F, .ref G, .int lo, .int nw, .int se, .ref (pa 0), .ref an, .ref ln])), cE x xv, (x 7, .inl (cA 0, 4, .inl f)), (ln, .inr (0, [.ref vb, .int 0, .int ml, .int (nI ct)])), (vb, .inl (cA 2, nb, .inl g))]) (w1 := []) hP hD [] [0, 1, 2, 3, 4] rfl rfl (by decide) (by decide) hk1 hFc hP1 hD1
  generalize H1 = H at hP hS ⊢
  have hP := hP.sub (ws' := [(o, .inr (4, [.ref F, .ref G, .int lo, .int nw, .int se, .ref (pa 0), .ref an, .ref ln])), cE x xv, (x 7, .inl (cA 0, 4, .inl f)), (ln, .inr (0, [.ref vb, .int 0, .int ml, .int (nI ct)])), (vb, .inl (cA 2, nb, .inl g))]) [0, 1, 2, 3, 4] rfl
  have hD := hD.sub (ws' := [(o, .inr (4, [.ref F, .ref G, .int lo, .int nw, .int se, .ref (pa 0), .ref an, .ref ln])), cE x xv, (x 7, .inl (cA 0, 4, .inl f)), (ln, .inr (0, [.ref vb, .int 0, .int ml, .int (nI ct)])), (vb, .inl (cA 2, nb, .inl g))]) [0, 1, 2, 3, 4] (by decide) rfl
  clear hPc hDc hFc hP1 hD1 hk1 hz1
  have hw_1 := hw
  refine lv_aload_n hx hb dX3_lineChar_4 rfl (lv_at hl 0 rfl) ?_
  refine lv_aload_n hx hb dX3_lineChar_5 rfl (lv_at hl 0 rfl) ?_
  refine lv_iload_n hx hb dX3_lineChar_6 rfl (lv_at hl 1 rfl) ?_
  have hPc := hP.sub (ws' := [(o, .inr (4, [.ref F, .ref G, .int lo, .int nw, .int se, .ref (pa 0), .ref an, .ref ln]))]) [0] rfl
  have hDc := hD.sub (ws' := [(o, .inr (4, [.ref F, .ref G, .int lo, .int nw, .int se, .ref (pa 0), .ref an, .ref ln]))]) [0] (by decide) rfl
  have hFc := va_free (wc := [(o, .inr (4, [.ref F, .ref G, .int lo, .int nw, .int se, .ref (pa 0), .ref an, .ref ln]))]) hD hS hA [0] rfl
  refine va_callr (va_runV (As := [.int n]) (rest := [.ref o]) ⟨hx, hb, hml, hown, hts⟩ (c_X3_endOf l D cA H.size o F G lo nw se pa an ln n (x 0) y0 (by assumption)) (cwV 1 hts gX3_lineChar_X3_endOf rfl rfl rfl (by decide +kernel) ⟨Nat.le_of_ble_eq_true rfl, Nat.le_of_ble_eq_true rfl⟩) ⟨zU_blind, va_recv hK hPc (ci := 4) (q0 := 0) rfl rfl, fun U hU hW => ⟨rfl, zU_call hU hPc hW.alike hK hDc⟩⟩ rfl rfl hl.1 rfl (lv_room (Nat.le_of_ble_eq_true rfl)) dX3_lineChar_7 ⟨(Nat.zero_le _), (Nat.zero_le _)⟩) hS (fun q _ h => hFc q h) hFc (fun u ra t H1 locs ht hvm hw hB hz1 hk1 hS => ?_)
  obtain ⟨hra, hP1, hD1⟩ := hB
  rw [ht] at hP1
  subst ra
  obtain ⟨hP, hD⟩ := va_join (wr := [cE x xv, (x 7, .inl (cA 0, 4, .inl f)), (ln, .inr (0, [.ref vb, .int 0, .int ml, .int (nI ct)])), (vb, .inl (cA 2, nb, .inl g))]) (w1 := [(o, .inr (4, [.ref F, .ref G, .int lo, .int nw, .int se, .ref (pa 0), .ref an, .ref ln]))]) hP hD [0] [1, 2, 3, 4] rfl rfl (by decide) (by decide) hk1 hFc hP1 hD1
  generalize H1 = H at hP hS ⊢
  have hP := hP.sub (ws' := [(o, .inr (4, [.ref F, .ref G, .int lo, .int nw, .int se, .ref (pa 0), .ref an, .ref ln])), cE x xv, (x 7, .inl (cA 0, 4, .inl f)), (ln, .inr (0, [.ref vb, .int 0, .int ml, .int (nI ct)])), (vb, .inl (cA 2, nb, .inl g))]) [4, 0, 1, 2, 3] rfl
  have hD := hD.sub (ws' := [(o, .inr (4, [.ref F, .ref G, .int lo, .int nw, .int se, .ref (pa 0), .ref an, .ref ln])), cE x xv, (x 7, .inl (cA 0, 4, .inl f)), (ln, .inr (0, [.ref vb, .int 0, .int ml, .int (nI ct)])), (vb, .inl (cA 2, nb, .inl g))]) [4, 0, 1, 2, 3] (by decide) rfl
  clear hPc hDc hFc hP1 hD1 hk1 hz1
  have hw_2 := hw
  have hPc := hP.sub (ws' := [(o, .inr (4, [.ref F, .ref G, .int lo, .int nw, .int se, .ref (pa 0), .ref an, .ref ln])), cE x xv, (x 7, .inl (cA 0, 4, .inl f)), (ln, .inr (0, [.ref vb, .int 0, .int ml, .int (nI ct)])), (vb, .inl (cA 2, nb, .inl g))]) [0, 1, 2, 3, 4] rfl
  have hDc := hD.sub (ws' := [(o, .inr (4, [.ref F, .ref G, .int lo, .int nw, .int se, .ref (pa 0), .ref an, .ref ln])), cE x xv, (x 7, .inl (cA 0, 4, .inl f)), (ln, .inr (0, [.ref vb, .int 0, .int ml, .int (nI ct)])), (vb, .inl (cA 2, nb, .inl g))]) [0, 1, 2, 3, 4] (by decide) rfl
  have hFc := va_free (wc := [(o, .inr (4, [.ref F, .ref G, .int lo, .int nw, .int se, .ref (pa 0), .ref an, .ref ln])), cE x xv, (x 7, .inl (cA 0, 4, .inl f)), (ln, .inr (0, [.ref vb, .int 0, .int ml, .int (nI ct)])), (vb, .inl (cA 2, nb, .inl g))]) hD hS hA [0, 1, 2, 3, 4] rfl
  refine va_callv (va_runV (As := [.ref (x 0)]) (rest := []) ⟨hx, hb, hml, hown, hts⟩ (c_X3_writeLine l D cA zv H.size o F G lo nw se pa an ln x xv k vb nb ct ml f g (by assumption) (by assumption) (by assumption) (by assumption) (by assumption) (by assumption)) (cwV 1 hts gX3_lineChar_X3_writeLine rfl rfl rfl (by decide +kernel) ⟨Nat.le_of_ble_eq_true rfl, Nat.le_of_ble_eq_true rfl⟩) ⟨zUX_blind, va_recv hK hPc (ci := 4) (q0 := 0) rfl rfl, fun U hU hW => ⟨rfl, zUX_call hE0 hX0 hS hFc hU hPc hW hK hDc⟩⟩ rfl rfl hl.1 rfl (lv_room (Nat.le_of_ble_eq_true rfl)) dX3_lineChar_10 ⟨Nat.le_of_ble_eq_true rfl, Nat.le_of_ble_eq_true rfl⟩) hS (fun q _ h => hFc q h) hFc (fun u t H1 locs ht hvm hw hB hz1 hk1 hS => ?_)
  obtain ⟨vb'_3, ml'_3, nb'_3, g'_3⟩ := u
  obtain ⟨hP1, hD1⟩ := hB
  rw [ht] at hP1
  try dsimp only at hw hP1 hD1
  obtain ⟨hP, hD⟩ := va_join (wr := []) (w1 := [(o, .inr (4, [.ref F, .ref G, .int lo, .int nw, .int se, .ref (pa 0), .ref an, .ref ln])), cE x xv, (x 7, .inl (cA 0, 4, .inl f)), (ln, .inr (0, [.ref vb'_3, .int 0, .int ml'_3, .int (nI ((lnT k f 4).length))])), (vb'_3, .inl (cA 2, nb'_3, .inl g'_3))]) hP hD [0, 1, 2, 3, 4] [] rfl rfl (by decide) (by decide) hk1 hFc hP1 hD1
  generalize H1 = H at hP hS ⊢
  have hP := hP.sub (ws' := [(o, .inr (4, [.ref F, .ref G, .int lo, .int nw, .int se, .ref (pa 0), .ref an, .ref ln])), cE x xv, (x 7, .inl (cA 0, 4, .inl f)), (ln, .inr (0, [.ref vb'_3, .int 0, .int ml'_3, .int (nI ((lnT k f 4).length))])), (vb'_3, .inl (cA 2, nb'_3, .inl g'_3))]) [0, 1, 2, 3, 4] rfl
  have hD := hD.sub (ws' := [(o, .inr (4, [.ref F, .ref G, .int lo, .int nw, .int se, .ref (pa 0), .ref an, .ref ln])), cE x xv, (x 7, .inl (cA 0, 4, .inl f)), (ln, .inr (0, [.ref vb'_3, .int 0, .int ml'_3, .int (nI ((lnT k f 4).length))])), (vb'_3, .inl (cA 2, nb'_3, .inl g'_3))]) [0, 1, 2, 3, 4] (by decide) rfl
  clear hPc hDc hFc hP1 hD1 hk1 hz1
  refine W.widen (k := 13) (n := 442) (by omega) (by omega) ?_
  have hw_3 := hw
  have hl34 := lnT_le (f := f) hk 4
  refine lv_iload_n hx hb dX3_lineChar_13 rfl (lv_at hl 2 rfl) ?_
  refine lv_if_lt (tgt := 28) hx hb dX3_lineChar_14 (by decide) (fun c_4 => ?_) (fun c_4 => ?_)
  · have c_4 := (nI_ltI (a := i) (b := 0) (by omega) (by omega)).mp c_4
    omega
  · have c_4 := mt (nI_ltI (a := i) (b := 0) (by omega) (by omega)).mpr c_4
    refine lv_iload_n hx hb dX3_lineChar_17 rfl (lv_at hl 2 rfl) ?_
    refine lv_aload_n hx hb dX3_lineChar_18 rfl (lv_at hl 0 rfl) ?_
    refine va_get (D := D) (ci := 4) (v := .ref ln) (C := RX3) (T := TX3) (N := 8) hx hb hts (fun _ h => List.mem_cons_of_mem _ (List.mem_append_left _ (List.mem_append_left _ (List.mem_append_left _ (List.mem_append_left _ (List.mem_append_right _ (h))))))) hown hK hP 0 rfl rfl 7 (by decide) (hts (.fieldLink RX3 44 "OptionWire" "line" "Ljava/lang/StringBuilder;") (List.mem_of_getElem? (i := 3) rfl)) (fun _ h9 => h9) rfl dX3_lineChar_19 ?_
    have hPc := hP.sub (ws' := [(ln, .inr (0, [.ref vb'_3, .int 0, .int ml'_3, .int (nI ((lnT k f 4).length))]))]) [3] rfl
    have hDc := hD.sub (ws' := [(ln, .inr (0, [.ref vb'_3, .int 0, .int ml'_3, .int (nI ((lnT k f 4).length))]))]) [3] (by decide) rfl
    have hFc := va_free (wc := [(ln, .inr (0, [.ref vb'_3, .int 0, .int ml'_3, .int (nI ((lnT k f 4).length))]))]) hD hS hA [3] rfl
    refine va_calli (va_runV (As := []) (rest := [.int (nI i)]) ⟨hx, hb, hml, hown, hts⟩ (c_J4_length_8abf5 l D cA H.size ln vb'_3 ml'_3 ((lnT k f 4).length)) (cwV 0 hts gX3_lineChar_J4_length_8abf5 rfl rfl rfl (by decide +kernel) ⟨Nat.le_of_ble_eq_true rfl, Nat.le_of_ble_eq_true rfl⟩) ⟨zU_blind, va_recv hK hPc (ci := 0) (q0 := 0) rfl rfl, fun U hU hW => ⟨rfl, zU_call hU hPc hW.alike hK hDc⟩⟩ rfl rfl hl.1 rfl (lv_room (Nat.le_of_ble_eq_true rfl)) dX3_lineChar_22 ⟨Nat.le_of_ble_eq_true rfl, Nat.le_of_ble_eq_true rfl⟩) hS (fun q _ h => hFc q h) hFc (fun zr u t H1 locs ht hvm hw hB hz1 hk1 hS => ?_)
    obtain ⟨hP1, hD1⟩ := hB
    rw [ht] at hP1
    obtain ⟨hP, hD⟩ := va_join (wr := [(o, .inr (4, [.ref F, .ref G, .int lo, .int nw, .int se, .ref (pa 0), .ref an, .ref ln])), cE x xv, (x 7, .inl (cA 0, 4, .inl f)), (vb'_3, .inl (cA 2, nb'_3, .inl g'_3))]) (w1 := [(ln, .inr (0, [.ref vb'_3, .int 0, .int ml'_3, .int (nI ((lnT k f 4).length))]))]) hP hD [3] [0, 1, 2, 4] rfl rfl (by decide) (by decide) hk1 hFc hP1 hD1
    generalize H1 = H at hP hS ⊢
    have hP := hP.sub (ws' := [(o, .inr (4, [.ref F, .ref G, .int lo, .int nw, .int se, .ref (pa 0), .ref an, .ref ln])), cE x xv, (x 7, .inl (cA 0, 4, .inl f)), (ln, .inr (0, [.ref vb'_3, .int 0, .int ml'_3, .int (nI ((lnT k f 4).length))])), (vb'_3, .inl (cA 2, nb'_3, .inl g'_3))]) [0, 1, 2, 4, 3] rfl
    have hD := hD.sub (ws' := [(o, .inr (4, [.ref F, .ref G, .int lo, .int nw, .int se, .ref (pa 0), .ref an, .ref ln])), cE x xv, (x 7, .inl (cA 0, 4, .inl f)), (ln, .inr (0, [.ref vb'_3, .int 0, .int ml'_3, .int (nI ((lnT k f 4).length))])), (vb'_3, .inl (cA 2, nb'_3, .inl g'_3))]) [0, 1, 2, 4, 3] (by decide) rfl
    clear hPc hDc hFc hP1 hD1 hk1 hz1
    have hw_5 := hw
    obtain rfl := hw
    refine lv_icmp_lt (tgt := 38) hx hb dX3_lineChar_25 (by decide) (fun c_6 => ?_) (fun c_6 => ?_)
    · have c_6 := (nI_ltI (a := i) (b := (lnT k f 4).length) (by omega) (by omega)).mp c_6
      have hg9 : g'_3 i = (lnT k f 4).getD i 0 := by (have q9 := hw_3.2.2.2.2 i hi; rw [Nat.zero_add] at q9; exact q9)
      have hk9 := okl_at (lnT_ok hk hok 4 (Nat.le_refl 4)) hi
      refine lv_aload_n hx hb dX3_lineChar_38 rfl (lv_at hl 0 rfl) ?_
      refine va_get (D := D) (ci := 4) (v := .ref ln) (C := RX3) (T := TX3) (N := 8) hx hb hts (fun _ h => List.mem_cons_of_mem _ (List.mem_append_left _ (List.mem_append_left _ (List.mem_append_left _ (List.mem_append_left _ (List.mem_append_right _ (h))))))) hown hK hP 0 rfl rfl 7 (by decide) (hts (.fieldLink RX3 44 "OptionWire" "line" "Ljava/lang/StringBuilder;") (List.mem_of_getElem? (i := 3) rfl)) (fun _ h9 => h9) rfl dX3_lineChar_39 ?_
      refine lv_iload_n hx hb dX3_lineChar_42 rfl (lv_at hl 2 rfl) ?_
      have hPc := hP.sub (ws' := [(ln, .inr (0, [.ref vb'_3, .int 0, .int ml'_3, .int (nI ((lnT k f 4).length))])), (vb'_3, .inl (cA 2, nb'_3, .inl g'_3))]) [3, 4] rfl
      have hDc := hD.sub (ws' := [(ln, .inr (0, [.ref vb'_3, .int 0, .int ml'_3, .int (nI ((lnT k f 4).length))])), (vb'_3, .inl (cA 2, nb'_3, .inl g'_3))]) [3, 4] (by decide) rfl
      have hFc := va_free (wc := [(ln, .inr (0, [.ref vb'_3, .int 0, .int ml'_3, .int (nI ((lnT k f 4).length))])), (vb'_3, .inl (cA 2, nb'_3, .inl g'_3))]) hD hS hA [3, 4] rfl
      refine va_calli (va_runV (As := [.int (nI i)]) (rest := []) ⟨hx, hb, hml, hown, hts⟩ (c_J4_charAt_5068e l D cA zv H.size ln vb'_3 ml'_3 ((lnT k f 4).length) nb'_3 g'_3 i hw_3.1 (by have q9 := hw_3.2.1; omega) hi (by rw [hg9]; exact hk9.1) (by rw [hg9]; exact hk9.2)) (cwV 1 hts gX3_lineChar_J4_charAt_5068e rfl rfl rfl (by decide +kernel) ⟨Nat.le_of_ble_eq_true rfl, Nat.le_of_ble_eq_true rfl⟩) ⟨zUX_blind, va_recv hK hPc (ci := 0) (q0 := 0) rfl rfl, fun U hU hW => ⟨rfl, zUX_call hE0 hX0 hS hFc hU hPc hW hK hDc⟩⟩ rfl rfl hl.1 rfl (lv_room (Nat.le_of_ble_eq_true rfl)) dX3_lineChar_43 ⟨Nat.le_of_ble_eq_true rfl, Nat.le_of_ble_eq_true rfl⟩) hS (fun q _ h => hFc q h) hFc (fun zr u t H1 locs ht hvm hw hB hz1 hk1 hS => ?_)
      obtain ⟨hP1, hD1⟩ := hB
      rw [ht] at hP1
      obtain ⟨hP, hD⟩ := va_join (wr := [(o, .inr (4, [.ref F, .ref G, .int lo, .int nw, .int se, .ref (pa 0), .ref an, .ref ln])), cE x xv, (x 7, .inl (cA 0, 4, .inl f))]) (w1 := [(ln, .inr (0, [.ref vb'_3, .int 0, .int ml'_3, .int (nI ((lnT k f 4).length))])), (vb'_3, .inl (cA 2, nb'_3, .inl g'_3))]) hP hD [3, 4] [0, 1, 2] rfl rfl (by decide) (by decide) hk1 hFc hP1 hD1
      generalize H1 = H at hP hS ⊢
      have hP := hP.sub (ws' := [(o, .inr (4, [.ref F, .ref G, .int lo, .int nw, .int se, .ref (pa 0), .ref an, .ref ln])), cE x xv, (x 7, .inl (cA 0, 4, .inl f)), (ln, .inr (0, [.ref vb'_3, .int 0, .int ml'_3, .int (nI ((lnT k f 4).length))])), (vb'_3, .inl (cA 2, nb'_3, .inl g'_3))]) [0, 1, 2, 3, 4] rfl
      have hD := hD.sub (ws' := [(o, .inr (4, [.ref F, .ref G, .int lo, .int nw, .int se, .ref (pa 0), .ref an, .ref ln])), cE x xv, (x 7, .inl (cA 0, 4, .inl f)), (ln, .inr (0, [.ref vb'_3, .int 0, .int ml'_3, .int (nI ((lnT k f 4).length))])), (vb'_3, .inl (cA 2, nb'_3, .inl g'_3))]) [0, 1, 2, 3, 4] (by decide) rfl
      clear hPc hDc hFc hP1 hD1 hk1 hz1
      have hw_7 := hw
      obtain rfl := hw
      refine z_top (y := ((lnT k f 4).getD i 0)) hg9 ?_
      refine W.widen (k := 13) (n := 442) (by omega) (by omega) ?_
      exact W.zret (v := ((lnT k f 4).getD i 0)) hx hb hr (narc hk9.1 hk9.2) (fun t ht hW => ⟨⟨(lnT k f 4).getD i 0, (vb'_3, ml'_3, nb'_3, g'_3), rfl, ⟨hw_3, rfl⟩, ⟨by rw [ht]; exact hP, by rw [hAe]; exact hD⟩⟩, hS.F ht⟩) hS.2.2 dX3_lineChar_46
    · have c_6 := mt (nI_ltI (a := i) (b := (lnT k f 4).length) (by omega) (by omega)).mpr c_6
      omega
set_option maxHeartbeats 4000000 in
set_option maxRecDepth 100000 in
theorem c_X3_lineChar_b (l : Launch) (D : va_G) (cA : Nat → ClassId) (zv : Nat → Nat) (sz : Nat) (hl0 : l.stackTraces = false) (o F G : Nat) (lo nw se : Int32) (pa : Nat → Nat) (an ln : Nat) (n q : Int32) (hbad : ¬ inr n 0 1) : vx_Met l yX3_lineChar wsX3_lineChar ({ frames := 9, cells := 1, slots := 6, locals := 120 }) (va_Pc [.ref o, .int n, .int q] (zUX D cA zv sz [(o, .inr (4, [.ref F, .ref G, .int lo, .int nw, .int se, .ref (pa 0), .ref an, .ref ln]))])) (va_Qi (fun (_ : Int32) (_ : Unit) => False) (fun (_ : Unit) _ => True) (va_A [(o, .inr (4, [.ref F, .ref G, .int lo, .int nw, .int se, .ref (pa 0), .ref an, .ref ln]))] sz)) (vx_X (fun (_ : Unit) => True) (fun E (_ : Unit) t => E = "java/lang/IllegalArgumentException" ∧ zB D [(o, .inr (4, [.ref F, .ref G, .int lo, .int nw, .int se, .ref (pa 0), .ref an, .ref ln]))] sz [(o, .inr (4, [.ref F, .ref G, .int lo, .int nw, .int se, .ref (pa 0), .ref an, .ref ln]))] t) (va_A [(o, .inr (4, [.ref F, .ref G, .int lo, .int nw, .int se, .ref (pa 0), .ref an, .ref ln]))] sz)) 1 6 (va_A [(o, .inr (4, [.ref F, .ref G, .int lo, .int nw, .int se, .ref (pa 0), .ref an, .ref ln]))] sz) := by
  refine vx_ofW (cc := cX3_lineChar) (maxL := 3) (ret := (some .char)) (by decide) rfl ?_
  intro p e s m args below meth c s₁ B hml htab hv
  obtain ⟨rfl, ⟨hsz, hP, hK, hD0, hE0⟩, hX0⟩ := hv
  have hx := B.exec
  have hb := B.bytes
  have hr := B.returns
  have hts := atoms_spec (ws := wsX3_lineChar) B.pre
  have hown : s.vm.findClass RX3 = some m.cls := findClass_of_methodNamed B.named
  have hlocks := B.notSynchronized
  subst hsz
  have hD := hD0.self (sz := s.heap.size)
  generalize hAe : va_A [(o, .inr (4, [.ref F, .ref G, .int lo, .int nw, .int se, .ref (pa 0), .ref an, .ref ln]))] s.heap.size = A at hD hE0 hX0 ⊢
  have hA : ∀ q : Nat, s.heap.size ≤ q → A q := fun q h => by rw [← hAe]; exact Or.inr h
  have hS : va_S A s.heap s.heap [] := va_S.rf
  have hl := lv_entry ([.ref o, .int n, .int q]) (n := 3) (Nat.le_of_ble_eq_true rfl)
  rw [lg_entry_eq]
  generalize (lg_sl ([.ref o, .int n, .int q]) ++ List.replicate (3 - (lg_sl ([.ref o, .int n, .int q])).length) Slot.unset).toArray = ls at hl ⊢
  have hl : lv_has ls 3 [(0, .ref o), (1, .int n), (2, .int q)] := hl
  refine lv_iload_n hx hb dX3_lineChar_0 rfl (lv_at hl 1 rfl) ?_
  have hPc := hP.sub (ws' := []) [] rfl
  have hDc := hD.sub (ws' := []) [] (by decide) rfl
  have hFc := va_free (wc := []) hD hS hA [] rfl
  refine vx_callv (vx_runS (As := [.int n]) (rest := []) ⟨hx, hb, hml, hown, hts⟩ (c_X3_checkEnd_t l D cA zv s.heap.size hl0 n hbad) (va_cwS 1 hts gX3_lineChar_X3_checkEnd rfl rfl rfl (by decide +kernel) ⟨Nat.le_of_ble_eq_true rfl, Nat.le_of_ble_eq_true rfl⟩) ⟨zUX_blind, fun U hU hW => ⟨rfl, zUX_call hE0 hX0 hS hFc hU hPc hW hK hDc⟩⟩ rfl rfl hl.1 rfl (lv_room (Nat.le_of_ble_eq_true rfl)) dX3_lineChar_1 ⟨Nat.le_of_ble_eq_true rfl, Nat.le_of_ble_eq_true rfl⟩) hS (fun q _ h => hFc q h) hFc (fun q _ h => hFc q h) (fun E9 ce9 q9 u t H1 locs ht hvm hpx hB hz1 hk1 hS hcell hcv hcl => ?_) (fun u t H1 locs1 ht hvm hw _ _ _ _ => hw.elim)
  obtain ⟨rfl, hP1, hD1⟩ := hB
  rw [ht] at hP1
  obtain ⟨hP, hD⟩ := va_join (wr := [(o, .inr (4, [.ref F, .ref G, .int lo, .int nw, .int se, .ref (pa 0), .ref an, .ref ln]))]) (w1 := []) hP hD [] [0] rfl rfl (by decide) (by decide) hk1 hFc hP1 hD1
  have hP := hP.sub (ws' := [(o, .inr (4, [.ref F, .ref G, .int lo, .int nw, .int se, .ref (pa 0), .ref an, .ref ln]))]) [0] rfl
  have hD := hD.sub (ws' := [(o, .inr (4, [.ref F, .ref G, .int lo, .int nw, .int se, .ref (pa 0), .ref an, .ref ln]))]) [0] (by decide) rfl
  exact vx_out (fun x h => (htab x h).elim) hlocks hcell hcv hcl (fun t2 h7 h8 => z_thrO hP hD hS hAe h7) hS.2.2 (by omega) (by omega)
set_option maxHeartbeats 4000000 in
set_option maxRecDepth 100000 in
theorem c_X3_lineChar_p (l : Launch) (D : va_G) (cA : Nat → ClassId) (zv : Nat → Nat) (sz : Nat) (hl0 : l.stackTraces = false) (o F G : Nat) (lo nw se : Int32) (pa : Nat → Nat) (an ln : Nat) (x : Nat → Nat) (y0 : Nat) (n : Int32) (xv : Nat → Int32) (k vb nb ct : Nat) (ml : Int32) (f g : Nat → Int32) (q : Int32) (he : en n F G (x 0) y0) (hk : k < 8) (hk0 : xv 0 = nI k) (hok : ∀ j, j < 4 → okv (f j)) (hn : nb = 16 ∨ nb = 34) (hct : ct ≤ nb) (hfb : bfit nb g) (hp : ¬ inr q 0 (nI (lnT k f 4).length - 1)) : vx_Met l yX3_lineChar wsX3_lineChar ({ frames := 8, cells := 14, slots := 448, locals := 170 }) (va_Pc [.ref o, .int n, .int q] (zUX D cA zv sz [(o, .inr (4, [.ref F, .ref G, .int lo, .int nw, .int se, .ref (pa 0), .ref an, .ref ln])), cE x xv, (x 7, .inl (cA 0, 4, .inl f)), (ln, .inr (0, [.ref vb, .int 0, .int ml, .int (nI ct)])), (vb, .inl (cA 2, nb, .inl g))])) (va_Qi (fun (_ : Int32) (_ : Unit) => False) (fun (_ : Unit) _ => True) (va_A [(o, .inr (4, [.ref F, .ref G, .int lo, .int nw, .int se, .ref (pa 0), .ref an, .ref ln])), cE x xv, (x 7, .inl (cA 0, 4, .inl f)), (ln, .inr (0, [.ref vb, .int 0, .int ml, .int (nI ct)])), (vb, .inl (cA 2, nb, .inl g))] sz)) (vx_X (fun (_ : Unit) => True) (fun E (_ : Unit) t => E = "java/util/NoSuchElementException" ∧ ∃ (vb' : Nat) (ml' : Int32) (nb' : Nat) (g' : Nat → Int32), apd nb' g' g 0 (lnT k f 4) ∧ zB D [(o, .inr (4, [.ref F, .ref G, .int lo, .int nw, .int se, .ref (pa 0), .ref an, .ref ln])), cE x xv, (x 7, .inl (cA 0, 4, .inl f)), (ln, .inr (0, [.ref vb, .int 0, .int ml, .int (nI ct)])), (vb, .inl (cA 2, nb, .inl g))] sz [(o, .inr (4, [.ref F, .ref G, .int lo, .int nw, .int se, .ref (pa 0), .ref an, .ref ln])), cE x xv, (x 7, .inl (cA 0, 4, .inl f)), (ln, .inr (0, [.ref vb', .int 0, .int ml', .int (nI ((lnT k f 4).length))])), (vb', .inl (cA 2, nb', .inl g'))] t) (va_A [(o, .inr (4, [.ref F, .ref G, .int lo, .int nw, .int se, .ref (pa 0), .ref an, .ref ln])), cE x xv, (x 7, .inl (cA 0, 4, .inl f)), (ln, .inr (0, [.ref vb, .int 0, .int ml, .int (nI ct)])), (vb, .inl (cA 2, nb, .inl g))] sz)) 14 448 (va_A [(o, .inr (4, [.ref F, .ref G, .int lo, .int nw, .int se, .ref (pa 0), .ref an, .ref ln])), cE x xv, (x 7, .inl (cA 0, 4, .inl f)), (ln, .inr (0, [.ref vb, .int 0, .int ml, .int (nI ct)])), (vb, .inl (cA 2, nb, .inl g))] sz) := by
  refine vx_ofW (cc := cX3_lineChar) (maxL := 3) (ret := (some .char)) (by decide) rfl ?_
  intro p e s m args below meth c s₁ B hml htab hv
  obtain ⟨rfl, ⟨hsz, hP, hK, hD0, hE0⟩, hX0⟩ := hv
  have hx := B.exec
  have hb := B.bytes
  have hr := B.returns
  have hts := atoms_spec (ws := wsX3_lineChar) B.pre
  have hown : s.vm.findClass RX3 = some m.cls := findClass_of_methodNamed B.named
  have hlocks := B.notSynchronized
  subst hsz
  have hD := hD0.self (sz := s.heap.size)
  generalize hAe : va_A [(o, .inr (4, [.ref F, .ref G, .int lo, .int nw, .int se, .ref (pa 0), .ref an, .ref ln])), cE x xv, (x 7, .inl (cA 0, 4, .inl f)), (ln, .inr (0, [.ref vb, .int 0, .int ml, .int (nI ct)])), (vb, .inl (cA 2, nb, .inl g))] s.heap.size = A at hD hE0 hX0 ⊢
  have hA : ∀ q : Nat, s.heap.size ≤ q → A q := fun q h => by rw [← hAe]; exact Or.inr h
  have hS : va_S A s.heap s.heap [] := va_S.rf
  have hl := lv_entry ([.ref o, .int n, .int q]) (n := 3) (Nat.le_of_ble_eq_true rfl)
  rw [lg_entry_eq]
  generalize (lg_sl ([.ref o, .int n, .int q]) ++ List.replicate (3 - (lg_sl ([.ref o, .int n, .int q])).length) Slot.unset).toArray = ls at hl ⊢
  have hl : lv_has ls 3 [(0, .ref o), (1, .int n), (2, .int q)] := hl
  refine lv_iload_n hx hb dX3_lineChar_0 rfl (lv_at hl 1 rfl) ?_
  have hPc := hP.sub (ws' := []) [] rfl
  have hDc := hD.sub (ws' := []) [] (by decide) rfl
  have hFc := va_free (wc := []) hD hS hA [] rfl
  refine va_callv (va_runS (As := [.int n]) (rest := []) ⟨hx, hb, hml, hown, hts⟩ (c_X3_checkEnd_k l D cA s.heap.size n (en_inr he)) (va_cwS 1 hts gX3_lineChar_X3_checkEnd rfl rfl rfl (by decide +kernel) ⟨Nat.le_of_ble_eq_true rfl, Nat.le_of_ble_eq_true rfl⟩) ⟨zU_blind, fun U hU hW => ⟨rfl, zU_call hU hPc hW.alike hK hDc⟩⟩ rfl rfl hl.1 rfl (lv_room (Nat.le_of_ble_eq_true rfl)) dX3_lineChar_1 ⟨(Nat.zero_le _), (Nat.zero_le _)⟩) hS (fun q _ h => hFc q h) hFc (fun u t H1 locs ht hvm hw hB hz1 hk1 hS => ?_)
  obtain ⟨hP1, hD1⟩ := hB
  rw [ht] at hP1
  obtain ⟨hP, hD⟩ := va_join (wr := [(o, .inr (4, [.ref F, .ref G, .int lo, .int nw, .int se, .ref (pa 0), .ref an, .ref ln])), cE x xv, (x 7, .inl (cA 0, 4, .inl f)), (ln, .inr (0, [.ref vb, .int 0, .int ml, .int (nI ct)])), (vb, .inl (cA 2, nb, .inl g))]) (w1 := []) hP hD [] [0, 1, 2, 3, 4] rfl rfl (by decide) (by decide) hk1 hFc hP1 hD1
  generalize H1 = H at hP hS ⊢
  have hP := hP.sub (ws' := [(o, .inr (4, [.ref F, .ref G, .int lo, .int nw, .int se, .ref (pa 0), .ref an, .ref ln])), cE x xv, (x 7, .inl (cA 0, 4, .inl f)), (ln, .inr (0, [.ref vb, .int 0, .int ml, .int (nI ct)])), (vb, .inl (cA 2, nb, .inl g))]) [0, 1, 2, 3, 4] rfl
  have hD := hD.sub (ws' := [(o, .inr (4, [.ref F, .ref G, .int lo, .int nw, .int se, .ref (pa 0), .ref an, .ref ln])), cE x xv, (x 7, .inl (cA 0, 4, .inl f)), (ln, .inr (0, [.ref vb, .int 0, .int ml, .int (nI ct)])), (vb, .inl (cA 2, nb, .inl g))]) [0, 1, 2, 3, 4] (by decide) rfl
  clear hPc hDc hFc hP1 hD1 hk1 hz1
  have hw_1 := hw
  refine lv_aload_n hx hb dX3_lineChar_4 rfl (lv_at hl 0 rfl) ?_
  refine lv_aload_n hx hb dX3_lineChar_5 rfl (lv_at hl 0 rfl) ?_
  refine lv_iload_n hx hb dX3_lineChar_6 rfl (lv_at hl 1 rfl) ?_
  have hPc := hP.sub (ws' := [(o, .inr (4, [.ref F, .ref G, .int lo, .int nw, .int se, .ref (pa 0), .ref an, .ref ln]))]) [0] rfl
  have hDc := hD.sub (ws' := [(o, .inr (4, [.ref F, .ref G, .int lo, .int nw, .int se, .ref (pa 0), .ref an, .ref ln]))]) [0] (by decide) rfl
  have hFc := va_free (wc := [(o, .inr (4, [.ref F, .ref G, .int lo, .int nw, .int se, .ref (pa 0), .ref an, .ref ln]))]) hD hS hA [0] rfl
  refine va_callr (va_runV (As := [.int n]) (rest := [.ref o]) ⟨hx, hb, hml, hown, hts⟩ (c_X3_endOf l D cA H.size o F G lo nw se pa an ln n (x 0) y0 (by assumption)) (cwV 1 hts gX3_lineChar_X3_endOf rfl rfl rfl (by decide +kernel) ⟨Nat.le_of_ble_eq_true rfl, Nat.le_of_ble_eq_true rfl⟩) ⟨zU_blind, va_recv hK hPc (ci := 4) (q0 := 0) rfl rfl, fun U hU hW => ⟨rfl, zU_call hU hPc hW.alike hK hDc⟩⟩ rfl rfl hl.1 rfl (lv_room (Nat.le_of_ble_eq_true rfl)) dX3_lineChar_7 ⟨(Nat.zero_le _), (Nat.zero_le _)⟩) hS (fun q _ h => hFc q h) hFc (fun u ra t H1 locs ht hvm hw hB hz1 hk1 hS => ?_)
  obtain ⟨hra, hP1, hD1⟩ := hB
  rw [ht] at hP1
  subst ra
  obtain ⟨hP, hD⟩ := va_join (wr := [cE x xv, (x 7, .inl (cA 0, 4, .inl f)), (ln, .inr (0, [.ref vb, .int 0, .int ml, .int (nI ct)])), (vb, .inl (cA 2, nb, .inl g))]) (w1 := [(o, .inr (4, [.ref F, .ref G, .int lo, .int nw, .int se, .ref (pa 0), .ref an, .ref ln]))]) hP hD [0] [1, 2, 3, 4] rfl rfl (by decide) (by decide) hk1 hFc hP1 hD1
  generalize H1 = H at hP hS ⊢
  have hP := hP.sub (ws' := [(o, .inr (4, [.ref F, .ref G, .int lo, .int nw, .int se, .ref (pa 0), .ref an, .ref ln])), cE x xv, (x 7, .inl (cA 0, 4, .inl f)), (ln, .inr (0, [.ref vb, .int 0, .int ml, .int (nI ct)])), (vb, .inl (cA 2, nb, .inl g))]) [4, 0, 1, 2, 3] rfl
  have hD := hD.sub (ws' := [(o, .inr (4, [.ref F, .ref G, .int lo, .int nw, .int se, .ref (pa 0), .ref an, .ref ln])), cE x xv, (x 7, .inl (cA 0, 4, .inl f)), (ln, .inr (0, [.ref vb, .int 0, .int ml, .int (nI ct)])), (vb, .inl (cA 2, nb, .inl g))]) [4, 0, 1, 2, 3] (by decide) rfl
  clear hPc hDc hFc hP1 hD1 hk1 hz1
  have hw_2 := hw
  have hPc := hP.sub (ws' := [(o, .inr (4, [.ref F, .ref G, .int lo, .int nw, .int se, .ref (pa 0), .ref an, .ref ln])), cE x xv, (x 7, .inl (cA 0, 4, .inl f)), (ln, .inr (0, [.ref vb, .int 0, .int ml, .int (nI ct)])), (vb, .inl (cA 2, nb, .inl g))]) [0, 1, 2, 3, 4] rfl
  have hDc := hD.sub (ws' := [(o, .inr (4, [.ref F, .ref G, .int lo, .int nw, .int se, .ref (pa 0), .ref an, .ref ln])), cE x xv, (x 7, .inl (cA 0, 4, .inl f)), (ln, .inr (0, [.ref vb, .int 0, .int ml, .int (nI ct)])), (vb, .inl (cA 2, nb, .inl g))]) [0, 1, 2, 3, 4] (by decide) rfl
  have hFc := va_free (wc := [(o, .inr (4, [.ref F, .ref G, .int lo, .int nw, .int se, .ref (pa 0), .ref an, .ref ln])), cE x xv, (x 7, .inl (cA 0, 4, .inl f)), (ln, .inr (0, [.ref vb, .int 0, .int ml, .int (nI ct)])), (vb, .inl (cA 2, nb, .inl g))]) hD hS hA [0, 1, 2, 3, 4] rfl
  refine va_callv (va_runV (As := [.ref (x 0)]) (rest := []) ⟨hx, hb, hml, hown, hts⟩ (c_X3_writeLine l D cA zv H.size o F G lo nw se pa an ln x xv k vb nb ct ml f g (by assumption) (by assumption) (by assumption) (by assumption) (by assumption) (by assumption)) (cwV 1 hts gX3_lineChar_X3_writeLine rfl rfl rfl (by decide +kernel) ⟨Nat.le_of_ble_eq_true rfl, Nat.le_of_ble_eq_true rfl⟩) ⟨zUX_blind, va_recv hK hPc (ci := 4) (q0 := 0) rfl rfl, fun U hU hW => ⟨rfl, zUX_call hE0 hX0 hS hFc hU hPc hW hK hDc⟩⟩ rfl rfl hl.1 rfl (lv_room (Nat.le_of_ble_eq_true rfl)) dX3_lineChar_10 ⟨Nat.le_of_ble_eq_true rfl, Nat.le_of_ble_eq_true rfl⟩) hS (fun q _ h => hFc q h) hFc (fun u t H1 locs ht hvm hw hB hz1 hk1 hS => ?_)
  obtain ⟨vb'_3, ml'_3, nb'_3, g'_3⟩ := u
  obtain ⟨hP1, hD1⟩ := hB
  rw [ht] at hP1
  try dsimp only at hw hP1 hD1
  obtain ⟨hP, hD⟩ := va_join (wr := []) (w1 := [(o, .inr (4, [.ref F, .ref G, .int lo, .int nw, .int se, .ref (pa 0), .ref an, .ref ln])), cE x xv, (x 7, .inl (cA 0, 4, .inl f)), (ln, .inr (0, [.ref vb'_3, .int 0, .int ml'_3, .int (nI ((lnT k f 4).length))])), (vb'_3, .inl (cA 2, nb'_3, .inl g'_3))]) hP hD [0, 1, 2, 3, 4] [] rfl rfl (by decide) (by decide) hk1 hFc hP1 hD1
  generalize H1 = H at hP hS ⊢
  have hP := hP.sub (ws' := [(o, .inr (4, [.ref F, .ref G, .int lo, .int nw, .int se, .ref (pa 0), .ref an, .ref ln])), cE x xv, (x 7, .inl (cA 0, 4, .inl f)), (ln, .inr (0, [.ref vb'_3, .int 0, .int ml'_3, .int (nI ((lnT k f 4).length))])), (vb'_3, .inl (cA 2, nb'_3, .inl g'_3))]) [0, 1, 2, 3, 4] rfl
  have hD := hD.sub (ws' := [(o, .inr (4, [.ref F, .ref G, .int lo, .int nw, .int se, .ref (pa 0), .ref an, .ref ln])), cE x xv, (x 7, .inl (cA 0, 4, .inl f)), (ln, .inr (0, [.ref vb'_3, .int 0, .int ml'_3, .int (nI ((lnT k f 4).length))])), (vb'_3, .inl (cA 2, nb'_3, .inl g'_3))]) [0, 1, 2, 3, 4] (by decide) rfl
  clear hPc hDc hFc hP1 hD1 hk1 hz1
  refine W.widen (k := 13) (n := 442) (by omega) (by omega) ?_
  have hw_3 := hw
  have hl34 := lnT_le (f := f) hk 4
  refine lv_iload_n hx hb dX3_lineChar_13 rfl (lv_at hl 2 rfl) ?_
  refine lv_if_lt (tgt := 28) hx hb dX3_lineChar_14 (by decide) (fun c_4 => ?_) (fun c_4 => ?_)
  · skip
    exact z_throwN (text := "the line has no such place") (ik := 175) (is := 177) (sa := zv 9) (A := A) hx hb hl0 hown (hts (.classLink RX3 175 "java/util/NoSuchElementException") (List.mem_of_getElem? (i := 1) rfl)) (hts (.initialized "java/util/NoSuchElementException") (List.mem_of_getElem? (i := 2) rfl)) (hE0.2.2.2 (177, "the line has no such place", 9) (by decide +kernel)) (vx_hat (B := Cond.castable zNs zNs :: zBd.map Cond.declares) (fun w h => hts w (List.mem_cons_of_mem _ (List.mem_append_left _ (List.mem_append_right _ (h))))) (by decide +kernel) (z_bad hX0 (by decide))) (by decide +kernel) hE0.2.1.1 hE0.2.1.2 hS (hl.1.trans hml.symm) dX3_lineChar_28 dX3_lineChar_31 dX3_lineChar_32 dX3_lineChar_34 dX3_lineChar_37 (fun x h => (htab x h).elim) (Nat.le_of_ble_eq_true rfl) (Nat.le_of_ble_eq_true rfl) (Nat.le_of_ble_eq_true rfl) (Nat.le_of_ble_eq_true rfl) hlocks (fun t h7 h8 h9 => z_thrR (fun t hz9 => ⟨vb'_3, ml'_3, nb'_3, g'_3, hw_3, hz9⟩) hP hD hS hAe h8 h9) hS.2.2 (Nat.le_of_ble_eq_true rfl) (Nat.le_of_ble_eq_true rfl)
  · skip
    refine lv_iload_n hx hb dX3_lineChar_17 rfl (lv_at hl 2 rfl) ?_
    refine lv_aload_n hx hb dX3_lineChar_18 rfl (lv_at hl 0 rfl) ?_
    refine va_get (D := D) (ci := 4) (v := .ref ln) (C := RX3) (T := TX3) (N := 8) hx hb hts (fun _ h => List.mem_cons_of_mem _ (List.mem_append_left _ (List.mem_append_left _ (List.mem_append_left _ (List.mem_append_left _ (List.mem_append_right _ (h))))))) hown hK hP 0 rfl rfl 7 (by decide) (hts (.fieldLink RX3 44 "OptionWire" "line" "Ljava/lang/StringBuilder;") (List.mem_of_getElem? (i := 3) rfl)) (fun _ h9 => h9) rfl dX3_lineChar_19 ?_
    have hPc := hP.sub (ws' := [(ln, .inr (0, [.ref vb'_3, .int 0, .int ml'_3, .int (nI ((lnT k f 4).length))]))]) [3] rfl
    have hDc := hD.sub (ws' := [(ln, .inr (0, [.ref vb'_3, .int 0, .int ml'_3, .int (nI ((lnT k f 4).length))]))]) [3] (by decide) rfl
    have hFc := va_free (wc := [(ln, .inr (0, [.ref vb'_3, .int 0, .int ml'_3, .int (nI ((lnT k f 4).length))]))]) hD hS hA [3] rfl
    refine va_calli (va_runV (As := []) (rest := [.int q]) ⟨hx, hb, hml, hown, hts⟩ (c_J4_length_8abf5 l D cA H.size ln vb'_3 ml'_3 ((lnT k f 4).length)) (cwV 0 hts gX3_lineChar_J4_length_8abf5 rfl rfl rfl (by decide +kernel) ⟨Nat.le_of_ble_eq_true rfl, Nat.le_of_ble_eq_true rfl⟩) ⟨zU_blind, va_recv hK hPc (ci := 0) (q0 := 0) rfl rfl, fun U hU hW => ⟨rfl, zU_call hU hPc hW.alike hK hDc⟩⟩ rfl rfl hl.1 rfl (lv_room (Nat.le_of_ble_eq_true rfl)) dX3_lineChar_22 ⟨Nat.le_of_ble_eq_true rfl, Nat.le_of_ble_eq_true rfl⟩) hS (fun q _ h => hFc q h) hFc (fun zr u t H1 locs ht hvm hw hB hz1 hk1 hS => ?_)
    obtain ⟨hP1, hD1⟩ := hB
    rw [ht] at hP1
    obtain ⟨hP, hD⟩ := va_join (wr := [(o, .inr (4, [.ref F, .ref G, .int lo, .int nw, .int se, .ref (pa 0), .ref an, .ref ln])), cE x xv, (x 7, .inl (cA 0, 4, .inl f)), (vb'_3, .inl (cA 2, nb'_3, .inl g'_3))]) (w1 := [(ln, .inr (0, [.ref vb'_3, .int 0, .int ml'_3, .int (nI ((lnT k f 4).length))]))]) hP hD [3] [0, 1, 2, 4] rfl rfl (by decide) (by decide) hk1 hFc hP1 hD1
    generalize H1 = H at hP hS ⊢
    have hP := hP.sub (ws' := [(o, .inr (4, [.ref F, .ref G, .int lo, .int nw, .int se, .ref (pa 0), .ref an, .ref ln])), cE x xv, (x 7, .inl (cA 0, 4, .inl f)), (ln, .inr (0, [.ref vb'_3, .int 0, .int ml'_3, .int (nI ((lnT k f 4).length))])), (vb'_3, .inl (cA 2, nb'_3, .inl g'_3))]) [0, 1, 2, 4, 3] rfl
    have hD := hD.sub (ws' := [(o, .inr (4, [.ref F, .ref G, .int lo, .int nw, .int se, .ref (pa 0), .ref an, .ref ln])), cE x xv, (x 7, .inl (cA 0, 4, .inl f)), (ln, .inr (0, [.ref vb'_3, .int 0, .int ml'_3, .int (nI ((lnT k f 4).length))])), (vb'_3, .inl (cA 2, nb'_3, .inl g'_3))]) [0, 1, 2, 4, 3] (by decide) rfl
    clear hPc hDc hFc hP1 hD1 hk1 hz1
    have hw_5 := hw
    obtain rfl := hw
    refine lv_icmp_lt (tgt := 38) hx hb dX3_lineChar_25 (by decide) (fun c_6 => ?_) (fun c_6 => ?_)
    · skip
      exact absurd (nplcL c_4 c_6 (by omega)) hp
    · skip
      exact z_throwN (text := "the line has no such place") (ik := 175) (is := 177) (sa := zv 9) (A := A) hx hb hl0 hown (hts (.classLink RX3 175 "java/util/NoSuchElementException") (List.mem_of_getElem? (i := 1) rfl)) (hts (.initialized "java/util/NoSuchElementException") (List.mem_of_getElem? (i := 2) rfl)) (hE0.2.2.2 (177, "the line has no such place", 9) (by decide +kernel)) (vx_hat (B := Cond.castable zNs zNs :: zBd.map Cond.declares) (fun w h => hts w (List.mem_cons_of_mem _ (List.mem_append_left _ (List.mem_append_right _ (h))))) (by decide +kernel) (z_bad hX0 (by decide))) (by decide +kernel) hE0.2.1.1 hE0.2.1.2 hS (hl.1.trans hml.symm) dX3_lineChar_28 dX3_lineChar_31 dX3_lineChar_32 dX3_lineChar_34 dX3_lineChar_37 (fun x h => (htab x h).elim) (Nat.le_of_ble_eq_true rfl) (Nat.le_of_ble_eq_true rfl) (Nat.le_of_ble_eq_true rfl) (Nat.le_of_ble_eq_true rfl) hlocks (fun t h7 h8 h9 => z_thrR (fun t hz9 => ⟨vb'_3, ml'_3, nb'_3, g'_3, hw_3, hz9⟩) hP hD hS hAe h8 h9) hS.2.2 (Nat.le_of_ble_eq_true rfl) (Nat.le_of_ble_eq_true rfl)
