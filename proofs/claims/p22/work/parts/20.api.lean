set_option maxHeartbeats 4000000 in
set_option maxRecDepth 100000 in
theorem c_X3_checkEnd_k (l : Launch) (D : va_G) (cA : Nat → ClassId) (sz : Nat) (n : Int32) (hn : inr n 0 1) : Met l yX3_checkEnd wsX3_checkEnd ({ frames := 0, cells := 0, slots := 0, locals := 0 }) (va_Pc [.int n] (zU D cA sz [])) (va_Qv (fun (_ : Unit) => True) (fun (_ : Unit) t => zB D [] sz [] t) (va_A [] sz)) 0 0 (va_A [] sz) := by
  refine Met.ofW (cc := cX3_checkEnd) (maxL := 1) (ret := none) (by decide) rfl ?_
  intro p e s m args below meth c s₁ B hml hv
  obtain ⟨rfl, hsz, hP, hK, hD0⟩ := hv
  have hx := B.exec
  have hb := B.bytes
  have hr := B.returns
  have hts := atoms_spec (ws := wsX3_checkEnd) B.pre
  have hown : s.vm.findClass RX3 = some m.cls := findClass_of_methodNamed B.named
  have hlocks := B.notSynchronized
  subst hsz
  have hD := hD0.self (sz := s.heap.size)
  generalize hAe : va_A [] s.heap.size = A at hD ⊢
  have hA : ∀ q : Nat, s.heap.size ≤ q → A q := fun q h => by rw [← hAe]; exact Or.inr h
  have hS : va_S A s.heap s.heap [] := va_S.rf
  have hl := lv_entry ([.int n]) (n := 1) (Nat.le_of_ble_eq_true rfl)
  rw [lg_entry_eq]
  generalize (lg_sl ([.int n]) ++ List.replicate (1 - (lg_sl ([.int n])).length) Slot.unset).toArray = ls at hl ⊢
  have hl : lv_has ls 1 [(0, .int n)] := hl
  refine lv_iload_n hx hb dX3_checkEnd_0 rfl (lv_at hl 0 rfl) ?_
  refine lv_if_lt (tgt := 9) hx hb dX3_checkEnd_1 (by decide) (fun c_1 => ?_) (fun c_1 => ?_)
  · skip
    exact absurd c_1 hn.1
  · skip
    refine lv_iload_n hx hb dX3_checkEnd_4 rfl (lv_at hl 0 rfl) ?_
    refine lv_iconst (v := 1) hx hb dX3_checkEnd_5 (by decide) ?_
    refine lv_icmp_le (tgt := 19) hx hb dX3_checkEnd_6 (by decide) (fun c_2 => ?_) (fun c_2 => ?_)
    · skip
      refine W.widen (k := 0) (n := 0) (by omega) (by omega) ?_
      exact W.vret hx hb hr (fun t ht hW => ⟨⟨(), rfl, trivial, ⟨by rw [ht]; exact hP, by rw [hAe]; exact hD⟩⟩, hS.F ht⟩) hS.2.2 dX3_checkEnd_19
    · skip
      exact absurd (Int32.not_lt.mp hn.2) c_2
set_option maxHeartbeats 4000000 in
set_option maxRecDepth 100000 in
theorem c_X3_checkEnd_t (l : Launch) (D : va_G) (cA : Nat → ClassId) (zv : Nat → Nat) (sz : Nat) (hl0 : l.stackTraces = false) (n : Int32) (hn : ¬ inr n 0 1) : vx_Met l yX3_checkEnd wsX3_checkEnd ({ frames := 8, cells := 1, slots := 6, locals := 100 }) (va_Pc [.int n] (zUX D cA zv sz [])) (va_Qv (fun (_ : Unit) => False) (fun (_ : Unit) _ => True) (va_A [] sz)) (vx_X (fun (_ : Unit) => True) (fun E (_ : Unit) t => E = "java/lang/IllegalArgumentException" ∧ zB D [] sz [] t) (va_A [] sz)) 1 6 (va_A [] sz) := by
  refine vx_ofW (cc := cX3_checkEnd) (maxL := 1) (ret := none) (by decide) rfl ?_
  intro p e s m args below meth c s₁ B hml htab hv
  obtain ⟨rfl, ⟨hsz, hP, hK, hD0, hE0⟩, hX0⟩ := hv
  have hx := B.exec
  have hb := B.bytes
  have hr := B.returns
  have hts := atoms_spec (ws := wsX3_checkEnd) B.pre
  have hown : s.vm.findClass RX3 = some m.cls := findClass_of_methodNamed B.named
  have hlocks := B.notSynchronized
  subst hsz
  have hD := hD0.self (sz := s.heap.size)
  generalize hAe : va_A [] s.heap.size = A at hD hE0 hX0 ⊢
  have hA : ∀ q : Nat, s.heap.size ≤ q → A q := fun q h => by rw [← hAe]; exact Or.inr h
  have hS : va_S A s.heap s.heap [] := va_S.rf
  have hl := lv_entry ([.int n]) (n := 1) (Nat.le_of_ble_eq_true rfl)
  rw [lg_entry_eq]
  generalize (lg_sl ([.int n]) ++ List.replicate (1 - (lg_sl ([.int n])).length) Slot.unset).toArray = ls at hl ⊢
  have hl : lv_has ls 1 [(0, .int n)] := hl
  refine lv_iload_n hx hb dX3_checkEnd_0 rfl (lv_at hl 0 rfl) ?_
  refine lv_if_lt (tgt := 9) hx hb dX3_checkEnd_1 (by decide) (fun c_1 => ?_) (fun c_1 => ?_)
  · skip
    exact vx_throwS (own := RX3) (cls := "java/lang/IllegalArgumentException") (text := "an end is 0 or 1") (names := ["java/lang/RuntimeException", "java/lang/Exception"]) (ik := 59) (is := 184) (ic := 63) (sa := zv 1) (A := A) hx hb hl0 hown (by decide +kernel) (by decide +kernel) (hts (.classLink RX3 59 "java/lang/IllegalArgumentException") (List.mem_of_getElem? (i := 1) rfl)) (hts (.initialized "java/lang/IllegalArgumentException") (List.mem_of_getElem? (i := 2) rfl)) (hE0.2.2.2 (184, "an end is 0 or 1", 1) (by decide +kernel)) (vx_hat (B := Cond.castable "java/lang/IllegalArgumentException" "java/lang/IllegalArgumentException" :: zBd.map Cond.declares) (fun w h => hts w (List.mem_cons_of_mem _ (List.mem_append_right _ (h)))) (by decide +kernel) (z_bad hX0 (by decide))) (by decide +kernel) hE0.2.1.1 hE0.2.1.2 hS (hl.1.trans hml.symm) dX3_checkEnd_9 dX3_checkEnd_12 dX3_checkEnd_13 dX3_checkEnd_15 dX3_checkEnd_18 (fun x h => (htab x h).elim) (Nat.le_of_ble_eq_true rfl) (Nat.le_of_ble_eq_true rfl) (Nat.le_of_ble_eq_true rfl) (Nat.le_of_ble_eq_true rfl) hlocks (fun t h7 h8 h9 => z_thr hP hD hS hAe h8 h9) hS.2.2 (Nat.le_of_ble_eq_true rfl) (Nat.le_of_ble_eq_true rfl)
  · skip
    refine lv_iload_n hx hb dX3_checkEnd_4 rfl (lv_at hl 0 rfl) ?_
    refine lv_iconst (v := 1) hx hb dX3_checkEnd_5 (by decide) ?_
    refine lv_icmp_le (tgt := 19) hx hb dX3_checkEnd_6 (by decide) (fun c_2 => ?_) (fun c_2 => ?_)
    · skip
      exact absurd (n01 c_1 c_2) hn
    · skip
      exact vx_throwS (own := RX3) (cls := "java/lang/IllegalArgumentException") (text := "an end is 0 or 1") (names := ["java/lang/RuntimeException", "java/lang/Exception"]) (ik := 59) (is := 184) (ic := 63) (sa := zv 1) (A := A) hx hb hl0 hown (by decide +kernel) (by decide +kernel) (hts (.classLink RX3 59 "java/lang/IllegalArgumentException") (List.mem_of_getElem? (i := 1) rfl)) (hts (.initialized "java/lang/IllegalArgumentException") (List.mem_of_getElem? (i := 2) rfl)) (hE0.2.2.2 (184, "an end is 0 or 1", 1) (by decide +kernel)) (vx_hat (B := Cond.castable "java/lang/IllegalArgumentException" "java/lang/IllegalArgumentException" :: zBd.map Cond.declares) (fun w h => hts w (List.mem_cons_of_mem _ (List.mem_append_right _ (h)))) (by decide +kernel) (z_bad hX0 (by decide))) (by decide +kernel) hE0.2.1.1 hE0.2.1.2 hS (hl.1.trans hml.symm) dX3_checkEnd_9 dX3_checkEnd_12 dX3_checkEnd_13 dX3_checkEnd_15 dX3_checkEnd_18 (fun x h => (htab x h).elim) (Nat.le_of_ble_eq_true rfl) (Nat.le_of_ble_eq_true rfl) (Nat.le_of_ble_eq_true rfl) (Nat.le_of_ble_eq_true rfl) hlocks (fun t h7 h8 h9 => z_thr hP hD hS hAe h8 h9) hS.2.2 (Nat.le_of_ble_eq_true rfl) (Nat.le_of_ble_eq_true rfl)
set_option maxHeartbeats 4000000 in
set_option maxRecDepth 100000 in
theorem c_X3_checkOption_k (l : Launch) (D : va_G) (cA : Nat → ClassId) (sz : Nat) (q : Int32) (hn : inr q 0 3) : Met l yX3_checkOption wsX3_checkOption ({ frames := 0, cells := 0, slots := 0, locals := 0 }) (va_Pc [.int q] (zU D cA sz [])) (va_Qv (fun (_ : Unit) => True) (fun (_ : Unit) t => zB D [] sz [] t) (va_A [] sz)) 0 0 (va_A [] sz) := by
  refine Met.ofW (cc := cX3_checkOption) (maxL := 1) (ret := none) (by decide) rfl ?_
  intro p e s m args below meth c s₁ B hml hv
  obtain ⟨rfl, hsz, hP, hK, hD0⟩ := hv
  have hx := B.exec
  have hb := B.bytes
  have hr := B.returns
  have hts := atoms_spec (ws := wsX3_checkOption) B.pre
  have hown : s.vm.findClass RX3 = some m.cls := findClass_of_methodNamed B.named
  have hlocks := B.notSynchronized
  subst hsz
  have hD := hD0.self (sz := s.heap.size)
  generalize hAe : va_A [] s.heap.size = A at hD ⊢
  have hA : ∀ q : Nat, s.heap.size ≤ q → A q := fun q h => by rw [← hAe]; exact Or.inr h
  have hS : va_S A s.heap s.heap [] := va_S.rf
  have hl := lv_entry ([.int q]) (n := 1) (Nat.le_of_ble_eq_true rfl)
  rw [lg_entry_eq]
  generalize (lg_sl ([.int q]) ++ List.replicate (1 - (lg_sl ([.int q])).length) Slot.unset).toArray = ls at hl ⊢
  have hl : lv_has ls 1 [(0, .int q)] := hl
  refine lv_iload_n hx hb dX3_checkOption_0 rfl (lv_at hl 0 rfl) ?_
  refine lv_if_lt (tgt := 9) hx hb dX3_checkOption_1 (by decide) (fun c_1 => ?_) (fun c_1 => ?_)
  · skip
    exact absurd c_1 hn.1
  · skip
    refine lv_iload_n hx hb dX3_checkOption_4 rfl (lv_at hl 0 rfl) ?_
    refine lv_iconst (v := 4) hx hb dX3_checkOption_5 (by decide) ?_
    refine lv_icmp_lt (tgt := 19) hx hb dX3_checkOption_6 (by decide) (fun c_2 => ?_) (fun c_2 => ?_)
    · skip
      refine W.widen (k := 0) (n := 0) (by omega) (by omega) ?_
      exact W.vret hx hb hr (fun t ht hW => ⟨⟨(), rfl, trivial, ⟨by rw [ht]; exact hP, by rw [hAe]; exact hD⟩⟩, hS.F ht⟩) hS.2.2 dX3_checkOption_19
    · skip
      exact absurd (n03' hn) c_2
set_option maxHeartbeats 4000000 in
set_option maxRecDepth 100000 in
theorem c_X3_checkOption_t (l : Launch) (D : va_G) (cA : Nat → ClassId) (zv : Nat → Nat) (sz : Nat) (hl0 : l.stackTraces = false) (q : Int32) (hn : ¬ inr q 0 3) : vx_Met l yX3_checkOption wsX3_checkOption ({ frames := 8, cells := 1, slots := 6, locals := 100 }) (va_Pc [.int q] (zUX D cA zv sz [])) (va_Qv (fun (_ : Unit) => False) (fun (_ : Unit) _ => True) (va_A [] sz)) (vx_X (fun (_ : Unit) => True) (fun E (_ : Unit) t => E = "java/lang/IllegalArgumentException" ∧ zB D [] sz [] t) (va_A [] sz)) 1 6 (va_A [] sz) := by
  refine vx_ofW (cc := cX3_checkOption) (maxL := 1) (ret := none) (by decide) rfl ?_
  intro p e s m args below meth c s₁ B hml htab hv
  obtain ⟨rfl, ⟨hsz, hP, hK, hD0, hE0⟩, hX0⟩ := hv
  have hx := B.exec
  have hb := B.bytes
  have hr := B.returns
  have hts := atoms_spec (ws := wsX3_checkOption) B.pre
  have hown : s.vm.findClass RX3 = some m.cls := findClass_of_methodNamed B.named
  have hlocks := B.notSynchronized
  subst hsz
  have hD := hD0.self (sz := s.heap.size)
  generalize hAe : va_A [] s.heap.size = A at hD hE0 hX0 ⊢
  have hA : ∀ q : Nat, s.heap.size ≤ q → A q := fun q h => by rw [← hAe]; exact Or.inr h
  have hS : va_S A s.heap s.heap [] := va_S.rf
  have hl := lv_entry ([.int q]) (n := 1) (Nat.le_of_ble_eq_true rfl)
  rw [lg_entry_eq]
  generalize (lg_sl ([.int q]) ++ List.replicate (1 - (lg_sl ([.int q])).length) Slot.unset).toArray = ls at hl ⊢
  have hl : lv_has ls 1 [(0, .int q)] := hl
  refine lv_iload_n hx hb dX3_checkOption_0 rfl (lv_at hl 0 rfl) ?_
  refine lv_if_lt (tgt := 9) hx hb dX3_checkOption_1 (by decide) (fun c_1 => ?_) (fun c_1 => ?_)
  · skip
    exact vx_throwS (own := RX3) (cls := "java/lang/IllegalArgumentException") (text := "an option is 0 to 3") (names := ["java/lang/RuntimeException", "java/lang/Exception"]) (ik := 59) (is := 186) (ic := 63) (sa := zv 2) (A := A) hx hb hl0 hown (by decide +kernel) (by decide +kernel) (hts (.classLink RX3 59 "java/lang/IllegalArgumentException") (List.mem_of_getElem? (i := 1) rfl)) (hts (.initialized "java/lang/IllegalArgumentException") (List.mem_of_getElem? (i := 2) rfl)) (hE0.2.2.2 (186, "an option is 0 to 3", 2) (by decide +kernel)) (vx_hat (B := Cond.castable "java/lang/IllegalArgumentException" "java/lang/IllegalArgumentException" :: zBd.map Cond.declares) (fun w h => hts w (List.mem_cons_of_mem _ (List.mem_append_right _ (h)))) (by decide +kernel) (z_bad hX0 (by decide))) (by decide +kernel) hE0.2.1.1 hE0.2.1.2 hS (hl.1.trans hml.symm) dX3_checkOption_9 dX3_checkOption_12 dX3_checkOption_13 dX3_checkOption_15 dX3_checkOption_18 (fun x h => (htab x h).elim) (Nat.le_of_ble_eq_true rfl) (Nat.le_of_ble_eq_true rfl) (Nat.le_of_ble_eq_true rfl) (Nat.le_of_ble_eq_true rfl) hlocks (fun t h7 h8 h9 => z_thr hP hD hS hAe h8 h9) hS.2.2 (Nat.le_of_ble_eq_true rfl) (Nat.le_of_ble_eq_true rfl)
  · skip
    refine lv_iload_n hx hb dX3_checkOption_4 rfl (lv_at hl 0 rfl) ?_
    refine lv_iconst (v := 4) hx hb dX3_checkOption_5 (by decide) ?_
    refine lv_icmp_lt (tgt := 19) hx hb dX3_checkOption_6 (by decide) (fun c_2 => ?_) (fun c_2 => ?_)
    · skip
      exact absurd (n03 c_1 c_2) hn
    · skip
      exact vx_throwS (own := RX3) (cls := "java/lang/IllegalArgumentException") (text := "an option is 0 to 3") (names := ["java/lang/RuntimeException", "java/lang/Exception"]) (ik := 59) (is := 186) (ic := 63) (sa := zv 2) (A := A) hx hb hl0 hown (by decide +kernel) (by decide +kernel) (hts (.classLink RX3 59 "java/lang/IllegalArgumentException") (List.mem_of_getElem? (i := 1) rfl)) (hts (.initialized "java/lang/IllegalArgumentException") (List.mem_of_getElem? (i := 2) rfl)) (hE0.2.2.2 (186, "an option is 0 to 3", 2) (by decide +kernel)) (vx_hat (B := Cond.castable "java/lang/IllegalArgumentException" "java/lang/IllegalArgumentException" :: zBd.map Cond.declares) (fun w h => hts w (List.mem_cons_of_mem _ (List.mem_append_right _ (h)))) (by decide +kernel) (z_bad hX0 (by decide))) (by decide +kernel) hE0.2.1.1 hE0.2.1.2 hS (hl.1.trans hml.symm) dX3_checkOption_9 dX3_checkOption_12 dX3_checkOption_13 dX3_checkOption_15 dX3_checkOption_18 (fun x h => (htab x h).elim) (Nat.le_of_ble_eq_true rfl) (Nat.le_of_ble_eq_true rfl) (Nat.le_of_ble_eq_true rfl) (Nat.le_of_ble_eq_true rfl) hlocks (fun t h7 h8 h9 => z_thr hP hD hS hAe h8 h9) hS.2.2 (Nat.le_of_ble_eq_true rfl) (Nat.le_of_ble_eq_true rfl)
set_option maxHeartbeats 4000000 in
set_option maxRecDepth 100000 in
theorem c_X3_checkRange_k (l : Launch) (D : va_G) (cA : Nat → ClassId) (sz : Nat) (le mo : Int32) (hn : sSp le mo) : Met l yX3_checkRange wsX3_checkRange ({ frames := 0, cells := 0, slots := 0, locals := 0 }) (va_Pc [.int le, .int mo] (zU D cA sz [])) (va_Qv (fun (_ : Unit) => True) (fun (_ : Unit) t => zB D [] sz [] t) (va_A [] sz)) 0 0 (va_A [] sz) := by
  refine Met.ofW (cc := cX3_checkRange) (maxL := 2) (ret := none) (by decide) rfl ?_
  intro p e s m args below meth c s₁ B hml hv
  obtain ⟨rfl, hsz, hP, hK, hD0⟩ := hv
  have hx := B.exec
  have hb := B.bytes
  have hr := B.returns
  have hts := atoms_spec (ws := wsX3_checkRange) B.pre
  have hown : s.vm.findClass RX3 = some m.cls := findClass_of_methodNamed B.named
  have hlocks := B.notSynchronized
  subst hsz
  have hD := hD0.self (sz := s.heap.size)
  generalize hAe : va_A [] s.heap.size = A at hD ⊢
  have hA : ∀ q : Nat, s.heap.size ≤ q → A q := fun q h => by rw [← hAe]; exact Or.inr h
  have hS : va_S A s.heap s.heap [] := va_S.rf
  have hl := lv_entry ([.int le, .int mo]) (n := 2) (Nat.le_of_ble_eq_true rfl)
  rw [lg_entry_eq]
  generalize (lg_sl ([.int le, .int mo]) ++ List.replicate (2 - (lg_sl ([.int le, .int mo])).length) Slot.unset).toArray = ls at hl ⊢
  have hl : lv_has ls 2 [(0, .int le), (1, .int mo)] := hl
  refine lv_iload_n hx hb dX3_checkRange_0 rfl (lv_at hl 0 rfl) ?_
  refine lv_if_lt (tgt := 15) hx hb dX3_checkRange_1 (by decide) (fun c_1 => ?_) (fun c_1 => ?_)
  · skip
    exact absurd c_1 hn.1.1
  · skip
    refine lv_iload_n hx hb dX3_checkRange_4 rfl (lv_at hl 1 rfl) ?_
    refine lv_iload_n hx hb dX3_checkRange_5 rfl (lv_at hl 0 rfl) ?_
    refine lv_icmp_lt (tgt := 15) hx hb dX3_checkRange_6 (by decide) (fun c_2 => ?_) (fun c_2 => ?_)
    · skip
      exact absurd c_2 hn.2.1
    · skip
      refine lv_iload_n hx hb dX3_checkRange_9 rfl (lv_at hl 1 rfl) ?_
      refine lv_bipush (v := 100) hx hb dX3_checkRange_10 (by decide) ?_
      refine lv_icmp_le (tgt := 25) hx hb dX3_checkRange_12 (by decide) (fun c_3 => ?_) (fun c_3 => ?_)
      · skip
        refine W.widen (k := 0) (n := 0) (by omega) (by omega) ?_
        exact W.vret hx hb hr (fun t ht hW => ⟨⟨(), rfl, trivial, ⟨by rw [ht]; exact hP, by rw [hAe]; exact hD⟩⟩, hS.F ht⟩) hS.2.2 dX3_checkRange_25
      · skip
        exact absurd (Int32.not_lt.mp hn.2.2) c_3
set_option maxHeartbeats 4000000 in
set_option maxRecDepth 100000 in
theorem c_X3_checkRange_t (l : Launch) (D : va_G) (cA : Nat → ClassId) (zv : Nat → Nat) (sz : Nat) (hl0 : l.stackTraces = false) (le mo : Int32) (hn : ¬ sSp le mo) : vx_Met l yX3_checkRange wsX3_checkRange ({ frames := 8, cells := 1, slots := 6, locals := 100 }) (va_Pc [.int le, .int mo] (zUX D cA zv sz [])) (va_Qv (fun (_ : Unit) => False) (fun (_ : Unit) _ => True) (va_A [] sz)) (vx_X (fun (_ : Unit) => True) (fun E (_ : Unit) t => E = "java/lang/IllegalArgumentException" ∧ zB D [] sz [] t) (va_A [] sz)) 1 6 (va_A [] sz) := by
  refine vx_ofW (cc := cX3_checkRange) (maxL := 2) (ret := none) (by decide) rfl ?_
  intro p e s m args below meth c s₁ B hml htab hv
  obtain ⟨rfl, ⟨hsz, hP, hK, hD0, hE0⟩, hX0⟩ := hv
  have hx := B.exec
  have hb := B.bytes
  have hr := B.returns
  have hts := atoms_spec (ws := wsX3_checkRange) B.pre
  have hown : s.vm.findClass RX3 = some m.cls := findClass_of_methodNamed B.named
  have hlocks := B.notSynchronized
  subst hsz
  have hD := hD0.self (sz := s.heap.size)
  generalize hAe : va_A [] s.heap.size = A at hD hE0 hX0 ⊢
  have hA : ∀ q : Nat, s.heap.size ≤ q → A q := fun q h => by rw [← hAe]; exact Or.inr h
  have hS : va_S A s.heap s.heap [] := va_S.rf
  have hl := lv_entry ([.int le, .int mo]) (n := 2) (Nat.le_of_ble_eq_true rfl)
  rw [lg_entry_eq]
  generalize (lg_sl ([.int le, .int mo]) ++ List.replicate (2 - (lg_sl ([.int le, .int mo])).length) Slot.unset).toArray = ls at hl ⊢
  have hl : lv_has ls 2 [(0, .int le), (1, .int mo)] := hl
  refine lv_iload_n hx hb dX3_checkRange_0 rfl (lv_at hl 0 rfl) ?_
  refine lv_if_lt (tgt := 15) hx hb dX3_checkRange_1 (by decide) (fun c_1 => ?_) (fun c_1 => ?_)
  · skip
    exact vx_throwS (own := RX3) (cls := "java/lang/IllegalArgumentException") (text := "least and most are 0 to 100, most not below least") (names := ["java/lang/RuntimeException", "java/lang/Exception"]) (ik := 59) (is := 188) (ic := 63) (sa := zv 3) (A := A) hx hb hl0 hown (by decide +kernel) (by decide +kernel) (hts (.classLink RX3 59 "java/lang/IllegalArgumentException") (List.mem_of_getElem? (i := 1) rfl)) (hts (.initialized "java/lang/IllegalArgumentException") (List.mem_of_getElem? (i := 2) rfl)) (hE0.2.2.2 (188, "least and most are 0 to 100, most not below least", 3) (by decide +kernel)) (vx_hat (B := Cond.castable "java/lang/IllegalArgumentException" "java/lang/IllegalArgumentException" :: zBd.map Cond.declares) (fun w h => hts w (List.mem_cons_of_mem _ (List.mem_append_right _ (h)))) (by decide +kernel) (z_bad hX0 (by decide))) (by decide +kernel) hE0.2.1.1 hE0.2.1.2 hS (hl.1.trans hml.symm) dX3_checkRange_15 dX3_checkRange_18 dX3_checkRange_19 dX3_checkRange_21 dX3_checkRange_24 (fun x h => (htab x h).elim) (Nat.le_of_ble_eq_true rfl) (Nat.le_of_ble_eq_true rfl) (Nat.le_of_ble_eq_true rfl) (Nat.le_of_ble_eq_true rfl) hlocks (fun t h7 h8 h9 => z_thr hP hD hS hAe h8 h9) hS.2.2 (Nat.le_of_ble_eq_true rfl) (Nat.le_of_ble_eq_true rfl)
  · skip
    refine lv_iload_n hx hb dX3_checkRange_4 rfl (lv_at hl 1 rfl) ?_
    refine lv_iload_n hx hb dX3_checkRange_5 rfl (lv_at hl 0 rfl) ?_
    refine lv_icmp_lt (tgt := 15) hx hb dX3_checkRange_6 (by decide) (fun c_2 => ?_) (fun c_2 => ?_)
    · skip
      exact vx_throwS (own := RX3) (cls := "java/lang/IllegalArgumentException") (text := "least and most are 0 to 100, most not below least") (names := ["java/lang/RuntimeException", "java/lang/Exception"]) (ik := 59) (is := 188) (ic := 63) (sa := zv 3) (A := A) hx hb hl0 hown (by decide +kernel) (by decide +kernel) (hts (.classLink RX3 59 "java/lang/IllegalArgumentException") (List.mem_of_getElem? (i := 1) rfl)) (hts (.initialized "java/lang/IllegalArgumentException") (List.mem_of_getElem? (i := 2) rfl)) (hE0.2.2.2 (188, "least and most are 0 to 100, most not below least", 3) (by decide +kernel)) (vx_hat (B := Cond.castable "java/lang/IllegalArgumentException" "java/lang/IllegalArgumentException" :: zBd.map Cond.declares) (fun w h => hts w (List.mem_cons_of_mem _ (List.mem_append_right _ (h)))) (by decide +kernel) (z_bad hX0 (by decide))) (by decide +kernel) hE0.2.1.1 hE0.2.1.2 hS (hl.1.trans hml.symm) dX3_checkRange_15 dX3_checkRange_18 dX3_checkRange_19 dX3_checkRange_21 dX3_checkRange_24 (fun x h => (htab x h).elim) (Nat.le_of_ble_eq_true rfl) (Nat.le_of_ble_eq_true rfl) (Nat.le_of_ble_eq_true rfl) (Nat.le_of_ble_eq_true rfl) hlocks (fun t h7 h8 h9 => z_thr hP hD hS hAe h8 h9) hS.2.2 (Nat.le_of_ble_eq_true rfl) (Nat.le_of_ble_eq_true rfl)
    · skip
      refine lv_iload_n hx hb dX3_checkRange_9 rfl (lv_at hl 1 rfl) ?_
      refine lv_bipush (v := 100) hx hb dX3_checkRange_10 (by decide) ?_
      refine lv_icmp_le (tgt := 25) hx hb dX3_checkRange_12 (by decide) (fun c_3 => ?_) (fun c_3 => ?_)
      · skip
        exact absurd (nsp c_1 c_2 c_3) hn
      · skip
        exact vx_throwS (own := RX3) (cls := "java/lang/IllegalArgumentException") (text := "least and most are 0 to 100, most not below least") (names := ["java/lang/RuntimeException", "java/lang/Exception"]) (ik := 59) (is := 188) (ic := 63) (sa := zv 3) (A := A) hx hb hl0 hown (by decide +kernel) (by decide +kernel) (hts (.classLink RX3 59 "java/lang/IllegalArgumentException") (List.mem_of_getElem? (i := 1) rfl)) (hts (.initialized "java/lang/IllegalArgumentException") (List.mem_of_getElem? (i := 2) rfl)) (hE0.2.2.2 (188, "least and most are 0 to 100, most not below least", 3) (by decide +kernel)) (vx_hat (B := Cond.castable "java/lang/IllegalArgumentException" "java/lang/IllegalArgumentException" :: zBd.map Cond.declares) (fun w h => hts w (List.mem_cons_of_mem _ (List.mem_append_right _ (h)))) (by decide +kernel) (z_bad hX0 (by decide))) (by decide +kernel) hE0.2.1.1 hE0.2.1.2 hS (hl.1.trans hml.symm) dX3_checkRange_15 dX3_checkRange_18 dX3_checkRange_19 dX3_checkRange_21 dX3_checkRange_24 (fun x h => (htab x h).elim) (Nat.le_of_ble_eq_true rfl) (Nat.le_of_ble_eq_true rfl) (Nat.le_of_ble_eq_true rfl) (Nat.le_of_ble_eq_true rfl) hlocks (fun t h7 h8 h9 => z_thr hP hD hS hAe h8 h9) hS.2.2 (Nat.le_of_ble_eq_true rfl) (Nat.le_of_ble_eq_true rfl)
set_option maxHeartbeats 4000000 in
set_option maxRecDepth 100000 in
theorem c_X3_checkShut_k (l : Launch) (D : va_G) (cA : Nat → ClassId) (sz : Nat) (a : Nat → Nat) (v : Nat → Int32) (hn : sSh (v 0)) : Met l yX3_checkShut wsX3_checkShut ({ frames := 1, cells := 0, slots := 0, locals := 20 }) (va_Pc [.ref (a 0)] (zU D cA sz [cE a v])) (va_Qv (fun (_ : Unit) => True) (fun (_ : Unit) t => zB D [cE a v] sz [cE a v] t) (va_A [cE a v] sz)) 0 0 (va_A [cE a v] sz) := by
  refine Met.ofW (cc := cX3_checkShut) (maxL := 1) (ret := none) (by decide) rfl ?_
  intro p e s m args below meth c s₁ B hml hv
  obtain ⟨rfl, hsz, hP, hK, hD0⟩ := hv
  have hx := B.exec
  have hb := B.bytes
  have hr := B.returns
  have hts := atoms_spec (ws := wsX3_checkShut) B.pre
  have hown : s.vm.findClass RX3 = some m.cls := findClass_of_methodNamed B.named
  have hlocks := B.notSynchronized
  subst hsz
  have hD := hD0.self (sz := s.heap.size)
  generalize hAe : va_A [cE a v] s.heap.size = A at hD ⊢
  have hA : ∀ q : Nat, s.heap.size ≤ q → A q := fun q h => by rw [← hAe]; exact Or.inr h
  have hS : va_S A s.heap s.heap [] := va_S.rf
  have hl := lv_entry ([.ref (a 0)]) (n := 1) (Nat.le_of_ble_eq_true rfl)
  rw [lg_entry_eq]
  generalize (lg_sl ([.ref (a 0)]) ++ List.replicate (1 - (lg_sl ([.ref (a 0)])).length) Slot.unset).toArray = ls at hl ⊢
  have hl : lv_has ls 1 [(0, .ref (a 0))] := hl
  refine lv_aload_n hx hb dX3_checkShut_0 rfl (lv_at hl 0 rfl) ?_
  have hPc := hP.sub (ws' := [cE a v]) [0] rfl
  have hDc := hD.sub (ws' := [cE a v]) [0] (by decide) rfl
  have hFc := va_free (wc := [cE a v]) hD hS hA [0] rfl
  refine va_calli (va_runV (As := []) (rest := []) ⟨hx, hb, hml, hown, hts⟩ (c_X0_isShut l D cA s.heap.size a v) (cwV 0 hts gX3_checkShut_X0_isShut rfl rfl rfl (by decide +kernel) ⟨Nat.le_of_ble_eq_true rfl, Nat.le_of_ble_eq_true rfl⟩) ⟨zU_blind, va_recv hK hPc (ci := 1) (q0 := 0) rfl rfl, fun U hU hW => ⟨rfl, zU_call hU hPc hW.alike hK hDc⟩⟩ rfl rfl hl.1 rfl (lv_room (Nat.le_of_ble_eq_true rfl)) dX3_checkShut_1 ⟨(Nat.zero_le _), (Nat.zero_le _)⟩) hS (fun q _ h => hFc q h) hFc (fun zr u t H1 locs ht hvm hw hB hz1 hk1 hS => ?_)
  obtain ⟨hP1, hD1⟩ := hB
  rw [ht] at hP1
  obtain ⟨hP, hD⟩ := va_join (wr := []) (w1 := [cE a v]) hP hD [0] [] rfl rfl (by decide) (by decide) hk1 hFc hP1 hD1
  generalize H1 = H at hP hS ⊢
  have hP := hP.sub (ws' := [cE a v]) [0] rfl
  have hD := hD.sub (ws' := [cE a v]) [0] (by decide) rfl
  clear hPc hDc hFc hP1 hD1 hk1 hz1
  have hw_1 := hw
  rcases z_bool hw with ⟨h_1, rfl⟩ | ⟨h_1, rfl⟩
  · skip
    refine lv_if_ne (tgt := 17) hx hb dX3_checkShut_4 (by decide) (fun _ => ?_) (fun c_2 => absurd c_2 (by decide))
    refine W.widen (k := 0) (n := 0) (by omega) (by omega) ?_
    exact W.vret hx hb hr (fun t ht hW => ⟨⟨(), rfl, trivial, ⟨by rw [ht]; exact hP, by rw [hAe]; exact hD⟩⟩, hS.F ht⟩) hS.2.2 dX3_checkShut_17
  · exact absurd hn h_1
set_option maxHeartbeats 4000000 in
set_option maxRecDepth 100000 in
theorem c_X3_checkShut_t (l : Launch) (D : va_G) (cA : Nat → ClassId) (zv : Nat → Nat) (sz : Nat) (hl0 : l.stackTraces = false) (a : Nat → Nat) (v : Nat → Int32) (hn : ¬ sSh (v 0)) : vx_Met l yX3_checkShut wsX3_checkShut ({ frames := 8, cells := 1, slots := 6, locals := 100 }) (va_Pc [.ref (a 0)] (zUX D cA zv sz [cE a v])) (va_Qv (fun (_ : Unit) => False) (fun (_ : Unit) _ => True) (va_A [cE a v] sz)) (vx_X (fun (_ : Unit) => True) (fun E (_ : Unit) t => E = "java/lang/IllegalStateException" ∧ zB D [cE a v] sz [cE a v] t) (va_A [cE a v] sz)) 1 6 (va_A [cE a v] sz) := by
  refine vx_ofW (cc := cX3_checkShut) (maxL := 1) (ret := none) (by decide) rfl ?_
  intro p e s m args below meth c s₁ B hml htab hv
  obtain ⟨rfl, ⟨hsz, hP, hK, hD0, hE0⟩, hX0⟩ := hv
  have hx := B.exec
  have hb := B.bytes
  have hr := B.returns
  have hts := atoms_spec (ws := wsX3_checkShut) B.pre
  have hown : s.vm.findClass RX3 = some m.cls := findClass_of_methodNamed B.named
  have hlocks := B.notSynchronized
  subst hsz
  have hD := hD0.self (sz := s.heap.size)
  generalize hAe : va_A [cE a v] s.heap.size = A at hD hE0 hX0 ⊢
  have hA : ∀ q : Nat, s.heap.size ≤ q → A q := fun q h => by rw [← hAe]; exact Or.inr h
  have hS : va_S A s.heap s.heap [] := va_S.rf
  have hl := lv_entry ([.ref (a 0)]) (n := 1) (Nat.le_of_ble_eq_true rfl)
  rw [lg_entry_eq]
  generalize (lg_sl ([.ref (a 0)]) ++ List.replicate (1 - (lg_sl ([.ref (a 0)])).length) Slot.unset).toArray = ls at hl ⊢
  have hl : lv_has ls 1 [(0, .ref (a 0))] := hl
  refine lv_aload_n hx hb dX3_checkShut_0 rfl (lv_at hl 0 rfl) ?_
  have hPc := hP.sub (ws' := [cE a v]) [0] rfl
  have hDc := hD.sub (ws' := [cE a v]) [0] (by decide) rfl
  have hFc := va_free (wc := [cE a v]) hD hS hA [0] rfl
  refine va_calli (va_runV (As := []) (rest := []) ⟨hx, hb, hml, hown, hts⟩ (c_X0_isShut l D cA s.heap.size a v) (cwV 0 hts gX3_checkShut_X0_isShut rfl rfl rfl (by decide +kernel) ⟨Nat.le_of_ble_eq_true rfl, Nat.le_of_ble_eq_true rfl⟩) ⟨zU_blind, va_recv hK hPc (ci := 1) (q0 := 0) rfl rfl, fun U hU hW => ⟨rfl, zU_call hU hPc hW.alike hK hDc⟩⟩ rfl rfl hl.1 rfl (lv_room (Nat.le_of_ble_eq_true rfl)) dX3_checkShut_1 ⟨(Nat.zero_le _), (Nat.zero_le _)⟩) hS (fun q _ h => hFc q h) hFc (fun zr u t H1 locs ht hvm hw hB hz1 hk1 hS => ?_)
  obtain ⟨hP1, hD1⟩ := hB
  rw [ht] at hP1
  obtain ⟨hP, hD⟩ := va_join (wr := []) (w1 := [cE a v]) hP hD [0] [] rfl rfl (by decide) (by decide) hk1 hFc hP1 hD1
  generalize H1 = H at hP hS ⊢
  have hP := hP.sub (ws' := [cE a v]) [0] rfl
  have hD := hD.sub (ws' := [cE a v]) [0] (by decide) rfl
  clear hPc hDc hFc hP1 hD1 hk1 hz1
  have hw_1 := hw
  rcases z_bool hw with ⟨h_1, rfl⟩ | ⟨h_1, rfl⟩
  · exact absurd h_1 hn
  · skip
    refine lv_if_ne (tgt := 17) hx hb dX3_checkShut_4 (by decide) (fun c_2 => absurd c_2 (by decide)) (fun _ => ?_)
    exact vx_throwS (own := RX3) (cls := "java/lang/IllegalStateException") (text := "the end is not shut") (names := ["java/lang/RuntimeException", "java/lang/Exception"]) (ik := 121) (is := 193) (ic := 125) (sa := zv 5) (A := A) hx hb hl0 hown (by decide +kernel) (by decide +kernel) (hts (.classLink RX3 121 "java/lang/IllegalStateException") (List.mem_of_getElem? (i := 1) rfl)) (hts (.initialized "java/lang/IllegalStateException") (List.mem_of_getElem? (i := 2) rfl)) (hE0.2.2.2 (193, "the end is not shut", 5) (by decide +kernel)) (vx_hat (B := Cond.castable "java/lang/IllegalStateException" "java/lang/IllegalStateException" :: zBd.map Cond.declares) (fun w h => hts w (List.mem_cons_of_mem _ (List.mem_append_right _ (h)))) (by decide +kernel) (z_bad hX0 (by decide))) (by decide +kernel) hE0.2.1.1 hE0.2.1.2 hS (hl.1.trans hml.symm) dX3_checkShut_7 dX3_checkShut_10 dX3_checkShut_11 dX3_checkShut_13 dX3_checkShut_16 (fun x h => (htab x h).elim) (Nat.le_of_ble_eq_true rfl) (Nat.le_of_ble_eq_true rfl) (Nat.le_of_ble_eq_true rfl) (Nat.le_of_ble_eq_true rfl) hlocks (fun t h7 h8 h9 => z_thr hP hD hS hAe h8 h9) hS.2.2 (Nat.le_of_ble_eq_true rfl) (Nat.le_of_ble_eq_true rfl)
set_option maxHeartbeats 4000000 in
set_option maxRecDepth 100000 in
theorem c_X3_checkPlace_k (l : Launch) (D : va_G) (cA : Nat → ClassId) (sz : Nat) (a : Nat → Nat) (fi : Nat) (Q : Qt) (k : Nat) (hn : k < Q.1) (hq12 : Q.1 ≤ 12) : Met l yX3_checkPlace wsX3_checkPlace ({ frames := 0, cells := 0, slots := 0, locals := 0 }) (va_Pc [.ref (a 9), .int (nI k)] (zU D cA sz [(a 9, .inr (3, [.ref (a 10), .ref (a 11), .ref (a 12), .ref (a 13), .int (nI fi), .int (nI Q.1)]))])) (va_Qv (fun (_ : Unit) => True) (fun (_ : Unit) t => zB D [(a 9, .inr (3, [.ref (a 10), .ref (a 11), .ref (a 12), .ref (a 13), .int (nI fi), .int (nI Q.1)]))] sz [(a 9, .inr (3, [.ref (a 10), .ref (a 11), .ref (a 12), .ref (a 13), .int (nI fi), .int (nI Q.1)]))] t) (va_A [(a 9, .inr (3, [.ref (a 10), .ref (a 11), .ref (a 12), .ref (a 13), .int (nI fi), .int (nI Q.1)]))] sz)) 0 0 (va_A [(a 9, .inr (3, [.ref (a 10), .ref (a 11), .ref (a 12), .ref (a 13), .int (nI fi), .int (nI Q.1)]))] sz) := by
  refine Met.ofW (cc := cX3_checkPlace) (maxL := 2) (ret := none) (by decide) rfl ?_
  intro p e s m args below meth c s₁ B hml hv
  obtain ⟨rfl, hsz, hP, hK, hD0⟩ := hv
  have hx := B.exec
  have hb := B.bytes
  have hr := B.returns
  have hts := atoms_spec (ws := wsX3_checkPlace) B.pre
  have hown : s.vm.findClass RX3 = some m.cls := findClass_of_methodNamed B.named
  have hlocks := B.notSynchronized
  subst hsz
  have hD := hD0.self (sz := s.heap.size)
  generalize hAe : va_A [(a 9, .inr (3, [.ref (a 10), .ref (a 11), .ref (a 12), .ref (a 13), .int (nI fi), .int (nI Q.1)]))] s.heap.size = A at hD ⊢
  have hA : ∀ q : Nat, s.heap.size ≤ q → A q := fun q h => by rw [← hAe]; exact Or.inr h
  have hS : va_S A s.heap s.heap [] := va_S.rf
  have hl := lv_entry ([.ref (a 9), .int (nI k)]) (n := 2) (Nat.le_of_ble_eq_true rfl)
  rw [lg_entry_eq]
  generalize (lg_sl ([.ref (a 9), .int (nI k)]) ++ List.replicate (2 - (lg_sl ([.ref (a 9), .int (nI k)])).length) Slot.unset).toArray = ls at hl ⊢
  have hl : lv_has ls 2 [(0, .ref (a 9)), (1, .int (nI k))] := hl
  refine lv_iload_n hx hb dX3_checkPlace_0 rfl (lv_at hl 1 rfl) ?_
  refine lv_if_lt (tgt := 12) hx hb dX3_checkPlace_1 (by decide) (fun c_1 => ?_) (fun c_1 => ?_)
  · have c_1 := (nI_ltI (a := k) (b := 0) (by omega) (by omega)).mp c_1
    omega
  · have c_1 := mt (nI_ltI (a := k) (b := 0) (by omega) (by omega)).mpr c_1
    refine lv_iload_n hx hb dX3_checkPlace_4 rfl (lv_at hl 1 rfl) ?_
    refine lv_aload_n hx hb dX3_checkPlace_5 rfl (lv_at hl 0 rfl) ?_
    refine va_get (D := D) (ci := 3) (v := .int (nI Q.1)) (C := RX2) (T := TX2) (N := 6) hx hb hts (fun _ h => List.mem_cons_of_mem _ (List.mem_append_left _ (List.mem_append_right _ (h)))) hown hK hP 0 rfl rfl 5 (by decide) (hts (.fieldLink RX3 165 "OptionWire$PacketQueue" "count" "I") (List.mem_of_getElem? (i := 3) rfl)) (fun _ h9 => h9) rfl dX3_checkPlace_6 ?_
    refine lv_icmp_lt (tgt := 22) hx hb dX3_checkPlace_9 (by decide) (fun c_2 => ?_) (fun c_2 => ?_)
    · have c_2 := (nI_ltI (a := k) (b := Q.1) (by omega) (by omega)).mp c_2
      refine W.widen (k := 0) (n := 0) (by omega) (by omega) ?_
      exact W.vret hx hb hr (fun t ht hW => ⟨⟨(), rfl, trivial, ⟨by rw [ht]; exact hP, by rw [hAe]; exact hD⟩⟩, hS.F ht⟩) hS.2.2 dX3_checkPlace_22
    · have c_2 := mt (nI_ltI (a := k) (b := Q.1) (by omega) (by omega)).mpr c_2
      omega
set_option maxHeartbeats 4000000 in
set_option maxRecDepth 100000 in
theorem c_X3_checkPlace_t (l : Launch) (D : va_G) (cA : Nat → ClassId) (zv : Nat → Nat) (sz : Nat) (hl0 : l.stackTraces = false) (a : Nat → Nat) (fi : Nat) (Q : Qt) (q : Int32) (hn : ¬ inr q 0 (nI Q.1 - 1)) (hq12 : Q.1 ≤ 12) : vx_Met l yX3_checkPlace wsX3_checkPlace ({ frames := 8, cells := 1, slots := 6, locals := 100 }) (va_Pc [.ref (a 9), .int q] (zUX D cA zv sz [(a 9, .inr (3, [.ref (a 10), .ref (a 11), .ref (a 12), .ref (a 13), .int (nI fi), .int (nI Q.1)]))])) (va_Qv (fun (_ : Unit) => False) (fun (_ : Unit) _ => True) (va_A [(a 9, .inr (3, [.ref (a 10), .ref (a 11), .ref (a 12), .ref (a 13), .int (nI fi), .int (nI Q.1)]))] sz)) (vx_X (fun (_ : Unit) => True) (fun E (_ : Unit) t => E = "java/util/NoSuchElementException" ∧ zB D [(a 9, .inr (3, [.ref (a 10), .ref (a 11), .ref (a 12), .ref (a 13), .int (nI fi), .int (nI Q.1)]))] sz [(a 9, .inr (3, [.ref (a 10), .ref (a 11), .ref (a 12), .ref (a 13), .int (nI fi), .int (nI Q.1)]))] t) (va_A [(a 9, .inr (3, [.ref (a 10), .ref (a 11), .ref (a 12), .ref (a 13), .int (nI fi), .int (nI Q.1)]))] sz)) 1 6 (va_A [(a 9, .inr (3, [.ref (a 10), .ref (a 11), .ref (a 12), .ref (a 13), .int (nI fi), .int (nI Q.1)]))] sz) := by
  refine vx_ofW (cc := cX3_checkPlace) (maxL := 2) (ret := none) (by decide) rfl ?_
  intro p e s m args below meth c s₁ B hml htab hv
  obtain ⟨rfl, ⟨hsz, hP, hK, hD0, hE0⟩, hX0⟩ := hv
  have hx := B.exec
  have hb := B.bytes
  have hr := B.returns
  have hts := atoms_spec (ws := wsX3_checkPlace) B.pre
  have hown : s.vm.findClass RX3 = some m.cls := findClass_of_methodNamed B.named
  have hlocks := B.notSynchronized
  subst hsz
  have hD := hD0.self (sz := s.heap.size)
  generalize hAe : va_A [(a 9, .inr (3, [.ref (a 10), .ref (a 11), .ref (a 12), .ref (a 13), .int (nI fi), .int (nI Q.1)]))] s.heap.size = A at hD hE0 hX0 ⊢
  have hA : ∀ q : Nat, s.heap.size ≤ q → A q := fun q h => by rw [← hAe]; exact Or.inr h
  have hS : va_S A s.heap s.heap [] := va_S.rf
  have hl := lv_entry ([.ref (a 9), .int q]) (n := 2) (Nat.le_of_ble_eq_true rfl)
  rw [lg_entry_eq]
  generalize (lg_sl ([.ref (a 9), .int q]) ++ List.replicate (2 - (lg_sl ([.ref (a 9), .int q])).length) Slot.unset).toArray = ls at hl ⊢
  have hl : lv_has ls 2 [(0, .ref (a 9)), (1, .int q)] := hl
  refine lv_iload_n hx hb dX3_checkPlace_0 rfl (lv_at hl 1 rfl) ?_
  refine lv_if_lt (tgt := 12) hx hb dX3_checkPlace_1 (by decide) (fun c_1 => ?_) (fun c_1 => ?_)
  · skip
    exact z_throwN (text := "no packet waits there") (ik := 175) (is := 195) (sa := zv 8) (A := A) hx hb hl0 hown (hts (.classLink RX3 175 "java/util/NoSuchElementException") (List.mem_of_getElem? (i := 1) rfl)) (hts (.initialized "java/util/NoSuchElementException") (List.mem_of_getElem? (i := 2) rfl)) (hE0.2.2.2 (195, "no packet waits there", 8) (by decide +kernel)) (vx_hat (B := Cond.castable zNs zNs :: zBd.map Cond.declares) (fun w h => hts w (List.mem_cons_of_mem _ (List.mem_append_right _ (h)))) (by decide +kernel) (z_bad hX0 (by decide))) (by decide +kernel) hE0.2.1.1 hE0.2.1.2 hS (hl.1.trans hml.symm) dX3_checkPlace_12 dX3_checkPlace_15 dX3_checkPlace_16 dX3_checkPlace_18 dX3_checkPlace_21 (fun x h => (htab x h).elim) (Nat.le_of_ble_eq_true rfl) (Nat.le_of_ble_eq_true rfl) (Nat.le_of_ble_eq_true rfl) (Nat.le_of_ble_eq_true rfl) hlocks (fun t h7 h8 h9 => z_thr hP hD hS hAe h8 h9) hS.2.2 (Nat.le_of_ble_eq_true rfl) (Nat.le_of_ble_eq_true rfl)
  · skip
    refine lv_iload_n hx hb dX3_checkPlace_4 rfl (lv_at hl 1 rfl) ?_
    refine lv_aload_n hx hb dX3_checkPlace_5 rfl (lv_at hl 0 rfl) ?_
    refine va_get (D := D) (ci := 3) (v := .int (nI Q.1)) (C := RX2) (T := TX2) (N := 6) hx hb hts (fun _ h => List.mem_cons_of_mem _ (List.mem_append_left _ (List.mem_append_right _ (h)))) hown hK hP 0 rfl rfl 5 (by decide) (hts (.fieldLink RX3 165 "OptionWire$PacketQueue" "count" "I") (List.mem_of_getElem? (i := 3) rfl)) (fun _ h9 => h9) rfl dX3_checkPlace_6 ?_
    refine lv_icmp_lt (tgt := 22) hx hb dX3_checkPlace_9 (by decide) (fun c_2 => ?_) (fun c_2 => ?_)
    · skip
      exact absurd (nplc c_1 c_2 hq12) hn
    · skip
      exact z_throwN (text := "no packet waits there") (ik := 175) (is := 195) (sa := zv 8) (A := A) hx hb hl0 hown (hts (.classLink RX3 175 "java/util/NoSuchElementException") (List.mem_of_getElem? (i := 1) rfl)) (hts (.initialized "java/util/NoSuchElementException") (List.mem_of_getElem? (i := 2) rfl)) (hE0.2.2.2 (195, "no packet waits there", 8) (by decide +kernel)) (vx_hat (B := Cond.castable zNs zNs :: zBd.map Cond.declares) (fun w h => hts w (List.mem_cons_of_mem _ (List.mem_append_right _ (h)))) (by decide +kernel) (z_bad hX0 (by decide))) (by decide +kernel) hE0.2.1.1 hE0.2.1.2 hS (hl.1.trans hml.symm) dX3_checkPlace_12 dX3_checkPlace_15 dX3_checkPlace_16 dX3_checkPlace_18 dX3_checkPlace_21 (fun x h => (htab x h).elim) (Nat.le_of_ble_eq_true rfl) (Nat.le_of_ble_eq_true rfl) (Nat.le_of_ble_eq_true rfl) (Nat.le_of_ble_eq_true rfl) hlocks (fun t h7 h8 h9 => z_thr hP hD hS hAe h8 h9) hS.2.2 (Nat.le_of_ble_eq_true rfl) (Nat.le_of_ble_eq_true rfl)
set_option maxHeartbeats 4000000 in
set_option maxRecDepth 100000 in
theorem c_X3_state_k (l : Launch) (D : va_G) (cA : Nat → ClassId) (sz : Nat) (o F G : Nat) (lo nw se : Int32) (pa : Nat → Nat) (an ln : Nat) (x : Nat → Nat) (y0 : Nat) (n : Int32) (xv : Nat → Int32)  (he : en n F G (x 0) y0) : Met l yX3_state wsX3_state ({ frames := 1, cells := 0, slots := 0, locals := 21 }) (va_Pc [.ref o, .int n] (zU D cA sz [(o, .inr (4, [.ref F, .ref G, .int lo, .int nw, .int se, .ref (pa 0), .ref an, .ref ln])), cE x xv])) (va_Qi (fun (r : Int32) (_ : Unit) => r = xv 0) (fun (_ : Unit) t => zB D [(o, .inr (4, [.ref F, .ref G, .int lo, .int nw, .int se, .ref (pa 0), .ref an, .ref ln])), cE x xv] sz [(o, .inr (4, [.ref F, .ref G, .int lo, .int nw, .int se, .ref (pa 0), .ref an, .ref ln])), cE x xv] t) (va_A [(o, .inr (4, [.ref F, .ref G, .int lo, .int nw, .int se, .ref (pa 0), .ref an, .ref ln])), cE x xv] sz)) 0 0 (va_A [(o, .inr (4, [.ref F, .ref G, .int lo, .int nw, .int se, .ref (pa 0), .ref an, .ref ln])), cE x xv] sz) := by
  refine Met.ofW (cc := cX3_state) (maxL := 2) (ret := (some .int)) (by decide) rfl ?_
  intro p e s m args below meth c s₁ B hml hv
  obtain ⟨rfl, hsz, hP, hK, hD0⟩ := hv
  have hx := B.exec
  have hb := B.bytes
  have hr := B.returns
  have hts := atoms_spec (ws := wsX3_state) B.pre
  have hown : s.vm.findClass RX3 = some m.cls := findClass_of_methodNamed B.named
  have hlocks := B.notSynchronized
  subst hsz
  have hD := hD0.self (sz := s.heap.size)
  generalize hAe : va_A [(o, .inr (4, [.ref F, .ref G, .int lo, .int nw, .int se, .ref (pa 0), .ref an, .ref ln])), cE x xv] s.heap.size = A at hD ⊢
  have hA : ∀ q : Nat, s.heap.size ≤ q → A q := fun q h => by rw [← hAe]; exact Or.inr h
  have hS : va_S A s.heap s.heap [] := va_S.rf
  have hl := lv_entry ([.ref o, .int n]) (n := 2) (Nat.le_of_ble_eq_true rfl)
  rw [lg_entry_eq]
  generalize (lg_sl ([.ref o, .int n]) ++ List.replicate (2 - (lg_sl ([.ref o, .int n])).length) Slot.unset).toArray = ls at hl ⊢
  have hl : lv_has ls 2 [(0, .ref o), (1, .int n)] := hl
  refine lv_iload_n hx hb dX3_state_0 rfl (lv_at hl 1 rfl) ?_
  have hPc := hP.sub (ws' := []) [] rfl
  have hDc := hD.sub (ws' := []) [] (by decide) rfl
  have hFc := va_free (wc := []) hD hS hA [] rfl
  refine va_callv (va_runS (As := [.int n]) (rest := []) ⟨hx, hb, hml, hown, hts⟩ (c_X3_checkEnd_k l D cA s.heap.size n (en_inr he)) (va_cwS 1 hts gX3_state_X3_checkEnd rfl rfl rfl (by decide +kernel) ⟨Nat.le_of_ble_eq_true rfl, Nat.le_of_ble_eq_true rfl⟩) ⟨zU_blind, fun U hU hW => ⟨rfl, zU_call hU hPc hW.alike hK hDc⟩⟩ rfl rfl hl.1 rfl (lv_room (Nat.le_of_ble_eq_true rfl)) dX3_state_1 ⟨(Nat.zero_le _), (Nat.zero_le _)⟩) hS (fun q _ h => hFc q h) hFc (fun u t H1 locs ht hvm hw hB hz1 hk1 hS => ?_)
  obtain ⟨hP1, hD1⟩ := hB
  rw [ht] at hP1
  obtain ⟨hP, hD⟩ := va_join (wr := [(o, .inr (4, [.ref F, .ref G, .int lo, .int nw, .int se, .ref (pa 0), .ref an, .ref ln])), cE x xv]) (w1 := []) hP hD [] [0, 1] rfl rfl (by decide) (by decide) hk1 hFc hP1 hD1
  generalize H1 = H at hP hS ⊢
  have hP := hP.sub (ws' := [(o, .inr (4, [.ref F, .ref G, .int lo, .int nw, .int se, .ref (pa 0), .ref an, .ref ln])), cE x xv]) [0, 1] rfl
  have hD := hD.sub (ws' := [(o, .inr (4, [.ref F, .ref G, .int lo, .int nw, .int se, .ref (pa 0), .ref an, .ref ln])), cE x xv]) [0, 1] (by decide) rfl
  clear hPc hDc hFc hP1 hD1 hk1 hz1
  have hw_1 := hw
  refine lv_aload_n hx hb dX3_state_4 rfl (lv_at hl 0 rfl) ?_
  refine lv_iload_n hx hb dX3_state_5 rfl (lv_at hl 1 rfl) ?_
  have hPc := hP.sub (ws' := [(o, .inr (4, [.ref F, .ref G, .int lo, .int nw, .int se, .ref (pa 0), .ref an, .ref ln]))]) [0] rfl
  have hDc := hD.sub (ws' := [(o, .inr (4, [.ref F, .ref G, .int lo, .int nw, .int se, .ref (pa 0), .ref an, .ref ln]))]) [0] (by decide) rfl
  have hFc := va_free (wc := [(o, .inr (4, [.ref F, .ref G, .int lo, .int nw, .int se, .ref (pa 0), .ref an, .ref ln]))]) hD hS hA [0] rfl
  refine va_callr (va_runV (As := [.int n]) (rest := []) ⟨hx, hb, hml, hown, hts⟩ (c_X3_endOf l D cA H.size o F G lo nw se pa an ln n (x 0) y0 (by assumption)) (cwV 1 hts gX3_state_X3_endOf rfl rfl rfl (by decide +kernel) ⟨Nat.le_of_ble_eq_true rfl, Nat.le_of_ble_eq_true rfl⟩) ⟨zU_blind, va_recv hK hPc (ci := 4) (q0 := 0) rfl rfl, fun U hU hW => ⟨rfl, zU_call hU hPc hW.alike hK hDc⟩⟩ rfl rfl hl.1 rfl (lv_room (Nat.le_of_ble_eq_true rfl)) dX3_state_6 ⟨(Nat.zero_le _), (Nat.zero_le _)⟩) hS (fun q _ h => hFc q h) hFc (fun u ra t H1 locs ht hvm hw hB hz1 hk1 hS => ?_)
  obtain ⟨hra, hP1, hD1⟩ := hB
  rw [ht] at hP1
  subst ra
  obtain ⟨hP, hD⟩ := va_join (wr := [cE x xv]) (w1 := [(o, .inr (4, [.ref F, .ref G, .int lo, .int nw, .int se, .ref (pa 0), .ref an, .ref ln]))]) hP hD [0] [1] rfl rfl (by decide) (by decide) hk1 hFc hP1 hD1
  generalize H1 = H at hP hS ⊢
  have hP := hP.sub (ws' := [(o, .inr (4, [.ref F, .ref G, .int lo, .int nw, .int se, .ref (pa 0), .ref an, .ref ln])), cE x xv]) [1, 0] rfl
  have hD := hD.sub (ws' := [(o, .inr (4, [.ref F, .ref G, .int lo, .int nw, .int se, .ref (pa 0), .ref an, .ref ln])), cE x xv]) [1, 0] (by decide) rfl
  clear hPc hDc hFc hP1 hD1 hk1 hz1
  have hw_2 := hw
  refine va_get (D := D) (ci := 1) (v := .int (xv 0)) (C := RX0) (T := TX0) (N := 16) hx hb hts (fun _ h => List.mem_cons_of_mem _ (List.mem_append_left _ (List.mem_append_left _ (List.mem_append_right _ (h))))) hown hK hP 1 rfl rfl 9 (by decide) (hts (.fieldLink RX3 95 "OptionWire$End" "state" "I") (List.mem_of_getElem? (i := 1) rfl)) (fun _ h9 => h9) rfl dX3_state_9 ?_
  refine W.widen (k := 0) (n := 0) (by omega) (by omega) ?_
  exact W.iret (v := (xv 0)) hx hb hr (fun t ht hW => ⟨⟨xv 0, (), rfl, rfl, ⟨by rw [ht]; exact hP, by rw [hAe]; exact hD⟩⟩, hS.F ht⟩) hS.2.2 dX3_state_12
set_option maxHeartbeats 4000000 in
set_option maxRecDepth 100000 in
theorem c_X3_state_b (l : Launch) (D : va_G) (cA : Nat → ClassId) (zv : Nat → Nat) (sz : Nat) (hl0 : l.stackTraces = false) (o F G : Nat) (lo nw se : Int32) (pa : Nat → Nat) (an ln : Nat) (n  : Int32) (hbad : ¬ inr n 0 1) : vx_Met l yX3_state wsX3_state ({ frames := 9, cells := 1, slots := 6, locals := 120 }) (va_Pc [.ref o, .int n] (zUX D cA zv sz [(o, .inr (4, [.ref F, .ref G, .int lo, .int nw, .int se, .ref (pa 0), .ref an, .ref ln]))])) (va_Qi (fun (_ : Int32) (_ : Unit) => False) (fun (_ : Unit) _ => True) (va_A [(o, .inr (4, [.ref F, .ref G, .int lo, .int nw, .int se, .ref (pa 0), .ref an, .ref ln]))] sz)) (vx_X (fun (_ : Unit) => True) (fun E (_ : Unit) t => E = "java/lang/IllegalArgumentException" ∧ zB D [(o, .inr (4, [.ref F, .ref G, .int lo, .int nw, .int se, .ref (pa 0), .ref an, .ref ln]))] sz [(o, .inr (4, [.ref F, .ref G, .int lo, .int nw, .int se, .ref (pa 0), .ref an, .ref ln]))] t) (va_A [(o, .inr (4, [.ref F, .ref G, .int lo, .int nw, .int se, .ref (pa 0), .ref an, .ref ln]))] sz)) 1 6 (va_A [(o, .inr (4, [.ref F, .ref G, .int lo, .int nw, .int se, .ref (pa 0), .ref an, .ref ln]))] sz) := by
  refine vx_ofW (cc := cX3_state) (maxL := 2) (ret := (some .int)) (by decide) rfl ?_
  intro p e s m args below meth c s₁ B hml htab hv
  obtain ⟨rfl, ⟨hsz, hP, hK, hD0, hE0⟩, hX0⟩ := hv
  have hx := B.exec
  have hb := B.bytes
  have hr := B.returns
  have hts := atoms_spec (ws := wsX3_state) B.pre
  have hown : s.vm.findClass RX3 = some m.cls := findClass_of_methodNamed B.named
  have hlocks := B.notSynchronized
  subst hsz
  have hD := hD0.self (sz := s.heap.size)
  generalize hAe : va_A [(o, .inr (4, [.ref F, .ref G, .int lo, .int nw, .int se, .ref (pa 0), .ref an, .ref ln]))] s.heap.size = A at hD hE0 hX0 ⊢
  have hA : ∀ q : Nat, s.heap.size ≤ q → A q := fun q h => by rw [← hAe]; exact Or.inr h
  have hS : va_S A s.heap s.heap [] := va_S.rf
  have hl := lv_entry ([.ref o, .int n]) (n := 2) (Nat.le_of_ble_eq_true rfl)
  rw [lg_entry_eq]
  generalize (lg_sl ([.ref o, .int n]) ++ List.replicate (2 - (lg_sl ([.ref o, .int n])).length) Slot.unset).toArray = ls at hl ⊢
  have hl : lv_has ls 2 [(0, .ref o), (1, .int n)] := hl
  refine lv_iload_n hx hb dX3_state_0 rfl (lv_at hl 1 rfl) ?_
  have hPc := hP.sub (ws' := []) [] rfl
  have hDc := hD.sub (ws' := []) [] (by decide) rfl
  have hFc := va_free (wc := []) hD hS hA [] rfl
  refine vx_callv (vx_runS (As := [.int n]) (rest := []) ⟨hx, hb, hml, hown, hts⟩ (c_X3_checkEnd_t l D cA zv s.heap.size hl0 n hbad) (va_cwS 1 hts gX3_state_X3_checkEnd rfl rfl rfl (by decide +kernel) ⟨Nat.le_of_ble_eq_true rfl, Nat.le_of_ble_eq_true rfl⟩) ⟨zUX_blind, fun U hU hW => ⟨rfl, zUX_call hE0 hX0 hS hFc hU hPc hW hK hDc⟩⟩ rfl rfl hl.1 rfl (lv_room (Nat.le_of_ble_eq_true rfl)) dX3_state_1 ⟨Nat.le_of_ble_eq_true rfl, Nat.le_of_ble_eq_true rfl⟩) hS (fun q _ h => hFc q h) hFc (fun q _ h => hFc q h) (fun E9 ce9 q9 u t H1 locs ht hvm hpx hB hz1 hk1 hS hcell hcv hcl => ?_) (fun u t H1 locs1 ht hvm hw _ _ _ _ => hw.elim)
  obtain ⟨rfl, hP1, hD1⟩ := hB
  rw [ht] at hP1
  obtain ⟨hP, hD⟩ := va_join (wr := [(o, .inr (4, [.ref F, .ref G, .int lo, .int nw, .int se, .ref (pa 0), .ref an, .ref ln]))]) (w1 := []) hP hD [] [0] rfl rfl (by decide) (by decide) hk1 hFc hP1 hD1
  have hP := hP.sub (ws' := [(o, .inr (4, [.ref F, .ref G, .int lo, .int nw, .int se, .ref (pa 0), .ref an, .ref ln]))]) [0] rfl
  have hD := hD.sub (ws' := [(o, .inr (4, [.ref F, .ref G, .int lo, .int nw, .int se, .ref (pa 0), .ref an, .ref ln]))]) [0] (by decide) rfl
  exact vx_out (fun x h => (htab x h).elim) hlocks hcell hcv hcl (fun t2 h7 h8 => z_thrO hP hD hS hAe h7) hS.2.2 (by omega) (by omega)
set_option maxHeartbeats 4000000 in
set_option maxRecDepth 100000 in
theorem c_X3_tries_k (l : Launch) (D : va_G) (cA : Nat → ClassId) (sz : Nat) (o F G : Nat) (lo nw se : Int32) (pa : Nat → Nat) (an ln : Nat) (x : Nat → Nat) (y0 : Nat) (n : Int32) (xv : Nat → Int32)  (he : en n F G (x 0) y0) : Met l yX3_tries wsX3_tries ({ frames := 1, cells := 0, slots := 0, locals := 21 }) (va_Pc [.ref o, .int n] (zU D cA sz [(o, .inr (4, [.ref F, .ref G, .int lo, .int nw, .int se, .ref (pa 0), .ref an, .ref ln])), cE x xv])) (va_Qi (fun (r : Int32) (_ : Unit) => r = xv 3) (fun (_ : Unit) t => zB D [(o, .inr (4, [.ref F, .ref G, .int lo, .int nw, .int se, .ref (pa 0), .ref an, .ref ln])), cE x xv] sz [(o, .inr (4, [.ref F, .ref G, .int lo, .int nw, .int se, .ref (pa 0), .ref an, .ref ln])), cE x xv] t) (va_A [(o, .inr (4, [.ref F, .ref G, .int lo, .int nw, .int se, .ref (pa 0), .ref an, .ref ln])), cE x xv] sz)) 0 0 (va_A [(o, .inr (4, [.ref F, .ref G, .int lo, .int nw, .int se, .ref (pa 0), .ref an, .ref ln])), cE x xv] sz) := by
  refine Met.ofW (cc := cX3_tries) (maxL := 2) (ret := (some .int)) (by decide) rfl ?_
  intro p e s m args below meth c s₁ B hml hv
  obtain ⟨rfl, hsz, hP, hK, hD0⟩ := hv
  have hx := B.exec
  have hb := B.bytes
  have hr := B.returns
  have hts := atoms_spec (ws := wsX3_tries) B.pre
  have hown : s.vm.findClass RX3 = some m.cls := findClass_of_methodNamed B.named
  have hlocks := B.notSynchronized
  subst hsz
  have hD := hD0.self (sz := s.heap.size)
  generalize hAe : va_A [(o, .inr (4, [.ref F, .ref G, .int lo, .int nw, .int se, .ref (pa 0), .ref an, .ref ln])), cE x xv] s.heap.size = A at hD ⊢
  have hA : ∀ q : Nat, s.heap.size ≤ q → A q := fun q h => by rw [← hAe]; exact Or.inr h
  have hS : va_S A s.heap s.heap [] := va_S.rf
  have hl := lv_entry ([.ref o, .int n]) (n := 2) (Nat.le_of_ble_eq_true rfl)
  rw [lg_entry_eq]
  generalize (lg_sl ([.ref o, .int n]) ++ List.replicate (2 - (lg_sl ([.ref o, .int n])).length) Slot.unset).toArray = ls at hl ⊢
  have hl : lv_has ls 2 [(0, .ref o), (1, .int n)] := hl
  refine lv_iload_n hx hb dX3_tries_0 rfl (lv_at hl 1 rfl) ?_
  have hPc := hP.sub (ws' := []) [] rfl
  have hDc := hD.sub (ws' := []) [] (by decide) rfl
  have hFc := va_free (wc := []) hD hS hA [] rfl
  refine va_callv (va_runS (As := [.int n]) (rest := []) ⟨hx, hb, hml, hown, hts⟩ (c_X3_checkEnd_k l D cA s.heap.size n (en_inr he)) (va_cwS 1 hts gX3_tries_X3_checkEnd rfl rfl rfl (by decide +kernel) ⟨Nat.le_of_ble_eq_true rfl, Nat.le_of_ble_eq_true rfl⟩) ⟨zU_blind, fun U hU hW => ⟨rfl, zU_call hU hPc hW.alike hK hDc⟩⟩ rfl rfl hl.1 rfl (lv_room (Nat.le_of_ble_eq_true rfl)) dX3_tries_1 ⟨(Nat.zero_le _), (Nat.zero_le _)⟩) hS (fun q _ h => hFc q h) hFc (fun u t H1 locs ht hvm hw hB hz1 hk1 hS => ?_)
  obtain ⟨hP1, hD1⟩ := hB
  rw [ht] at hP1
  obtain ⟨hP, hD⟩ := va_join (wr := [(o, .inr (4, [.ref F, .ref G, .int lo, .int nw, .int se, .ref (pa 0), .ref an, .ref ln])), cE x xv]) (w1 := []) hP hD [] [0, 1] rfl rfl (by decide) (by decide) hk1 hFc hP1 hD1
  generalize H1 = H at hP hS ⊢
  have hP := hP.sub (ws' := [(o, .inr (4, [.ref F, .ref G, .int lo, .int nw, .int se, .ref (pa 0), .ref an, .ref ln])), cE x xv]) [0, 1] rfl
  have hD := hD.sub (ws' := [(o, .inr (4, [.ref F, .ref G, .int lo, .int nw, .int se, .ref (pa 0), .ref an, .ref ln])), cE x xv]) [0, 1] (by decide) rfl
  clear hPc hDc hFc hP1 hD1 hk1 hz1
  have hw_1 := hw
  refine lv_aload_n hx hb dX3_tries_4 rfl (lv_at hl 0 rfl) ?_
  refine lv_iload_n hx hb dX3_tries_5 rfl (lv_at hl 1 rfl) ?_
  have hPc := hP.sub (ws' := [(o, .inr (4, [.ref F, .ref G, .int lo, .int nw, .int se, .ref (pa 0), .ref an, .ref ln]))]) [0] rfl
  have hDc := hD.sub (ws' := [(o, .inr (4, [.ref F, .ref G, .int lo, .int nw, .int se, .ref (pa 0), .ref an, .ref ln]))]) [0] (by decide) rfl
  have hFc := va_free (wc := [(o, .inr (4, [.ref F, .ref G, .int lo, .int nw, .int se, .ref (pa 0), .ref an, .ref ln]))]) hD hS hA [0] rfl
  refine va_callr (va_runV (As := [.int n]) (rest := []) ⟨hx, hb, hml, hown, hts⟩ (c_X3_endOf l D cA H.size o F G lo nw se pa an ln n (x 0) y0 (by assumption)) (cwV 1 hts gX3_tries_X3_endOf rfl rfl rfl (by decide +kernel) ⟨Nat.le_of_ble_eq_true rfl, Nat.le_of_ble_eq_true rfl⟩) ⟨zU_blind, va_recv hK hPc (ci := 4) (q0 := 0) rfl rfl, fun U hU hW => ⟨rfl, zU_call hU hPc hW.alike hK hDc⟩⟩ rfl rfl hl.1 rfl (lv_room (Nat.le_of_ble_eq_true rfl)) dX3_tries_6 ⟨(Nat.zero_le _), (Nat.zero_le _)⟩) hS (fun q _ h => hFc q h) hFc (fun u ra t H1 locs ht hvm hw hB hz1 hk1 hS => ?_)
  obtain ⟨hra, hP1, hD1⟩ := hB
  rw [ht] at hP1
  subst ra
  obtain ⟨hP, hD⟩ := va_join (wr := [cE x xv]) (w1 := [(o, .inr (4, [.ref F, .ref G, .int lo, .int nw, .int se, .ref (pa 0), .ref an, .ref ln]))]) hP hD [0] [1] rfl rfl (by decide) (by decide) hk1 hFc hP1 hD1
  generalize H1 = H at hP hS ⊢
  have hP := hP.sub (ws' := [(o, .inr (4, [.ref F, .ref G, .int lo, .int nw, .int se, .ref (pa 0), .ref an, .ref ln])), cE x xv]) [1, 0] rfl
  have hD := hD.sub (ws' := [(o, .inr (4, [.ref F, .ref G, .int lo, .int nw, .int se, .ref (pa 0), .ref an, .ref ln])), cE x xv]) [1, 0] (by decide) rfl
  clear hPc hDc hFc hP1 hD1 hk1 hz1
  have hw_2 := hw
  refine va_get (D := D) (ci := 1) (v := .int (xv 3)) (C := RX0) (T := TX0) (N := 16) hx hb hts (fun _ h => List.mem_cons_of_mem _ (List.mem_append_left _ (List.mem_append_left _ (List.mem_append_right _ (h))))) hown hK hP 1 rfl rfl 12 (by decide) (hts (.fieldLink RX3 98 "OptionWire$End" "tries" "I") (List.mem_of_getElem? (i := 1) rfl)) (fun _ h9 => h9) rfl dX3_tries_9 ?_
  refine W.widen (k := 0) (n := 0) (by omega) (by omega) ?_
  exact W.iret (v := (xv 3)) hx hb hr (fun t ht hW => ⟨⟨xv 3, (), rfl, rfl, ⟨by rw [ht]; exact hP, by rw [hAe]; exact hD⟩⟩, hS.F ht⟩) hS.2.2 dX3_tries_12
set_option maxHeartbeats 4000000 in
set_option maxRecDepth 100000 in
theorem c_X3_tries_b (l : Launch) (D : va_G) (cA : Nat → ClassId) (zv : Nat → Nat) (sz : Nat) (hl0 : l.stackTraces = false) (o F G : Nat) (lo nw se : Int32) (pa : Nat → Nat) (an ln : Nat) (n  : Int32) (hbad : ¬ inr n 0 1) : vx_Met l yX3_tries wsX3_tries ({ frames := 9, cells := 1, slots := 6, locals := 120 }) (va_Pc [.ref o, .int n] (zUX D cA zv sz [(o, .inr (4, [.ref F, .ref G, .int lo, .int nw, .int se, .ref (pa 0), .ref an, .ref ln]))])) (va_Qi (fun (_ : Int32) (_ : Unit) => False) (fun (_ : Unit) _ => True) (va_A [(o, .inr (4, [.ref F, .ref G, .int lo, .int nw, .int se, .ref (pa 0), .ref an, .ref ln]))] sz)) (vx_X (fun (_ : Unit) => True) (fun E (_ : Unit) t => E = "java/lang/IllegalArgumentException" ∧ zB D [(o, .inr (4, [.ref F, .ref G, .int lo, .int nw, .int se, .ref (pa 0), .ref an, .ref ln]))] sz [(o, .inr (4, [.ref F, .ref G, .int lo, .int nw, .int se, .ref (pa 0), .ref an, .ref ln]))] t) (va_A [(o, .inr (4, [.ref F, .ref G, .int lo, .int nw, .int se, .ref (pa 0), .ref an, .ref ln]))] sz)) 1 6 (va_A [(o, .inr (4, [.ref F, .ref G, .int lo, .int nw, .int se, .ref (pa 0), .ref an, .ref ln]))] sz) := by
  refine vx_ofW (cc := cX3_tries) (maxL := 2) (ret := (some .int)) (by decide) rfl ?_
  intro p e s m args below meth c s₁ B hml htab hv
  obtain ⟨rfl, ⟨hsz, hP, hK, hD0, hE0⟩, hX0⟩ := hv
  have hx := B.exec
  have hb := B.bytes
  have hr := B.returns
  have hts := atoms_spec (ws := wsX3_tries) B.pre
  have hown : s.vm.findClass RX3 = some m.cls := findClass_of_methodNamed B.named
  have hlocks := B.notSynchronized
  subst hsz
  have hD := hD0.self (sz := s.heap.size)
  generalize hAe : va_A [(o, .inr (4, [.ref F, .ref G, .int lo, .int nw, .int se, .ref (pa 0), .ref an, .ref ln]))] s.heap.size = A at hD hE0 hX0 ⊢
  have hA : ∀ q : Nat, s.heap.size ≤ q → A q := fun q h => by rw [← hAe]; exact Or.inr h
  have hS : va_S A s.heap s.heap [] := va_S.rf
  have hl := lv_entry ([.ref o, .int n]) (n := 2) (Nat.le_of_ble_eq_true rfl)
  rw [lg_entry_eq]
  generalize (lg_sl ([.ref o, .int n]) ++ List.replicate (2 - (lg_sl ([.ref o, .int n])).length) Slot.unset).toArray = ls at hl ⊢
  have hl : lv_has ls 2 [(0, .ref o), (1, .int n)] := hl
  refine lv_iload_n hx hb dX3_tries_0 rfl (lv_at hl 1 rfl) ?_
  have hPc := hP.sub (ws' := []) [] rfl
  have hDc := hD.sub (ws' := []) [] (by decide) rfl
  have hFc := va_free (wc := []) hD hS hA [] rfl
  refine vx_callv (vx_runS (As := [.int n]) (rest := []) ⟨hx, hb, hml, hown, hts⟩ (c_X3_checkEnd_t l D cA zv s.heap.size hl0 n hbad) (va_cwS 1 hts gX3_tries_X3_checkEnd rfl rfl rfl (by decide +kernel) ⟨Nat.le_of_ble_eq_true rfl, Nat.le_of_ble_eq_true rfl⟩) ⟨zUX_blind, fun U hU hW => ⟨rfl, zUX_call hE0 hX0 hS hFc hU hPc hW hK hDc⟩⟩ rfl rfl hl.1 rfl (lv_room (Nat.le_of_ble_eq_true rfl)) dX3_tries_1 ⟨Nat.le_of_ble_eq_true rfl, Nat.le_of_ble_eq_true rfl⟩) hS (fun q _ h => hFc q h) hFc (fun q _ h => hFc q h) (fun E9 ce9 q9 u t H1 locs ht hvm hpx hB hz1 hk1 hS hcell hcv hcl => ?_) (fun u t H1 locs1 ht hvm hw _ _ _ _ => hw.elim)
  obtain ⟨rfl, hP1, hD1⟩ := hB
  rw [ht] at hP1
  obtain ⟨hP, hD⟩ := va_join (wr := [(o, .inr (4, [.ref F, .ref G, .int lo, .int nw, .int se, .ref (pa 0), .ref an, .ref ln]))]) (w1 := []) hP hD [] [0] rfl rfl (by decide) (by decide) hk1 hFc hP1 hD1
  have hP := hP.sub (ws' := [(o, .inr (4, [.ref F, .ref G, .int lo, .int nw, .int se, .ref (pa 0), .ref an, .ref ln]))]) [0] rfl
  have hD := hD.sub (ws' := [(o, .inr (4, [.ref F, .ref G, .int lo, .int nw, .int se, .ref (pa 0), .ref an, .ref ln]))]) [0] (by decide) rfl
  exact vx_out (fun x h => (htab x h).elim) hlocks hcell hcv hcl (fun t2 h7 h8 => z_thrO hP hD hS hAe h7) hS.2.2 (by omega) (by omega)
set_option maxHeartbeats 4000000 in
set_option maxRecDepth 100000 in
theorem c_X3_waiting_k (l : Launch) (D : va_G) (cA : Nat → ClassId) (sz : Nat) (o F G : Nat) (lo nw se : Int32) (pa : Nat → Nat) (an ln : Nat) (x : Nat → Nat) (y0 : Nat) (n : Int32) (xv : Nat → Int32) (xf : Nat) (QX : Qt) (he : en n F G (x 0) y0) : Met l yX3_waiting wsX3_waiting ({ frames := 1, cells := 0, slots := 0, locals := 21 }) (va_Pc [.ref o, .int n] (zU D cA sz [(o, .inr (4, [.ref F, .ref G, .int lo, .int nw, .int se, .ref (pa 0), .ref an, .ref ln])), cE x xv, (x 9, .inr (3, [.ref (x 10), .ref (x 11), .ref (x 12), .ref (x 13), .int (nI xf), .int (nI QX.1)]))])) (va_Qi (fun (r : Int32) (_ : Unit) => r = nI QX.1) (fun (_ : Unit) t => zB D [(o, .inr (4, [.ref F, .ref G, .int lo, .int nw, .int se, .ref (pa 0), .ref an, .ref ln])), cE x xv, (x 9, .inr (3, [.ref (x 10), .ref (x 11), .ref (x 12), .ref (x 13), .int (nI xf), .int (nI QX.1)]))] sz [(o, .inr (4, [.ref F, .ref G, .int lo, .int nw, .int se, .ref (pa 0), .ref an, .ref ln])), cE x xv, (x 9, .inr (3, [.ref (x 10), .ref (x 11), .ref (x 12), .ref (x 13), .int (nI xf), .int (nI QX.1)]))] t) (va_A [(o, .inr (4, [.ref F, .ref G, .int lo, .int nw, .int se, .ref (pa 0), .ref an, .ref ln])), cE x xv, (x 9, .inr (3, [.ref (x 10), .ref (x 11), .ref (x 12), .ref (x 13), .int (nI xf), .int (nI QX.1)]))] sz)) 0 0 (va_A [(o, .inr (4, [.ref F, .ref G, .int lo, .int nw, .int se, .ref (pa 0), .ref an, .ref ln])), cE x xv, (x 9, .inr (3, [.ref (x 10), .ref (x 11), .ref (x 12), .ref (x 13), .int (nI xf), .int (nI QX.1)]))] sz) := by
  refine Met.ofW (cc := cX3_waiting) (maxL := 2) (ret := (some .int)) (by decide) rfl ?_
  intro p e s m args below meth c s₁ B hml hv
  obtain ⟨rfl, hsz, hP, hK, hD0⟩ := hv
  have hx := B.exec
  have hb := B.bytes
  have hr := B.returns
  have hts := atoms_spec (ws := wsX3_waiting) B.pre
  have hown : s.vm.findClass RX3 = some m.cls := findClass_of_methodNamed B.named
  have hlocks := B.notSynchronized
  subst hsz
  have hD := hD0.self (sz := s.heap.size)
  generalize hAe : va_A [(o, .inr (4, [.ref F, .ref G, .int lo, .int nw, .int se, .ref (pa 0), .ref an, .ref ln])), cE x xv, (x 9, .inr (3, [.ref (x 10), .ref (x 11), .ref (x 12), .ref (x 13), .int (nI xf), .int (nI QX.1)]))] s.heap.size = A at hD ⊢
  have hA : ∀ q : Nat, s.heap.size ≤ q → A q := fun q h => by rw [← hAe]; exact Or.inr h
  have hS : va_S A s.heap s.heap [] := va_S.rf
  have hl := lv_entry ([.ref o, .int n]) (n := 2) (Nat.le_of_ble_eq_true rfl)
  rw [lg_entry_eq]
  generalize (lg_sl ([.ref o, .int n]) ++ List.replicate (2 - (lg_sl ([.ref o, .int n])).length) Slot.unset).toArray = ls at hl ⊢
  have hl : lv_has ls 2 [(0, .ref o), (1, .int n)] := hl
  refine lv_iload_n hx hb dX3_waiting_0 rfl (lv_at hl 1 rfl) ?_
  have hPc := hP.sub (ws' := []) [] rfl
  have hDc := hD.sub (ws' := []) [] (by decide) rfl
  have hFc := va_free (wc := []) hD hS hA [] rfl
  refine va_callv (va_runS (As := [.int n]) (rest := []) ⟨hx, hb, hml, hown, hts⟩ (c_X3_checkEnd_k l D cA s.heap.size n (en_inr he)) (va_cwS 1 hts gX3_waiting_X3_checkEnd rfl rfl rfl (by decide +kernel) ⟨Nat.le_of_ble_eq_true rfl, Nat.le_of_ble_eq_true rfl⟩) ⟨zU_blind, fun U hU hW => ⟨rfl, zU_call hU hPc hW.alike hK hDc⟩⟩ rfl rfl hl.1 rfl (lv_room (Nat.le_of_ble_eq_true rfl)) dX3_waiting_1 ⟨(Nat.zero_le _), (Nat.zero_le _)⟩) hS (fun q _ h => hFc q h) hFc (fun u t H1 locs ht hvm hw hB hz1 hk1 hS => ?_)
  obtain ⟨hP1, hD1⟩ := hB
  rw [ht] at hP1
  obtain ⟨hP, hD⟩ := va_join (wr := [(o, .inr (4, [.ref F, .ref G, .int lo, .int nw, .int se, .ref (pa 0), .ref an, .ref ln])), cE x xv, (x 9, .inr (3, [.ref (x 10), .ref (x 11), .ref (x 12), .ref (x 13), .int (nI xf), .int (nI QX.1)]))]) (w1 := []) hP hD [] [0, 1, 2] rfl rfl (by decide) (by decide) hk1 hFc hP1 hD1
  generalize H1 = H at hP hS ⊢
  have hP := hP.sub (ws' := [(o, .inr (4, [.ref F, .ref G, .int lo, .int nw, .int se, .ref (pa 0), .ref an, .ref ln])), cE x xv, (x 9, .inr (3, [.ref (x 10), .ref (x 11), .ref (x 12), .ref (x 13), .int (nI xf), .int (nI QX.1)]))]) [0, 1, 2] rfl
  have hD := hD.sub (ws' := [(o, .inr (4, [.ref F, .ref G, .int lo, .int nw, .int se, .ref (pa 0), .ref an, .ref ln])), cE x xv, (x 9, .inr (3, [.ref (x 10), .ref (x 11), .ref (x 12), .ref (x 13), .int (nI xf), .int (nI QX.1)]))]) [0, 1, 2] (by decide) rfl
  clear hPc hDc hFc hP1 hD1 hk1 hz1
  have hw_1 := hw
  refine lv_aload_n hx hb dX3_waiting_4 rfl (lv_at hl 0 rfl) ?_
  refine lv_iload_n hx hb dX3_waiting_5 rfl (lv_at hl 1 rfl) ?_
  have hPc := hP.sub (ws' := [(o, .inr (4, [.ref F, .ref G, .int lo, .int nw, .int se, .ref (pa 0), .ref an, .ref ln]))]) [0] rfl
  have hDc := hD.sub (ws' := [(o, .inr (4, [.ref F, .ref G, .int lo, .int nw, .int se, .ref (pa 0), .ref an, .ref ln]))]) [0] (by decide) rfl
  have hFc := va_free (wc := [(o, .inr (4, [.ref F, .ref G, .int lo, .int nw, .int se, .ref (pa 0), .ref an, .ref ln]))]) hD hS hA [0] rfl
  refine va_callr (va_runV (As := [.int n]) (rest := []) ⟨hx, hb, hml, hown, hts⟩ (c_X3_endOf l D cA H.size o F G lo nw se pa an ln n (x 0) y0 (by assumption)) (cwV 1 hts gX3_waiting_X3_endOf rfl rfl rfl (by decide +kernel) ⟨Nat.le_of_ble_eq_true rfl, Nat.le_of_ble_eq_true rfl⟩) ⟨zU_blind, va_recv hK hPc (ci := 4) (q0 := 0) rfl rfl, fun U hU hW => ⟨rfl, zU_call hU hPc hW.alike hK hDc⟩⟩ rfl rfl hl.1 rfl (lv_room (Nat.le_of_ble_eq_true rfl)) dX3_waiting_6 ⟨(Nat.zero_le _), (Nat.zero_le _)⟩) hS (fun q _ h => hFc q h) hFc (fun u ra t H1 locs ht hvm hw hB hz1 hk1 hS => ?_)
  obtain ⟨hra, hP1, hD1⟩ := hB
  rw [ht] at hP1
  subst ra
  obtain ⟨hP, hD⟩ := va_join (wr := [cE x xv, (x 9, .inr (3, [.ref (x 10), .ref (x 11), .ref (x 12), .ref (x 13), .int (nI xf), .int (nI QX.1)]))]) (w1 := [(o, .inr (4, [.ref F, .ref G, .int lo, .int nw, .int se, .ref (pa 0), .ref an, .ref ln]))]) hP hD [0] [1, 2] rfl rfl (by decide) (by decide) hk1 hFc hP1 hD1
  generalize H1 = H at hP hS ⊢
  have hP := hP.sub (ws' := [(o, .inr (4, [.ref F, .ref G, .int lo, .int nw, .int se, .ref (pa 0), .ref an, .ref ln])), cE x xv, (x 9, .inr (3, [.ref (x 10), .ref (x 11), .ref (x 12), .ref (x 13), .int (nI xf), .int (nI QX.1)]))]) [2, 0, 1] rfl
  have hD := hD.sub (ws' := [(o, .inr (4, [.ref F, .ref G, .int lo, .int nw, .int se, .ref (pa 0), .ref an, .ref ln])), cE x xv, (x 9, .inr (3, [.ref (x 10), .ref (x 11), .ref (x 12), .ref (x 13), .int (nI xf), .int (nI QX.1)]))]) [2, 0, 1] (by decide) rfl
  clear hPc hDc hFc hP1 hD1 hk1 hz1
  have hw_2 := hw
  refine va_get (D := D) (ci := 1) (v := .ref (x 9)) (C := RX0) (T := TX0) (N := 16) hx hb hts (fun _ h => List.mem_cons_of_mem _ (List.mem_append_left _ (List.mem_append_left _ (List.mem_append_left _ (List.mem_append_right _ (h)))))) hown hK hP 1 rfl rfl 8 (by decide) (hts (.fieldLink RX3 132 "OptionWire$End" "packets" "LOptionWire$PacketQueue;") (List.mem_of_getElem? (i := 1) rfl)) (fun _ h9 => h9) rfl dX3_waiting_9 ?_
  refine va_get (D := D) (ci := 3) (v := .int (nI QX.1)) (C := RX2) (T := TX2) (N := 6) hx hb hts (fun _ h => List.mem_cons_of_mem _ (List.mem_append_left _ (List.mem_append_left _ (List.mem_append_right _ (h))))) hown hK hP 2 rfl rfl 5 (by decide) (hts (.fieldLink RX3 165 "OptionWire$PacketQueue" "count" "I") (List.mem_of_getElem? (i := 2) rfl)) (fun _ h9 => h9) rfl dX3_waiting_12 ?_
  refine W.widen (k := 0) (n := 0) (by omega) (by omega) ?_
  exact W.iret (v := (nI QX.1)) hx hb hr (fun t ht hW => ⟨⟨nI QX.1, (), rfl, rfl, ⟨by rw [ht]; exact hP, by rw [hAe]; exact hD⟩⟩, hS.F ht⟩) hS.2.2 dX3_waiting_15
set_option maxHeartbeats 4000000 in
set_option maxRecDepth 100000 in
theorem c_X3_waiting_b (l : Launch) (D : va_G) (cA : Nat → ClassId) (zv : Nat → Nat) (sz : Nat) (hl0 : l.stackTraces = false) (o F G : Nat) (lo nw se : Int32) (pa : Nat → Nat) (an ln : Nat) (n  : Int32) (hbad : ¬ inr n 0 1) : vx_Met l yX3_waiting wsX3_waiting ({ frames := 9, cells := 1, slots := 6, locals := 120 }) (va_Pc [.ref o, .int n] (zUX D cA zv sz [(o, .inr (4, [.ref F, .ref G, .int lo, .int nw, .int se, .ref (pa 0), .ref an, .ref ln]))])) (va_Qi (fun (_ : Int32) (_ : Unit) => False) (fun (_ : Unit) _ => True) (va_A [(o, .inr (4, [.ref F, .ref G, .int lo, .int nw, .int se, .ref (pa 0), .ref an, .ref ln]))] sz)) (vx_X (fun (_ : Unit) => True) (fun E (_ : Unit) t => E = "java/lang/IllegalArgumentException" ∧ zB D [(o, .inr (4, [.ref F, .ref G, .int lo, .int nw, .int se, .ref (pa 0), .ref an, .ref ln]))] sz [(o, .inr (4, [.ref F, .ref G, .int lo, .int nw, .int se, .ref (pa 0), .ref an, .ref ln]))] t) (va_A [(o, .inr (4, [.ref F, .ref G, .int lo, .int nw, .int se, .ref (pa 0), .ref an, .ref ln]))] sz)) 1 6 (va_A [(o, .inr (4, [.ref F, .ref G, .int lo, .int nw, .int se, .ref (pa 0), .ref an, .ref ln]))] sz) := by
  refine vx_ofW (cc := cX3_waiting) (maxL := 2) (ret := (some .int)) (by decide) rfl ?_
  intro p e s m args below meth c s₁ B hml htab hv
  obtain ⟨rfl, ⟨hsz, hP, hK, hD0, hE0⟩, hX0⟩ := hv
  have hx := B.exec
  have hb := B.bytes
  have hr := B.returns
  have hts := atoms_spec (ws := wsX3_waiting) B.pre
  have hown : s.vm.findClass RX3 = some m.cls := findClass_of_methodNamed B.named
  have hlocks := B.notSynchronized
  subst hsz
  have hD := hD0.self (sz := s.heap.size)
  generalize hAe : va_A [(o, .inr (4, [.ref F, .ref G, .int lo, .int nw, .int se, .ref (pa 0), .ref an, .ref ln]))] s.heap.size = A at hD hE0 hX0 ⊢
  have hA : ∀ q : Nat, s.heap.size ≤ q → A q := fun q h => by rw [← hAe]; exact Or.inr h
  have hS : va_S A s.heap s.heap [] := va_S.rf
  have hl := lv_entry ([.ref o, .int n]) (n := 2) (Nat.le_of_ble_eq_true rfl)
  rw [lg_entry_eq]
  generalize (lg_sl ([.ref o, .int n]) ++ List.replicate (2 - (lg_sl ([.ref o, .int n])).length) Slot.unset).toArray = ls at hl ⊢
  have hl : lv_has ls 2 [(0, .ref o), (1, .int n)] := hl
  refine lv_iload_n hx hb dX3_waiting_0 rfl (lv_at hl 1 rfl) ?_
  have hPc := hP.sub (ws' := []) [] rfl
  have hDc := hD.sub (ws' := []) [] (by decide) rfl
  have hFc := va_free (wc := []) hD hS hA [] rfl
  refine vx_callv (vx_runS (As := [.int n]) (rest := []) ⟨hx, hb, hml, hown, hts⟩ (c_X3_checkEnd_t l D cA zv s.heap.size hl0 n hbad) (va_cwS 1 hts gX3_waiting_X3_checkEnd rfl rfl rfl (by decide +kernel) ⟨Nat.le_of_ble_eq_true rfl, Nat.le_of_ble_eq_true rfl⟩) ⟨zUX_blind, fun U hU hW => ⟨rfl, zUX_call hE0 hX0 hS hFc hU hPc hW hK hDc⟩⟩ rfl rfl hl.1 rfl (lv_room (Nat.le_of_ble_eq_true rfl)) dX3_waiting_1 ⟨Nat.le_of_ble_eq_true rfl, Nat.le_of_ble_eq_true rfl⟩) hS (fun q _ h => hFc q h) hFc (fun q _ h => hFc q h) (fun E9 ce9 q9 u t H1 locs ht hvm hpx hB hz1 hk1 hS hcell hcv hcl => ?_) (fun u t H1 locs1 ht hvm hw _ _ _ _ => hw.elim)
  obtain ⟨rfl, hP1, hD1⟩ := hB
  rw [ht] at hP1
  obtain ⟨hP, hD⟩ := va_join (wr := [(o, .inr (4, [.ref F, .ref G, .int lo, .int nw, .int se, .ref (pa 0), .ref an, .ref ln]))]) (w1 := []) hP hD [] [0] rfl rfl (by decide) (by decide) hk1 hFc hP1 hD1
  have hP := hP.sub (ws' := [(o, .inr (4, [.ref F, .ref G, .int lo, .int nw, .int se, .ref (pa 0), .ref an, .ref ln]))]) [0] rfl
  have hD := hD.sub (ws' := [(o, .inr (4, [.ref F, .ref G, .int lo, .int nw, .int se, .ref (pa 0), .ref an, .ref ln]))]) [0] (by decide) rfl
  exact vx_out (fun x h => (htab x h).elim) hlocks hcell hcv hcl (fun t2 h7 h8 => z_thrO hP hD hS hAe h7) hS.2.2 (by omega) (by omega)
set_option maxHeartbeats 4000000 in
set_option maxRecDepth 100000 in
theorem c_X3_asked_k (l : Launch) (D : va_G) (cA : Nat → ClassId) (sz : Nat) (o F G : Nat) (lo nw se : Int32) (pa : Nat → Nat) (an ln : Nat) (x : Nat → Nat) (y0 : Nat) (n : Int32) (xv : Nat → Int32) (k : Nat) (f : Nat → Int32) (he : en n F G (x 0) y0) (hk : k < 4) : Met l yX3_asked wsX3_asked ({ frames := 1, cells := 0, slots := 0, locals := 21 }) (va_Pc [.ref o, .int n, .int (nI k)] (zU D cA sz [(o, .inr (4, [.ref F, .ref G, .int lo, .int nw, .int se, .ref (pa 0), .ref an, .ref ln])), cE x xv, (x 7, .inl (cA 0, 4, .inl f))])) (va_Qi (fun (r : Int32) (_ : Unit) => r = f k) (fun (_ : Unit) t => zB D [(o, .inr (4, [.ref F, .ref G, .int lo, .int nw, .int se, .ref (pa 0), .ref an, .ref ln])), cE x xv, (x 7, .inl (cA 0, 4, .inl f))] sz [(o, .inr (4, [.ref F, .ref G, .int lo, .int nw, .int se, .ref (pa 0), .ref an, .ref ln])), cE x xv, (x 7, .inl (cA 0, 4, .inl f))] t) (va_A [(o, .inr (4, [.ref F, .ref G, .int lo, .int nw, .int se, .ref (pa 0), .ref an, .ref ln])), cE x xv, (x 7, .inl (cA 0, 4, .inl f))] sz)) 0 0 (va_A [(o, .inr (4, [.ref F, .ref G, .int lo, .int nw, .int se, .ref (pa 0), .ref an, .ref ln])), cE x xv, (x 7, .inl (cA 0, 4, .inl f))] sz) := by
  refine Met.ofW (cc := cX3_asked) (maxL := 3) (ret := (some .int)) (by decide) rfl ?_
  intro p e s m args below meth c s₁ B hml hv
  obtain ⟨rfl, hsz, hP, hK, hD0⟩ := hv
  have hx := B.exec
  have hb := B.bytes
  have hr := B.returns
  have hts := atoms_spec (ws := wsX3_asked) B.pre
  have hown : s.vm.findClass RX3 = some m.cls := findClass_of_methodNamed B.named
  have hlocks := B.notSynchronized
  subst hsz
  have hD := hD0.self (sz := s.heap.size)
  generalize hAe : va_A [(o, .inr (4, [.ref F, .ref G, .int lo, .int nw, .int se, .ref (pa 0), .ref an, .ref ln])), cE x xv, (x 7, .inl (cA 0, 4, .inl f))] s.heap.size = A at hD ⊢
  have hA : ∀ q : Nat, s.heap.size ≤ q → A q := fun q h => by rw [← hAe]; exact Or.inr h
  have hS : va_S A s.heap s.heap [] := va_S.rf
  have hl := lv_entry ([.ref o, .int n, .int (nI k)]) (n := 3) (Nat.le_of_ble_eq_true rfl)
  rw [lg_entry_eq]
  generalize (lg_sl ([.ref o, .int n, .int (nI k)]) ++ List.replicate (3 - (lg_sl ([.ref o, .int n, .int (nI k)])).length) Slot.unset).toArray = ls at hl ⊢
  have hl : lv_has ls 3 [(0, .ref o), (1, .int n), (2, .int (nI k))] := hl
  refine lv_iload_n hx hb dX3_asked_0 rfl (lv_at hl 1 rfl) ?_
  have hPc := hP.sub (ws' := []) [] rfl
  have hDc := hD.sub (ws' := []) [] (by decide) rfl
  have hFc := va_free (wc := []) hD hS hA [] rfl
  refine va_callv (va_runS (As := [.int n]) (rest := []) ⟨hx, hb, hml, hown, hts⟩ (c_X3_checkEnd_k l D cA s.heap.size n (en_inr he)) (va_cwS 1 hts gX3_asked_X3_checkEnd rfl rfl rfl (by decide +kernel) ⟨Nat.le_of_ble_eq_true rfl, Nat.le_of_ble_eq_true rfl⟩) ⟨zU_blind, fun U hU hW => ⟨rfl, zU_call hU hPc hW.alike hK hDc⟩⟩ rfl rfl hl.1 rfl (lv_room (Nat.le_of_ble_eq_true rfl)) dX3_asked_1 ⟨(Nat.zero_le _), (Nat.zero_le _)⟩) hS (fun q _ h => hFc q h) hFc (fun u t H1 locs ht hvm hw hB hz1 hk1 hS => ?_)
  obtain ⟨hP1, hD1⟩ := hB
  rw [ht] at hP1
  obtain ⟨hP, hD⟩ := va_join (wr := [(o, .inr (4, [.ref F, .ref G, .int lo, .int nw, .int se, .ref (pa 0), .ref an, .ref ln])), cE x xv, (x 7, .inl (cA 0, 4, .inl f))]) (w1 := []) hP hD [] [0, 1, 2] rfl rfl (by decide) (by decide) hk1 hFc hP1 hD1
  generalize H1 = H at hP hS ⊢
  have hP := hP.sub (ws' := [(o, .inr (4, [.ref F, .ref G, .int lo, .int nw, .int se, .ref (pa 0), .ref an, .ref ln])), cE x xv, (x 7, .inl (cA 0, 4, .inl f))]) [0, 1, 2] rfl
  have hD := hD.sub (ws' := [(o, .inr (4, [.ref F, .ref G, .int lo, .int nw, .int se, .ref (pa 0), .ref an, .ref ln])), cE x xv, (x 7, .inl (cA 0, 4, .inl f))]) [0, 1, 2] (by decide) rfl
  clear hPc hDc hFc hP1 hD1 hk1 hz1
  have hw_1 := hw
  refine lv_iload_n hx hb dX3_asked_4 rfl (lv_at hl 2 rfl) ?_
  have hPc := hP.sub (ws' := []) [] rfl
  have hDc := hD.sub (ws' := []) [] (by decide) rfl
  have hFc := va_free (wc := []) hD hS hA [] rfl
  refine va_callv (va_runS (As := [.int (nI k)]) (rest := []) ⟨hx, hb, hml, hown, hts⟩ (c_X3_checkOption_k l D cA H.size (nI k) (inr_k hk)) (va_cwS 1 hts gX3_asked_X3_checkOption rfl rfl rfl (by decide +kernel) ⟨Nat.le_of_ble_eq_true rfl, Nat.le_of_ble_eq_true rfl⟩) ⟨zU_blind, fun U hU hW => ⟨rfl, zU_call hU hPc hW.alike hK hDc⟩⟩ rfl rfl hl.1 rfl (lv_room (Nat.le_of_ble_eq_true rfl)) dX3_asked_5 ⟨(Nat.zero_le _), (Nat.zero_le _)⟩) hS (fun q _ h => hFc q h) hFc (fun u t H1 locs ht hvm hw hB hz1 hk1 hS => ?_)
  obtain ⟨hP1, hD1⟩ := hB
  rw [ht] at hP1
  obtain ⟨hP, hD⟩ := va_join (wr := [(o, .inr (4, [.ref F, .ref G, .int lo, .int nw, .int se, .ref (pa 0), .ref an, .ref ln])), cE x xv, (x 7, .inl (cA 0, 4, .inl f))]) (w1 := []) hP hD [] [0, 1, 2] rfl rfl (by decide) (by decide) hk1 hFc hP1 hD1
  generalize H1 = H at hP hS ⊢
  have hP := hP.sub (ws' := [(o, .inr (4, [.ref F, .ref G, .int lo, .int nw, .int se, .ref (pa 0), .ref an, .ref ln])), cE x xv, (x 7, .inl (cA 0, 4, .inl f))]) [0, 1, 2] rfl
  have hD := hD.sub (ws' := [(o, .inr (4, [.ref F, .ref G, .int lo, .int nw, .int se, .ref (pa 0), .ref an, .ref ln])), cE x xv, (x 7, .inl (cA 0, 4, .inl f))]) [0, 1, 2] (by decide) rfl
  clear hPc hDc hFc hP1 hD1 hk1 hz1
  have hw_2 := hw
  refine lv_aload_n hx hb dX3_asked_8 rfl (lv_at hl 0 rfl) ?_
  refine lv_iload_n hx hb dX3_asked_9 rfl (lv_at hl 1 rfl) ?_
  have hPc := hP.sub (ws' := [(o, .inr (4, [.ref F, .ref G, .int lo, .int nw, .int se, .ref (pa 0), .ref an, .ref ln]))]) [0] rfl
  have hDc := hD.sub (ws' := [(o, .inr (4, [.ref F, .ref G, .int lo, .int nw, .int se, .ref (pa 0), .ref an, .ref ln]))]) [0] (by decide) rfl
  have hFc := va_free (wc := [(o, .inr (4, [.ref F, .ref G, .int lo, .int nw, .int se, .ref (pa 0), .ref an, .ref ln]))]) hD hS hA [0] rfl
  refine va_callr (va_runV (As := [.int n]) (rest := []) ⟨hx, hb, hml, hown, hts⟩ (c_X3_endOf l D cA H.size o F G lo nw se pa an ln n (x 0) y0 (by assumption)) (cwV 1 hts gX3_asked_X3_endOf rfl rfl rfl (by decide +kernel) ⟨Nat.le_of_ble_eq_true rfl, Nat.le_of_ble_eq_true rfl⟩) ⟨zU_blind, va_recv hK hPc (ci := 4) (q0 := 0) rfl rfl, fun U hU hW => ⟨rfl, zU_call hU hPc hW.alike hK hDc⟩⟩ rfl rfl hl.1 rfl (lv_room (Nat.le_of_ble_eq_true rfl)) dX3_asked_10 ⟨(Nat.zero_le _), (Nat.zero_le _)⟩) hS (fun q _ h => hFc q h) hFc (fun u ra t H1 locs ht hvm hw hB hz1 hk1 hS => ?_)
  obtain ⟨hra, hP1, hD1⟩ := hB
  rw [ht] at hP1
  subst ra
  obtain ⟨hP, hD⟩ := va_join (wr := [cE x xv, (x 7, .inl (cA 0, 4, .inl f))]) (w1 := [(o, .inr (4, [.ref F, .ref G, .int lo, .int nw, .int se, .ref (pa 0), .ref an, .ref ln]))]) hP hD [0] [1, 2] rfl rfl (by decide) (by decide) hk1 hFc hP1 hD1
  generalize H1 = H at hP hS ⊢
  have hP := hP.sub (ws' := [(o, .inr (4, [.ref F, .ref G, .int lo, .int nw, .int se, .ref (pa 0), .ref an, .ref ln])), cE x xv, (x 7, .inl (cA 0, 4, .inl f))]) [2, 0, 1] rfl
  have hD := hD.sub (ws' := [(o, .inr (4, [.ref F, .ref G, .int lo, .int nw, .int se, .ref (pa 0), .ref an, .ref ln])), cE x xv, (x 7, .inl (cA 0, 4, .inl f))]) [2, 0, 1] (by decide) rfl
  clear hPc hDc hFc hP1 hD1 hk1 hz1
  have hw_3 := hw
  refine va_get (D := D) (ci := 1) (v := .ref (x 7)) (C := RX0) (T := TX0) (N := 16) hx hb hts (fun _ h => List.mem_cons_of_mem _ (List.mem_append_left _ (List.mem_append_left _ (List.mem_append_right _ (h))))) hown hK hP 1 rfl rfl 6 (by decide) (hts (.fieldLink RX3 107 "OptionWire$End" "asked" "[I") (List.mem_of_getElem? (i := 1) rfl)) (fun _ h9 => h9) rfl dX3_asked_13 ?_
  refine lv_iload_n hx hb dX3_asked_16 rfl (lv_at hl 2 rfl) ?_
  refine z_iald (k := k) (v := (f k)) hx hb hK hP 2 0 rfl rfl rfl (by omega) (by decide) rfl dX3_asked_17 ?_
  refine W.widen (k := 0) (n := 0) (by omega) (by omega) ?_
  exact W.iret (v := (f k)) hx hb hr (fun t ht hW => ⟨⟨f k, (), rfl, rfl, ⟨by rw [ht]; exact hP, by rw [hAe]; exact hD⟩⟩, hS.F ht⟩) hS.2.2 dX3_asked_18
set_option maxHeartbeats 4000000 in
set_option maxRecDepth 100000 in
theorem c_X3_asked_b (l : Launch) (D : va_G) (cA : Nat → ClassId) (zv : Nat → Nat) (sz : Nat) (hl0 : l.stackTraces = false) (o F G : Nat) (lo nw se : Int32) (pa : Nat → Nat) (an ln : Nat) (n q : Int32) (hbad : ¬ (inr n 0 1 ∧ inr q 0 3)) : vx_Met l yX3_asked wsX3_asked ({ frames := 9, cells := 1, slots := 6, locals := 120 }) (va_Pc [.ref o, .int n, .int q] (zUX D cA zv sz [(o, .inr (4, [.ref F, .ref G, .int lo, .int nw, .int se, .ref (pa 0), .ref an, .ref ln]))])) (va_Qi (fun (_ : Int32) (_ : Unit) => False) (fun (_ : Unit) _ => True) (va_A [(o, .inr (4, [.ref F, .ref G, .int lo, .int nw, .int se, .ref (pa 0), .ref an, .ref ln]))] sz)) (vx_X (fun (_ : Unit) => True) (fun E (_ : Unit) t => E = "java/lang/IllegalArgumentException" ∧ zB D [(o, .inr (4, [.ref F, .ref G, .int lo, .int nw, .int se, .ref (pa 0), .ref an, .ref ln]))] sz [(o, .inr (4, [.ref F, .ref G, .int lo, .int nw, .int se, .ref (pa 0), .ref an, .ref ln]))] t) (va_A [(o, .inr (4, [.ref F, .ref G, .int lo, .int nw, .int se, .ref (pa 0), .ref an, .ref ln]))] sz)) 1 6 (va_A [(o, .inr (4, [.ref F, .ref G, .int lo, .int nw, .int se, .ref (pa 0), .ref an, .ref ln]))] sz) := by
  refine vx_ofW (cc := cX3_asked) (maxL := 3) (ret := (some .int)) (by decide) rfl ?_
  intro p e s m args below meth c s₁ B hml htab hv
  obtain ⟨rfl, ⟨hsz, hP, hK, hD0, hE0⟩, hX0⟩ := hv
  have hx := B.exec
  have hb := B.bytes
  have hr := B.returns
  have hts := atoms_spec (ws := wsX3_asked) B.pre
  have hown : s.vm.findClass RX3 = some m.cls := findClass_of_methodNamed B.named
  have hlocks := B.notSynchronized
  subst hsz
  have hD := hD0.self (sz := s.heap.size)
  generalize hAe : va_A [(o, .inr (4, [.ref F, .ref G, .int lo, .int nw, .int se, .ref (pa 0), .ref an, .ref ln]))] s.heap.size = A at hD hE0 hX0 ⊢
  have hA : ∀ q : Nat, s.heap.size ≤ q → A q := fun q h => by rw [← hAe]; exact Or.inr h
  have hS : va_S A s.heap s.heap [] := va_S.rf
  have hl := lv_entry ([.ref o, .int n, .int q]) (n := 3) (Nat.le_of_ble_eq_true rfl)
  rw [lg_entry_eq]
  generalize (lg_sl ([.ref o, .int n, .int q]) ++ List.replicate (3 - (lg_sl ([.ref o, .int n, .int q])).length) Slot.unset).toArray = ls at hl ⊢
  have hl : lv_has ls 3 [(0, .ref o), (1, .int n), (2, .int q)] := hl
  refine lv_iload_n hx hb dX3_asked_0 rfl (lv_at hl 1 rfl) ?_
  by_cases q1 : inr n 0 1
  · skip
    have hPc := hP.sub (ws' := []) [] rfl
    have hDc := hD.sub (ws' := []) [] (by decide) rfl
    have hFc := va_free (wc := []) hD hS hA [] rfl
    refine va_callv (va_runS (As := [.int n]) (rest := []) ⟨hx, hb, hml, hown, hts⟩ (c_X3_checkEnd_k l D cA s.heap.size n q1) (va_cwS 1 hts gX3_asked_X3_checkEnd rfl rfl rfl (by decide +kernel) ⟨Nat.le_of_ble_eq_true rfl, Nat.le_of_ble_eq_true rfl⟩) ⟨zU_blind, fun U hU hW => ⟨rfl, zU_call hU hPc hW.alike hK hDc⟩⟩ rfl rfl hl.1 rfl (lv_room (Nat.le_of_ble_eq_true rfl)) dX3_asked_1 ⟨(Nat.zero_le _), (Nat.zero_le _)⟩) hS (fun q _ h => hFc q h) hFc (fun u t H1 locs ht hvm hw hB hz1 hk1 hS => ?_)
    obtain ⟨hP1, hD1⟩ := hB
    rw [ht] at hP1
    obtain ⟨hP, hD⟩ := va_join (wr := [(o, .inr (4, [.ref F, .ref G, .int lo, .int nw, .int se, .ref (pa 0), .ref an, .ref ln]))]) (w1 := []) hP hD [] [0] rfl rfl (by decide) (by decide) hk1 hFc hP1 hD1
    generalize H1 = H at hP hS ⊢
    have hP := hP.sub (ws' := [(o, .inr (4, [.ref F, .ref G, .int lo, .int nw, .int se, .ref (pa 0), .ref an, .ref ln]))]) [0] rfl
    have hD := hD.sub (ws' := [(o, .inr (4, [.ref F, .ref G, .int lo, .int nw, .int se, .ref (pa 0), .ref an, .ref ln]))]) [0] (by decide) rfl
    clear hPc hDc hFc hP1 hD1 hk1 hz1
    have hw_1 := hw
    refine lv_iload_n hx hb dX3_asked_4 rfl (lv_at hl 2 rfl) ?_
    by_cases q2 : inr q 0 3
    · skip
      have hPc := hP.sub (ws' := []) [] rfl
      have hDc := hD.sub (ws' := []) [] (by decide) rfl
      have hFc := va_free (wc := []) hD hS hA [] rfl
      refine va_callv (va_runS (As := [.int q]) (rest := []) ⟨hx, hb, hml, hown, hts⟩ (c_X3_checkOption_k l D cA H.size q q2) (va_cwS 1 hts gX3_asked_X3_checkOption rfl rfl rfl (by decide +kernel) ⟨Nat.le_of_ble_eq_true rfl, Nat.le_of_ble_eq_true rfl⟩) ⟨zU_blind, fun U hU hW => ⟨rfl, zU_call hU hPc hW.alike hK hDc⟩⟩ rfl rfl hl.1 rfl (lv_room (Nat.le_of_ble_eq_true rfl)) dX3_asked_5 ⟨(Nat.zero_le _), (Nat.zero_le _)⟩) hS (fun q _ h => hFc q h) hFc (fun u t H1 locs ht hvm hw hB hz1 hk1 hS => ?_)
      obtain ⟨hP1, hD1⟩ := hB
      rw [ht] at hP1
      obtain ⟨hP, hD⟩ := va_join (wr := [(o, .inr (4, [.ref F, .ref G, .int lo, .int nw, .int se, .ref (pa 0), .ref an, .ref ln]))]) (w1 := []) hP hD [] [0] rfl rfl (by decide) (by decide) hk1 hFc hP1 hD1
      generalize H1 = H at hP hS ⊢
      have hP := hP.sub (ws' := [(o, .inr (4, [.ref F, .ref G, .int lo, .int nw, .int se, .ref (pa 0), .ref an, .ref ln]))]) [0] rfl
      have hD := hD.sub (ws' := [(o, .inr (4, [.ref F, .ref G, .int lo, .int nw, .int se, .ref (pa 0), .ref an, .ref ln]))]) [0] (by decide) rfl
      clear hPc hDc hFc hP1 hD1 hk1 hz1
      have hw_2 := hw
      exact absurd ⟨q1, q2⟩ hbad
    · skip
      have hPc := hP.sub (ws' := []) [] rfl
      have hDc := hD.sub (ws' := []) [] (by decide) rfl
      have hFc := va_free (wc := []) hD hS hA [] rfl
      refine vx_callv (vx_runS (As := [.int q]) (rest := []) ⟨hx, hb, hml, hown, hts⟩ (c_X3_checkOption_t l D cA zv H.size hl0 q q2) (va_cwS 1 hts gX3_asked_X3_checkOption rfl rfl rfl (by decide +kernel) ⟨Nat.le_of_ble_eq_true rfl, Nat.le_of_ble_eq_true rfl⟩) ⟨zUX_blind, fun U hU hW => ⟨rfl, zUX_call hE0 hX0 hS hFc hU hPc hW hK hDc⟩⟩ rfl rfl hl.1 rfl (lv_room (Nat.le_of_ble_eq_true rfl)) dX3_asked_5 ⟨Nat.le_of_ble_eq_true rfl, Nat.le_of_ble_eq_true rfl⟩) hS (fun q _ h => hFc q h) hFc (fun q _ h => hFc q h) (fun E9 ce9 q9 u t H1 locs ht hvm hpx hB hz1 hk1 hS hcell hcv hcl => ?_) (fun u t H1 locs1 ht hvm hw _ _ _ _ => hw.elim)
      obtain ⟨rfl, hP1, hD1⟩ := hB
      rw [ht] at hP1
      obtain ⟨hP, hD⟩ := va_join (wr := [(o, .inr (4, [.ref F, .ref G, .int lo, .int nw, .int se, .ref (pa 0), .ref an, .ref ln]))]) (w1 := []) hP hD [] [0] rfl rfl (by decide) (by decide) hk1 hFc hP1 hD1
      have hP := hP.sub (ws' := [(o, .inr (4, [.ref F, .ref G, .int lo, .int nw, .int se, .ref (pa 0), .ref an, .ref ln]))]) [0] rfl
      have hD := hD.sub (ws' := [(o, .inr (4, [.ref F, .ref G, .int lo, .int nw, .int se, .ref (pa 0), .ref an, .ref ln]))]) [0] (by decide) rfl
      exact vx_out (fun x h => (htab x h).elim) hlocks hcell hcv hcl (fun t2 h7 h8 => z_thrO hP hD hS hAe h7) hS.2.2 (by omega) (by omega)
  · skip
    have hPc := hP.sub (ws' := []) [] rfl
    have hDc := hD.sub (ws' := []) [] (by decide) rfl
    have hFc := va_free (wc := []) hD hS hA [] rfl
    refine vx_callv (vx_runS (As := [.int n]) (rest := []) ⟨hx, hb, hml, hown, hts⟩ (c_X3_checkEnd_t l D cA zv s.heap.size hl0 n q1) (va_cwS 1 hts gX3_asked_X3_checkEnd rfl rfl rfl (by decide +kernel) ⟨Nat.le_of_ble_eq_true rfl, Nat.le_of_ble_eq_true rfl⟩) ⟨zUX_blind, fun U hU hW => ⟨rfl, zUX_call hE0 hX0 hS hFc hU hPc hW hK hDc⟩⟩ rfl rfl hl.1 rfl (lv_room (Nat.le_of_ble_eq_true rfl)) dX3_asked_1 ⟨Nat.le_of_ble_eq_true rfl, Nat.le_of_ble_eq_true rfl⟩) hS (fun q _ h => hFc q h) hFc (fun q _ h => hFc q h) (fun E9 ce9 q9 u t H1 locs ht hvm hpx hB hz1 hk1 hS hcell hcv hcl => ?_) (fun u t H1 locs1 ht hvm hw _ _ _ _ => hw.elim)
    obtain ⟨rfl, hP1, hD1⟩ := hB
    rw [ht] at hP1
    obtain ⟨hP, hD⟩ := va_join (wr := [(o, .inr (4, [.ref F, .ref G, .int lo, .int nw, .int se, .ref (pa 0), .ref an, .ref ln]))]) (w1 := []) hP hD [] [0] rfl rfl (by decide) (by decide) hk1 hFc hP1 hD1
    have hP := hP.sub (ws' := [(o, .inr (4, [.ref F, .ref G, .int lo, .int nw, .int se, .ref (pa 0), .ref an, .ref ln]))]) [0] rfl
    have hD := hD.sub (ws' := [(o, .inr (4, [.ref F, .ref G, .int lo, .int nw, .int se, .ref (pa 0), .ref an, .ref ln]))]) [0] (by decide) rfl
    exact vx_out (fun x h => (htab x h).elim) hlocks hcell hcv hcl (fun t2 h7 h8 => z_thrO hP hD hS hAe h7) hS.2.2 (by omega) (by omega)
set_option maxHeartbeats 4000000 in
set_option maxRecDepth 100000 in
theorem c_X3_granted_k (l : Launch) (D : va_G) (cA : Nat → ClassId) (sz : Nat) (o F G : Nat) (lo nw se : Int32) (pa : Nat → Nat) (an ln : Nat) (x : Nat → Nat) (y0 : Nat) (n : Int32) (xv : Nat → Int32) (k : Nat) (f : Nat → Int32) (he : en n F G (x 0) y0) (hk : k < 4) : Met l yX3_granted wsX3_granted ({ frames := 1, cells := 0, slots := 0, locals := 21 }) (va_Pc [.ref o, .int n, .int (nI k)] (zU D cA sz [(o, .inr (4, [.ref F, .ref G, .int lo, .int nw, .int se, .ref (pa 0), .ref an, .ref ln])), cE x xv, (x 7, .inl (cA 0, 4, .inl f))])) (va_Qi (fun (r : Int32) (_ : Unit) => r = (if xv 0 = 2 ∨ xv 0 = 4 then f k else -1)) (fun (_ : Unit) t => zB D [(o, .inr (4, [.ref F, .ref G, .int lo, .int nw, .int se, .ref (pa 0), .ref an, .ref ln])), cE x xv, (x 7, .inl (cA 0, 4, .inl f))] sz [(o, .inr (4, [.ref F, .ref G, .int lo, .int nw, .int se, .ref (pa 0), .ref an, .ref ln])), cE x xv, (x 7, .inl (cA 0, 4, .inl f))] t) (va_A [(o, .inr (4, [.ref F, .ref G, .int lo, .int nw, .int se, .ref (pa 0), .ref an, .ref ln])), cE x xv, (x 7, .inl (cA 0, 4, .inl f))] sz)) 0 0 (va_A [(o, .inr (4, [.ref F, .ref G, .int lo, .int nw, .int se, .ref (pa 0), .ref an, .ref ln])), cE x xv, (x 7, .inl (cA 0, 4, .inl f))] sz) := by
  refine Met.ofW (cc := cX3_granted) (maxL := 5) (ret := (some .int)) (by decide) rfl ?_
  intro p e s m args below meth c s₁ B hml hv
  obtain ⟨rfl, hsz, hP, hK, hD0⟩ := hv
  have hx := B.exec
  have hb := B.bytes
  have hr := B.returns
  have hts := atoms_spec (ws := wsX3_granted) B.pre
  have hown : s.vm.findClass RX3 = some m.cls := findClass_of_methodNamed B.named
  have hlocks := B.notSynchronized
  subst hsz
  have hD := hD0.self (sz := s.heap.size)
  generalize hAe : va_A [(o, .inr (4, [.ref F, .ref G, .int lo, .int nw, .int se, .ref (pa 0), .ref an, .ref ln])), cE x xv, (x 7, .inl (cA 0, 4, .inl f))] s.heap.size = A at hD ⊢
  have hA : ∀ q : Nat, s.heap.size ≤ q → A q := fun q h => by rw [← hAe]; exact Or.inr h
  have hS : va_S A s.heap s.heap [] := va_S.rf
  have hl := lv_entry ([.ref o, .int n, .int (nI k)]) (n := 5) (Nat.le_of_ble_eq_true rfl)
  rw [lg_entry_eq]
  generalize (lg_sl ([.ref o, .int n, .int (nI k)]) ++ List.replicate (5 - (lg_sl ([.ref o, .int n, .int (nI k)])).length) Slot.unset).toArray = ls at hl ⊢
  have hl : lv_has ls 5 [(0, .ref o), (1, .int n), (2, .int (nI k))] := hl
  refine lv_iload_n hx hb dX3_granted_0 rfl (lv_at hl 1 rfl) ?_
  have hPc := hP.sub (ws' := []) [] rfl
  have hDc := hD.sub (ws' := []) [] (by decide) rfl
  have hFc := va_free (wc := []) hD hS hA [] rfl
  refine va_callv (va_runS (As := [.int n]) (rest := []) ⟨hx, hb, hml, hown, hts⟩ (c_X3_checkEnd_k l D cA s.heap.size n (en_inr he)) (va_cwS 1 hts gX3_granted_X3_checkEnd rfl rfl rfl (by decide +kernel) ⟨Nat.le_of_ble_eq_true rfl, Nat.le_of_ble_eq_true rfl⟩) ⟨zU_blind, fun U hU hW => ⟨rfl, zU_call hU hPc hW.alike hK hDc⟩⟩ rfl rfl hl.1 rfl (lv_room (Nat.le_of_ble_eq_true rfl)) dX3_granted_1 ⟨(Nat.zero_le _), (Nat.zero_le _)⟩) hS (fun q _ h => hFc q h) hFc (fun u t H1 locs ht hvm hw hB hz1 hk1 hS => ?_)
  obtain ⟨hP1, hD1⟩ := hB
  rw [ht] at hP1
  obtain ⟨hP, hD⟩ := va_join (wr := [(o, .inr (4, [.ref F, .ref G, .int lo, .int nw, .int se, .ref (pa 0), .ref an, .ref ln])), cE x xv, (x 7, .inl (cA 0, 4, .inl f))]) (w1 := []) hP hD [] [0, 1, 2] rfl rfl (by decide) (by decide) hk1 hFc hP1 hD1
  generalize H1 = H at hP hS ⊢
  have hP := hP.sub (ws' := [(o, .inr (4, [.ref F, .ref G, .int lo, .int nw, .int se, .ref (pa 0), .ref an, .ref ln])), cE x xv, (x 7, .inl (cA 0, 4, .inl f))]) [0, 1, 2] rfl
  have hD := hD.sub (ws' := [(o, .inr (4, [.ref F, .ref G, .int lo, .int nw, .int se, .ref (pa 0), .ref an, .ref ln])), cE x xv, (x 7, .inl (cA 0, 4, .inl f))]) [0, 1, 2] (by decide) rfl
  clear hPc hDc hFc hP1 hD1 hk1 hz1
  have hw_1 := hw
  refine lv_iload_n hx hb dX3_granted_4 rfl (lv_at hl 2 rfl) ?_
  have hPc := hP.sub (ws' := []) [] rfl
  have hDc := hD.sub (ws' := []) [] (by decide) rfl
  have hFc := va_free (wc := []) hD hS hA [] rfl
  refine va_callv (va_runS (As := [.int (nI k)]) (rest := []) ⟨hx, hb, hml, hown, hts⟩ (c_X3_checkOption_k l D cA H.size (nI k) (inr_k hk)) (va_cwS 1 hts gX3_granted_X3_checkOption rfl rfl rfl (by decide +kernel) ⟨Nat.le_of_ble_eq_true rfl, Nat.le_of_ble_eq_true rfl⟩) ⟨zU_blind, fun U hU hW => ⟨rfl, zU_call hU hPc hW.alike hK hDc⟩⟩ rfl rfl hl.1 rfl (lv_room (Nat.le_of_ble_eq_true rfl)) dX3_granted_5 ⟨(Nat.zero_le _), (Nat.zero_le _)⟩) hS (fun q _ h => hFc q h) hFc (fun u t H1 locs ht hvm hw hB hz1 hk1 hS => ?_)
  obtain ⟨hP1, hD1⟩ := hB
  rw [ht] at hP1
  obtain ⟨hP, hD⟩ := va_join (wr := [(o, .inr (4, [.ref F, .ref G, .int lo, .int nw, .int se, .ref (pa 0), .ref an, .ref ln])), cE x xv, (x 7, .inl (cA 0, 4, .inl f))]) (w1 := []) hP hD [] [0, 1, 2] rfl rfl (by decide) (by decide) hk1 hFc hP1 hD1
  generalize H1 = H at hP hS ⊢
  have hP := hP.sub (ws' := [(o, .inr (4, [.ref F, .ref G, .int lo, .int nw, .int se, .ref (pa 0), .ref an, .ref ln])), cE x xv, (x 7, .inl (cA 0, 4, .inl f))]) [0, 1, 2] rfl
  have hD := hD.sub (ws' := [(o, .inr (4, [.ref F, .ref G, .int lo, .int nw, .int se, .ref (pa 0), .ref an, .ref ln])), cE x xv, (x 7, .inl (cA 0, 4, .inl f))]) [0, 1, 2] (by decide) rfl
  clear hPc hDc hFc hP1 hD1 hk1 hz1
  have hw_2 := hw
  refine lv_aload_n hx hb dX3_granted_8 rfl (lv_at hl 0 rfl) ?_
  refine lv_iload_n hx hb dX3_granted_9 rfl (lv_at hl 1 rfl) ?_
  have hPc := hP.sub (ws' := [(o, .inr (4, [.ref F, .ref G, .int lo, .int nw, .int se, .ref (pa 0), .ref an, .ref ln]))]) [0] rfl
  have hDc := hD.sub (ws' := [(o, .inr (4, [.ref F, .ref G, .int lo, .int nw, .int se, .ref (pa 0), .ref an, .ref ln]))]) [0] (by decide) rfl
  have hFc := va_free (wc := [(o, .inr (4, [.ref F, .ref G, .int lo, .int nw, .int se, .ref (pa 0), .ref an, .ref ln]))]) hD hS hA [0] rfl
  refine va_callr (va_runV (As := [.int n]) (rest := []) ⟨hx, hb, hml, hown, hts⟩ (c_X3_endOf l D cA H.size o F G lo nw se pa an ln n (x 0) y0 (by assumption)) (cwV 1 hts gX3_granted_X3_endOf rfl rfl rfl (by decide +kernel) ⟨Nat.le_of_ble_eq_true rfl, Nat.le_of_ble_eq_true rfl⟩) ⟨zU_blind, va_recv hK hPc (ci := 4) (q0 := 0) rfl rfl, fun U hU hW => ⟨rfl, zU_call hU hPc hW.alike hK hDc⟩⟩ rfl rfl hl.1 rfl (lv_room (Nat.le_of_ble_eq_true rfl)) dX3_granted_10 ⟨(Nat.zero_le _), (Nat.zero_le _)⟩) hS (fun q _ h => hFc q h) hFc (fun u ra t H1 locs ht hvm hw hB hz1 hk1 hS => ?_)
  obtain ⟨hra, hP1, hD1⟩ := hB
  rw [ht] at hP1
  subst ra
  obtain ⟨hP, hD⟩ := va_join (wr := [cE x xv, (x 7, .inl (cA 0, 4, .inl f))]) (w1 := [(o, .inr (4, [.ref F, .ref G, .int lo, .int nw, .int se, .ref (pa 0), .ref an, .ref ln]))]) hP hD [0] [1, 2] rfl rfl (by decide) (by decide) hk1 hFc hP1 hD1
  generalize H1 = H at hP hS ⊢
  have hP := hP.sub (ws' := [(o, .inr (4, [.ref F, .ref G, .int lo, .int nw, .int se, .ref (pa 0), .ref an, .ref ln])), cE x xv, (x 7, .inl (cA 0, 4, .inl f))]) [2, 0, 1] rfl
  have hD := hD.sub (ws' := [(o, .inr (4, [.ref F, .ref G, .int lo, .int nw, .int se, .ref (pa 0), .ref an, .ref ln])), cE x xv, (x 7, .inl (cA 0, 4, .inl f))]) [2, 0, 1] (by decide) rfl
  clear hPc hDc hFc hP1 hD1 hk1 hz1
  have hw_3 := hw
  refine lv_astore_n (lv' := [(3, .ref (x 0)), (0, .ref o), (1, .int n), (2, .int (nI k))]) hx hb dX3_granted_13 rfl hl (by decide) rfl (fun ls hl => ?_)
  refine lv_aload_n hx hb dX3_granted_14 rfl (lv_at hl 0 rfl) ?_
  refine va_get (D := D) (ci := 1) (v := .int (xv 0)) (C := RX0) (T := TX0) (N := 16) hx hb hts (fun _ h => List.mem_cons_of_mem _ (List.mem_append_left _ (List.mem_append_left _ (List.mem_append_right _ (h))))) hown hK hP 1 rfl rfl 9 (by decide) (hts (.fieldLink RX3 95 "OptionWire$End" "state" "I") (List.mem_of_getElem? (i := 1) rfl)) (fun _ h9 => h9) rfl dX3_granted_15 ?_
  refine lv_iconst (v := 2) hx hb dX3_granted_18 (by decide) ?_
  refine lv_icmp_eq (tgt := 30) hx hb dX3_granted_19 (by decide) (fun c_4 => ?_) (fun c_4 => ?_)
  · skip
    refine lv_iconst (v := 1) hx hb dX3_granted_30 (by decide) ?_
    refine lv_goto (tgt := 35) hx hb dX3_granted_31 (by decide) ?_
    refine lv_istore (lv' := [(4, .int 1), (3, .ref (x 0)), (0, .ref o), (1, .int n), (2, .int (nI k))]) hx hb dX3_granted_35 hl (by decide) rfl (fun ls hl => ?_)
    refine lv_iload hx hb dX3_granted_37 (lv_at hl 0 rfl) ?_
    refine lv_if_eq (tgt := 51) hx hb dX3_granted_39 (by decide) (fun c_5 => absurd c_5 (by decide)) (fun _ => ?_)
    refine lv_aload_n hx hb dX3_granted_42 rfl (lv_at hl 1 rfl) ?_
    refine va_get (D := D) (ci := 1) (v := .ref (x 7)) (C := RX0) (T := TX0) (N := 16) hx hb hts (fun _ h => List.mem_cons_of_mem _ (List.mem_append_left _ (List.mem_append_left _ (List.mem_append_right _ (h))))) hown hK hP 1 rfl rfl 6 (by decide) (hts (.fieldLink RX3 107 "OptionWire$End" "asked" "[I") (List.mem_of_getElem? (i := 2) rfl)) (fun _ h9 => h9) rfl dX3_granted_43 ?_
    refine lv_iload_n hx hb dX3_granted_46 rfl (lv_at hl 4 rfl) ?_
    refine z_iald (k := k) (v := (f k)) hx hb hK hP 2 0 rfl rfl rfl (by omega) (by decide) rfl dX3_granted_47 ?_
    refine lv_goto (tgt := 52) hx hb dX3_granted_48 (by decide) ?_
    refine W.widen (k := 0) (n := 0) (by omega) (by omega) ?_
    exact W.iret (v := (f k)) hx hb hr (fun t ht hW => ⟨⟨f k, (), rfl, by simp [c_4], ⟨by rw [ht]; exact hP, by rw [hAe]; exact hD⟩⟩, hS.F ht⟩) hS.2.2 dX3_granted_52
  · skip
    refine lv_aload_n hx hb dX3_granted_22 rfl (lv_at hl 0 rfl) ?_
    refine va_get (D := D) (ci := 1) (v := .int (xv 0)) (C := RX0) (T := TX0) (N := 16) hx hb hts (fun _ h => List.mem_cons_of_mem _ (List.mem_append_left _ (List.mem_append_left _ (List.mem_append_right _ (h))))) hown hK hP 1 rfl rfl 9 (by decide) (hts (.fieldLink RX3 95 "OptionWire$End" "state" "I") (List.mem_of_getElem? (i := 1) rfl)) (fun _ h9 => h9) rfl dX3_granted_23 ?_
    refine lv_iconst (v := 4) hx hb dX3_granted_26 (by decide) ?_
    refine lv_icmp_ne (tgt := 34) hx hb dX3_granted_27 (by decide) (fun c_6 => ?_) (fun c_6 => ?_)
    · skip
      refine lv_iconst (v := 0) hx hb dX3_granted_34 (by decide) ?_
      refine lv_istore (lv' := [(4, .int 0), (3, .ref (x 0)), (0, .ref o), (1, .int n), (2, .int (nI k))]) hx hb dX3_granted_35 hl (by decide) rfl (fun ls hl => ?_)
      refine lv_iload hx hb dX3_granted_37 (lv_at hl 0 rfl) ?_
      refine lv_if_eq (tgt := 51) hx hb dX3_granted_39 (by decide) (fun _ => ?_) (fun c_7 => absurd c_7 (by decide))
      refine lv_iconst (v := (-1)) hx hb dX3_granted_51 (by decide) ?_
      refine W.widen (k := 0) (n := 0) (by omega) (by omega) ?_
      exact W.iret (v := (-1)) hx hb hr (fun t ht hW => ⟨⟨(-1), (), rfl, by simp [c_4, c_6], ⟨by rw [ht]; exact hP, by rw [hAe]; exact hD⟩⟩, hS.F ht⟩) hS.2.2 dX3_granted_52
    · skip
      refine lv_iconst (v := 1) hx hb dX3_granted_30 (by decide) ?_
      refine lv_goto (tgt := 35) hx hb dX3_granted_31 (by decide) ?_
      refine lv_istore (lv' := [(4, .int 1), (3, .ref (x 0)), (0, .ref o), (1, .int n), (2, .int (nI k))]) hx hb dX3_granted_35 hl (by decide) rfl (fun ls hl => ?_)
      refine lv_iload hx hb dX3_granted_37 (lv_at hl 0 rfl) ?_
      refine lv_if_eq (tgt := 51) hx hb dX3_granted_39 (by decide) (fun c_8 => absurd c_8 (by decide)) (fun _ => ?_)
      refine lv_aload_n hx hb dX3_granted_42 rfl (lv_at hl 1 rfl) ?_
      refine va_get (D := D) (ci := 1) (v := .ref (x 7)) (C := RX0) (T := TX0) (N := 16) hx hb hts (fun _ h => List.mem_cons_of_mem _ (List.mem_append_left _ (List.mem_append_left _ (List.mem_append_right _ (h))))) hown hK hP 1 rfl rfl 6 (by decide) (hts (.fieldLink RX3 107 "OptionWire$End" "asked" "[I") (List.mem_of_getElem? (i := 2) rfl)) (fun _ h9 => h9) rfl dX3_granted_43 ?_
      refine lv_iload_n hx hb dX3_granted_46 rfl (lv_at hl 4 rfl) ?_
      refine z_iald (k := k) (v := (f k)) hx hb hK hP 2 0 rfl rfl rfl (by omega) (by decide) rfl dX3_granted_47 ?_
      refine lv_goto (tgt := 52) hx hb dX3_granted_48 (by decide) ?_
      refine W.widen (k := 0) (n := 0) (by omega) (by omega) ?_
      exact W.iret (v := (f k)) hx hb hr (fun t ht hW => ⟨⟨f k, (), rfl, by simp [c_4, c_6], ⟨by rw [ht]; exact hP, by rw [hAe]; exact hD⟩⟩, hS.F ht⟩) hS.2.2 dX3_granted_52
set_option maxHeartbeats 4000000 in
set_option maxRecDepth 100000 in
theorem c_X3_granted_b (l : Launch) (D : va_G) (cA : Nat → ClassId) (zv : Nat → Nat) (sz : Nat) (hl0 : l.stackTraces = false) (o F G : Nat) (lo nw se : Int32) (pa : Nat → Nat) (an ln : Nat) (n q : Int32) (hbad : ¬ (inr n 0 1 ∧ inr q 0 3)) : vx_Met l yX3_granted wsX3_granted ({ frames := 9, cells := 1, slots := 6, locals := 120 }) (va_Pc [.ref o, .int n, .int q] (zUX D cA zv sz [(o, .inr (4, [.ref F, .ref G, .int lo, .int nw, .int se, .ref (pa 0), .ref an, .ref ln]))])) (va_Qi (fun (_ : Int32) (_ : Unit) => False) (fun (_ : Unit) _ => True) (va_A [(o, .inr (4, [.ref F, .ref G, .int lo, .int nw, .int se, .ref (pa 0), .ref an, .ref ln]))] sz)) (vx_X (fun (_ : Unit) => True) (fun E (_ : Unit) t => E = "java/lang/IllegalArgumentException" ∧ zB D [(o, .inr (4, [.ref F, .ref G, .int lo, .int nw, .int se, .ref (pa 0), .ref an, .ref ln]))] sz [(o, .inr (4, [.ref F, .ref G, .int lo, .int nw, .int se, .ref (pa 0), .ref an, .ref ln]))] t) (va_A [(o, .inr (4, [.ref F, .ref G, .int lo, .int nw, .int se, .ref (pa 0), .ref an, .ref ln]))] sz)) 1 6 (va_A [(o, .inr (4, [.ref F, .ref G, .int lo, .int nw, .int se, .ref (pa 0), .ref an, .ref ln]))] sz) := by
  refine vx_ofW (cc := cX3_granted) (maxL := 5) (ret := (some .int)) (by decide) rfl ?_
  intro p e s m args below meth c s₁ B hml htab hv
  obtain ⟨rfl, ⟨hsz, hP, hK, hD0, hE0⟩, hX0⟩ := hv
  have hx := B.exec
  have hb := B.bytes
  have hr := B.returns
  have hts := atoms_spec (ws := wsX3_granted) B.pre
  have hown : s.vm.findClass RX3 = some m.cls := findClass_of_methodNamed B.named
  have hlocks := B.notSynchronized
  subst hsz
  have hD := hD0.self (sz := s.heap.size)
  generalize hAe : va_A [(o, .inr (4, [.ref F, .ref G, .int lo, .int nw, .int se, .ref (pa 0), .ref an, .ref ln]))] s.heap.size = A at hD hE0 hX0 ⊢
  have hA : ∀ q : Nat, s.heap.size ≤ q → A q := fun q h => by rw [← hAe]; exact Or.inr h
  have hS : va_S A s.heap s.heap [] := va_S.rf
  have hl := lv_entry ([.ref o, .int n, .int q]) (n := 5) (Nat.le_of_ble_eq_true rfl)
  rw [lg_entry_eq]
  generalize (lg_sl ([.ref o, .int n, .int q]) ++ List.replicate (5 - (lg_sl ([.ref o, .int n, .int q])).length) Slot.unset).toArray = ls at hl ⊢
  have hl : lv_has ls 5 [(0, .ref o), (1, .int n), (2, .int q)] := hl
  refine lv_iload_n hx hb dX3_granted_0 rfl (lv_at hl 1 rfl) ?_
  by_cases q1 : inr n 0 1
  · skip
    have hPc := hP.sub (ws' := []) [] rfl
    have hDc := hD.sub (ws' := []) [] (by decide) rfl
    have hFc := va_free (wc := []) hD hS hA [] rfl
    refine va_callv (va_runS (As := [.int n]) (rest := []) ⟨hx, hb, hml, hown, hts⟩ (c_X3_checkEnd_k l D cA s.heap.size n q1) (va_cwS 1 hts gX3_granted_X3_checkEnd rfl rfl rfl (by decide +kernel) ⟨Nat.le_of_ble_eq_true rfl, Nat.le_of_ble_eq_true rfl⟩) ⟨zU_blind, fun U hU hW => ⟨rfl, zU_call hU hPc hW.alike hK hDc⟩⟩ rfl rfl hl.1 rfl (lv_room (Nat.le_of_ble_eq_true rfl)) dX3_granted_1 ⟨(Nat.zero_le _), (Nat.zero_le _)⟩) hS (fun q _ h => hFc q h) hFc (fun u t H1 locs ht hvm hw hB hz1 hk1 hS => ?_)
    obtain ⟨hP1, hD1⟩ := hB
    rw [ht] at hP1
    obtain ⟨hP, hD⟩ := va_join (wr := [(o, .inr (4, [.ref F, .ref G, .int lo, .int nw, .int se, .ref (pa 0), .ref an, .ref ln]))]) (w1 := []) hP hD [] [0] rfl rfl (by decide) (by decide) hk1 hFc hP1 hD1
    generalize H1 = H at hP hS ⊢
    have hP := hP.sub (ws' := [(o, .inr (4, [.ref F, .ref G, .int lo, .int nw, .int se, .ref (pa 0), .ref an, .ref ln]))]) [0] rfl
    have hD := hD.sub (ws' := [(o, .inr (4, [.ref F, .ref G, .int lo, .int nw, .int se, .ref (pa 0), .ref an, .ref ln]))]) [0] (by decide) rfl
    clear hPc hDc hFc hP1 hD1 hk1 hz1
    have hw_1 := hw
    refine lv_iload_n hx hb dX3_granted_4 rfl (lv_at hl 2 rfl) ?_
    by_cases q2 : inr q 0 3
    · skip
      have hPc := hP.sub (ws' := []) [] rfl
      have hDc := hD.sub (ws' := []) [] (by decide) rfl
      have hFc := va_free (wc := []) hD hS hA [] rfl
      refine va_callv (va_runS (As := [.int q]) (rest := []) ⟨hx, hb, hml, hown, hts⟩ (c_X3_checkOption_k l D cA H.size q q2) (va_cwS 1 hts gX3_granted_X3_checkOption rfl rfl rfl (by decide +kernel) ⟨Nat.le_of_ble_eq_true rfl, Nat.le_of_ble_eq_true rfl⟩) ⟨zU_blind, fun U hU hW => ⟨rfl, zU_call hU hPc hW.alike hK hDc⟩⟩ rfl rfl hl.1 rfl (lv_room (Nat.le_of_ble_eq_true rfl)) dX3_granted_5 ⟨(Nat.zero_le _), (Nat.zero_le _)⟩) hS (fun q _ h => hFc q h) hFc (fun u t H1 locs ht hvm hw hB hz1 hk1 hS => ?_)
      obtain ⟨hP1, hD1⟩ := hB
      rw [ht] at hP1
      obtain ⟨hP, hD⟩ := va_join (wr := [(o, .inr (4, [.ref F, .ref G, .int lo, .int nw, .int se, .ref (pa 0), .ref an, .ref ln]))]) (w1 := []) hP hD [] [0] rfl rfl (by decide) (by decide) hk1 hFc hP1 hD1
      generalize H1 = H at hP hS ⊢
      have hP := hP.sub (ws' := [(o, .inr (4, [.ref F, .ref G, .int lo, .int nw, .int se, .ref (pa 0), .ref an, .ref ln]))]) [0] rfl
      have hD := hD.sub (ws' := [(o, .inr (4, [.ref F, .ref G, .int lo, .int nw, .int se, .ref (pa 0), .ref an, .ref ln]))]) [0] (by decide) rfl
      clear hPc hDc hFc hP1 hD1 hk1 hz1
      have hw_2 := hw
      exact absurd ⟨q1, q2⟩ hbad
    · skip
      have hPc := hP.sub (ws' := []) [] rfl
      have hDc := hD.sub (ws' := []) [] (by decide) rfl
      have hFc := va_free (wc := []) hD hS hA [] rfl
      refine vx_callv (vx_runS (As := [.int q]) (rest := []) ⟨hx, hb, hml, hown, hts⟩ (c_X3_checkOption_t l D cA zv H.size hl0 q q2) (va_cwS 1 hts gX3_granted_X3_checkOption rfl rfl rfl (by decide +kernel) ⟨Nat.le_of_ble_eq_true rfl, Nat.le_of_ble_eq_true rfl⟩) ⟨zUX_blind, fun U hU hW => ⟨rfl, zUX_call hE0 hX0 hS hFc hU hPc hW hK hDc⟩⟩ rfl rfl hl.1 rfl (lv_room (Nat.le_of_ble_eq_true rfl)) dX3_granted_5 ⟨Nat.le_of_ble_eq_true rfl, Nat.le_of_ble_eq_true rfl⟩) hS (fun q _ h => hFc q h) hFc (fun q _ h => hFc q h) (fun E9 ce9 q9 u t H1 locs ht hvm hpx hB hz1 hk1 hS hcell hcv hcl => ?_) (fun u t H1 locs1 ht hvm hw _ _ _ _ => hw.elim)
      obtain ⟨rfl, hP1, hD1⟩ := hB
      rw [ht] at hP1
      obtain ⟨hP, hD⟩ := va_join (wr := [(o, .inr (4, [.ref F, .ref G, .int lo, .int nw, .int se, .ref (pa 0), .ref an, .ref ln]))]) (w1 := []) hP hD [] [0] rfl rfl (by decide) (by decide) hk1 hFc hP1 hD1
      have hP := hP.sub (ws' := [(o, .inr (4, [.ref F, .ref G, .int lo, .int nw, .int se, .ref (pa 0), .ref an, .ref ln]))]) [0] rfl
      have hD := hD.sub (ws' := [(o, .inr (4, [.ref F, .ref G, .int lo, .int nw, .int se, .ref (pa 0), .ref an, .ref ln]))]) [0] (by decide) rfl
      exact vx_out (fun x h => (htab x h).elim) hlocks hcell hcv hcl (fun t2 h7 h8 => z_thrO hP hD hS hAe h7) hS.2.2 (by omega) (by omega)
  · skip
    have hPc := hP.sub (ws' := []) [] rfl
    have hDc := hD.sub (ws' := []) [] (by decide) rfl
    have hFc := va_free (wc := []) hD hS hA [] rfl
    refine vx_callv (vx_runS (As := [.int n]) (rest := []) ⟨hx, hb, hml, hown, hts⟩ (c_X3_checkEnd_t l D cA zv s.heap.size hl0 n q1) (va_cwS 1 hts gX3_granted_X3_checkEnd rfl rfl rfl (by decide +kernel) ⟨Nat.le_of_ble_eq_true rfl, Nat.le_of_ble_eq_true rfl⟩) ⟨zUX_blind, fun U hU hW => ⟨rfl, zUX_call hE0 hX0 hS hFc hU hPc hW hK hDc⟩⟩ rfl rfl hl.1 rfl (lv_room (Nat.le_of_ble_eq_true rfl)) dX3_granted_1 ⟨Nat.le_of_ble_eq_true rfl, Nat.le_of_ble_eq_true rfl⟩) hS (fun q _ h => hFc q h) hFc (fun q _ h => hFc q h) (fun E9 ce9 q9 u t H1 locs ht hvm hpx hB hz1 hk1 hS hcell hcv hcl => ?_) (fun u t H1 locs1 ht hvm hw _ _ _ _ => hw.elim)
    obtain ⟨rfl, hP1, hD1⟩ := hB
    rw [ht] at hP1
    obtain ⟨hP, hD⟩ := va_join (wr := [(o, .inr (4, [.ref F, .ref G, .int lo, .int nw, .int se, .ref (pa 0), .ref an, .ref ln]))]) (w1 := []) hP hD [] [0] rfl rfl (by decide) (by decide) hk1 hFc hP1 hD1
    have hP := hP.sub (ws' := [(o, .inr (4, [.ref F, .ref G, .int lo, .int nw, .int se, .ref (pa 0), .ref an, .ref ln]))]) [0] rfl
    have hD := hD.sub (ws' := [(o, .inr (4, [.ref F, .ref G, .int lo, .int nw, .int se, .ref (pa 0), .ref an, .ref ln]))]) [0] (by decide) rfl
    exact vx_out (fun x h => (htab x h).elim) hlocks hcell hcv hcl (fun t2 h7 h8 => z_thrO hP hD hS hAe h7) hS.2.2 (by omega) (by omega)
set_option maxHeartbeats 4000000 in
set_option maxRecDepth 100000 in
theorem c_X3_allowed_k (l : Launch) (D : va_G) (cA : Nat → ClassId) (sz : Nat) (o F G : Nat) (lo nw se : Int32) (pa : Nat → Nat) (an ln : Nat) (x : Nat → Nat) (y0 : Nat) (n : Int32) (xv : Nat → Int32) (k : Nat) (f : Nat → Int32) (he : en n F G (x 0) y0) (hk : k < 4) : Met l yX3_allowed wsX3_allowed ({ frames := 1, cells := 0, slots := 0, locals := 21 }) (va_Pc [.ref o, .int n, .int (nI k)] (zU D cA sz [(o, .inr (4, [.ref F, .ref G, .int lo, .int nw, .int se, .ref (pa 0), .ref an, .ref ln])), cE x xv, (x 8, .inl (cA 0, 4, .inl f))])) (va_Qi (fun (r : Int32) (_ : Unit) => r = (if xv 0 = 3 ∨ xv 0 = 4 then f k else -1)) (fun (_ : Unit) t => zB D [(o, .inr (4, [.ref F, .ref G, .int lo, .int nw, .int se, .ref (pa 0), .ref an, .ref ln])), cE x xv, (x 8, .inl (cA 0, 4, .inl f))] sz [(o, .inr (4, [.ref F, .ref G, .int lo, .int nw, .int se, .ref (pa 0), .ref an, .ref ln])), cE x xv, (x 8, .inl (cA 0, 4, .inl f))] t) (va_A [(o, .inr (4, [.ref F, .ref G, .int lo, .int nw, .int se, .ref (pa 0), .ref an, .ref ln])), cE x xv, (x 8, .inl (cA 0, 4, .inl f))] sz)) 0 0 (va_A [(o, .inr (4, [.ref F, .ref G, .int lo, .int nw, .int se, .ref (pa 0), .ref an, .ref ln])), cE x xv, (x 8, .inl (cA 0, 4, .inl f))] sz) := by
  refine Met.ofW (cc := cX3_allowed) (maxL := 5) (ret := (some .int)) (by decide) rfl ?_
  intro p e s m args below meth c s₁ B hml hv
  obtain ⟨rfl, hsz, hP, hK, hD0⟩ := hv
  have hx := B.exec
  have hb := B.bytes
  have hr := B.returns
  have hts := atoms_spec (ws := wsX3_allowed) B.pre
  have hown : s.vm.findClass RX3 = some m.cls := findClass_of_methodNamed B.named
  have hlocks := B.notSynchronized
  subst hsz
  have hD := hD0.self (sz := s.heap.size)
  generalize hAe : va_A [(o, .inr (4, [.ref F, .ref G, .int lo, .int nw, .int se, .ref (pa 0), .ref an, .ref ln])), cE x xv, (x 8, .inl (cA 0, 4, .inl f))] s.heap.size = A at hD ⊢
  have hA : ∀ q : Nat, s.heap.size ≤ q → A q := fun q h => by rw [← hAe]; exact Or.inr h
  have hS : va_S A s.heap s.heap [] := va_S.rf
  have hl := lv_entry ([.ref o, .int n, .int (nI k)]) (n := 5) (Nat.le_of_ble_eq_true rfl)
  rw [lg_entry_eq]
  generalize (lg_sl ([.ref o, .int n, .int (nI k)]) ++ List.replicate (5 - (lg_sl ([.ref o, .int n, .int (nI k)])).length) Slot.unset).toArray = ls at hl ⊢
  have hl : lv_has ls 5 [(0, .ref o), (1, .int n), (2, .int (nI k))] := hl
  refine lv_iload_n hx hb dX3_allowed_0 rfl (lv_at hl 1 rfl) ?_
  have hPc := hP.sub (ws' := []) [] rfl
  have hDc := hD.sub (ws' := []) [] (by decide) rfl
  have hFc := va_free (wc := []) hD hS hA [] rfl
  refine va_callv (va_runS (As := [.int n]) (rest := []) ⟨hx, hb, hml, hown, hts⟩ (c_X3_checkEnd_k l D cA s.heap.size n (en_inr he)) (va_cwS 1 hts gX3_allowed_X3_checkEnd rfl rfl rfl (by decide +kernel) ⟨Nat.le_of_ble_eq_true rfl, Nat.le_of_ble_eq_true rfl⟩) ⟨zU_blind, fun U hU hW => ⟨rfl, zU_call hU hPc hW.alike hK hDc⟩⟩ rfl rfl hl.1 rfl (lv_room (Nat.le_of_ble_eq_true rfl)) dX3_allowed_1 ⟨(Nat.zero_le _), (Nat.zero_le _)⟩) hS (fun q _ h => hFc q h) hFc (fun u t H1 locs ht hvm hw hB hz1 hk1 hS => ?_)
  obtain ⟨hP1, hD1⟩ := hB
  rw [ht] at hP1
  obtain ⟨hP, hD⟩ := va_join (wr := [(o, .inr (4, [.ref F, .ref G, .int lo, .int nw, .int se, .ref (pa 0), .ref an, .ref ln])), cE x xv, (x 8, .inl (cA 0, 4, .inl f))]) (w1 := []) hP hD [] [0, 1, 2] rfl rfl (by decide) (by decide) hk1 hFc hP1 hD1
  generalize H1 = H at hP hS ⊢
  have hP := hP.sub (ws' := [(o, .inr (4, [.ref F, .ref G, .int lo, .int nw, .int se, .ref (pa 0), .ref an, .ref ln])), cE x xv, (x 8, .inl (cA 0, 4, .inl f))]) [0, 1, 2] rfl
  have hD := hD.sub (ws' := [(o, .inr (4, [.ref F, .ref G, .int lo, .int nw, .int se, .ref (pa 0), .ref an, .ref ln])), cE x xv, (x 8, .inl (cA 0, 4, .inl f))]) [0, 1, 2] (by decide) rfl
  clear hPc hDc hFc hP1 hD1 hk1 hz1
  have hw_1 := hw
  refine lv_iload_n hx hb dX3_allowed_4 rfl (lv_at hl 2 rfl) ?_
  have hPc := hP.sub (ws' := []) [] rfl
  have hDc := hD.sub (ws' := []) [] (by decide) rfl
  have hFc := va_free (wc := []) hD hS hA [] rfl
  refine va_callv (va_runS (As := [.int (nI k)]) (rest := []) ⟨hx, hb, hml, hown, hts⟩ (c_X3_checkOption_k l D cA H.size (nI k) (inr_k hk)) (va_cwS 1 hts gX3_allowed_X3_checkOption rfl rfl rfl (by decide +kernel) ⟨Nat.le_of_ble_eq_true rfl, Nat.le_of_ble_eq_true rfl⟩) ⟨zU_blind, fun U hU hW => ⟨rfl, zU_call hU hPc hW.alike hK hDc⟩⟩ rfl rfl hl.1 rfl (lv_room (Nat.le_of_ble_eq_true rfl)) dX3_allowed_5 ⟨(Nat.zero_le _), (Nat.zero_le _)⟩) hS (fun q _ h => hFc q h) hFc (fun u t H1 locs ht hvm hw hB hz1 hk1 hS => ?_)
  obtain ⟨hP1, hD1⟩ := hB
  rw [ht] at hP1
  obtain ⟨hP, hD⟩ := va_join (wr := [(o, .inr (4, [.ref F, .ref G, .int lo, .int nw, .int se, .ref (pa 0), .ref an, .ref ln])), cE x xv, (x 8, .inl (cA 0, 4, .inl f))]) (w1 := []) hP hD [] [0, 1, 2] rfl rfl (by decide) (by decide) hk1 hFc hP1 hD1
  generalize H1 = H at hP hS ⊢
  have hP := hP.sub (ws' := [(o, .inr (4, [.ref F, .ref G, .int lo, .int nw, .int se, .ref (pa 0), .ref an, .ref ln])), cE x xv, (x 8, .inl (cA 0, 4, .inl f))]) [0, 1, 2] rfl
  have hD := hD.sub (ws' := [(o, .inr (4, [.ref F, .ref G, .int lo, .int nw, .int se, .ref (pa 0), .ref an, .ref ln])), cE x xv, (x 8, .inl (cA 0, 4, .inl f))]) [0, 1, 2] (by decide) rfl
  clear hPc hDc hFc hP1 hD1 hk1 hz1
  have hw_2 := hw
  refine lv_aload_n hx hb dX3_allowed_8 rfl (lv_at hl 0 rfl) ?_
  refine lv_iload_n hx hb dX3_allowed_9 rfl (lv_at hl 1 rfl) ?_
  have hPc := hP.sub (ws' := [(o, .inr (4, [.ref F, .ref G, .int lo, .int nw, .int se, .ref (pa 0), .ref an, .ref ln]))]) [0] rfl
  have hDc := hD.sub (ws' := [(o, .inr (4, [.ref F, .ref G, .int lo, .int nw, .int se, .ref (pa 0), .ref an, .ref ln]))]) [0] (by decide) rfl
  have hFc := va_free (wc := [(o, .inr (4, [.ref F, .ref G, .int lo, .int nw, .int se, .ref (pa 0), .ref an, .ref ln]))]) hD hS hA [0] rfl
  refine va_callr (va_runV (As := [.int n]) (rest := []) ⟨hx, hb, hml, hown, hts⟩ (c_X3_endOf l D cA H.size o F G lo nw se pa an ln n (x 0) y0 (by assumption)) (cwV 1 hts gX3_allowed_X3_endOf rfl rfl rfl (by decide +kernel) ⟨Nat.le_of_ble_eq_true rfl, Nat.le_of_ble_eq_true rfl⟩) ⟨zU_blind, va_recv hK hPc (ci := 4) (q0 := 0) rfl rfl, fun U hU hW => ⟨rfl, zU_call hU hPc hW.alike hK hDc⟩⟩ rfl rfl hl.1 rfl (lv_room (Nat.le_of_ble_eq_true rfl)) dX3_allowed_10 ⟨(Nat.zero_le _), (Nat.zero_le _)⟩) hS (fun q _ h => hFc q h) hFc (fun u ra t H1 locs ht hvm hw hB hz1 hk1 hS => ?_)
  obtain ⟨hra, hP1, hD1⟩ := hB
  rw [ht] at hP1
  subst ra
  obtain ⟨hP, hD⟩ := va_join (wr := [cE x xv, (x 8, .inl (cA 0, 4, .inl f))]) (w1 := [(o, .inr (4, [.ref F, .ref G, .int lo, .int nw, .int se, .ref (pa 0), .ref an, .ref ln]))]) hP hD [0] [1, 2] rfl rfl (by decide) (by decide) hk1 hFc hP1 hD1
  generalize H1 = H at hP hS ⊢
  have hP := hP.sub (ws' := [(o, .inr (4, [.ref F, .ref G, .int lo, .int nw, .int se, .ref (pa 0), .ref an, .ref ln])), cE x xv, (x 8, .inl (cA 0, 4, .inl f))]) [2, 0, 1] rfl
  have hD := hD.sub (ws' := [(o, .inr (4, [.ref F, .ref G, .int lo, .int nw, .int se, .ref (pa 0), .ref an, .ref ln])), cE x xv, (x 8, .inl (cA 0, 4, .inl f))]) [2, 0, 1] (by decide) rfl
  clear hPc hDc hFc hP1 hD1 hk1 hz1
  have hw_3 := hw
  refine lv_astore_n (lv' := [(3, .ref (x 0)), (0, .ref o), (1, .int n), (2, .int (nI k))]) hx hb dX3_allowed_13 rfl hl (by decide) rfl (fun ls hl => ?_)
  refine lv_aload_n hx hb dX3_allowed_14 rfl (lv_at hl 0 rfl) ?_
  refine va_get (D := D) (ci := 1) (v := .int (xv 0)) (C := RX0) (T := TX0) (N := 16) hx hb hts (fun _ h => List.mem_cons_of_mem _ (List.mem_append_left _ (List.mem_append_left _ (List.mem_append_right _ (h))))) hown hK hP 1 rfl rfl 9 (by decide) (hts (.fieldLink RX3 95 "OptionWire$End" "state" "I") (List.mem_of_getElem? (i := 1) rfl)) (fun _ h9 => h9) rfl dX3_allowed_15 ?_
  refine lv_iconst (v := 3) hx hb dX3_allowed_18 (by decide) ?_
  refine lv_icmp_eq (tgt := 30) hx hb dX3_allowed_19 (by decide) (fun c_4 => ?_) (fun c_4 => ?_)
  · skip
    refine lv_iconst (v := 1) hx hb dX3_allowed_30 (by decide) ?_
    refine lv_goto (tgt := 35) hx hb dX3_allowed_31 (by decide) ?_
    refine lv_istore (lv' := [(4, .int 1), (3, .ref (x 0)), (0, .ref o), (1, .int n), (2, .int (nI k))]) hx hb dX3_allowed_35 hl (by decide) rfl (fun ls hl => ?_)
    refine lv_iload hx hb dX3_allowed_37 (lv_at hl 0 rfl) ?_
    refine lv_if_eq (tgt := 51) hx hb dX3_allowed_39 (by decide) (fun c_5 => absurd c_5 (by decide)) (fun _ => ?_)
    refine lv_aload_n hx hb dX3_allowed_42 rfl (lv_at hl 1 rfl) ?_
    refine va_get (D := D) (ci := 1) (v := .ref (x 8)) (C := RX0) (T := TX0) (N := 16) hx hb hts (fun _ h => List.mem_cons_of_mem _ (List.mem_append_left _ (List.mem_append_left _ (List.mem_append_right _ (h))))) hown hK hP 1 rfl rfl 7 (by decide) (hts (.fieldLink RX3 162 "OptionWire$End" "agreed" "[I") (List.mem_of_getElem? (i := 2) rfl)) (fun _ h9 => h9) rfl dX3_allowed_43 ?_
    refine lv_iload_n hx hb dX3_allowed_46 rfl (lv_at hl 4 rfl) ?_
    refine z_iald (k := k) (v := (f k)) hx hb hK hP 2 0 rfl rfl rfl (by omega) (by decide) rfl dX3_allowed_47 ?_
    refine lv_goto (tgt := 52) hx hb dX3_allowed_48 (by decide) ?_
    refine W.widen (k := 0) (n := 0) (by omega) (by omega) ?_
    exact W.iret (v := (f k)) hx hb hr (fun t ht hW => ⟨⟨f k, (), rfl, by simp [c_4], ⟨by rw [ht]; exact hP, by rw [hAe]; exact hD⟩⟩, hS.F ht⟩) hS.2.2 dX3_allowed_52
  · skip
    refine lv_aload_n hx hb dX3_allowed_22 rfl (lv_at hl 0 rfl) ?_
    refine va_get (D := D) (ci := 1) (v := .int (xv 0)) (C := RX0) (T := TX0) (N := 16) hx hb hts (fun _ h => List.mem_cons_of_mem _ (List.mem_append_left _ (List.mem_append_left _ (List.mem_append_right _ (h))))) hown hK hP 1 rfl rfl 9 (by decide) (hts (.fieldLink RX3 95 "OptionWire$End" "state" "I") (List.mem_of_getElem? (i := 1) rfl)) (fun _ h9 => h9) rfl dX3_allowed_23 ?_
    refine lv_iconst (v := 4) hx hb dX3_allowed_26 (by decide) ?_
    refine lv_icmp_ne (tgt := 34) hx hb dX3_allowed_27 (by decide) (fun c_6 => ?_) (fun c_6 => ?_)
    · skip
      refine lv_iconst (v := 0) hx hb dX3_allowed_34 (by decide) ?_
      refine lv_istore (lv' := [(4, .int 0), (3, .ref (x 0)), (0, .ref o), (1, .int n), (2, .int (nI k))]) hx hb dX3_allowed_35 hl (by decide) rfl (fun ls hl => ?_)
      refine lv_iload hx hb dX3_allowed_37 (lv_at hl 0 rfl) ?_
      refine lv_if_eq (tgt := 51) hx hb dX3_allowed_39 (by decide) (fun _ => ?_) (fun c_7 => absurd c_7 (by decide))
      refine lv_iconst (v := (-1)) hx hb dX3_allowed_51 (by decide) ?_
      refine W.widen (k := 0) (n := 0) (by omega) (by omega) ?_
      exact W.iret (v := (-1)) hx hb hr (fun t ht hW => ⟨⟨(-1), (), rfl, by simp [c_4, c_6], ⟨by rw [ht]; exact hP, by rw [hAe]; exact hD⟩⟩, hS.F ht⟩) hS.2.2 dX3_allowed_52
    · skip
      refine lv_iconst (v := 1) hx hb dX3_allowed_30 (by decide) ?_
      refine lv_goto (tgt := 35) hx hb dX3_allowed_31 (by decide) ?_
      refine lv_istore (lv' := [(4, .int 1), (3, .ref (x 0)), (0, .ref o), (1, .int n), (2, .int (nI k))]) hx hb dX3_allowed_35 hl (by decide) rfl (fun ls hl => ?_)
      refine lv_iload hx hb dX3_allowed_37 (lv_at hl 0 rfl) ?_
      refine lv_if_eq (tgt := 51) hx hb dX3_allowed_39 (by decide) (fun c_8 => absurd c_8 (by decide)) (fun _ => ?_)
      refine lv_aload_n hx hb dX3_allowed_42 rfl (lv_at hl 1 rfl) ?_
      refine va_get (D := D) (ci := 1) (v := .ref (x 8)) (C := RX0) (T := TX0) (N := 16) hx hb hts (fun _ h => List.mem_cons_of_mem _ (List.mem_append_left _ (List.mem_append_left _ (List.mem_append_right _ (h))))) hown hK hP 1 rfl rfl 7 (by decide) (hts (.fieldLink RX3 162 "OptionWire$End" "agreed" "[I") (List.mem_of_getElem? (i := 2) rfl)) (fun _ h9 => h9) rfl dX3_allowed_43 ?_
      refine lv_iload_n hx hb dX3_allowed_46 rfl (lv_at hl 4 rfl) ?_
      refine z_iald (k := k) (v := (f k)) hx hb hK hP 2 0 rfl rfl rfl (by omega) (by decide) rfl dX3_allowed_47 ?_
      refine lv_goto (tgt := 52) hx hb dX3_allowed_48 (by decide) ?_
      refine W.widen (k := 0) (n := 0) (by omega) (by omega) ?_
      exact W.iret (v := (f k)) hx hb hr (fun t ht hW => ⟨⟨f k, (), rfl, by simp [c_4, c_6], ⟨by rw [ht]; exact hP, by rw [hAe]; exact hD⟩⟩, hS.F ht⟩) hS.2.2 dX3_allowed_52
set_option maxHeartbeats 4000000 in
set_option maxRecDepth 100000 in
theorem c_X3_allowed_b (l : Launch) (D : va_G) (cA : Nat → ClassId) (zv : Nat → Nat) (sz : Nat) (hl0 : l.stackTraces = false) (o F G : Nat) (lo nw se : Int32) (pa : Nat → Nat) (an ln : Nat) (n q : Int32) (hbad : ¬ (inr n 0 1 ∧ inr q 0 3)) : vx_Met l yX3_allowed wsX3_allowed ({ frames := 9, cells := 1, slots := 6, locals := 120 }) (va_Pc [.ref o, .int n, .int q] (zUX D cA zv sz [(o, .inr (4, [.ref F, .ref G, .int lo, .int nw, .int se, .ref (pa 0), .ref an, .ref ln]))])) (va_Qi (fun (_ : Int32) (_ : Unit) => False) (fun (_ : Unit) _ => True) (va_A [(o, .inr (4, [.ref F, .ref G, .int lo, .int nw, .int se, .ref (pa 0), .ref an, .ref ln]))] sz)) (vx_X (fun (_ : Unit) => True) (fun E (_ : Unit) t => E = "java/lang/IllegalArgumentException" ∧ zB D [(o, .inr (4, [.ref F, .ref G, .int lo, .int nw, .int se, .ref (pa 0), .ref an, .ref ln]))] sz [(o, .inr (4, [.ref F, .ref G, .int lo, .int nw, .int se, .ref (pa 0), .ref an, .ref ln]))] t) (va_A [(o, .inr (4, [.ref F, .ref G, .int lo, .int nw, .int se, .ref (pa 0), .ref an, .ref ln]))] sz)) 1 6 (va_A [(o, .inr (4, [.ref F, .ref G, .int lo, .int nw, .int se, .ref (pa 0), .ref an, .ref ln]))] sz) := by
  refine vx_ofW (cc := cX3_allowed) (maxL := 5) (ret := (some .int)) (by decide) rfl ?_
  intro p e s m args below meth c s₁ B hml htab hv
  obtain ⟨rfl, ⟨hsz, hP, hK, hD0, hE0⟩, hX0⟩ := hv
  have hx := B.exec
  have hb := B.bytes
  have hr := B.returns
  have hts := atoms_spec (ws := wsX3_allowed) B.pre
  have hown : s.vm.findClass RX3 = some m.cls := findClass_of_methodNamed B.named
  have hlocks := B.notSynchronized
  subst hsz
  have hD := hD0.self (sz := s.heap.size)
  generalize hAe : va_A [(o, .inr (4, [.ref F, .ref G, .int lo, .int nw, .int se, .ref (pa 0), .ref an, .ref ln]))] s.heap.size = A at hD hE0 hX0 ⊢
  have hA : ∀ q : Nat, s.heap.size ≤ q → A q := fun q h => by rw [← hAe]; exact Or.inr h
  have hS : va_S A s.heap s.heap [] := va_S.rf
  have hl := lv_entry ([.ref o, .int n, .int q]) (n := 5) (Nat.le_of_ble_eq_true rfl)
  rw [lg_entry_eq]
  generalize (lg_sl ([.ref o, .int n, .int q]) ++ List.replicate (5 - (lg_sl ([.ref o, .int n, .int q])).length) Slot.unset).toArray = ls at hl ⊢
  have hl : lv_has ls 5 [(0, .ref o), (1, .int n), (2, .int q)] := hl
  refine lv_iload_n hx hb dX3_allowed_0 rfl (lv_at hl 1 rfl) ?_
  by_cases q1 : inr n 0 1
  · skip
    have hPc := hP.sub (ws' := []) [] rfl
    have hDc := hD.sub (ws' := []) [] (by decide) rfl
    have hFc := va_free (wc := []) hD hS hA [] rfl
    refine va_callv (va_runS (As := [.int n]) (rest := []) ⟨hx, hb, hml, hown, hts⟩ (c_X3_checkEnd_k l D cA s.heap.size n q1) (va_cwS 1 hts gX3_allowed_X3_checkEnd rfl rfl rfl (by decide +kernel) ⟨Nat.le_of_ble_eq_true rfl, Nat.le_of_ble_eq_true rfl⟩) ⟨zU_blind, fun U hU hW => ⟨rfl, zU_call hU hPc hW.alike hK hDc⟩⟩ rfl rfl hl.1 rfl (lv_room (Nat.le_of_ble_eq_true rfl)) dX3_allowed_1 ⟨(Nat.zero_le _), (Nat.zero_le _)⟩) hS (fun q _ h => hFc q h) hFc (fun u t H1 locs ht hvm hw hB hz1 hk1 hS => ?_)
    obtain ⟨hP1, hD1⟩ := hB
    rw [ht] at hP1
    obtain ⟨hP, hD⟩ := va_join (wr := [(o, .inr (4, [.ref F, .ref G, .int lo, .int nw, .int se, .ref (pa 0), .ref an, .ref ln]))]) (w1 := []) hP hD [] [0] rfl rfl (by decide) (by decide) hk1 hFc hP1 hD1
    generalize H1 = H at hP hS ⊢
    have hP := hP.sub (ws' := [(o, .inr (4, [.ref F, .ref G, .int lo, .int nw, .int se, .ref (pa 0), .ref an, .ref ln]))]) [0] rfl
    have hD := hD.sub (ws' := [(o, .inr (4, [.ref F, .ref G, .int lo, .int nw, .int se, .ref (pa 0), .ref an, .ref ln]))]) [0] (by decide) rfl
    clear hPc hDc hFc hP1 hD1 hk1 hz1
    have hw_1 := hw
    refine lv_iload_n hx hb dX3_allowed_4 rfl (lv_at hl 2 rfl) ?_
    by_cases q2 : inr q 0 3
    · skip
      have hPc := hP.sub (ws' := []) [] rfl
      have hDc := hD.sub (ws' := []) [] (by decide) rfl
      have hFc := va_free (wc := []) hD hS hA [] rfl
      refine va_callv (va_runS (As := [.int q]) (rest := []) ⟨hx, hb, hml, hown, hts⟩ (c_X3_checkOption_k l D cA H.size q q2) (va_cwS 1 hts gX3_allowed_X3_checkOption rfl rfl rfl (by decide +kernel) ⟨Nat.le_of_ble_eq_true rfl, Nat.le_of_ble_eq_true rfl⟩) ⟨zU_blind, fun U hU hW => ⟨rfl, zU_call hU hPc hW.alike hK hDc⟩⟩ rfl rfl hl.1 rfl (lv_room (Nat.le_of_ble_eq_true rfl)) dX3_allowed_5 ⟨(Nat.zero_le _), (Nat.zero_le _)⟩) hS (fun q _ h => hFc q h) hFc (fun u t H1 locs ht hvm hw hB hz1 hk1 hS => ?_)
      obtain ⟨hP1, hD1⟩ := hB
      rw [ht] at hP1
      obtain ⟨hP, hD⟩ := va_join (wr := [(o, .inr (4, [.ref F, .ref G, .int lo, .int nw, .int se, .ref (pa 0), .ref an, .ref ln]))]) (w1 := []) hP hD [] [0] rfl rfl (by decide) (by decide) hk1 hFc hP1 hD1
      generalize H1 = H at hP hS ⊢
      have hP := hP.sub (ws' := [(o, .inr (4, [.ref F, .ref G, .int lo, .int nw, .int se, .ref (pa 0), .ref an, .ref ln]))]) [0] rfl
      have hD := hD.sub (ws' := [(o, .inr (4, [.ref F, .ref G, .int lo, .int nw, .int se, .ref (pa 0), .ref an, .ref ln]))]) [0] (by decide) rfl
      clear hPc hDc hFc hP1 hD1 hk1 hz1
      have hw_2 := hw
      exact absurd ⟨q1, q2⟩ hbad
    · skip
      have hPc := hP.sub (ws' := []) [] rfl
      have hDc := hD.sub (ws' := []) [] (by decide) rfl
      have hFc := va_free (wc := []) hD hS hA [] rfl
      refine vx_callv (vx_runS (As := [.int q]) (rest := []) ⟨hx, hb, hml, hown, hts⟩ (c_X3_checkOption_t l D cA zv H.size hl0 q q2) (va_cwS 1 hts gX3_allowed_X3_checkOption rfl rfl rfl (by decide +kernel) ⟨Nat.le_of_ble_eq_true rfl, Nat.le_of_ble_eq_true rfl⟩) ⟨zUX_blind, fun U hU hW => ⟨rfl, zUX_call hE0 hX0 hS hFc hU hPc hW hK hDc⟩⟩ rfl rfl hl.1 rfl (lv_room (Nat.le_of_ble_eq_true rfl)) dX3_allowed_5 ⟨Nat.le_of_ble_eq_true rfl, Nat.le_of_ble_eq_true rfl⟩) hS (fun q _ h => hFc q h) hFc (fun q _ h => hFc q h) (fun E9 ce9 q9 u t H1 locs ht hvm hpx hB hz1 hk1 hS hcell hcv hcl => ?_) (fun u t H1 locs1 ht hvm hw _ _ _ _ => hw.elim)
      obtain ⟨rfl, hP1, hD1⟩ := hB
      rw [ht] at hP1
      obtain ⟨hP, hD⟩ := va_join (wr := [(o, .inr (4, [.ref F, .ref G, .int lo, .int nw, .int se, .ref (pa 0), .ref an, .ref ln]))]) (w1 := []) hP hD [] [0] rfl rfl (by decide) (by decide) hk1 hFc hP1 hD1
      have hP := hP.sub (ws' := [(o, .inr (4, [.ref F, .ref G, .int lo, .int nw, .int se, .ref (pa 0), .ref an, .ref ln]))]) [0] rfl
      have hD := hD.sub (ws' := [(o, .inr (4, [.ref F, .ref G, .int lo, .int nw, .int se, .ref (pa 0), .ref an, .ref ln]))]) [0] (by decide) rfl
      exact vx_out (fun x h => (htab x h).elim) hlocks hcell hcv hcl (fun t2 h7 h8 => z_thrO hP hD hS hAe h7) hS.2.2 (by omega) (by omega)
  · skip
    have hPc := hP.sub (ws' := []) [] rfl
    have hDc := hD.sub (ws' := []) [] (by decide) rfl
    have hFc := va_free (wc := []) hD hS hA [] rfl
    refine vx_callv (vx_runS (As := [.int n]) (rest := []) ⟨hx, hb, hml, hown, hts⟩ (c_X3_checkEnd_t l D cA zv s.heap.size hl0 n q1) (va_cwS 1 hts gX3_allowed_X3_checkEnd rfl rfl rfl (by decide +kernel) ⟨Nat.le_of_ble_eq_true rfl, Nat.le_of_ble_eq_true rfl⟩) ⟨zUX_blind, fun U hU hW => ⟨rfl, zUX_call hE0 hX0 hS hFc hU hPc hW hK hDc⟩⟩ rfl rfl hl.1 rfl (lv_room (Nat.le_of_ble_eq_true rfl)) dX3_allowed_1 ⟨Nat.le_of_ble_eq_true rfl, Nat.le_of_ble_eq_true rfl⟩) hS (fun q _ h => hFc q h) hFc (fun q _ h => hFc q h) (fun E9 ce9 q9 u t H1 locs ht hvm hpx hB hz1 hk1 hS hcell hcv hcl => ?_) (fun u t H1 locs1 ht hvm hw _ _ _ _ => hw.elim)
    obtain ⟨rfl, hP1, hD1⟩ := hB
    rw [ht] at hP1
    obtain ⟨hP, hD⟩ := va_join (wr := [(o, .inr (4, [.ref F, .ref G, .int lo, .int nw, .int se, .ref (pa 0), .ref an, .ref ln]))]) (w1 := []) hP hD [] [0] rfl rfl (by decide) (by decide) hk1 hFc hP1 hD1
    have hP := hP.sub (ws' := [(o, .inr (4, [.ref F, .ref G, .int lo, .int nw, .int se, .ref (pa 0), .ref an, .ref ln]))]) [0] rfl
    have hD := hD.sub (ws' := [(o, .inr (4, [.ref F, .ref G, .int lo, .int nw, .int se, .ref (pa 0), .ref an, .ref ln]))]) [0] (by decide) rfl
    exact vx_out (fun x h => (htab x h).elim) hlocks hcell hcv hcl (fun t2 h7 h8 => z_thrO hP hD hS hAe h7) hS.2.2 (by omega) (by omega)
set_option maxHeartbeats 4000000 in
set_option maxRecDepth 100000 in
theorem c_X3_kindAt_k (l : Launch) (D : va_G) (cA : Nat → ClassId) (sz : Nat) (o F G : Nat) (lo nw se : Int32) (pa : Nat → Nat) (an ln : Nat) (x : Nat → Nat) (y0 : Nat) (n : Int32) (xv : Nat → Int32) (xr : Nat → Nat → Int32) (xf : Nat) (QX : Qt) (k : Nat) (he : en n F G (x 0) y0) (hqx : rg xr xf QX) (hk : k < QX.1) : Met l yX3_kindAt wsX3_kindAt ({ frames := 2, cells := 0, slots := 0, locals := 42 }) (va_Pc [.ref o, .int n, .int (nI k)] (zU D cA sz [(o, .inr (4, [.ref F, .ref G, .int lo, .int nw, .int se, .ref (pa 0), .ref an, .ref ln])), cE x xv, (x 9, .inr (3, [.ref (x 10), .ref (x 11), .ref (x 12), .ref (x 13), .int (nI xf), .int (nI QX.1)])), (x 10, .inl (cA 0, 12, .inl (xr 0))), (x 11, .inl (cA 0, 12, .inl (xr 1))), (x 12, .inl (cA 0, 12, .inl (xr 2))), (x 13, .inl (cA 0, 48, .inl (xr 3)))])) (va_Qi (fun (r : Int32) (_ : Unit) => r = QX.2 k 0) (fun (_ : Unit) t => zB D [(o, .inr (4, [.ref F, .ref G, .int lo, .int nw, .int se, .ref (pa 0), .ref an, .ref ln])), cE x xv, (x 9, .inr (3, [.ref (x 10), .ref (x 11), .ref (x 12), .ref (x 13), .int (nI xf), .int (nI QX.1)])), (x 10, .inl (cA 0, 12, .inl (xr 0))), (x 11, .inl (cA 0, 12, .inl (xr 1))), (x 12, .inl (cA 0, 12, .inl (xr 2))), (x 13, .inl (cA 0, 48, .inl (xr 3)))] sz [(o, .inr (4, [.ref F, .ref G, .int lo, .int nw, .int se, .ref (pa 0), .ref an, .ref ln])), cE x xv, (x 9, .inr (3, [.ref (x 10), .ref (x 11), .ref (x 12), .ref (x 13), .int (nI xf), .int (nI QX.1)])), (x 10, .inl (cA 0, 12, .inl (xr 0))), (x 11, .inl (cA 0, 12, .inl (xr 1))), (x 12, .inl (cA 0, 12, .inl (xr 2))), (x 13, .inl (cA 0, 48, .inl (xr 3)))] t) (va_A [(o, .inr (4, [.ref F, .ref G, .int lo, .int nw, .int se, .ref (pa 0), .ref an, .ref ln])), cE x xv, (x 9, .inr (3, [.ref (x 10), .ref (x 11), .ref (x 12), .ref (x 13), .int (nI xf), .int (nI QX.1)])), (x 10, .inl (cA 0, 12, .inl (xr 0))), (x 11, .inl (cA 0, 12, .inl (xr 1))), (x 12, .inl (cA 0, 12, .inl (xr 2))), (x 13, .inl (cA 0, 48, .inl (xr 3)))] sz)) 0 0 (va_A [(o, .inr (4, [.ref F, .ref G, .int lo, .int nw, .int se, .ref (pa 0), .ref an, .ref ln])), cE x xv, (x 9, .inr (3, [.ref (x 10), .ref (x 11), .ref (x 12), .ref (x 13), .int (nI xf), .int (nI QX.1)])), (x 10, .inl (cA 0, 12, .inl (xr 0))), (x 11, .inl (cA 0, 12, .inl (xr 1))), (x 12, .inl (cA 0, 12, .inl (xr 2))), (x 13, .inl (cA 0, 48, .inl (xr 3)))] sz) := by
  refine Met.ofW (cc := cX3_kindAt) (maxL := 4) (ret := (some .int)) (by decide) rfl ?_
  intro p e s m args below meth c s₁ B hml hv
  obtain ⟨rfl, hsz, hP, hK, hD0⟩ := hv
  have hx := B.exec
  have hb := B.bytes
  have hr := B.returns
  have hts := atoms_spec (ws := wsX3_kindAt) B.pre
  have hown : s.vm.findClass RX3 = some m.cls := findClass_of_methodNamed B.named
  have hlocks := B.notSynchronized
  subst hsz
  have hD := hD0.self (sz := s.heap.size)
  generalize hAe : va_A [(o, .inr (4, [.ref F, .ref G, .int lo, .int nw, .int se, .ref (pa 0), .ref an, .ref ln])), cE x xv, (x 9, .inr (3, [.ref (x 10), .ref (x 11), .ref (x 12), .ref (x 13), .int (nI xf), .int (nI QX.1)])), (x 10, .inl (cA 0, 12, .inl (xr 0))), (x 11, .inl (cA 0, 12, .inl (xr 1))), (x 12, .inl (cA 0, 12, .inl (xr 2))), (x 13, .inl (cA 0, 48, .inl (xr 3)))] s.heap.size = A at hD ⊢
  have hA : ∀ q : Nat, s.heap.size ≤ q → A q := fun q h => by rw [← hAe]; exact Or.inr h
  have hS : va_S A s.heap s.heap [] := va_S.rf
  have hl := lv_entry ([.ref o, .int n, .int (nI k)]) (n := 4) (Nat.le_of_ble_eq_true rfl)
  rw [lg_entry_eq]
  generalize (lg_sl ([.ref o, .int n, .int (nI k)]) ++ List.replicate (4 - (lg_sl ([.ref o, .int n, .int (nI k)])).length) Slot.unset).toArray = ls at hl ⊢
  have hl : lv_has ls 4 [(0, .ref o), (1, .int n), (2, .int (nI k))] := hl
  refine lv_iload_n hx hb dX3_kindAt_0 rfl (lv_at hl 1 rfl) ?_
  have hPc := hP.sub (ws' := []) [] rfl
  have hDc := hD.sub (ws' := []) [] (by decide) rfl
  have hFc := va_free (wc := []) hD hS hA [] rfl
  refine va_callv (va_runS (As := [.int n]) (rest := []) ⟨hx, hb, hml, hown, hts⟩ (c_X3_checkEnd_k l D cA s.heap.size n (en_inr he)) (va_cwS 1 hts gX3_kindAt_X3_checkEnd rfl rfl rfl (by decide +kernel) ⟨Nat.le_of_ble_eq_true rfl, Nat.le_of_ble_eq_true rfl⟩) ⟨zU_blind, fun U hU hW => ⟨rfl, zU_call hU hPc hW.alike hK hDc⟩⟩ rfl rfl hl.1 rfl (lv_room (Nat.le_of_ble_eq_true rfl)) dX3_kindAt_1 ⟨(Nat.zero_le _), (Nat.zero_le _)⟩) hS (fun q _ h => hFc q h) hFc (fun u t H1 locs ht hvm hw hB hz1 hk1 hS => ?_)
  obtain ⟨hP1, hD1⟩ := hB
  rw [ht] at hP1
  obtain ⟨hP, hD⟩ := va_join (wr := [(o, .inr (4, [.ref F, .ref G, .int lo, .int nw, .int se, .ref (pa 0), .ref an, .ref ln])), cE x xv, (x 9, .inr (3, [.ref (x 10), .ref (x 11), .ref (x 12), .ref (x 13), .int (nI xf), .int (nI QX.1)])), (x 10, .inl (cA 0, 12, .inl (xr 0))), (x 11, .inl (cA 0, 12, .inl (xr 1))), (x 12, .inl (cA 0, 12, .inl (xr 2))), (x 13, .inl (cA 0, 48, .inl (xr 3)))]) (w1 := []) hP hD [] [0, 1, 2, 3, 4, 5, 6] rfl rfl (by decide) (by decide) hk1 hFc hP1 hD1
  generalize H1 = H at hP hS ⊢
  have hP := hP.sub (ws' := [(o, .inr (4, [.ref F, .ref G, .int lo, .int nw, .int se, .ref (pa 0), .ref an, .ref ln])), cE x xv, (x 9, .inr (3, [.ref (x 10), .ref (x 11), .ref (x 12), .ref (x 13), .int (nI xf), .int (nI QX.1)])), (x 10, .inl (cA 0, 12, .inl (xr 0))), (x 11, .inl (cA 0, 12, .inl (xr 1))), (x 12, .inl (cA 0, 12, .inl (xr 2))), (x 13, .inl (cA 0, 48, .inl (xr 3)))]) [0, 1, 2, 3, 4, 5, 6] rfl
  have hD := hD.sub (ws' := [(o, .inr (4, [.ref F, .ref G, .int lo, .int nw, .int se, .ref (pa 0), .ref an, .ref ln])), cE x xv, (x 9, .inr (3, [.ref (x 10), .ref (x 11), .ref (x 12), .ref (x 13), .int (nI xf), .int (nI QX.1)])), (x 10, .inl (cA 0, 12, .inl (xr 0))), (x 11, .inl (cA 0, 12, .inl (xr 1))), (x 12, .inl (cA 0, 12, .inl (xr 2))), (x 13, .inl (cA 0, 48, .inl (xr 3)))]) [0, 1, 2, 3, 4, 5, 6] (by decide) rfl
  clear hPc hDc hFc hP1 hD1 hk1 hz1
  have hw_1 := hw
  refine lv_aload_n hx hb dX3_kindAt_4 rfl (lv_at hl 0 rfl) ?_
  refine lv_iload_n hx hb dX3_kindAt_5 rfl (lv_at hl 1 rfl) ?_
  have hPc := hP.sub (ws' := [(o, .inr (4, [.ref F, .ref G, .int lo, .int nw, .int se, .ref (pa 0), .ref an, .ref ln]))]) [0] rfl
  have hDc := hD.sub (ws' := [(o, .inr (4, [.ref F, .ref G, .int lo, .int nw, .int se, .ref (pa 0), .ref an, .ref ln]))]) [0] (by decide) rfl
  have hFc := va_free (wc := [(o, .inr (4, [.ref F, .ref G, .int lo, .int nw, .int se, .ref (pa 0), .ref an, .ref ln]))]) hD hS hA [0] rfl
  refine va_callr (va_runV (As := [.int n]) (rest := []) ⟨hx, hb, hml, hown, hts⟩ (c_X3_endOf l D cA H.size o F G lo nw se pa an ln n (x 0) y0 (by assumption)) (cwV 1 hts gX3_kindAt_X3_endOf rfl rfl rfl (by decide +kernel) ⟨Nat.le_of_ble_eq_true rfl, Nat.le_of_ble_eq_true rfl⟩) ⟨zU_blind, va_recv hK hPc (ci := 4) (q0 := 0) rfl rfl, fun U hU hW => ⟨rfl, zU_call hU hPc hW.alike hK hDc⟩⟩ rfl rfl hl.1 rfl (lv_room (Nat.le_of_ble_eq_true rfl)) dX3_kindAt_6 ⟨(Nat.zero_le _), (Nat.zero_le _)⟩) hS (fun q _ h => hFc q h) hFc (fun u ra t H1 locs ht hvm hw hB hz1 hk1 hS => ?_)
  obtain ⟨hra, hP1, hD1⟩ := hB
  rw [ht] at hP1
  subst ra
  obtain ⟨hP, hD⟩ := va_join (wr := [cE x xv, (x 9, .inr (3, [.ref (x 10), .ref (x 11), .ref (x 12), .ref (x 13), .int (nI xf), .int (nI QX.1)])), (x 10, .inl (cA 0, 12, .inl (xr 0))), (x 11, .inl (cA 0, 12, .inl (xr 1))), (x 12, .inl (cA 0, 12, .inl (xr 2))), (x 13, .inl (cA 0, 48, .inl (xr 3)))]) (w1 := [(o, .inr (4, [.ref F, .ref G, .int lo, .int nw, .int se, .ref (pa 0), .ref an, .ref ln]))]) hP hD [0] [1, 2, 3, 4, 5, 6] rfl rfl (by decide) (by decide) hk1 hFc hP1 hD1
  generalize H1 = H at hP hS ⊢
  have hP := hP.sub (ws' := [(o, .inr (4, [.ref F, .ref G, .int lo, .int nw, .int se, .ref (pa 0), .ref an, .ref ln])), cE x xv, (x 9, .inr (3, [.ref (x 10), .ref (x 11), .ref (x 12), .ref (x 13), .int (nI xf), .int (nI QX.1)])), (x 10, .inl (cA 0, 12, .inl (xr 0))), (x 11, .inl (cA 0, 12, .inl (xr 1))), (x 12, .inl (cA 0, 12, .inl (xr 2))), (x 13, .inl (cA 0, 48, .inl (xr 3)))]) [6, 0, 1, 2, 3, 4, 5] rfl
  have hD := hD.sub (ws' := [(o, .inr (4, [.ref F, .ref G, .int lo, .int nw, .int se, .ref (pa 0), .ref an, .ref ln])), cE x xv, (x 9, .inr (3, [.ref (x 10), .ref (x 11), .ref (x 12), .ref (x 13), .int (nI xf), .int (nI QX.1)])), (x 10, .inl (cA 0, 12, .inl (xr 0))), (x 11, .inl (cA 0, 12, .inl (xr 1))), (x 12, .inl (cA 0, 12, .inl (xr 2))), (x 13, .inl (cA 0, 48, .inl (xr 3)))]) [6, 0, 1, 2, 3, 4, 5] (by decide) rfl
  clear hPc hDc hFc hP1 hD1 hk1 hz1
  have hw_2 := hw
  refine va_get (D := D) (ci := 1) (v := .ref (x 9)) (C := RX0) (T := TX0) (N := 16) hx hb hts (fun _ h => List.mem_cons_of_mem _ (List.mem_append_left _ (List.mem_append_left _ (List.mem_append_left _ (List.mem_append_left _ (List.mem_append_right _ (h))))))) hown hK hP 1 rfl rfl 8 (by decide) (hts (.fieldLink RX3 132 "OptionWire$End" "packets" "LOptionWire$PacketQueue;") (List.mem_of_getElem? (i := 1) rfl)) (fun _ h9 => h9) rfl dX3_kindAt_9 ?_
  refine lv_astore_n (lv' := [(3, .ref (x 9)), (0, .ref o), (1, .int n), (2, .int (nI k))]) hx hb dX3_kindAt_12 rfl hl (by decide) rfl (fun ls hl => ?_)
  refine lv_aload_n hx hb dX3_kindAt_13 rfl (lv_at hl 0 rfl) ?_
  refine lv_iload_n hx hb dX3_kindAt_14 rfl (lv_at hl 3 rfl) ?_
  have hPc := hP.sub (ws' := [(x 9, .inr (3, [.ref (x 10), .ref (x 11), .ref (x 12), .ref (x 13), .int (nI xf), .int (nI QX.1)]))]) [2] rfl
  have hDc := hD.sub (ws' := [(x 9, .inr (3, [.ref (x 10), .ref (x 11), .ref (x 12), .ref (x 13), .int (nI xf), .int (nI QX.1)]))]) [2] (by decide) rfl
  have hFc := va_free (wc := [(x 9, .inr (3, [.ref (x 10), .ref (x 11), .ref (x 12), .ref (x 13), .int (nI xf), .int (nI QX.1)]))]) hD hS hA [2] rfl
  refine va_callv (va_runS (As := [.ref (x 9), .int (nI k)]) (rest := []) ⟨hx, hb, hml, hown, hts⟩ (c_X3_checkPlace_k l D cA H.size x xf QX k hk hqx.2.1) (va_cwS 2 hts gX3_kindAt_X3_checkPlace rfl rfl rfl (by decide +kernel) ⟨Nat.le_of_ble_eq_true rfl, Nat.le_of_ble_eq_true rfl⟩) ⟨zU_blind, fun U hU hW => ⟨rfl, zU_call hU hPc hW.alike hK hDc⟩⟩ rfl rfl hl.1 rfl (lv_room (Nat.le_of_ble_eq_true rfl)) dX3_kindAt_15 ⟨(Nat.zero_le _), (Nat.zero_le _)⟩) hS (fun q _ h => hFc q h) hFc (fun u t H1 locs ht hvm hw hB hz1 hk1 hS => ?_)
  obtain ⟨hP1, hD1⟩ := hB
  rw [ht] at hP1
  obtain ⟨hP, hD⟩ := va_join (wr := [(o, .inr (4, [.ref F, .ref G, .int lo, .int nw, .int se, .ref (pa 0), .ref an, .ref ln])), cE x xv, (x 10, .inl (cA 0, 12, .inl (xr 0))), (x 11, .inl (cA 0, 12, .inl (xr 1))), (x 12, .inl (cA 0, 12, .inl (xr 2))), (x 13, .inl (cA 0, 48, .inl (xr 3)))]) (w1 := [(x 9, .inr (3, [.ref (x 10), .ref (x 11), .ref (x 12), .ref (x 13), .int (nI xf), .int (nI QX.1)]))]) hP hD [2] [0, 1, 3, 4, 5, 6] rfl rfl (by decide) (by decide) hk1 hFc hP1 hD1
  generalize H1 = H at hP hS ⊢
  have hP := hP.sub (ws' := [(o, .inr (4, [.ref F, .ref G, .int lo, .int nw, .int se, .ref (pa 0), .ref an, .ref ln])), cE x xv, (x 9, .inr (3, [.ref (x 10), .ref (x 11), .ref (x 12), .ref (x 13), .int (nI xf), .int (nI QX.1)])), (x 10, .inl (cA 0, 12, .inl (xr 0))), (x 11, .inl (cA 0, 12, .inl (xr 1))), (x 12, .inl (cA 0, 12, .inl (xr 2))), (x 13, .inl (cA 0, 48, .inl (xr 3)))]) [0, 1, 6, 2, 3, 4, 5] rfl
  have hD := hD.sub (ws' := [(o, .inr (4, [.ref F, .ref G, .int lo, .int nw, .int se, .ref (pa 0), .ref an, .ref ln])), cE x xv, (x 9, .inr (3, [.ref (x 10), .ref (x 11), .ref (x 12), .ref (x 13), .int (nI xf), .int (nI QX.1)])), (x 10, .inl (cA 0, 12, .inl (xr 0))), (x 11, .inl (cA 0, 12, .inl (xr 1))), (x 12, .inl (cA 0, 12, .inl (xr 2))), (x 13, .inl (cA 0, 48, .inl (xr 3)))]) [0, 1, 6, 2, 3, 4, 5] (by decide) rfl
  clear hPc hDc hFc hP1 hD1 hk1 hz1
  have hw_3 := hw
  refine lv_aload_n hx hb dX3_kindAt_18 rfl (lv_at hl 0 rfl) ?_
  refine lv_iload_n hx hb dX3_kindAt_19 rfl (lv_at hl 3 rfl) ?_
  have hPc := hP.sub (ws' := [(x 9, .inr (3, [.ref (x 10), .ref (x 11), .ref (x 12), .ref (x 13), .int (nI xf), .int (nI QX.1)])), (x 10, .inl (cA 0, 12, .inl (xr 0))), (x 11, .inl (cA 0, 12, .inl (xr 1))), (x 12, .inl (cA 0, 12, .inl (xr 2))), (x 13, .inl (cA 0, 48, .inl (xr 3)))]) [2, 3, 4, 5, 6] rfl
  have hDc := hD.sub (ws' := [(x 9, .inr (3, [.ref (x 10), .ref (x 11), .ref (x 12), .ref (x 13), .int (nI xf), .int (nI QX.1)])), (x 10, .inl (cA 0, 12, .inl (xr 0))), (x 11, .inl (cA 0, 12, .inl (xr 1))), (x 12, .inl (cA 0, 12, .inl (xr 2))), (x 13, .inl (cA 0, 48, .inl (xr 3)))]) [2, 3, 4, 5, 6] (by decide) rfl
  have hFc := va_free (wc := [(x 9, .inr (3, [.ref (x 10), .ref (x 11), .ref (x 12), .ref (x 13), .int (nI xf), .int (nI QX.1)])), (x 10, .inl (cA 0, 12, .inl (xr 0))), (x 11, .inl (cA 0, 12, .inl (xr 1))), (x 12, .inl (cA 0, 12, .inl (xr 2))), (x 13, .inl (cA 0, 48, .inl (xr 3)))]) hD hS hA [2, 3, 4, 5, 6] rfl
  refine va_calli (va_runV (As := [.int (nI k)]) (rest := []) ⟨hx, hb, hml, hown, hts⟩ (c_X2_kindOf l D cA H.size x xf QX xr k hqx hk) (cwV 1 hts gX3_kindAt_X2_kindOf rfl rfl rfl (by decide +kernel) ⟨Nat.le_of_ble_eq_true rfl, Nat.le_of_ble_eq_true rfl⟩) ⟨zU_blind, va_recv hK hPc (ci := 3) (q0 := 0) rfl rfl, fun U hU hW => ⟨rfl, zU_call hU hPc hW.alike hK hDc⟩⟩ rfl rfl hl.1 rfl (lv_room (Nat.le_of_ble_eq_true rfl)) dX3_kindAt_20 ⟨(Nat.zero_le _), (Nat.zero_le _)⟩) hS (fun q _ h => hFc q h) hFc (fun zr u t H1 locs ht hvm hw hB hz1 hk1 hS => ?_)
  obtain ⟨hP1, hD1⟩ := hB
  rw [ht] at hP1
  obtain ⟨hP, hD⟩ := va_join (wr := [(o, .inr (4, [.ref F, .ref G, .int lo, .int nw, .int se, .ref (pa 0), .ref an, .ref ln])), cE x xv]) (w1 := [(x 9, .inr (3, [.ref (x 10), .ref (x 11), .ref (x 12), .ref (x 13), .int (nI xf), .int (nI QX.1)])), (x 10, .inl (cA 0, 12, .inl (xr 0))), (x 11, .inl (cA 0, 12, .inl (xr 1))), (x 12, .inl (cA 0, 12, .inl (xr 2))), (x 13, .inl (cA 0, 48, .inl (xr 3)))]) hP hD [2, 3, 4, 5, 6] [0, 1] rfl rfl (by decide) (by decide) hk1 hFc hP1 hD1
  generalize H1 = H at hP hS ⊢
  have hP := hP.sub (ws' := [(o, .inr (4, [.ref F, .ref G, .int lo, .int nw, .int se, .ref (pa 0), .ref an, .ref ln])), cE x xv, (x 9, .inr (3, [.ref (x 10), .ref (x 11), .ref (x 12), .ref (x 13), .int (nI xf), .int (nI QX.1)])), (x 10, .inl (cA 0, 12, .inl (xr 0))), (x 11, .inl (cA 0, 12, .inl (xr 1))), (x 12, .inl (cA 0, 12, .inl (xr 2))), (x 13, .inl (cA 0, 48, .inl (xr 3)))]) [0, 1, 2, 3, 4, 5, 6] rfl
  have hD := hD.sub (ws' := [(o, .inr (4, [.ref F, .ref G, .int lo, .int nw, .int se, .ref (pa 0), .ref an, .ref ln])), cE x xv, (x 9, .inr (3, [.ref (x 10), .ref (x 11), .ref (x 12), .ref (x 13), .int (nI xf), .int (nI QX.1)])), (x 10, .inl (cA 0, 12, .inl (xr 0))), (x 11, .inl (cA 0, 12, .inl (xr 1))), (x 12, .inl (cA 0, 12, .inl (xr 2))), (x 13, .inl (cA 0, 48, .inl (xr 3)))]) [0, 1, 2, 3, 4, 5, 6] (by decide) rfl
  clear hPc hDc hFc hP1 hD1 hk1 hz1
  have hw_4 := hw
  obtain rfl := hw
  refine W.widen (k := 0) (n := 0) (by omega) (by omega) ?_
  exact W.iret (v := (QX.2 k 0)) hx hb hr (fun t ht hW => ⟨⟨QX.2 k 0, (), rfl, rfl, ⟨by rw [ht]; exact hP, by rw [hAe]; exact hD⟩⟩, hS.F ht⟩) hS.2.2 dX3_kindAt_23
set_option maxHeartbeats 4000000 in
set_option maxRecDepth 100000 in
theorem c_X3_kindAt_p (l : Launch) (D : va_G) (cA : Nat → ClassId) (zv : Nat → Nat) (sz : Nat) (hl0 : l.stackTraces = false) (o F G : Nat) (lo nw se : Int32) (pa : Nat → Nat) (an ln : Nat) (x : Nat → Nat) (y0 : Nat) (n : Int32) (xv : Nat → Int32) (xf : Nat) (QX : Qt) (q : Int32) (he : en n F G (x 0) y0) (hq12 : QX.1 ≤ 12) (hp : ¬ inr q 0 (nI QX.1 - 1)) : vx_Met l yX3_kindAt wsX3_kindAt ({ frames := 9, cells := 1, slots := 6, locals := 121 }) (va_Pc [.ref o, .int n, .int q] (zUX D cA zv sz [(o, .inr (4, [.ref F, .ref G, .int lo, .int nw, .int se, .ref (pa 0), .ref an, .ref ln])), cE x xv, (x 9, .inr (3, [.ref (x 10), .ref (x 11), .ref (x 12), .ref (x 13), .int (nI xf), .int (nI QX.1)]))])) (va_Qi (fun (_ : Int32) (_ : Unit) => False) (fun (_ : Unit) _ => True) (va_A [(o, .inr (4, [.ref F, .ref G, .int lo, .int nw, .int se, .ref (pa 0), .ref an, .ref ln])), cE x xv, (x 9, .inr (3, [.ref (x 10), .ref (x 11), .ref (x 12), .ref (x 13), .int (nI xf), .int (nI QX.1)]))] sz)) (vx_X (fun (_ : Unit) => True) (fun E (_ : Unit) t => E = "java/util/NoSuchElementException" ∧ zB D [(o, .inr (4, [.ref F, .ref G, .int lo, .int nw, .int se, .ref (pa 0), .ref an, .ref ln])), cE x xv, (x 9, .inr (3, [.ref (x 10), .ref (x 11), .ref (x 12), .ref (x 13), .int (nI xf), .int (nI QX.1)]))] sz [(o, .inr (4, [.ref F, .ref G, .int lo, .int nw, .int se, .ref (pa 0), .ref an, .ref ln])), cE x xv, (x 9, .inr (3, [.ref (x 10), .ref (x 11), .ref (x 12), .ref (x 13), .int (nI xf), .int (nI QX.1)]))] t) (va_A [(o, .inr (4, [.ref F, .ref G, .int lo, .int nw, .int se, .ref (pa 0), .ref an, .ref ln])), cE x xv, (x 9, .inr (3, [.ref (x 10), .ref (x 11), .ref (x 12), .ref (x 13), .int (nI xf), .int (nI QX.1)]))] sz)) 1 6 (va_A [(o, .inr (4, [.ref F, .ref G, .int lo, .int nw, .int se, .ref (pa 0), .ref an, .ref ln])), cE x xv, (x 9, .inr (3, [.ref (x 10), .ref (x 11), .ref (x 12), .ref (x 13), .int (nI xf), .int (nI QX.1)]))] sz) := by
  refine vx_ofW (cc := cX3_kindAt) (maxL := 4) (ret := (some .int)) (by decide) rfl ?_
  intro p e s m args below meth c s₁ B hml htab hv
  obtain ⟨rfl, ⟨hsz, hP, hK, hD0, hE0⟩, hX0⟩ := hv
  have hx := B.exec
  have hb := B.bytes
  have hr := B.returns
  have hts := atoms_spec (ws := wsX3_kindAt) B.pre
  have hown : s.vm.findClass RX3 = some m.cls := findClass_of_methodNamed B.named
  have hlocks := B.notSynchronized
  subst hsz
  have hD := hD0.self (sz := s.heap.size)
  generalize hAe : va_A [(o, .inr (4, [.ref F, .ref G, .int lo, .int nw, .int se, .ref (pa 0), .ref an, .ref ln])), cE x xv, (x 9, .inr (3, [.ref (x 10), .ref (x 11), .ref (x 12), .ref (x 13), .int (nI xf), .int (nI QX.1)]))] s.heap.size = A at hD hE0 hX0 ⊢
  have hA : ∀ q : Nat, s.heap.size ≤ q → A q := fun q h => by rw [← hAe]; exact Or.inr h
  have hS : va_S A s.heap s.heap [] := va_S.rf
  have hl := lv_entry ([.ref o, .int n, .int q]) (n := 4) (Nat.le_of_ble_eq_true rfl)
  rw [lg_entry_eq]
  generalize (lg_sl ([.ref o, .int n, .int q]) ++ List.replicate (4 - (lg_sl ([.ref o, .int n, .int q])).length) Slot.unset).toArray = ls at hl ⊢
  have hl : lv_has ls 4 [(0, .ref o), (1, .int n), (2, .int q)] := hl
  refine lv_iload_n hx hb dX3_kindAt_0 rfl (lv_at hl 1 rfl) ?_
  have hPc := hP.sub (ws' := []) [] rfl
  have hDc := hD.sub (ws' := []) [] (by decide) rfl
  have hFc := va_free (wc := []) hD hS hA [] rfl
  refine va_callv (va_runS (As := [.int n]) (rest := []) ⟨hx, hb, hml, hown, hts⟩ (c_X3_checkEnd_k l D cA s.heap.size n (en_inr he)) (va_cwS 1 hts gX3_kindAt_X3_checkEnd rfl rfl rfl (by decide +kernel) ⟨Nat.le_of_ble_eq_true rfl, Nat.le_of_ble_eq_true rfl⟩) ⟨zU_blind, fun U hU hW => ⟨rfl, zU_call hU hPc hW.alike hK hDc⟩⟩ rfl rfl hl.1 rfl (lv_room (Nat.le_of_ble_eq_true rfl)) dX3_kindAt_1 ⟨(Nat.zero_le _), (Nat.zero_le _)⟩) hS (fun q _ h => hFc q h) hFc (fun u t H1 locs ht hvm hw hB hz1 hk1 hS => ?_)
  obtain ⟨hP1, hD1⟩ := hB
  rw [ht] at hP1
  obtain ⟨hP, hD⟩ := va_join (wr := [(o, .inr (4, [.ref F, .ref G, .int lo, .int nw, .int se, .ref (pa 0), .ref an, .ref ln])), cE x xv, (x 9, .inr (3, [.ref (x 10), .ref (x 11), .ref (x 12), .ref (x 13), .int (nI xf), .int (nI QX.1)]))]) (w1 := []) hP hD [] [0, 1, 2] rfl rfl (by decide) (by decide) hk1 hFc hP1 hD1
  generalize H1 = H at hP hS ⊢
  have hP := hP.sub (ws' := [(o, .inr (4, [.ref F, .ref G, .int lo, .int nw, .int se, .ref (pa 0), .ref an, .ref ln])), cE x xv, (x 9, .inr (3, [.ref (x 10), .ref (x 11), .ref (x 12), .ref (x 13), .int (nI xf), .int (nI QX.1)]))]) [0, 1, 2] rfl
  have hD := hD.sub (ws' := [(o, .inr (4, [.ref F, .ref G, .int lo, .int nw, .int se, .ref (pa 0), .ref an, .ref ln])), cE x xv, (x 9, .inr (3, [.ref (x 10), .ref (x 11), .ref (x 12), .ref (x 13), .int (nI xf), .int (nI QX.1)]))]) [0, 1, 2] (by decide) rfl
  clear hPc hDc hFc hP1 hD1 hk1 hz1
  have hw_1 := hw
  refine lv_aload_n hx hb dX3_kindAt_4 rfl (lv_at hl 0 rfl) ?_
  refine lv_iload_n hx hb dX3_kindAt_5 rfl (lv_at hl 1 rfl) ?_
  have hPc := hP.sub (ws' := [(o, .inr (4, [.ref F, .ref G, .int lo, .int nw, .int se, .ref (pa 0), .ref an, .ref ln]))]) [0] rfl
  have hDc := hD.sub (ws' := [(o, .inr (4, [.ref F, .ref G, .int lo, .int nw, .int se, .ref (pa 0), .ref an, .ref ln]))]) [0] (by decide) rfl
  have hFc := va_free (wc := [(o, .inr (4, [.ref F, .ref G, .int lo, .int nw, .int se, .ref (pa 0), .ref an, .ref ln]))]) hD hS hA [0] rfl
  refine va_callr (va_runV (As := [.int n]) (rest := []) ⟨hx, hb, hml, hown, hts⟩ (c_X3_endOf l D cA H.size o F G lo nw se pa an ln n (x 0) y0 (by assumption)) (cwV 1 hts gX3_kindAt_X3_endOf rfl rfl rfl (by decide +kernel) ⟨Nat.le_of_ble_eq_true rfl, Nat.le_of_ble_eq_true rfl⟩) ⟨zU_blind, va_recv hK hPc (ci := 4) (q0 := 0) rfl rfl, fun U hU hW => ⟨rfl, zU_call hU hPc hW.alike hK hDc⟩⟩ rfl rfl hl.1 rfl (lv_room (Nat.le_of_ble_eq_true rfl)) dX3_kindAt_6 ⟨(Nat.zero_le _), (Nat.zero_le _)⟩) hS (fun q _ h => hFc q h) hFc (fun u ra t H1 locs ht hvm hw hB hz1 hk1 hS => ?_)
  obtain ⟨hra, hP1, hD1⟩ := hB
  rw [ht] at hP1
  subst ra
  obtain ⟨hP, hD⟩ := va_join (wr := [cE x xv, (x 9, .inr (3, [.ref (x 10), .ref (x 11), .ref (x 12), .ref (x 13), .int (nI xf), .int (nI QX.1)]))]) (w1 := [(o, .inr (4, [.ref F, .ref G, .int lo, .int nw, .int se, .ref (pa 0), .ref an, .ref ln]))]) hP hD [0] [1, 2] rfl rfl (by decide) (by decide) hk1 hFc hP1 hD1
  generalize H1 = H at hP hS ⊢
  have hP := hP.sub (ws' := [(o, .inr (4, [.ref F, .ref G, .int lo, .int nw, .int se, .ref (pa 0), .ref an, .ref ln])), cE x xv, (x 9, .inr (3, [.ref (x 10), .ref (x 11), .ref (x 12), .ref (x 13), .int (nI xf), .int (nI QX.1)]))]) [2, 0, 1] rfl
  have hD := hD.sub (ws' := [(o, .inr (4, [.ref F, .ref G, .int lo, .int nw, .int se, .ref (pa 0), .ref an, .ref ln])), cE x xv, (x 9, .inr (3, [.ref (x 10), .ref (x 11), .ref (x 12), .ref (x 13), .int (nI xf), .int (nI QX.1)]))]) [2, 0, 1] (by decide) rfl
  clear hPc hDc hFc hP1 hD1 hk1 hz1
  have hw_2 := hw
  refine va_get (D := D) (ci := 1) (v := .ref (x 9)) (C := RX0) (T := TX0) (N := 16) hx hb hts (fun _ h => List.mem_cons_of_mem _ (List.mem_append_left _ (List.mem_append_left _ (List.mem_append_left _ (List.mem_append_left _ (List.mem_append_right _ (h))))))) hown hK hP 1 rfl rfl 8 (by decide) (hts (.fieldLink RX3 132 "OptionWire$End" "packets" "LOptionWire$PacketQueue;") (List.mem_of_getElem? (i := 1) rfl)) (fun _ h9 => h9) rfl dX3_kindAt_9 ?_
  refine lv_astore_n (lv' := [(3, .ref (x 9)), (0, .ref o), (1, .int n), (2, .int q)]) hx hb dX3_kindAt_12 rfl hl (by decide) rfl (fun ls hl => ?_)
  refine lv_aload_n hx hb dX3_kindAt_13 rfl (lv_at hl 0 rfl) ?_
  refine lv_iload_n hx hb dX3_kindAt_14 rfl (lv_at hl 3 rfl) ?_
  have hPc := hP.sub (ws' := [(x 9, .inr (3, [.ref (x 10), .ref (x 11), .ref (x 12), .ref (x 13), .int (nI xf), .int (nI QX.1)]))]) [2] rfl
  have hDc := hD.sub (ws' := [(x 9, .inr (3, [.ref (x 10), .ref (x 11), .ref (x 12), .ref (x 13), .int (nI xf), .int (nI QX.1)]))]) [2] (by decide) rfl
  have hFc := va_free (wc := [(x 9, .inr (3, [.ref (x 10), .ref (x 11), .ref (x 12), .ref (x 13), .int (nI xf), .int (nI QX.1)]))]) hD hS hA [2] rfl
  refine vx_callv (vx_runS (As := [.ref (x 9), .int q]) (rest := []) ⟨hx, hb, hml, hown, hts⟩ (c_X3_checkPlace_t l D cA zv H.size hl0 x xf QX q hp (by assumption)) (va_cwS 2 hts gX3_kindAt_X3_checkPlace rfl rfl rfl (by decide +kernel) ⟨Nat.le_of_ble_eq_true rfl, Nat.le_of_ble_eq_true rfl⟩) ⟨zUX_blind, fun U hU hW => ⟨rfl, zUX_call hE0 hX0 hS hFc hU hPc hW hK hDc⟩⟩ rfl rfl hl.1 rfl (lv_room (Nat.le_of_ble_eq_true rfl)) dX3_kindAt_15 ⟨Nat.le_of_ble_eq_true rfl, Nat.le_of_ble_eq_true rfl⟩) hS (fun q _ h => hFc q h) hFc (fun q _ h => hFc q h) (fun E9 ce9 q9 u t H1 locs ht hvm hpx hB hz1 hk1 hS hcell hcv hcl => ?_) (fun u t H1 locs1 ht hvm hw _ _ _ _ => hw.elim)
  obtain ⟨rfl, hP1, hD1⟩ := hB
  rw [ht] at hP1
  obtain ⟨hP, hD⟩ := va_join (wr := [(o, .inr (4, [.ref F, .ref G, .int lo, .int nw, .int se, .ref (pa 0), .ref an, .ref ln])), cE x xv]) (w1 := [(x 9, .inr (3, [.ref (x 10), .ref (x 11), .ref (x 12), .ref (x 13), .int (nI xf), .int (nI QX.1)]))]) hP hD [2] [0, 1] rfl rfl (by decide) (by decide) hk1 hFc hP1 hD1
  have hP := hP.sub (ws' := [(o, .inr (4, [.ref F, .ref G, .int lo, .int nw, .int se, .ref (pa 0), .ref an, .ref ln])), cE x xv, (x 9, .inr (3, [.ref (x 10), .ref (x 11), .ref (x 12), .ref (x 13), .int (nI xf), .int (nI QX.1)]))]) [0, 1, 2] rfl
  have hD := hD.sub (ws' := [(o, .inr (4, [.ref F, .ref G, .int lo, .int nw, .int se, .ref (pa 0), .ref an, .ref ln])), cE x xv, (x 9, .inr (3, [.ref (x 10), .ref (x 11), .ref (x 12), .ref (x 13), .int (nI xf), .int (nI QX.1)]))]) [0, 1, 2] (by decide) rfl
  exact vx_out (fun x h => (htab x h).elim) hlocks hcell hcv hcl (fun t2 h7 h8 => z_thrO hP hD hS hAe h7) hS.2.2 (by omega) (by omega)
set_option maxHeartbeats 4000000 in
set_option maxRecDepth 100000 in
theorem c_X3_kindAt_b (l : Launch) (D : va_G) (cA : Nat → ClassId) (zv : Nat → Nat) (sz : Nat) (hl0 : l.stackTraces = false) (o F G : Nat) (lo nw se : Int32) (pa : Nat → Nat) (an ln : Nat) (n q : Int32) (hbad : ¬ inr n 0 1) : vx_Met l yX3_kindAt wsX3_kindAt ({ frames := 9, cells := 1, slots := 6, locals := 120 }) (va_Pc [.ref o, .int n, .int q] (zUX D cA zv sz [(o, .inr (4, [.ref F, .ref G, .int lo, .int nw, .int se, .ref (pa 0), .ref an, .ref ln]))])) (va_Qi (fun (_ : Int32) (_ : Unit) => False) (fun (_ : Unit) _ => True) (va_A [(o, .inr (4, [.ref F, .ref G, .int lo, .int nw, .int se, .ref (pa 0), .ref an, .ref ln]))] sz)) (vx_X (fun (_ : Unit) => True) (fun E (_ : Unit) t => E = "java/lang/IllegalArgumentException" ∧ zB D [(o, .inr (4, [.ref F, .ref G, .int lo, .int nw, .int se, .ref (pa 0), .ref an, .ref ln]))] sz [(o, .inr (4, [.ref F, .ref G, .int lo, .int nw, .int se, .ref (pa 0), .ref an, .ref ln]))] t) (va_A [(o, .inr (4, [.ref F, .ref G, .int lo, .int nw, .int se, .ref (pa 0), .ref an, .ref ln]))] sz)) 1 6 (va_A [(o, .inr (4, [.ref F, .ref G, .int lo, .int nw, .int se, .ref (pa 0), .ref an, .ref ln]))] sz) := by
  refine vx_ofW (cc := cX3_kindAt) (maxL := 4) (ret := (some .int)) (by decide) rfl ?_
  intro p e s m args below meth c s₁ B hml htab hv
  obtain ⟨rfl, ⟨hsz, hP, hK, hD0, hE0⟩, hX0⟩ := hv
  have hx := B.exec
  have hb := B.bytes
  have hr := B.returns
  have hts := atoms_spec (ws := wsX3_kindAt) B.pre
  have hown : s.vm.findClass RX3 = some m.cls := findClass_of_methodNamed B.named
  have hlocks := B.notSynchronized
  subst hsz
  have hD := hD0.self (sz := s.heap.size)
  generalize hAe : va_A [(o, .inr (4, [.ref F, .ref G, .int lo, .int nw, .int se, .ref (pa 0), .ref an, .ref ln]))] s.heap.size = A at hD hE0 hX0 ⊢
  have hA : ∀ q : Nat, s.heap.size ≤ q → A q := fun q h => by rw [← hAe]; exact Or.inr h
  have hS : va_S A s.heap s.heap [] := va_S.rf
  have hl := lv_entry ([.ref o, .int n, .int q]) (n := 4) (Nat.le_of_ble_eq_true rfl)
  rw [lg_entry_eq]
  generalize (lg_sl ([.ref o, .int n, .int q]) ++ List.replicate (4 - (lg_sl ([.ref o, .int n, .int q])).length) Slot.unset).toArray = ls at hl ⊢
  have hl : lv_has ls 4 [(0, .ref o), (1, .int n), (2, .int q)] := hl
  refine lv_iload_n hx hb dX3_kindAt_0 rfl (lv_at hl 1 rfl) ?_
  have hPc := hP.sub (ws' := []) [] rfl
  have hDc := hD.sub (ws' := []) [] (by decide) rfl
  have hFc := va_free (wc := []) hD hS hA [] rfl
  refine vx_callv (vx_runS (As := [.int n]) (rest := []) ⟨hx, hb, hml, hown, hts⟩ (c_X3_checkEnd_t l D cA zv s.heap.size hl0 n hbad) (va_cwS 1 hts gX3_kindAt_X3_checkEnd rfl rfl rfl (by decide +kernel) ⟨Nat.le_of_ble_eq_true rfl, Nat.le_of_ble_eq_true rfl⟩) ⟨zUX_blind, fun U hU hW => ⟨rfl, zUX_call hE0 hX0 hS hFc hU hPc hW hK hDc⟩⟩ rfl rfl hl.1 rfl (lv_room (Nat.le_of_ble_eq_true rfl)) dX3_kindAt_1 ⟨Nat.le_of_ble_eq_true rfl, Nat.le_of_ble_eq_true rfl⟩) hS (fun q _ h => hFc q h) hFc (fun q _ h => hFc q h) (fun E9 ce9 q9 u t H1 locs ht hvm hpx hB hz1 hk1 hS hcell hcv hcl => ?_) (fun u t H1 locs1 ht hvm hw _ _ _ _ => hw.elim)
  obtain ⟨rfl, hP1, hD1⟩ := hB
  rw [ht] at hP1
  obtain ⟨hP, hD⟩ := va_join (wr := [(o, .inr (4, [.ref F, .ref G, .int lo, .int nw, .int se, .ref (pa 0), .ref an, .ref ln]))]) (w1 := []) hP hD [] [0] rfl rfl (by decide) (by decide) hk1 hFc hP1 hD1
  have hP := hP.sub (ws' := [(o, .inr (4, [.ref F, .ref G, .int lo, .int nw, .int se, .ref (pa 0), .ref an, .ref ln]))]) [0] rfl
  have hD := hD.sub (ws' := [(o, .inr (4, [.ref F, .ref G, .int lo, .int nw, .int se, .ref (pa 0), .ref an, .ref ln]))]) [0] (by decide) rfl
  exact vx_out (fun x h => (htab x h).elim) hlocks hcell hcv hcl (fun t2 h7 h8 => z_thrO hP hD hS hAe h7) hS.2.2 (by omega) (by omega)
set_option maxHeartbeats 4000000 in
set_option maxRecDepth 100000 in
theorem c_X3_loop_k (l : Launch) (D : va_G) (cA : Nat → ClassId) (sz : Nat) (o F G : Nat) (lo nw se : Int32) (pa : Nat → Nat) (an ln : Nat) (q : Int32) (ho : q = 0 ∨ q = 1) (hlo : lo = 0 ∨ lo = 1) : Met l yX3_loop wsX3_loop ({ frames := 0, cells := 0, slots := 0, locals := 0 }) (va_Pc [.ref o, .int q] (zU D cA sz [(o, .inr (4, [.ref F, .ref G, .int lo, .int nw, .int se, .ref (pa 0), .ref an, .ref ln]))])) (va_Qi (fun (r : Int32) (_ : Unit) => r = lo) (fun (_ : Unit) t => zB D [(o, .inr (4, [.ref F, .ref G, .int lo, .int nw, .int se, .ref (pa 0), .ref an, .ref ln]))] sz [(o, .inr (4, [.ref F, .ref G, .int q, .int nw, .int se, .ref (pa 0), .ref an, .ref ln]))] t) (va_A [(o, .inr (4, [.ref F, .ref G, .int lo, .int nw, .int se, .ref (pa 0), .ref an, .ref ln]))] sz)) 0 0 (va_A [(o, .inr (4, [.ref F, .ref G, .int lo, .int nw, .int se, .ref (pa 0), .ref an, .ref ln]))] sz) := by
  refine Met.ofW (cc := cX3_loop) (maxL := 3) (ret := (some .boolean)) (by decide) rfl ?_
  intro p e s m args below meth c s₁ B hml hv
  obtain ⟨rfl, hsz, hP, hK, hD0⟩ := hv
  have hx := B.exec
  have hb := B.bytes
  have hr := B.returns
  have hts := atoms_spec (ws := wsX3_loop) B.pre
  have hown : s.vm.findClass RX3 = some m.cls := findClass_of_methodNamed B.named
  have hlocks := B.notSynchronized
  subst hsz
  have hD := hD0.self (sz := s.heap.size)
  generalize hAe : va_A [(o, .inr (4, [.ref F, .ref G, .int lo, .int nw, .int se, .ref (pa 0), .ref an, .ref ln]))] s.heap.size = A at hD ⊢
  have hA : ∀ q : Nat, s.heap.size ≤ q → A q := fun q h => by rw [← hAe]; exact Or.inr h
  have hS : va_S A s.heap s.heap [] := va_S.rf
  have hl := lv_entry ([.ref o, .int q]) (n := 3) (Nat.le_of_ble_eq_true rfl)
  rw [lg_entry_eq]
  generalize (lg_sl ([.ref o, .int q]) ++ List.replicate (3 - (lg_sl ([.ref o, .int q])).length) Slot.unset).toArray = ls at hl ⊢
  have hl : lv_has ls 3 [(0, .ref o), (1, .int q)] := hl
  refine lv_aload_n hx hb dX3_loop_0 rfl (lv_at hl 0 rfl) ?_
  refine va_get (D := D) (ci := 4) (v := .int lo) (C := RX3) (T := TX3) (N := 8) hx hb hts (fun _ h => List.mem_cons_of_mem _ (List.mem_append_right _ (h))) hown hK hP 0 rfl rfl 2 (by decide) (hts (.fieldLink RX3 19 "OptionWire" "looped" "Z") (List.mem_of_getElem? (i := 1) rfl)) (fun _ h9 => h9) rfl dX3_loop_1 ?_
  refine lv_istore_n (lv' := [(2, .int lo), (0, .ref o), (1, .int q)]) hx hb dX3_loop_4 rfl hl (by decide) rfl (fun ls hl => ?_)
  refine lv_aload_n hx hb dX3_loop_5 rfl (lv_at hl 1 rfl) ?_
  refine lv_iload_n hx hb dX3_loop_6 rfl (lv_at hl 2 rfl) ?_
  refine va_put (D := D) (ci := 4) (v := .int q) (ty := .boolean) (C := RX3) (T := TX3) (N := 8) hx hb hts (fun _ h => List.mem_cons_of_mem _ (List.mem_append_right _ (h))) tyX3 tyX3_ok nmX3 hown hK hP hD hS 0 rfl rfl 2 (by decide) (hts (.fieldLink RX3 19 "OptionWire" "looped" "Z") (List.mem_of_getElem? (i := 1) rfl)) (fun _ h9 => h9) rfl (by decide +kernel) (narz ho) (fitz ho) (Nat.le_of_ble_eq_true rfl) dX3_loop_7 (fun H locs hP hD hS => ?_)
  have hP : va_P D vwCl [(o, .inr (4, [.ref F, .ref G, .int q, .int nw, .int se, .ref (pa 0), .ref an, .ref ln]))] H := hP
  have hD : va_D A [(o, .inr (4, [.ref F, .ref G, .int q, .int nw, .int se, .ref (pa 0), .ref an, .ref ln]))] := hD
  refine lv_iload_n hx hb dX3_loop_10 rfl (lv_at hl 0 rfl) ?_
  refine W.widen (k := 0) (n := 0) (by omega) (by omega) ?_
  exact W.zret (v := lo) hx hb hr (narz hlo) (fun t ht hW => ⟨⟨lo, (), rfl, rfl, ⟨by rw [ht]; exact hP, by rw [hAe]; exact hD⟩⟩, hS.F ht⟩) hS.2.2 dX3_loop_11
set_option maxHeartbeats 4000000 in
set_option maxRecDepth 100000 in
theorem c_X3_time_k (l : Launch) (D : va_G) (cA : Nat → ClassId) (sz : Nat) (o F G : Nat) (lo nw se : Int32) (pa : Nat → Nat) (an ln : Nat)  : Met l yX3_time wsX3_time ({ frames := 0, cells := 0, slots := 0, locals := 0 }) (va_Pc [.ref o] (zU D cA sz [(o, .inr (4, [.ref F, .ref G, .int lo, .int nw, .int se, .ref (pa 0), .ref an, .ref ln]))])) (va_Qi (fun (r : Int32) (_ : Unit) => r = nw) (fun (_ : Unit) t => zB D [(o, .inr (4, [.ref F, .ref G, .int lo, .int nw, .int se, .ref (pa 0), .ref an, .ref ln]))] sz [(o, .inr (4, [.ref F, .ref G, .int lo, .int nw, .int se, .ref (pa 0), .ref an, .ref ln]))] t) (va_A [(o, .inr (4, [.ref F, .ref G, .int lo, .int nw, .int se, .ref (pa 0), .ref an, .ref ln]))] sz)) 0 0 (va_A [(o, .inr (4, [.ref F, .ref G, .int lo, .int nw, .int se, .ref (pa 0), .ref an, .ref ln]))] sz) := by
  refine Met.ofW (cc := cX3_time) (maxL := 1) (ret := (some .int)) (by decide) rfl ?_
  intro p e s m args below meth c s₁ B hml hv
  obtain ⟨rfl, hsz, hP, hK, hD0⟩ := hv
  have hx := B.exec
  have hb := B.bytes
  have hr := B.returns
  have hts := atoms_spec (ws := wsX3_time) B.pre
  have hown : s.vm.findClass RX3 = some m.cls := findClass_of_methodNamed B.named
  have hlocks := B.notSynchronized
  subst hsz
  have hD := hD0.self (sz := s.heap.size)
  generalize hAe : va_A [(o, .inr (4, [.ref F, .ref G, .int lo, .int nw, .int se, .ref (pa 0), .ref an, .ref ln]))] s.heap.size = A at hD ⊢
  have hA : ∀ q : Nat, s.heap.size ≤ q → A q := fun q h => by rw [← hAe]; exact Or.inr h
  have hS : va_S A s.heap s.heap [] := va_S.rf
  have hl := lv_entry ([.ref o]) (n := 1) (Nat.le_of_ble_eq_true rfl)
  rw [lg_entry_eq]
  generalize (lg_sl ([.ref o]) ++ List.replicate (1 - (lg_sl ([.ref o])).length) Slot.unset).toArray = ls at hl ⊢
  have hl : lv_has ls 1 [(0, .ref o)] := hl
  refine lv_aload_n hx hb dX3_time_0 rfl (lv_at hl 0 rfl) ?_
  refine va_get (D := D) (ci := 4) (v := .int nw) (C := RX3) (T := TX3) (N := 8) hx hb hts (fun _ h => List.mem_cons_of_mem _ (List.mem_append_right _ (h))) hown hK hP 0 rfl rfl 3 (by decide) (hts (.fieldLink RX3 23 "OptionWire" "now" "I") (List.mem_of_getElem? (i := 1) rfl)) (fun _ h9 => h9) rfl dX3_time_1 ?_
  refine W.widen (k := 0) (n := 0) (by omega) (by omega) ?_
  exact W.iret (v := nw) hx hb hr (fun t ht hW => ⟨⟨nw, (), rfl, rfl, ⟨by rw [ht]; exact hP, by rw [hAe]; exact hD⟩⟩, hS.F ht⟩) hS.2.2 dX3_time_4
set_option maxHeartbeats 4000000 in
set_option maxRecDepth 100000 in
theorem c_X3_wish_k (l : Launch) (D : va_G) (cA : Nat → ClassId) (sz : Nat) (o F G : Nat) (lo nw se : Int32) (pa : Nat → Nat) (an ln : Nat) (x : Nat → Nat) (y0 : Nat) (n : Int32) (xv : Nat → Int32) (k : Nat) (wi le mo : Int32) (w0 w1 w2 : Nat → Int32) (he : en n F G (x 0) y0) (hk : k < 4) (hsp : sSp le mo) (hwi : wi = -1 ∨ inr wi le mo) (hsh : sSh (xv 0)) : Met l yX3_wish wsX3_wish ({ frames := 2, cells := 0, slots := 0, locals := 40 }) (va_Pc [.ref o, .int n, .int (nI k), .int wi, .int le, .int mo] (zU D cA sz [(o, .inr (4, [.ref F, .ref G, .int lo, .int nw, .int se, .ref (pa 0), .ref an, .ref ln])), cE x xv, (x 1, .inl (cA 0, 4, .inl w0)), (x 2, .inl (cA 0, 4, .inl w1)), (x 3, .inl (cA 0, 4, .inl w2))])) (va_Qi (fun (r : Int32) (_ : Unit) => r = w0 k) (fun (_ : Unit) t => zB D [(o, .inr (4, [.ref F, .ref G, .int lo, .int nw, .int se, .ref (pa 0), .ref an, .ref ln])), cE x xv, (x 1, .inl (cA 0, 4, .inl w0)), (x 2, .inl (cA 0, 4, .inl w1)), (x 3, .inl (cA 0, 4, .inl w2))] sz [(o, .inr (4, [.ref F, .ref G, .int lo, .int nw, .int se, .ref (pa 0), .ref an, .ref ln])), cE x xv, (x 1, .inl (cA 0, 4, .inl (upd w0 k wi))), (x 2, .inl (cA 0, 4, .inl (upd w1 k le))), (x 3, .inl (cA 0, 4, .inl (upd w2 k mo)))] t) (va_A [(o, .inr (4, [.ref F, .ref G, .int lo, .int nw, .int se, .ref (pa 0), .ref an, .ref ln])), cE x xv, (x 1, .inl (cA 0, 4, .inl w0)), (x 2, .inl (cA 0, 4, .inl w1)), (x 3, .inl (cA 0, 4, .inl w2))] sz)) 0 0 (va_A [(o, .inr (4, [.ref F, .ref G, .int lo, .int nw, .int se, .ref (pa 0), .ref an, .ref ln])), cE x xv, (x 1, .inl (cA 0, 4, .inl w0)), (x 2, .inl (cA 0, 4, .inl w1)), (x 3, .inl (cA 0, 4, .inl w2))] sz) := by
  refine Met.ofW (cc := cX3_wish) (maxL := 8) (ret := (some .int)) (by decide) rfl ?_
  intro p e s m args below meth c s₁ B hml hv
  obtain ⟨rfl, hsz, hP, hK, hD0⟩ := hv
  have hx := B.exec
  have hb := B.bytes
  have hr := B.returns
  have hts := atoms_spec (ws := wsX3_wish) B.pre
  have hown : s.vm.findClass RX3 = some m.cls := findClass_of_methodNamed B.named
  have hlocks := B.notSynchronized
  subst hsz
  have hD := hD0.self (sz := s.heap.size)
  generalize hAe : va_A [(o, .inr (4, [.ref F, .ref G, .int lo, .int nw, .int se, .ref (pa 0), .ref an, .ref ln])), cE x xv, (x 1, .inl (cA 0, 4, .inl w0)), (x 2, .inl (cA 0, 4, .inl w1)), (x 3, .inl (cA 0, 4, .inl w2))] s.heap.size = A at hD ⊢
  have hA : ∀ q : Nat, s.heap.size ≤ q → A q := fun q h => by rw [← hAe]; exact Or.inr h
  have hS : va_S A s.heap s.heap [] := va_S.rf
  have hl := lv_entry ([.ref o, .int n, .int (nI k), .int wi, .int le, .int mo]) (n := 8) (Nat.le_of_ble_eq_true rfl)
  rw [lg_entry_eq]
  generalize (lg_sl ([.ref o, .int n, .int (nI k), .int wi, .int le, .int mo]) ++ List.replicate (8 - (lg_sl ([.ref o, .int n, .int (nI k), .int wi, .int le, .int mo])).length) Slot.unset).toArray = ls at hl ⊢
  have hl : lv_has ls 8 [(0, .ref o), (1, .int n), (2, .int (nI k)), (3, .int wi), (4, .int le), (5, .int mo)] := hl
  refine lv_iload_n hx hb dX3_wish_0 rfl (lv_at hl 1 rfl) ?_
  have hPc := hP.sub (ws' := []) [] rfl
  have hDc := hD.sub (ws' := []) [] (by decide) rfl
  have hFc := va_free (wc := []) hD hS hA [] rfl
  refine va_callv (va_runS (As := [.int n]) (rest := []) ⟨hx, hb, hml, hown, hts⟩ (c_X3_checkEnd_k l D cA s.heap.size n (en_inr he)) (va_cwS 1 hts gX3_wish_X3_checkEnd rfl rfl rfl (by decide +kernel) ⟨Nat.le_of_ble_eq_true rfl, Nat.le_of_ble_eq_true rfl⟩) ⟨zU_blind, fun U hU hW => ⟨rfl, zU_call hU hPc hW.alike hK hDc⟩⟩ rfl rfl hl.1 rfl (lv_room (Nat.le_of_ble_eq_true rfl)) dX3_wish_1 ⟨(Nat.zero_le _), (Nat.zero_le _)⟩) hS (fun q _ h => hFc q h) hFc (fun u t H1 locs ht hvm hw hB hz1 hk1 hS => ?_)
  obtain ⟨hP1, hD1⟩ := hB
  rw [ht] at hP1
  obtain ⟨hP, hD⟩ := va_join (wr := [(o, .inr (4, [.ref F, .ref G, .int lo, .int nw, .int se, .ref (pa 0), .ref an, .ref ln])), cE x xv, (x 1, .inl (cA 0, 4, .inl w0)), (x 2, .inl (cA 0, 4, .inl w1)), (x 3, .inl (cA 0, 4, .inl w2))]) (w1 := []) hP hD [] [0, 1, 2, 3, 4] rfl rfl (by decide) (by decide) hk1 hFc hP1 hD1
  generalize H1 = H at hP hS ⊢
  have hP := hP.sub (ws' := [(o, .inr (4, [.ref F, .ref G, .int lo, .int nw, .int se, .ref (pa 0), .ref an, .ref ln])), cE x xv, (x 1, .inl (cA 0, 4, .inl w0)), (x 2, .inl (cA 0, 4, .inl w1)), (x 3, .inl (cA 0, 4, .inl w2))]) [0, 1, 2, 3, 4] rfl
  have hD := hD.sub (ws' := [(o, .inr (4, [.ref F, .ref G, .int lo, .int nw, .int se, .ref (pa 0), .ref an, .ref ln])), cE x xv, (x 1, .inl (cA 0, 4, .inl w0)), (x 2, .inl (cA 0, 4, .inl w1)), (x 3, .inl (cA 0, 4, .inl w2))]) [0, 1, 2, 3, 4] (by decide) rfl
  clear hPc hDc hFc hP1 hD1 hk1 hz1
  have hw_1 := hw
  refine lv_iload_n hx hb dX3_wish_4 rfl (lv_at hl 2 rfl) ?_
  have hPc := hP.sub (ws' := []) [] rfl
  have hDc := hD.sub (ws' := []) [] (by decide) rfl
  have hFc := va_free (wc := []) hD hS hA [] rfl
  refine va_callv (va_runS (As := [.int (nI k)]) (rest := []) ⟨hx, hb, hml, hown, hts⟩ (c_X3_checkOption_k l D cA H.size (nI k) (inr_k hk)) (va_cwS 1 hts gX3_wish_X3_checkOption rfl rfl rfl (by decide +kernel) ⟨Nat.le_of_ble_eq_true rfl, Nat.le_of_ble_eq_true rfl⟩) ⟨zU_blind, fun U hU hW => ⟨rfl, zU_call hU hPc hW.alike hK hDc⟩⟩ rfl rfl hl.1 rfl (lv_room (Nat.le_of_ble_eq_true rfl)) dX3_wish_5 ⟨(Nat.zero_le _), (Nat.zero_le _)⟩) hS (fun q _ h => hFc q h) hFc (fun u t H1 locs ht hvm hw hB hz1 hk1 hS => ?_)
  obtain ⟨hP1, hD1⟩ := hB
  rw [ht] at hP1
  obtain ⟨hP, hD⟩ := va_join (wr := [(o, .inr (4, [.ref F, .ref G, .int lo, .int nw, .int se, .ref (pa 0), .ref an, .ref ln])), cE x xv, (x 1, .inl (cA 0, 4, .inl w0)), (x 2, .inl (cA 0, 4, .inl w1)), (x 3, .inl (cA 0, 4, .inl w2))]) (w1 := []) hP hD [] [0, 1, 2, 3, 4] rfl rfl (by decide) (by decide) hk1 hFc hP1 hD1
  generalize H1 = H at hP hS ⊢
  have hP := hP.sub (ws' := [(o, .inr (4, [.ref F, .ref G, .int lo, .int nw, .int se, .ref (pa 0), .ref an, .ref ln])), cE x xv, (x 1, .inl (cA 0, 4, .inl w0)), (x 2, .inl (cA 0, 4, .inl w1)), (x 3, .inl (cA 0, 4, .inl w2))]) [0, 1, 2, 3, 4] rfl
  have hD := hD.sub (ws' := [(o, .inr (4, [.ref F, .ref G, .int lo, .int nw, .int se, .ref (pa 0), .ref an, .ref ln])), cE x xv, (x 1, .inl (cA 0, 4, .inl w0)), (x 2, .inl (cA 0, 4, .inl w1)), (x 3, .inl (cA 0, 4, .inl w2))]) [0, 1, 2, 3, 4] (by decide) rfl
  clear hPc hDc hFc hP1 hD1 hk1 hz1
  have hw_2 := hw
  refine lv_iload hx hb dX3_wish_8 (lv_at hl 4 rfl) ?_
  refine lv_iload hx hb dX3_wish_10 (lv_at hl 5 rfl) ?_
  have hPc := hP.sub (ws' := []) [] rfl
  have hDc := hD.sub (ws' := []) [] (by decide) rfl
  have hFc := va_free (wc := []) hD hS hA [] rfl
  refine va_callv (va_runS (As := [.int le, .int mo]) (rest := []) ⟨hx, hb, hml, hown, hts⟩ (c_X3_checkRange_k l D cA H.size le mo (by assumption)) (va_cwS 2 hts gX3_wish_X3_checkRange rfl rfl rfl (by decide +kernel) ⟨Nat.le_of_ble_eq_true rfl, Nat.le_of_ble_eq_true rfl⟩) ⟨zU_blind, fun U hU hW => ⟨rfl, zU_call hU hPc hW.alike hK hDc⟩⟩ rfl rfl hl.1 rfl (lv_room (Nat.le_of_ble_eq_true rfl)) dX3_wish_12 ⟨(Nat.zero_le _), (Nat.zero_le _)⟩) hS (fun q _ h => hFc q h) hFc (fun u t H1 locs ht hvm hw hB hz1 hk1 hS => ?_)
  obtain ⟨hP1, hD1⟩ := hB
  rw [ht] at hP1
  obtain ⟨hP, hD⟩ := va_join (wr := [(o, .inr (4, [.ref F, .ref G, .int lo, .int nw, .int se, .ref (pa 0), .ref an, .ref ln])), cE x xv, (x 1, .inl (cA 0, 4, .inl w0)), (x 2, .inl (cA 0, 4, .inl w1)), (x 3, .inl (cA 0, 4, .inl w2))]) (w1 := []) hP hD [] [0, 1, 2, 3, 4] rfl rfl (by decide) (by decide) hk1 hFc hP1 hD1
  generalize H1 = H at hP hS ⊢
  have hP := hP.sub (ws' := [(o, .inr (4, [.ref F, .ref G, .int lo, .int nw, .int se, .ref (pa 0), .ref an, .ref ln])), cE x xv, (x 1, .inl (cA 0, 4, .inl w0)), (x 2, .inl (cA 0, 4, .inl w1)), (x 3, .inl (cA 0, 4, .inl w2))]) [0, 1, 2, 3, 4] rfl
  have hD := hD.sub (ws' := [(o, .inr (4, [.ref F, .ref G, .int lo, .int nw, .int se, .ref (pa 0), .ref an, .ref ln])), cE x xv, (x 1, .inl (cA 0, 4, .inl w0)), (x 2, .inl (cA 0, 4, .inl w1)), (x 3, .inl (cA 0, 4, .inl w2))]) [0, 1, 2, 3, 4] (by decide) rfl
  clear hPc hDc hFc hP1 hD1 hk1 hz1
  have hw_3 := hw
  refine lv_iload_n hx hb dX3_wish_15 rfl (lv_at hl 3 rfl) ?_
  refine lv_iconst (v := (-1)) hx hb dX3_wish_16 (by decide) ?_
  refine lv_icmp_eq (tgt := 42) hx hb dX3_wish_17 (by decide) (fun c_4 => ?_) (fun c_4 => ?_)
  · skip
    refine lv_aload_n hx hb dX3_wish_42 rfl (lv_at hl 0 rfl) ?_
    refine lv_iload_n hx hb dX3_wish_43 rfl (lv_at hl 1 rfl) ?_
    have hPc := hP.sub (ws' := [(o, .inr (4, [.ref F, .ref G, .int lo, .int nw, .int se, .ref (pa 0), .ref an, .ref ln]))]) [0] rfl
    have hDc := hD.sub (ws' := [(o, .inr (4, [.ref F, .ref G, .int lo, .int nw, .int se, .ref (pa 0), .ref an, .ref ln]))]) [0] (by decide) rfl
    have hFc := va_free (wc := [(o, .inr (4, [.ref F, .ref G, .int lo, .int nw, .int se, .ref (pa 0), .ref an, .ref ln]))]) hD hS hA [0] rfl
    refine va_callr (va_runV (As := [.int n]) (rest := []) ⟨hx, hb, hml, hown, hts⟩ (c_X3_endOf l D cA H.size o F G lo nw se pa an ln n (x 0) y0 (by assumption)) (cwV 1 hts gX3_wish_X3_endOf rfl rfl rfl (by decide +kernel) ⟨Nat.le_of_ble_eq_true rfl, Nat.le_of_ble_eq_true rfl⟩) ⟨zU_blind, va_recv hK hPc (ci := 4) (q0 := 0) rfl rfl, fun U hU hW => ⟨rfl, zU_call hU hPc hW.alike hK hDc⟩⟩ rfl rfl hl.1 rfl (lv_room (Nat.le_of_ble_eq_true rfl)) dX3_wish_44 ⟨(Nat.zero_le _), (Nat.zero_le _)⟩) hS (fun q _ h => hFc q h) hFc (fun u ra t H1 locs ht hvm hw hB hz1 hk1 hS => ?_)
    obtain ⟨hra, hP1, hD1⟩ := hB
    rw [ht] at hP1
    subst ra
    obtain ⟨hP, hD⟩ := va_join (wr := [cE x xv, (x 1, .inl (cA 0, 4, .inl w0)), (x 2, .inl (cA 0, 4, .inl w1)), (x 3, .inl (cA 0, 4, .inl w2))]) (w1 := [(o, .inr (4, [.ref F, .ref G, .int lo, .int nw, .int se, .ref (pa 0), .ref an, .ref ln]))]) hP hD [0] [1, 2, 3, 4] rfl rfl (by decide) (by decide) hk1 hFc hP1 hD1
    generalize H1 = H at hP hS ⊢
    have hP := hP.sub (ws' := [(o, .inr (4, [.ref F, .ref G, .int lo, .int nw, .int se, .ref (pa 0), .ref an, .ref ln])), cE x xv, (x 1, .inl (cA 0, 4, .inl w0)), (x 2, .inl (cA 0, 4, .inl w1)), (x 3, .inl (cA 0, 4, .inl w2))]) [4, 0, 1, 2, 3] rfl
    have hD := hD.sub (ws' := [(o, .inr (4, [.ref F, .ref G, .int lo, .int nw, .int se, .ref (pa 0), .ref an, .ref ln])), cE x xv, (x 1, .inl (cA 0, 4, .inl w0)), (x 2, .inl (cA 0, 4, .inl w1)), (x 3, .inl (cA 0, 4, .inl w2))]) [4, 0, 1, 2, 3] (by decide) rfl
    clear hPc hDc hFc hP1 hD1 hk1 hz1
    have hw_5 := hw
    refine lv_astore (lv' := [(6, .ref (x 0)), (0, .ref o), (1, .int n), (2, .int (nI k)), (3, .int wi), (4, .int le), (5, .int mo)]) hx hb dX3_wish_47 hl (by decide) rfl (fun ls hl => ?_)
    refine lv_aload hx hb dX3_wish_49 (lv_at hl 0 rfl) ?_
    have hPc := hP.sub (ws' := [cE x xv]) [1] rfl
    have hDc := hD.sub (ws' := [cE x xv]) [1] (by decide) rfl
    have hFc := va_free (wc := [cE x xv]) hD hS hA [1] rfl
    refine va_callv (va_runS (As := [.ref (x 0)]) (rest := []) ⟨hx, hb, hml, hown, hts⟩ (c_X3_checkShut_k l D cA H.size x xv (by assumption)) (va_cwS 1 hts gX3_wish_X3_checkShut rfl rfl rfl (by decide +kernel) ⟨Nat.le_of_ble_eq_true rfl, Nat.le_of_ble_eq_true rfl⟩) ⟨zU_blind, fun U hU hW => ⟨rfl, zU_call hU hPc hW.alike hK hDc⟩⟩ rfl rfl hl.1 rfl (lv_room (Nat.le_of_ble_eq_true rfl)) dX3_wish_51 ⟨(Nat.zero_le _), (Nat.zero_le _)⟩) hS (fun q _ h => hFc q h) hFc (fun u t H1 locs ht hvm hw hB hz1 hk1 hS => ?_)
    obtain ⟨hP1, hD1⟩ := hB
    rw [ht] at hP1
    obtain ⟨hP, hD⟩ := va_join (wr := [(o, .inr (4, [.ref F, .ref G, .int lo, .int nw, .int se, .ref (pa 0), .ref an, .ref ln])), (x 1, .inl (cA 0, 4, .inl w0)), (x 2, .inl (cA 0, 4, .inl w1)), (x 3, .inl (cA 0, 4, .inl w2))]) (w1 := [cE x xv]) hP hD [1] [0, 2, 3, 4] rfl rfl (by decide) (by decide) hk1 hFc hP1 hD1
    generalize H1 = H at hP hS ⊢
    have hP := hP.sub (ws' := [(o, .inr (4, [.ref F, .ref G, .int lo, .int nw, .int se, .ref (pa 0), .ref an, .ref ln])), cE x xv, (x 1, .inl (cA 0, 4, .inl w0)), (x 2, .inl (cA 0, 4, .inl w1)), (x 3, .inl (cA 0, 4, .inl w2))]) [0, 4, 1, 2, 3] rfl
    have hD := hD.sub (ws' := [(o, .inr (4, [.ref F, .ref G, .int lo, .int nw, .int se, .ref (pa 0), .ref an, .ref ln])), cE x xv, (x 1, .inl (cA 0, 4, .inl w0)), (x 2, .inl (cA 0, 4, .inl w1)), (x 3, .inl (cA 0, 4, .inl w2))]) [0, 4, 1, 2, 3] (by decide) rfl
    clear hPc hDc hFc hP1 hD1 hk1 hz1
    have hw_6 := hw
    refine lv_aload hx hb dX3_wish_54 (lv_at hl 0 rfl) ?_
    refine va_get (D := D) (ci := 1) (v := .ref (x 1)) (C := RX0) (T := TX0) (N := 16) hx hb hts (fun _ h => List.mem_cons_of_mem _ (List.mem_append_left _ (List.mem_append_left _ (List.mem_append_left _ (List.mem_append_right _ (h)))))) hown hK hP 1 rfl rfl 0 (by decide) (hts (.fieldLink RX3 74 "OptionWire$End" "wishes" "[I") (List.mem_of_getElem? (i := 3) rfl)) (fun _ h9 => h9) rfl dX3_wish_56 ?_
    refine lv_iload_n hx hb dX3_wish_59 rfl (lv_at hl 3 rfl) ?_
    refine z_iald (k := k) (v := (w0 k)) hx hb hK hP 2 0 rfl rfl rfl (by omega) (by decide) rfl dX3_wish_60 ?_
    refine lv_istore (lv' := [(7, .int (w0 k)), (6, .ref (x 0)), (0, .ref o), (1, .int n), (2, .int (nI k)), (3, .int wi), (4, .int le), (5, .int mo)]) hx hb dX3_wish_61 hl (by decide) rfl (fun ls hl => ?_)
    refine lv_aload hx hb dX3_wish_63 (lv_at hl 1 rfl) ?_
    refine va_get (D := D) (ci := 1) (v := .ref (x 1)) (C := RX0) (T := TX0) (N := 16) hx hb hts (fun _ h => List.mem_cons_of_mem _ (List.mem_append_left _ (List.mem_append_left _ (List.mem_append_left _ (List.mem_append_right _ (h)))))) hown hK hP 1 rfl rfl 0 (by decide) (hts (.fieldLink RX3 74 "OptionWire$End" "wishes" "[I") (List.mem_of_getElem? (i := 3) rfl)) (fun _ h9 => h9) rfl dX3_wish_65 ?_
    refine lv_iload_n hx hb dX3_wish_68 rfl (lv_at hl 4 rfl) ?_
    refine lv_iload_n hx hb dX3_wish_69 rfl (lv_at hl 5 rfl) ?_
    refine z_iast (k := k) hx hb hK hP hD hS 2 0 rfl rfl rfl (by omega) (by decide) dX3_wish_70 (fun H locs hP hD hS => ?_)
    have hP : va_P D vwCl [(o, .inr (4, [.ref F, .ref G, .int lo, .int nw, .int se, .ref (pa 0), .ref an, .ref ln])), cE x xv, (x 1, .inl (cA 0, 4, .inl (upd w0 k wi))), (x 2, .inl (cA 0, 4, .inl w1)), (x 3, .inl (cA 0, 4, .inl w2))] H := hP
    have hD : va_D A [(o, .inr (4, [.ref F, .ref G, .int lo, .int nw, .int se, .ref (pa 0), .ref an, .ref ln])), cE x xv, (x 1, .inl (cA 0, 4, .inl (upd w0 k wi))), (x 2, .inl (cA 0, 4, .inl w1)), (x 3, .inl (cA 0, 4, .inl w2))] := hD
    refine lv_aload hx hb dX3_wish_71 (lv_at hl 1 rfl) ?_
    refine va_get (D := D) (ci := 1) (v := .ref (x 2)) (C := RX0) (T := TX0) (N := 16) hx hb hts (fun _ h => List.mem_cons_of_mem _ (List.mem_append_left _ (List.mem_append_left _ (List.mem_append_left _ (List.mem_append_right _ (h)))))) hown hK hP 1 rfl rfl 1 (by decide) (hts (.fieldLink RX3 77 "OptionWire$End" "leastAsked" "[I") (List.mem_of_getElem? (i := 4) rfl)) (fun _ h9 => h9) rfl dX3_wish_73 ?_
    refine lv_iload_n hx hb dX3_wish_76 rfl (lv_at hl 4 rfl) ?_
    refine lv_iload hx hb dX3_wish_77 (lv_at hl 6 rfl) ?_
    refine z_iast (k := k) hx hb hK hP hD hS 3 0 rfl rfl rfl (by omega) (by decide) dX3_wish_79 (fun H locs hP hD hS => ?_)
    have hP : va_P D vwCl [(o, .inr (4, [.ref F, .ref G, .int lo, .int nw, .int se, .ref (pa 0), .ref an, .ref ln])), cE x xv, (x 1, .inl (cA 0, 4, .inl (upd w0 k wi))), (x 2, .inl (cA 0, 4, .inl (upd w1 k le))), (x 3, .inl (cA 0, 4, .inl w2))] H := hP
    have hD : va_D A [(o, .inr (4, [.ref F, .ref G, .int lo, .int nw, .int se, .ref (pa 0), .ref an, .ref ln])), cE x xv, (x 1, .inl (cA 0, 4, .inl (upd w0 k wi))), (x 2, .inl (cA 0, 4, .inl (upd w1 k le))), (x 3, .inl (cA 0, 4, .inl w2))] := hD
    refine lv_aload hx hb dX3_wish_80 (lv_at hl 1 rfl) ?_
    refine va_get (D := D) (ci := 1) (v := .ref (x 3)) (C := RX0) (T := TX0) (N := 16) hx hb hts (fun _ h => List.mem_cons_of_mem _ (List.mem_append_left _ (List.mem_append_left _ (List.mem_append_left _ (List.mem_append_right _ (h)))))) hown hK hP 1 rfl rfl 2 (by decide) (hts (.fieldLink RX3 80 "OptionWire$End" "mostAsked" "[I") (List.mem_of_getElem? (i := 5) rfl)) (fun _ h9 => h9) rfl dX3_wish_82 ?_
    refine lv_iload_n hx hb dX3_wish_85 rfl (lv_at hl 4 rfl) ?_
    refine lv_iload hx hb dX3_wish_86 (lv_at hl 7 rfl) ?_
    refine z_iast (k := k) hx hb hK hP hD hS 4 0 rfl rfl rfl (by omega) (by decide) dX3_wish_88 (fun H locs hP hD hS => ?_)
    have hP : va_P D vwCl [(o, .inr (4, [.ref F, .ref G, .int lo, .int nw, .int se, .ref (pa 0), .ref an, .ref ln])), cE x xv, (x 1, .inl (cA 0, 4, .inl (upd w0 k wi))), (x 2, .inl (cA 0, 4, .inl (upd w1 k le))), (x 3, .inl (cA 0, 4, .inl (upd w2 k mo)))] H := hP
    have hD : va_D A [(o, .inr (4, [.ref F, .ref G, .int lo, .int nw, .int se, .ref (pa 0), .ref an, .ref ln])), cE x xv, (x 1, .inl (cA 0, 4, .inl (upd w0 k wi))), (x 2, .inl (cA 0, 4, .inl (upd w1 k le))), (x 3, .inl (cA 0, 4, .inl (upd w2 k mo)))] := hD
    refine lv_iload hx hb dX3_wish_89 (lv_at hl 0 rfl) ?_
    refine W.widen (k := 0) (n := 0) (by omega) (by omega) ?_
    exact W.iret (v := (w0 k)) hx hb hr (fun t ht hW => ⟨⟨w0 k, (), rfl, rfl, ⟨by rw [ht]; exact hP, by rw [hAe]; exact hD⟩⟩, hS.F ht⟩) hS.2.2 dX3_wish_91
  · skip
    have hin := hwi.resolve_left c_4
    refine lv_iload_n hx hb dX3_wish_20 rfl (lv_at hl 3 rfl) ?_
    refine lv_iload hx hb dX3_wish_21 (lv_at hl 4 rfl) ?_
    refine lv_icmp_lt (tgt := 32) hx hb dX3_wish_23 (by decide) (fun c_7 => ?_) (fun c_7 => ?_)
    · skip
      exact absurd c_7 hin.1
    · skip
      refine lv_iload_n hx hb dX3_wish_26 rfl (lv_at hl 3 rfl) ?_
      refine lv_iload hx hb dX3_wish_27 (lv_at hl 5 rfl) ?_
      refine lv_icmp_le (tgt := 42) hx hb dX3_wish_29 (by decide) (fun c_8 => ?_) (fun c_8 => ?_)
      · skip
        refine lv_aload_n hx hb dX3_wish_42 rfl (lv_at hl 0 rfl) ?_
        refine lv_iload_n hx hb dX3_wish_43 rfl (lv_at hl 1 rfl) ?_
        have hPc := hP.sub (ws' := [(o, .inr (4, [.ref F, .ref G, .int lo, .int nw, .int se, .ref (pa 0), .ref an, .ref ln]))]) [0] rfl
        have hDc := hD.sub (ws' := [(o, .inr (4, [.ref F, .ref G, .int lo, .int nw, .int se, .ref (pa 0), .ref an, .ref ln]))]) [0] (by decide) rfl
        have hFc := va_free (wc := [(o, .inr (4, [.ref F, .ref G, .int lo, .int nw, .int se, .ref (pa 0), .ref an, .ref ln]))]) hD hS hA [0] rfl
        refine va_callr (va_runV (As := [.int n]) (rest := []) ⟨hx, hb, hml, hown, hts⟩ (c_X3_endOf l D cA H.size o F G lo nw se pa an ln n (x 0) y0 (by assumption)) (cwV 1 hts gX3_wish_X3_endOf rfl rfl rfl (by decide +kernel) ⟨Nat.le_of_ble_eq_true rfl, Nat.le_of_ble_eq_true rfl⟩) ⟨zU_blind, va_recv hK hPc (ci := 4) (q0 := 0) rfl rfl, fun U hU hW => ⟨rfl, zU_call hU hPc hW.alike hK hDc⟩⟩ rfl rfl hl.1 rfl (lv_room (Nat.le_of_ble_eq_true rfl)) dX3_wish_44 ⟨(Nat.zero_le _), (Nat.zero_le _)⟩) hS (fun q _ h => hFc q h) hFc (fun u ra t H1 locs ht hvm hw hB hz1 hk1 hS => ?_)
        obtain ⟨hra, hP1, hD1⟩ := hB
        rw [ht] at hP1
        subst ra
        obtain ⟨hP, hD⟩ := va_join (wr := [cE x xv, (x 1, .inl (cA 0, 4, .inl w0)), (x 2, .inl (cA 0, 4, .inl w1)), (x 3, .inl (cA 0, 4, .inl w2))]) (w1 := [(o, .inr (4, [.ref F, .ref G, .int lo, .int nw, .int se, .ref (pa 0), .ref an, .ref ln]))]) hP hD [0] [1, 2, 3, 4] rfl rfl (by decide) (by decide) hk1 hFc hP1 hD1
        generalize H1 = H at hP hS ⊢
        have hP := hP.sub (ws' := [(o, .inr (4, [.ref F, .ref G, .int lo, .int nw, .int se, .ref (pa 0), .ref an, .ref ln])), cE x xv, (x 1, .inl (cA 0, 4, .inl w0)), (x 2, .inl (cA 0, 4, .inl w1)), (x 3, .inl (cA 0, 4, .inl w2))]) [4, 0, 1, 2, 3] rfl
        have hD := hD.sub (ws' := [(o, .inr (4, [.ref F, .ref G, .int lo, .int nw, .int se, .ref (pa 0), .ref an, .ref ln])), cE x xv, (x 1, .inl (cA 0, 4, .inl w0)), (x 2, .inl (cA 0, 4, .inl w1)), (x 3, .inl (cA 0, 4, .inl w2))]) [4, 0, 1, 2, 3] (by decide) rfl
        clear hPc hDc hFc hP1 hD1 hk1 hz1
        have hw_9 := hw
        refine lv_astore (lv' := [(6, .ref (x 0)), (0, .ref o), (1, .int n), (2, .int (nI k)), (3, .int wi), (4, .int le), (5, .int mo)]) hx hb dX3_wish_47 hl (by decide) rfl (fun ls hl => ?_)
        refine lv_aload hx hb dX3_wish_49 (lv_at hl 0 rfl) ?_
        have hPc := hP.sub (ws' := [cE x xv]) [1] rfl
        have hDc := hD.sub (ws' := [cE x xv]) [1] (by decide) rfl
        have hFc := va_free (wc := [cE x xv]) hD hS hA [1] rfl
        refine va_callv (va_runS (As := [.ref (x 0)]) (rest := []) ⟨hx, hb, hml, hown, hts⟩ (c_X3_checkShut_k l D cA H.size x xv (by assumption)) (va_cwS 1 hts gX3_wish_X3_checkShut rfl rfl rfl (by decide +kernel) ⟨Nat.le_of_ble_eq_true rfl, Nat.le_of_ble_eq_true rfl⟩) ⟨zU_blind, fun U hU hW => ⟨rfl, zU_call hU hPc hW.alike hK hDc⟩⟩ rfl rfl hl.1 rfl (lv_room (Nat.le_of_ble_eq_true rfl)) dX3_wish_51 ⟨(Nat.zero_le _), (Nat.zero_le _)⟩) hS (fun q _ h => hFc q h) hFc (fun u t H1 locs ht hvm hw hB hz1 hk1 hS => ?_)
        obtain ⟨hP1, hD1⟩ := hB
        rw [ht] at hP1
        obtain ⟨hP, hD⟩ := va_join (wr := [(o, .inr (4, [.ref F, .ref G, .int lo, .int nw, .int se, .ref (pa 0), .ref an, .ref ln])), (x 1, .inl (cA 0, 4, .inl w0)), (x 2, .inl (cA 0, 4, .inl w1)), (x 3, .inl (cA 0, 4, .inl w2))]) (w1 := [cE x xv]) hP hD [1] [0, 2, 3, 4] rfl rfl (by decide) (by decide) hk1 hFc hP1 hD1
        generalize H1 = H at hP hS ⊢
        have hP := hP.sub (ws' := [(o, .inr (4, [.ref F, .ref G, .int lo, .int nw, .int se, .ref (pa 0), .ref an, .ref ln])), cE x xv, (x 1, .inl (cA 0, 4, .inl w0)), (x 2, .inl (cA 0, 4, .inl w1)), (x 3, .inl (cA 0, 4, .inl w2))]) [0, 4, 1, 2, 3] rfl
        have hD := hD.sub (ws' := [(o, .inr (4, [.ref F, .ref G, .int lo, .int nw, .int se, .ref (pa 0), .ref an, .ref ln])), cE x xv, (x 1, .inl (cA 0, 4, .inl w0)), (x 2, .inl (cA 0, 4, .inl w1)), (x 3, .inl (cA 0, 4, .inl w2))]) [0, 4, 1, 2, 3] (by decide) rfl
        clear hPc hDc hFc hP1 hD1 hk1 hz1
        have hw_10 := hw
        refine lv_aload hx hb dX3_wish_54 (lv_at hl 0 rfl) ?_
        refine va_get (D := D) (ci := 1) (v := .ref (x 1)) (C := RX0) (T := TX0) (N := 16) hx hb hts (fun _ h => List.mem_cons_of_mem _ (List.mem_append_left _ (List.mem_append_left _ (List.mem_append_left _ (List.mem_append_right _ (h)))))) hown hK hP 1 rfl rfl 0 (by decide) (hts (.fieldLink RX3 74 "OptionWire$End" "wishes" "[I") (List.mem_of_getElem? (i := 3) rfl)) (fun _ h9 => h9) rfl dX3_wish_56 ?_
        refine lv_iload_n hx hb dX3_wish_59 rfl (lv_at hl 3 rfl) ?_
        refine z_iald (k := k) (v := (w0 k)) hx hb hK hP 2 0 rfl rfl rfl (by omega) (by decide) rfl dX3_wish_60 ?_
        refine lv_istore (lv' := [(7, .int (w0 k)), (6, .ref (x 0)), (0, .ref o), (1, .int n), (2, .int (nI k)), (3, .int wi), (4, .int le), (5, .int mo)]) hx hb dX3_wish_61 hl (by decide) rfl (fun ls hl => ?_)
        refine lv_aload hx hb dX3_wish_63 (lv_at hl 1 rfl) ?_
        refine va_get (D := D) (ci := 1) (v := .ref (x 1)) (C := RX0) (T := TX0) (N := 16) hx hb hts (fun _ h => List.mem_cons_of_mem _ (List.mem_append_left _ (List.mem_append_left _ (List.mem_append_left _ (List.mem_append_right _ (h)))))) hown hK hP 1 rfl rfl 0 (by decide) (hts (.fieldLink RX3 74 "OptionWire$End" "wishes" "[I") (List.mem_of_getElem? (i := 3) rfl)) (fun _ h9 => h9) rfl dX3_wish_65 ?_
        refine lv_iload_n hx hb dX3_wish_68 rfl (lv_at hl 4 rfl) ?_
        refine lv_iload_n hx hb dX3_wish_69 rfl (lv_at hl 5 rfl) ?_
        refine z_iast (k := k) hx hb hK hP hD hS 2 0 rfl rfl rfl (by omega) (by decide) dX3_wish_70 (fun H locs hP hD hS => ?_)
        have hP : va_P D vwCl [(o, .inr (4, [.ref F, .ref G, .int lo, .int nw, .int se, .ref (pa 0), .ref an, .ref ln])), cE x xv, (x 1, .inl (cA 0, 4, .inl (upd w0 k wi))), (x 2, .inl (cA 0, 4, .inl w1)), (x 3, .inl (cA 0, 4, .inl w2))] H := hP
        have hD : va_D A [(o, .inr (4, [.ref F, .ref G, .int lo, .int nw, .int se, .ref (pa 0), .ref an, .ref ln])), cE x xv, (x 1, .inl (cA 0, 4, .inl (upd w0 k wi))), (x 2, .inl (cA 0, 4, .inl w1)), (x 3, .inl (cA 0, 4, .inl w2))] := hD
        refine lv_aload hx hb dX3_wish_71 (lv_at hl 1 rfl) ?_
        refine va_get (D := D) (ci := 1) (v := .ref (x 2)) (C := RX0) (T := TX0) (N := 16) hx hb hts (fun _ h => List.mem_cons_of_mem _ (List.mem_append_left _ (List.mem_append_left _ (List.mem_append_left _ (List.mem_append_right _ (h)))))) hown hK hP 1 rfl rfl 1 (by decide) (hts (.fieldLink RX3 77 "OptionWire$End" "leastAsked" "[I") (List.mem_of_getElem? (i := 4) rfl)) (fun _ h9 => h9) rfl dX3_wish_73 ?_
        refine lv_iload_n hx hb dX3_wish_76 rfl (lv_at hl 4 rfl) ?_
        refine lv_iload hx hb dX3_wish_77 (lv_at hl 6 rfl) ?_
        refine z_iast (k := k) hx hb hK hP hD hS 3 0 rfl rfl rfl (by omega) (by decide) dX3_wish_79 (fun H locs hP hD hS => ?_)
        have hP : va_P D vwCl [(o, .inr (4, [.ref F, .ref G, .int lo, .int nw, .int se, .ref (pa 0), .ref an, .ref ln])), cE x xv, (x 1, .inl (cA 0, 4, .inl (upd w0 k wi))), (x 2, .inl (cA 0, 4, .inl (upd w1 k le))), (x 3, .inl (cA 0, 4, .inl w2))] H := hP
        have hD : va_D A [(o, .inr (4, [.ref F, .ref G, .int lo, .int nw, .int se, .ref (pa 0), .ref an, .ref ln])), cE x xv, (x 1, .inl (cA 0, 4, .inl (upd w0 k wi))), (x 2, .inl (cA 0, 4, .inl (upd w1 k le))), (x 3, .inl (cA 0, 4, .inl w2))] := hD
        refine lv_aload hx hb dX3_wish_80 (lv_at hl 1 rfl) ?_
        refine va_get (D := D) (ci := 1) (v := .ref (x 3)) (C := RX0) (T := TX0) (N := 16) hx hb hts (fun _ h => List.mem_cons_of_mem _ (List.mem_append_left _ (List.mem_append_left _ (List.mem_append_left _ (List.mem_append_right _ (h)))))) hown hK hP 1 rfl rfl 2 (by decide) (hts (.fieldLink RX3 80 "OptionWire$End" "mostAsked" "[I") (List.mem_of_getElem? (i := 5) rfl)) (fun _ h9 => h9) rfl dX3_wish_82 ?_
        refine lv_iload_n hx hb dX3_wish_85 rfl (lv_at hl 4 rfl) ?_
        refine lv_iload hx hb dX3_wish_86 (lv_at hl 7 rfl) ?_
        refine z_iast (k := k) hx hb hK hP hD hS 4 0 rfl rfl rfl (by omega) (by decide) dX3_wish_88 (fun H locs hP hD hS => ?_)
        have hP : va_P D vwCl [(o, .inr (4, [.ref F, .ref G, .int lo, .int nw, .int se, .ref (pa 0), .ref an, .ref ln])), cE x xv, (x 1, .inl (cA 0, 4, .inl (upd w0 k wi))), (x 2, .inl (cA 0, 4, .inl (upd w1 k le))), (x 3, .inl (cA 0, 4, .inl (upd w2 k mo)))] H := hP
        have hD : va_D A [(o, .inr (4, [.ref F, .ref G, .int lo, .int nw, .int se, .ref (pa 0), .ref an, .ref ln])), cE x xv, (x 1, .inl (cA 0, 4, .inl (upd w0 k wi))), (x 2, .inl (cA 0, 4, .inl (upd w1 k le))), (x 3, .inl (cA 0, 4, .inl (upd w2 k mo)))] := hD
        refine lv_iload hx hb dX3_wish_89 (lv_at hl 0 rfl) ?_
        refine W.widen (k := 0) (n := 0) (by omega) (by omega) ?_
        exact W.iret (v := (w0 k)) hx hb hr (fun t ht hW => ⟨⟨w0 k, (), rfl, rfl, ⟨by rw [ht]; exact hP, by rw [hAe]; exact hD⟩⟩, hS.F ht⟩) hS.2.2 dX3_wish_91
      · skip
        exact absurd (Int32.not_lt.mp hin.2) c_8
set_option maxHeartbeats 4000000 in
set_option maxRecDepth 100000 in
theorem c_X3_wish_s (l : Launch) (D : va_G) (cA : Nat → ClassId) (zv : Nat → Nat) (sz : Nat) (hl0 : l.stackTraces = false) (o F G : Nat) (lo nw se : Int32) (pa : Nat → Nat) (an ln : Nat) (x : Nat → Nat) (y0 : Nat) (n : Int32) (xv : Nat → Int32) (k : Nat) (wi le mo : Int32) (he : en n F G (x 0) y0) (hk : k < 4) (hsp : sSp le mo) (hwi : wi = -1 ∨ inr wi le mo) (hsh : ¬ sSh (xv 0)) : vx_Met l yX3_wish wsX3_wish ({ frames := 9, cells := 1, slots := 6, locals := 120 }) (va_Pc [.ref o, .int n, .int (nI k), .int wi, .int le, .int mo] (zUX D cA zv sz [(o, .inr (4, [.ref F, .ref G, .int lo, .int nw, .int se, .ref (pa 0), .ref an, .ref ln])), cE x xv])) (va_Qi (fun (_ : Int32) (_ : Unit) => False) (fun (_ : Unit) _ => True) (va_A [(o, .inr (4, [.ref F, .ref G, .int lo, .int nw, .int se, .ref (pa 0), .ref an, .ref ln])), cE x xv] sz)) (vx_X (fun (_ : Unit) => True) (fun E (_ : Unit) t => E = "java/lang/IllegalStateException" ∧ zB D [(o, .inr (4, [.ref F, .ref G, .int lo, .int nw, .int se, .ref (pa 0), .ref an, .ref ln])), cE x xv] sz [(o, .inr (4, [.ref F, .ref G, .int lo, .int nw, .int se, .ref (pa 0), .ref an, .ref ln])), cE x xv] t) (va_A [(o, .inr (4, [.ref F, .ref G, .int lo, .int nw, .int se, .ref (pa 0), .ref an, .ref ln])), cE x xv] sz)) 1 6 (va_A [(o, .inr (4, [.ref F, .ref G, .int lo, .int nw, .int se, .ref (pa 0), .ref an, .ref ln])), cE x xv] sz) := by
  refine vx_ofW (cc := cX3_wish) (maxL := 8) (ret := (some .int)) (by decide) rfl ?_
  intro p e s m args below meth c s₁ B hml htab hv
  obtain ⟨rfl, ⟨hsz, hP, hK, hD0, hE0⟩, hX0⟩ := hv
  have hx := B.exec
  have hb := B.bytes
  have hr := B.returns
  have hts := atoms_spec (ws := wsX3_wish) B.pre
  have hown : s.vm.findClass RX3 = some m.cls := findClass_of_methodNamed B.named
  have hlocks := B.notSynchronized
  subst hsz
  have hD := hD0.self (sz := s.heap.size)
  generalize hAe : va_A [(o, .inr (4, [.ref F, .ref G, .int lo, .int nw, .int se, .ref (pa 0), .ref an, .ref ln])), cE x xv] s.heap.size = A at hD hE0 hX0 ⊢
  have hA : ∀ q : Nat, s.heap.size ≤ q → A q := fun q h => by rw [← hAe]; exact Or.inr h
  have hS : va_S A s.heap s.heap [] := va_S.rf
  have hl := lv_entry ([.ref o, .int n, .int (nI k), .int wi, .int le, .int mo]) (n := 8) (Nat.le_of_ble_eq_true rfl)
  rw [lg_entry_eq]
  generalize (lg_sl ([.ref o, .int n, .int (nI k), .int wi, .int le, .int mo]) ++ List.replicate (8 - (lg_sl ([.ref o, .int n, .int (nI k), .int wi, .int le, .int mo])).length) Slot.unset).toArray = ls at hl ⊢
  have hl : lv_has ls 8 [(0, .ref o), (1, .int n), (2, .int (nI k)), (3, .int wi), (4, .int le), (5, .int mo)] := hl
  refine lv_iload_n hx hb dX3_wish_0 rfl (lv_at hl 1 rfl) ?_
  have hPc := hP.sub (ws' := []) [] rfl
  have hDc := hD.sub (ws' := []) [] (by decide) rfl
  have hFc := va_free (wc := []) hD hS hA [] rfl
  refine va_callv (va_runS (As := [.int n]) (rest := []) ⟨hx, hb, hml, hown, hts⟩ (c_X3_checkEnd_k l D cA s.heap.size n (en_inr he)) (va_cwS 1 hts gX3_wish_X3_checkEnd rfl rfl rfl (by decide +kernel) ⟨Nat.le_of_ble_eq_true rfl, Nat.le_of_ble_eq_true rfl⟩) ⟨zU_blind, fun U hU hW => ⟨rfl, zU_call hU hPc hW.alike hK hDc⟩⟩ rfl rfl hl.1 rfl (lv_room (Nat.le_of_ble_eq_true rfl)) dX3_wish_1 ⟨(Nat.zero_le _), (Nat.zero_le _)⟩) hS (fun q _ h => hFc q h) hFc (fun u t H1 locs ht hvm hw hB hz1 hk1 hS => ?_)
  obtain ⟨hP1, hD1⟩ := hB
  rw [ht] at hP1
  obtain ⟨hP, hD⟩ := va_join (wr := [(o, .inr (4, [.ref F, .ref G, .int lo, .int nw, .int se, .ref (pa 0), .ref an, .ref ln])), cE x xv]) (w1 := []) hP hD [] [0, 1] rfl rfl (by decide) (by decide) hk1 hFc hP1 hD1
  generalize H1 = H at hP hS ⊢
  have hP := hP.sub (ws' := [(o, .inr (4, [.ref F, .ref G, .int lo, .int nw, .int se, .ref (pa 0), .ref an, .ref ln])), cE x xv]) [0, 1] rfl
  have hD := hD.sub (ws' := [(o, .inr (4, [.ref F, .ref G, .int lo, .int nw, .int se, .ref (pa 0), .ref an, .ref ln])), cE x xv]) [0, 1] (by decide) rfl
  clear hPc hDc hFc hP1 hD1 hk1 hz1
  have hw_1 := hw
  refine lv_iload_n hx hb dX3_wish_4 rfl (lv_at hl 2 rfl) ?_
  have hPc := hP.sub (ws' := []) [] rfl
  have hDc := hD.sub (ws' := []) [] (by decide) rfl
  have hFc := va_free (wc := []) hD hS hA [] rfl
  refine va_callv (va_runS (As := [.int (nI k)]) (rest := []) ⟨hx, hb, hml, hown, hts⟩ (c_X3_checkOption_k l D cA H.size (nI k) (inr_k hk)) (va_cwS 1 hts gX3_wish_X3_checkOption rfl rfl rfl (by decide +kernel) ⟨Nat.le_of_ble_eq_true rfl, Nat.le_of_ble_eq_true rfl⟩) ⟨zU_blind, fun U hU hW => ⟨rfl, zU_call hU hPc hW.alike hK hDc⟩⟩ rfl rfl hl.1 rfl (lv_room (Nat.le_of_ble_eq_true rfl)) dX3_wish_5 ⟨(Nat.zero_le _), (Nat.zero_le _)⟩) hS (fun q _ h => hFc q h) hFc (fun u t H1 locs ht hvm hw hB hz1 hk1 hS => ?_)
  obtain ⟨hP1, hD1⟩ := hB
  rw [ht] at hP1
  obtain ⟨hP, hD⟩ := va_join (wr := [(o, .inr (4, [.ref F, .ref G, .int lo, .int nw, .int se, .ref (pa 0), .ref an, .ref ln])), cE x xv]) (w1 := []) hP hD [] [0, 1] rfl rfl (by decide) (by decide) hk1 hFc hP1 hD1
  generalize H1 = H at hP hS ⊢
  have hP := hP.sub (ws' := [(o, .inr (4, [.ref F, .ref G, .int lo, .int nw, .int se, .ref (pa 0), .ref an, .ref ln])), cE x xv]) [0, 1] rfl
  have hD := hD.sub (ws' := [(o, .inr (4, [.ref F, .ref G, .int lo, .int nw, .int se, .ref (pa 0), .ref an, .ref ln])), cE x xv]) [0, 1] (by decide) rfl
  clear hPc hDc hFc hP1 hD1 hk1 hz1
  have hw_2 := hw
  refine lv_iload hx hb dX3_wish_8 (lv_at hl 4 rfl) ?_
  refine lv_iload hx hb dX3_wish_10 (lv_at hl 5 rfl) ?_
  have hPc := hP.sub (ws' := []) [] rfl
  have hDc := hD.sub (ws' := []) [] (by decide) rfl
  have hFc := va_free (wc := []) hD hS hA [] rfl
  refine va_callv (va_runS (As := [.int le, .int mo]) (rest := []) ⟨hx, hb, hml, hown, hts⟩ (c_X3_checkRange_k l D cA H.size le mo (by assumption)) (va_cwS 2 hts gX3_wish_X3_checkRange rfl rfl rfl (by decide +kernel) ⟨Nat.le_of_ble_eq_true rfl, Nat.le_of_ble_eq_true rfl⟩) ⟨zU_blind, fun U hU hW => ⟨rfl, zU_call hU hPc hW.alike hK hDc⟩⟩ rfl rfl hl.1 rfl (lv_room (Nat.le_of_ble_eq_true rfl)) dX3_wish_12 ⟨(Nat.zero_le _), (Nat.zero_le _)⟩) hS (fun q _ h => hFc q h) hFc (fun u t H1 locs ht hvm hw hB hz1 hk1 hS => ?_)
  obtain ⟨hP1, hD1⟩ := hB
  rw [ht] at hP1
  obtain ⟨hP, hD⟩ := va_join (wr := [(o, .inr (4, [.ref F, .ref G, .int lo, .int nw, .int se, .ref (pa 0), .ref an, .ref ln])), cE x xv]) (w1 := []) hP hD [] [0, 1] rfl rfl (by decide) (by decide) hk1 hFc hP1 hD1
  generalize H1 = H at hP hS ⊢
  have hP := hP.sub (ws' := [(o, .inr (4, [.ref F, .ref G, .int lo, .int nw, .int se, .ref (pa 0), .ref an, .ref ln])), cE x xv]) [0, 1] rfl
  have hD := hD.sub (ws' := [(o, .inr (4, [.ref F, .ref G, .int lo, .int nw, .int se, .ref (pa 0), .ref an, .ref ln])), cE x xv]) [0, 1] (by decide) rfl
  clear hPc hDc hFc hP1 hD1 hk1 hz1
  have hw_3 := hw
  refine lv_iload_n hx hb dX3_wish_15 rfl (lv_at hl 3 rfl) ?_
  refine lv_iconst (v := (-1)) hx hb dX3_wish_16 (by decide) ?_
  refine lv_icmp_eq (tgt := 42) hx hb dX3_wish_17 (by decide) (fun c_4 => ?_) (fun c_4 => ?_)
  · skip
    refine lv_aload_n hx hb dX3_wish_42 rfl (lv_at hl 0 rfl) ?_
    refine lv_iload_n hx hb dX3_wish_43 rfl (lv_at hl 1 rfl) ?_
    have hPc := hP.sub (ws' := [(o, .inr (4, [.ref F, .ref G, .int lo, .int nw, .int se, .ref (pa 0), .ref an, .ref ln]))]) [0] rfl
    have hDc := hD.sub (ws' := [(o, .inr (4, [.ref F, .ref G, .int lo, .int nw, .int se, .ref (pa 0), .ref an, .ref ln]))]) [0] (by decide) rfl
    have hFc := va_free (wc := [(o, .inr (4, [.ref F, .ref G, .int lo, .int nw, .int se, .ref (pa 0), .ref an, .ref ln]))]) hD hS hA [0] rfl
    refine va_callr (va_runV (As := [.int n]) (rest := []) ⟨hx, hb, hml, hown, hts⟩ (c_X3_endOf l D cA H.size o F G lo nw se pa an ln n (x 0) y0 (by assumption)) (cwV 1 hts gX3_wish_X3_endOf rfl rfl rfl (by decide +kernel) ⟨Nat.le_of_ble_eq_true rfl, Nat.le_of_ble_eq_true rfl⟩) ⟨zU_blind, va_recv hK hPc (ci := 4) (q0 := 0) rfl rfl, fun U hU hW => ⟨rfl, zU_call hU hPc hW.alike hK hDc⟩⟩ rfl rfl hl.1 rfl (lv_room (Nat.le_of_ble_eq_true rfl)) dX3_wish_44 ⟨(Nat.zero_le _), (Nat.zero_le _)⟩) hS (fun q _ h => hFc q h) hFc (fun u ra t H1 locs ht hvm hw hB hz1 hk1 hS => ?_)
    obtain ⟨hra, hP1, hD1⟩ := hB
    rw [ht] at hP1
    subst ra
    obtain ⟨hP, hD⟩ := va_join (wr := [cE x xv]) (w1 := [(o, .inr (4, [.ref F, .ref G, .int lo, .int nw, .int se, .ref (pa 0), .ref an, .ref ln]))]) hP hD [0] [1] rfl rfl (by decide) (by decide) hk1 hFc hP1 hD1
    generalize H1 = H at hP hS ⊢
    have hP := hP.sub (ws' := [(o, .inr (4, [.ref F, .ref G, .int lo, .int nw, .int se, .ref (pa 0), .ref an, .ref ln])), cE x xv]) [1, 0] rfl
    have hD := hD.sub (ws' := [(o, .inr (4, [.ref F, .ref G, .int lo, .int nw, .int se, .ref (pa 0), .ref an, .ref ln])), cE x xv]) [1, 0] (by decide) rfl
    clear hPc hDc hFc hP1 hD1 hk1 hz1
    have hw_5 := hw
    refine lv_astore (lv' := [(6, .ref (x 0)), (0, .ref o), (1, .int n), (2, .int (nI k)), (3, .int wi), (4, .int le), (5, .int mo)]) hx hb dX3_wish_47 hl (by decide) rfl (fun ls hl => ?_)
    refine lv_aload hx hb dX3_wish_49 (lv_at hl 0 rfl) ?_
    have hPc := hP.sub (ws' := [cE x xv]) [1] rfl
    have hDc := hD.sub (ws' := [cE x xv]) [1] (by decide) rfl
    have hFc := va_free (wc := [cE x xv]) hD hS hA [1] rfl
    refine vx_callv (vx_runS (As := [.ref (x 0)]) (rest := []) ⟨hx, hb, hml, hown, hts⟩ (c_X3_checkShut_t l D cA zv H.size hl0 x xv (by assumption)) (va_cwS 1 hts gX3_wish_X3_checkShut rfl rfl rfl (by decide +kernel) ⟨Nat.le_of_ble_eq_true rfl, Nat.le_of_ble_eq_true rfl⟩) ⟨zUX_blind, fun U hU hW => ⟨rfl, zUX_call hE0 hX0 hS hFc hU hPc hW hK hDc⟩⟩ rfl rfl hl.1 rfl (lv_room (Nat.le_of_ble_eq_true rfl)) dX3_wish_51 ⟨Nat.le_of_ble_eq_true rfl, Nat.le_of_ble_eq_true rfl⟩) hS (fun q _ h => hFc q h) hFc (fun q _ h => hFc q h) (fun E9 ce9 q9 u t H1 locs ht hvm hpx hB hz1 hk1 hS hcell hcv hcl => ?_) (fun u t H1 locs1 ht hvm hw _ _ _ _ => hw.elim)
    obtain ⟨rfl, hP1, hD1⟩ := hB
    rw [ht] at hP1
    obtain ⟨hP, hD⟩ := va_join (wr := [(o, .inr (4, [.ref F, .ref G, .int lo, .int nw, .int se, .ref (pa 0), .ref an, .ref ln]))]) (w1 := [cE x xv]) hP hD [1] [0] rfl rfl (by decide) (by decide) hk1 hFc hP1 hD1
    have hP := hP.sub (ws' := [(o, .inr (4, [.ref F, .ref G, .int lo, .int nw, .int se, .ref (pa 0), .ref an, .ref ln])), cE x xv]) [0, 1] rfl
    have hD := hD.sub (ws' := [(o, .inr (4, [.ref F, .ref G, .int lo, .int nw, .int se, .ref (pa 0), .ref an, .ref ln])), cE x xv]) [0, 1] (by decide) rfl
    exact vx_out (fun x h => (htab x h).elim) hlocks hcell hcv hcl (fun t2 h7 h8 => z_thrO hP hD hS hAe h7) hS.2.2 (by omega) (by omega)
  · skip
    have hin := hwi.resolve_left c_4
    refine lv_iload_n hx hb dX3_wish_20 rfl (lv_at hl 3 rfl) ?_
    refine lv_iload hx hb dX3_wish_21 (lv_at hl 4 rfl) ?_
    refine lv_icmp_lt (tgt := 32) hx hb dX3_wish_23 (by decide) (fun c_8 => ?_) (fun c_8 => ?_)
    · skip
      exact absurd c_8 hin.1
    · skip
      refine lv_iload_n hx hb dX3_wish_26 rfl (lv_at hl 3 rfl) ?_
      refine lv_iload hx hb dX3_wish_27 (lv_at hl 5 rfl) ?_
      refine lv_icmp_le (tgt := 42) hx hb dX3_wish_29 (by decide) (fun c_9 => ?_) (fun c_9 => ?_)
      · skip
        refine lv_aload_n hx hb dX3_wish_42 rfl (lv_at hl 0 rfl) ?_
        refine lv_iload_n hx hb dX3_wish_43 rfl (lv_at hl 1 rfl) ?_
        have hPc := hP.sub (ws' := [(o, .inr (4, [.ref F, .ref G, .int lo, .int nw, .int se, .ref (pa 0), .ref an, .ref ln]))]) [0] rfl
        have hDc := hD.sub (ws' := [(o, .inr (4, [.ref F, .ref G, .int lo, .int nw, .int se, .ref (pa 0), .ref an, .ref ln]))]) [0] (by decide) rfl
        have hFc := va_free (wc := [(o, .inr (4, [.ref F, .ref G, .int lo, .int nw, .int se, .ref (pa 0), .ref an, .ref ln]))]) hD hS hA [0] rfl
        refine va_callr (va_runV (As := [.int n]) (rest := []) ⟨hx, hb, hml, hown, hts⟩ (c_X3_endOf l D cA H.size o F G lo nw se pa an ln n (x 0) y0 (by assumption)) (cwV 1 hts gX3_wish_X3_endOf rfl rfl rfl (by decide +kernel) ⟨Nat.le_of_ble_eq_true rfl, Nat.le_of_ble_eq_true rfl⟩) ⟨zU_blind, va_recv hK hPc (ci := 4) (q0 := 0) rfl rfl, fun U hU hW => ⟨rfl, zU_call hU hPc hW.alike hK hDc⟩⟩ rfl rfl hl.1 rfl (lv_room (Nat.le_of_ble_eq_true rfl)) dX3_wish_44 ⟨(Nat.zero_le _), (Nat.zero_le _)⟩) hS (fun q _ h => hFc q h) hFc (fun u ra t H1 locs ht hvm hw hB hz1 hk1 hS => ?_)
        obtain ⟨hra, hP1, hD1⟩ := hB
        rw [ht] at hP1
        subst ra
        obtain ⟨hP, hD⟩ := va_join (wr := [cE x xv]) (w1 := [(o, .inr (4, [.ref F, .ref G, .int lo, .int nw, .int se, .ref (pa 0), .ref an, .ref ln]))]) hP hD [0] [1] rfl rfl (by decide) (by decide) hk1 hFc hP1 hD1
        generalize H1 = H at hP hS ⊢
        have hP := hP.sub (ws' := [(o, .inr (4, [.ref F, .ref G, .int lo, .int nw, .int se, .ref (pa 0), .ref an, .ref ln])), cE x xv]) [1, 0] rfl
        have hD := hD.sub (ws' := [(o, .inr (4, [.ref F, .ref G, .int lo, .int nw, .int se, .ref (pa 0), .ref an, .ref ln])), cE x xv]) [1, 0] (by decide) rfl
        clear hPc hDc hFc hP1 hD1 hk1 hz1
        have hw_10 := hw
        refine lv_astore (lv' := [(6, .ref (x 0)), (0, .ref o), (1, .int n), (2, .int (nI k)), (3, .int wi), (4, .int le), (5, .int mo)]) hx hb dX3_wish_47 hl (by decide) rfl (fun ls hl => ?_)
        refine lv_aload hx hb dX3_wish_49 (lv_at hl 0 rfl) ?_
        have hPc := hP.sub (ws' := [cE x xv]) [1] rfl
        have hDc := hD.sub (ws' := [cE x xv]) [1] (by decide) rfl
        have hFc := va_free (wc := [cE x xv]) hD hS hA [1] rfl
        refine vx_callv (vx_runS (As := [.ref (x 0)]) (rest := []) ⟨hx, hb, hml, hown, hts⟩ (c_X3_checkShut_t l D cA zv H.size hl0 x xv (by assumption)) (va_cwS 1 hts gX3_wish_X3_checkShut rfl rfl rfl (by decide +kernel) ⟨Nat.le_of_ble_eq_true rfl, Nat.le_of_ble_eq_true rfl⟩) ⟨zUX_blind, fun U hU hW => ⟨rfl, zUX_call hE0 hX0 hS hFc hU hPc hW hK hDc⟩⟩ rfl rfl hl.1 rfl (lv_room (Nat.le_of_ble_eq_true rfl)) dX3_wish_51 ⟨Nat.le_of_ble_eq_true rfl, Nat.le_of_ble_eq_true rfl⟩) hS (fun q _ h => hFc q h) hFc (fun q _ h => hFc q h) (fun E9 ce9 q9 u t H1 locs ht hvm hpx hB hz1 hk1 hS hcell hcv hcl => ?_) (fun u t H1 locs1 ht hvm hw _ _ _ _ => hw.elim)
        obtain ⟨rfl, hP1, hD1⟩ := hB
        rw [ht] at hP1
        obtain ⟨hP, hD⟩ := va_join (wr := [(o, .inr (4, [.ref F, .ref G, .int lo, .int nw, .int se, .ref (pa 0), .ref an, .ref ln]))]) (w1 := [cE x xv]) hP hD [1] [0] rfl rfl (by decide) (by decide) hk1 hFc hP1 hD1
        have hP := hP.sub (ws' := [(o, .inr (4, [.ref F, .ref G, .int lo, .int nw, .int se, .ref (pa 0), .ref an, .ref ln])), cE x xv]) [0, 1] rfl
        have hD := hD.sub (ws' := [(o, .inr (4, [.ref F, .ref G, .int lo, .int nw, .int se, .ref (pa 0), .ref an, .ref ln])), cE x xv]) [0, 1] (by decide) rfl
        exact vx_out (fun x h => (htab x h).elim) hlocks hcell hcv hcl (fun t2 h7 h8 => z_thrO hP hD hS hAe h7) hS.2.2 (by omega) (by omega)
      · skip
        exact absurd (Int32.not_lt.mp hin.2) c_9
set_option maxHeartbeats 4000000 in
set_option maxRecDepth 100000 in
theorem c_X3_wish_b (l : Launch) (D : va_G) (cA : Nat → ClassId) (zv : Nat → Nat) (sz : Nat) (hl0 : l.stackTraces = false) (o F G : Nat) (lo nw se : Int32) (pa : Nat → Nat) (an ln : Nat) (n q wi le mo : Int32) (hbad : ¬ ((inr n 0 1 ∧ inr q 0 3) ∧ (sSp le mo) ∧ (wi = -1 ∨ inr wi le mo))) : vx_Met l yX3_wish wsX3_wish ({ frames := 9, cells := 1, slots := 6, locals := 121 }) (va_Pc [.ref o, .int n, .int q, .int wi, .int le, .int mo] (zUX D cA zv sz [(o, .inr (4, [.ref F, .ref G, .int lo, .int nw, .int se, .ref (pa 0), .ref an, .ref ln]))])) (va_Qi (fun (_ : Int32) (_ : Unit) => False) (fun (_ : Unit) _ => True) (va_A [(o, .inr (4, [.ref F, .ref G, .int lo, .int nw, .int se, .ref (pa 0), .ref an, .ref ln]))] sz)) (vx_X (fun (_ : Unit) => True) (fun E (_ : Unit) t => E = "java/lang/IllegalArgumentException" ∧ zB D [(o, .inr (4, [.ref F, .ref G, .int lo, .int nw, .int se, .ref (pa 0), .ref an, .ref ln]))] sz [(o, .inr (4, [.ref F, .ref G, .int lo, .int nw, .int se, .ref (pa 0), .ref an, .ref ln]))] t) (va_A [(o, .inr (4, [.ref F, .ref G, .int lo, .int nw, .int se, .ref (pa 0), .ref an, .ref ln]))] sz)) 1 6 (va_A [(o, .inr (4, [.ref F, .ref G, .int lo, .int nw, .int se, .ref (pa 0), .ref an, .ref ln]))] sz) := by
  refine vx_ofW (cc := cX3_wish) (maxL := 8) (ret := (some .int)) (by decide) rfl ?_
  intro p e s m args below meth c s₁ B hml htab hv
  obtain ⟨rfl, ⟨hsz, hP, hK, hD0, hE0⟩, hX0⟩ := hv
  have hx := B.exec
  have hb := B.bytes
  have hr := B.returns
  have hts := atoms_spec (ws := wsX3_wish) B.pre
  have hown : s.vm.findClass RX3 = some m.cls := findClass_of_methodNamed B.named
  have hlocks := B.notSynchronized
  subst hsz
  have hD := hD0.self (sz := s.heap.size)
  generalize hAe : va_A [(o, .inr (4, [.ref F, .ref G, .int lo, .int nw, .int se, .ref (pa 0), .ref an, .ref ln]))] s.heap.size = A at hD hE0 hX0 ⊢
  have hA : ∀ q : Nat, s.heap.size ≤ q → A q := fun q h => by rw [← hAe]; exact Or.inr h
  have hS : va_S A s.heap s.heap [] := va_S.rf
  have hl := lv_entry ([.ref o, .int n, .int q, .int wi, .int le, .int mo]) (n := 8) (Nat.le_of_ble_eq_true rfl)
  rw [lg_entry_eq]
  generalize (lg_sl ([.ref o, .int n, .int q, .int wi, .int le, .int mo]) ++ List.replicate (8 - (lg_sl ([.ref o, .int n, .int q, .int wi, .int le, .int mo])).length) Slot.unset).toArray = ls at hl ⊢
  have hl : lv_has ls 8 [(0, .ref o), (1, .int n), (2, .int q), (3, .int wi), (4, .int le), (5, .int mo)] := hl
  refine lv_iload_n hx hb dX3_wish_0 rfl (lv_at hl 1 rfl) ?_
  by_cases q1 : inr n 0 1
  · skip
    have hPc := hP.sub (ws' := []) [] rfl
    have hDc := hD.sub (ws' := []) [] (by decide) rfl
    have hFc := va_free (wc := []) hD hS hA [] rfl
    refine va_callv (va_runS (As := [.int n]) (rest := []) ⟨hx, hb, hml, hown, hts⟩ (c_X3_checkEnd_k l D cA s.heap.size n q1) (va_cwS 1 hts gX3_wish_X3_checkEnd rfl rfl rfl (by decide +kernel) ⟨Nat.le_of_ble_eq_true rfl, Nat.le_of_ble_eq_true rfl⟩) ⟨zU_blind, fun U hU hW => ⟨rfl, zU_call hU hPc hW.alike hK hDc⟩⟩ rfl rfl hl.1 rfl (lv_room (Nat.le_of_ble_eq_true rfl)) dX3_wish_1 ⟨(Nat.zero_le _), (Nat.zero_le _)⟩) hS (fun q _ h => hFc q h) hFc (fun u t H1 locs ht hvm hw hB hz1 hk1 hS => ?_)
    obtain ⟨hP1, hD1⟩ := hB
    rw [ht] at hP1
    obtain ⟨hP, hD⟩ := va_join (wr := [(o, .inr (4, [.ref F, .ref G, .int lo, .int nw, .int se, .ref (pa 0), .ref an, .ref ln]))]) (w1 := []) hP hD [] [0] rfl rfl (by decide) (by decide) hk1 hFc hP1 hD1
    generalize H1 = H at hP hS ⊢
    have hP := hP.sub (ws' := [(o, .inr (4, [.ref F, .ref G, .int lo, .int nw, .int se, .ref (pa 0), .ref an, .ref ln]))]) [0] rfl
    have hD := hD.sub (ws' := [(o, .inr (4, [.ref F, .ref G, .int lo, .int nw, .int se, .ref (pa 0), .ref an, .ref ln]))]) [0] (by decide) rfl
    clear hPc hDc hFc hP1 hD1 hk1 hz1
    have hw_1 := hw
    refine lv_iload_n hx hb dX3_wish_4 rfl (lv_at hl 2 rfl) ?_
    by_cases q2 : inr q 0 3
    · skip
      have hPc := hP.sub (ws' := []) [] rfl
      have hDc := hD.sub (ws' := []) [] (by decide) rfl
      have hFc := va_free (wc := []) hD hS hA [] rfl
      refine va_callv (va_runS (As := [.int q]) (rest := []) ⟨hx, hb, hml, hown, hts⟩ (c_X3_checkOption_k l D cA H.size q q2) (va_cwS 1 hts gX3_wish_X3_checkOption rfl rfl rfl (by decide +kernel) ⟨Nat.le_of_ble_eq_true rfl, Nat.le_of_ble_eq_true rfl⟩) ⟨zU_blind, fun U hU hW => ⟨rfl, zU_call hU hPc hW.alike hK hDc⟩⟩ rfl rfl hl.1 rfl (lv_room (Nat.le_of_ble_eq_true rfl)) dX3_wish_5 ⟨(Nat.zero_le _), (Nat.zero_le _)⟩) hS (fun q _ h => hFc q h) hFc (fun u t H1 locs ht hvm hw hB hz1 hk1 hS => ?_)
      obtain ⟨hP1, hD1⟩ := hB
      rw [ht] at hP1
      obtain ⟨hP, hD⟩ := va_join (wr := [(o, .inr (4, [.ref F, .ref G, .int lo, .int nw, .int se, .ref (pa 0), .ref an, .ref ln]))]) (w1 := []) hP hD [] [0] rfl rfl (by decide) (by decide) hk1 hFc hP1 hD1
      generalize H1 = H at hP hS ⊢
      have hP := hP.sub (ws' := [(o, .inr (4, [.ref F, .ref G, .int lo, .int nw, .int se, .ref (pa 0), .ref an, .ref ln]))]) [0] rfl
      have hD := hD.sub (ws' := [(o, .inr (4, [.ref F, .ref G, .int lo, .int nw, .int se, .ref (pa 0), .ref an, .ref ln]))]) [0] (by decide) rfl
      clear hPc hDc hFc hP1 hD1 hk1 hz1
      have hw_2 := hw
      refine lv_iload hx hb dX3_wish_8 (lv_at hl 4 rfl) ?_
      refine lv_iload hx hb dX3_wish_10 (lv_at hl 5 rfl) ?_
      by_cases q3 : sSp le mo
      · skip
        have hPc := hP.sub (ws' := []) [] rfl
        have hDc := hD.sub (ws' := []) [] (by decide) rfl
        have hFc := va_free (wc := []) hD hS hA [] rfl
        refine va_callv (va_runS (As := [.int le, .int mo]) (rest := []) ⟨hx, hb, hml, hown, hts⟩ (c_X3_checkRange_k l D cA H.size le mo q3) (va_cwS 2 hts gX3_wish_X3_checkRange rfl rfl rfl (by decide +kernel) ⟨Nat.le_of_ble_eq_true rfl, Nat.le_of_ble_eq_true rfl⟩) ⟨zU_blind, fun U hU hW => ⟨rfl, zU_call hU hPc hW.alike hK hDc⟩⟩ rfl rfl hl.1 rfl (lv_room (Nat.le_of_ble_eq_true rfl)) dX3_wish_12 ⟨(Nat.zero_le _), (Nat.zero_le _)⟩) hS (fun q _ h => hFc q h) hFc (fun u t H1 locs ht hvm hw hB hz1 hk1 hS => ?_)
        obtain ⟨hP1, hD1⟩ := hB
        rw [ht] at hP1
        obtain ⟨hP, hD⟩ := va_join (wr := [(o, .inr (4, [.ref F, .ref G, .int lo, .int nw, .int se, .ref (pa 0), .ref an, .ref ln]))]) (w1 := []) hP hD [] [0] rfl rfl (by decide) (by decide) hk1 hFc hP1 hD1
        generalize H1 = H at hP hS ⊢
        have hP := hP.sub (ws' := [(o, .inr (4, [.ref F, .ref G, .int lo, .int nw, .int se, .ref (pa 0), .ref an, .ref ln]))]) [0] rfl
        have hD := hD.sub (ws' := [(o, .inr (4, [.ref F, .ref G, .int lo, .int nw, .int se, .ref (pa 0), .ref an, .ref ln]))]) [0] (by decide) rfl
        clear hPc hDc hFc hP1 hD1 hk1 hz1
        have hw_3 := hw
        refine lv_iload_n hx hb dX3_wish_15 rfl (lv_at hl 3 rfl) ?_
        refine lv_iconst (v := (-1)) hx hb dX3_wish_16 (by decide) ?_
        refine lv_icmp_eq (tgt := 42) hx hb dX3_wish_17 (by decide) (fun c_4 => ?_) (fun c_4 => ?_)
        · skip
          exact absurd ⟨⟨q1, q2⟩, q3, (Or.inl c_4)⟩ hbad
        · skip
          refine lv_iload_n hx hb dX3_wish_20 rfl (lv_at hl 3 rfl) ?_
          refine lv_iload hx hb dX3_wish_21 (lv_at hl 4 rfl) ?_
          refine lv_icmp_lt (tgt := 32) hx hb dX3_wish_23 (by decide) (fun c_5 => ?_) (fun c_5 => ?_)
          · skip
            exact vx_throwS (own := RX3) (cls := "java/lang/IllegalArgumentException") (text := "the wish is not within the limits") (names := ["java/lang/RuntimeException", "java/lang/Exception"]) (ik := 59) (is := 61) (ic := 63) (sa := zv 4) (A := A) hx hb hl0 hown (by decide +kernel) (by decide +kernel) (hts (.classLink RX3 59 "java/lang/IllegalArgumentException") (List.mem_of_getElem? (i := 1) rfl)) (hts (.initialized "java/lang/IllegalArgumentException") (List.mem_of_getElem? (i := 2) rfl)) (hE0.2.2.2 (61, "the wish is not within the limits", 4) (by decide +kernel)) (vx_hat (B := Cond.castable "java/lang/IllegalArgumentException" "java/lang/IllegalArgumentException" :: zBd.map Cond.declares) (fun w h => hts w (List.mem_cons_of_mem _ (List.mem_append_left _ (List.mem_append_right _ (h))))) (by decide +kernel) (z_bad hX0 (by decide))) (by decide +kernel) hE0.2.1.1 hE0.2.1.2 hS (hl.1.trans hml.symm) dX3_wish_32 dX3_wish_35 dX3_wish_36 dX3_wish_38 dX3_wish_41 (fun x h => (htab x h).elim) (Nat.le_of_ble_eq_true rfl) (Nat.le_of_ble_eq_true rfl) (Nat.le_of_ble_eq_true rfl) (Nat.le_of_ble_eq_true rfl) hlocks (fun t h7 h8 h9 => z_thr hP hD hS hAe h8 h9) hS.2.2 (Nat.le_of_ble_eq_true rfl) (Nat.le_of_ble_eq_true rfl)
          · skip
            refine lv_iload_n hx hb dX3_wish_26 rfl (lv_at hl 3 rfl) ?_
            refine lv_iload hx hb dX3_wish_27 (lv_at hl 5 rfl) ?_
            refine lv_icmp_le (tgt := 42) hx hb dX3_wish_29 (by decide) (fun c_6 => ?_) (fun c_6 => ?_)
            · skip
              exact absurd ⟨⟨q1, q2⟩, q3, (Or.inr ⟨c_5, Int32.not_lt.mpr c_6⟩)⟩ hbad
            · skip
              exact vx_throwS (own := RX3) (cls := "java/lang/IllegalArgumentException") (text := "the wish is not within the limits") (names := ["java/lang/RuntimeException", "java/lang/Exception"]) (ik := 59) (is := 61) (ic := 63) (sa := zv 4) (A := A) hx hb hl0 hown (by decide +kernel) (by decide +kernel) (hts (.classLink RX3 59 "java/lang/IllegalArgumentException") (List.mem_of_getElem? (i := 1) rfl)) (hts (.initialized "java/lang/IllegalArgumentException") (List.mem_of_getElem? (i := 2) rfl)) (hE0.2.2.2 (61, "the wish is not within the limits", 4) (by decide +kernel)) (vx_hat (B := Cond.castable "java/lang/IllegalArgumentException" "java/lang/IllegalArgumentException" :: zBd.map Cond.declares) (fun w h => hts w (List.mem_cons_of_mem _ (List.mem_append_left _ (List.mem_append_right _ (h))))) (by decide +kernel) (z_bad hX0 (by decide))) (by decide +kernel) hE0.2.1.1 hE0.2.1.2 hS (hl.1.trans hml.symm) dX3_wish_32 dX3_wish_35 dX3_wish_36 dX3_wish_38 dX3_wish_41 (fun x h => (htab x h).elim) (Nat.le_of_ble_eq_true rfl) (Nat.le_of_ble_eq_true rfl) (Nat.le_of_ble_eq_true rfl) (Nat.le_of_ble_eq_true rfl) hlocks (fun t h7 h8 h9 => z_thr hP hD hS hAe h8 h9) hS.2.2 (Nat.le_of_ble_eq_true rfl) (Nat.le_of_ble_eq_true rfl)
      · skip
        have hPc := hP.sub (ws' := []) [] rfl
        have hDc := hD.sub (ws' := []) [] (by decide) rfl
        have hFc := va_free (wc := []) hD hS hA [] rfl
        refine vx_callv (vx_runS (As := [.int le, .int mo]) (rest := []) ⟨hx, hb, hml, hown, hts⟩ (c_X3_checkRange_t l D cA zv H.size hl0 le mo q3) (va_cwS 2 hts gX3_wish_X3_checkRange rfl rfl rfl (by decide +kernel) ⟨Nat.le_of_ble_eq_true rfl, Nat.le_of_ble_eq_true rfl⟩) ⟨zUX_blind, fun U hU hW => ⟨rfl, zUX_call hE0 hX0 hS hFc hU hPc hW hK hDc⟩⟩ rfl rfl hl.1 rfl (lv_room (Nat.le_of_ble_eq_true rfl)) dX3_wish_12 ⟨Nat.le_of_ble_eq_true rfl, Nat.le_of_ble_eq_true rfl⟩) hS (fun q _ h => hFc q h) hFc (fun q _ h => hFc q h) (fun E9 ce9 q9 u t H1 locs ht hvm hpx hB hz1 hk1 hS hcell hcv hcl => ?_) (fun u t H1 locs1 ht hvm hw _ _ _ _ => hw.elim)
        obtain ⟨rfl, hP1, hD1⟩ := hB
        rw [ht] at hP1
        obtain ⟨hP, hD⟩ := va_join (wr := [(o, .inr (4, [.ref F, .ref G, .int lo, .int nw, .int se, .ref (pa 0), .ref an, .ref ln]))]) (w1 := []) hP hD [] [0] rfl rfl (by decide) (by decide) hk1 hFc hP1 hD1
        have hP := hP.sub (ws' := [(o, .inr (4, [.ref F, .ref G, .int lo, .int nw, .int se, .ref (pa 0), .ref an, .ref ln]))]) [0] rfl
        have hD := hD.sub (ws' := [(o, .inr (4, [.ref F, .ref G, .int lo, .int nw, .int se, .ref (pa 0), .ref an, .ref ln]))]) [0] (by decide) rfl
        exact vx_out (fun x h => (htab x h).elim) hlocks hcell hcv hcl (fun t2 h7 h8 => z_thrO hP hD hS hAe h7) hS.2.2 (by omega) (by omega)
    · skip
      have hPc := hP.sub (ws' := []) [] rfl
      have hDc := hD.sub (ws' := []) [] (by decide) rfl
      have hFc := va_free (wc := []) hD hS hA [] rfl
      refine vx_callv (vx_runS (As := [.int q]) (rest := []) ⟨hx, hb, hml, hown, hts⟩ (c_X3_checkOption_t l D cA zv H.size hl0 q q2) (va_cwS 1 hts gX3_wish_X3_checkOption rfl rfl rfl (by decide +kernel) ⟨Nat.le_of_ble_eq_true rfl, Nat.le_of_ble_eq_true rfl⟩) ⟨zUX_blind, fun U hU hW => ⟨rfl, zUX_call hE0 hX0 hS hFc hU hPc hW hK hDc⟩⟩ rfl rfl hl.1 rfl (lv_room (Nat.le_of_ble_eq_true rfl)) dX3_wish_5 ⟨Nat.le_of_ble_eq_true rfl, Nat.le_of_ble_eq_true rfl⟩) hS (fun q _ h => hFc q h) hFc (fun q _ h => hFc q h) (fun E9 ce9 q9 u t H1 locs ht hvm hpx hB hz1 hk1 hS hcell hcv hcl => ?_) (fun u t H1 locs1 ht hvm hw _ _ _ _ => hw.elim)
      obtain ⟨rfl, hP1, hD1⟩ := hB
      rw [ht] at hP1
      obtain ⟨hP, hD⟩ := va_join (wr := [(o, .inr (4, [.ref F, .ref G, .int lo, .int nw, .int se, .ref (pa 0), .ref an, .ref ln]))]) (w1 := []) hP hD [] [0] rfl rfl (by decide) (by decide) hk1 hFc hP1 hD1
      have hP := hP.sub (ws' := [(o, .inr (4, [.ref F, .ref G, .int lo, .int nw, .int se, .ref (pa 0), .ref an, .ref ln]))]) [0] rfl
      have hD := hD.sub (ws' := [(o, .inr (4, [.ref F, .ref G, .int lo, .int nw, .int se, .ref (pa 0), .ref an, .ref ln]))]) [0] (by decide) rfl
      exact vx_out (fun x h => (htab x h).elim) hlocks hcell hcv hcl (fun t2 h7 h8 => z_thrO hP hD hS hAe h7) hS.2.2 (by omega) (by omega)
  · skip
    have hPc := hP.sub (ws' := []) [] rfl
    have hDc := hD.sub (ws' := []) [] (by decide) rfl
    have hFc := va_free (wc := []) hD hS hA [] rfl
    refine vx_callv (vx_runS (As := [.int n]) (rest := []) ⟨hx, hb, hml, hown, hts⟩ (c_X3_checkEnd_t l D cA zv s.heap.size hl0 n q1) (va_cwS 1 hts gX3_wish_X3_checkEnd rfl rfl rfl (by decide +kernel) ⟨Nat.le_of_ble_eq_true rfl, Nat.le_of_ble_eq_true rfl⟩) ⟨zUX_blind, fun U hU hW => ⟨rfl, zUX_call hE0 hX0 hS hFc hU hPc hW hK hDc⟩⟩ rfl rfl hl.1 rfl (lv_room (Nat.le_of_ble_eq_true rfl)) dX3_wish_1 ⟨Nat.le_of_ble_eq_true rfl, Nat.le_of_ble_eq_true rfl⟩) hS (fun q _ h => hFc q h) hFc (fun q _ h => hFc q h) (fun E9 ce9 q9 u t H1 locs ht hvm hpx hB hz1 hk1 hS hcell hcv hcl => ?_) (fun u t H1 locs1 ht hvm hw _ _ _ _ => hw.elim)
    obtain ⟨rfl, hP1, hD1⟩ := hB
    rw [ht] at hP1
    obtain ⟨hP, hD⟩ := va_join (wr := [(o, .inr (4, [.ref F, .ref G, .int lo, .int nw, .int se, .ref (pa 0), .ref an, .ref ln]))]) (w1 := []) hP hD [] [0] rfl rfl (by decide) (by decide) hk1 hFc hP1 hD1
    have hP := hP.sub (ws' := [(o, .inr (4, [.ref F, .ref G, .int lo, .int nw, .int se, .ref (pa 0), .ref an, .ref ln]))]) [0] rfl
    have hD := hD.sub (ws' := [(o, .inr (4, [.ref F, .ref G, .int lo, .int nw, .int se, .ref (pa 0), .ref an, .ref ln]))]) [0] (by decide) rfl
    exact vx_out (fun x h => (htab x h).elim) hlocks hcell hcv hcl (fun t2 h7 h8 => z_thrO hP hD hS hAe h7) hS.2.2 (by omega) (by omega)
set_option maxHeartbeats 4000000 in
set_option maxRecDepth 100000 in
theorem c_X3_allow_k (l : Launch) (D : va_G) (cA : Nat → ClassId) (sz : Nat) (o F G : Nat) (lo nw se : Int32) (pa : Nat → Nat) (an ln : Nat) (x : Nat → Nat) (y0 : Nat) (n : Int32) (xv : Nat → Int32) (k : Nat) (le mo : Int32) (w3 w4 : Nat → Int32) (he : en n F G (x 0) y0) (hk : k < 4) (hsp : sSp le mo) (hsh : sSh (xv 0)) : Met l yX3_allow wsX3_allow ({ frames := 2, cells := 0, slots := 0, locals := 40 }) (va_Pc [.ref o, .int n, .int (nI k), .int le, .int mo] (zU D cA sz [(o, .inr (4, [.ref F, .ref G, .int lo, .int nw, .int se, .ref (pa 0), .ref an, .ref ln])), cE x xv, (x 4, .inl (cA 0, 4, .inl w3)), (x 5, .inl (cA 0, 4, .inl w4))])) (va_Qv (fun (_ : Unit) => True) (fun (_ : Unit) t => zB D [(o, .inr (4, [.ref F, .ref G, .int lo, .int nw, .int se, .ref (pa 0), .ref an, .ref ln])), cE x xv, (x 4, .inl (cA 0, 4, .inl w3)), (x 5, .inl (cA 0, 4, .inl w4))] sz [(o, .inr (4, [.ref F, .ref G, .int lo, .int nw, .int se, .ref (pa 0), .ref an, .ref ln])), cE x xv, (x 4, .inl (cA 0, 4, .inl (upd w3 k le))), (x 5, .inl (cA 0, 4, .inl (upd w4 k mo)))] t) (va_A [(o, .inr (4, [.ref F, .ref G, .int lo, .int nw, .int se, .ref (pa 0), .ref an, .ref ln])), cE x xv, (x 4, .inl (cA 0, 4, .inl w3)), (x 5, .inl (cA 0, 4, .inl w4))] sz)) 0 0 (va_A [(o, .inr (4, [.ref F, .ref G, .int lo, .int nw, .int se, .ref (pa 0), .ref an, .ref ln])), cE x xv, (x 4, .inl (cA 0, 4, .inl w3)), (x 5, .inl (cA 0, 4, .inl w4))] sz) := by
  refine Met.ofW (cc := cX3_allow) (maxL := 6) (ret := none) (by decide) rfl ?_
  intro p e s m args below meth c s₁ B hml hv
  obtain ⟨rfl, hsz, hP, hK, hD0⟩ := hv
  have hx := B.exec
  have hb := B.bytes
  have hr := B.returns
  have hts := atoms_spec (ws := wsX3_allow) B.pre
  have hown : s.vm.findClass RX3 = some m.cls := findClass_of_methodNamed B.named
  have hlocks := B.notSynchronized
  subst hsz
  have hD := hD0.self (sz := s.heap.size)
  generalize hAe : va_A [(o, .inr (4, [.ref F, .ref G, .int lo, .int nw, .int se, .ref (pa 0), .ref an, .ref ln])), cE x xv, (x 4, .inl (cA 0, 4, .inl w3)), (x 5, .inl (cA 0, 4, .inl w4))] s.heap.size = A at hD ⊢
  have hA : ∀ q : Nat, s.heap.size ≤ q → A q := fun q h => by rw [← hAe]; exact Or.inr h
  have hS : va_S A s.heap s.heap [] := va_S.rf
  have hl := lv_entry ([.ref o, .int n, .int (nI k), .int le, .int mo]) (n := 6) (Nat.le_of_ble_eq_true rfl)
  rw [lg_entry_eq]
  generalize (lg_sl ([.ref o, .int n, .int (nI k), .int le, .int mo]) ++ List.replicate (6 - (lg_sl ([.ref o, .int n, .int (nI k), .int le, .int mo])).length) Slot.unset).toArray = ls at hl ⊢
  have hl : lv_has ls 6 [(0, .ref o), (1, .int n), (2, .int (nI k)), (3, .int le), (4, .int mo)] := hl
  refine lv_iload_n hx hb dX3_allow_0 rfl (lv_at hl 1 rfl) ?_
  have hPc := hP.sub (ws' := []) [] rfl
  have hDc := hD.sub (ws' := []) [] (by decide) rfl
  have hFc := va_free (wc := []) hD hS hA [] rfl
  refine va_callv (va_runS (As := [.int n]) (rest := []) ⟨hx, hb, hml, hown, hts⟩ (c_X3_checkEnd_k l D cA s.heap.size n (en_inr he)) (va_cwS 1 hts gX3_allow_X3_checkEnd rfl rfl rfl (by decide +kernel) ⟨Nat.le_of_ble_eq_true rfl, Nat.le_of_ble_eq_true rfl⟩) ⟨zU_blind, fun U hU hW => ⟨rfl, zU_call hU hPc hW.alike hK hDc⟩⟩ rfl rfl hl.1 rfl (lv_room (Nat.le_of_ble_eq_true rfl)) dX3_allow_1 ⟨(Nat.zero_le _), (Nat.zero_le _)⟩) hS (fun q _ h => hFc q h) hFc (fun u t H1 locs ht hvm hw hB hz1 hk1 hS => ?_)
  obtain ⟨hP1, hD1⟩ := hB
  rw [ht] at hP1
  obtain ⟨hP, hD⟩ := va_join (wr := [(o, .inr (4, [.ref F, .ref G, .int lo, .int nw, .int se, .ref (pa 0), .ref an, .ref ln])), cE x xv, (x 4, .inl (cA 0, 4, .inl w3)), (x 5, .inl (cA 0, 4, .inl w4))]) (w1 := []) hP hD [] [0, 1, 2, 3] rfl rfl (by decide) (by decide) hk1 hFc hP1 hD1
  generalize H1 = H at hP hS ⊢
  have hP := hP.sub (ws' := [(o, .inr (4, [.ref F, .ref G, .int lo, .int nw, .int se, .ref (pa 0), .ref an, .ref ln])), cE x xv, (x 4, .inl (cA 0, 4, .inl w3)), (x 5, .inl (cA 0, 4, .inl w4))]) [0, 1, 2, 3] rfl
  have hD := hD.sub (ws' := [(o, .inr (4, [.ref F, .ref G, .int lo, .int nw, .int se, .ref (pa 0), .ref an, .ref ln])), cE x xv, (x 4, .inl (cA 0, 4, .inl w3)), (x 5, .inl (cA 0, 4, .inl w4))]) [0, 1, 2, 3] (by decide) rfl
  clear hPc hDc hFc hP1 hD1 hk1 hz1
  have hw_1 := hw
  refine lv_iload_n hx hb dX3_allow_4 rfl (lv_at hl 2 rfl) ?_
  have hPc := hP.sub (ws' := []) [] rfl
  have hDc := hD.sub (ws' := []) [] (by decide) rfl
  have hFc := va_free (wc := []) hD hS hA [] rfl
  refine va_callv (va_runS (As := [.int (nI k)]) (rest := []) ⟨hx, hb, hml, hown, hts⟩ (c_X3_checkOption_k l D cA H.size (nI k) (inr_k hk)) (va_cwS 1 hts gX3_allow_X3_checkOption rfl rfl rfl (by decide +kernel) ⟨Nat.le_of_ble_eq_true rfl, Nat.le_of_ble_eq_true rfl⟩) ⟨zU_blind, fun U hU hW => ⟨rfl, zU_call hU hPc hW.alike hK hDc⟩⟩ rfl rfl hl.1 rfl (lv_room (Nat.le_of_ble_eq_true rfl)) dX3_allow_5 ⟨(Nat.zero_le _), (Nat.zero_le _)⟩) hS (fun q _ h => hFc q h) hFc (fun u t H1 locs ht hvm hw hB hz1 hk1 hS => ?_)
  obtain ⟨hP1, hD1⟩ := hB
  rw [ht] at hP1
  obtain ⟨hP, hD⟩ := va_join (wr := [(o, .inr (4, [.ref F, .ref G, .int lo, .int nw, .int se, .ref (pa 0), .ref an, .ref ln])), cE x xv, (x 4, .inl (cA 0, 4, .inl w3)), (x 5, .inl (cA 0, 4, .inl w4))]) (w1 := []) hP hD [] [0, 1, 2, 3] rfl rfl (by decide) (by decide) hk1 hFc hP1 hD1
  generalize H1 = H at hP hS ⊢
  have hP := hP.sub (ws' := [(o, .inr (4, [.ref F, .ref G, .int lo, .int nw, .int se, .ref (pa 0), .ref an, .ref ln])), cE x xv, (x 4, .inl (cA 0, 4, .inl w3)), (x 5, .inl (cA 0, 4, .inl w4))]) [0, 1, 2, 3] rfl
  have hD := hD.sub (ws' := [(o, .inr (4, [.ref F, .ref G, .int lo, .int nw, .int se, .ref (pa 0), .ref an, .ref ln])), cE x xv, (x 4, .inl (cA 0, 4, .inl w3)), (x 5, .inl (cA 0, 4, .inl w4))]) [0, 1, 2, 3] (by decide) rfl
  clear hPc hDc hFc hP1 hD1 hk1 hz1
  have hw_2 := hw
  refine lv_iload_n hx hb dX3_allow_8 rfl (lv_at hl 3 rfl) ?_
  refine lv_iload hx hb dX3_allow_9 (lv_at hl 4 rfl) ?_
  have hPc := hP.sub (ws' := []) [] rfl
  have hDc := hD.sub (ws' := []) [] (by decide) rfl
  have hFc := va_free (wc := []) hD hS hA [] rfl
  refine va_callv (va_runS (As := [.int le, .int mo]) (rest := []) ⟨hx, hb, hml, hown, hts⟩ (c_X3_checkRange_k l D cA H.size le mo (by assumption)) (va_cwS 2 hts gX3_allow_X3_checkRange rfl rfl rfl (by decide +kernel) ⟨Nat.le_of_ble_eq_true rfl, Nat.le_of_ble_eq_true rfl⟩) ⟨zU_blind, fun U hU hW => ⟨rfl, zU_call hU hPc hW.alike hK hDc⟩⟩ rfl rfl hl.1 rfl (lv_room (Nat.le_of_ble_eq_true rfl)) dX3_allow_11 ⟨(Nat.zero_le _), (Nat.zero_le _)⟩) hS (fun q _ h => hFc q h) hFc (fun u t H1 locs ht hvm hw hB hz1 hk1 hS => ?_)
  obtain ⟨hP1, hD1⟩ := hB
  rw [ht] at hP1
  obtain ⟨hP, hD⟩ := va_join (wr := [(o, .inr (4, [.ref F, .ref G, .int lo, .int nw, .int se, .ref (pa 0), .ref an, .ref ln])), cE x xv, (x 4, .inl (cA 0, 4, .inl w3)), (x 5, .inl (cA 0, 4, .inl w4))]) (w1 := []) hP hD [] [0, 1, 2, 3] rfl rfl (by decide) (by decide) hk1 hFc hP1 hD1
  generalize H1 = H at hP hS ⊢
  have hP := hP.sub (ws' := [(o, .inr (4, [.ref F, .ref G, .int lo, .int nw, .int se, .ref (pa 0), .ref an, .ref ln])), cE x xv, (x 4, .inl (cA 0, 4, .inl w3)), (x 5, .inl (cA 0, 4, .inl w4))]) [0, 1, 2, 3] rfl
  have hD := hD.sub (ws' := [(o, .inr (4, [.ref F, .ref G, .int lo, .int nw, .int se, .ref (pa 0), .ref an, .ref ln])), cE x xv, (x 4, .inl (cA 0, 4, .inl w3)), (x 5, .inl (cA 0, 4, .inl w4))]) [0, 1, 2, 3] (by decide) rfl
  clear hPc hDc hFc hP1 hD1 hk1 hz1
  have hw_3 := hw
  refine lv_aload_n hx hb dX3_allow_14 rfl (lv_at hl 0 rfl) ?_
  refine lv_iload_n hx hb dX3_allow_15 rfl (lv_at hl 1 rfl) ?_
  have hPc := hP.sub (ws' := [(o, .inr (4, [.ref F, .ref G, .int lo, .int nw, .int se, .ref (pa 0), .ref an, .ref ln]))]) [0] rfl
  have hDc := hD.sub (ws' := [(o, .inr (4, [.ref F, .ref G, .int lo, .int nw, .int se, .ref (pa 0), .ref an, .ref ln]))]) [0] (by decide) rfl
  have hFc := va_free (wc := [(o, .inr (4, [.ref F, .ref G, .int lo, .int nw, .int se, .ref (pa 0), .ref an, .ref ln]))]) hD hS hA [0] rfl
  refine va_callr (va_runV (As := [.int n]) (rest := []) ⟨hx, hb, hml, hown, hts⟩ (c_X3_endOf l D cA H.size o F G lo nw se pa an ln n (x 0) y0 (by assumption)) (cwV 1 hts gX3_allow_X3_endOf rfl rfl rfl (by decide +kernel) ⟨Nat.le_of_ble_eq_true rfl, Nat.le_of_ble_eq_true rfl⟩) ⟨zU_blind, va_recv hK hPc (ci := 4) (q0 := 0) rfl rfl, fun U hU hW => ⟨rfl, zU_call hU hPc hW.alike hK hDc⟩⟩ rfl rfl hl.1 rfl (lv_room (Nat.le_of_ble_eq_true rfl)) dX3_allow_16 ⟨(Nat.zero_le _), (Nat.zero_le _)⟩) hS (fun q _ h => hFc q h) hFc (fun u ra t H1 locs ht hvm hw hB hz1 hk1 hS => ?_)
  obtain ⟨hra, hP1, hD1⟩ := hB
  rw [ht] at hP1
  subst ra
  obtain ⟨hP, hD⟩ := va_join (wr := [cE x xv, (x 4, .inl (cA 0, 4, .inl w3)), (x 5, .inl (cA 0, 4, .inl w4))]) (w1 := [(o, .inr (4, [.ref F, .ref G, .int lo, .int nw, .int se, .ref (pa 0), .ref an, .ref ln]))]) hP hD [0] [1, 2, 3] rfl rfl (by decide) (by decide) hk1 hFc hP1 hD1
  generalize H1 = H at hP hS ⊢
  have hP := hP.sub (ws' := [(o, .inr (4, [.ref F, .ref G, .int lo, .int nw, .int se, .ref (pa 0), .ref an, .ref ln])), cE x xv, (x 4, .inl (cA 0, 4, .inl w3)), (x 5, .inl (cA 0, 4, .inl w4))]) [3, 0, 1, 2] rfl
  have hD := hD.sub (ws' := [(o, .inr (4, [.ref F, .ref G, .int lo, .int nw, .int se, .ref (pa 0), .ref an, .ref ln])), cE x xv, (x 4, .inl (cA 0, 4, .inl w3)), (x 5, .inl (cA 0, 4, .inl w4))]) [3, 0, 1, 2] (by decide) rfl
  clear hPc hDc hFc hP1 hD1 hk1 hz1
  have hw_4 := hw
  refine lv_astore (lv' := [(5, .ref (x 0)), (0, .ref o), (1, .int n), (2, .int (nI k)), (3, .int le), (4, .int mo)]) hx hb dX3_allow_19 hl (by decide) rfl (fun ls hl => ?_)
  refine lv_aload hx hb dX3_allow_21 (lv_at hl 0 rfl) ?_
  have hPc := hP.sub (ws' := [cE x xv]) [1] rfl
  have hDc := hD.sub (ws' := [cE x xv]) [1] (by decide) rfl
  have hFc := va_free (wc := [cE x xv]) hD hS hA [1] rfl
  refine va_callv (va_runS (As := [.ref (x 0)]) (rest := []) ⟨hx, hb, hml, hown, hts⟩ (c_X3_checkShut_k l D cA H.size x xv (by assumption)) (va_cwS 1 hts gX3_allow_X3_checkShut rfl rfl rfl (by decide +kernel) ⟨Nat.le_of_ble_eq_true rfl, Nat.le_of_ble_eq_true rfl⟩) ⟨zU_blind, fun U hU hW => ⟨rfl, zU_call hU hPc hW.alike hK hDc⟩⟩ rfl rfl hl.1 rfl (lv_room (Nat.le_of_ble_eq_true rfl)) dX3_allow_23 ⟨(Nat.zero_le _), (Nat.zero_le _)⟩) hS (fun q _ h => hFc q h) hFc (fun u t H1 locs ht hvm hw hB hz1 hk1 hS => ?_)
  obtain ⟨hP1, hD1⟩ := hB
  rw [ht] at hP1
  obtain ⟨hP, hD⟩ := va_join (wr := [(o, .inr (4, [.ref F, .ref G, .int lo, .int nw, .int se, .ref (pa 0), .ref an, .ref ln])), (x 4, .inl (cA 0, 4, .inl w3)), (x 5, .inl (cA 0, 4, .inl w4))]) (w1 := [cE x xv]) hP hD [1] [0, 2, 3] rfl rfl (by decide) (by decide) hk1 hFc hP1 hD1
  generalize H1 = H at hP hS ⊢
  have hP := hP.sub (ws' := [(o, .inr (4, [.ref F, .ref G, .int lo, .int nw, .int se, .ref (pa 0), .ref an, .ref ln])), cE x xv, (x 4, .inl (cA 0, 4, .inl w3)), (x 5, .inl (cA 0, 4, .inl w4))]) [0, 3, 1, 2] rfl
  have hD := hD.sub (ws' := [(o, .inr (4, [.ref F, .ref G, .int lo, .int nw, .int se, .ref (pa 0), .ref an, .ref ln])), cE x xv, (x 4, .inl (cA 0, 4, .inl w3)), (x 5, .inl (cA 0, 4, .inl w4))]) [0, 3, 1, 2] (by decide) rfl
  clear hPc hDc hFc hP1 hD1 hk1 hz1
  have hw_5 := hw
  refine lv_aload hx hb dX3_allow_26 (lv_at hl 0 rfl) ?_
  refine va_get (D := D) (ci := 1) (v := .ref (x 4)) (C := RX0) (T := TX0) (N := 16) hx hb hts (fun _ h => List.mem_cons_of_mem _ (List.mem_append_left _ (List.mem_append_left _ (List.mem_append_left _ (List.mem_append_right _ (h)))))) hown hK hP 1 rfl rfl 3 (by decide) (hts (.fieldLink RX3 83 "OptionWire$End" "leastAllowed" "[I") (List.mem_of_getElem? (i := 1) rfl)) (fun _ h9 => h9) rfl dX3_allow_28 ?_
  refine lv_iload_n hx hb dX3_allow_31 rfl (lv_at hl 3 rfl) ?_
  refine lv_iload_n hx hb dX3_allow_32 rfl (lv_at hl 4 rfl) ?_
  refine z_iast (k := k) hx hb hK hP hD hS 2 0 rfl rfl rfl (by omega) (by decide) dX3_allow_33 (fun H locs hP hD hS => ?_)
  have hP : va_P D vwCl [(o, .inr (4, [.ref F, .ref G, .int lo, .int nw, .int se, .ref (pa 0), .ref an, .ref ln])), cE x xv, (x 4, .inl (cA 0, 4, .inl (upd w3 k le))), (x 5, .inl (cA 0, 4, .inl w4))] H := hP
  have hD : va_D A [(o, .inr (4, [.ref F, .ref G, .int lo, .int nw, .int se, .ref (pa 0), .ref an, .ref ln])), cE x xv, (x 4, .inl (cA 0, 4, .inl (upd w3 k le))), (x 5, .inl (cA 0, 4, .inl w4))] := hD
  refine lv_aload hx hb dX3_allow_34 (lv_at hl 0 rfl) ?_
  refine va_get (D := D) (ci := 1) (v := .ref (x 5)) (C := RX0) (T := TX0) (N := 16) hx hb hts (fun _ h => List.mem_cons_of_mem _ (List.mem_append_left _ (List.mem_append_left _ (List.mem_append_left _ (List.mem_append_right _ (h)))))) hown hK hP 1 rfl rfl 4 (by decide) (hts (.fieldLink RX3 86 "OptionWire$End" "mostAllowed" "[I") (List.mem_of_getElem? (i := 2) rfl)) (fun _ h9 => h9) rfl dX3_allow_36 ?_
  refine lv_iload_n hx hb dX3_allow_39 rfl (lv_at hl 3 rfl) ?_
  refine lv_iload hx hb dX3_allow_40 (lv_at hl 5 rfl) ?_
  refine z_iast (k := k) hx hb hK hP hD hS 3 0 rfl rfl rfl (by omega) (by decide) dX3_allow_42 (fun H locs hP hD hS => ?_)
  have hP : va_P D vwCl [(o, .inr (4, [.ref F, .ref G, .int lo, .int nw, .int se, .ref (pa 0), .ref an, .ref ln])), cE x xv, (x 4, .inl (cA 0, 4, .inl (upd w3 k le))), (x 5, .inl (cA 0, 4, .inl (upd w4 k mo)))] H := hP
  have hD : va_D A [(o, .inr (4, [.ref F, .ref G, .int lo, .int nw, .int se, .ref (pa 0), .ref an, .ref ln])), cE x xv, (x 4, .inl (cA 0, 4, .inl (upd w3 k le))), (x 5, .inl (cA 0, 4, .inl (upd w4 k mo)))] := hD
  refine W.widen (k := 0) (n := 0) (by omega) (by omega) ?_
  exact W.vret hx hb hr (fun t ht hW => ⟨⟨(), rfl, trivial, ⟨by rw [ht]; exact hP, by rw [hAe]; exact hD⟩⟩, hS.F ht⟩) hS.2.2 dX3_allow_43
set_option maxHeartbeats 4000000 in
set_option maxRecDepth 100000 in
theorem c_X3_allow_s (l : Launch) (D : va_G) (cA : Nat → ClassId) (zv : Nat → Nat) (sz : Nat) (hl0 : l.stackTraces = false) (o F G : Nat) (lo nw se : Int32) (pa : Nat → Nat) (an ln : Nat) (x : Nat → Nat) (y0 : Nat) (n : Int32) (xv : Nat → Int32) (k : Nat) (le mo : Int32) (he : en n F G (x 0) y0) (hk : k < 4) (hsp : sSp le mo) (hsh : ¬ sSh (xv 0)) : vx_Met l yX3_allow wsX3_allow ({ frames := 9, cells := 1, slots := 6, locals := 120 }) (va_Pc [.ref o, .int n, .int (nI k), .int le, .int mo] (zUX D cA zv sz [(o, .inr (4, [.ref F, .ref G, .int lo, .int nw, .int se, .ref (pa 0), .ref an, .ref ln])), cE x xv])) (va_Qv (fun (_ : Unit) => False) (fun (_ : Unit) _ => True) (va_A [(o, .inr (4, [.ref F, .ref G, .int lo, .int nw, .int se, .ref (pa 0), .ref an, .ref ln])), cE x xv] sz)) (vx_X (fun (_ : Unit) => True) (fun E (_ : Unit) t => E = "java/lang/IllegalStateException" ∧ zB D [(o, .inr (4, [.ref F, .ref G, .int lo, .int nw, .int se, .ref (pa 0), .ref an, .ref ln])), cE x xv] sz [(o, .inr (4, [.ref F, .ref G, .int lo, .int nw, .int se, .ref (pa 0), .ref an, .ref ln])), cE x xv] t) (va_A [(o, .inr (4, [.ref F, .ref G, .int lo, .int nw, .int se, .ref (pa 0), .ref an, .ref ln])), cE x xv] sz)) 1 6 (va_A [(o, .inr (4, [.ref F, .ref G, .int lo, .int nw, .int se, .ref (pa 0), .ref an, .ref ln])), cE x xv] sz) := by
  refine vx_ofW (cc := cX3_allow) (maxL := 6) (ret := none) (by decide) rfl ?_
  intro p e s m args below meth c s₁ B hml htab hv
  obtain ⟨rfl, ⟨hsz, hP, hK, hD0, hE0⟩, hX0⟩ := hv
  have hx := B.exec
  have hb := B.bytes
  have hr := B.returns
  have hts := atoms_spec (ws := wsX3_allow) B.pre
  have hown : s.vm.findClass RX3 = some m.cls := findClass_of_methodNamed B.named
  have hlocks := B.notSynchronized
  subst hsz
  have hD := hD0.self (sz := s.heap.size)
  generalize hAe : va_A [(o, .inr (4, [.ref F, .ref G, .int lo, .int nw, .int se, .ref (pa 0), .ref an, .ref ln])), cE x xv] s.heap.size = A at hD hE0 hX0 ⊢
  have hA : ∀ q : Nat, s.heap.size ≤ q → A q := fun q h => by rw [← hAe]; exact Or.inr h
  have hS : va_S A s.heap s.heap [] := va_S.rf
  have hl := lv_entry ([.ref o, .int n, .int (nI k), .int le, .int mo]) (n := 6) (Nat.le_of_ble_eq_true rfl)
  rw [lg_entry_eq]
  generalize (lg_sl ([.ref o, .int n, .int (nI k), .int le, .int mo]) ++ List.replicate (6 - (lg_sl ([.ref o, .int n, .int (nI k), .int le, .int mo])).length) Slot.unset).toArray = ls at hl ⊢
  have hl : lv_has ls 6 [(0, .ref o), (1, .int n), (2, .int (nI k)), (3, .int le), (4, .int mo)] := hl
  refine lv_iload_n hx hb dX3_allow_0 rfl (lv_at hl 1 rfl) ?_
  have hPc := hP.sub (ws' := []) [] rfl
  have hDc := hD.sub (ws' := []) [] (by decide) rfl
  have hFc := va_free (wc := []) hD hS hA [] rfl
  refine va_callv (va_runS (As := [.int n]) (rest := []) ⟨hx, hb, hml, hown, hts⟩ (c_X3_checkEnd_k l D cA s.heap.size n (en_inr he)) (va_cwS 1 hts gX3_allow_X3_checkEnd rfl rfl rfl (by decide +kernel) ⟨Nat.le_of_ble_eq_true rfl, Nat.le_of_ble_eq_true rfl⟩) ⟨zU_blind, fun U hU hW => ⟨rfl, zU_call hU hPc hW.alike hK hDc⟩⟩ rfl rfl hl.1 rfl (lv_room (Nat.le_of_ble_eq_true rfl)) dX3_allow_1 ⟨(Nat.zero_le _), (Nat.zero_le _)⟩) hS (fun q _ h => hFc q h) hFc (fun u t H1 locs ht hvm hw hB hz1 hk1 hS => ?_)
  obtain ⟨hP1, hD1⟩ := hB
  rw [ht] at hP1
  obtain ⟨hP, hD⟩ := va_join (wr := [(o, .inr (4, [.ref F, .ref G, .int lo, .int nw, .int se, .ref (pa 0), .ref an, .ref ln])), cE x xv]) (w1 := []) hP hD [] [0, 1] rfl rfl (by decide) (by decide) hk1 hFc hP1 hD1
  generalize H1 = H at hP hS ⊢
  have hP := hP.sub (ws' := [(o, .inr (4, [.ref F, .ref G, .int lo, .int nw, .int se, .ref (pa 0), .ref an, .ref ln])), cE x xv]) [0, 1] rfl
  have hD := hD.sub (ws' := [(o, .inr (4, [.ref F, .ref G, .int lo, .int nw, .int se, .ref (pa 0), .ref an, .ref ln])), cE x xv]) [0, 1] (by decide) rfl
  clear hPc hDc hFc hP1 hD1 hk1 hz1
  have hw_1 := hw
  refine lv_iload_n hx hb dX3_allow_4 rfl (lv_at hl 2 rfl) ?_
  have hPc := hP.sub (ws' := []) [] rfl
  have hDc := hD.sub (ws' := []) [] (by decide) rfl
  have hFc := va_free (wc := []) hD hS hA [] rfl
  refine va_callv (va_runS (As := [.int (nI k)]) (rest := []) ⟨hx, hb, hml, hown, hts⟩ (c_X3_checkOption_k l D cA H.size (nI k) (inr_k hk)) (va_cwS 1 hts gX3_allow_X3_checkOption rfl rfl rfl (by decide +kernel) ⟨Nat.le_of_ble_eq_true rfl, Nat.le_of_ble_eq_true rfl⟩) ⟨zU_blind, fun U hU hW => ⟨rfl, zU_call hU hPc hW.alike hK hDc⟩⟩ rfl rfl hl.1 rfl (lv_room (Nat.le_of_ble_eq_true rfl)) dX3_allow_5 ⟨(Nat.zero_le _), (Nat.zero_le _)⟩) hS (fun q _ h => hFc q h) hFc (fun u t H1 locs ht hvm hw hB hz1 hk1 hS => ?_)
  obtain ⟨hP1, hD1⟩ := hB
  rw [ht] at hP1
  obtain ⟨hP, hD⟩ := va_join (wr := [(o, .inr (4, [.ref F, .ref G, .int lo, .int nw, .int se, .ref (pa 0), .ref an, .ref ln])), cE x xv]) (w1 := []) hP hD [] [0, 1] rfl rfl (by decide) (by decide) hk1 hFc hP1 hD1
  generalize H1 = H at hP hS ⊢
  have hP := hP.sub (ws' := [(o, .inr (4, [.ref F, .ref G, .int lo, .int nw, .int se, .ref (pa 0), .ref an, .ref ln])), cE x xv]) [0, 1] rfl
  have hD := hD.sub (ws' := [(o, .inr (4, [.ref F, .ref G, .int lo, .int nw, .int se, .ref (pa 0), .ref an, .ref ln])), cE x xv]) [0, 1] (by decide) rfl
  clear hPc hDc hFc hP1 hD1 hk1 hz1
  have hw_2 := hw
  refine lv_iload_n hx hb dX3_allow_8 rfl (lv_at hl 3 rfl) ?_
  refine lv_iload hx hb dX3_allow_9 (lv_at hl 4 rfl) ?_
  have hPc := hP.sub (ws' := []) [] rfl
  have hDc := hD.sub (ws' := []) [] (by decide) rfl
  have hFc := va_free (wc := []) hD hS hA [] rfl
  refine va_callv (va_runS (As := [.int le, .int mo]) (rest := []) ⟨hx, hb, hml, hown, hts⟩ (c_X3_checkRange_k l D cA H.size le mo (by assumption)) (va_cwS 2 hts gX3_allow_X3_checkRange rfl rfl rfl (by decide +kernel) ⟨Nat.le_of_ble_eq_true rfl, Nat.le_of_ble_eq_true rfl⟩) ⟨zU_blind, fun U hU hW => ⟨rfl, zU_call hU hPc hW.alike hK hDc⟩⟩ rfl rfl hl.1 rfl (lv_room (Nat.le_of_ble_eq_true rfl)) dX3_allow_11 ⟨(Nat.zero_le _), (Nat.zero_le _)⟩) hS (fun q _ h => hFc q h) hFc (fun u t H1 locs ht hvm hw hB hz1 hk1 hS => ?_)
  obtain ⟨hP1, hD1⟩ := hB
  rw [ht] at hP1
  obtain ⟨hP, hD⟩ := va_join (wr := [(o, .inr (4, [.ref F, .ref G, .int lo, .int nw, .int se, .ref (pa 0), .ref an, .ref ln])), cE x xv]) (w1 := []) hP hD [] [0, 1] rfl rfl (by decide) (by decide) hk1 hFc hP1 hD1
  generalize H1 = H at hP hS ⊢
  have hP := hP.sub (ws' := [(o, .inr (4, [.ref F, .ref G, .int lo, .int nw, .int se, .ref (pa 0), .ref an, .ref ln])), cE x xv]) [0, 1] rfl
  have hD := hD.sub (ws' := [(o, .inr (4, [.ref F, .ref G, .int lo, .int nw, .int se, .ref (pa 0), .ref an, .ref ln])), cE x xv]) [0, 1] (by decide) rfl
  clear hPc hDc hFc hP1 hD1 hk1 hz1
  have hw_3 := hw
  refine lv_aload_n hx hb dX3_allow_14 rfl (lv_at hl 0 rfl) ?_
  refine lv_iload_n hx hb dX3_allow_15 rfl (lv_at hl 1 rfl) ?_
  have hPc := hP.sub (ws' := [(o, .inr (4, [.ref F, .ref G, .int lo, .int nw, .int se, .ref (pa 0), .ref an, .ref ln]))]) [0] rfl
  have hDc := hD.sub (ws' := [(o, .inr (4, [.ref F, .ref G, .int lo, .int nw, .int se, .ref (pa 0), .ref an, .ref ln]))]) [0] (by decide) rfl
  have hFc := va_free (wc := [(o, .inr (4, [.ref F, .ref G, .int lo, .int nw, .int se, .ref (pa 0), .ref an, .ref ln]))]) hD hS hA [0] rfl
  refine va_callr (va_runV (As := [.int n]) (rest := []) ⟨hx, hb, hml, hown, hts⟩ (c_X3_endOf l D cA H.size o F G lo nw se pa an ln n (x 0) y0 (by assumption)) (cwV 1 hts gX3_allow_X3_endOf rfl rfl rfl (by decide +kernel) ⟨Nat.le_of_ble_eq_true rfl, Nat.le_of_ble_eq_true rfl⟩) ⟨zU_blind, va_recv hK hPc (ci := 4) (q0 := 0) rfl rfl, fun U hU hW => ⟨rfl, zU_call hU hPc hW.alike hK hDc⟩⟩ rfl rfl hl.1 rfl (lv_room (Nat.le_of_ble_eq_true rfl)) dX3_allow_16 ⟨(Nat.zero_le _), (Nat.zero_le _)⟩) hS (fun q _ h => hFc q h) hFc (fun u ra t H1 locs ht hvm hw hB hz1 hk1 hS => ?_)
  obtain ⟨hra, hP1, hD1⟩ := hB
  rw [ht] at hP1
  subst ra
  obtain ⟨hP, hD⟩ := va_join (wr := [cE x xv]) (w1 := [(o, .inr (4, [.ref F, .ref G, .int lo, .int nw, .int se, .ref (pa 0), .ref an, .ref ln]))]) hP hD [0] [1] rfl rfl (by decide) (by decide) hk1 hFc hP1 hD1
  generalize H1 = H at hP hS ⊢
  have hP := hP.sub (ws' := [(o, .inr (4, [.ref F, .ref G, .int lo, .int nw, .int se, .ref (pa 0), .ref an, .ref ln])), cE x xv]) [1, 0] rfl
  have hD := hD.sub (ws' := [(o, .inr (4, [.ref F, .ref G, .int lo, .int nw, .int se, .ref (pa 0), .ref an, .ref ln])), cE x xv]) [1, 0] (by decide) rfl
  clear hPc hDc hFc hP1 hD1 hk1 hz1
  have hw_4 := hw
  refine lv_astore (lv' := [(5, .ref (x 0)), (0, .ref o), (1, .int n), (2, .int (nI k)), (3, .int le), (4, .int mo)]) hx hb dX3_allow_19 hl (by decide) rfl (fun ls hl => ?_)
  refine lv_aload hx hb dX3_allow_21 (lv_at hl 0 rfl) ?_
  have hPc := hP.sub (ws' := [cE x xv]) [1] rfl
  have hDc := hD.sub (ws' := [cE x xv]) [1] (by decide) rfl
  have hFc := va_free (wc := [cE x xv]) hD hS hA [1] rfl
  refine vx_callv (vx_runS (As := [.ref (x 0)]) (rest := []) ⟨hx, hb, hml, hown, hts⟩ (c_X3_checkShut_t l D cA zv H.size hl0 x xv (by assumption)) (va_cwS 1 hts gX3_allow_X3_checkShut rfl rfl rfl (by decide +kernel) ⟨Nat.le_of_ble_eq_true rfl, Nat.le_of_ble_eq_true rfl⟩) ⟨zUX_blind, fun U hU hW => ⟨rfl, zUX_call hE0 hX0 hS hFc hU hPc hW hK hDc⟩⟩ rfl rfl hl.1 rfl (lv_room (Nat.le_of_ble_eq_true rfl)) dX3_allow_23 ⟨Nat.le_of_ble_eq_true rfl, Nat.le_of_ble_eq_true rfl⟩) hS (fun q _ h => hFc q h) hFc (fun q _ h => hFc q h) (fun E9 ce9 q9 u t H1 locs ht hvm hpx hB hz1 hk1 hS hcell hcv hcl => ?_) (fun u t H1 locs1 ht hvm hw _ _ _ _ => hw.elim)
  obtain ⟨rfl, hP1, hD1⟩ := hB
  rw [ht] at hP1
  obtain ⟨hP, hD⟩ := va_join (wr := [(o, .inr (4, [.ref F, .ref G, .int lo, .int nw, .int se, .ref (pa 0), .ref an, .ref ln]))]) (w1 := [cE x xv]) hP hD [1] [0] rfl rfl (by decide) (by decide) hk1 hFc hP1 hD1
  have hP := hP.sub (ws' := [(o, .inr (4, [.ref F, .ref G, .int lo, .int nw, .int se, .ref (pa 0), .ref an, .ref ln])), cE x xv]) [0, 1] rfl
  have hD := hD.sub (ws' := [(o, .inr (4, [.ref F, .ref G, .int lo, .int nw, .int se, .ref (pa 0), .ref an, .ref ln])), cE x xv]) [0, 1] (by decide) rfl
  exact vx_out (fun x h => (htab x h).elim) hlocks hcell hcv hcl (fun t2 h7 h8 => z_thrO hP hD hS hAe h7) hS.2.2 (by omega) (by omega)
set_option maxHeartbeats 4000000 in
set_option maxRecDepth 100000 in
theorem c_X3_allow_b (l : Launch) (D : va_G) (cA : Nat → ClassId) (zv : Nat → Nat) (sz : Nat) (hl0 : l.stackTraces = false) (o F G : Nat) (lo nw se : Int32) (pa : Nat → Nat) (an ln : Nat) (n q le mo : Int32) (hbad : ¬ ((inr n 0 1 ∧ inr q 0 3) ∧ (sSp le mo))) : vx_Met l yX3_allow wsX3_allow ({ frames := 9, cells := 1, slots := 6, locals := 121 }) (va_Pc [.ref o, .int n, .int q, .int le, .int mo] (zUX D cA zv sz [(o, .inr (4, [.ref F, .ref G, .int lo, .int nw, .int se, .ref (pa 0), .ref an, .ref ln]))])) (va_Qv (fun (_ : Unit) => False) (fun (_ : Unit) _ => True) (va_A [(o, .inr (4, [.ref F, .ref G, .int lo, .int nw, .int se, .ref (pa 0), .ref an, .ref ln]))] sz)) (vx_X (fun (_ : Unit) => True) (fun E (_ : Unit) t => E = "java/lang/IllegalArgumentException" ∧ zB D [(o, .inr (4, [.ref F, .ref G, .int lo, .int nw, .int se, .ref (pa 0), .ref an, .ref ln]))] sz [(o, .inr (4, [.ref F, .ref G, .int lo, .int nw, .int se, .ref (pa 0), .ref an, .ref ln]))] t) (va_A [(o, .inr (4, [.ref F, .ref G, .int lo, .int nw, .int se, .ref (pa 0), .ref an, .ref ln]))] sz)) 1 6 (va_A [(o, .inr (4, [.ref F, .ref G, .int lo, .int nw, .int se, .ref (pa 0), .ref an, .ref ln]))] sz) := by
  refine vx_ofW (cc := cX3_allow) (maxL := 6) (ret := none) (by decide) rfl ?_
  intro p e s m args below meth c s₁ B hml htab hv
  obtain ⟨rfl, ⟨hsz, hP, hK, hD0, hE0⟩, hX0⟩ := hv
  have hx := B.exec
  have hb := B.bytes
  have hr := B.returns
  have hts := atoms_spec (ws := wsX3_allow) B.pre
  have hown : s.vm.findClass RX3 = some m.cls := findClass_of_methodNamed B.named
  have hlocks := B.notSynchronized
  subst hsz
  have hD := hD0.self (sz := s.heap.size)
  generalize hAe : va_A [(o, .inr (4, [.ref F, .ref G, .int lo, .int nw, .int se, .ref (pa 0), .ref an, .ref ln]))] s.heap.size = A at hD hE0 hX0 ⊢
  have hA : ∀ q : Nat, s.heap.size ≤ q → A q := fun q h => by rw [← hAe]; exact Or.inr h
  have hS : va_S A s.heap s.heap [] := va_S.rf
  have hl := lv_entry ([.ref o, .int n, .int q, .int le, .int mo]) (n := 6) (Nat.le_of_ble_eq_true rfl)
  rw [lg_entry_eq]
  generalize (lg_sl ([.ref o, .int n, .int q, .int le, .int mo]) ++ List.replicate (6 - (lg_sl ([.ref o, .int n, .int q, .int le, .int mo])).length) Slot.unset).toArray = ls at hl ⊢
  have hl : lv_has ls 6 [(0, .ref o), (1, .int n), (2, .int q), (3, .int le), (4, .int mo)] := hl
  refine lv_iload_n hx hb dX3_allow_0 rfl (lv_at hl 1 rfl) ?_
  by_cases q1 : inr n 0 1
  · skip
    have hPc := hP.sub (ws' := []) [] rfl
    have hDc := hD.sub (ws' := []) [] (by decide) rfl
    have hFc := va_free (wc := []) hD hS hA [] rfl
    refine va_callv (va_runS (As := [.int n]) (rest := []) ⟨hx, hb, hml, hown, hts⟩ (c_X3_checkEnd_k l D cA s.heap.size n q1) (va_cwS 1 hts gX3_allow_X3_checkEnd rfl rfl rfl (by decide +kernel) ⟨Nat.le_of_ble_eq_true rfl, Nat.le_of_ble_eq_true rfl⟩) ⟨zU_blind, fun U hU hW => ⟨rfl, zU_call hU hPc hW.alike hK hDc⟩⟩ rfl rfl hl.1 rfl (lv_room (Nat.le_of_ble_eq_true rfl)) dX3_allow_1 ⟨(Nat.zero_le _), (Nat.zero_le _)⟩) hS (fun q _ h => hFc q h) hFc (fun u t H1 locs ht hvm hw hB hz1 hk1 hS => ?_)
    obtain ⟨hP1, hD1⟩ := hB
    rw [ht] at hP1
    obtain ⟨hP, hD⟩ := va_join (wr := [(o, .inr (4, [.ref F, .ref G, .int lo, .int nw, .int se, .ref (pa 0), .ref an, .ref ln]))]) (w1 := []) hP hD [] [0] rfl rfl (by decide) (by decide) hk1 hFc hP1 hD1
    generalize H1 = H at hP hS ⊢
    have hP := hP.sub (ws' := [(o, .inr (4, [.ref F, .ref G, .int lo, .int nw, .int se, .ref (pa 0), .ref an, .ref ln]))]) [0] rfl
    have hD := hD.sub (ws' := [(o, .inr (4, [.ref F, .ref G, .int lo, .int nw, .int se, .ref (pa 0), .ref an, .ref ln]))]) [0] (by decide) rfl
    clear hPc hDc hFc hP1 hD1 hk1 hz1
    have hw_1 := hw
    refine lv_iload_n hx hb dX3_allow_4 rfl (lv_at hl 2 rfl) ?_
    by_cases q2 : inr q 0 3
    · skip
      have hPc := hP.sub (ws' := []) [] rfl
      have hDc := hD.sub (ws' := []) [] (by decide) rfl
      have hFc := va_free (wc := []) hD hS hA [] rfl
      refine va_callv (va_runS (As := [.int q]) (rest := []) ⟨hx, hb, hml, hown, hts⟩ (c_X3_checkOption_k l D cA H.size q q2) (va_cwS 1 hts gX3_allow_X3_checkOption rfl rfl rfl (by decide +kernel) ⟨Nat.le_of_ble_eq_true rfl, Nat.le_of_ble_eq_true rfl⟩) ⟨zU_blind, fun U hU hW => ⟨rfl, zU_call hU hPc hW.alike hK hDc⟩⟩ rfl rfl hl.1 rfl (lv_room (Nat.le_of_ble_eq_true rfl)) dX3_allow_5 ⟨(Nat.zero_le _), (Nat.zero_le _)⟩) hS (fun q _ h => hFc q h) hFc (fun u t H1 locs ht hvm hw hB hz1 hk1 hS => ?_)
      obtain ⟨hP1, hD1⟩ := hB
      rw [ht] at hP1
      obtain ⟨hP, hD⟩ := va_join (wr := [(o, .inr (4, [.ref F, .ref G, .int lo, .int nw, .int se, .ref (pa 0), .ref an, .ref ln]))]) (w1 := []) hP hD [] [0] rfl rfl (by decide) (by decide) hk1 hFc hP1 hD1
      generalize H1 = H at hP hS ⊢
      have hP := hP.sub (ws' := [(o, .inr (4, [.ref F, .ref G, .int lo, .int nw, .int se, .ref (pa 0), .ref an, .ref ln]))]) [0] rfl
      have hD := hD.sub (ws' := [(o, .inr (4, [.ref F, .ref G, .int lo, .int nw, .int se, .ref (pa 0), .ref an, .ref ln]))]) [0] (by decide) rfl
      clear hPc hDc hFc hP1 hD1 hk1 hz1
      have hw_2 := hw
      refine lv_iload_n hx hb dX3_allow_8 rfl (lv_at hl 3 rfl) ?_
      refine lv_iload hx hb dX3_allow_9 (lv_at hl 4 rfl) ?_
      by_cases q3 : sSp le mo
      · skip
        have hPc := hP.sub (ws' := []) [] rfl
        have hDc := hD.sub (ws' := []) [] (by decide) rfl
        have hFc := va_free (wc := []) hD hS hA [] rfl
        refine va_callv (va_runS (As := [.int le, .int mo]) (rest := []) ⟨hx, hb, hml, hown, hts⟩ (c_X3_checkRange_k l D cA H.size le mo q3) (va_cwS 2 hts gX3_allow_X3_checkRange rfl rfl rfl (by decide +kernel) ⟨Nat.le_of_ble_eq_true rfl, Nat.le_of_ble_eq_true rfl⟩) ⟨zU_blind, fun U hU hW => ⟨rfl, zU_call hU hPc hW.alike hK hDc⟩⟩ rfl rfl hl.1 rfl (lv_room (Nat.le_of_ble_eq_true rfl)) dX3_allow_11 ⟨(Nat.zero_le _), (Nat.zero_le _)⟩) hS (fun q _ h => hFc q h) hFc (fun u t H1 locs ht hvm hw hB hz1 hk1 hS => ?_)
        obtain ⟨hP1, hD1⟩ := hB
        rw [ht] at hP1
        obtain ⟨hP, hD⟩ := va_join (wr := [(o, .inr (4, [.ref F, .ref G, .int lo, .int nw, .int se, .ref (pa 0), .ref an, .ref ln]))]) (w1 := []) hP hD [] [0] rfl rfl (by decide) (by decide) hk1 hFc hP1 hD1
        generalize H1 = H at hP hS ⊢
        have hP := hP.sub (ws' := [(o, .inr (4, [.ref F, .ref G, .int lo, .int nw, .int se, .ref (pa 0), .ref an, .ref ln]))]) [0] rfl
        have hD := hD.sub (ws' := [(o, .inr (4, [.ref F, .ref G, .int lo, .int nw, .int se, .ref (pa 0), .ref an, .ref ln]))]) [0] (by decide) rfl
        clear hPc hDc hFc hP1 hD1 hk1 hz1
        have hw_3 := hw
        exact absurd ⟨⟨q1, q2⟩, q3⟩ hbad
      · skip
        have hPc := hP.sub (ws' := []) [] rfl
        have hDc := hD.sub (ws' := []) [] (by decide) rfl
        have hFc := va_free (wc := []) hD hS hA [] rfl
        refine vx_callv (vx_runS (As := [.int le, .int mo]) (rest := []) ⟨hx, hb, hml, hown, hts⟩ (c_X3_checkRange_t l D cA zv H.size hl0 le mo q3) (va_cwS 2 hts gX3_allow_X3_checkRange rfl rfl rfl (by decide +kernel) ⟨Nat.le_of_ble_eq_true rfl, Nat.le_of_ble_eq_true rfl⟩) ⟨zUX_blind, fun U hU hW => ⟨rfl, zUX_call hE0 hX0 hS hFc hU hPc hW hK hDc⟩⟩ rfl rfl hl.1 rfl (lv_room (Nat.le_of_ble_eq_true rfl)) dX3_allow_11 ⟨Nat.le_of_ble_eq_true rfl, Nat.le_of_ble_eq_true rfl⟩) hS (fun q _ h => hFc q h) hFc (fun q _ h => hFc q h) (fun E9 ce9 q9 u t H1 locs ht hvm hpx hB hz1 hk1 hS hcell hcv hcl => ?_) (fun u t H1 locs1 ht hvm hw _ _ _ _ => hw.elim)
        obtain ⟨rfl, hP1, hD1⟩ := hB
        rw [ht] at hP1
        obtain ⟨hP, hD⟩ := va_join (wr := [(o, .inr (4, [.ref F, .ref G, .int lo, .int nw, .int se, .ref (pa 0), .ref an, .ref ln]))]) (w1 := []) hP hD [] [0] rfl rfl (by decide) (by decide) hk1 hFc hP1 hD1
        have hP := hP.sub (ws' := [(o, .inr (4, [.ref F, .ref G, .int lo, .int nw, .int se, .ref (pa 0), .ref an, .ref ln]))]) [0] rfl
        have hD := hD.sub (ws' := [(o, .inr (4, [.ref F, .ref G, .int lo, .int nw, .int se, .ref (pa 0), .ref an, .ref ln]))]) [0] (by decide) rfl
        exact vx_out (fun x h => (htab x h).elim) hlocks hcell hcv hcl (fun t2 h7 h8 => z_thrO hP hD hS hAe h7) hS.2.2 (by omega) (by omega)
    · skip
      have hPc := hP.sub (ws' := []) [] rfl
      have hDc := hD.sub (ws' := []) [] (by decide) rfl
      have hFc := va_free (wc := []) hD hS hA [] rfl
      refine vx_callv (vx_runS (As := [.int q]) (rest := []) ⟨hx, hb, hml, hown, hts⟩ (c_X3_checkOption_t l D cA zv H.size hl0 q q2) (va_cwS 1 hts gX3_allow_X3_checkOption rfl rfl rfl (by decide +kernel) ⟨Nat.le_of_ble_eq_true rfl, Nat.le_of_ble_eq_true rfl⟩) ⟨zUX_blind, fun U hU hW => ⟨rfl, zUX_call hE0 hX0 hS hFc hU hPc hW hK hDc⟩⟩ rfl rfl hl.1 rfl (lv_room (Nat.le_of_ble_eq_true rfl)) dX3_allow_5 ⟨Nat.le_of_ble_eq_true rfl, Nat.le_of_ble_eq_true rfl⟩) hS (fun q _ h => hFc q h) hFc (fun q _ h => hFc q h) (fun E9 ce9 q9 u t H1 locs ht hvm hpx hB hz1 hk1 hS hcell hcv hcl => ?_) (fun u t H1 locs1 ht hvm hw _ _ _ _ => hw.elim)
      obtain ⟨rfl, hP1, hD1⟩ := hB
      rw [ht] at hP1
      obtain ⟨hP, hD⟩ := va_join (wr := [(o, .inr (4, [.ref F, .ref G, .int lo, .int nw, .int se, .ref (pa 0), .ref an, .ref ln]))]) (w1 := []) hP hD [] [0] rfl rfl (by decide) (by decide) hk1 hFc hP1 hD1
      have hP := hP.sub (ws' := [(o, .inr (4, [.ref F, .ref G, .int lo, .int nw, .int se, .ref (pa 0), .ref an, .ref ln]))]) [0] rfl
      have hD := hD.sub (ws' := [(o, .inr (4, [.ref F, .ref G, .int lo, .int nw, .int se, .ref (pa 0), .ref an, .ref ln]))]) [0] (by decide) rfl
      exact vx_out (fun x h => (htab x h).elim) hlocks hcell hcv hcl (fun t2 h7 h8 => z_thrO hP hD hS hAe h7) hS.2.2 (by omega) (by omega)
  · skip
    have hPc := hP.sub (ws' := []) [] rfl
    have hDc := hD.sub (ws' := []) [] (by decide) rfl
    have hFc := va_free (wc := []) hD hS hA [] rfl
    refine vx_callv (vx_runS (As := [.int n]) (rest := []) ⟨hx, hb, hml, hown, hts⟩ (c_X3_checkEnd_t l D cA zv s.heap.size hl0 n q1) (va_cwS 1 hts gX3_allow_X3_checkEnd rfl rfl rfl (by decide +kernel) ⟨Nat.le_of_ble_eq_true rfl, Nat.le_of_ble_eq_true rfl⟩) ⟨zUX_blind, fun U hU hW => ⟨rfl, zUX_call hE0 hX0 hS hFc hU hPc hW hK hDc⟩⟩ rfl rfl hl.1 rfl (lv_room (Nat.le_of_ble_eq_true rfl)) dX3_allow_1 ⟨Nat.le_of_ble_eq_true rfl, Nat.le_of_ble_eq_true rfl⟩) hS (fun q _ h => hFc q h) hFc (fun q _ h => hFc q h) (fun E9 ce9 q9 u t H1 locs ht hvm hpx hB hz1 hk1 hS hcell hcv hcl => ?_) (fun u t H1 locs1 ht hvm hw _ _ _ _ => hw.elim)
    obtain ⟨rfl, hP1, hD1⟩ := hB
    rw [ht] at hP1
    obtain ⟨hP, hD⟩ := va_join (wr := [(o, .inr (4, [.ref F, .ref G, .int lo, .int nw, .int se, .ref (pa 0), .ref an, .ref ln]))]) (w1 := []) hP hD [] [0] rfl rfl (by decide) (by decide) hk1 hFc hP1 hD1
    have hP := hP.sub (ws' := [(o, .inr (4, [.ref F, .ref G, .int lo, .int nw, .int se, .ref (pa 0), .ref an, .ref ln]))]) [0] rfl
    have hD := hD.sub (ws' := [(o, .inr (4, [.ref F, .ref G, .int lo, .int nw, .int se, .ref (pa 0), .ref an, .ref ln]))]) [0] (by decide) rfl
    exact vx_out (fun x h => (htab x h).elim) hlocks hcell hcv hcl (fun t2 h7 h8 => z_thrO hP hD hS hAe h7) hS.2.2 (by omega) (by omega)
set_option maxHeartbeats 4000000 in
set_option maxRecDepth 100000 in
theorem c_X3_refuse_k (l : Launch) (D : va_G) (cA : Nat → ClassId) (sz : Nat) (o F G : Nat) (lo nw se : Int32) (pa : Nat → Nat) (an ln : Nat) (x : Nat → Nat) (y0 : Nat) (n : Int32) (xv : Nat → Int32) (k : Nat) (q : Int32) (w5 : Nat → Int32) (he : en n F G (x 0) y0) (hk : k < 4) (hb01 : q = 0 ∨ q = 1) (hw5 : w5 k = 0 ∨ w5 k = 1) (hsh : sSh (xv 0)) : Met l yX3_refuse wsX3_refuse ({ frames := 2, cells := 0, slots := 0, locals := 40 }) (va_Pc [.ref o, .int n, .int (nI k), .int q] (zU D cA sz [(o, .inr (4, [.ref F, .ref G, .int lo, .int nw, .int se, .ref (pa 0), .ref an, .ref ln])), cE x xv, (x 6, .inl (cA 1, 4, .inl w5))])) (va_Qi (fun (r : Int32) (_ : Unit) => r = w5 k) (fun (_ : Unit) t => zB D [(o, .inr (4, [.ref F, .ref G, .int lo, .int nw, .int se, .ref (pa 0), .ref an, .ref ln])), cE x xv, (x 6, .inl (cA 1, 4, .inl w5))] sz [(o, .inr (4, [.ref F, .ref G, .int lo, .int nw, .int se, .ref (pa 0), .ref an, .ref ln])), cE x xv, (x 6, .inl (cA 1, 4, .inl (upd w5 k q)))] t) (va_A [(o, .inr (4, [.ref F, .ref G, .int lo, .int nw, .int se, .ref (pa 0), .ref an, .ref ln])), cE x xv, (x 6, .inl (cA 1, 4, .inl w5))] sz)) 0 0 (va_A [(o, .inr (4, [.ref F, .ref G, .int lo, .int nw, .int se, .ref (pa 0), .ref an, .ref ln])), cE x xv, (x 6, .inl (cA 1, 4, .inl w5))] sz) := by
  refine Met.ofW (cc := cX3_refuse) (maxL := 6) (ret := (some .boolean)) (by decide) rfl ?_
  intro p e s m args below meth c s₁ B hml hv
  obtain ⟨rfl, hsz, hP, hK, hD0⟩ := hv
  have hx := B.exec
  have hb := B.bytes
  have hr := B.returns
  have hts := atoms_spec (ws := wsX3_refuse) B.pre
  have hown : s.vm.findClass RX3 = some m.cls := findClass_of_methodNamed B.named
  have hlocks := B.notSynchronized
  subst hsz
  have hD := hD0.self (sz := s.heap.size)
  generalize hAe : va_A [(o, .inr (4, [.ref F, .ref G, .int lo, .int nw, .int se, .ref (pa 0), .ref an, .ref ln])), cE x xv, (x 6, .inl (cA 1, 4, .inl w5))] s.heap.size = A at hD ⊢
  have hA : ∀ q : Nat, s.heap.size ≤ q → A q := fun q h => by rw [← hAe]; exact Or.inr h
  have hS : va_S A s.heap s.heap [] := va_S.rf
  have hl := lv_entry ([.ref o, .int n, .int (nI k), .int q]) (n := 6) (Nat.le_of_ble_eq_true rfl)
  rw [lg_entry_eq]
  generalize (lg_sl ([.ref o, .int n, .int (nI k), .int q]) ++ List.replicate (6 - (lg_sl ([.ref o, .int n, .int (nI k), .int q])).length) Slot.unset).toArray = ls at hl ⊢
  have hl : lv_has ls 6 [(0, .ref o), (1, .int n), (2, .int (nI k)), (3, .int q)] := hl
  refine lv_iload_n hx hb dX3_refuse_0 rfl (lv_at hl 1 rfl) ?_
  have hPc := hP.sub (ws' := []) [] rfl
  have hDc := hD.sub (ws' := []) [] (by decide) rfl
  have hFc := va_free (wc := []) hD hS hA [] rfl
  refine va_callv (va_runS (As := [.int n]) (rest := []) ⟨hx, hb, hml, hown, hts⟩ (c_X3_checkEnd_k l D cA s.heap.size n (en_inr he)) (va_cwS 1 hts gX3_refuse_X3_checkEnd rfl rfl rfl (by decide +kernel) ⟨Nat.le_of_ble_eq_true rfl, Nat.le_of_ble_eq_true rfl⟩) ⟨zU_blind, fun U hU hW => ⟨rfl, zU_call hU hPc hW.alike hK hDc⟩⟩ rfl rfl hl.1 rfl (lv_room (Nat.le_of_ble_eq_true rfl)) dX3_refuse_1 ⟨(Nat.zero_le _), (Nat.zero_le _)⟩) hS (fun q _ h => hFc q h) hFc (fun u t H1 locs ht hvm hw hB hz1 hk1 hS => ?_)
  obtain ⟨hP1, hD1⟩ := hB
  rw [ht] at hP1
  obtain ⟨hP, hD⟩ := va_join (wr := [(o, .inr (4, [.ref F, .ref G, .int lo, .int nw, .int se, .ref (pa 0), .ref an, .ref ln])), cE x xv, (x 6, .inl (cA 1, 4, .inl w5))]) (w1 := []) hP hD [] [0, 1, 2] rfl rfl (by decide) (by decide) hk1 hFc hP1 hD1
  generalize H1 = H at hP hS ⊢
  have hP := hP.sub (ws' := [(o, .inr (4, [.ref F, .ref G, .int lo, .int nw, .int se, .ref (pa 0), .ref an, .ref ln])), cE x xv, (x 6, .inl (cA 1, 4, .inl w5))]) [0, 1, 2] rfl
  have hD := hD.sub (ws' := [(o, .inr (4, [.ref F, .ref G, .int lo, .int nw, .int se, .ref (pa 0), .ref an, .ref ln])), cE x xv, (x 6, .inl (cA 1, 4, .inl w5))]) [0, 1, 2] (by decide) rfl
  clear hPc hDc hFc hP1 hD1 hk1 hz1
  have hw_1 := hw
  refine lv_iload_n hx hb dX3_refuse_4 rfl (lv_at hl 2 rfl) ?_
  have hPc := hP.sub (ws' := []) [] rfl
  have hDc := hD.sub (ws' := []) [] (by decide) rfl
  have hFc := va_free (wc := []) hD hS hA [] rfl
  refine va_callv (va_runS (As := [.int (nI k)]) (rest := []) ⟨hx, hb, hml, hown, hts⟩ (c_X3_checkOption_k l D cA H.size (nI k) (inr_k hk)) (va_cwS 1 hts gX3_refuse_X3_checkOption rfl rfl rfl (by decide +kernel) ⟨Nat.le_of_ble_eq_true rfl, Nat.le_of_ble_eq_true rfl⟩) ⟨zU_blind, fun U hU hW => ⟨rfl, zU_call hU hPc hW.alike hK hDc⟩⟩ rfl rfl hl.1 rfl (lv_room (Nat.le_of_ble_eq_true rfl)) dX3_refuse_5 ⟨(Nat.zero_le _), (Nat.zero_le _)⟩) hS (fun q _ h => hFc q h) hFc (fun u t H1 locs ht hvm hw hB hz1 hk1 hS => ?_)
  obtain ⟨hP1, hD1⟩ := hB
  rw [ht] at hP1
  obtain ⟨hP, hD⟩ := va_join (wr := [(o, .inr (4, [.ref F, .ref G, .int lo, .int nw, .int se, .ref (pa 0), .ref an, .ref ln])), cE x xv, (x 6, .inl (cA 1, 4, .inl w5))]) (w1 := []) hP hD [] [0, 1, 2] rfl rfl (by decide) (by decide) hk1 hFc hP1 hD1
  generalize H1 = H at hP hS ⊢
  have hP := hP.sub (ws' := [(o, .inr (4, [.ref F, .ref G, .int lo, .int nw, .int se, .ref (pa 0), .ref an, .ref ln])), cE x xv, (x 6, .inl (cA 1, 4, .inl w5))]) [0, 1, 2] rfl
  have hD := hD.sub (ws' := [(o, .inr (4, [.ref F, .ref G, .int lo, .int nw, .int se, .ref (pa 0), .ref an, .ref ln])), cE x xv, (x 6, .inl (cA 1, 4, .inl w5))]) [0, 1, 2] (by decide) rfl
  clear hPc hDc hFc hP1 hD1 hk1 hz1
  have hw_2 := hw
  refine lv_aload_n hx hb dX3_refuse_8 rfl (lv_at hl 0 rfl) ?_
  refine lv_iload_n hx hb dX3_refuse_9 rfl (lv_at hl 1 rfl) ?_
  have hPc := hP.sub (ws' := [(o, .inr (4, [.ref F, .ref G, .int lo, .int nw, .int se, .ref (pa 0), .ref an, .ref ln]))]) [0] rfl
  have hDc := hD.sub (ws' := [(o, .inr (4, [.ref F, .ref G, .int lo, .int nw, .int se, .ref (pa 0), .ref an, .ref ln]))]) [0] (by decide) rfl
  have hFc := va_free (wc := [(o, .inr (4, [.ref F, .ref G, .int lo, .int nw, .int se, .ref (pa 0), .ref an, .ref ln]))]) hD hS hA [0] rfl
  refine va_callr (va_runV (As := [.int n]) (rest := []) ⟨hx, hb, hml, hown, hts⟩ (c_X3_endOf l D cA H.size o F G lo nw se pa an ln n (x 0) y0 (by assumption)) (cwV 1 hts gX3_refuse_X3_endOf rfl rfl rfl (by decide +kernel) ⟨Nat.le_of_ble_eq_true rfl, Nat.le_of_ble_eq_true rfl⟩) ⟨zU_blind, va_recv hK hPc (ci := 4) (q0 := 0) rfl rfl, fun U hU hW => ⟨rfl, zU_call hU hPc hW.alike hK hDc⟩⟩ rfl rfl hl.1 rfl (lv_room (Nat.le_of_ble_eq_true rfl)) dX3_refuse_10 ⟨(Nat.zero_le _), (Nat.zero_le _)⟩) hS (fun q _ h => hFc q h) hFc (fun u ra t H1 locs ht hvm hw hB hz1 hk1 hS => ?_)
  obtain ⟨hra, hP1, hD1⟩ := hB
  rw [ht] at hP1
  subst ra
  obtain ⟨hP, hD⟩ := va_join (wr := [cE x xv, (x 6, .inl (cA 1, 4, .inl w5))]) (w1 := [(o, .inr (4, [.ref F, .ref G, .int lo, .int nw, .int se, .ref (pa 0), .ref an, .ref ln]))]) hP hD [0] [1, 2] rfl rfl (by decide) (by decide) hk1 hFc hP1 hD1
  generalize H1 = H at hP hS ⊢
  have hP := hP.sub (ws' := [(o, .inr (4, [.ref F, .ref G, .int lo, .int nw, .int se, .ref (pa 0), .ref an, .ref ln])), cE x xv, (x 6, .inl (cA 1, 4, .inl w5))]) [2, 0, 1] rfl
  have hD := hD.sub (ws' := [(o, .inr (4, [.ref F, .ref G, .int lo, .int nw, .int se, .ref (pa 0), .ref an, .ref ln])), cE x xv, (x 6, .inl (cA 1, 4, .inl w5))]) [2, 0, 1] (by decide) rfl
  clear hPc hDc hFc hP1 hD1 hk1 hz1
  have hw_3 := hw
  refine lv_astore (lv' := [(4, .ref (x 0)), (0, .ref o), (1, .int n), (2, .int (nI k)), (3, .int q)]) hx hb dX3_refuse_13 hl (by decide) rfl (fun ls hl => ?_)
  refine lv_aload hx hb dX3_refuse_15 (lv_at hl 0 rfl) ?_
  have hPc := hP.sub (ws' := [cE x xv]) [1] rfl
  have hDc := hD.sub (ws' := [cE x xv]) [1] (by decide) rfl
  have hFc := va_free (wc := [cE x xv]) hD hS hA [1] rfl
  refine va_callv (va_runS (As := [.ref (x 0)]) (rest := []) ⟨hx, hb, hml, hown, hts⟩ (c_X3_checkShut_k l D cA H.size x xv (by assumption)) (va_cwS 1 hts gX3_refuse_X3_checkShut rfl rfl rfl (by decide +kernel) ⟨Nat.le_of_ble_eq_true rfl, Nat.le_of_ble_eq_true rfl⟩) ⟨zU_blind, fun U hU hW => ⟨rfl, zU_call hU hPc hW.alike hK hDc⟩⟩ rfl rfl hl.1 rfl (lv_room (Nat.le_of_ble_eq_true rfl)) dX3_refuse_17 ⟨(Nat.zero_le _), (Nat.zero_le _)⟩) hS (fun q _ h => hFc q h) hFc (fun u t H1 locs ht hvm hw hB hz1 hk1 hS => ?_)
  obtain ⟨hP1, hD1⟩ := hB
  rw [ht] at hP1
  obtain ⟨hP, hD⟩ := va_join (wr := [(o, .inr (4, [.ref F, .ref G, .int lo, .int nw, .int se, .ref (pa 0), .ref an, .ref ln])), (x 6, .inl (cA 1, 4, .inl w5))]) (w1 := [cE x xv]) hP hD [1] [0, 2] rfl rfl (by decide) (by decide) hk1 hFc hP1 hD1
  generalize H1 = H at hP hS ⊢
  have hP := hP.sub (ws' := [(o, .inr (4, [.ref F, .ref G, .int lo, .int nw, .int se, .ref (pa 0), .ref an, .ref ln])), cE x xv, (x 6, .inl (cA 1, 4, .inl w5))]) [0, 2, 1] rfl
  have hD := hD.sub (ws' := [(o, .inr (4, [.ref F, .ref G, .int lo, .int nw, .int se, .ref (pa 0), .ref an, .ref ln])), cE x xv, (x 6, .inl (cA 1, 4, .inl w5))]) [0, 2, 1] (by decide) rfl
  clear hPc hDc hFc hP1 hD1 hk1 hz1
  have hw_4 := hw
  refine lv_aload hx hb dX3_refuse_20 (lv_at hl 0 rfl) ?_
  refine va_get (D := D) (ci := 1) (v := .ref (x 6)) (C := RX0) (T := TX0) (N := 16) hx hb hts (fun _ h => List.mem_cons_of_mem _ (List.mem_append_left _ (List.mem_append_left _ (List.mem_append_left _ (List.mem_append_right _ (h)))))) hown hK hP 1 rfl rfl 5 (by decide) (hts (.fieldLink RX3 89 "OptionWire$End" "refused" "[Z") (List.mem_of_getElem? (i := 1) rfl)) (fun _ h9 => h9) rfl dX3_refuse_22 ?_
  refine lv_iload_n hx hb dX3_refuse_25 rfl (lv_at hl 3 rfl) ?_
  refine z_zald (k := k) (v := (w5 k)) hx hb hK hP 2 1 rfl rfl rfl (by omega) (by decide) rfl dX3_refuse_26 ?_
  refine lv_istore (lv' := [(5, .int (w5 k)), (4, .ref (x 0)), (0, .ref o), (1, .int n), (2, .int (nI k)), (3, .int q)]) hx hb dX3_refuse_27 hl (by decide) rfl (fun ls hl => ?_)
  refine lv_aload hx hb dX3_refuse_29 (lv_at hl 1 rfl) ?_
  refine va_get (D := D) (ci := 1) (v := .ref (x 6)) (C := RX0) (T := TX0) (N := 16) hx hb hts (fun _ h => List.mem_cons_of_mem _ (List.mem_append_left _ (List.mem_append_left _ (List.mem_append_left _ (List.mem_append_right _ (h)))))) hown hK hP 1 rfl rfl 5 (by decide) (hts (.fieldLink RX3 89 "OptionWire$End" "refused" "[Z") (List.mem_of_getElem? (i := 1) rfl)) (fun _ h9 => h9) rfl dX3_refuse_31 ?_
  refine lv_iload_n hx hb dX3_refuse_34 rfl (lv_at hl 4 rfl) ?_
  refine lv_iload_n hx hb dX3_refuse_35 rfl (lv_at hl 5 rfl) ?_
  refine z_zast (k := k) hx hb hK hP hD hS 2 1 rfl rfl rfl (by omega) (by decide) (nar01 hb01) dX3_refuse_36 (fun H locs hP hD hS => ?_)
  have hP : va_P D vwCl [(o, .inr (4, [.ref F, .ref G, .int lo, .int nw, .int se, .ref (pa 0), .ref an, .ref ln])), cE x xv, (x 6, .inl (cA 1, 4, .inl (upd w5 k q)))] H := hP
  have hD : va_D A [(o, .inr (4, [.ref F, .ref G, .int lo, .int nw, .int se, .ref (pa 0), .ref an, .ref ln])), cE x xv, (x 6, .inl (cA 1, 4, .inl (upd w5 k q)))] := hD
  refine lv_iload hx hb dX3_refuse_37 (lv_at hl 0 rfl) ?_
  refine W.widen (k := 0) (n := 0) (by omega) (by omega) ?_
  exact W.zret (v := (w5 k)) hx hb hr (narz hw5) (fun t ht hW => ⟨⟨w5 k, (), rfl, rfl, ⟨by rw [ht]; exact hP, by rw [hAe]; exact hD⟩⟩, hS.F ht⟩) hS.2.2 dX3_refuse_39
set_option maxHeartbeats 4000000 in
set_option maxRecDepth 100000 in
theorem c_X3_refuse_s (l : Launch) (D : va_G) (cA : Nat → ClassId) (zv : Nat → Nat) (sz : Nat) (hl0 : l.stackTraces = false) (o F G : Nat) (lo nw se : Int32) (pa : Nat → Nat) (an ln : Nat) (x : Nat → Nat) (y0 : Nat) (n : Int32) (xv : Nat → Int32) (k : Nat) (q : Int32) (he : en n F G (x 0) y0) (hk : k < 4) (hsh : ¬ sSh (xv 0)) : vx_Met l yX3_refuse wsX3_refuse ({ frames := 9, cells := 1, slots := 6, locals := 120 }) (va_Pc [.ref o, .int n, .int (nI k), .int q] (zUX D cA zv sz [(o, .inr (4, [.ref F, .ref G, .int lo, .int nw, .int se, .ref (pa 0), .ref an, .ref ln])), cE x xv])) (va_Qi (fun (_ : Int32) (_ : Unit) => False) (fun (_ : Unit) _ => True) (va_A [(o, .inr (4, [.ref F, .ref G, .int lo, .int nw, .int se, .ref (pa 0), .ref an, .ref ln])), cE x xv] sz)) (vx_X (fun (_ : Unit) => True) (fun E (_ : Unit) t => E = "java/lang/IllegalStateException" ∧ zB D [(o, .inr (4, [.ref F, .ref G, .int lo, .int nw, .int se, .ref (pa 0), .ref an, .ref ln])), cE x xv] sz [(o, .inr (4, [.ref F, .ref G, .int lo, .int nw, .int se, .ref (pa 0), .ref an, .ref ln])), cE x xv] t) (va_A [(o, .inr (4, [.ref F, .ref G, .int lo, .int nw, .int se, .ref (pa 0), .ref an, .ref ln])), cE x xv] sz)) 1 6 (va_A [(o, .inr (4, [.ref F, .ref G, .int lo, .int nw, .int se, .ref (pa 0), .ref an, .ref ln])), cE x xv] sz) := by
  refine vx_ofW (cc := cX3_refuse) (maxL := 6) (ret := (some .boolean)) (by decide) rfl ?_
  intro p e s m args below meth c s₁ B hml htab hv
  obtain ⟨rfl, ⟨hsz, hP, hK, hD0, hE0⟩, hX0⟩ := hv
  have hx := B.exec
  have hb := B.bytes
  have hr := B.returns
  have hts := atoms_spec (ws := wsX3_refuse) B.pre
  have hown : s.vm.findClass RX3 = some m.cls := findClass_of_methodNamed B.named
  have hlocks := B.notSynchronized
  subst hsz
  have hD := hD0.self (sz := s.heap.size)
  generalize hAe : va_A [(o, .inr (4, [.ref F, .ref G, .int lo, .int nw, .int se, .ref (pa 0), .ref an, .ref ln])), cE x xv] s.heap.size = A at hD hE0 hX0 ⊢
  have hA : ∀ q : Nat, s.heap.size ≤ q → A q := fun q h => by rw [← hAe]; exact Or.inr h
  have hS : va_S A s.heap s.heap [] := va_S.rf
  have hl := lv_entry ([.ref o, .int n, .int (nI k), .int q]) (n := 6) (Nat.le_of_ble_eq_true rfl)
  rw [lg_entry_eq]
  generalize (lg_sl ([.ref o, .int n, .int (nI k), .int q]) ++ List.replicate (6 - (lg_sl ([.ref o, .int n, .int (nI k), .int q])).length) Slot.unset).toArray = ls at hl ⊢
  have hl : lv_has ls 6 [(0, .ref o), (1, .int n), (2, .int (nI k)), (3, .int q)] := hl
  refine lv_iload_n hx hb dX3_refuse_0 rfl (lv_at hl 1 rfl) ?_
  have hPc := hP.sub (ws' := []) [] rfl
  have hDc := hD.sub (ws' := []) [] (by decide) rfl
  have hFc := va_free (wc := []) hD hS hA [] rfl
  refine va_callv (va_runS (As := [.int n]) (rest := []) ⟨hx, hb, hml, hown, hts⟩ (c_X3_checkEnd_k l D cA s.heap.size n (en_inr he)) (va_cwS 1 hts gX3_refuse_X3_checkEnd rfl rfl rfl (by decide +kernel) ⟨Nat.le_of_ble_eq_true rfl, Nat.le_of_ble_eq_true rfl⟩) ⟨zU_blind, fun U hU hW => ⟨rfl, zU_call hU hPc hW.alike hK hDc⟩⟩ rfl rfl hl.1 rfl (lv_room (Nat.le_of_ble_eq_true rfl)) dX3_refuse_1 ⟨(Nat.zero_le _), (Nat.zero_le _)⟩) hS (fun q _ h => hFc q h) hFc (fun u t H1 locs ht hvm hw hB hz1 hk1 hS => ?_)
  obtain ⟨hP1, hD1⟩ := hB
  rw [ht] at hP1
  obtain ⟨hP, hD⟩ := va_join (wr := [(o, .inr (4, [.ref F, .ref G, .int lo, .int nw, .int se, .ref (pa 0), .ref an, .ref ln])), cE x xv]) (w1 := []) hP hD [] [0, 1] rfl rfl (by decide) (by decide) hk1 hFc hP1 hD1
  generalize H1 = H at hP hS ⊢
  have hP := hP.sub (ws' := [(o, .inr (4, [.ref F, .ref G, .int lo, .int nw, .int se, .ref (pa 0), .ref an, .ref ln])), cE x xv]) [0, 1] rfl
  have hD := hD.sub (ws' := [(o, .inr (4, [.ref F, .ref G, .int lo, .int nw, .int se, .ref (pa 0), .ref an, .ref ln])), cE x xv]) [0, 1] (by decide) rfl
  clear hPc hDc hFc hP1 hD1 hk1 hz1
  have hw_1 := hw
  refine lv_iload_n hx hb dX3_refuse_4 rfl (lv_at hl 2 rfl) ?_
  have hPc := hP.sub (ws' := []) [] rfl
  have hDc := hD.sub (ws' := []) [] (by decide) rfl
  have hFc := va_free (wc := []) hD hS hA [] rfl
  refine va_callv (va_runS (As := [.int (nI k)]) (rest := []) ⟨hx, hb, hml, hown, hts⟩ (c_X3_checkOption_k l D cA H.size (nI k) (inr_k hk)) (va_cwS 1 hts gX3_refuse_X3_checkOption rfl rfl rfl (by decide +kernel) ⟨Nat.le_of_ble_eq_true rfl, Nat.le_of_ble_eq_true rfl⟩) ⟨zU_blind, fun U hU hW => ⟨rfl, zU_call hU hPc hW.alike hK hDc⟩⟩ rfl rfl hl.1 rfl (lv_room (Nat.le_of_ble_eq_true rfl)) dX3_refuse_5 ⟨(Nat.zero_le _), (Nat.zero_le _)⟩) hS (fun q _ h => hFc q h) hFc (fun u t H1 locs ht hvm hw hB hz1 hk1 hS => ?_)
  obtain ⟨hP1, hD1⟩ := hB
  rw [ht] at hP1
  obtain ⟨hP, hD⟩ := va_join (wr := [(o, .inr (4, [.ref F, .ref G, .int lo, .int nw, .int se, .ref (pa 0), .ref an, .ref ln])), cE x xv]) (w1 := []) hP hD [] [0, 1] rfl rfl (by decide) (by decide) hk1 hFc hP1 hD1
  generalize H1 = H at hP hS ⊢
  have hP := hP.sub (ws' := [(o, .inr (4, [.ref F, .ref G, .int lo, .int nw, .int se, .ref (pa 0), .ref an, .ref ln])), cE x xv]) [0, 1] rfl
  have hD := hD.sub (ws' := [(o, .inr (4, [.ref F, .ref G, .int lo, .int nw, .int se, .ref (pa 0), .ref an, .ref ln])), cE x xv]) [0, 1] (by decide) rfl
  clear hPc hDc hFc hP1 hD1 hk1 hz1
  have hw_2 := hw
  refine lv_aload_n hx hb dX3_refuse_8 rfl (lv_at hl 0 rfl) ?_
  refine lv_iload_n hx hb dX3_refuse_9 rfl (lv_at hl 1 rfl) ?_
  have hPc := hP.sub (ws' := [(o, .inr (4, [.ref F, .ref G, .int lo, .int nw, .int se, .ref (pa 0), .ref an, .ref ln]))]) [0] rfl
  have hDc := hD.sub (ws' := [(o, .inr (4, [.ref F, .ref G, .int lo, .int nw, .int se, .ref (pa 0), .ref an, .ref ln]))]) [0] (by decide) rfl
  have hFc := va_free (wc := [(o, .inr (4, [.ref F, .ref G, .int lo, .int nw, .int se, .ref (pa 0), .ref an, .ref ln]))]) hD hS hA [0] rfl
  refine va_callr (va_runV (As := [.int n]) (rest := []) ⟨hx, hb, hml, hown, hts⟩ (c_X3_endOf l D cA H.size o F G lo nw se pa an ln n (x 0) y0 (by assumption)) (cwV 1 hts gX3_refuse_X3_endOf rfl rfl rfl (by decide +kernel) ⟨Nat.le_of_ble_eq_true rfl, Nat.le_of_ble_eq_true rfl⟩) ⟨zU_blind, va_recv hK hPc (ci := 4) (q0 := 0) rfl rfl, fun U hU hW => ⟨rfl, zU_call hU hPc hW.alike hK hDc⟩⟩ rfl rfl hl.1 rfl (lv_room (Nat.le_of_ble_eq_true rfl)) dX3_refuse_10 ⟨(Nat.zero_le _), (Nat.zero_le _)⟩) hS (fun q _ h => hFc q h) hFc (fun u ra t H1 locs ht hvm hw hB hz1 hk1 hS => ?_)
  obtain ⟨hra, hP1, hD1⟩ := hB
  rw [ht] at hP1
  subst ra
  obtain ⟨hP, hD⟩ := va_join (wr := [cE x xv]) (w1 := [(o, .inr (4, [.ref F, .ref G, .int lo, .int nw, .int se, .ref (pa 0), .ref an, .ref ln]))]) hP hD [0] [1] rfl rfl (by decide) (by decide) hk1 hFc hP1 hD1
  generalize H1 = H at hP hS ⊢
  have hP := hP.sub (ws' := [(o, .inr (4, [.ref F, .ref G, .int lo, .int nw, .int se, .ref (pa 0), .ref an, .ref ln])), cE x xv]) [1, 0] rfl
  have hD := hD.sub (ws' := [(o, .inr (4, [.ref F, .ref G, .int lo, .int nw, .int se, .ref (pa 0), .ref an, .ref ln])), cE x xv]) [1, 0] (by decide) rfl
  clear hPc hDc hFc hP1 hD1 hk1 hz1
  have hw_3 := hw
  refine lv_astore (lv' := [(4, .ref (x 0)), (0, .ref o), (1, .int n), (2, .int (nI k)), (3, .int q)]) hx hb dX3_refuse_13 hl (by decide) rfl (fun ls hl => ?_)
  refine lv_aload hx hb dX3_refuse_15 (lv_at hl 0 rfl) ?_
  have hPc := hP.sub (ws' := [cE x xv]) [1] rfl
  have hDc := hD.sub (ws' := [cE x xv]) [1] (by decide) rfl
  have hFc := va_free (wc := [cE x xv]) hD hS hA [1] rfl
  refine vx_callv (vx_runS (As := [.ref (x 0)]) (rest := []) ⟨hx, hb, hml, hown, hts⟩ (c_X3_checkShut_t l D cA zv H.size hl0 x xv (by assumption)) (va_cwS 1 hts gX3_refuse_X3_checkShut rfl rfl rfl (by decide +kernel) ⟨Nat.le_of_ble_eq_true rfl, Nat.le_of_ble_eq_true rfl⟩) ⟨zUX_blind, fun U hU hW => ⟨rfl, zUX_call hE0 hX0 hS hFc hU hPc hW hK hDc⟩⟩ rfl rfl hl.1 rfl (lv_room (Nat.le_of_ble_eq_true rfl)) dX3_refuse_17 ⟨Nat.le_of_ble_eq_true rfl, Nat.le_of_ble_eq_true rfl⟩) hS (fun q _ h => hFc q h) hFc (fun q _ h => hFc q h) (fun E9 ce9 q9 u t H1 locs ht hvm hpx hB hz1 hk1 hS hcell hcv hcl => ?_) (fun u t H1 locs1 ht hvm hw _ _ _ _ => hw.elim)
  obtain ⟨rfl, hP1, hD1⟩ := hB
  rw [ht] at hP1
  obtain ⟨hP, hD⟩ := va_join (wr := [(o, .inr (4, [.ref F, .ref G, .int lo, .int nw, .int se, .ref (pa 0), .ref an, .ref ln]))]) (w1 := [cE x xv]) hP hD [1] [0] rfl rfl (by decide) (by decide) hk1 hFc hP1 hD1
  have hP := hP.sub (ws' := [(o, .inr (4, [.ref F, .ref G, .int lo, .int nw, .int se, .ref (pa 0), .ref an, .ref ln])), cE x xv]) [0, 1] rfl
  have hD := hD.sub (ws' := [(o, .inr (4, [.ref F, .ref G, .int lo, .int nw, .int se, .ref (pa 0), .ref an, .ref ln])), cE x xv]) [0, 1] (by decide) rfl
  exact vx_out (fun x h => (htab x h).elim) hlocks hcell hcv hcl (fun t2 h7 h8 => z_thrO hP hD hS hAe h7) hS.2.2 (by omega) (by omega)
set_option maxHeartbeats 4000000 in
set_option maxRecDepth 100000 in
theorem c_X3_refuse_b (l : Launch) (D : va_G) (cA : Nat → ClassId) (zv : Nat → Nat) (sz : Nat) (hl0 : l.stackTraces = false) (o F G : Nat) (lo nw se : Int32) (pa : Nat → Nat) (an ln : Nat) (n q z : Int32) (hbad : ¬ (inr n 0 1 ∧ inr q 0 3)) : vx_Met l yX3_refuse wsX3_refuse ({ frames := 9, cells := 1, slots := 6, locals := 120 }) (va_Pc [.ref o, .int n, .int q, .int z] (zUX D cA zv sz [(o, .inr (4, [.ref F, .ref G, .int lo, .int nw, .int se, .ref (pa 0), .ref an, .ref ln]))])) (va_Qi (fun (_ : Int32) (_ : Unit) => False) (fun (_ : Unit) _ => True) (va_A [(o, .inr (4, [.ref F, .ref G, .int lo, .int nw, .int se, .ref (pa 0), .ref an, .ref ln]))] sz)) (vx_X (fun (_ : Unit) => True) (fun E (_ : Unit) t => E = "java/lang/IllegalArgumentException" ∧ zB D [(o, .inr (4, [.ref F, .ref G, .int lo, .int nw, .int se, .ref (pa 0), .ref an, .ref ln]))] sz [(o, .inr (4, [.ref F, .ref G, .int lo, .int nw, .int se, .ref (pa 0), .ref an, .ref ln]))] t) (va_A [(o, .inr (4, [.ref F, .ref G, .int lo, .int nw, .int se, .ref (pa 0), .ref an, .ref ln]))] sz)) 1 6 (va_A [(o, .inr (4, [.ref F, .ref G, .int lo, .int nw, .int se, .ref (pa 0), .ref an, .ref ln]))] sz) := by
  refine vx_ofW (cc := cX3_refuse) (maxL := 6) (ret := (some .boolean)) (by decide) rfl ?_
  intro p e s m args below meth c s₁ B hml htab hv
  obtain ⟨rfl, ⟨hsz, hP, hK, hD0, hE0⟩, hX0⟩ := hv
  have hx := B.exec
  have hb := B.bytes
  have hr := B.returns
  have hts := atoms_spec (ws := wsX3_refuse) B.pre
  have hown : s.vm.findClass RX3 = some m.cls := findClass_of_methodNamed B.named
  have hlocks := B.notSynchronized
  subst hsz
  have hD := hD0.self (sz := s.heap.size)
  generalize hAe : va_A [(o, .inr (4, [.ref F, .ref G, .int lo, .int nw, .int se, .ref (pa 0), .ref an, .ref ln]))] s.heap.size = A at hD hE0 hX0 ⊢
  have hA : ∀ q : Nat, s.heap.size ≤ q → A q := fun q h => by rw [← hAe]; exact Or.inr h
  have hS : va_S A s.heap s.heap [] := va_S.rf
  have hl := lv_entry ([.ref o, .int n, .int q, .int z]) (n := 6) (Nat.le_of_ble_eq_true rfl)
  rw [lg_entry_eq]
  generalize (lg_sl ([.ref o, .int n, .int q, .int z]) ++ List.replicate (6 - (lg_sl ([.ref o, .int n, .int q, .int z])).length) Slot.unset).toArray = ls at hl ⊢
  have hl : lv_has ls 6 [(0, .ref o), (1, .int n), (2, .int q), (3, .int z)] := hl
  refine lv_iload_n hx hb dX3_refuse_0 rfl (lv_at hl 1 rfl) ?_
  by_cases q1 : inr n 0 1
  · skip
    have hPc := hP.sub (ws' := []) [] rfl
    have hDc := hD.sub (ws' := []) [] (by decide) rfl
    have hFc := va_free (wc := []) hD hS hA [] rfl
    refine va_callv (va_runS (As := [.int n]) (rest := []) ⟨hx, hb, hml, hown, hts⟩ (c_X3_checkEnd_k l D cA s.heap.size n q1) (va_cwS 1 hts gX3_refuse_X3_checkEnd rfl rfl rfl (by decide +kernel) ⟨Nat.le_of_ble_eq_true rfl, Nat.le_of_ble_eq_true rfl⟩) ⟨zU_blind, fun U hU hW => ⟨rfl, zU_call hU hPc hW.alike hK hDc⟩⟩ rfl rfl hl.1 rfl (lv_room (Nat.le_of_ble_eq_true rfl)) dX3_refuse_1 ⟨(Nat.zero_le _), (Nat.zero_le _)⟩) hS (fun q _ h => hFc q h) hFc (fun u t H1 locs ht hvm hw hB hz1 hk1 hS => ?_)
    obtain ⟨hP1, hD1⟩ := hB
    rw [ht] at hP1
    obtain ⟨hP, hD⟩ := va_join (wr := [(o, .inr (4, [.ref F, .ref G, .int lo, .int nw, .int se, .ref (pa 0), .ref an, .ref ln]))]) (w1 := []) hP hD [] [0] rfl rfl (by decide) (by decide) hk1 hFc hP1 hD1
    generalize H1 = H at hP hS ⊢
    have hP := hP.sub (ws' := [(o, .inr (4, [.ref F, .ref G, .int lo, .int nw, .int se, .ref (pa 0), .ref an, .ref ln]))]) [0] rfl
    have hD := hD.sub (ws' := [(o, .inr (4, [.ref F, .ref G, .int lo, .int nw, .int se, .ref (pa 0), .ref an, .ref ln]))]) [0] (by decide) rfl
    clear hPc hDc hFc hP1 hD1 hk1 hz1
    have hw_1 := hw
    refine lv_iload_n hx hb dX3_refuse_4 rfl (lv_at hl 2 rfl) ?_
    by_cases q2 : inr q 0 3
    · skip
      have hPc := hP.sub (ws' := []) [] rfl
      have hDc := hD.sub (ws' := []) [] (by decide) rfl
      have hFc := va_free (wc := []) hD hS hA [] rfl
      refine va_callv (va_runS (As := [.int q]) (rest := []) ⟨hx, hb, hml, hown, hts⟩ (c_X3_checkOption_k l D cA H.size q q2) (va_cwS 1 hts gX3_refuse_X3_checkOption rfl rfl rfl (by decide +kernel) ⟨Nat.le_of_ble_eq_true rfl, Nat.le_of_ble_eq_true rfl⟩) ⟨zU_blind, fun U hU hW => ⟨rfl, zU_call hU hPc hW.alike hK hDc⟩⟩ rfl rfl hl.1 rfl (lv_room (Nat.le_of_ble_eq_true rfl)) dX3_refuse_5 ⟨(Nat.zero_le _), (Nat.zero_le _)⟩) hS (fun q _ h => hFc q h) hFc (fun u t H1 locs ht hvm hw hB hz1 hk1 hS => ?_)
      obtain ⟨hP1, hD1⟩ := hB
      rw [ht] at hP1
      obtain ⟨hP, hD⟩ := va_join (wr := [(o, .inr (4, [.ref F, .ref G, .int lo, .int nw, .int se, .ref (pa 0), .ref an, .ref ln]))]) (w1 := []) hP hD [] [0] rfl rfl (by decide) (by decide) hk1 hFc hP1 hD1
      generalize H1 = H at hP hS ⊢
      have hP := hP.sub (ws' := [(o, .inr (4, [.ref F, .ref G, .int lo, .int nw, .int se, .ref (pa 0), .ref an, .ref ln]))]) [0] rfl
      have hD := hD.sub (ws' := [(o, .inr (4, [.ref F, .ref G, .int lo, .int nw, .int se, .ref (pa 0), .ref an, .ref ln]))]) [0] (by decide) rfl
      clear hPc hDc hFc hP1 hD1 hk1 hz1
      have hw_2 := hw
      exact absurd ⟨q1, q2⟩ hbad
    · skip
      have hPc := hP.sub (ws' := []) [] rfl
      have hDc := hD.sub (ws' := []) [] (by decide) rfl
      have hFc := va_free (wc := []) hD hS hA [] rfl
      refine vx_callv (vx_runS (As := [.int q]) (rest := []) ⟨hx, hb, hml, hown, hts⟩ (c_X3_checkOption_t l D cA zv H.size hl0 q q2) (va_cwS 1 hts gX3_refuse_X3_checkOption rfl rfl rfl (by decide +kernel) ⟨Nat.le_of_ble_eq_true rfl, Nat.le_of_ble_eq_true rfl⟩) ⟨zUX_blind, fun U hU hW => ⟨rfl, zUX_call hE0 hX0 hS hFc hU hPc hW hK hDc⟩⟩ rfl rfl hl.1 rfl (lv_room (Nat.le_of_ble_eq_true rfl)) dX3_refuse_5 ⟨Nat.le_of_ble_eq_true rfl, Nat.le_of_ble_eq_true rfl⟩) hS (fun q _ h => hFc q h) hFc (fun q _ h => hFc q h) (fun E9 ce9 q9 u t H1 locs ht hvm hpx hB hz1 hk1 hS hcell hcv hcl => ?_) (fun u t H1 locs1 ht hvm hw _ _ _ _ => hw.elim)
      obtain ⟨rfl, hP1, hD1⟩ := hB
      rw [ht] at hP1
      obtain ⟨hP, hD⟩ := va_join (wr := [(o, .inr (4, [.ref F, .ref G, .int lo, .int nw, .int se, .ref (pa 0), .ref an, .ref ln]))]) (w1 := []) hP hD [] [0] rfl rfl (by decide) (by decide) hk1 hFc hP1 hD1
      have hP := hP.sub (ws' := [(o, .inr (4, [.ref F, .ref G, .int lo, .int nw, .int se, .ref (pa 0), .ref an, .ref ln]))]) [0] rfl
      have hD := hD.sub (ws' := [(o, .inr (4, [.ref F, .ref G, .int lo, .int nw, .int se, .ref (pa 0), .ref an, .ref ln]))]) [0] (by decide) rfl
      exact vx_out (fun x h => (htab x h).elim) hlocks hcell hcv hcl (fun t2 h7 h8 => z_thrO hP hD hS hAe h7) hS.2.2 (by omega) (by omega)
  · skip
    have hPc := hP.sub (ws' := []) [] rfl
    have hDc := hD.sub (ws' := []) [] (by decide) rfl
    have hFc := va_free (wc := []) hD hS hA [] rfl
    refine vx_callv (vx_runS (As := [.int n]) (rest := []) ⟨hx, hb, hml, hown, hts⟩ (c_X3_checkEnd_t l D cA zv s.heap.size hl0 n q1) (va_cwS 1 hts gX3_refuse_X3_checkEnd rfl rfl rfl (by decide +kernel) ⟨Nat.le_of_ble_eq_true rfl, Nat.le_of_ble_eq_true rfl⟩) ⟨zUX_blind, fun U hU hW => ⟨rfl, zUX_call hE0 hX0 hS hFc hU hPc hW hK hDc⟩⟩ rfl rfl hl.1 rfl (lv_room (Nat.le_of_ble_eq_true rfl)) dX3_refuse_1 ⟨Nat.le_of_ble_eq_true rfl, Nat.le_of_ble_eq_true rfl⟩) hS (fun q _ h => hFc q h) hFc (fun q _ h => hFc q h) (fun E9 ce9 q9 u t H1 locs ht hvm hpx hB hz1 hk1 hS hcell hcv hcl => ?_) (fun u t H1 locs1 ht hvm hw _ _ _ _ => hw.elim)
    obtain ⟨rfl, hP1, hD1⟩ := hB
    rw [ht] at hP1
    obtain ⟨hP, hD⟩ := va_join (wr := [(o, .inr (4, [.ref F, .ref G, .int lo, .int nw, .int se, .ref (pa 0), .ref an, .ref ln]))]) (w1 := []) hP hD [] [0] rfl rfl (by decide) (by decide) hk1 hFc hP1 hD1
    have hP := hP.sub (ws' := [(o, .inr (4, [.ref F, .ref G, .int lo, .int nw, .int se, .ref (pa 0), .ref an, .ref ln]))]) [0] rfl
    have hD := hD.sub (ws' := [(o, .inr (4, [.ref F, .ref G, .int lo, .int nw, .int se, .ref (pa 0), .ref an, .ref ln]))]) [0] (by decide) rfl
    exact vx_out (fun x h => (htab x h).elim) hlocks hcell hcv hcl (fun t2 h7 h8 => z_thrO hP hD hS hAe h7) hS.2.2 (by omega) (by omega)
set_option maxHeartbeats 4000000 in
set_option maxRecDepth 100000 in
/-- open(end, mark) -/
theorem c_X3_open_k (l : Launch) (D : va_G) (cA : Nat → ClassId) (sz : Nat) (o F G : Nat) (lo nw se : Int32) (pa : Nat → Nat) (an ln : Nat) (x y : Nat → Nat) (n : Int32) (xv yv : Nat → Int32) (xr yr : Nat → Nat → Int32) (xf yf : Nat) (QX QY : Qt)(mk : Int32) (f g : Nat → Int32) (he : en n F G (x 0) (y 0)) (hqx : rg xr xf QX) (hqy : rg yr yf QY) (hmk : inr mk 1 999) (hsh : sSh (xv 0)) : Met l yX3_open wsX3_open ({ frames := 4, cells := 0, slots := 0, locals := 95 }) (va_Pc [.ref o, .int n, .int mk] (zU D cA sz [(o, .inr (4, [.ref F, .ref G, .int lo, .int nw, .int se, .ref (pa 0), .ref an, .ref ln])), cE x xv, (x 9, .inr (3, [.ref (x 10), .ref (x 11), .ref (x 12), .ref (x 13), .int (nI xf), .int (nI QX.1)])), (x 10, .inl (cA 0, 12, .inl (xr 0))), (x 11, .inl (cA 0, 12, .inl (xr 1))), (x 12, .inl (cA 0, 12, .inl (xr 2))), (x 13, .inl (cA 0, 48, .inl (xr 3))), cE y yv, (y 9, .inr (3, [.ref (y 10), .ref (y 11), .ref (y 12), .ref (y 13), .int (nI yf), .int (nI QY.1)])), (y 10, .inl (cA 0, 12, .inl (yr 0))), (y 11, .inl (cA 0, 12, .inl (yr 1))), (y 12, .inl (cA 0, 12, .inl (yr 2))), (y 13, .inl (cA 0, 48, .inl (yr 3))), (x 1, .inl (cA 0, 4, .inl g)), (x 7, .inl (cA 0, 4, .inl f))])) (va_Qv (fun (u : ((Nat → Int32) × (Nat → Nat → Int32) × (Nat → Nat → Int32) × Qt × Qt × Int32)) => u.1 = (rq lo (upd (upd (upd (upd xv 0 1) 3 10) 1 mk) 5 0) g QX QY se).1 ∧ u.2.2.2.1 = (rq lo (upd (upd (upd (upd xv 0 1) 3 10) 1 mk) 5 0) g QX QY se).2.1.1 ∧ u.2.2.2.2.1 = (rq lo (upd (upd (upd (upd xv 0 1) 3 10) 1 mk) 5 0) g QX QY se).2.1.2 ∧ u.2.2.2.2.2 = (rq lo (upd (upd (upd (upd xv 0 1) 3 10) 1 mk) 5 0) g QX QY se).2.2 ∧ rg u.2.1 xf u.2.2.2.1 ∧ rg u.2.2.1 yf u.2.2.2.2.1) (fun (u : ((Nat → Int32) × (Nat → Nat → Int32) × (Nat → Nat → Int32) × Qt × Qt × Int32)) t => zB D [(o, .inr (4, [.ref F, .ref G, .int lo, .int nw, .int se, .ref (pa 0), .ref an, .ref ln])), cE x xv, (x 9, .inr (3, [.ref (x 10), .ref (x 11), .ref (x 12), .ref (x 13), .int (nI xf), .int (nI QX.1)])), (x 10, .inl (cA 0, 12, .inl (xr 0))), (x 11, .inl (cA 0, 12, .inl (xr 1))), (x 12, .inl (cA 0, 12, .inl (xr 2))), (x 13, .inl (cA 0, 48, .inl (xr 3))), cE y yv, (y 9, .inr (3, [.ref (y 10), .ref (y 11), .ref (y 12), .ref (y 13), .int (nI yf), .int (nI QY.1)])), (y 10, .inl (cA 0, 12, .inl (yr 0))), (y 11, .inl (cA 0, 12, .inl (yr 1))), (y 12, .inl (cA 0, 12, .inl (yr 2))), (y 13, .inl (cA 0, 48, .inl (yr 3))), (x 1, .inl (cA 0, 4, .inl g)), (x 7, .inl (cA 0, 4, .inl f))] sz [(o, .inr (4, [.ref F, .ref G, .int lo, .int nw, .int u.2.2.2.2.2, .ref (pa 0), .ref an, .ref ln])), cE x u.1, (x 9, .inr (3, [.ref (x 10), .ref (x 11), .ref (x 12), .ref (x 13), .int (nI xf), .int (nI u.2.2.2.1.1)])), (x 10, .inl (cA 0, 12, .inl (u.2.1 0))), (x 11, .inl (cA 0, 12, .inl (u.2.1 1))), (x 12, .inl (cA 0, 12, .inl (u.2.1 2))), (x 13, .inl (cA 0, 48, .inl (u.2.1 3))), cE y yv, (y 9, .inr (3, [.ref (y 10), .ref (y 11), .ref (y 12), .ref (y 13), .int (nI yf), .int (nI u.2.2.2.2.1.1)])), (y 10, .inl (cA 0, 12, .inl (u.2.2.1 0))), (y 11, .inl (cA 0, 12, .inl (u.2.2.1 1))), (y 12, .inl (cA 0, 12, .inl (u.2.2.1 2))), (y 13, .inl (cA 0, 48, .inl (u.2.2.1 3))), (x 1, .inl (cA 0, 4, .inl g)), (x 7, .inl (cA 0, 4, .inl g))] t) (va_A [(o, .inr (4, [.ref F, .ref G, .int lo, .int nw, .int se, .ref (pa 0), .ref an, .ref ln])), cE x xv, (x 9, .inr (3, [.ref (x 10), .ref (x 11), .ref (x 12), .ref (x 13), .int (nI xf), .int (nI QX.1)])), (x 10, .inl (cA 0, 12, .inl (xr 0))), (x 11, .inl (cA 0, 12, .inl (xr 1))), (x 12, .inl (cA 0, 12, .inl (xr 2))), (x 13, .inl (cA 0, 48, .inl (xr 3))), cE y yv, (y 9, .inr (3, [.ref (y 10), .ref (y 11), .ref (y 12), .ref (y 13), .int (nI yf), .int (nI QY.1)])), (y 10, .inl (cA 0, 12, .inl (yr 0))), (y 11, .inl (cA 0, 12, .inl (yr 1))), (y 12, .inl (cA 0, 12, .inl (yr 2))), (y 13, .inl (cA 0, 48, .inl (yr 3))), (x 1, .inl (cA 0, 4, .inl g)), (x 7, .inl (cA 0, 4, .inl f))] sz)) 0 0 (va_A [(o, .inr (4, [.ref F, .ref G, .int lo, .int nw, .int se, .ref (pa 0), .ref an, .ref ln])), cE x xv, (x 9, .inr (3, [.ref (x 10), .ref (x 11), .ref (x 12), .ref (x 13), .int (nI xf), .int (nI QX.1)])), (x 10, .inl (cA 0, 12, .inl (xr 0))), (x 11, .inl (cA 0, 12, .inl (xr 1))), (x 12, .inl (cA 0, 12, .inl (xr 2))), (x 13, .inl (cA 0, 48, .inl (xr 3))), cE y yv, (y 9, .inr (3, [.ref (y 10), .ref (y 11), .ref (y 12), .ref (y 13), .int (nI yf), .int (nI QY.1)])), (y 10, .inl (cA 0, 12, .inl (yr 0))), (y 11, .inl (cA 0, 12, .inl (yr 1))), (y 12, .inl (cA 0, 12, .inl (yr 2))), (y 13, .inl (cA 0, 48, .inl (yr 3))), (x 1, .inl (cA 0, 4, .inl g)), (x 7, .inl (cA 0, 4, .inl f))] sz) := by
  refine Met.ofW (cc := cX3_open) (maxL := 4) (ret := none) (by decide) rfl ?_
  intro p e s m args below meth c s₁ B hml hv
  obtain ⟨rfl, hsz, hP, hK, hD0⟩ := hv
  have hx := B.exec
  have hb := B.bytes
  have hr := B.returns
  have hts := atoms_spec (ws := wsX3_open) B.pre
  have hown : s.vm.findClass RX3 = some m.cls := findClass_of_methodNamed B.named
  have hlocks := B.notSynchronized
  subst hsz
  have hD := hD0.self (sz := s.heap.size)
  generalize hAe : va_A [(o, .inr (4, [.ref F, .ref G, .int lo, .int nw, .int se, .ref (pa 0), .ref an, .ref ln])), cE x xv, (x 9, .inr (3, [.ref (x 10), .ref (x 11), .ref (x 12), .ref (x 13), .int (nI xf), .int (nI QX.1)])), (x 10, .inl (cA 0, 12, .inl (xr 0))), (x 11, .inl (cA 0, 12, .inl (xr 1))), (x 12, .inl (cA 0, 12, .inl (xr 2))), (x 13, .inl (cA 0, 48, .inl (xr 3))), cE y yv, (y 9, .inr (3, [.ref (y 10), .ref (y 11), .ref (y 12), .ref (y 13), .int (nI yf), .int (nI QY.1)])), (y 10, .inl (cA 0, 12, .inl (yr 0))), (y 11, .inl (cA 0, 12, .inl (yr 1))), (y 12, .inl (cA 0, 12, .inl (yr 2))), (y 13, .inl (cA 0, 48, .inl (yr 3))), (x 1, .inl (cA 0, 4, .inl g)), (x 7, .inl (cA 0, 4, .inl f))] s.heap.size = A at hD ⊢
  have hA : ∀ q : Nat, s.heap.size ≤ q → A q := fun q h => by rw [← hAe]; exact Or.inr h
  have hS : va_S A s.heap s.heap [] := va_S.rf
  have hl := lv_entry ([.ref o, .int n, .int mk]) (n := 4) (Nat.le_of_ble_eq_true rfl)
  rw [lg_entry_eq]
  generalize (lg_sl ([.ref o, .int n, .int mk]) ++ List.replicate (4 - (lg_sl ([.ref o, .int n, .int mk])).length) Slot.unset).toArray = ls at hl ⊢
  have hl : lv_has ls 4 [(0, .ref o), (1, .int n), (2, .int mk)] := hl
  refine lv_iload_n hx hb dX3_open_0 rfl (lv_at hl 1 rfl) ?_
  have hPc := hP.sub (ws' := []) [] rfl
  have hDc := hD.sub (ws' := []) [] (by decide) rfl
  have hFc := va_free (wc := []) hD hS hA [] rfl
  refine va_callv (va_runS (As := [.int n]) (rest := []) ⟨hx, hb, hml, hown, hts⟩ (c_X3_checkEnd_k l D cA s.heap.size n (en_inr he)) (va_cwS 1 hts gX3_open_X3_checkEnd rfl rfl rfl (by decide +kernel) ⟨Nat.le_of_ble_eq_true rfl, Nat.le_of_ble_eq_true rfl⟩) ⟨zU_blind, fun U hU hW => ⟨rfl, zU_call hU hPc hW.alike hK hDc⟩⟩ rfl rfl hl.1 rfl (lv_room (Nat.le_of_ble_eq_true rfl)) dX3_open_1 ⟨(Nat.zero_le _), (Nat.zero_le _)⟩) hS (fun q _ h => hFc q h) hFc (fun u t H1 locs ht hvm hw hB hz1 hk1 hS => ?_)
  obtain ⟨hP1, hD1⟩ := hB
  rw [ht] at hP1
  obtain ⟨hP, hD⟩ := va_join (wr := [(o, .inr (4, [.ref F, .ref G, .int lo, .int nw, .int se, .ref (pa 0), .ref an, .ref ln])), cE x xv, (x 9, .inr (3, [.ref (x 10), .ref (x 11), .ref (x 12), .ref (x 13), .int (nI xf), .int (nI QX.1)])), (x 10, .inl (cA 0, 12, .inl (xr 0))), (x 11, .inl (cA 0, 12, .inl (xr 1))), (x 12, .inl (cA 0, 12, .inl (xr 2))), (x 13, .inl (cA 0, 48, .inl (xr 3))), cE y yv, (y 9, .inr (3, [.ref (y 10), .ref (y 11), .ref (y 12), .ref (y 13), .int (nI yf), .int (nI QY.1)])), (y 10, .inl (cA 0, 12, .inl (yr 0))), (y 11, .inl (cA 0, 12, .inl (yr 1))), (y 12, .inl (cA 0, 12, .inl (yr 2))), (y 13, .inl (cA 0, 48, .inl (yr 3))), (x 1, .inl (cA 0, 4, .inl g)), (x 7, .inl (cA 0, 4, .inl f))]) (w1 := []) hP hD [] [0, 1, 2, 3, 4, 5, 6, 7, 8, 9, 10, 11, 12, 13, 14] rfl rfl (by decide) (by decide) hk1 hFc hP1 hD1
  generalize H1 = H at hP hS ⊢
  have hP := hP.sub (ws' := [(o, .inr (4, [.ref F, .ref G, .int lo, .int nw, .int se, .ref (pa 0), .ref an, .ref ln])), cE x xv, (x 9, .inr (3, [.ref (x 10), .ref (x 11), .ref (x 12), .ref (x 13), .int (nI xf), .int (nI QX.1)])), (x 10, .inl (cA 0, 12, .inl (xr 0))), (x 11, .inl (cA 0, 12, .inl (xr 1))), (x 12, .inl (cA 0, 12, .inl (xr 2))), (x 13, .inl (cA 0, 48, .inl (xr 3))), cE y yv, (y 9, .inr (3, [.ref (y 10), .ref (y 11), .ref (y 12), .ref (y 13), .int (nI yf), .int (nI QY.1)])), (y 10, .inl (cA 0, 12, .inl (yr 0))), (y 11, .inl (cA 0, 12, .inl (yr 1))), (y 12, .inl (cA 0, 12, .inl (yr 2))), (y 13, .inl (cA 0, 48, .inl (yr 3))), (x 1, .inl (cA 0, 4, .inl g)), (x 7, .inl (cA 0, 4, .inl f))]) [0, 1, 2, 3, 4, 5, 6, 7, 8, 9, 10, 11, 12, 13, 14] rfl
  have hD := hD.sub (ws' := [(o, .inr (4, [.ref F, .ref G, .int lo, .int nw, .int se, .ref (pa 0), .ref an, .ref ln])), cE x xv, (x 9, .inr (3, [.ref (x 10), .ref (x 11), .ref (x 12), .ref (x 13), .int (nI xf), .int (nI QX.1)])), (x 10, .inl (cA 0, 12, .inl (xr 0))), (x 11, .inl (cA 0, 12, .inl (xr 1))), (x 12, .inl (cA 0, 12, .inl (xr 2))), (x 13, .inl (cA 0, 48, .inl (xr 3))), cE y yv, (y 9, .inr (3, [.ref (y 10), .ref (y 11), .ref (y 12), .ref (y 13), .int (nI yf), .int (nI QY.1)])), (y 10, .inl (cA 0, 12, .inl (yr 0))), (y 11, .inl (cA 0, 12, .inl (yr 1))), (y 12, .inl (cA 0, 12, .inl (yr 2))), (y 13, .inl (cA 0, 48, .inl (yr 3))), (x 1, .inl (cA 0, 4, .inl g)), (x 7, .inl (cA 0, 4, .inl f))]) [0, 1, 2, 3, 4, 5, 6, 7, 8, 9, 10, 11, 12, 13, 14] (by decide) rfl
  clear hPc hDc hFc hP1 hD1 hk1 hz1
  have hw_1 := hw
  refine lv_iload_n hx hb dX3_open_4 rfl (lv_at hl 2 rfl) ?_
  refine lv_iconst (v := 1) hx hb dX3_open_5 (by decide) ?_
  refine lv_icmp_lt (tgt := 16) hx hb dX3_open_6 (by decide) (fun c_2 => ?_) (fun c_2 => ?_)
  · skip
    exact absurd c_2 hmk.1
  · skip
    refine lv_iload_n hx hb dX3_open_9 rfl (lv_at hl 2 rfl) ?_
    refine lv_sipush (v := 999) hx hb dX3_open_10 (by decide) ?_
    refine lv_icmp_le (tgt := 26) hx hb dX3_open_13 (by decide) (fun c_3 => ?_) (fun c_3 => ?_)
    · skip
      refine lv_aload_n hx hb dX3_open_26 rfl (lv_at hl 0 rfl) ?_
      refine lv_iload_n hx hb dX3_open_27 rfl (lv_at hl 1 rfl) ?_
      have hPc := hP.sub (ws' := [(o, .inr (4, [.ref F, .ref G, .int lo, .int nw, .int se, .ref (pa 0), .ref an, .ref ln]))]) [0] rfl
      have hDc := hD.sub (ws' := [(o, .inr (4, [.ref F, .ref G, .int lo, .int nw, .int se, .ref (pa 0), .ref an, .ref ln]))]) [0] (by decide) rfl
      have hFc := va_free (wc := [(o, .inr (4, [.ref F, .ref G, .int lo, .int nw, .int se, .ref (pa 0), .ref an, .ref ln]))]) hD hS hA [0] rfl
      refine va_callr (va_runV (As := [.int n]) (rest := []) ⟨hx, hb, hml, hown, hts⟩ (c_X3_endOf l D cA H.size o F G lo nw se pa an ln n (x 0) (y 0) (by first | exact he | exact en_flip he)) (cwV 1 hts gX3_open_X3_endOf rfl rfl rfl (by decide +kernel) ⟨Nat.le_of_ble_eq_true rfl, Nat.le_of_ble_eq_true rfl⟩) ⟨zU_blind, va_recv hK hPc (ci := 4) (q0 := 0) rfl rfl, fun U hU hW => ⟨rfl, zU_call hU hPc hW.alike hK hDc⟩⟩ rfl rfl hl.1 rfl (lv_room (Nat.le_of_ble_eq_true rfl)) dX3_open_28 ⟨(Nat.zero_le _), (Nat.zero_le _)⟩) hS (fun q _ h => hFc q h) hFc (fun u ra t H1 locs ht hvm hw hB hz1 hk1 hS => ?_)
      obtain ⟨hra, hP1, hD1⟩ := hB
      rw [ht] at hP1
      subst ra
      obtain ⟨hP, hD⟩ := va_join (wr := [cE x xv, (x 9, .inr (3, [.ref (x 10), .ref (x 11), .ref (x 12), .ref (x 13), .int (nI xf), .int (nI QX.1)])), (x 10, .inl (cA 0, 12, .inl (xr 0))), (x 11, .inl (cA 0, 12, .inl (xr 1))), (x 12, .inl (cA 0, 12, .inl (xr 2))), (x 13, .inl (cA 0, 48, .inl (xr 3))), cE y yv, (y 9, .inr (3, [.ref (y 10), .ref (y 11), .ref (y 12), .ref (y 13), .int (nI yf), .int (nI QY.1)])), (y 10, .inl (cA 0, 12, .inl (yr 0))), (y 11, .inl (cA 0, 12, .inl (yr 1))), (y 12, .inl (cA 0, 12, .inl (yr 2))), (y 13, .inl (cA 0, 48, .inl (yr 3))), (x 1, .inl (cA 0, 4, .inl g)), (x 7, .inl (cA 0, 4, .inl f))]) (w1 := [(o, .inr (4, [.ref F, .ref G, .int lo, .int nw, .int se, .ref (pa 0), .ref an, .ref ln]))]) hP hD [0] [1, 2, 3, 4, 5, 6, 7, 8, 9, 10, 11, 12, 13, 14] rfl rfl (by decide) (by decide) hk1 hFc hP1 hD1
      generalize H1 = H at hP hS ⊢
      have hP := hP.sub (ws' := [(o, .inr (4, [.ref F, .ref G, .int lo, .int nw, .int se, .ref (pa 0), .ref an, .ref ln])), cE x xv, (x 9, .inr (3, [.ref (x 10), .ref (x 11), .ref (x 12), .ref (x 13), .int (nI xf), .int (nI QX.1)])), (x 10, .inl (cA 0, 12, .inl (xr 0))), (x 11, .inl (cA 0, 12, .inl (xr 1))), (x 12, .inl (cA 0, 12, .inl (xr 2))), (x 13, .inl (cA 0, 48, .inl (xr 3))), cE y yv, (y 9, .inr (3, [.ref (y 10), .ref (y 11), .ref (y 12), .ref (y 13), .int (nI yf), .int (nI QY.1)])), (y 10, .inl (cA 0, 12, .inl (yr 0))), (y 11, .inl (cA 0, 12, .inl (yr 1))), (y 12, .inl (cA 0, 12, .inl (yr 2))), (y 13, .inl (cA 0, 48, .inl (yr 3))), (x 1, .inl (cA 0, 4, .inl g)), (x 7, .inl (cA 0, 4, .inl f))]) [14, 0, 1, 2, 3, 4, 5, 6, 7, 8, 9, 10, 11, 12, 13] rfl
      have hD := hD.sub (ws' := [(o, .inr (4, [.ref F, .ref G, .int lo, .int nw, .int se, .ref (pa 0), .ref an, .ref ln])), cE x xv, (x 9, .inr (3, [.ref (x 10), .ref (x 11), .ref (x 12), .ref (x 13), .int (nI xf), .int (nI QX.1)])), (x 10, .inl (cA 0, 12, .inl (xr 0))), (x 11, .inl (cA 0, 12, .inl (xr 1))), (x 12, .inl (cA 0, 12, .inl (xr 2))), (x 13, .inl (cA 0, 48, .inl (xr 3))), cE y yv, (y 9, .inr (3, [.ref (y 10), .ref (y 11), .ref (y 12), .ref (y 13), .int (nI yf), .int (nI QY.1)])), (y 10, .inl (cA 0, 12, .inl (yr 0))), (y 11, .inl (cA 0, 12, .inl (yr 1))), (y 12, .inl (cA 0, 12, .inl (yr 2))), (y 13, .inl (cA 0, 48, .inl (yr 3))), (x 1, .inl (cA 0, 4, .inl g)), (x 7, .inl (cA 0, 4, .inl f))]) [14, 0, 1, 2, 3, 4, 5, 6, 7, 8, 9, 10, 11, 12, 13] (by decide) rfl
      clear hPc hDc hFc hP1 hD1 hk1 hz1
      have hw_4 := hw
      refine lv_astore_n (lv' := [(3, .ref (x 0)), (0, .ref o), (1, .int n), (2, .int mk)]) hx hb dX3_open_31 rfl hl (by decide) rfl (fun ls hl => ?_)
      refine lv_aload_n hx hb dX3_open_32 rfl (lv_at hl 0 rfl) ?_
      have hPc := hP.sub (ws' := [cE x xv]) [1] rfl
      have hDc := hD.sub (ws' := [cE x xv]) [1] (by decide) rfl
      have hFc := va_free (wc := [cE x xv]) hD hS hA [1] rfl
      refine va_callv (va_runS (As := [.ref (x 0)]) (rest := []) ⟨hx, hb, hml, hown, hts⟩ (c_X3_checkShut_k l D cA H.size x xv hsh) (va_cwS 1 hts gX3_open_X3_checkShut rfl rfl rfl (by decide +kernel) ⟨Nat.le_of_ble_eq_true rfl, Nat.le_of_ble_eq_true rfl⟩) ⟨zU_blind, fun U hU hW => ⟨rfl, zU_call hU hPc hW.alike hK hDc⟩⟩ rfl rfl hl.1 rfl (lv_room (Nat.le_of_ble_eq_true rfl)) dX3_open_33 ⟨(Nat.zero_le _), (Nat.zero_le _)⟩) hS (fun q _ h => hFc q h) hFc (fun u t H1 locs ht hvm hw hB hz1 hk1 hS => ?_)
      obtain ⟨hP1, hD1⟩ := hB
      rw [ht] at hP1
      obtain ⟨hP, hD⟩ := va_join (wr := [(o, .inr (4, [.ref F, .ref G, .int lo, .int nw, .int se, .ref (pa 0), .ref an, .ref ln])), (x 9, .inr (3, [.ref (x 10), .ref (x 11), .ref (x 12), .ref (x 13), .int (nI xf), .int (nI QX.1)])), (x 10, .inl (cA 0, 12, .inl (xr 0))), (x 11, .inl (cA 0, 12, .inl (xr 1))), (x 12, .inl (cA 0, 12, .inl (xr 2))), (x 13, .inl (cA 0, 48, .inl (xr 3))), cE y yv, (y 9, .inr (3, [.ref (y 10), .ref (y 11), .ref (y 12), .ref (y 13), .int (nI yf), .int (nI QY.1)])), (y 10, .inl (cA 0, 12, .inl (yr 0))), (y 11, .inl (cA 0, 12, .inl (yr 1))), (y 12, .inl (cA 0, 12, .inl (yr 2))), (y 13, .inl (cA 0, 48, .inl (yr 3))), (x 1, .inl (cA 0, 4, .inl g)), (x 7, .inl (cA 0, 4, .inl f))]) (w1 := [cE x xv]) hP hD [1] [0, 2, 3, 4, 5, 6, 7, 8, 9, 10, 11, 12, 13, 14] rfl rfl (by decide) (by decide) hk1 hFc hP1 hD1
      generalize H1 = H at hP hS ⊢
      have hP := hP.sub (ws' := [(o, .inr (4, [.ref F, .ref G, .int lo, .int nw, .int se, .ref (pa 0), .ref an, .ref ln])), cE x xv, (x 9, .inr (3, [.ref (x 10), .ref (x 11), .ref (x 12), .ref (x 13), .int (nI xf), .int (nI QX.1)])), (x 10, .inl (cA 0, 12, .inl (xr 0))), (x 11, .inl (cA 0, 12, .inl (xr 1))), (x 12, .inl (cA 0, 12, .inl (xr 2))), (x 13, .inl (cA 0, 48, .inl (xr 3))), cE y yv, (y 9, .inr (3, [.ref (y 10), .ref (y 11), .ref (y 12), .ref (y 13), .int (nI yf), .int (nI QY.1)])), (y 10, .inl (cA 0, 12, .inl (yr 0))), (y 11, .inl (cA 0, 12, .inl (yr 1))), (y 12, .inl (cA 0, 12, .inl (yr 2))), (y 13, .inl (cA 0, 48, .inl (yr 3))), (x 1, .inl (cA 0, 4, .inl g)), (x 7, .inl (cA 0, 4, .inl f))]) [0, 14, 1, 2, 3, 4, 5, 6, 7, 8, 9, 10, 11, 12, 13] rfl
      have hD := hD.sub (ws' := [(o, .inr (4, [.ref F, .ref G, .int lo, .int nw, .int se, .ref (pa 0), .ref an, .ref ln])), cE x xv, (x 9, .inr (3, [.ref (x 10), .ref (x 11), .ref (x 12), .ref (x 13), .int (nI xf), .int (nI QX.1)])), (x 10, .inl (cA 0, 12, .inl (xr 0))), (x 11, .inl (cA 0, 12, .inl (xr 1))), (x 12, .inl (cA 0, 12, .inl (xr 2))), (x 13, .inl (cA 0, 48, .inl (xr 3))), cE y yv, (y 9, .inr (3, [.ref (y 10), .ref (y 11), .ref (y 12), .ref (y 13), .int (nI yf), .int (nI QY.1)])), (y 10, .inl (cA 0, 12, .inl (yr 0))), (y 11, .inl (cA 0, 12, .inl (yr 1))), (y 12, .inl (cA 0, 12, .inl (yr 2))), (y 13, .inl (cA 0, 48, .inl (yr 3))), (x 1, .inl (cA 0, 4, .inl g)), (x 7, .inl (cA 0, 4, .inl f))]) [0, 14, 1, 2, 3, 4, 5, 6, 7, 8, 9, 10, 11, 12, 13] (by decide) rfl
      clear hPc hDc hFc hP1 hD1 hk1 hz1
      have hw_5 := hw
      refine lv_aload_n hx hb dX3_open_36 rfl (lv_at hl 0 rfl) ?_
      refine lv_iconst (v := 1) hx hb dX3_open_37 (by decide) ?_
      refine va_put (D := D) (ci := 1) (v := .int 1) (ty := .int) (C := RX0) (T := TX0) (N := 16) hx hb hts (fun _ h => List.mem_cons_of_mem _ (List.mem_append_left _ (List.mem_append_left _ (List.mem_append_left _ (List.mem_append_left _ (List.mem_append_right _ (h))))))) tyX0 tyX0_ok nmX0 hown hK hP hD hS 1 rfl rfl 9 (by decide) (hts (.fieldLink RX3 95 "OptionWire$End" "state" "I") (List.mem_of_getElem? (i := 3) rfl)) (fun _ h9 => h9) rfl (by decide +kernel) rfl rfl (Nat.le_of_ble_eq_true rfl) dX3_open_38 (fun H locs hP hD hS => ?_)
      have hP : va_P D vwCl [(o, .inr (4, [.ref F, .ref G, .int lo, .int nw, .int se, .ref (pa 0), .ref an, .ref ln])), cE x (upd xv 0 1), (x 9, .inr (3, [.ref (x 10), .ref (x 11), .ref (x 12), .ref (x 13), .int (nI xf), .int (nI QX.1)])), (x 10, .inl (cA 0, 12, .inl (xr 0))), (x 11, .inl (cA 0, 12, .inl (xr 1))), (x 12, .inl (cA 0, 12, .inl (xr 2))), (x 13, .inl (cA 0, 48, .inl (xr 3))), cE y yv, (y 9, .inr (3, [.ref (y 10), .ref (y 11), .ref (y 12), .ref (y 13), .int (nI yf), .int (nI QY.1)])), (y 10, .inl (cA 0, 12, .inl (yr 0))), (y 11, .inl (cA 0, 12, .inl (yr 1))), (y 12, .inl (cA 0, 12, .inl (yr 2))), (y 13, .inl (cA 0, 48, .inl (yr 3))), (x 1, .inl (cA 0, 4, .inl g)), (x 7, .inl (cA 0, 4, .inl f))] H := hP
      have hD : va_D A [(o, .inr (4, [.ref F, .ref G, .int lo, .int nw, .int se, .ref (pa 0), .ref an, .ref ln])), cE x (upd xv 0 1), (x 9, .inr (3, [.ref (x 10), .ref (x 11), .ref (x 12), .ref (x 13), .int (nI xf), .int (nI QX.1)])), (x 10, .inl (cA 0, 12, .inl (xr 0))), (x 11, .inl (cA 0, 12, .inl (xr 1))), (x 12, .inl (cA 0, 12, .inl (xr 2))), (x 13, .inl (cA 0, 48, .inl (xr 3))), cE y yv, (y 9, .inr (3, [.ref (y 10), .ref (y 11), .ref (y 12), .ref (y 13), .int (nI yf), .int (nI QY.1)])), (y 10, .inl (cA 0, 12, .inl (yr 0))), (y 11, .inl (cA 0, 12, .inl (yr 1))), (y 12, .inl (cA 0, 12, .inl (yr 2))), (y 13, .inl (cA 0, 48, .inl (yr 3))), (x 1, .inl (cA 0, 4, .inl g)), (x 7, .inl (cA 0, 4, .inl f))] := hD
      refine lv_aload_n hx hb dX3_open_41 rfl (lv_at hl 0 rfl) ?_
      refine lv_bipush (v := 10) hx hb dX3_open_42 (by decide) ?_
      refine va_put (D := D) (ci := 1) (v := .int 10) (ty := .int) (C := RX0) (T := TX0) (N := 16) hx hb hts (fun _ h => List.mem_cons_of_mem _ (List.mem_append_left _ (List.mem_append_left _ (List.mem_append_left _ (List.mem_append_left _ (List.mem_append_right _ (h))))))) tyX0 tyX0_ok nmX0 hown hK hP hD hS 1 rfl rfl 12 (by decide) (hts (.fieldLink RX3 98 "OptionWire$End" "tries" "I") (List.mem_of_getElem? (i := 4) rfl)) (fun _ h9 => h9) rfl (by decide +kernel) rfl rfl (Nat.le_of_ble_eq_true rfl) dX3_open_44 (fun H locs hP hD hS => ?_)
      have hP : va_P D vwCl [(o, .inr (4, [.ref F, .ref G, .int lo, .int nw, .int se, .ref (pa 0), .ref an, .ref ln])), cE x (upd (upd xv 0 1) 3 10), (x 9, .inr (3, [.ref (x 10), .ref (x 11), .ref (x 12), .ref (x 13), .int (nI xf), .int (nI QX.1)])), (x 10, .inl (cA 0, 12, .inl (xr 0))), (x 11, .inl (cA 0, 12, .inl (xr 1))), (x 12, .inl (cA 0, 12, .inl (xr 2))), (x 13, .inl (cA 0, 48, .inl (xr 3))), cE y yv, (y 9, .inr (3, [.ref (y 10), .ref (y 11), .ref (y 12), .ref (y 13), .int (nI yf), .int (nI QY.1)])), (y 10, .inl (cA 0, 12, .inl (yr 0))), (y 11, .inl (cA 0, 12, .inl (yr 1))), (y 12, .inl (cA 0, 12, .inl (yr 2))), (y 13, .inl (cA 0, 48, .inl (yr 3))), (x 1, .inl (cA 0, 4, .inl g)), (x 7, .inl (cA 0, 4, .inl f))] H := hP
      have hD : va_D A [(o, .inr (4, [.ref F, .ref G, .int lo, .int nw, .int se, .ref (pa 0), .ref an, .ref ln])), cE x (upd (upd xv 0 1) 3 10), (x 9, .inr (3, [.ref (x 10), .ref (x 11), .ref (x 12), .ref (x 13), .int (nI xf), .int (nI QX.1)])), (x 10, .inl (cA 0, 12, .inl (xr 0))), (x 11, .inl (cA 0, 12, .inl (xr 1))), (x 12, .inl (cA 0, 12, .inl (xr 2))), (x 13, .inl (cA 0, 48, .inl (xr 3))), cE y yv, (y 9, .inr (3, [.ref (y 10), .ref (y 11), .ref (y 12), .ref (y 13), .int (nI yf), .int (nI QY.1)])), (y 10, .inl (cA 0, 12, .inl (yr 0))), (y 11, .inl (cA 0, 12, .inl (yr 1))), (y 12, .inl (cA 0, 12, .inl (yr 2))), (y 13, .inl (cA 0, 48, .inl (yr 3))), (x 1, .inl (cA 0, 4, .inl g)), (x 7, .inl (cA 0, 4, .inl f))] := hD
      refine lv_aload_n hx hb dX3_open_47 rfl (lv_at hl 0 rfl) ?_
      refine lv_iload_n hx hb dX3_open_48 rfl (lv_at hl 3 rfl) ?_
      refine va_put (D := D) (ci := 1) (v := .int mk) (ty := .int) (C := RX0) (T := TX0) (N := 16) hx hb hts (fun _ h => List.mem_cons_of_mem _ (List.mem_append_left _ (List.mem_append_left _ (List.mem_append_left _ (List.mem_append_left _ (List.mem_append_right _ (h))))))) tyX0 tyX0_ok nmX0 hown hK hP hD hS 1 rfl rfl 10 (by decide) (hts (.fieldLink RX3 101 "OptionWire$End" "mark" "I") (List.mem_of_getElem? (i := 5) rfl)) (fun _ h9 => h9) rfl (by decide +kernel) rfl rfl (Nat.le_of_ble_eq_true rfl) dX3_open_49 (fun H locs hP hD hS => ?_)
      have hP : va_P D vwCl [(o, .inr (4, [.ref F, .ref G, .int lo, .int nw, .int se, .ref (pa 0), .ref an, .ref ln])), cE x (upd (upd (upd xv 0 1) 3 10) 1 mk), (x 9, .inr (3, [.ref (x 10), .ref (x 11), .ref (x 12), .ref (x 13), .int (nI xf), .int (nI QX.1)])), (x 10, .inl (cA 0, 12, .inl (xr 0))), (x 11, .inl (cA 0, 12, .inl (xr 1))), (x 12, .inl (cA 0, 12, .inl (xr 2))), (x 13, .inl (cA 0, 48, .inl (xr 3))), cE y yv, (y 9, .inr (3, [.ref (y 10), .ref (y 11), .ref (y 12), .ref (y 13), .int (nI yf), .int (nI QY.1)])), (y 10, .inl (cA 0, 12, .inl (yr 0))), (y 11, .inl (cA 0, 12, .inl (yr 1))), (y 12, .inl (cA 0, 12, .inl (yr 2))), (y 13, .inl (cA 0, 48, .inl (yr 3))), (x 1, .inl (cA 0, 4, .inl g)), (x 7, .inl (cA 0, 4, .inl f))] H := hP
      have hD : va_D A [(o, .inr (4, [.ref F, .ref G, .int lo, .int nw, .int se, .ref (pa 0), .ref an, .ref ln])), cE x (upd (upd (upd xv 0 1) 3 10) 1 mk), (x 9, .inr (3, [.ref (x 10), .ref (x 11), .ref (x 12), .ref (x 13), .int (nI xf), .int (nI QX.1)])), (x 10, .inl (cA 0, 12, .inl (xr 0))), (x 11, .inl (cA 0, 12, .inl (xr 1))), (x 12, .inl (cA 0, 12, .inl (xr 2))), (x 13, .inl (cA 0, 48, .inl (xr 3))), cE y yv, (y 9, .inr (3, [.ref (y 10), .ref (y 11), .ref (y 12), .ref (y 13), .int (nI yf), .int (nI QY.1)])), (y 10, .inl (cA 0, 12, .inl (yr 0))), (y 11, .inl (cA 0, 12, .inl (yr 1))), (y 12, .inl (cA 0, 12, .inl (yr 2))), (y 13, .inl (cA 0, 48, .inl (yr 3))), (x 1, .inl (cA 0, 4, .inl g)), (x 7, .inl (cA 0, 4, .inl f))] := hD
      refine lv_aload_n hx hb dX3_open_52 rfl (lv_at hl 0 rfl) ?_
      refine lv_iconst (v := 0) hx hb dX3_open_53 (by decide) ?_
      refine va_put (D := D) (ci := 1) (v := .int 0) (ty := .int) (C := RX0) (T := TX0) (N := 16) hx hb hts (fun _ h => List.mem_cons_of_mem _ (List.mem_append_left _ (List.mem_append_left _ (List.mem_append_left _ (List.mem_append_left _ (List.mem_append_right _ (h))))))) tyX0 tyX0_ok nmX0 hown hK hP hD hS 1 rfl rfl 14 (by decide) (hts (.fieldLink RX3 104 "OptionWire$End" "loops" "I") (List.mem_of_getElem? (i := 6) rfl)) (fun _ h9 => h9) rfl (by decide +kernel) rfl rfl (Nat.le_of_ble_eq_true rfl) dX3_open_54 (fun H locs hP hD hS => ?_)
      have hP : va_P D vwCl [(o, .inr (4, [.ref F, .ref G, .int lo, .int nw, .int se, .ref (pa 0), .ref an, .ref ln])), cE x (upd (upd (upd (upd xv 0 1) 3 10) 1 mk) 5 0), (x 9, .inr (3, [.ref (x 10), .ref (x 11), .ref (x 12), .ref (x 13), .int (nI xf), .int (nI QX.1)])), (x 10, .inl (cA 0, 12, .inl (xr 0))), (x 11, .inl (cA 0, 12, .inl (xr 1))), (x 12, .inl (cA 0, 12, .inl (xr 2))), (x 13, .inl (cA 0, 48, .inl (xr 3))), cE y yv, (y 9, .inr (3, [.ref (y 10), .ref (y 11), .ref (y 12), .ref (y 13), .int (nI yf), .int (nI QY.1)])), (y 10, .inl (cA 0, 12, .inl (yr 0))), (y 11, .inl (cA 0, 12, .inl (yr 1))), (y 12, .inl (cA 0, 12, .inl (yr 2))), (y 13, .inl (cA 0, 48, .inl (yr 3))), (x 1, .inl (cA 0, 4, .inl g)), (x 7, .inl (cA 0, 4, .inl f))] H := hP
      have hD : va_D A [(o, .inr (4, [.ref F, .ref G, .int lo, .int nw, .int se, .ref (pa 0), .ref an, .ref ln])), cE x (upd (upd (upd (upd xv 0 1) 3 10) 1 mk) 5 0), (x 9, .inr (3, [.ref (x 10), .ref (x 11), .ref (x 12), .ref (x 13), .int (nI xf), .int (nI QX.1)])), (x 10, .inl (cA 0, 12, .inl (xr 0))), (x 11, .inl (cA 0, 12, .inl (xr 1))), (x 12, .inl (cA 0, 12, .inl (xr 2))), (x 13, .inl (cA 0, 48, .inl (xr 3))), cE y yv, (y 9, .inr (3, [.ref (y 10), .ref (y 11), .ref (y 12), .ref (y 13), .int (nI yf), .int (nI QY.1)])), (y 10, .inl (cA 0, 12, .inl (yr 0))), (y 11, .inl (cA 0, 12, .inl (yr 1))), (y 12, .inl (cA 0, 12, .inl (yr 2))), (y 13, .inl (cA 0, 48, .inl (yr 3))), (x 1, .inl (cA 0, 4, .inl g)), (x 7, .inl (cA 0, 4, .inl f))] := hD
      refine lv_aload_n hx hb dX3_open_57 rfl (lv_at hl 0 rfl) ?_
      refine va_get (D := D) (ci := 1) (v := .ref (x 1)) (C := RX0) (T := TX0) (N := 16) hx hb hts (fun _ h => List.mem_cons_of_mem _ (List.mem_append_left _ (List.mem_append_left _ (List.mem_append_left _ (List.mem_append_left _ (List.mem_append_right _ (h))))))) hown hK hP 1 rfl rfl 0 (by decide) (hts (.fieldLink RX3 74 "OptionWire$End" "wishes" "[I") (List.mem_of_getElem? (i := 7) rfl)) (fun _ h9 => h9) rfl dX3_open_58 ?_
      refine lv_aload_n hx hb dX3_open_61 rfl (lv_at hl 0 rfl) ?_
      refine va_get (D := D) (ci := 1) (v := .ref (x 7)) (C := RX0) (T := TX0) (N := 16) hx hb hts (fun _ h => List.mem_cons_of_mem _ (List.mem_append_left _ (List.mem_append_left _ (List.mem_append_left _ (List.mem_append_left _ (List.mem_append_right _ (h))))))) hown hK hP 1 rfl rfl 6 (by decide) (hts (.fieldLink RX3 107 "OptionWire$End" "asked" "[I") (List.mem_of_getElem? (i := 8) rfl)) (fun _ h9 => h9) rfl dX3_open_62 ?_
      have hPc := hP.sub (ws' := [(x 1, .inl (cA 0, 4, .inl g)), (x 7, .inl (cA 0, 4, .inl f))]) [13, 14] rfl
      have hDc := hD.sub (ws' := [(x 1, .inl (cA 0, 4, .inl g)), (x 7, .inl (cA 0, 4, .inl f))]) [13, 14] (by decide) rfl
      have hFc := va_free (wc := [(x 1, .inl (cA 0, 4, .inl g)), (x 7, .inl (cA 0, 4, .inl f))]) hD hS hA [13, 14] rfl
      refine va_callv (va_runS (As := [.ref (x 1), .ref (x 7)]) (rest := []) ⟨hx, hb, hml, hown, hts⟩ (c_X3_copyValues l D cA H.size (x 1) (x 7) g f) (va_cwS 2 hts gX3_open_X3_copyValues rfl rfl rfl (by decide +kernel) ⟨Nat.le_of_ble_eq_true rfl, Nat.le_of_ble_eq_true rfl⟩) ⟨zU_blind, fun U hU hW => ⟨rfl, zU_call hU hPc hW.alike hK hDc⟩⟩ rfl rfl hl.1 rfl (lv_room (Nat.le_of_ble_eq_true rfl)) dX3_open_65 ⟨(Nat.zero_le _), (Nat.zero_le _)⟩) hS (fun q _ h => hFc q h) hFc (fun u t H1 locs ht hvm hw hB hz1 hk1 hS => ?_)
      obtain ⟨hP1, hD1⟩ := hB
      rw [ht] at hP1
      obtain ⟨hP, hD⟩ := va_join (wr := [(o, .inr (4, [.ref F, .ref G, .int lo, .int nw, .int se, .ref (pa 0), .ref an, .ref ln])), cE x (upd (upd (upd (upd xv 0 1) 3 10) 1 mk) 5 0), (x 9, .inr (3, [.ref (x 10), .ref (x 11), .ref (x 12), .ref (x 13), .int (nI xf), .int (nI QX.1)])), (x 10, .inl (cA 0, 12, .inl (xr 0))), (x 11, .inl (cA 0, 12, .inl (xr 1))), (x 12, .inl (cA 0, 12, .inl (xr 2))), (x 13, .inl (cA 0, 48, .inl (xr 3))), cE y yv, (y 9, .inr (3, [.ref (y 10), .ref (y 11), .ref (y 12), .ref (y 13), .int (nI yf), .int (nI QY.1)])), (y 10, .inl (cA 0, 12, .inl (yr 0))), (y 11, .inl (cA 0, 12, .inl (yr 1))), (y 12, .inl (cA 0, 12, .inl (yr 2))), (y 13, .inl (cA 0, 48, .inl (yr 3)))]) (w1 := [(x 1, .inl (cA 0, 4, .inl g)), (x 7, .inl (cA 0, 4, .inl g))]) hP hD [13, 14] [0, 1, 2, 3, 4, 5, 6, 7, 8, 9, 10, 11, 12] rfl rfl (by decide) (by decide) hk1 hFc hP1 hD1
      generalize H1 = H at hP hS ⊢
      have hP := hP.sub (ws' := [(o, .inr (4, [.ref F, .ref G, .int lo, .int nw, .int se, .ref (pa 0), .ref an, .ref ln])), cE x (upd (upd (upd (upd xv 0 1) 3 10) 1 mk) 5 0), (x 9, .inr (3, [.ref (x 10), .ref (x 11), .ref (x 12), .ref (x 13), .int (nI xf), .int (nI QX.1)])), (x 10, .inl (cA 0, 12, .inl (xr 0))), (x 11, .inl (cA 0, 12, .inl (xr 1))), (x 12, .inl (cA 0, 12, .inl (xr 2))), (x 13, .inl (cA 0, 48, .inl (xr 3))), cE y yv, (y 9, .inr (3, [.ref (y 10), .ref (y 11), .ref (y 12), .ref (y 13), .int (nI yf), .int (nI QY.1)])), (y 10, .inl (cA 0, 12, .inl (yr 0))), (y 11, .inl (cA 0, 12, .inl (yr 1))), (y 12, .inl (cA 0, 12, .inl (yr 2))), (y 13, .inl (cA 0, 48, .inl (yr 3))), (x 1, .inl (cA 0, 4, .inl g)), (x 7, .inl (cA 0, 4, .inl g))]) [0, 1, 2, 3, 4, 5, 6, 7, 8, 9, 10, 11, 12, 13, 14] rfl
      have hD := hD.sub (ws' := [(o, .inr (4, [.ref F, .ref G, .int lo, .int nw, .int se, .ref (pa 0), .ref an, .ref ln])), cE x (upd (upd (upd (upd xv 0 1) 3 10) 1 mk) 5 0), (x 9, .inr (3, [.ref (x 10), .ref (x 11), .ref (x 12), .ref (x 13), .int (nI xf), .int (nI QX.1)])), (x 10, .inl (cA 0, 12, .inl (xr 0))), (x 11, .inl (cA 0, 12, .inl (xr 1))), (x 12, .inl (cA 0, 12, .inl (xr 2))), (x 13, .inl (cA 0, 48, .inl (xr 3))), cE y yv, (y 9, .inr (3, [.ref (y 10), .ref (y 11), .ref (y 12), .ref (y 13), .int (nI yf), .int (nI QY.1)])), (y 10, .inl (cA 0, 12, .inl (yr 0))), (y 11, .inl (cA 0, 12, .inl (yr 1))), (y 12, .inl (cA 0, 12, .inl (yr 2))), (y 13, .inl (cA 0, 48, .inl (yr 3))), (x 1, .inl (cA 0, 4, .inl g)), (x 7, .inl (cA 0, 4, .inl g))]) [0, 1, 2, 3, 4, 5, 6, 7, 8, 9, 10, 11, 12, 13, 14] (by decide) rfl
      clear hPc hDc hFc hP1 hD1 hk1 hz1
      have hw_6 := hw
      refine lv_aload_n hx hb dX3_open_68 rfl (lv_at hl 1 rfl) ?_
      refine lv_iload_n hx hb dX3_open_69 rfl (lv_at hl 2 rfl) ?_
      have hPc := hP.sub (ws' := [(o, .inr (4, [.ref F, .ref G, .int lo, .int nw, .int se, .ref (pa 0), .ref an, .ref ln])), cE x (upd (upd (upd (upd xv 0 1) 3 10) 1 mk) 5 0), (x 9, .inr (3, [.ref (x 10), .ref (x 11), .ref (x 12), .ref (x 13), .int (nI xf), .int (nI QX.1)])), (x 10, .inl (cA 0, 12, .inl (xr 0))), (x 11, .inl (cA 0, 12, .inl (xr 1))), (x 12, .inl (cA 0, 12, .inl (xr 2))), (x 13, .inl (cA 0, 48, .inl (xr 3))), cE y yv, (y 9, .inr (3, [.ref (y 10), .ref (y 11), .ref (y 12), .ref (y 13), .int (nI yf), .int (nI QY.1)])), (y 10, .inl (cA 0, 12, .inl (yr 0))), (y 11, .inl (cA 0, 12, .inl (yr 1))), (y 12, .inl (cA 0, 12, .inl (yr 2))), (y 13, .inl (cA 0, 48, .inl (yr 3))), (x 7, .inl (cA 0, 4, .inl g))]) [0, 1, 2, 3, 4, 5, 6, 7, 8, 9, 10, 11, 12, 14] rfl
      have hDc := hD.sub (ws' := [(o, .inr (4, [.ref F, .ref G, .int lo, .int nw, .int se, .ref (pa 0), .ref an, .ref ln])), cE x (upd (upd (upd (upd xv 0 1) 3 10) 1 mk) 5 0), (x 9, .inr (3, [.ref (x 10), .ref (x 11), .ref (x 12), .ref (x 13), .int (nI xf), .int (nI QX.1)])), (x 10, .inl (cA 0, 12, .inl (xr 0))), (x 11, .inl (cA 0, 12, .inl (xr 1))), (x 12, .inl (cA 0, 12, .inl (xr 2))), (x 13, .inl (cA 0, 48, .inl (xr 3))), cE y yv, (y 9, .inr (3, [.ref (y 10), .ref (y 11), .ref (y 12), .ref (y 13), .int (nI yf), .int (nI QY.1)])), (y 10, .inl (cA 0, 12, .inl (yr 0))), (y 11, .inl (cA 0, 12, .inl (yr 1))), (y 12, .inl (cA 0, 12, .inl (yr 2))), (y 13, .inl (cA 0, 48, .inl (yr 3))), (x 7, .inl (cA 0, 4, .inl g))]) [0, 1, 2, 3, 4, 5, 6, 7, 8, 9, 10, 11, 12, 14] (by decide) rfl
      have hFc := va_free (wc := [(o, .inr (4, [.ref F, .ref G, .int lo, .int nw, .int se, .ref (pa 0), .ref an, .ref ln])), cE x (upd (upd (upd (upd xv 0 1) 3 10) 1 mk) 5 0), (x 9, .inr (3, [.ref (x 10), .ref (x 11), .ref (x 12), .ref (x 13), .int (nI xf), .int (nI QX.1)])), (x 10, .inl (cA 0, 12, .inl (xr 0))), (x 11, .inl (cA 0, 12, .inl (xr 1))), (x 12, .inl (cA 0, 12, .inl (xr 2))), (x 13, .inl (cA 0, 48, .inl (xr 3))), cE y yv, (y 9, .inr (3, [.ref (y 10), .ref (y 11), .ref (y 12), .ref (y 13), .int (nI yf), .int (nI QY.1)])), (y 10, .inl (cA 0, 12, .inl (yr 0))), (y 11, .inl (cA 0, 12, .inl (yr 1))), (y 12, .inl (cA 0, 12, .inl (yr 2))), (y 13, .inl (cA 0, 48, .inl (yr 3))), (x 7, .inl (cA 0, 4, .inl g))]) hD hS hA [0, 1, 2, 3, 4, 5, 6, 7, 8, 9, 10, 11, 12, 14] rfl
      refine va_callv (va_runV (As := [.int n]) (rest := []) ⟨hx, hb, hml, hown, hts⟩ (c_X3_sendRequest l D cA H.size o F G lo nw se pa an ln x y n (upd (upd (upd (upd xv 0 1) 3 10) 1 mk) 5 0) yv xr yr xf yf QX QY g (by first | exact he | exact en_flip he) (by assumption) (by assumption)) (cwV 1 hts gX3_open_X3_sendRequest rfl rfl rfl (by decide +kernel) ⟨Nat.le_of_ble_eq_true rfl, Nat.le_of_ble_eq_true rfl⟩) ⟨zU_blind, va_recv hK hPc (ci := 4) (q0 := 0) rfl rfl, fun U hU hW => ⟨rfl, zU_call hU hPc hW.alike hK hDc⟩⟩ rfl rfl hl.1 rfl (lv_room (Nat.le_of_ble_eq_true rfl)) dX3_open_70 ⟨(Nat.zero_le _), (Nat.zero_le _)⟩) hS (fun q _ h => hFc q h) hFc (fun u t H1 locs ht hvm hw hB hz1 hk1 hS => ?_)
      obtain ⟨xv'_7, xr'_7, yr'_7, QX'_7, QY'_7, se'_7⟩ := u
      obtain ⟨hP1, hD1⟩ := hB
      rw [ht] at hP1
      try dsimp only at hw hP1 hD1
      obtain ⟨hP, hD⟩ := va_join (wr := [(x 1, .inl (cA 0, 4, .inl g))]) (w1 := [(o, .inr (4, [.ref F, .ref G, .int lo, .int nw, .int se'_7, .ref (pa 0), .ref an, .ref ln])), cE x xv'_7, (x 9, .inr (3, [.ref (x 10), .ref (x 11), .ref (x 12), .ref (x 13), .int (nI xf), .int (nI QX'_7.1)])), (x 10, .inl (cA 0, 12, .inl (xr'_7 0))), (x 11, .inl (cA 0, 12, .inl (xr'_7 1))), (x 12, .inl (cA 0, 12, .inl (xr'_7 2))), (x 13, .inl (cA 0, 48, .inl (xr'_7 3))), cE y yv, (y 9, .inr (3, [.ref (y 10), .ref (y 11), .ref (y 12), .ref (y 13), .int (nI yf), .int (nI QY'_7.1)])), (y 10, .inl (cA 0, 12, .inl (yr'_7 0))), (y 11, .inl (cA 0, 12, .inl (yr'_7 1))), (y 12, .inl (cA 0, 12, .inl (yr'_7 2))), (y 13, .inl (cA 0, 48, .inl (yr'_7 3))), (x 7, .inl (cA 0, 4, .inl g))]) hP hD [0, 1, 2, 3, 4, 5, 6, 7, 8, 9, 10, 11, 12, 14] [13] rfl rfl (by decide) (by decide) hk1 hFc hP1 hD1
      generalize H1 = H at hP hS ⊢
      have hP := hP.sub (ws' := [(o, .inr (4, [.ref F, .ref G, .int lo, .int nw, .int se'_7, .ref (pa 0), .ref an, .ref ln])), cE x xv'_7, (x 9, .inr (3, [.ref (x 10), .ref (x 11), .ref (x 12), .ref (x 13), .int (nI xf), .int (nI QX'_7.1)])), (x 10, .inl (cA 0, 12, .inl (xr'_7 0))), (x 11, .inl (cA 0, 12, .inl (xr'_7 1))), (x 12, .inl (cA 0, 12, .inl (xr'_7 2))), (x 13, .inl (cA 0, 48, .inl (xr'_7 3))), cE y yv, (y 9, .inr (3, [.ref (y 10), .ref (y 11), .ref (y 12), .ref (y 13), .int (nI yf), .int (nI QY'_7.1)])), (y 10, .inl (cA 0, 12, .inl (yr'_7 0))), (y 11, .inl (cA 0, 12, .inl (yr'_7 1))), (y 12, .inl (cA 0, 12, .inl (yr'_7 2))), (y 13, .inl (cA 0, 48, .inl (yr'_7 3))), (x 1, .inl (cA 0, 4, .inl g)), (x 7, .inl (cA 0, 4, .inl g))]) [1, 2, 3, 4, 5, 6, 7, 8, 9, 10, 11, 12, 13, 0, 14] rfl
      have hD := hD.sub (ws' := [(o, .inr (4, [.ref F, .ref G, .int lo, .int nw, .int se'_7, .ref (pa 0), .ref an, .ref ln])), cE x xv'_7, (x 9, .inr (3, [.ref (x 10), .ref (x 11), .ref (x 12), .ref (x 13), .int (nI xf), .int (nI QX'_7.1)])), (x 10, .inl (cA 0, 12, .inl (xr'_7 0))), (x 11, .inl (cA 0, 12, .inl (xr'_7 1))), (x 12, .inl (cA 0, 12, .inl (xr'_7 2))), (x 13, .inl (cA 0, 48, .inl (xr'_7 3))), cE y yv, (y 9, .inr (3, [.ref (y 10), .ref (y 11), .ref (y 12), .ref (y 13), .int (nI yf), .int (nI QY'_7.1)])), (y 10, .inl (cA 0, 12, .inl (yr'_7 0))), (y 11, .inl (cA 0, 12, .inl (yr'_7 1))), (y 12, .inl (cA 0, 12, .inl (yr'_7 2))), (y 13, .inl (cA 0, 48, .inl (yr'_7 3))), (x 1, .inl (cA 0, 4, .inl g)), (x 7, .inl (cA 0, 4, .inl g))]) [1, 2, 3, 4, 5, 6, 7, 8, 9, 10, 11, 12, 13, 0, 14] (by decide) rfl
      clear hPc hDc hFc hP1 hD1 hk1 hz1
      obtain ⟨rfl, rfl, rfl, rfl, hw_7_0, hw_7_1⟩ := hw
      refine W.widen (k := 0) (n := 0) (by omega) (by omega) ?_
      exact W.vret hx hb hr (fun t ht hW => ⟨⟨(((rq lo (upd (upd (upd (upd xv 0 1) 3 10) 1 mk) 5 0) g QX QY se).1), xr'_7, yr'_7, ((rq lo (upd (upd (upd (upd xv 0 1) 3 10) 1 mk) 5 0) g QX QY se).2.1).1, ((rq lo (upd (upd (upd (upd xv 0 1) 3 10) 1 mk) 5 0) g QX QY se).2.1).2, ((rq lo (upd (upd (upd (upd xv 0 1) 3 10) 1 mk) 5 0) g QX QY se).2.2)), rfl, ⟨rfl, rfl, rfl, rfl, by assumption, by assumption⟩, ⟨by rw [ht]; exact hP, by rw [hAe]; exact hD⟩⟩, hS.F ht⟩) hS.2.2 dX3_open_73
    · skip
      exact absurd (Int32.not_lt.mp hmk.2) c_3
set_option maxHeartbeats 4000000 in
set_option maxRecDepth 100000 in
theorem c_X3_open_s (l : Launch) (D : va_G) (cA : Nat → ClassId) (zv : Nat → Nat) (sz : Nat) (hl0 : l.stackTraces = false) (o F G : Nat) (lo nw se : Int32) (pa : Nat → Nat) (an ln : Nat) (x : Nat → Nat) (y0 : Nat) (n : Int32) (xv : Nat → Int32) (mk : Int32) (he : en n F G (x 0) y0) (hmk : inr mk 1 999) (hsh : ¬ sSh (xv 0)) : vx_Met l yX3_open wsX3_open ({ frames := 9, cells := 1, slots := 6, locals := 120 }) (va_Pc [.ref o, .int n, .int mk] (zUX D cA zv sz [(o, .inr (4, [.ref F, .ref G, .int lo, .int nw, .int se, .ref (pa 0), .ref an, .ref ln])), cE x xv])) (va_Qv (fun (_ : Unit) => False) (fun (_ : Unit) _ => True) (va_A [(o, .inr (4, [.ref F, .ref G, .int lo, .int nw, .int se, .ref (pa 0), .ref an, .ref ln])), cE x xv] sz)) (vx_X (fun (_ : Unit) => True) (fun E (_ : Unit) t => E = "java/lang/IllegalStateException" ∧ zB D [(o, .inr (4, [.ref F, .ref G, .int lo, .int nw, .int se, .ref (pa 0), .ref an, .ref ln])), cE x xv] sz [(o, .inr (4, [.ref F, .ref G, .int lo, .int nw, .int se, .ref (pa 0), .ref an, .ref ln])), cE x xv] t) (va_A [(o, .inr (4, [.ref F, .ref G, .int lo, .int nw, .int se, .ref (pa 0), .ref an, .ref ln])), cE x xv] sz)) 1 6 (va_A [(o, .inr (4, [.ref F, .ref G, .int lo, .int nw, .int se, .ref (pa 0), .ref an, .ref ln])), cE x xv] sz) := by
  refine vx_ofW (cc := cX3_open) (maxL := 4) (ret := none) (by decide) rfl ?_
  intro p e s m args below meth c s₁ B hml htab hv
  obtain ⟨rfl, ⟨hsz, hP, hK, hD0, hE0⟩, hX0⟩ := hv
  have hx := B.exec
  have hb := B.bytes
  have hr := B.returns
  have hts := atoms_spec (ws := wsX3_open) B.pre
  have hown : s.vm.findClass RX3 = some m.cls := findClass_of_methodNamed B.named
  have hlocks := B.notSynchronized
  subst hsz
  have hD := hD0.self (sz := s.heap.size)
  generalize hAe : va_A [(o, .inr (4, [.ref F, .ref G, .int lo, .int nw, .int se, .ref (pa 0), .ref an, .ref ln])), cE x xv] s.heap.size = A at hD hE0 hX0 ⊢
  have hA : ∀ q : Nat, s.heap.size ≤ q → A q := fun q h => by rw [← hAe]; exact Or.inr h
  have hS : va_S A s.heap s.heap [] := va_S.rf
  have hl := lv_entry ([.ref o, .int n, .int mk]) (n := 4) (Nat.le_of_ble_eq_true rfl)
  rw [lg_entry_eq]
  generalize (lg_sl ([.ref o, .int n, .int mk]) ++ List.replicate (4 - (lg_sl ([.ref o, .int n, .int mk])).length) Slot.unset).toArray = ls at hl ⊢
  have hl : lv_has ls 4 [(0, .ref o), (1, .int n), (2, .int mk)] := hl
  refine lv_iload_n hx hb dX3_open_0 rfl (lv_at hl 1 rfl) ?_
  have hPc := hP.sub (ws' := []) [] rfl
  have hDc := hD.sub (ws' := []) [] (by decide) rfl
  have hFc := va_free (wc := []) hD hS hA [] rfl
  refine va_callv (va_runS (As := [.int n]) (rest := []) ⟨hx, hb, hml, hown, hts⟩ (c_X3_checkEnd_k l D cA s.heap.size n (en_inr he)) (va_cwS 1 hts gX3_open_X3_checkEnd rfl rfl rfl (by decide +kernel) ⟨Nat.le_of_ble_eq_true rfl, Nat.le_of_ble_eq_true rfl⟩) ⟨zU_blind, fun U hU hW => ⟨rfl, zU_call hU hPc hW.alike hK hDc⟩⟩ rfl rfl hl.1 rfl (lv_room (Nat.le_of_ble_eq_true rfl)) dX3_open_1 ⟨(Nat.zero_le _), (Nat.zero_le _)⟩) hS (fun q _ h => hFc q h) hFc (fun u t H1 locs ht hvm hw hB hz1 hk1 hS => ?_)
  obtain ⟨hP1, hD1⟩ := hB
  rw [ht] at hP1
  obtain ⟨hP, hD⟩ := va_join (wr := [(o, .inr (4, [.ref F, .ref G, .int lo, .int nw, .int se, .ref (pa 0), .ref an, .ref ln])), cE x xv]) (w1 := []) hP hD [] [0, 1] rfl rfl (by decide) (by decide) hk1 hFc hP1 hD1
  generalize H1 = H at hP hS ⊢
  have hP := hP.sub (ws' := [(o, .inr (4, [.ref F, .ref G, .int lo, .int nw, .int se, .ref (pa 0), .ref an, .ref ln])), cE x xv]) [0, 1] rfl
  have hD := hD.sub (ws' := [(o, .inr (4, [.ref F, .ref G, .int lo, .int nw, .int se, .ref (pa 0), .ref an, .ref ln])), cE x xv]) [0, 1] (by decide) rfl
  clear hPc hDc hFc hP1 hD1 hk1 hz1
  have hw_1 := hw
  refine lv_iload_n hx hb dX3_open_4 rfl (lv_at hl 2 rfl) ?_
  refine lv_iconst (v := 1) hx hb dX3_open_5 (by decide) ?_
  refine lv_icmp_lt (tgt := 16) hx hb dX3_open_6 (by decide) (fun c_2 => ?_) (fun c_2 => ?_)
  · skip
    exact absurd c_2 hmk.1
  · skip
    refine lv_iload_n hx hb dX3_open_9 rfl (lv_at hl 2 rfl) ?_
    refine lv_sipush (v := 999) hx hb dX3_open_10 (by decide) ?_
    refine lv_icmp_le (tgt := 26) hx hb dX3_open_13 (by decide) (fun c_3 => ?_) (fun c_3 => ?_)
    · skip
      refine lv_aload_n hx hb dX3_open_26 rfl (lv_at hl 0 rfl) ?_
      refine lv_iload_n hx hb dX3_open_27 rfl (lv_at hl 1 rfl) ?_
      have hPc := hP.sub (ws' := [(o, .inr (4, [.ref F, .ref G, .int lo, .int nw, .int se, .ref (pa 0), .ref an, .ref ln]))]) [0] rfl
      have hDc := hD.sub (ws' := [(o, .inr (4, [.ref F, .ref G, .int lo, .int nw, .int se, .ref (pa 0), .ref an, .ref ln]))]) [0] (by decide) rfl
      have hFc := va_free (wc := [(o, .inr (4, [.ref F, .ref G, .int lo, .int nw, .int se, .ref (pa 0), .ref an, .ref ln]))]) hD hS hA [0] rfl
      refine va_callr (va_runV (As := [.int n]) (rest := []) ⟨hx, hb, hml, hown, hts⟩ (c_X3_endOf l D cA H.size o F G lo nw se pa an ln n (x 0) y0 (by assumption)) (cwV 1 hts gX3_open_X3_endOf rfl rfl rfl (by decide +kernel) ⟨Nat.le_of_ble_eq_true rfl, Nat.le_of_ble_eq_true rfl⟩) ⟨zU_blind, va_recv hK hPc (ci := 4) (q0 := 0) rfl rfl, fun U hU hW => ⟨rfl, zU_call hU hPc hW.alike hK hDc⟩⟩ rfl rfl hl.1 rfl (lv_room (Nat.le_of_ble_eq_true rfl)) dX3_open_28 ⟨(Nat.zero_le _), (Nat.zero_le _)⟩) hS (fun q _ h => hFc q h) hFc (fun u ra t H1 locs ht hvm hw hB hz1 hk1 hS => ?_)
      obtain ⟨hra, hP1, hD1⟩ := hB
      rw [ht] at hP1
      subst ra
      obtain ⟨hP, hD⟩ := va_join (wr := [cE x xv]) (w1 := [(o, .inr (4, [.ref F, .ref G, .int lo, .int nw, .int se, .ref (pa 0), .ref an, .ref ln]))]) hP hD [0] [1] rfl rfl (by decide) (by decide) hk1 hFc hP1 hD1
      generalize H1 = H at hP hS ⊢
      have hP := hP.sub (ws' := [(o, .inr (4, [.ref F, .ref G, .int lo, .int nw, .int se, .ref (pa 0), .ref an, .ref ln])), cE x xv]) [1, 0] rfl
      have hD := hD.sub (ws' := [(o, .inr (4, [.ref F, .ref G, .int lo, .int nw, .int se, .ref (pa 0), .ref an, .ref ln])), cE x xv]) [1, 0] (by decide) rfl
      clear hPc hDc hFc hP1 hD1 hk1 hz1
      have hw_4 := hw
      refine lv_astore_n (lv' := [(3, .ref (x 0)), (0, .ref o), (1, .int n), (2, .int mk)]) hx hb dX3_open_31 rfl hl (by decide) rfl (fun ls hl => ?_)
      refine lv_aload_n hx hb dX3_open_32 rfl (lv_at hl 0 rfl) ?_
      have hPc := hP.sub (ws' := [cE x xv]) [1] rfl
      have hDc := hD.sub (ws' := [cE x xv]) [1] (by decide) rfl
      have hFc := va_free (wc := [cE x xv]) hD hS hA [1] rfl
      refine vx_callv (vx_runS (As := [.ref (x 0)]) (rest := []) ⟨hx, hb, hml, hown, hts⟩ (c_X3_checkShut_t l D cA zv H.size hl0 x xv hsh) (va_cwS 1 hts gX3_open_X3_checkShut rfl rfl rfl (by decide +kernel) ⟨Nat.le_of_ble_eq_true rfl, Nat.le_of_ble_eq_true rfl⟩) ⟨zUX_blind, fun U hU hW => ⟨rfl, zUX_call hE0 hX0 hS hFc hU hPc hW hK hDc⟩⟩ rfl rfl hl.1 rfl (lv_room (Nat.le_of_ble_eq_true rfl)) dX3_open_33 ⟨Nat.le_of_ble_eq_true rfl, Nat.le_of_ble_eq_true rfl⟩) hS (fun q _ h => hFc q h) hFc (fun q _ h => hFc q h) (fun E9 ce9 q9 u t H1 locs ht hvm hpx hB hz1 hk1 hS hcell hcv hcl => ?_) (fun u t H1 locs1 ht hvm hw _ _ _ _ => hw.elim)
      obtain ⟨rfl, hP1, hD1⟩ := hB
      rw [ht] at hP1
      obtain ⟨hP, hD⟩ := va_join (wr := [(o, .inr (4, [.ref F, .ref G, .int lo, .int nw, .int se, .ref (pa 0), .ref an, .ref ln]))]) (w1 := [cE x xv]) hP hD [1] [0] rfl rfl (by decide) (by decide) hk1 hFc hP1 hD1
      have hP := hP.sub (ws' := [(o, .inr (4, [.ref F, .ref G, .int lo, .int nw, .int se, .ref (pa 0), .ref an, .ref ln])), cE x xv]) [0, 1] rfl
      have hD := hD.sub (ws' := [(o, .inr (4, [.ref F, .ref G, .int lo, .int nw, .int se, .ref (pa 0), .ref an, .ref ln])), cE x xv]) [0, 1] (by decide) rfl
      exact vx_out (fun x h => (htab x h).elim) hlocks hcell hcv hcl (fun t2 h7 h8 => z_thrO hP hD hS hAe h7) hS.2.2 (by omega) (by omega)
    · skip
      exact absurd (Int32.not_lt.mp hmk.2) c_3
set_option maxHeartbeats 4000000 in
set_option maxRecDepth 100000 in
theorem c_X3_open_b (l : Launch) (D : va_G) (cA : Nat → ClassId) (zv : Nat → Nat) (sz : Nat) (hl0 : l.stackTraces = false) (o F G : Nat) (lo nw se : Int32) (pa : Nat → Nat) (an ln : Nat) (n mk : Int32) (hbad : ¬ (inr n 0 1 ∧ inr mk 1 999)) : vx_Met l yX3_open wsX3_open ({ frames := 9, cells := 1, slots := 6, locals := 120 }) (va_Pc [.ref o, .int n, .int mk] (zUX D cA zv sz [(o, .inr (4, [.ref F, .ref G, .int lo, .int nw, .int se, .ref (pa 0), .ref an, .ref ln]))])) (va_Qv (fun (_ : Unit) => False) (fun (_ : Unit) _ => True) (va_A [(o, .inr (4, [.ref F, .ref G, .int lo, .int nw, .int se, .ref (pa 0), .ref an, .ref ln]))] sz)) (vx_X (fun (_ : Unit) => True) (fun E (_ : Unit) t => E = "java/lang/IllegalArgumentException" ∧ zB D [(o, .inr (4, [.ref F, .ref G, .int lo, .int nw, .int se, .ref (pa 0), .ref an, .ref ln]))] sz [(o, .inr (4, [.ref F, .ref G, .int lo, .int nw, .int se, .ref (pa 0), .ref an, .ref ln]))] t) (va_A [(o, .inr (4, [.ref F, .ref G, .int lo, .int nw, .int se, .ref (pa 0), .ref an, .ref ln]))] sz)) 1 6 (va_A [(o, .inr (4, [.ref F, .ref G, .int lo, .int nw, .int se, .ref (pa 0), .ref an, .ref ln]))] sz) := by
  refine vx_ofW (cc := cX3_open) (maxL := 4) (ret := none) (by decide) rfl ?_
  intro p e s m args below meth c s₁ B hml htab hv
  obtain ⟨rfl, ⟨hsz, hP, hK, hD0, hE0⟩, hX0⟩ := hv
  have hx := B.exec
  have hb := B.bytes
  have hr := B.returns
  have hts := atoms_spec (ws := wsX3_open) B.pre
  have hown : s.vm.findClass RX3 = some m.cls := findClass_of_methodNamed B.named
  have hlocks := B.notSynchronized
  subst hsz
  have hD := hD0.self (sz := s.heap.size)
  generalize hAe : va_A [(o, .inr (4, [.ref F, .ref G, .int lo, .int nw, .int se, .ref (pa 0), .ref an, .ref ln]))] s.heap.size = A at hD hE0 hX0 ⊢
  have hA : ∀ q : Nat, s.heap.size ≤ q → A q := fun q h => by rw [← hAe]; exact Or.inr h
  have hS : va_S A s.heap s.heap [] := va_S.rf
  have hl := lv_entry ([.ref o, .int n, .int mk]) (n := 4) (Nat.le_of_ble_eq_true rfl)
  rw [lg_entry_eq]
  generalize (lg_sl ([.ref o, .int n, .int mk]) ++ List.replicate (4 - (lg_sl ([.ref o, .int n, .int mk])).length) Slot.unset).toArray = ls at hl ⊢
  have hl : lv_has ls 4 [(0, .ref o), (1, .int n), (2, .int mk)] := hl
  refine lv_iload_n hx hb dX3_open_0 rfl (lv_at hl 1 rfl) ?_
  by_cases q1 : inr n 0 1
  · skip
    have hPc := hP.sub (ws' := []) [] rfl
    have hDc := hD.sub (ws' := []) [] (by decide) rfl
    have hFc := va_free (wc := []) hD hS hA [] rfl
    refine va_callv (va_runS (As := [.int n]) (rest := []) ⟨hx, hb, hml, hown, hts⟩ (c_X3_checkEnd_k l D cA s.heap.size n q1) (va_cwS 1 hts gX3_open_X3_checkEnd rfl rfl rfl (by decide +kernel) ⟨Nat.le_of_ble_eq_true rfl, Nat.le_of_ble_eq_true rfl⟩) ⟨zU_blind, fun U hU hW => ⟨rfl, zU_call hU hPc hW.alike hK hDc⟩⟩ rfl rfl hl.1 rfl (lv_room (Nat.le_of_ble_eq_true rfl)) dX3_open_1 ⟨(Nat.zero_le _), (Nat.zero_le _)⟩) hS (fun q _ h => hFc q h) hFc (fun u t H1 locs ht hvm hw hB hz1 hk1 hS => ?_)
    obtain ⟨hP1, hD1⟩ := hB
    rw [ht] at hP1
    obtain ⟨hP, hD⟩ := va_join (wr := [(o, .inr (4, [.ref F, .ref G, .int lo, .int nw, .int se, .ref (pa 0), .ref an, .ref ln]))]) (w1 := []) hP hD [] [0] rfl rfl (by decide) (by decide) hk1 hFc hP1 hD1
    generalize H1 = H at hP hS ⊢
    have hP := hP.sub (ws' := [(o, .inr (4, [.ref F, .ref G, .int lo, .int nw, .int se, .ref (pa 0), .ref an, .ref ln]))]) [0] rfl
    have hD := hD.sub (ws' := [(o, .inr (4, [.ref F, .ref G, .int lo, .int nw, .int se, .ref (pa 0), .ref an, .ref ln]))]) [0] (by decide) rfl
    clear hPc hDc hFc hP1 hD1 hk1 hz1
    have hw_1 := hw
    refine lv_iload_n hx hb dX3_open_4 rfl (lv_at hl 2 rfl) ?_
    refine lv_iconst (v := 1) hx hb dX3_open_5 (by decide) ?_
    refine lv_icmp_lt (tgt := 16) hx hb dX3_open_6 (by decide) (fun c_2 => ?_) (fun c_2 => ?_)
    · skip
      exact vx_throwS (own := RX3) (cls := "java/lang/IllegalArgumentException") (text := "a mark is 1 to 999") (names := ["java/lang/RuntimeException", "java/lang/Exception"]) (ik := 59) (is := 93) (ic := 63) (sa := zv 6) (A := A) hx hb hl0 hown (by decide +kernel) (by decide +kernel) (hts (.classLink RX3 59 "java/lang/IllegalArgumentException") (List.mem_of_getElem? (i := 1) rfl)) (hts (.initialized "java/lang/IllegalArgumentException") (List.mem_of_getElem? (i := 2) rfl)) (hE0.2.2.2 (93, "a mark is 1 to 999", 6) (by decide +kernel)) (vx_hat (B := Cond.castable "java/lang/IllegalArgumentException" "java/lang/IllegalArgumentException" :: zBd.map Cond.declares) (fun w h => hts w (List.mem_cons_of_mem _ (List.mem_append_left _ (List.mem_append_right _ (h))))) (by decide +kernel) (z_bad hX0 (by decide))) (by decide +kernel) hE0.2.1.1 hE0.2.1.2 hS (hl.1.trans hml.symm) dX3_open_16 dX3_open_19 dX3_open_20 dX3_open_22 dX3_open_25 (fun x h => (htab x h).elim) (Nat.le_of_ble_eq_true rfl) (Nat.le_of_ble_eq_true rfl) (Nat.le_of_ble_eq_true rfl) (Nat.le_of_ble_eq_true rfl) hlocks (fun t h7 h8 h9 => z_thr hP hD hS hAe h8 h9) hS.2.2 (Nat.le_of_ble_eq_true rfl) (Nat.le_of_ble_eq_true rfl)
    · skip
      refine lv_iload_n hx hb dX3_open_9 rfl (lv_at hl 2 rfl) ?_
      refine lv_sipush (v := 999) hx hb dX3_open_10 (by decide) ?_
      refine lv_icmp_le (tgt := 26) hx hb dX3_open_13 (by decide) (fun c_3 => ?_) (fun c_3 => ?_)
      · skip
        exact absurd ⟨q1, c_2, Int32.not_lt.mpr c_3⟩ hbad
      · skip
        exact vx_throwS (own := RX3) (cls := "java/lang/IllegalArgumentException") (text := "a mark is 1 to 999") (names := ["java/lang/RuntimeException", "java/lang/Exception"]) (ik := 59) (is := 93) (ic := 63) (sa := zv 6) (A := A) hx hb hl0 hown (by decide +kernel) (by decide +kernel) (hts (.classLink RX3 59 "java/lang/IllegalArgumentException") (List.mem_of_getElem? (i := 1) rfl)) (hts (.initialized "java/lang/IllegalArgumentException") (List.mem_of_getElem? (i := 2) rfl)) (hE0.2.2.2 (93, "a mark is 1 to 999", 6) (by decide +kernel)) (vx_hat (B := Cond.castable "java/lang/IllegalArgumentException" "java/lang/IllegalArgumentException" :: zBd.map Cond.declares) (fun w h => hts w (List.mem_cons_of_mem _ (List.mem_append_left _ (List.mem_append_right _ (h))))) (by decide +kernel) (z_bad hX0 (by decide))) (by decide +kernel) hE0.2.1.1 hE0.2.1.2 hS (hl.1.trans hml.symm) dX3_open_16 dX3_open_19 dX3_open_20 dX3_open_22 dX3_open_25 (fun x h => (htab x h).elim) (Nat.le_of_ble_eq_true rfl) (Nat.le_of_ble_eq_true rfl) (Nat.le_of_ble_eq_true rfl) (Nat.le_of_ble_eq_true rfl) hlocks (fun t h7 h8 h9 => z_thr hP hD hS hAe h8 h9) hS.2.2 (Nat.le_of_ble_eq_true rfl) (Nat.le_of_ble_eq_true rfl)
  · skip
    have hPc := hP.sub (ws' := []) [] rfl
    have hDc := hD.sub (ws' := []) [] (by decide) rfl
    have hFc := va_free (wc := []) hD hS hA [] rfl
    refine vx_callv (vx_runS (As := [.int n]) (rest := []) ⟨hx, hb, hml, hown, hts⟩ (c_X3_checkEnd_t l D cA zv s.heap.size hl0 n q1) (va_cwS 1 hts gX3_open_X3_checkEnd rfl rfl rfl (by decide +kernel) ⟨Nat.le_of_ble_eq_true rfl, Nat.le_of_ble_eq_true rfl⟩) ⟨zUX_blind, fun U hU hW => ⟨rfl, zUX_call hE0 hX0 hS hFc hU hPc hW hK hDc⟩⟩ rfl rfl hl.1 rfl (lv_room (Nat.le_of_ble_eq_true rfl)) dX3_open_1 ⟨Nat.le_of_ble_eq_true rfl, Nat.le_of_ble_eq_true rfl⟩) hS (fun q _ h => hFc q h) hFc (fun q _ h => hFc q h) (fun E9 ce9 q9 u t H1 locs ht hvm hpx hB hz1 hk1 hS hcell hcv hcl => ?_) (fun u t H1 locs1 ht hvm hw _ _ _ _ => hw.elim)
    obtain ⟨rfl, hP1, hD1⟩ := hB
    rw [ht] at hP1
    obtain ⟨hP, hD⟩ := va_join (wr := [(o, .inr (4, [.ref F, .ref G, .int lo, .int nw, .int se, .ref (pa 0), .ref an, .ref ln]))]) (w1 := []) hP hD [] [0] rfl rfl (by decide) (by decide) hk1 hFc hP1 hD1
    have hP := hP.sub (ws' := [(o, .inr (4, [.ref F, .ref G, .int lo, .int nw, .int se, .ref (pa 0), .ref an, .ref ln]))]) [0] rfl
    have hD := hD.sub (ws' := [(o, .inr (4, [.ref F, .ref G, .int lo, .int nw, .int se, .ref (pa 0), .ref an, .ref ln]))]) [0] (by decide) rfl
    exact vx_out (fun x h => (htab x h).elim) hlocks hcell hcv hcl (fun t2 h7 h8 => z_thrO hP hD hS hAe h7) hS.2.2 (by omega) (by omega)
set_option maxHeartbeats 4000000 in
set_option maxRecDepth 100000 in
/-- close(end) -/
theorem c_X3_close_k (l : Launch) (D : va_G) (cA : Nat → ClassId) (zv : Nat → Nat) (sz : Nat) (o F G : Nat) (lo nw se : Int32) (pa : Nat → Nat) (an ln : Nat) (x y : Nat → Nat) (n : Int32) (xv yv : Nat → Int32) (xr yr : Nat → Nat → Int32) (xf yf : Nat) (QX QY : Qt) (he : en n F G (x 0) (y 0)) (hqx : rg xr xf QX) (hqy : rg yr yf QY) (hup : sUp (xv 0)) : Met l yX3_close wsX3_close ({ frames := 4, cells := 0, slots := 0, locals := 95 }) (va_Pc [.ref o, .int n] (zUE D cA zv sz [(o, .inr (4, [.ref F, .ref G, .int lo, .int nw, .int se, .ref (pa 0), .ref an, .ref ln])), cE x xv, (x 9, .inr (3, [.ref (x 10), .ref (x 11), .ref (x 12), .ref (x 13), .int (nI xf), .int (nI QX.1)])), (x 10, .inl (cA 0, 12, .inl (xr 0))), (x 11, .inl (cA 0, 12, .inl (xr 1))), (x 12, .inl (cA 0, 12, .inl (xr 2))), (x 13, .inl (cA 0, 48, .inl (xr 3))), cE y yv, (y 9, .inr (3, [.ref (y 10), .ref (y 11), .ref (y 12), .ref (y 13), .int (nI yf), .int (nI QY.1)])), (y 10, .inl (cA 0, 12, .inl (yr 0))), (y 11, .inl (cA 0, 12, .inl (yr 1))), (y 12, .inl (cA 0, 12, .inl (yr 2))), (y 13, .inl (cA 0, 48, .inl (yr 3)))])) (va_Qv (fun (u : ((Nat → Int32) × (Nat → Nat → Int32) × (Nat → Nat → Int32) × Qt × Qt × Int32)) => u.1 = upd (upd (upd xv 0 5) 6 1) 4 2 ∧ u.2.2.2.1 = (sq lo (pk 4 0 0 nB) QX QY).1 ∧ u.2.2.2.2.1 = (sq lo (pk 4 0 0 nB) QX QY).2 ∧ u.2.2.2.2.2 = se + 1 ∧ rg u.2.1 xf u.2.2.2.1 ∧ rg u.2.2.1 yf u.2.2.2.2.1) (fun (u : ((Nat → Int32) × (Nat → Nat → Int32) × (Nat → Nat → Int32) × Qt × Qt × Int32)) t => zB D [(o, .inr (4, [.ref F, .ref G, .int lo, .int nw, .int se, .ref (pa 0), .ref an, .ref ln])), cE x xv, (x 9, .inr (3, [.ref (x 10), .ref (x 11), .ref (x 12), .ref (x 13), .int (nI xf), .int (nI QX.1)])), (x 10, .inl (cA 0, 12, .inl (xr 0))), (x 11, .inl (cA 0, 12, .inl (xr 1))), (x 12, .inl (cA 0, 12, .inl (xr 2))), (x 13, .inl (cA 0, 48, .inl (xr 3))), cE y yv, (y 9, .inr (3, [.ref (y 10), .ref (y 11), .ref (y 12), .ref (y 13), .int (nI yf), .int (nI QY.1)])), (y 10, .inl (cA 0, 12, .inl (yr 0))), (y 11, .inl (cA 0, 12, .inl (yr 1))), (y 12, .inl (cA 0, 12, .inl (yr 2))), (y 13, .inl (cA 0, 48, .inl (yr 3)))] sz [(o, .inr (4, [.ref F, .ref G, .int lo, .int nw, .int u.2.2.2.2.2, .ref (pa 0), .ref an, .ref ln])), cE x u.1, (x 9, .inr (3, [.ref (x 10), .ref (x 11), .ref (x 12), .ref (x 13), .int (nI xf), .int (nI u.2.2.2.1.1)])), (x 10, .inl (cA 0, 12, .inl (u.2.1 0))), (x 11, .inl (cA 0, 12, .inl (u.2.1 1))), (x 12, .inl (cA 0, 12, .inl (u.2.1 2))), (x 13, .inl (cA 0, 48, .inl (u.2.1 3))), cE y yv, (y 9, .inr (3, [.ref (y 10), .ref (y 11), .ref (y 12), .ref (y 13), .int (nI yf), .int (nI u.2.2.2.2.1.1)])), (y 10, .inl (cA 0, 12, .inl (u.2.2.1 0))), (y 11, .inl (cA 0, 12, .inl (u.2.2.1 1))), (y 12, .inl (cA 0, 12, .inl (u.2.2.1 2))), (y 13, .inl (cA 0, 48, .inl (u.2.2.1 3)))] t) (va_A [(o, .inr (4, [.ref F, .ref G, .int lo, .int nw, .int se, .ref (pa 0), .ref an, .ref ln])), cE x xv, (x 9, .inr (3, [.ref (x 10), .ref (x 11), .ref (x 12), .ref (x 13), .int (nI xf), .int (nI QX.1)])), (x 10, .inl (cA 0, 12, .inl (xr 0))), (x 11, .inl (cA 0, 12, .inl (xr 1))), (x 12, .inl (cA 0, 12, .inl (xr 2))), (x 13, .inl (cA 0, 48, .inl (xr 3))), cE y yv, (y 9, .inr (3, [.ref (y 10), .ref (y 11), .ref (y 12), .ref (y 13), .int (nI yf), .int (nI QY.1)])), (y 10, .inl (cA 0, 12, .inl (yr 0))), (y 11, .inl (cA 0, 12, .inl (yr 1))), (y 12, .inl (cA 0, 12, .inl (yr 2))), (y 13, .inl (cA 0, 48, .inl (yr 3)))] sz)) 0 0 (va_A [(o, .inr (4, [.ref F, .ref G, .int lo, .int nw, .int se, .ref (pa 0), .ref an, .ref ln])), cE x xv, (x 9, .inr (3, [.ref (x 10), .ref (x 11), .ref (x 12), .ref (x 13), .int (nI xf), .int (nI QX.1)])), (x 10, .inl (cA 0, 12, .inl (xr 0))), (x 11, .inl (cA 0, 12, .inl (xr 1))), (x 12, .inl (cA 0, 12, .inl (xr 2))), (x 13, .inl (cA 0, 48, .inl (xr 3))), cE y yv, (y 9, .inr (3, [.ref (y 10), .ref (y 11), .ref (y 12), .ref (y 13), .int (nI yf), .int (nI QY.1)])), (y 10, .inl (cA 0, 12, .inl (yr 0))), (y 11, .inl (cA 0, 12, .inl (yr 1))), (y 12, .inl (cA 0, 12, .inl (yr 2))), (y 13, .inl (cA 0, 48, .inl (yr 3)))] sz) := by
  refine Met.ofW (cc := cX3_close) (maxL := 3) (ret := none) (by decide) rfl ?_
  intro p e s m args below meth c s₁ B hml hv
  obtain ⟨rfl, hsz, hP, hK, hD0, hE0⟩ := hv
  have hx := B.exec
  have hb := B.bytes
  have hr := B.returns
  have hts := atoms_spec (ws := wsX3_close) B.pre
  have hown : s.vm.findClass RX3 = some m.cls := findClass_of_methodNamed B.named
  have hlocks := B.notSynchronized
  subst hsz
  have hD := hD0.self (sz := s.heap.size)
  generalize hAe : va_A [(o, .inr (4, [.ref F, .ref G, .int lo, .int nw, .int se, .ref (pa 0), .ref an, .ref ln])), cE x xv, (x 9, .inr (3, [.ref (x 10), .ref (x 11), .ref (x 12), .ref (x 13), .int (nI xf), .int (nI QX.1)])), (x 10, .inl (cA 0, 12, .inl (xr 0))), (x 11, .inl (cA 0, 12, .inl (xr 1))), (x 12, .inl (cA 0, 12, .inl (xr 2))), (x 13, .inl (cA 0, 48, .inl (xr 3))), cE y yv, (y 9, .inr (3, [.ref (y 10), .ref (y 11), .ref (y 12), .ref (y 13), .int (nI yf), .int (nI QY.1)])), (y 10, .inl (cA 0, 12, .inl (yr 0))), (y 11, .inl (cA 0, 12, .inl (yr 1))), (y 12, .inl (cA 0, 12, .inl (yr 2))), (y 13, .inl (cA 0, 48, .inl (yr 3)))] s.heap.size = A at hD hE0 ⊢
  have hA : ∀ q : Nat, s.heap.size ≤ q → A q := fun q h => by rw [← hAe]; exact Or.inr h
  have hS : va_S A s.heap s.heap [] := va_S.rf
  have hl := lv_entry ([.ref o, .int n]) (n := 3) (Nat.le_of_ble_eq_true rfl)
  rw [lg_entry_eq]
  generalize (lg_sl ([.ref o, .int n]) ++ List.replicate (3 - (lg_sl ([.ref o, .int n])).length) Slot.unset).toArray = ls at hl ⊢
  have hl : lv_has ls 3 [(0, .ref o), (1, .int n)] := hl
  refine lv_iload_n hx hb dX3_close_0 rfl (lv_at hl 1 rfl) ?_
  have hPc := hP.sub (ws' := []) [] rfl
  have hDc := hD.sub (ws' := []) [] (by decide) rfl
  have hFc := va_free (wc := []) hD hS hA [] rfl
  refine va_callv (va_runS (As := [.int n]) (rest := []) ⟨hx, hb, hml, hown, hts⟩ (c_X3_checkEnd_k l D cA s.heap.size n (en_inr he)) (va_cwS 1 hts gX3_close_X3_checkEnd rfl rfl rfl (by decide +kernel) ⟨Nat.le_of_ble_eq_true rfl, Nat.le_of_ble_eq_true rfl⟩) ⟨zU_blind, fun U hU hW => ⟨rfl, zU_call hU hPc hW.alike hK hDc⟩⟩ rfl rfl hl.1 rfl (lv_room (Nat.le_of_ble_eq_true rfl)) dX3_close_1 ⟨(Nat.zero_le _), (Nat.zero_le _)⟩) hS (fun q _ h => hFc q h) hFc (fun u t H1 locs ht hvm hw hB hz1 hk1 hS => ?_)
  obtain ⟨hP1, hD1⟩ := hB
  rw [ht] at hP1
  obtain ⟨hP, hD⟩ := va_join (wr := [(o, .inr (4, [.ref F, .ref G, .int lo, .int nw, .int se, .ref (pa 0), .ref an, .ref ln])), cE x xv, (x 9, .inr (3, [.ref (x 10), .ref (x 11), .ref (x 12), .ref (x 13), .int (nI xf), .int (nI QX.1)])), (x 10, .inl (cA 0, 12, .inl (xr 0))), (x 11, .inl (cA 0, 12, .inl (xr 1))), (x 12, .inl (cA 0, 12, .inl (xr 2))), (x 13, .inl (cA 0, 48, .inl (xr 3))), cE y yv, (y 9, .inr (3, [.ref (y 10), .ref (y 11), .ref (y 12), .ref (y 13), .int (nI yf), .int (nI QY.1)])), (y 10, .inl (cA 0, 12, .inl (yr 0))), (y 11, .inl (cA 0, 12, .inl (yr 1))), (y 12, .inl (cA 0, 12, .inl (yr 2))), (y 13, .inl (cA 0, 48, .inl (yr 3)))]) (w1 := []) hP hD [] [0, 1, 2, 3, 4, 5, 6, 7, 8, 9, 10, 11, 12] rfl rfl (by decide) (by decide) hk1 hFc hP1 hD1
  generalize H1 = H at hP hS ⊢
  have hP := hP.sub (ws' := [(o, .inr (4, [.ref F, .ref G, .int lo, .int nw, .int se, .ref (pa 0), .ref an, .ref ln])), cE x xv, (x 9, .inr (3, [.ref (x 10), .ref (x 11), .ref (x 12), .ref (x 13), .int (nI xf), .int (nI QX.1)])), (x 10, .inl (cA 0, 12, .inl (xr 0))), (x 11, .inl (cA 0, 12, .inl (xr 1))), (x 12, .inl (cA 0, 12, .inl (xr 2))), (x 13, .inl (cA 0, 48, .inl (xr 3))), cE y yv, (y 9, .inr (3, [.ref (y 10), .ref (y 11), .ref (y 12), .ref (y 13), .int (nI yf), .int (nI QY.1)])), (y 10, .inl (cA 0, 12, .inl (yr 0))), (y 11, .inl (cA 0, 12, .inl (yr 1))), (y 12, .inl (cA 0, 12, .inl (yr 2))), (y 13, .inl (cA 0, 48, .inl (yr 3)))]) [0, 1, 2, 3, 4, 5, 6, 7, 8, 9, 10, 11, 12] rfl
  have hD := hD.sub (ws' := [(o, .inr (4, [.ref F, .ref G, .int lo, .int nw, .int se, .ref (pa 0), .ref an, .ref ln])), cE x xv, (x 9, .inr (3, [.ref (x 10), .ref (x 11), .ref (x 12), .ref (x 13), .int (nI xf), .int (nI QX.1)])), (x 10, .inl (cA 0, 12, .inl (xr 0))), (x 11, .inl (cA 0, 12, .inl (xr 1))), (x 12, .inl (cA 0, 12, .inl (xr 2))), (x 13, .inl (cA 0, 48, .inl (xr 3))), cE y yv, (y 9, .inr (3, [.ref (y 10), .ref (y 11), .ref (y 12), .ref (y 13), .int (nI yf), .int (nI QY.1)])), (y 10, .inl (cA 0, 12, .inl (yr 0))), (y 11, .inl (cA 0, 12, .inl (yr 1))), (y 12, .inl (cA 0, 12, .inl (yr 2))), (y 13, .inl (cA 0, 48, .inl (yr 3)))]) [0, 1, 2, 3, 4, 5, 6, 7, 8, 9, 10, 11, 12] (by decide) rfl
  clear hPc hDc hFc hP1 hD1 hk1 hz1
  have hw_1 := hw
  refine lv_aload_n hx hb dX3_close_4 rfl (lv_at hl 0 rfl) ?_
  refine lv_iload_n hx hb dX3_close_5 rfl (lv_at hl 1 rfl) ?_
  have hPc := hP.sub (ws' := [(o, .inr (4, [.ref F, .ref G, .int lo, .int nw, .int se, .ref (pa 0), .ref an, .ref ln]))]) [0] rfl
  have hDc := hD.sub (ws' := [(o, .inr (4, [.ref F, .ref G, .int lo, .int nw, .int se, .ref (pa 0), .ref an, .ref ln]))]) [0] (by decide) rfl
  have hFc := va_free (wc := [(o, .inr (4, [.ref F, .ref G, .int lo, .int nw, .int se, .ref (pa 0), .ref an, .ref ln]))]) hD hS hA [0] rfl
  refine va_callr (va_runV (As := [.int n]) (rest := []) ⟨hx, hb, hml, hown, hts⟩ (c_X3_endOf l D cA H.size o F G lo nw se pa an ln n (x 0) (y 0) (by first | exact he | exact en_flip he)) (cwV 1 hts gX3_close_X3_endOf rfl rfl rfl (by decide +kernel) ⟨Nat.le_of_ble_eq_true rfl, Nat.le_of_ble_eq_true rfl⟩) ⟨zU_blind, va_recv hK hPc (ci := 4) (q0 := 0) rfl rfl, fun U hU hW => ⟨rfl, zU_call hU hPc hW.alike hK hDc⟩⟩ rfl rfl hl.1 rfl (lv_room (Nat.le_of_ble_eq_true rfl)) dX3_close_6 ⟨(Nat.zero_le _), (Nat.zero_le _)⟩) hS (fun q _ h => hFc q h) hFc (fun u ra t H1 locs ht hvm hw hB hz1 hk1 hS => ?_)
  obtain ⟨hra, hP1, hD1⟩ := hB
  rw [ht] at hP1
  subst ra
  obtain ⟨hP, hD⟩ := va_join (wr := [cE x xv, (x 9, .inr (3, [.ref (x 10), .ref (x 11), .ref (x 12), .ref (x 13), .int (nI xf), .int (nI QX.1)])), (x 10, .inl (cA 0, 12, .inl (xr 0))), (x 11, .inl (cA 0, 12, .inl (xr 1))), (x 12, .inl (cA 0, 12, .inl (xr 2))), (x 13, .inl (cA 0, 48, .inl (xr 3))), cE y yv, (y 9, .inr (3, [.ref (y 10), .ref (y 11), .ref (y 12), .ref (y 13), .int (nI yf), .int (nI QY.1)])), (y 10, .inl (cA 0, 12, .inl (yr 0))), (y 11, .inl (cA 0, 12, .inl (yr 1))), (y 12, .inl (cA 0, 12, .inl (yr 2))), (y 13, .inl (cA 0, 48, .inl (yr 3)))]) (w1 := [(o, .inr (4, [.ref F, .ref G, .int lo, .int nw, .int se, .ref (pa 0), .ref an, .ref ln]))]) hP hD [0] [1, 2, 3, 4, 5, 6, 7, 8, 9, 10, 11, 12] rfl rfl (by decide) (by decide) hk1 hFc hP1 hD1
  generalize H1 = H at hP hS ⊢
  have hP := hP.sub (ws' := [(o, .inr (4, [.ref F, .ref G, .int lo, .int nw, .int se, .ref (pa 0), .ref an, .ref ln])), cE x xv, (x 9, .inr (3, [.ref (x 10), .ref (x 11), .ref (x 12), .ref (x 13), .int (nI xf), .int (nI QX.1)])), (x 10, .inl (cA 0, 12, .inl (xr 0))), (x 11, .inl (cA 0, 12, .inl (xr 1))), (x 12, .inl (cA 0, 12, .inl (xr 2))), (x 13, .inl (cA 0, 48, .inl (xr 3))), cE y yv, (y 9, .inr (3, [.ref (y 10), .ref (y 11), .ref (y 12), .ref (y 13), .int (nI yf), .int (nI QY.1)])), (y 10, .inl (cA 0, 12, .inl (yr 0))), (y 11, .inl (cA 0, 12, .inl (yr 1))), (y 12, .inl (cA 0, 12, .inl (yr 2))), (y 13, .inl (cA 0, 48, .inl (yr 3)))]) [12, 0, 1, 2, 3, 4, 5, 6, 7, 8, 9, 10, 11] rfl
  have hD := hD.sub (ws' := [(o, .inr (4, [.ref F, .ref G, .int lo, .int nw, .int se, .ref (pa 0), .ref an, .ref ln])), cE x xv, (x 9, .inr (3, [.ref (x 10), .ref (x 11), .ref (x 12), .ref (x 13), .int (nI xf), .int (nI QX.1)])), (x 10, .inl (cA 0, 12, .inl (xr 0))), (x 11, .inl (cA 0, 12, .inl (xr 1))), (x 12, .inl (cA 0, 12, .inl (xr 2))), (x 13, .inl (cA 0, 48, .inl (xr 3))), cE y yv, (y 9, .inr (3, [.ref (y 10), .ref (y 11), .ref (y 12), .ref (y 13), .int (nI yf), .int (nI QY.1)])), (y 10, .inl (cA 0, 12, .inl (yr 0))), (y 11, .inl (cA 0, 12, .inl (yr 1))), (y 12, .inl (cA 0, 12, .inl (yr 2))), (y 13, .inl (cA 0, 48, .inl (yr 3)))]) [12, 0, 1, 2, 3, 4, 5, 6, 7, 8, 9, 10, 11] (by decide) rfl
  clear hPc hDc hFc hP1 hD1 hk1 hz1
  have hw_2 := hw
  refine lv_astore_n (lv' := [(2, .ref (x 0)), (0, .ref o), (1, .int n)]) hx hb dX3_close_9 rfl hl (by decide) rfl (fun ls hl => ?_)
  refine lv_aload_n hx hb dX3_close_10 rfl (lv_at hl 0 rfl) ?_
  have hPc := hP.sub (ws' := [cE x xv]) [1] rfl
  have hDc := hD.sub (ws' := [cE x xv]) [1] (by decide) rfl
  have hFc := va_free (wc := [cE x xv]) hD hS hA [1] rfl
  refine va_calli (va_runV (As := []) (rest := []) ⟨hx, hb, hml, hown, hts⟩ (c_X0_isUp l D cA H.size x xv) (cwV 0 hts gX3_close_X0_isUp rfl rfl rfl (by decide +kernel) ⟨Nat.le_of_ble_eq_true rfl, Nat.le_of_ble_eq_true rfl⟩) ⟨zU_blind, va_recv hK hPc (ci := 1) (q0 := 0) rfl rfl, fun U hU hW => ⟨rfl, zU_call hU hPc hW.alike hK hDc⟩⟩ rfl rfl hl.1 rfl (lv_room (Nat.le_of_ble_eq_true rfl)) dX3_close_11 ⟨(Nat.zero_le _), (Nat.zero_le _)⟩) hS (fun q _ h => hFc q h) hFc (fun zr u t H1 locs ht hvm hw hB hz1 hk1 hS => ?_)
  obtain ⟨hP1, hD1⟩ := hB
  rw [ht] at hP1
  obtain ⟨hP, hD⟩ := va_join (wr := [(o, .inr (4, [.ref F, .ref G, .int lo, .int nw, .int se, .ref (pa 0), .ref an, .ref ln])), (x 9, .inr (3, [.ref (x 10), .ref (x 11), .ref (x 12), .ref (x 13), .int (nI xf), .int (nI QX.1)])), (x 10, .inl (cA 0, 12, .inl (xr 0))), (x 11, .inl (cA 0, 12, .inl (xr 1))), (x 12, .inl (cA 0, 12, .inl (xr 2))), (x 13, .inl (cA 0, 48, .inl (xr 3))), cE y yv, (y 9, .inr (3, [.ref (y 10), .ref (y 11), .ref (y 12), .ref (y 13), .int (nI yf), .int (nI QY.1)])), (y 10, .inl (cA 0, 12, .inl (yr 0))), (y 11, .inl (cA 0, 12, .inl (yr 1))), (y 12, .inl (cA 0, 12, .inl (yr 2))), (y 13, .inl (cA 0, 48, .inl (yr 3)))]) (w1 := [cE x xv]) hP hD [1] [0, 2, 3, 4, 5, 6, 7, 8, 9, 10, 11, 12] rfl rfl (by decide) (by decide) hk1 hFc hP1 hD1
  generalize H1 = H at hP hS ⊢
  have hP := hP.sub (ws' := [(o, .inr (4, [.ref F, .ref G, .int lo, .int nw, .int se, .ref (pa 0), .ref an, .ref ln])), cE x xv, (x 9, .inr (3, [.ref (x 10), .ref (x 11), .ref (x 12), .ref (x 13), .int (nI xf), .int (nI QX.1)])), (x 10, .inl (cA 0, 12, .inl (xr 0))), (x 11, .inl (cA 0, 12, .inl (xr 1))), (x 12, .inl (cA 0, 12, .inl (xr 2))), (x 13, .inl (cA 0, 48, .inl (xr 3))), cE y yv, (y 9, .inr (3, [.ref (y 10), .ref (y 11), .ref (y 12), .ref (y 13), .int (nI yf), .int (nI QY.1)])), (y 10, .inl (cA 0, 12, .inl (yr 0))), (y 11, .inl (cA 0, 12, .inl (yr 1))), (y 12, .inl (cA 0, 12, .inl (yr 2))), (y 13, .inl (cA 0, 48, .inl (yr 3)))]) [0, 12, 1, 2, 3, 4, 5, 6, 7, 8, 9, 10, 11] rfl
  have hD := hD.sub (ws' := [(o, .inr (4, [.ref F, .ref G, .int lo, .int nw, .int se, .ref (pa 0), .ref an, .ref ln])), cE x xv, (x 9, .inr (3, [.ref (x 10), .ref (x 11), .ref (x 12), .ref (x 13), .int (nI xf), .int (nI QX.1)])), (x 10, .inl (cA 0, 12, .inl (xr 0))), (x 11, .inl (cA 0, 12, .inl (xr 1))), (x 12, .inl (cA 0, 12, .inl (xr 2))), (x 13, .inl (cA 0, 48, .inl (xr 3))), cE y yv, (y 9, .inr (3, [.ref (y 10), .ref (y 11), .ref (y 12), .ref (y 13), .int (nI yf), .int (nI QY.1)])), (y 10, .inl (cA 0, 12, .inl (yr 0))), (y 11, .inl (cA 0, 12, .inl (yr 1))), (y 12, .inl (cA 0, 12, .inl (yr 2))), (y 13, .inl (cA 0, 48, .inl (yr 3)))]) [0, 12, 1, 2, 3, 4, 5, 6, 7, 8, 9, 10, 11] (by decide) rfl
  clear hPc hDc hFc hP1 hD1 hk1 hz1
  have hw_3 := hw
  rcases z_bool hw with ⟨h_3, rfl⟩ | ⟨h_3, rfl⟩
  · skip
    refine lv_if_ne (tgt := 27) hx hb dX3_close_14 (by decide) (fun _ => ?_) (fun c_4 => absurd c_4 (by decide))
    refine lv_aload_n hx hb dX3_close_27 rfl (lv_at hl 0 rfl) ?_
    refine lv_iconst (v := 5) hx hb dX3_close_28 (by decide) ?_
    refine va_put (D := D) (ci := 1) (v := .int 5) (ty := .int) (C := RX0) (T := TX0) (N := 16) hx hb hts (fun _ h => List.mem_cons_of_mem _ (List.mem_append_left _ (List.mem_append_left _ (List.mem_append_left _ (List.mem_append_left _ (List.mem_append_right _ (h))))))) tyX0 tyX0_ok nmX0 hown hK hP hD hS 1 rfl rfl 9 (by decide) (hts (.fieldLink RX3 95 "OptionWire$End" "state" "I") (List.mem_of_getElem? (i := 3) rfl)) (fun _ h9 => h9) rfl (by decide +kernel) rfl rfl (Nat.le_of_ble_eq_true rfl) dX3_close_29 (fun H locs hP hD hS => ?_)
    have hP : va_P D vwCl [(o, .inr (4, [.ref F, .ref G, .int lo, .int nw, .int se, .ref (pa 0), .ref an, .ref ln])), cE x (upd xv 0 5), (x 9, .inr (3, [.ref (x 10), .ref (x 11), .ref (x 12), .ref (x 13), .int (nI xf), .int (nI QX.1)])), (x 10, .inl (cA 0, 12, .inl (xr 0))), (x 11, .inl (cA 0, 12, .inl (xr 1))), (x 12, .inl (cA 0, 12, .inl (xr 2))), (x 13, .inl (cA 0, 48, .inl (xr 3))), cE y yv, (y 9, .inr (3, [.ref (y 10), .ref (y 11), .ref (y 12), .ref (y 13), .int (nI yf), .int (nI QY.1)])), (y 10, .inl (cA 0, 12, .inl (yr 0))), (y 11, .inl (cA 0, 12, .inl (yr 1))), (y 12, .inl (cA 0, 12, .inl (yr 2))), (y 13, .inl (cA 0, 48, .inl (yr 3)))] H := hP
    have hD : va_D A [(o, .inr (4, [.ref F, .ref G, .int lo, .int nw, .int se, .ref (pa 0), .ref an, .ref ln])), cE x (upd xv 0 5), (x 9, .inr (3, [.ref (x 10), .ref (x 11), .ref (x 12), .ref (x 13), .int (nI xf), .int (nI QX.1)])), (x 10, .inl (cA 0, 12, .inl (xr 0))), (x 11, .inl (cA 0, 12, .inl (xr 1))), (x 12, .inl (cA 0, 12, .inl (xr 2))), (x 13, .inl (cA 0, 48, .inl (xr 3))), cE y yv, (y 9, .inr (3, [.ref (y 10), .ref (y 11), .ref (y 12), .ref (y 13), .int (nI yf), .int (nI QY.1)])), (y 10, .inl (cA 0, 12, .inl (yr 0))), (y 11, .inl (cA 0, 12, .inl (yr 1))), (y 12, .inl (cA 0, 12, .inl (yr 2))), (y 13, .inl (cA 0, 48, .inl (yr 3)))] := hD
    refine lv_aload_n hx hb dX3_close_32 rfl (lv_at hl 0 rfl) ?_
    refine lv_iconst (v := 0) hx hb dX3_close_33 (by decide) ?_
    refine va_put (D := D) (ci := 1) (v := .int 0) (ty := .int) (C := RX0) (T := TX0) (N := 16) hx hb hts (fun _ h => List.mem_cons_of_mem _ (List.mem_append_left _ (List.mem_append_left _ (List.mem_append_left _ (List.mem_append_left _ (List.mem_append_right _ (h))))))) tyX0 tyX0_ok nmX0 hown hK hP hD hS 1 rfl rfl 15 (by decide) (hts (.fieldLink RX3 126 "OptionWire$End" "byes" "I") (List.mem_of_getElem? (i := 4) rfl)) (fun _ h9 => h9) rfl (by decide +kernel) rfl rfl (Nat.le_of_ble_eq_true rfl) dX3_close_34 (fun H locs hP hD hS => ?_)
    have hP : va_P D vwCl [(o, .inr (4, [.ref F, .ref G, .int lo, .int nw, .int se, .ref (pa 0), .ref an, .ref ln])), cE x (upd (upd xv 0 5) 6 0), (x 9, .inr (3, [.ref (x 10), .ref (x 11), .ref (x 12), .ref (x 13), .int (nI xf), .int (nI QX.1)])), (x 10, .inl (cA 0, 12, .inl (xr 0))), (x 11, .inl (cA 0, 12, .inl (xr 1))), (x 12, .inl (cA 0, 12, .inl (xr 2))), (x 13, .inl (cA 0, 48, .inl (xr 3))), cE y yv, (y 9, .inr (3, [.ref (y 10), .ref (y 11), .ref (y 12), .ref (y 13), .int (nI yf), .int (nI QY.1)])), (y 10, .inl (cA 0, 12, .inl (yr 0))), (y 11, .inl (cA 0, 12, .inl (yr 1))), (y 12, .inl (cA 0, 12, .inl (yr 2))), (y 13, .inl (cA 0, 48, .inl (yr 3)))] H := hP
    have hD : va_D A [(o, .inr (4, [.ref F, .ref G, .int lo, .int nw, .int se, .ref (pa 0), .ref an, .ref ln])), cE x (upd (upd xv 0 5) 6 0), (x 9, .inr (3, [.ref (x 10), .ref (x 11), .ref (x 12), .ref (x 13), .int (nI xf), .int (nI QX.1)])), (x 10, .inl (cA 0, 12, .inl (xr 0))), (x 11, .inl (cA 0, 12, .inl (xr 1))), (x 12, .inl (cA 0, 12, .inl (xr 2))), (x 13, .inl (cA 0, 48, .inl (xr 3))), cE y yv, (y 9, .inr (3, [.ref (y 10), .ref (y 11), .ref (y 12), .ref (y 13), .int (nI yf), .int (nI QY.1)])), (y 10, .inl (cA 0, 12, .inl (yr 0))), (y 11, .inl (cA 0, 12, .inl (yr 1))), (y 12, .inl (cA 0, 12, .inl (yr 2))), (y 13, .inl (cA 0, 48, .inl (yr 3)))] := hD
    refine lv_aload_n hx hb dX3_close_37 rfl (lv_at hl 1 rfl) ?_
    refine lv_iload_n hx hb dX3_close_38 rfl (lv_at hl 2 rfl) ?_
    have hPc := hP.sub (ws' := [(o, .inr (4, [.ref F, .ref G, .int lo, .int nw, .int se, .ref (pa 0), .ref an, .ref ln])), cE x (upd (upd xv 0 5) 6 0), (x 9, .inr (3, [.ref (x 10), .ref (x 11), .ref (x 12), .ref (x 13), .int (nI xf), .int (nI QX.1)])), (x 10, .inl (cA 0, 12, .inl (xr 0))), (x 11, .inl (cA 0, 12, .inl (xr 1))), (x 12, .inl (cA 0, 12, .inl (xr 2))), (x 13, .inl (cA 0, 48, .inl (xr 3))), cE y yv, (y 9, .inr (3, [.ref (y 10), .ref (y 11), .ref (y 12), .ref (y 13), .int (nI yf), .int (nI QY.1)])), (y 10, .inl (cA 0, 12, .inl (yr 0))), (y 11, .inl (cA 0, 12, .inl (yr 1))), (y 12, .inl (cA 0, 12, .inl (yr 2))), (y 13, .inl (cA 0, 48, .inl (yr 3)))]) [0, 1, 2, 3, 4, 5, 6, 7, 8, 9, 10, 11, 12] rfl
    have hDc := hD.sub (ws' := [(o, .inr (4, [.ref F, .ref G, .int lo, .int nw, .int se, .ref (pa 0), .ref an, .ref ln])), cE x (upd (upd xv 0 5) 6 0), (x 9, .inr (3, [.ref (x 10), .ref (x 11), .ref (x 12), .ref (x 13), .int (nI xf), .int (nI QX.1)])), (x 10, .inl (cA 0, 12, .inl (xr 0))), (x 11, .inl (cA 0, 12, .inl (xr 1))), (x 12, .inl (cA 0, 12, .inl (xr 2))), (x 13, .inl (cA 0, 48, .inl (xr 3))), cE y yv, (y 9, .inr (3, [.ref (y 10), .ref (y 11), .ref (y 12), .ref (y 13), .int (nI yf), .int (nI QY.1)])), (y 10, .inl (cA 0, 12, .inl (yr 0))), (y 11, .inl (cA 0, 12, .inl (yr 1))), (y 12, .inl (cA 0, 12, .inl (yr 2))), (y 13, .inl (cA 0, 48, .inl (yr 3)))]) [0, 1, 2, 3, 4, 5, 6, 7, 8, 9, 10, 11, 12] (by decide) rfl
    have hFc := va_free (wc := [(o, .inr (4, [.ref F, .ref G, .int lo, .int nw, .int se, .ref (pa 0), .ref an, .ref ln])), cE x (upd (upd xv 0 5) 6 0), (x 9, .inr (3, [.ref (x 10), .ref (x 11), .ref (x 12), .ref (x 13), .int (nI xf), .int (nI QX.1)])), (x 10, .inl (cA 0, 12, .inl (xr 0))), (x 11, .inl (cA 0, 12, .inl (xr 1))), (x 12, .inl (cA 0, 12, .inl (xr 2))), (x 13, .inl (cA 0, 48, .inl (xr 3))), cE y yv, (y 9, .inr (3, [.ref (y 10), .ref (y 11), .ref (y 12), .ref (y 13), .int (nI yf), .int (nI QY.1)])), (y 10, .inl (cA 0, 12, .inl (yr 0))), (y 11, .inl (cA 0, 12, .inl (yr 1))), (y 12, .inl (cA 0, 12, .inl (yr 2))), (y 13, .inl (cA 0, 48, .inl (yr 3)))]) hD hS hA [0, 1, 2, 3, 4, 5, 6, 7, 8, 9, 10, 11, 12] rfl
    refine va_callv (va_runV (As := [.int n]) (rest := []) ⟨hx, hb, hml, hown, hts⟩ (c_X3_sendBye l D cA zv H.size o F G lo nw se pa an ln x y n (upd (upd xv 0 5) 6 0) yv xr yr xf yf QX QY (by first | exact he | exact en_flip he) (by assumption) (by assumption)) (cwV 1 hts gX3_close_X3_sendBye rfl rfl rfl (by decide +kernel) ⟨Nat.le_of_ble_eq_true rfl, Nat.le_of_ble_eq_true rfl⟩) ⟨zUE_blind, va_recv hK hPc (ci := 4) (q0 := 0) rfl rfl, fun U hU hW => ⟨rfl, zUE_call hE0 hS hFc hU hPc hW hK hDc⟩⟩ rfl rfl hl.1 rfl (lv_room (Nat.le_of_ble_eq_true rfl)) dX3_close_39 ⟨(Nat.zero_le _), (Nat.zero_le _)⟩) hS (fun q _ h => hFc q h) hFc (fun u t H1 locs ht hvm hw hB hz1 hk1 hS => ?_)
    obtain ⟨xv'_5, xr'_5, yr'_5, QX'_5, QY'_5, se'_5⟩ := u
    obtain ⟨hP1, hD1⟩ := hB
    rw [ht] at hP1
    try dsimp only at hw hP1 hD1
    obtain ⟨hP, hD⟩ := va_join (wr := []) (w1 := [(o, .inr (4, [.ref F, .ref G, .int lo, .int nw, .int se'_5, .ref (pa 0), .ref an, .ref ln])), cE x xv'_5, (x 9, .inr (3, [.ref (x 10), .ref (x 11), .ref (x 12), .ref (x 13), .int (nI xf), .int (nI QX'_5.1)])), (x 10, .inl (cA 0, 12, .inl (xr'_5 0))), (x 11, .inl (cA 0, 12, .inl (xr'_5 1))), (x 12, .inl (cA 0, 12, .inl (xr'_5 2))), (x 13, .inl (cA 0, 48, .inl (xr'_5 3))), cE y yv, (y 9, .inr (3, [.ref (y 10), .ref (y 11), .ref (y 12), .ref (y 13), .int (nI yf), .int (nI QY'_5.1)])), (y 10, .inl (cA 0, 12, .inl (yr'_5 0))), (y 11, .inl (cA 0, 12, .inl (yr'_5 1))), (y 12, .inl (cA 0, 12, .inl (yr'_5 2))), (y 13, .inl (cA 0, 48, .inl (yr'_5 3)))]) hP hD [0, 1, 2, 3, 4, 5, 6, 7, 8, 9, 10, 11, 12] [] rfl rfl (by decide) (by decide) hk1 hFc hP1 hD1
    generalize H1 = H at hP hS ⊢
    have hP := hP.sub (ws' := [(o, .inr (4, [.ref F, .ref G, .int lo, .int nw, .int se'_5, .ref (pa 0), .ref an, .ref ln])), cE x xv'_5, (x 9, .inr (3, [.ref (x 10), .ref (x 11), .ref (x 12), .ref (x 13), .int (nI xf), .int (nI QX'_5.1)])), (x 10, .inl (cA 0, 12, .inl (xr'_5 0))), (x 11, .inl (cA 0, 12, .inl (xr'_5 1))), (x 12, .inl (cA 0, 12, .inl (xr'_5 2))), (x 13, .inl (cA 0, 48, .inl (xr'_5 3))), cE y yv, (y 9, .inr (3, [.ref (y 10), .ref (y 11), .ref (y 12), .ref (y 13), .int (nI yf), .int (nI QY'_5.1)])), (y 10, .inl (cA 0, 12, .inl (yr'_5 0))), (y 11, .inl (cA 0, 12, .inl (yr'_5 1))), (y 12, .inl (cA 0, 12, .inl (yr'_5 2))), (y 13, .inl (cA 0, 48, .inl (yr'_5 3)))]) [0, 1, 2, 3, 4, 5, 6, 7, 8, 9, 10, 11, 12] rfl
    have hD := hD.sub (ws' := [(o, .inr (4, [.ref F, .ref G, .int lo, .int nw, .int se'_5, .ref (pa 0), .ref an, .ref ln])), cE x xv'_5, (x 9, .inr (3, [.ref (x 10), .ref (x 11), .ref (x 12), .ref (x 13), .int (nI xf), .int (nI QX'_5.1)])), (x 10, .inl (cA 0, 12, .inl (xr'_5 0))), (x 11, .inl (cA 0, 12, .inl (xr'_5 1))), (x 12, .inl (cA 0, 12, .inl (xr'_5 2))), (x 13, .inl (cA 0, 48, .inl (xr'_5 3))), cE y yv, (y 9, .inr (3, [.ref (y 10), .ref (y 11), .ref (y 12), .ref (y 13), .int (nI yf), .int (nI QY'_5.1)])), (y 10, .inl (cA 0, 12, .inl (yr'_5 0))), (y 11, .inl (cA 0, 12, .inl (yr'_5 1))), (y 12, .inl (cA 0, 12, .inl (yr'_5 2))), (y 13, .inl (cA 0, 48, .inl (yr'_5 3)))]) [0, 1, 2, 3, 4, 5, 6, 7, 8, 9, 10, 11, 12] (by decide) rfl
    clear hPc hDc hFc hP1 hD1 hk1 hz1
    obtain ⟨rfl, rfl, rfl, rfl, hw_5_0, hw_5_1⟩ := hw
    refine W.widen (k := 0) (n := 0) (by omega) (by omega) ?_
    exact W.vret hx hb hr (fun t ht hW => ⟨⟨((byV (upd (upd xv 0 5) 6 0)), xr'_5, yr'_5, (sq lo (pk 4 0 0 nB) QX QY).1, (sq lo (pk 4 0 0 nB) QX QY).2, (se + 1)), rfl, ⟨upd_cl, rfl, rfl, rfl, by assumption, by assumption⟩, ⟨by rw [ht]; exact hP, by rw [hAe]; exact hD⟩⟩, hS.F ht⟩) hS.2.2 dX3_close_42
  · exact absurd hup h_3
set_option maxHeartbeats 4000000 in
set_option maxRecDepth 100000 in
theorem c_X3_close_s (l : Launch) (D : va_G) (cA : Nat → ClassId) (zv : Nat → Nat) (sz : Nat) (hl0 : l.stackTraces = false) (o F G : Nat) (lo nw se : Int32) (pa : Nat → Nat) (an ln : Nat) (x : Nat → Nat) (y0 : Nat) (n : Int32) (xv : Nat → Int32)  (he : en n F G (x 0) y0) (hup : ¬ sUp (xv 0)) : vx_Met l yX3_close wsX3_close ({ frames := 8, cells := 1, slots := 6, locals := 100 }) (va_Pc [.ref o, .int n] (zUX D cA zv sz [(o, .inr (4, [.ref F, .ref G, .int lo, .int nw, .int se, .ref (pa 0), .ref an, .ref ln])), cE x xv])) (va_Qv (fun (_ : Unit) => False) (fun (_ : Unit) _ => True) (va_A [(o, .inr (4, [.ref F, .ref G, .int lo, .int nw, .int se, .ref (pa 0), .ref an, .ref ln])), cE x xv] sz)) (vx_X (fun (_ : Unit) => True) (fun E (_ : Unit) t => E = "java/lang/IllegalStateException" ∧ zB D [(o, .inr (4, [.ref F, .ref G, .int lo, .int nw, .int se, .ref (pa 0), .ref an, .ref ln])), cE x xv] sz [(o, .inr (4, [.ref F, .ref G, .int lo, .int nw, .int se, .ref (pa 0), .ref an, .ref ln])), cE x xv] t) (va_A [(o, .inr (4, [.ref F, .ref G, .int lo, .int nw, .int se, .ref (pa 0), .ref an, .ref ln])), cE x xv] sz)) 1 6 (va_A [(o, .inr (4, [.ref F, .ref G, .int lo, .int nw, .int se, .ref (pa 0), .ref an, .ref ln])), cE x xv] sz) := by
  refine vx_ofW (cc := cX3_close) (maxL := 3) (ret := none) (by decide) rfl ?_
  intro p e s m args below meth c s₁ B hml htab hv
  obtain ⟨rfl, ⟨hsz, hP, hK, hD0, hE0⟩, hX0⟩ := hv
  have hx := B.exec
  have hb := B.bytes
  have hr := B.returns
  have hts := atoms_spec (ws := wsX3_close) B.pre
  have hown : s.vm.findClass RX3 = some m.cls := findClass_of_methodNamed B.named
  have hlocks := B.notSynchronized
  subst hsz
  have hD := hD0.self (sz := s.heap.size)
  generalize hAe : va_A [(o, .inr (4, [.ref F, .ref G, .int lo, .int nw, .int se, .ref (pa 0), .ref an, .ref ln])), cE x xv] s.heap.size = A at hD hE0 hX0 ⊢
  have hA : ∀ q : Nat, s.heap.size ≤ q → A q := fun q h => by rw [← hAe]; exact Or.inr h
  have hS : va_S A s.heap s.heap [] := va_S.rf
  have hl := lv_entry ([.ref o, .int n]) (n := 3) (Nat.le_of_ble_eq_true rfl)
  rw [lg_entry_eq]
  generalize (lg_sl ([.ref o, .int n]) ++ List.replicate (3 - (lg_sl ([.ref o, .int n])).length) Slot.unset).toArray = ls at hl ⊢
  have hl : lv_has ls 3 [(0, .ref o), (1, .int n)] := hl
  refine lv_iload_n hx hb dX3_close_0 rfl (lv_at hl 1 rfl) ?_
  have hPc := hP.sub (ws' := []) [] rfl
  have hDc := hD.sub (ws' := []) [] (by decide) rfl
  have hFc := va_free (wc := []) hD hS hA [] rfl
  refine va_callv (va_runS (As := [.int n]) (rest := []) ⟨hx, hb, hml, hown, hts⟩ (c_X3_checkEnd_k l D cA s.heap.size n (en_inr he)) (va_cwS 1 hts gX3_close_X3_checkEnd rfl rfl rfl (by decide +kernel) ⟨Nat.le_of_ble_eq_true rfl, Nat.le_of_ble_eq_true rfl⟩) ⟨zU_blind, fun U hU hW => ⟨rfl, zU_call hU hPc hW.alike hK hDc⟩⟩ rfl rfl hl.1 rfl (lv_room (Nat.le_of_ble_eq_true rfl)) dX3_close_1 ⟨(Nat.zero_le _), (Nat.zero_le _)⟩) hS (fun q _ h => hFc q h) hFc (fun u t H1 locs ht hvm hw hB hz1 hk1 hS => ?_)
  obtain ⟨hP1, hD1⟩ := hB
  rw [ht] at hP1
  obtain ⟨hP, hD⟩ := va_join (wr := [(o, .inr (4, [.ref F, .ref G, .int lo, .int nw, .int se, .ref (pa 0), .ref an, .ref ln])), cE x xv]) (w1 := []) hP hD [] [0, 1] rfl rfl (by decide) (by decide) hk1 hFc hP1 hD1
  generalize H1 = H at hP hS ⊢
  have hP := hP.sub (ws' := [(o, .inr (4, [.ref F, .ref G, .int lo, .int nw, .int se, .ref (pa 0), .ref an, .ref ln])), cE x xv]) [0, 1] rfl
  have hD := hD.sub (ws' := [(o, .inr (4, [.ref F, .ref G, .int lo, .int nw, .int se, .ref (pa 0), .ref an, .ref ln])), cE x xv]) [0, 1] (by decide) rfl
  clear hPc hDc hFc hP1 hD1 hk1 hz1
  have hw_1 := hw
  refine lv_aload_n hx hb dX3_close_4 rfl (lv_at hl 0 rfl) ?_
  refine lv_iload_n hx hb dX3_close_5 rfl (lv_at hl 1 rfl) ?_
  have hPc := hP.sub (ws' := [(o, .inr (4, [.ref F, .ref G, .int lo, .int nw, .int se, .ref (pa 0), .ref an, .ref ln]))]) [0] rfl
  have hDc := hD.sub (ws' := [(o, .inr (4, [.ref F, .ref G, .int lo, .int nw, .int se, .ref (pa 0), .ref an, .ref ln]))]) [0] (by decide) rfl
  have hFc := va_free (wc := [(o, .inr (4, [.ref F, .ref G, .int lo, .int nw, .int se, .ref (pa 0), .ref an, .ref ln]))]) hD hS hA [0] rfl
  refine va_callr (va_runV (As := [.int n]) (rest := []) ⟨hx, hb, hml, hown, hts⟩ (c_X3_endOf l D cA H.size o F G lo nw se pa an ln n (x 0) y0 (by assumption)) (cwV 1 hts gX3_close_X3_endOf rfl rfl rfl (by decide +kernel) ⟨Nat.le_of_ble_eq_true rfl, Nat.le_of_ble_eq_true rfl⟩) ⟨zU_blind, va_recv hK hPc (ci := 4) (q0 := 0) rfl rfl, fun U hU hW => ⟨rfl, zU_call hU hPc hW.alike hK hDc⟩⟩ rfl rfl hl.1 rfl (lv_room (Nat.le_of_ble_eq_true rfl)) dX3_close_6 ⟨(Nat.zero_le _), (Nat.zero_le _)⟩) hS (fun q _ h => hFc q h) hFc (fun u ra t H1 locs ht hvm hw hB hz1 hk1 hS => ?_)
  obtain ⟨hra, hP1, hD1⟩ := hB
  rw [ht] at hP1
  subst ra
  obtain ⟨hP, hD⟩ := va_join (wr := [cE x xv]) (w1 := [(o, .inr (4, [.ref F, .ref G, .int lo, .int nw, .int se, .ref (pa 0), .ref an, .ref ln]))]) hP hD [0] [1] rfl rfl (by decide) (by decide) hk1 hFc hP1 hD1
  generalize H1 = H at hP hS ⊢
  have hP := hP.sub (ws' := [(o, .inr (4, [.ref F, .ref G, .int lo, .int nw, .int se, .ref (pa 0), .ref an, .ref ln])), cE x xv]) [1, 0] rfl
  have hD := hD.sub (ws' := [(o, .inr (4, [.ref F, .ref G, .int lo, .int nw, .int se, .ref (pa 0), .ref an, .ref ln])), cE x xv]) [1, 0] (by decide) rfl
  clear hPc hDc hFc hP1 hD1 hk1 hz1
  have hw_2 := hw
  refine lv_astore_n (lv' := [(2, .ref (x 0)), (0, .ref o), (1, .int n)]) hx hb dX3_close_9 rfl hl (by decide) rfl (fun ls hl => ?_)
  refine lv_aload_n hx hb dX3_close_10 rfl (lv_at hl 0 rfl) ?_
  have hPc := hP.sub (ws' := [cE x xv]) [1] rfl
  have hDc := hD.sub (ws' := [cE x xv]) [1] (by decide) rfl
  have hFc := va_free (wc := [cE x xv]) hD hS hA [1] rfl
  refine va_calli (va_runV (As := []) (rest := []) ⟨hx, hb, hml, hown, hts⟩ (c_X0_isUp l D cA H.size x xv) (cwV 0 hts gX3_close_X0_isUp rfl rfl rfl (by decide +kernel) ⟨Nat.le_of_ble_eq_true rfl, Nat.le_of_ble_eq_true rfl⟩) ⟨zU_blind, va_recv hK hPc (ci := 1) (q0 := 0) rfl rfl, fun U hU hW => ⟨rfl, zU_call hU hPc hW.alike hK hDc⟩⟩ rfl rfl hl.1 rfl (lv_room (Nat.le_of_ble_eq_true rfl)) dX3_close_11 ⟨(Nat.zero_le _), (Nat.zero_le _)⟩) hS (fun q _ h => hFc q h) hFc (fun zr u t H1 locs ht hvm hw hB hz1 hk1 hS => ?_)
  obtain ⟨hP1, hD1⟩ := hB
  rw [ht] at hP1
  obtain ⟨hP, hD⟩ := va_join (wr := [(o, .inr (4, [.ref F, .ref G, .int lo, .int nw, .int se, .ref (pa 0), .ref an, .ref ln]))]) (w1 := [cE x xv]) hP hD [1] [0] rfl rfl (by decide) (by decide) hk1 hFc hP1 hD1
  generalize H1 = H at hP hS ⊢
  have hP := hP.sub (ws' := [(o, .inr (4, [.ref F, .ref G, .int lo, .int nw, .int se, .ref (pa 0), .ref an, .ref ln])), cE x xv]) [0, 1] rfl
  have hD := hD.sub (ws' := [(o, .inr (4, [.ref F, .ref G, .int lo, .int nw, .int se, .ref (pa 0), .ref an, .ref ln])), cE x xv]) [0, 1] (by decide) rfl
  clear hPc hDc hFc hP1 hD1 hk1 hz1
  have hw_3 := hw
  rcases z_bool hw with ⟨h_3, rfl⟩ | ⟨h_3, rfl⟩
  · exact absurd h_3 hup
  · skip
    refine lv_if_ne (tgt := 27) hx hb dX3_close_14 (by decide) (fun c_4 => absurd c_4 (by decide)) (fun _ => ?_)
    exact vx_throwS (own := RX3) (cls := "java/lang/IllegalStateException") (text := "the end is shut or CLOSING") (names := ["java/lang/RuntimeException", "java/lang/Exception"]) (ik := 121) (is := 123) (ic := 125) (sa := zv 7) (A := A) hx hb hl0 hown (by decide +kernel) (by decide +kernel) (hts (.classLink RX3 121 "java/lang/IllegalStateException") (List.mem_of_getElem? (i := 1) rfl)) (hts (.initialized "java/lang/IllegalStateException") (List.mem_of_getElem? (i := 2) rfl)) (hE0.2.2.2 (123, "the end is shut or CLOSING", 7) (by decide +kernel)) (vx_hat (B := Cond.castable "java/lang/IllegalStateException" "java/lang/IllegalStateException" :: zBd.map Cond.declares) (fun w h => hts w (List.mem_cons_of_mem _ (List.mem_append_left _ (List.mem_append_right _ (h))))) (by decide +kernel) (z_bad hX0 (by decide))) (by decide +kernel) hE0.2.1.1 hE0.2.1.2 hS (hl.1.trans hml.symm) dX3_close_17 dX3_close_20 dX3_close_21 dX3_close_23 dX3_close_26 (fun x h => (htab x h).elim) (Nat.le_of_ble_eq_true rfl) (Nat.le_of_ble_eq_true rfl) (Nat.le_of_ble_eq_true rfl) (Nat.le_of_ble_eq_true rfl) hlocks (fun t h7 h8 h9 => z_thr hP hD hS hAe h8 h9) hS.2.2 (Nat.le_of_ble_eq_true rfl) (Nat.le_of_ble_eq_true rfl)
set_option maxHeartbeats 4000000 in
set_option maxRecDepth 100000 in
theorem c_X3_close_b (l : Launch) (D : va_G) (cA : Nat → ClassId) (zv : Nat → Nat) (sz : Nat) (hl0 : l.stackTraces = false) (o F G : Nat) (lo nw se : Int32) (pa : Nat → Nat) (an ln : Nat) (n  : Int32) (hbad : ¬ inr n 0 1) : vx_Met l yX3_close wsX3_close ({ frames := 9, cells := 1, slots := 6, locals := 120 }) (va_Pc [.ref o, .int n] (zUX D cA zv sz [(o, .inr (4, [.ref F, .ref G, .int lo, .int nw, .int se, .ref (pa 0), .ref an, .ref ln]))])) (va_Qv (fun (_ : Unit) => False) (fun (_ : Unit) _ => True) (va_A [(o, .inr (4, [.ref F, .ref G, .int lo, .int nw, .int se, .ref (pa 0), .ref an, .ref ln]))] sz)) (vx_X (fun (_ : Unit) => True) (fun E (_ : Unit) t => E = "java/lang/IllegalArgumentException" ∧ zB D [(o, .inr (4, [.ref F, .ref G, .int lo, .int nw, .int se, .ref (pa 0), .ref an, .ref ln]))] sz [(o, .inr (4, [.ref F, .ref G, .int lo, .int nw, .int se, .ref (pa 0), .ref an, .ref ln]))] t) (va_A [(o, .inr (4, [.ref F, .ref G, .int lo, .int nw, .int se, .ref (pa 0), .ref an, .ref ln]))] sz)) 1 6 (va_A [(o, .inr (4, [.ref F, .ref G, .int lo, .int nw, .int se, .ref (pa 0), .ref an, .ref ln]))] sz) := by
  refine vx_ofW (cc := cX3_close) (maxL := 3) (ret := none) (by decide) rfl ?_
  intro p e s m args below meth c s₁ B hml htab hv
  obtain ⟨rfl, ⟨hsz, hP, hK, hD0, hE0⟩, hX0⟩ := hv
  have hx := B.exec
  have hb := B.bytes
  have hr := B.returns
  have hts := atoms_spec (ws := wsX3_close) B.pre
  have hown : s.vm.findClass RX3 = some m.cls := findClass_of_methodNamed B.named
  have hlocks := B.notSynchronized
  subst hsz
  have hD := hD0.self (sz := s.heap.size)
  generalize hAe : va_A [(o, .inr (4, [.ref F, .ref G, .int lo, .int nw, .int se, .ref (pa 0), .ref an, .ref ln]))] s.heap.size = A at hD hE0 hX0 ⊢
  have hA : ∀ q : Nat, s.heap.size ≤ q → A q := fun q h => by rw [← hAe]; exact Or.inr h
  have hS : va_S A s.heap s.heap [] := va_S.rf
  have hl := lv_entry ([.ref o, .int n]) (n := 3) (Nat.le_of_ble_eq_true rfl)
  rw [lg_entry_eq]
  generalize (lg_sl ([.ref o, .int n]) ++ List.replicate (3 - (lg_sl ([.ref o, .int n])).length) Slot.unset).toArray = ls at hl ⊢
  have hl : lv_has ls 3 [(0, .ref o), (1, .int n)] := hl
  refine lv_iload_n hx hb dX3_close_0 rfl (lv_at hl 1 rfl) ?_
  have hPc := hP.sub (ws' := []) [] rfl
  have hDc := hD.sub (ws' := []) [] (by decide) rfl
  have hFc := va_free (wc := []) hD hS hA [] rfl
  refine vx_callv (vx_runS (As := [.int n]) (rest := []) ⟨hx, hb, hml, hown, hts⟩ (c_X3_checkEnd_t l D cA zv s.heap.size hl0 n hbad) (va_cwS 1 hts gX3_close_X3_checkEnd rfl rfl rfl (by decide +kernel) ⟨Nat.le_of_ble_eq_true rfl, Nat.le_of_ble_eq_true rfl⟩) ⟨zUX_blind, fun U hU hW => ⟨rfl, zUX_call hE0 hX0 hS hFc hU hPc hW hK hDc⟩⟩ rfl rfl hl.1 rfl (lv_room (Nat.le_of_ble_eq_true rfl)) dX3_close_1 ⟨Nat.le_of_ble_eq_true rfl, Nat.le_of_ble_eq_true rfl⟩) hS (fun q _ h => hFc q h) hFc (fun q _ h => hFc q h) (fun E9 ce9 q9 u t H1 locs ht hvm hpx hB hz1 hk1 hS hcell hcv hcl => ?_) (fun u t H1 locs1 ht hvm hw _ _ _ _ => hw.elim)
  obtain ⟨rfl, hP1, hD1⟩ := hB
  rw [ht] at hP1
  obtain ⟨hP, hD⟩ := va_join (wr := [(o, .inr (4, [.ref F, .ref G, .int lo, .int nw, .int se, .ref (pa 0), .ref an, .ref ln]))]) (w1 := []) hP hD [] [0] rfl rfl (by decide) (by decide) hk1 hFc hP1 hD1
  have hP := hP.sub (ws' := [(o, .inr (4, [.ref F, .ref G, .int lo, .int nw, .int se, .ref (pa 0), .ref an, .ref ln]))]) [0] rfl
  have hD := hD.sub (ws' := [(o, .inr (4, [.ref F, .ref G, .int lo, .int nw, .int se, .ref (pa 0), .ref an, .ref ln]))]) [0] (by decide) rfl
  exact vx_out (fun x h => (htab x h).elim) hlocks hcell hcv hcl (fun t2 h7 h8 => z_thrO hP hD hS hAe h7) hS.2.2 (by omega) (by omega)
set_option maxHeartbeats 4000000 in
set_option maxRecDepth 100000 in
/-- deliver(end), a packet waits -/
theorem c_X3_deliver_k (l : Launch) (D : va_G) (cA : Nat → ClassId) (zv : Nat → Nat) (sz : Nat) (o F G : Nat) (lo nw se : Int32) (pa : Nat → Nat) (an ln : Nat) (x y : Nat → Nat) (n : Int32) (xv yv : Nat → Int32) (xr yr : Nat → Nat → Int32) (xf yf : Nat) (QX QY : Qt) (xd : Nat → Nat → Int32) (kd nb mk : Int32) (w : Nat → Int32) (g : Nat → Int32) (he : en n F G (x 0) (y 0)) (hqx : rg xr xf QX) (hqy : rg yr yf QY) (h0 : 0 < QX.1) : Met l yX3_deliver wsX3_deliver ({ frames := 6, cells := 0, slots := 0, locals := 141 }) (va_Pc [.ref o, .int n] (zUE D cA zv sz [(o, .inr (4, [.ref F, .ref G, .int lo, .int nw, .int se, .ref (pa 0), .ref an, .ref ln])), cE x xv, (x 1, .inl (cA 0, 4, .inl (xd 0))), (x 2, .inl (cA 0, 4, .inl (xd 1))), (x 3, .inl (cA 0, 4, .inl (xd 2))), (x 4, .inl (cA 0, 4, .inl (xd 3))), (x 5, .inl (cA 0, 4, .inl (xd 4))), (x 6, .inl (cA 1, 4, .inl (xd 5))), (x 7, .inl (cA 0, 4, .inl (xd 6))), (x 8, .inl (cA 0, 4, .inl (xd 7))), (x 9, .inr (3, [.ref (x 10), .ref (x 11), .ref (x 12), .ref (x 13), .int (nI xf), .int (nI QX.1)])), (x 10, .inl (cA 0, 12, .inl (xr 0))), (x 11, .inl (cA 0, 12, .inl (xr 1))), (x 12, .inl (cA 0, 12, .inl (xr 2))), (x 13, .inl (cA 0, 48, .inl (xr 3))), cE y yv, (y 9, .inr (3, [.ref (y 10), .ref (y 11), .ref (y 12), .ref (y 13), .int (nI yf), .int (nI QY.1)])), (y 10, .inl (cA 0, 12, .inl (yr 0))), (y 11, .inl (cA 0, 12, .inl (yr 1))), (y 12, .inl (cA 0, 12, .inl (yr 2))), (y 13, .inl (cA 0, 48, .inl (yr 3))), (pa 0, .inr (2, [.ref (pa 1), .int kd, .int nb, .int mk])), (pa 1, .inl (cA 0, 4, .inl w)), (an, .inl (cA 0, 4, .inl g))])) (va_Qi (fun (r : Int32) (u : ((Nat → Int32) × (Nat → Nat → Int32) × (Nat → Int32) × Nat × (Nat → Nat → Int32) × (Nat → Nat → Int32) × Qt × Qt × Int32)) => u.1 = ((hea lo (QX.2 0 0) (QX.2 0 1) (QX.2 0 2) (fun k => QX.2 0 (3 + k)) xv xd (pop QX) QY se)).1 ∧ u.2.1 = ((hea lo (QX.2 0 0) (QX.2 0 1) (QX.2 0 2) (fun k => QX.2 0 (3 + k)) xv xd (pop QX) QY se)).2.1 ∧ u.2.2.2.2.2.2.1 = ((hea lo (QX.2 0 0) (QX.2 0 1) (QX.2 0 2) (fun k => QX.2 0 (3 + k)) xv xd (pop QX) QY se)).2.2.1.1 ∧ u.2.2.2.2.2.2.2.1 = ((hea lo (QX.2 0 0) (QX.2 0 1) (QX.2 0 2) (fun k => QX.2 0 (3 + k)) xv xd (pop QX) QY se)).2.2.1.2 ∧ u.2.2.2.2.2.2.2.2 = ((hea lo (QX.2 0 0) (QX.2 0 1) (QX.2 0 2) (fun k => QX.2 0 (3 + k)) xv xd (pop QX) QY se)).2.2.2 ∧ rg u.2.2.2.2.1 u.2.2.2.1 u.2.2.2.2.2.2.1 ∧ rg u.2.2.2.2.2.1 yf u.2.2.2.2.2.2.2.1 ∧ r = QX.2 0 0) (fun (u : ((Nat → Int32) × (Nat → Nat → Int32) × (Nat → Int32) × Nat × (Nat → Nat → Int32) × (Nat → Nat → Int32) × Qt × Qt × Int32)) t => zB D [(o, .inr (4, [.ref F, .ref G, .int lo, .int nw, .int se, .ref (pa 0), .ref an, .ref ln])), cE x xv, (x 1, .inl (cA 0, 4, .inl (xd 0))), (x 2, .inl (cA 0, 4, .inl (xd 1))), (x 3, .inl (cA 0, 4, .inl (xd 2))), (x 4, .inl (cA 0, 4, .inl (xd 3))), (x 5, .inl (cA 0, 4, .inl (xd 4))), (x 6, .inl (cA 1, 4, .inl (xd 5))), (x 7, .inl (cA 0, 4, .inl (xd 6))), (x 8, .inl (cA 0, 4, .inl (xd 7))), (x 9, .inr (3, [.ref (x 10), .ref (x 11), .ref (x 12), .ref (x 13), .int (nI xf), .int (nI QX.1)])), (x 10, .inl (cA 0, 12, .inl (xr 0))), (x 11, .inl (cA 0, 12, .inl (xr 1))), (x 12, .inl (cA 0, 12, .inl (xr 2))), (x 13, .inl (cA 0, 48, .inl (xr 3))), cE y yv, (y 9, .inr (3, [.ref (y 10), .ref (y 11), .ref (y 12), .ref (y 13), .int (nI yf), .int (nI QY.1)])), (y 10, .inl (cA 0, 12, .inl (yr 0))), (y 11, .inl (cA 0, 12, .inl (yr 1))), (y 12, .inl (cA 0, 12, .inl (yr 2))), (y 13, .inl (cA 0, 48, .inl (yr 3))), (pa 0, .inr (2, [.ref (pa 1), .int kd, .int nb, .int mk])), (pa 1, .inl (cA 0, 4, .inl w)), (an, .inl (cA 0, 4, .inl g))] sz [(o, .inr (4, [.ref F, .ref G, .int lo, .int nw, .int u.2.2.2.2.2.2.2.2, .ref (pa 0), .ref an, .ref ln])), cE x u.1, (x 1, .inl (cA 0, 4, .inl (u.2.1 0))), (x 2, .inl (cA 0, 4, .inl (u.2.1 1))), (x 3, .inl (cA 0, 4, .inl (u.2.1 2))), (x 4, .inl (cA 0, 4, .inl (u.2.1 3))), (x 5, .inl (cA 0, 4, .inl (u.2.1 4))), (x 6, .inl (cA 1, 4, .inl (u.2.1 5))), (x 7, .inl (cA 0, 4, .inl (u.2.1 6))), (x 8, .inl (cA 0, 4, .inl (u.2.1 7))), (x 9, .inr (3, [.ref (x 10), .ref (x 11), .ref (x 12), .ref (x 13), .int (nI u.2.2.2.1), .int (nI u.2.2.2.2.2.2.1.1)])), (x 10, .inl (cA 0, 12, .inl (u.2.2.2.2.1 0))), (x 11, .inl (cA 0, 12, .inl (u.2.2.2.2.1 1))), (x 12, .inl (cA 0, 12, .inl (u.2.2.2.2.1 2))), (x 13, .inl (cA 0, 48, .inl (u.2.2.2.2.1 3))), cE y yv, (y 9, .inr (3, [.ref (y 10), .ref (y 11), .ref (y 12), .ref (y 13), .int (nI yf), .int (nI u.2.2.2.2.2.2.2.1.1)])), (y 10, .inl (cA 0, 12, .inl (u.2.2.2.2.2.1 0))), (y 11, .inl (cA 0, 12, .inl (u.2.2.2.2.2.1 1))), (y 12, .inl (cA 0, 12, .inl (u.2.2.2.2.2.1 2))), (y 13, .inl (cA 0, 48, .inl (u.2.2.2.2.2.1 3))), (pa 0, .inr (2, [.ref (pa 1), .int (QX.2 0 0), .int (QX.2 0 1), .int (QX.2 0 2)])), (pa 1, .inl (cA 0, 4, .inl (fun k => QX.2 0 (3 + k)))), (an, .inl (cA 0, 4, .inl u.2.2.1))] t) (va_A [(o, .inr (4, [.ref F, .ref G, .int lo, .int nw, .int se, .ref (pa 0), .ref an, .ref ln])), cE x xv, (x 1, .inl (cA 0, 4, .inl (xd 0))), (x 2, .inl (cA 0, 4, .inl (xd 1))), (x 3, .inl (cA 0, 4, .inl (xd 2))), (x 4, .inl (cA 0, 4, .inl (xd 3))), (x 5, .inl (cA 0, 4, .inl (xd 4))), (x 6, .inl (cA 1, 4, .inl (xd 5))), (x 7, .inl (cA 0, 4, .inl (xd 6))), (x 8, .inl (cA 0, 4, .inl (xd 7))), (x 9, .inr (3, [.ref (x 10), .ref (x 11), .ref (x 12), .ref (x 13), .int (nI xf), .int (nI QX.1)])), (x 10, .inl (cA 0, 12, .inl (xr 0))), (x 11, .inl (cA 0, 12, .inl (xr 1))), (x 12, .inl (cA 0, 12, .inl (xr 2))), (x 13, .inl (cA 0, 48, .inl (xr 3))), cE y yv, (y 9, .inr (3, [.ref (y 10), .ref (y 11), .ref (y 12), .ref (y 13), .int (nI yf), .int (nI QY.1)])), (y 10, .inl (cA 0, 12, .inl (yr 0))), (y 11, .inl (cA 0, 12, .inl (yr 1))), (y 12, .inl (cA 0, 12, .inl (yr 2))), (y 13, .inl (cA 0, 48, .inl (yr 3))), (pa 0, .inr (2, [.ref (pa 1), .int kd, .int nb, .int mk])), (pa 1, .inl (cA 0, 4, .inl w)), (an, .inl (cA 0, 4, .inl g))] sz)) 0 0 (va_A [(o, .inr (4, [.ref F, .ref G, .int lo, .int nw, .int se, .ref (pa 0), .ref an, .ref ln])), cE x xv, (x 1, .inl (cA 0, 4, .inl (xd 0))), (x 2, .inl (cA 0, 4, .inl (xd 1))), (x 3, .inl (cA 0, 4, .inl (xd 2))), (x 4, .inl (cA 0, 4, .inl (xd 3))), (x 5, .inl (cA 0, 4, .inl (xd 4))), (x 6, .inl (cA 1, 4, .inl (xd 5))), (x 7, .inl (cA 0, 4, .inl (xd 6))), (x 8, .inl (cA 0, 4, .inl (xd 7))), (x 9, .inr (3, [.ref (x 10), .ref (x 11), .ref (x 12), .ref (x 13), .int (nI xf), .int (nI QX.1)])), (x 10, .inl (cA 0, 12, .inl (xr 0))), (x 11, .inl (cA 0, 12, .inl (xr 1))), (x 12, .inl (cA 0, 12, .inl (xr 2))), (x 13, .inl (cA 0, 48, .inl (xr 3))), cE y yv, (y 9, .inr (3, [.ref (y 10), .ref (y 11), .ref (y 12), .ref (y 13), .int (nI yf), .int (nI QY.1)])), (y 10, .inl (cA 0, 12, .inl (yr 0))), (y 11, .inl (cA 0, 12, .inl (yr 1))), (y 12, .inl (cA 0, 12, .inl (yr 2))), (y 13, .inl (cA 0, 48, .inl (yr 3))), (pa 0, .inr (2, [.ref (pa 1), .int kd, .int nb, .int mk])), (pa 1, .inl (cA 0, 4, .inl w)), (an, .inl (cA 0, 4, .inl g))] sz) := by
  refine Met.ofW (cc := cX3_deliver) (maxL := 3) (ret := (some .int)) (by decide) rfl ?_
  intro p e s m args below meth c s₁ B hml hv
  obtain ⟨rfl, hsz, hP, hK, hD0, hE0⟩ := hv
  have hx := B.exec
  have hb := B.bytes
  have hr := B.returns
  have hts := atoms_spec (ws := wsX3_deliver) B.pre
  have hown : s.vm.findClass RX3 = some m.cls := findClass_of_methodNamed B.named
  have hlocks := B.notSynchronized
  subst hsz
  have hD := hD0.self (sz := s.heap.size)
  generalize hAe : va_A [(o, .inr (4, [.ref F, .ref G, .int lo, .int nw, .int se, .ref (pa 0), .ref an, .ref ln])), cE x xv, (x 1, .inl (cA 0, 4, .inl (xd 0))), (x 2, .inl (cA 0, 4, .inl (xd 1))), (x 3, .inl (cA 0, 4, .inl (xd 2))), (x 4, .inl (cA 0, 4, .inl (xd 3))), (x 5, .inl (cA 0, 4, .inl (xd 4))), (x 6, .inl (cA 1, 4, .inl (xd 5))), (x 7, .inl (cA 0, 4, .inl (xd 6))), (x 8, .inl (cA 0, 4, .inl (xd 7))), (x 9, .inr (3, [.ref (x 10), .ref (x 11), .ref (x 12), .ref (x 13), .int (nI xf), .int (nI QX.1)])), (x 10, .inl (cA 0, 12, .inl (xr 0))), (x 11, .inl (cA 0, 12, .inl (xr 1))), (x 12, .inl (cA 0, 12, .inl (xr 2))), (x 13, .inl (cA 0, 48, .inl (xr 3))), cE y yv, (y 9, .inr (3, [.ref (y 10), .ref (y 11), .ref (y 12), .ref (y 13), .int (nI yf), .int (nI QY.1)])), (y 10, .inl (cA 0, 12, .inl (yr 0))), (y 11, .inl (cA 0, 12, .inl (yr 1))), (y 12, .inl (cA 0, 12, .inl (yr 2))), (y 13, .inl (cA 0, 48, .inl (yr 3))), (pa 0, .inr (2, [.ref (pa 1), .int kd, .int nb, .int mk])), (pa 1, .inl (cA 0, 4, .inl w)), (an, .inl (cA 0, 4, .inl g))] s.heap.size = A at hD hE0 ⊢
  have hA : ∀ q : Nat, s.heap.size ≤ q → A q := fun q h => by rw [← hAe]; exact Or.inr h
  have hS : va_S A s.heap s.heap [] := va_S.rf
  have hl := lv_entry ([.ref o, .int n]) (n := 3) (Nat.le_of_ble_eq_true rfl)
  rw [lg_entry_eq]
  generalize (lg_sl ([.ref o, .int n]) ++ List.replicate (3 - (lg_sl ([.ref o, .int n])).length) Slot.unset).toArray = ls at hl ⊢
  have hl : lv_has ls 3 [(0, .ref o), (1, .int n)] := hl
  refine lv_iload_n hx hb dX3_deliver_0 rfl (lv_at hl 1 rfl) ?_
  have hPc := hP.sub (ws' := []) [] rfl
  have hDc := hD.sub (ws' := []) [] (by decide) rfl
  have hFc := va_free (wc := []) hD hS hA [] rfl
  refine va_callv (va_runS (As := [.int n]) (rest := []) ⟨hx, hb, hml, hown, hts⟩ (c_X3_checkEnd_k l D cA s.heap.size n (en_inr he)) (va_cwS 1 hts gX3_deliver_X3_checkEnd rfl rfl rfl (by decide +kernel) ⟨Nat.le_of_ble_eq_true rfl, Nat.le_of_ble_eq_true rfl⟩) ⟨zU_blind, fun U hU hW => ⟨rfl, zU_call hU hPc hW.alike hK hDc⟩⟩ rfl rfl hl.1 rfl (lv_room (Nat.le_of_ble_eq_true rfl)) dX3_deliver_1 ⟨(Nat.zero_le _), (Nat.zero_le _)⟩) hS (fun q _ h => hFc q h) hFc (fun u t H1 locs ht hvm hw hB hz1 hk1 hS => ?_)
  obtain ⟨hP1, hD1⟩ := hB
  rw [ht] at hP1
  obtain ⟨hP, hD⟩ := va_join (wr := [(o, .inr (4, [.ref F, .ref G, .int lo, .int nw, .int se, .ref (pa 0), .ref an, .ref ln])), cE x xv, (x 1, .inl (cA 0, 4, .inl (xd 0))), (x 2, .inl (cA 0, 4, .inl (xd 1))), (x 3, .inl (cA 0, 4, .inl (xd 2))), (x 4, .inl (cA 0, 4, .inl (xd 3))), (x 5, .inl (cA 0, 4, .inl (xd 4))), (x 6, .inl (cA 1, 4, .inl (xd 5))), (x 7, .inl (cA 0, 4, .inl (xd 6))), (x 8, .inl (cA 0, 4, .inl (xd 7))), (x 9, .inr (3, [.ref (x 10), .ref (x 11), .ref (x 12), .ref (x 13), .int (nI xf), .int (nI QX.1)])), (x 10, .inl (cA 0, 12, .inl (xr 0))), (x 11, .inl (cA 0, 12, .inl (xr 1))), (x 12, .inl (cA 0, 12, .inl (xr 2))), (x 13, .inl (cA 0, 48, .inl (xr 3))), cE y yv, (y 9, .inr (3, [.ref (y 10), .ref (y 11), .ref (y 12), .ref (y 13), .int (nI yf), .int (nI QY.1)])), (y 10, .inl (cA 0, 12, .inl (yr 0))), (y 11, .inl (cA 0, 12, .inl (yr 1))), (y 12, .inl (cA 0, 12, .inl (yr 2))), (y 13, .inl (cA 0, 48, .inl (yr 3))), (pa 0, .inr (2, [.ref (pa 1), .int kd, .int nb, .int mk])), (pa 1, .inl (cA 0, 4, .inl w)), (an, .inl (cA 0, 4, .inl g))]) (w1 := []) hP hD [] [0, 1, 2, 3, 4, 5, 6, 7, 8, 9, 10, 11, 12, 13, 14, 15, 16, 17, 18, 19, 20, 21, 22, 23] rfl rfl (by decide) (by decide) hk1 hFc hP1 hD1
  generalize H1 = H at hP hS ⊢
  have hP := hP.sub (ws' := [(o, .inr (4, [.ref F, .ref G, .int lo, .int nw, .int se, .ref (pa 0), .ref an, .ref ln])), cE x xv, (x 1, .inl (cA 0, 4, .inl (xd 0))), (x 2, .inl (cA 0, 4, .inl (xd 1))), (x 3, .inl (cA 0, 4, .inl (xd 2))), (x 4, .inl (cA 0, 4, .inl (xd 3))), (x 5, .inl (cA 0, 4, .inl (xd 4))), (x 6, .inl (cA 1, 4, .inl (xd 5))), (x 7, .inl (cA 0, 4, .inl (xd 6))), (x 8, .inl (cA 0, 4, .inl (xd 7))), (x 9, .inr (3, [.ref (x 10), .ref (x 11), .ref (x 12), .ref (x 13), .int (nI xf), .int (nI QX.1)])), (x 10, .inl (cA 0, 12, .inl (xr 0))), (x 11, .inl (cA 0, 12, .inl (xr 1))), (x 12, .inl (cA 0, 12, .inl (xr 2))), (x 13, .inl (cA 0, 48, .inl (xr 3))), cE y yv, (y 9, .inr (3, [.ref (y 10), .ref (y 11), .ref (y 12), .ref (y 13), .int (nI yf), .int (nI QY.1)])), (y 10, .inl (cA 0, 12, .inl (yr 0))), (y 11, .inl (cA 0, 12, .inl (yr 1))), (y 12, .inl (cA 0, 12, .inl (yr 2))), (y 13, .inl (cA 0, 48, .inl (yr 3))), (pa 0, .inr (2, [.ref (pa 1), .int kd, .int nb, .int mk])), (pa 1, .inl (cA 0, 4, .inl w)), (an, .inl (cA 0, 4, .inl g))]) [0, 1, 2, 3, 4, 5, 6, 7, 8, 9, 10, 11, 12, 13, 14, 15, 16, 17, 18, 19, 20, 21, 22, 23] rfl
  have hD := hD.sub (ws' := [(o, .inr (4, [.ref F, .ref G, .int lo, .int nw, .int se, .ref (pa 0), .ref an, .ref ln])), cE x xv, (x 1, .inl (cA 0, 4, .inl (xd 0))), (x 2, .inl (cA 0, 4, .inl (xd 1))), (x 3, .inl (cA 0, 4, .inl (xd 2))), (x 4, .inl (cA 0, 4, .inl (xd 3))), (x 5, .inl (cA 0, 4, .inl (xd 4))), (x 6, .inl (cA 1, 4, .inl (xd 5))), (x 7, .inl (cA 0, 4, .inl (xd 6))), (x 8, .inl (cA 0, 4, .inl (xd 7))), (x 9, .inr (3, [.ref (x 10), .ref (x 11), .ref (x 12), .ref (x 13), .int (nI xf), .int (nI QX.1)])), (x 10, .inl (cA 0, 12, .inl (xr 0))), (x 11, .inl (cA 0, 12, .inl (xr 1))), (x 12, .inl (cA 0, 12, .inl (xr 2))), (x 13, .inl (cA 0, 48, .inl (xr 3))), cE y yv, (y 9, .inr (3, [.ref (y 10), .ref (y 11), .ref (y 12), .ref (y 13), .int (nI yf), .int (nI QY.1)])), (y 10, .inl (cA 0, 12, .inl (yr 0))), (y 11, .inl (cA 0, 12, .inl (yr 1))), (y 12, .inl (cA 0, 12, .inl (yr 2))), (y 13, .inl (cA 0, 48, .inl (yr 3))), (pa 0, .inr (2, [.ref (pa 1), .int kd, .int nb, .int mk])), (pa 1, .inl (cA 0, 4, .inl w)), (an, .inl (cA 0, 4, .inl g))]) [0, 1, 2, 3, 4, 5, 6, 7, 8, 9, 10, 11, 12, 13, 14, 15, 16, 17, 18, 19, 20, 21, 22, 23] (by decide) rfl
  clear hPc hDc hFc hP1 hD1 hk1 hz1
  have hw_1 := hw
  refine lv_aload_n hx hb dX3_deliver_4 rfl (lv_at hl 0 rfl) ?_
  refine lv_iload_n hx hb dX3_deliver_5 rfl (lv_at hl 1 rfl) ?_
  have hPc := hP.sub (ws' := [(o, .inr (4, [.ref F, .ref G, .int lo, .int nw, .int se, .ref (pa 0), .ref an, .ref ln]))]) [0] rfl
  have hDc := hD.sub (ws' := [(o, .inr (4, [.ref F, .ref G, .int lo, .int nw, .int se, .ref (pa 0), .ref an, .ref ln]))]) [0] (by decide) rfl
  have hFc := va_free (wc := [(o, .inr (4, [.ref F, .ref G, .int lo, .int nw, .int se, .ref (pa 0), .ref an, .ref ln]))]) hD hS hA [0] rfl
  refine va_callr (va_runV (As := [.int n]) (rest := []) ⟨hx, hb, hml, hown, hts⟩ (c_X3_endOf l D cA H.size o F G lo nw se pa an ln n (x 0) (y 0) (by first | exact he | exact en_flip he)) (cwV 1 hts gX3_deliver_X3_endOf rfl rfl rfl (by decide +kernel) ⟨Nat.le_of_ble_eq_true rfl, Nat.le_of_ble_eq_true rfl⟩) ⟨zU_blind, va_recv hK hPc (ci := 4) (q0 := 0) rfl rfl, fun U hU hW => ⟨rfl, zU_call hU hPc hW.alike hK hDc⟩⟩ rfl rfl hl.1 rfl (lv_room (Nat.le_of_ble_eq_true rfl)) dX3_deliver_6 ⟨(Nat.zero_le _), (Nat.zero_le _)⟩) hS (fun q _ h => hFc q h) hFc (fun u ra t H1 locs ht hvm hw hB hz1 hk1 hS => ?_)
  obtain ⟨hra, hP1, hD1⟩ := hB
  rw [ht] at hP1
  subst ra
  obtain ⟨hP, hD⟩ := va_join (wr := [cE x xv, (x 1, .inl (cA 0, 4, .inl (xd 0))), (x 2, .inl (cA 0, 4, .inl (xd 1))), (x 3, .inl (cA 0, 4, .inl (xd 2))), (x 4, .inl (cA 0, 4, .inl (xd 3))), (x 5, .inl (cA 0, 4, .inl (xd 4))), (x 6, .inl (cA 1, 4, .inl (xd 5))), (x 7, .inl (cA 0, 4, .inl (xd 6))), (x 8, .inl (cA 0, 4, .inl (xd 7))), (x 9, .inr (3, [.ref (x 10), .ref (x 11), .ref (x 12), .ref (x 13), .int (nI xf), .int (nI QX.1)])), (x 10, .inl (cA 0, 12, .inl (xr 0))), (x 11, .inl (cA 0, 12, .inl (xr 1))), (x 12, .inl (cA 0, 12, .inl (xr 2))), (x 13, .inl (cA 0, 48, .inl (xr 3))), cE y yv, (y 9, .inr (3, [.ref (y 10), .ref (y 11), .ref (y 12), .ref (y 13), .int (nI yf), .int (nI QY.1)])), (y 10, .inl (cA 0, 12, .inl (yr 0))), (y 11, .inl (cA 0, 12, .inl (yr 1))), (y 12, .inl (cA 0, 12, .inl (yr 2))), (y 13, .inl (cA 0, 48, .inl (yr 3))), (pa 0, .inr (2, [.ref (pa 1), .int kd, .int nb, .int mk])), (pa 1, .inl (cA 0, 4, .inl w)), (an, .inl (cA 0, 4, .inl g))]) (w1 := [(o, .inr (4, [.ref F, .ref G, .int lo, .int nw, .int se, .ref (pa 0), .ref an, .ref ln]))]) hP hD [0] [1, 2, 3, 4, 5, 6, 7, 8, 9, 10, 11, 12, 13, 14, 15, 16, 17, 18, 19, 20, 21, 22, 23] rfl rfl (by decide) (by decide) hk1 hFc hP1 hD1
  generalize H1 = H at hP hS ⊢
  have hP := hP.sub (ws' := [(o, .inr (4, [.ref F, .ref G, .int lo, .int nw, .int se, .ref (pa 0), .ref an, .ref ln])), cE x xv, (x 1, .inl (cA 0, 4, .inl (xd 0))), (x 2, .inl (cA 0, 4, .inl (xd 1))), (x 3, .inl (cA 0, 4, .inl (xd 2))), (x 4, .inl (cA 0, 4, .inl (xd 3))), (x 5, .inl (cA 0, 4, .inl (xd 4))), (x 6, .inl (cA 1, 4, .inl (xd 5))), (x 7, .inl (cA 0, 4, .inl (xd 6))), (x 8, .inl (cA 0, 4, .inl (xd 7))), (x 9, .inr (3, [.ref (x 10), .ref (x 11), .ref (x 12), .ref (x 13), .int (nI xf), .int (nI QX.1)])), (x 10, .inl (cA 0, 12, .inl (xr 0))), (x 11, .inl (cA 0, 12, .inl (xr 1))), (x 12, .inl (cA 0, 12, .inl (xr 2))), (x 13, .inl (cA 0, 48, .inl (xr 3))), cE y yv, (y 9, .inr (3, [.ref (y 10), .ref (y 11), .ref (y 12), .ref (y 13), .int (nI yf), .int (nI QY.1)])), (y 10, .inl (cA 0, 12, .inl (yr 0))), (y 11, .inl (cA 0, 12, .inl (yr 1))), (y 12, .inl (cA 0, 12, .inl (yr 2))), (y 13, .inl (cA 0, 48, .inl (yr 3))), (pa 0, .inr (2, [.ref (pa 1), .int kd, .int nb, .int mk])), (pa 1, .inl (cA 0, 4, .inl w)), (an, .inl (cA 0, 4, .inl g))]) [23, 0, 1, 2, 3, 4, 5, 6, 7, 8, 9, 10, 11, 12, 13, 14, 15, 16, 17, 18, 19, 20, 21, 22] rfl
  have hD := hD.sub (ws' := [(o, .inr (4, [.ref F, .ref G, .int lo, .int nw, .int se, .ref (pa 0), .ref an, .ref ln])), cE x xv, (x 1, .inl (cA 0, 4, .inl (xd 0))), (x 2, .inl (cA 0, 4, .inl (xd 1))), (x 3, .inl (cA 0, 4, .inl (xd 2))), (x 4, .inl (cA 0, 4, .inl (xd 3))), (x 5, .inl (cA 0, 4, .inl (xd 4))), (x 6, .inl (cA 1, 4, .inl (xd 5))), (x 7, .inl (cA 0, 4, .inl (xd 6))), (x 8, .inl (cA 0, 4, .inl (xd 7))), (x 9, .inr (3, [.ref (x 10), .ref (x 11), .ref (x 12), .ref (x 13), .int (nI xf), .int (nI QX.1)])), (x 10, .inl (cA 0, 12, .inl (xr 0))), (x 11, .inl (cA 0, 12, .inl (xr 1))), (x 12, .inl (cA 0, 12, .inl (xr 2))), (x 13, .inl (cA 0, 48, .inl (xr 3))), cE y yv, (y 9, .inr (3, [.ref (y 10), .ref (y 11), .ref (y 12), .ref (y 13), .int (nI yf), .int (nI QY.1)])), (y 10, .inl (cA 0, 12, .inl (yr 0))), (y 11, .inl (cA 0, 12, .inl (yr 1))), (y 12, .inl (cA 0, 12, .inl (yr 2))), (y 13, .inl (cA 0, 48, .inl (yr 3))), (pa 0, .inr (2, [.ref (pa 1), .int kd, .int nb, .int mk])), (pa 1, .inl (cA 0, 4, .inl w)), (an, .inl (cA 0, 4, .inl g))]) [23, 0, 1, 2, 3, 4, 5, 6, 7, 8, 9, 10, 11, 12, 13, 14, 15, 16, 17, 18, 19, 20, 21, 22] (by decide) rfl
  clear hPc hDc hFc hP1 hD1 hk1 hz1
  have hw_2 := hw
  refine va_get (D := D) (ci := 1) (v := .ref (x 9)) (C := RX0) (T := TX0) (N := 16) hx hb hts (fun _ h => List.mem_cons_of_mem _ (List.mem_append_left _ (List.mem_append_left _ (List.mem_append_left _ (List.mem_append_left _ (List.mem_append_left _ (List.mem_append_right _ (h)))))))) hown hK hP 1 rfl rfl 8 (by decide) (hts (.fieldLink RX3 132 "OptionWire$End" "packets" "LOptionWire$PacketQueue;") (List.mem_of_getElem? (i := 1) rfl)) (fun _ h9 => h9) rfl dX3_deliver_9 ?_
  refine lv_astore_n (lv' := [(2, .ref (x 9)), (0, .ref o), (1, .int n)]) hx hb dX3_deliver_12 rfl hl (by decide) rfl (fun ls hl => ?_)
  refine lv_aload_n hx hb dX3_deliver_13 rfl (lv_at hl 0 rfl) ?_
  refine lv_iconst (v := 0) hx hb dX3_deliver_14 (by decide) ?_
  have hPc := hP.sub (ws' := [(x 9, .inr (3, [.ref (x 10), .ref (x 11), .ref (x 12), .ref (x 13), .int (nI xf), .int (nI QX.1)]))]) [10] rfl
  have hDc := hD.sub (ws' := [(x 9, .inr (3, [.ref (x 10), .ref (x 11), .ref (x 12), .ref (x 13), .int (nI xf), .int (nI QX.1)]))]) [10] (by decide) rfl
  have hFc := va_free (wc := [(x 9, .inr (3, [.ref (x 10), .ref (x 11), .ref (x 12), .ref (x 13), .int (nI xf), .int (nI QX.1)]))]) hD hS hA [10] rfl
  refine va_callv (va_runS (As := [.ref (x 9), .int 0]) (rest := []) ⟨hx, hb, hml, hown, hts⟩ (c_X3_checkPlace_k l D cA H.size x xf QX 0 h0 hqx.2.1) (va_cwS 2 hts gX3_deliver_X3_checkPlace rfl rfl rfl (by decide +kernel) ⟨Nat.le_of_ble_eq_true rfl, Nat.le_of_ble_eq_true rfl⟩) ⟨zU_blind, fun U hU hW => ⟨rfl, zU_call hU hPc hW.alike hK hDc⟩⟩ rfl rfl hl.1 rfl (lv_room (Nat.le_of_ble_eq_true rfl)) dX3_deliver_15 ⟨(Nat.zero_le _), (Nat.zero_le _)⟩) hS (fun q _ h => hFc q h) hFc (fun u t H1 locs ht hvm hw hB hz1 hk1 hS => ?_)
  obtain ⟨hP1, hD1⟩ := hB
  rw [ht] at hP1
  obtain ⟨hP, hD⟩ := va_join (wr := [(o, .inr (4, [.ref F, .ref G, .int lo, .int nw, .int se, .ref (pa 0), .ref an, .ref ln])), cE x xv, (x 1, .inl (cA 0, 4, .inl (xd 0))), (x 2, .inl (cA 0, 4, .inl (xd 1))), (x 3, .inl (cA 0, 4, .inl (xd 2))), (x 4, .inl (cA 0, 4, .inl (xd 3))), (x 5, .inl (cA 0, 4, .inl (xd 4))), (x 6, .inl (cA 1, 4, .inl (xd 5))), (x 7, .inl (cA 0, 4, .inl (xd 6))), (x 8, .inl (cA 0, 4, .inl (xd 7))), (x 10, .inl (cA 0, 12, .inl (xr 0))), (x 11, .inl (cA 0, 12, .inl (xr 1))), (x 12, .inl (cA 0, 12, .inl (xr 2))), (x 13, .inl (cA 0, 48, .inl (xr 3))), cE y yv, (y 9, .inr (3, [.ref (y 10), .ref (y 11), .ref (y 12), .ref (y 13), .int (nI yf), .int (nI QY.1)])), (y 10, .inl (cA 0, 12, .inl (yr 0))), (y 11, .inl (cA 0, 12, .inl (yr 1))), (y 12, .inl (cA 0, 12, .inl (yr 2))), (y 13, .inl (cA 0, 48, .inl (yr 3))), (pa 0, .inr (2, [.ref (pa 1), .int kd, .int nb, .int mk])), (pa 1, .inl (cA 0, 4, .inl w)), (an, .inl (cA 0, 4, .inl g))]) (w1 := [(x 9, .inr (3, [.ref (x 10), .ref (x 11), .ref (x 12), .ref (x 13), .int (nI xf), .int (nI QX.1)]))]) hP hD [10] [0, 1, 2, 3, 4, 5, 6, 7, 8, 9, 11, 12, 13, 14, 15, 16, 17, 18, 19, 20, 21, 22, 23] rfl rfl (by decide) (by decide) hk1 hFc hP1 hD1
  generalize H1 = H at hP hS ⊢
  have hP := hP.sub (ws' := [(o, .inr (4, [.ref F, .ref G, .int lo, .int nw, .int se, .ref (pa 0), .ref an, .ref ln])), cE x xv, (x 1, .inl (cA 0, 4, .inl (xd 0))), (x 2, .inl (cA 0, 4, .inl (xd 1))), (x 3, .inl (cA 0, 4, .inl (xd 2))), (x 4, .inl (cA 0, 4, .inl (xd 3))), (x 5, .inl (cA 0, 4, .inl (xd 4))), (x 6, .inl (cA 1, 4, .inl (xd 5))), (x 7, .inl (cA 0, 4, .inl (xd 6))), (x 8, .inl (cA 0, 4, .inl (xd 7))), (x 9, .inr (3, [.ref (x 10), .ref (x 11), .ref (x 12), .ref (x 13), .int (nI xf), .int (nI QX.1)])), (x 10, .inl (cA 0, 12, .inl (xr 0))), (x 11, .inl (cA 0, 12, .inl (xr 1))), (x 12, .inl (cA 0, 12, .inl (xr 2))), (x 13, .inl (cA 0, 48, .inl (xr 3))), cE y yv, (y 9, .inr (3, [.ref (y 10), .ref (y 11), .ref (y 12), .ref (y 13), .int (nI yf), .int (nI QY.1)])), (y 10, .inl (cA 0, 12, .inl (yr 0))), (y 11, .inl (cA 0, 12, .inl (yr 1))), (y 12, .inl (cA 0, 12, .inl (yr 2))), (y 13, .inl (cA 0, 48, .inl (yr 3))), (pa 0, .inr (2, [.ref (pa 1), .int kd, .int nb, .int mk])), (pa 1, .inl (cA 0, 4, .inl w)), (an, .inl (cA 0, 4, .inl g))]) [0, 1, 2, 3, 4, 5, 6, 7, 8, 9, 23, 10, 11, 12, 13, 14, 15, 16, 17, 18, 19, 20, 21, 22] rfl
  have hD := hD.sub (ws' := [(o, .inr (4, [.ref F, .ref G, .int lo, .int nw, .int se, .ref (pa 0), .ref an, .ref ln])), cE x xv, (x 1, .inl (cA 0, 4, .inl (xd 0))), (x 2, .inl (cA 0, 4, .inl (xd 1))), (x 3, .inl (cA 0, 4, .inl (xd 2))), (x 4, .inl (cA 0, 4, .inl (xd 3))), (x 5, .inl (cA 0, 4, .inl (xd 4))), (x 6, .inl (cA 1, 4, .inl (xd 5))), (x 7, .inl (cA 0, 4, .inl (xd 6))), (x 8, .inl (cA 0, 4, .inl (xd 7))), (x 9, .inr (3, [.ref (x 10), .ref (x 11), .ref (x 12), .ref (x 13), .int (nI xf), .int (nI QX.1)])), (x 10, .inl (cA 0, 12, .inl (xr 0))), (x 11, .inl (cA 0, 12, .inl (xr 1))), (x 12, .inl (cA 0, 12, .inl (xr 2))), (x 13, .inl (cA 0, 48, .inl (xr 3))), cE y yv, (y 9, .inr (3, [.ref (y 10), .ref (y 11), .ref (y 12), .ref (y 13), .int (nI yf), .int (nI QY.1)])), (y 10, .inl (cA 0, 12, .inl (yr 0))), (y 11, .inl (cA 0, 12, .inl (yr 1))), (y 12, .inl (cA 0, 12, .inl (yr 2))), (y 13, .inl (cA 0, 48, .inl (yr 3))), (pa 0, .inr (2, [.ref (pa 1), .int kd, .int nb, .int mk])), (pa 1, .inl (cA 0, 4, .inl w)), (an, .inl (cA 0, 4, .inl g))]) [0, 1, 2, 3, 4, 5, 6, 7, 8, 9, 23, 10, 11, 12, 13, 14, 15, 16, 17, 18, 19, 20, 21, 22] (by decide) rfl
  clear hPc hDc hFc hP1 hD1 hk1 hz1
  have hw_3 := hw
  refine lv_aload_n hx hb dX3_deliver_18 rfl (lv_at hl 0 rfl) ?_
  refine lv_aload_n hx hb dX3_deliver_19 rfl (lv_at hl 1 rfl) ?_
  refine va_get (D := D) (ci := 4) (v := .ref (pa 0)) (C := RX3) (T := TX3) (N := 8) hx hb hts (fun _ h => List.mem_cons_of_mem _ (List.mem_append_left _ (List.mem_append_left _ (List.mem_append_left _ (List.mem_append_left _ (List.mem_append_right _ (h))))))) hown hK hP 0 rfl rfl 5 (by decide) (hts (.fieldLink RX3 33 "OptionWire" "arrived" "LOptionWire$Packet;") (List.mem_of_getElem? (i := 2) rfl)) (fun _ h9 => h9) rfl dX3_deliver_20 ?_
  have hPc := hP.sub (ws' := [(x 9, .inr (3, [.ref (x 10), .ref (x 11), .ref (x 12), .ref (x 13), .int (nI xf), .int (nI QX.1)])), (x 10, .inl (cA 0, 12, .inl (xr 0))), (x 11, .inl (cA 0, 12, .inl (xr 1))), (x 12, .inl (cA 0, 12, .inl (xr 2))), (x 13, .inl (cA 0, 48, .inl (xr 3))), (pa 0, .inr (2, [.ref (pa 1), .int kd, .int nb, .int mk])), (pa 1, .inl (cA 0, 4, .inl w))]) [10, 11, 12, 13, 14, 21, 22] rfl
  have hDc := hD.sub (ws' := [(x 9, .inr (3, [.ref (x 10), .ref (x 11), .ref (x 12), .ref (x 13), .int (nI xf), .int (nI QX.1)])), (x 10, .inl (cA 0, 12, .inl (xr 0))), (x 11, .inl (cA 0, 12, .inl (xr 1))), (x 12, .inl (cA 0, 12, .inl (xr 2))), (x 13, .inl (cA 0, 48, .inl (xr 3))), (pa 0, .inr (2, [.ref (pa 1), .int kd, .int nb, .int mk])), (pa 1, .inl (cA 0, 4, .inl w))]) [10, 11, 12, 13, 14, 21, 22] (by decide) rfl
  have hFc := va_free (wc := [(x 9, .inr (3, [.ref (x 10), .ref (x 11), .ref (x 12), .ref (x 13), .int (nI xf), .int (nI QX.1)])), (x 10, .inl (cA 0, 12, .inl (xr 0))), (x 11, .inl (cA 0, 12, .inl (xr 1))), (x 12, .inl (cA 0, 12, .inl (xr 2))), (x 13, .inl (cA 0, 48, .inl (xr 3))), (pa 0, .inr (2, [.ref (pa 1), .int kd, .int nb, .int mk])), (pa 1, .inl (cA 0, 4, .inl w))]) hD hS hA [10, 11, 12, 13, 14, 21, 22] rfl
  refine va_callv (va_runV (As := [.ref (pa 0)]) (rest := []) ⟨hx, hb, hml, hown, hts⟩ (c_X2_takeFirst l D cA H.size x xf QX xr pa kd nb mk w hqx (by assumption)) (cwV 1 hts gX3_deliver_X2_takeFirst rfl rfl rfl (by decide +kernel) ⟨Nat.le_of_ble_eq_true rfl, Nat.le_of_ble_eq_true rfl⟩) ⟨zU_blind, va_recv hK hPc (ci := 3) (q0 := 0) rfl rfl, fun U hU hW => ⟨rfl, zU_call hU hPc hW.alike hK hDc⟩⟩ rfl rfl hl.1 rfl (lv_room (Nat.le_of_ble_eq_true rfl)) dX3_deliver_23 ⟨(Nat.zero_le _), (Nat.zero_le _)⟩) hS (fun q _ h => hFc q h) hFc (fun u t H1 locs ht hvm hw hB hz1 hk1 hS => ?_)
  obtain ⟨fi'_4, rfl⟩ : ∃ z, z = u := ⟨_, rfl⟩
  obtain ⟨hP1, hD1⟩ := hB
  rw [ht] at hP1
  try dsimp only at hw hP1 hD1
  obtain ⟨hP, hD⟩ := va_join (wr := [(o, .inr (4, [.ref F, .ref G, .int lo, .int nw, .int se, .ref (pa 0), .ref an, .ref ln])), cE x xv, (x 1, .inl (cA 0, 4, .inl (xd 0))), (x 2, .inl (cA 0, 4, .inl (xd 1))), (x 3, .inl (cA 0, 4, .inl (xd 2))), (x 4, .inl (cA 0, 4, .inl (xd 3))), (x 5, .inl (cA 0, 4, .inl (xd 4))), (x 6, .inl (cA 1, 4, .inl (xd 5))), (x 7, .inl (cA 0, 4, .inl (xd 6))), (x 8, .inl (cA 0, 4, .inl (xd 7))), cE y yv, (y 9, .inr (3, [.ref (y 10), .ref (y 11), .ref (y 12), .ref (y 13), .int (nI yf), .int (nI QY.1)])), (y 10, .inl (cA 0, 12, .inl (yr 0))), (y 11, .inl (cA 0, 12, .inl (yr 1))), (y 12, .inl (cA 0, 12, .inl (yr 2))), (y 13, .inl (cA 0, 48, .inl (yr 3))), (an, .inl (cA 0, 4, .inl g))]) (w1 := [(x 9, .inr (3, [.ref (x 10), .ref (x 11), .ref (x 12), .ref (x 13), .int (nI fi'_4), .int (nI ((pop QX).1))])), (x 10, .inl (cA 0, 12, .inl (xr 0))), (x 11, .inl (cA 0, 12, .inl (xr 1))), (x 12, .inl (cA 0, 12, .inl (xr 2))), (x 13, .inl (cA 0, 48, .inl (xr 3))), (pa 0, .inr (2, [.ref (pa 1), .int (QX.2 0 0), .int (QX.2 0 1), .int (QX.2 0 2)])), (pa 1, .inl (cA 0, 4, .inl (fun k => QX.2 0 (3 + k))))]) hP hD [10, 11, 12, 13, 14, 21, 22] [0, 1, 2, 3, 4, 5, 6, 7, 8, 9, 15, 16, 17, 18, 19, 20, 23] rfl rfl (by decide) (by decide) hk1 hFc hP1 hD1
  generalize H1 = H at hP hS ⊢
  have hP := hP.sub (ws' := [(o, .inr (4, [.ref F, .ref G, .int lo, .int nw, .int se, .ref (pa 0), .ref an, .ref ln])), cE x xv, (x 1, .inl (cA 0, 4, .inl (xd 0))), (x 2, .inl (cA 0, 4, .inl (xd 1))), (x 3, .inl (cA 0, 4, .inl (xd 2))), (x 4, .inl (cA 0, 4, .inl (xd 3))), (x 5, .inl (cA 0, 4, .inl (xd 4))), (x 6, .inl (cA 1, 4, .inl (xd 5))), (x 7, .inl (cA 0, 4, .inl (xd 6))), (x 8, .inl (cA 0, 4, .inl (xd 7))), (x 9, .inr (3, [.ref (x 10), .ref (x 11), .ref (x 12), .ref (x 13), .int (nI fi'_4), .int (nI ((pop QX).1))])), (x 10, .inl (cA 0, 12, .inl (xr 0))), (x 11, .inl (cA 0, 12, .inl (xr 1))), (x 12, .inl (cA 0, 12, .inl (xr 2))), (x 13, .inl (cA 0, 48, .inl (xr 3))), cE y yv, (y 9, .inr (3, [.ref (y 10), .ref (y 11), .ref (y 12), .ref (y 13), .int (nI yf), .int (nI QY.1)])), (y 10, .inl (cA 0, 12, .inl (yr 0))), (y 11, .inl (cA 0, 12, .inl (yr 1))), (y 12, .inl (cA 0, 12, .inl (yr 2))), (y 13, .inl (cA 0, 48, .inl (yr 3))), (pa 0, .inr (2, [.ref (pa 1), .int (QX.2 0 0), .int (QX.2 0 1), .int (QX.2 0 2)])), (pa 1, .inl (cA 0, 4, .inl (fun k => QX.2 0 (3 + k)))), (an, .inl (cA 0, 4, .inl g))]) [0, 1, 2, 3, 4, 5, 6, 7, 8, 9, 17, 18, 19, 20, 21, 10, 11, 12, 13, 14, 15, 22, 23, 16] rfl
  have hD := hD.sub (ws' := [(o, .inr (4, [.ref F, .ref G, .int lo, .int nw, .int se, .ref (pa 0), .ref an, .ref ln])), cE x xv, (x 1, .inl (cA 0, 4, .inl (xd 0))), (x 2, .inl (cA 0, 4, .inl (xd 1))), (x 3, .inl (cA 0, 4, .inl (xd 2))), (x 4, .inl (cA 0, 4, .inl (xd 3))), (x 5, .inl (cA 0, 4, .inl (xd 4))), (x 6, .inl (cA 1, 4, .inl (xd 5))), (x 7, .inl (cA 0, 4, .inl (xd 6))), (x 8, .inl (cA 0, 4, .inl (xd 7))), (x 9, .inr (3, [.ref (x 10), .ref (x 11), .ref (x 12), .ref (x 13), .int (nI fi'_4), .int (nI ((pop QX).1))])), (x 10, .inl (cA 0, 12, .inl (xr 0))), (x 11, .inl (cA 0, 12, .inl (xr 1))), (x 12, .inl (cA 0, 12, .inl (xr 2))), (x 13, .inl (cA 0, 48, .inl (xr 3))), cE y yv, (y 9, .inr (3, [.ref (y 10), .ref (y 11), .ref (y 12), .ref (y 13), .int (nI yf), .int (nI QY.1)])), (y 10, .inl (cA 0, 12, .inl (yr 0))), (y 11, .inl (cA 0, 12, .inl (yr 1))), (y 12, .inl (cA 0, 12, .inl (yr 2))), (y 13, .inl (cA 0, 48, .inl (yr 3))), (pa 0, .inr (2, [.ref (pa 1), .int (QX.2 0 0), .int (QX.2 0 1), .int (QX.2 0 2)])), (pa 1, .inl (cA 0, 4, .inl (fun k => QX.2 0 (3 + k)))), (an, .inl (cA 0, 4, .inl g))]) [0, 1, 2, 3, 4, 5, 6, 7, 8, 9, 17, 18, 19, 20, 21, 10, 11, 12, 13, 14, 15, 22, 23, 16] (by decide) rfl
  clear hPc hDc hFc hP1 hD1 hk1 hz1
  have hw_4 := hw
  refine lv_aload_n hx hb dX3_deliver_26 rfl (lv_at hl 1 rfl) ?_
  refine lv_iload_n hx hb dX3_deliver_27 rfl (lv_at hl 2 rfl) ?_
  have hPc := hP.sub (ws' := [(o, .inr (4, [.ref F, .ref G, .int lo, .int nw, .int se, .ref (pa 0), .ref an, .ref ln])), cE x xv, (x 1, .inl (cA 0, 4, .inl (xd 0))), (x 2, .inl (cA 0, 4, .inl (xd 1))), (x 3, .inl (cA 0, 4, .inl (xd 2))), (x 4, .inl (cA 0, 4, .inl (xd 3))), (x 5, .inl (cA 0, 4, .inl (xd 4))), (x 6, .inl (cA 1, 4, .inl (xd 5))), (x 7, .inl (cA 0, 4, .inl (xd 6))), (x 8, .inl (cA 0, 4, .inl (xd 7))), (x 9, .inr (3, [.ref (x 10), .ref (x 11), .ref (x 12), .ref (x 13), .int (nI fi'_4), .int (nI ((pop QX).1))])), (x 10, .inl (cA 0, 12, .inl (xr 0))), (x 11, .inl (cA 0, 12, .inl (xr 1))), (x 12, .inl (cA 0, 12, .inl (xr 2))), (x 13, .inl (cA 0, 48, .inl (xr 3))), cE y yv, (y 9, .inr (3, [.ref (y 10), .ref (y 11), .ref (y 12), .ref (y 13), .int (nI yf), .int (nI QY.1)])), (y 10, .inl (cA 0, 12, .inl (yr 0))), (y 11, .inl (cA 0, 12, .inl (yr 1))), (y 12, .inl (cA 0, 12, .inl (yr 2))), (y 13, .inl (cA 0, 48, .inl (yr 3))), (pa 0, .inr (2, [.ref (pa 1), .int (QX.2 0 0), .int (QX.2 0 1), .int (QX.2 0 2)])), (pa 1, .inl (cA 0, 4, .inl (fun k => QX.2 0 (3 + k)))), (an, .inl (cA 0, 4, .inl g))]) [0, 1, 2, 3, 4, 5, 6, 7, 8, 9, 10, 11, 12, 13, 14, 15, 16, 17, 18, 19, 20, 21, 22, 23] rfl
  have hDc := hD.sub (ws' := [(o, .inr (4, [.ref F, .ref G, .int lo, .int nw, .int se, .ref (pa 0), .ref an, .ref ln])), cE x xv, (x 1, .inl (cA 0, 4, .inl (xd 0))), (x 2, .inl (cA 0, 4, .inl (xd 1))), (x 3, .inl (cA 0, 4, .inl (xd 2))), (x 4, .inl (cA 0, 4, .inl (xd 3))), (x 5, .inl (cA 0, 4, .inl (xd 4))), (x 6, .inl (cA 1, 4, .inl (xd 5))), (x 7, .inl (cA 0, 4, .inl (xd 6))), (x 8, .inl (cA 0, 4, .inl (xd 7))), (x 9, .inr (3, [.ref (x 10), .ref (x 11), .ref (x 12), .ref (x 13), .int (nI fi'_4), .int (nI ((pop QX).1))])), (x 10, .inl (cA 0, 12, .inl (xr 0))), (x 11, .inl (cA 0, 12, .inl (xr 1))), (x 12, .inl (cA 0, 12, .inl (xr 2))), (x 13, .inl (cA 0, 48, .inl (xr 3))), cE y yv, (y 9, .inr (3, [.ref (y 10), .ref (y 11), .ref (y 12), .ref (y 13), .int (nI yf), .int (nI QY.1)])), (y 10, .inl (cA 0, 12, .inl (yr 0))), (y 11, .inl (cA 0, 12, .inl (yr 1))), (y 12, .inl (cA 0, 12, .inl (yr 2))), (y 13, .inl (cA 0, 48, .inl (yr 3))), (pa 0, .inr (2, [.ref (pa 1), .int (QX.2 0 0), .int (QX.2 0 1), .int (QX.2 0 2)])), (pa 1, .inl (cA 0, 4, .inl (fun k => QX.2 0 (3 + k)))), (an, .inl (cA 0, 4, .inl g))]) [0, 1, 2, 3, 4, 5, 6, 7, 8, 9, 10, 11, 12, 13, 14, 15, 16, 17, 18, 19, 20, 21, 22, 23] (by decide) rfl
  have hFc := va_free (wc := [(o, .inr (4, [.ref F, .ref G, .int lo, .int nw, .int se, .ref (pa 0), .ref an, .ref ln])), cE x xv, (x 1, .inl (cA 0, 4, .inl (xd 0))), (x 2, .inl (cA 0, 4, .inl (xd 1))), (x 3, .inl (cA 0, 4, .inl (xd 2))), (x 4, .inl (cA 0, 4, .inl (xd 3))), (x 5, .inl (cA 0, 4, .inl (xd 4))), (x 6, .inl (cA 1, 4, .inl (xd 5))), (x 7, .inl (cA 0, 4, .inl (xd 6))), (x 8, .inl (cA 0, 4, .inl (xd 7))), (x 9, .inr (3, [.ref (x 10), .ref (x 11), .ref (x 12), .ref (x 13), .int (nI fi'_4), .int (nI ((pop QX).1))])), (x 10, .inl (cA 0, 12, .inl (xr 0))), (x 11, .inl (cA 0, 12, .inl (xr 1))), (x 12, .inl (cA 0, 12, .inl (xr 2))), (x 13, .inl (cA 0, 48, .inl (xr 3))), cE y yv, (y 9, .inr (3, [.ref (y 10), .ref (y 11), .ref (y 12), .ref (y 13), .int (nI yf), .int (nI QY.1)])), (y 10, .inl (cA 0, 12, .inl (yr 0))), (y 11, .inl (cA 0, 12, .inl (yr 1))), (y 12, .inl (cA 0, 12, .inl (yr 2))), (y 13, .inl (cA 0, 48, .inl (yr 3))), (pa 0, .inr (2, [.ref (pa 1), .int (QX.2 0 0), .int (QX.2 0 1), .int (QX.2 0 2)])), (pa 1, .inl (cA 0, 4, .inl (fun k => QX.2 0 (3 + k)))), (an, .inl (cA 0, 4, .inl g))]) hD hS hA [0, 1, 2, 3, 4, 5, 6, 7, 8, 9, 10, 11, 12, 13, 14, 15, 16, 17, 18, 19, 20, 21, 22, 23] rfl
  refine va_callv (va_runV (As := [.int n]) (rest := []) ⟨hx, hb, hml, hown, hts⟩ (c_X3_hear l D cA zv H.size o F G lo nw se pa an ln x y n xv yv xr yr fi'_4 yf (pop QX) QY xd (QX.2 0 0) (QX.2 0 1) (QX.2 0 2) (fun k => QX.2 0 (3 + k)) g (by first | exact he | exact en_flip he) (by assumption) (by assumption)) (cwV 1 hts gX3_deliver_X3_hear rfl rfl rfl (by decide +kernel) ⟨Nat.le_of_ble_eq_true rfl, Nat.le_of_ble_eq_true rfl⟩) ⟨zUE_blind, va_recv hK hPc (ci := 4) (q0 := 0) rfl rfl, fun U hU hW => ⟨rfl, zUE_call hE0 hS hFc hU hPc hW hK hDc⟩⟩ rfl rfl hl.1 rfl (lv_room (Nat.le_of_ble_eq_true rfl)) dX3_deliver_28 ⟨(Nat.zero_le _), (Nat.zero_le _)⟩) hS (fun q _ h => hFc q h) hFc (fun u t H1 locs ht hvm hw hB hz1 hk1 hS => ?_)
  obtain ⟨xv'_5, xd'_5, g'_5, xr'_5, yr'_5, QX'_5, QY'_5, se'_5⟩ := u
  obtain ⟨hP1, hD1⟩ := hB
  rw [ht] at hP1
  try dsimp only at hw hP1 hD1
  obtain ⟨hP, hD⟩ := va_join (wr := []) (w1 := [(o, .inr (4, [.ref F, .ref G, .int lo, .int nw, .int se'_5, .ref (pa 0), .ref an, .ref ln])), cE x xv'_5, (x 1, .inl (cA 0, 4, .inl (xd'_5 0))), (x 2, .inl (cA 0, 4, .inl (xd'_5 1))), (x 3, .inl (cA 0, 4, .inl (xd'_5 2))), (x 4, .inl (cA 0, 4, .inl (xd'_5 3))), (x 5, .inl (cA 0, 4, .inl (xd'_5 4))), (x 6, .inl (cA 1, 4, .inl (xd'_5 5))), (x 7, .inl (cA 0, 4, .inl (xd'_5 6))), (x 8, .inl (cA 0, 4, .inl (xd'_5 7))), (x 9, .inr (3, [.ref (x 10), .ref (x 11), .ref (x 12), .ref (x 13), .int (nI fi'_4), .int (nI QX'_5.1)])), (x 10, .inl (cA 0, 12, .inl (xr'_5 0))), (x 11, .inl (cA 0, 12, .inl (xr'_5 1))), (x 12, .inl (cA 0, 12, .inl (xr'_5 2))), (x 13, .inl (cA 0, 48, .inl (xr'_5 3))), cE y yv, (y 9, .inr (3, [.ref (y 10), .ref (y 11), .ref (y 12), .ref (y 13), .int (nI yf), .int (nI QY'_5.1)])), (y 10, .inl (cA 0, 12, .inl (yr'_5 0))), (y 11, .inl (cA 0, 12, .inl (yr'_5 1))), (y 12, .inl (cA 0, 12, .inl (yr'_5 2))), (y 13, .inl (cA 0, 48, .inl (yr'_5 3))), (pa 0, .inr (2, [.ref (pa 1), .int (QX.2 0 0), .int (QX.2 0 1), .int (QX.2 0 2)])), (pa 1, .inl (cA 0, 4, .inl (fun k => QX.2 0 (3 + k)))), (an, .inl (cA 0, 4, .inl g'_5))]) hP hD [0, 1, 2, 3, 4, 5, 6, 7, 8, 9, 10, 11, 12, 13, 14, 15, 16, 17, 18, 19, 20, 21, 22, 23] [] rfl rfl (by decide) (by decide) hk1 hFc hP1 hD1
  generalize H1 = H at hP hS ⊢
  have hP := hP.sub (ws' := [(o, .inr (4, [.ref F, .ref G, .int lo, .int nw, .int se'_5, .ref (pa 0), .ref an, .ref ln])), cE x xv'_5, (x 1, .inl (cA 0, 4, .inl (xd'_5 0))), (x 2, .inl (cA 0, 4, .inl (xd'_5 1))), (x 3, .inl (cA 0, 4, .inl (xd'_5 2))), (x 4, .inl (cA 0, 4, .inl (xd'_5 3))), (x 5, .inl (cA 0, 4, .inl (xd'_5 4))), (x 6, .inl (cA 1, 4, .inl (xd'_5 5))), (x 7, .inl (cA 0, 4, .inl (xd'_5 6))), (x 8, .inl (cA 0, 4, .inl (xd'_5 7))), (x 9, .inr (3, [.ref (x 10), .ref (x 11), .ref (x 12), .ref (x 13), .int (nI fi'_4), .int (nI QX'_5.1)])), (x 10, .inl (cA 0, 12, .inl (xr'_5 0))), (x 11, .inl (cA 0, 12, .inl (xr'_5 1))), (x 12, .inl (cA 0, 12, .inl (xr'_5 2))), (x 13, .inl (cA 0, 48, .inl (xr'_5 3))), cE y yv, (y 9, .inr (3, [.ref (y 10), .ref (y 11), .ref (y 12), .ref (y 13), .int (nI yf), .int (nI QY'_5.1)])), (y 10, .inl (cA 0, 12, .inl (yr'_5 0))), (y 11, .inl (cA 0, 12, .inl (yr'_5 1))), (y 12, .inl (cA 0, 12, .inl (yr'_5 2))), (y 13, .inl (cA 0, 48, .inl (yr'_5 3))), (pa 0, .inr (2, [.ref (pa 1), .int (QX.2 0 0), .int (QX.2 0 1), .int (QX.2 0 2)])), (pa 1, .inl (cA 0, 4, .inl (fun k => QX.2 0 (3 + k)))), (an, .inl (cA 0, 4, .inl g'_5))]) [0, 1, 2, 3, 4, 5, 6, 7, 8, 9, 10, 11, 12, 13, 14, 15, 16, 17, 18, 19, 20, 21, 22, 23] rfl
  have hD := hD.sub (ws' := [(o, .inr (4, [.ref F, .ref G, .int lo, .int nw, .int se'_5, .ref (pa 0), .ref an, .ref ln])), cE x xv'_5, (x 1, .inl (cA 0, 4, .inl (xd'_5 0))), (x 2, .inl (cA 0, 4, .inl (xd'_5 1))), (x 3, .inl (cA 0, 4, .inl (xd'_5 2))), (x 4, .inl (cA 0, 4, .inl (xd'_5 3))), (x 5, .inl (cA 0, 4, .inl (xd'_5 4))), (x 6, .inl (cA 1, 4, .inl (xd'_5 5))), (x 7, .inl (cA 0, 4, .inl (xd'_5 6))), (x 8, .inl (cA 0, 4, .inl (xd'_5 7))), (x 9, .inr (3, [.ref (x 10), .ref (x 11), .ref (x 12), .ref (x 13), .int (nI fi'_4), .int (nI QX'_5.1)])), (x 10, .inl (cA 0, 12, .inl (xr'_5 0))), (x 11, .inl (cA 0, 12, .inl (xr'_5 1))), (x 12, .inl (cA 0, 12, .inl (xr'_5 2))), (x 13, .inl (cA 0, 48, .inl (xr'_5 3))), cE y yv, (y 9, .inr (3, [.ref (y 10), .ref (y 11), .ref (y 12), .ref (y 13), .int (nI yf), .int (nI QY'_5.1)])), (y 10, .inl (cA 0, 12, .inl (yr'_5 0))), (y 11, .inl (cA 0, 12, .inl (yr'_5 1))), (y 12, .inl (cA 0, 12, .inl (yr'_5 2))), (y 13, .inl (cA 0, 48, .inl (yr'_5 3))), (pa 0, .inr (2, [.ref (pa 1), .int (QX.2 0 0), .int (QX.2 0 1), .int (QX.2 0 2)])), (pa 1, .inl (cA 0, 4, .inl (fun k => QX.2 0 (3 + k)))), (an, .inl (cA 0, 4, .inl g'_5))]) [0, 1, 2, 3, 4, 5, 6, 7, 8, 9, 10, 11, 12, 13, 14, 15, 16, 17, 18, 19, 20, 21, 22, 23] (by decide) rfl
  clear hPc hDc hFc hP1 hD1 hk1 hz1
  obtain ⟨rfl, rfl, rfl, rfl, rfl, hw_5_0, hw_5_1⟩ := hw
  refine lv_aload_n hx hb dX3_deliver_31 rfl (lv_at hl 1 rfl) ?_
  refine va_get (D := D) (ci := 4) (v := .ref (pa 0)) (C := RX3) (T := TX3) (N := 8) hx hb hts (fun _ h => List.mem_cons_of_mem _ (List.mem_append_left _ (List.mem_append_left _ (List.mem_append_left _ (List.mem_append_left _ (List.mem_append_right _ (h))))))) hown hK hP 0 rfl rfl 5 (by decide) (hts (.fieldLink RX3 33 "OptionWire" "arrived" "LOptionWire$Packet;") (List.mem_of_getElem? (i := 2) rfl)) (fun _ h9 => h9) rfl dX3_deliver_32 ?_
  refine va_get (D := D) (ci := 2) (v := .int (QX.2 0 0)) (C := RX1) (T := TX1) (N := 4) hx hb hts (fun _ h => List.mem_cons_of_mem _ (List.mem_append_left _ (List.mem_append_left _ (List.mem_append_left _ (List.mem_append_right _ (h)))))) hown hK hP 21 rfl rfl 1 (by decide) (hts (.fieldLink RX3 149 "OptionWire$Packet" "kind" "I") (List.mem_of_getElem? (i := 3) rfl)) (fun _ h9 => h9) rfl dX3_deliver_35 ?_
  refine W.widen (k := 0) (n := 0) (by omega) (by omega) ?_
  exact W.iret (v := (QX.2 0 0)) hx hb hr (fun t ht hW => ⟨⟨QX.2 0 0, (((hea lo (QX.2 0 0) (QX.2 0 1) (QX.2 0 2) (fun k => QX.2 0 (3 + k)) xv xd (pop QX) QY se).1), ((hea lo (QX.2 0 0) (QX.2 0 1) (QX.2 0 2) (fun k => QX.2 0 (3 + k)) xv xd (pop QX) QY se).2.1), g'_5, fi'_4, xr'_5, yr'_5, (hea lo (QX.2 0 0) (QX.2 0 1) (QX.2 0 2) (fun k => QX.2 0 (3 + k)) xv xd (pop QX) QY se).2.2.1.1, (hea lo (QX.2 0 0) (QX.2 0 1) (QX.2 0 2) (fun k => QX.2 0 (3 + k)) xv xd (pop QX) QY se).2.2.1.2, ((hea lo (QX.2 0 0) (QX.2 0 1) (QX.2 0 2) (fun k => QX.2 0 (3 + k)) xv xd (pop QX) QY se).2.2.2)), rfl, ⟨rfl, rfl, rfl, rfl, rfl, by assumption, by assumption, rfl⟩, ⟨by rw [ht]; exact hP, by rw [hAe]; exact hD⟩⟩, hS.F ht⟩) hS.2.2 dX3_deliver_38
set_option maxHeartbeats 4000000 in
set_option maxRecDepth 100000 in
/-- lose(end), a packet waits -/
theorem c_X3_lose_k (l : Launch) (D : va_G) (cA : Nat → ClassId) (sz : Nat) (o F G : Nat) (lo nw se : Int32) (pa : Nat → Nat) (an ln : Nat) (x : Nat → Nat) (y0 : Nat) (n : Int32) (xv : Nat → Int32) (xr : Nat → Nat → Int32) (xf : Nat) (QX : Qt)  (he : en n F G (x 0) y0) (hqx : rg xr xf QX) (h0 : 0 < QX.1) : Met l yX3_lose wsX3_lose ({ frames := 2, cells := 0, slots := 0, locals := 42 }) (va_Pc [.ref o, .int n] (zU D cA sz [(o, .inr (4, [.ref F, .ref G, .int lo, .int nw, .int se, .ref (pa 0), .ref an, .ref ln])), cE x xv, (x 9, .inr (3, [.ref (x 10), .ref (x 11), .ref (x 12), .ref (x 13), .int (nI xf), .int (nI QX.1)])), (x 10, .inl (cA 0, 12, .inl (xr 0))), (x 11, .inl (cA 0, 12, .inl (xr 1))), (x 12, .inl (cA 0, 12, .inl (xr 2))), (x 13, .inl (cA 0, 48, .inl (xr 3)))])) (va_Qi (fun (r : Int32) (u : Nat) => rg xr u (pop QX) ∧ r = QX.2 0 0) (fun (u : Nat) t => zB D [(o, .inr (4, [.ref F, .ref G, .int lo, .int nw, .int se, .ref (pa 0), .ref an, .ref ln])), cE x xv, (x 9, .inr (3, [.ref (x 10), .ref (x 11), .ref (x 12), .ref (x 13), .int (nI xf), .int (nI QX.1)])), (x 10, .inl (cA 0, 12, .inl (xr 0))), (x 11, .inl (cA 0, 12, .inl (xr 1))), (x 12, .inl (cA 0, 12, .inl (xr 2))), (x 13, .inl (cA 0, 48, .inl (xr 3)))] sz [(o, .inr (4, [.ref F, .ref G, .int lo, .int nw, .int se, .ref (pa 0), .ref an, .ref ln])), cE x xv, (x 9, .inr (3, [.ref (x 10), .ref (x 11), .ref (x 12), .ref (x 13), .int (nI u), .int (nI ((pop QX).1))])), (x 10, .inl (cA 0, 12, .inl (xr 0))), (x 11, .inl (cA 0, 12, .inl (xr 1))), (x 12, .inl (cA 0, 12, .inl (xr 2))), (x 13, .inl (cA 0, 48, .inl (xr 3)))] t) (va_A [(o, .inr (4, [.ref F, .ref G, .int lo, .int nw, .int se, .ref (pa 0), .ref an, .ref ln])), cE x xv, (x 9, .inr (3, [.ref (x 10), .ref (x 11), .ref (x 12), .ref (x 13), .int (nI xf), .int (nI QX.1)])), (x 10, .inl (cA 0, 12, .inl (xr 0))), (x 11, .inl (cA 0, 12, .inl (xr 1))), (x 12, .inl (cA 0, 12, .inl (xr 2))), (x 13, .inl (cA 0, 48, .inl (xr 3)))] sz)) 0 0 (va_A [(o, .inr (4, [.ref F, .ref G, .int lo, .int nw, .int se, .ref (pa 0), .ref an, .ref ln])), cE x xv, (x 9, .inr (3, [.ref (x 10), .ref (x 11), .ref (x 12), .ref (x 13), .int (nI xf), .int (nI QX.1)])), (x 10, .inl (cA 0, 12, .inl (xr 0))), (x 11, .inl (cA 0, 12, .inl (xr 1))), (x 12, .inl (cA 0, 12, .inl (xr 2))), (x 13, .inl (cA 0, 48, .inl (xr 3)))] sz) := by
  refine Met.ofW (cc := cX3_lose) (maxL := 4) (ret := (some .int)) (by decide) rfl ?_
  intro p e s m args below meth c s₁ B hml hv
  obtain ⟨rfl, hsz, hP, hK, hD0⟩ := hv
  have hx := B.exec
  have hb := B.bytes
  have hr := B.returns
  have hts := atoms_spec (ws := wsX3_lose) B.pre
  have hown : s.vm.findClass RX3 = some m.cls := findClass_of_methodNamed B.named
  have hlocks := B.notSynchronized
  subst hsz
  have hD := hD0.self (sz := s.heap.size)
  generalize hAe : va_A [(o, .inr (4, [.ref F, .ref G, .int lo, .int nw, .int se, .ref (pa 0), .ref an, .ref ln])), cE x xv, (x 9, .inr (3, [.ref (x 10), .ref (x 11), .ref (x 12), .ref (x 13), .int (nI xf), .int (nI QX.1)])), (x 10, .inl (cA 0, 12, .inl (xr 0))), (x 11, .inl (cA 0, 12, .inl (xr 1))), (x 12, .inl (cA 0, 12, .inl (xr 2))), (x 13, .inl (cA 0, 48, .inl (xr 3)))] s.heap.size = A at hD ⊢
  have hA : ∀ q : Nat, s.heap.size ≤ q → A q := fun q h => by rw [← hAe]; exact Or.inr h
  have hS : va_S A s.heap s.heap [] := va_S.rf
  have hl := lv_entry ([.ref o, .int n]) (n := 4) (Nat.le_of_ble_eq_true rfl)
  rw [lg_entry_eq]
  generalize (lg_sl ([.ref o, .int n]) ++ List.replicate (4 - (lg_sl ([.ref o, .int n])).length) Slot.unset).toArray = ls at hl ⊢
  have hl : lv_has ls 4 [(0, .ref o), (1, .int n)] := hl
  refine lv_iload_n hx hb dX3_lose_0 rfl (lv_at hl 1 rfl) ?_
  have hPc := hP.sub (ws' := []) [] rfl
  have hDc := hD.sub (ws' := []) [] (by decide) rfl
  have hFc := va_free (wc := []) hD hS hA [] rfl
  refine va_callv (va_runS (As := [.int n]) (rest := []) ⟨hx, hb, hml, hown, hts⟩ (c_X3_checkEnd_k l D cA s.heap.size n (en_inr he)) (va_cwS 1 hts gX3_lose_X3_checkEnd rfl rfl rfl (by decide +kernel) ⟨Nat.le_of_ble_eq_true rfl, Nat.le_of_ble_eq_true rfl⟩) ⟨zU_blind, fun U hU hW => ⟨rfl, zU_call hU hPc hW.alike hK hDc⟩⟩ rfl rfl hl.1 rfl (lv_room (Nat.le_of_ble_eq_true rfl)) dX3_lose_1 ⟨(Nat.zero_le _), (Nat.zero_le _)⟩) hS (fun q _ h => hFc q h) hFc (fun u t H1 locs ht hvm hw hB hz1 hk1 hS => ?_)
  obtain ⟨hP1, hD1⟩ := hB
  rw [ht] at hP1
  obtain ⟨hP, hD⟩ := va_join (wr := [(o, .inr (4, [.ref F, .ref G, .int lo, .int nw, .int se, .ref (pa 0), .ref an, .ref ln])), cE x xv, (x 9, .inr (3, [.ref (x 10), .ref (x 11), .ref (x 12), .ref (x 13), .int (nI xf), .int (nI QX.1)])), (x 10, .inl (cA 0, 12, .inl (xr 0))), (x 11, .inl (cA 0, 12, .inl (xr 1))), (x 12, .inl (cA 0, 12, .inl (xr 2))), (x 13, .inl (cA 0, 48, .inl (xr 3)))]) (w1 := []) hP hD [] [0, 1, 2, 3, 4, 5, 6] rfl rfl (by decide) (by decide) hk1 hFc hP1 hD1
  generalize H1 = H at hP hS ⊢
  have hP := hP.sub (ws' := [(o, .inr (4, [.ref F, .ref G, .int lo, .int nw, .int se, .ref (pa 0), .ref an, .ref ln])), cE x xv, (x 9, .inr (3, [.ref (x 10), .ref (x 11), .ref (x 12), .ref (x 13), .int (nI xf), .int (nI QX.1)])), (x 10, .inl (cA 0, 12, .inl (xr 0))), (x 11, .inl (cA 0, 12, .inl (xr 1))), (x 12, .inl (cA 0, 12, .inl (xr 2))), (x 13, .inl (cA 0, 48, .inl (xr 3)))]) [0, 1, 2, 3, 4, 5, 6] rfl
  have hD := hD.sub (ws' := [(o, .inr (4, [.ref F, .ref G, .int lo, .int nw, .int se, .ref (pa 0), .ref an, .ref ln])), cE x xv, (x 9, .inr (3, [.ref (x 10), .ref (x 11), .ref (x 12), .ref (x 13), .int (nI xf), .int (nI QX.1)])), (x 10, .inl (cA 0, 12, .inl (xr 0))), (x 11, .inl (cA 0, 12, .inl (xr 1))), (x 12, .inl (cA 0, 12, .inl (xr 2))), (x 13, .inl (cA 0, 48, .inl (xr 3)))]) [0, 1, 2, 3, 4, 5, 6] (by decide) rfl
  clear hPc hDc hFc hP1 hD1 hk1 hz1
  have hw_1 := hw
  refine lv_aload_n hx hb dX3_lose_4 rfl (lv_at hl 0 rfl) ?_
  refine lv_iload_n hx hb dX3_lose_5 rfl (lv_at hl 1 rfl) ?_
  have hPc := hP.sub (ws' := [(o, .inr (4, [.ref F, .ref G, .int lo, .int nw, .int se, .ref (pa 0), .ref an, .ref ln]))]) [0] rfl
  have hDc := hD.sub (ws' := [(o, .inr (4, [.ref F, .ref G, .int lo, .int nw, .int se, .ref (pa 0), .ref an, .ref ln]))]) [0] (by decide) rfl
  have hFc := va_free (wc := [(o, .inr (4, [.ref F, .ref G, .int lo, .int nw, .int se, .ref (pa 0), .ref an, .ref ln]))]) hD hS hA [0] rfl
  refine va_callr (va_runV (As := [.int n]) (rest := []) ⟨hx, hb, hml, hown, hts⟩ (c_X3_endOf l D cA H.size o F G lo nw se pa an ln n (x 0) y0 (by assumption)) (cwV 1 hts gX3_lose_X3_endOf rfl rfl rfl (by decide +kernel) ⟨Nat.le_of_ble_eq_true rfl, Nat.le_of_ble_eq_true rfl⟩) ⟨zU_blind, va_recv hK hPc (ci := 4) (q0 := 0) rfl rfl, fun U hU hW => ⟨rfl, zU_call hU hPc hW.alike hK hDc⟩⟩ rfl rfl hl.1 rfl (lv_room (Nat.le_of_ble_eq_true rfl)) dX3_lose_6 ⟨(Nat.zero_le _), (Nat.zero_le _)⟩) hS (fun q _ h => hFc q h) hFc (fun u ra t H1 locs ht hvm hw hB hz1 hk1 hS => ?_)
  obtain ⟨hra, hP1, hD1⟩ := hB
  rw [ht] at hP1
  subst ra
  obtain ⟨hP, hD⟩ := va_join (wr := [cE x xv, (x 9, .inr (3, [.ref (x 10), .ref (x 11), .ref (x 12), .ref (x 13), .int (nI xf), .int (nI QX.1)])), (x 10, .inl (cA 0, 12, .inl (xr 0))), (x 11, .inl (cA 0, 12, .inl (xr 1))), (x 12, .inl (cA 0, 12, .inl (xr 2))), (x 13, .inl (cA 0, 48, .inl (xr 3)))]) (w1 := [(o, .inr (4, [.ref F, .ref G, .int lo, .int nw, .int se, .ref (pa 0), .ref an, .ref ln]))]) hP hD [0] [1, 2, 3, 4, 5, 6] rfl rfl (by decide) (by decide) hk1 hFc hP1 hD1
  generalize H1 = H at hP hS ⊢
  have hP := hP.sub (ws' := [(o, .inr (4, [.ref F, .ref G, .int lo, .int nw, .int se, .ref (pa 0), .ref an, .ref ln])), cE x xv, (x 9, .inr (3, [.ref (x 10), .ref (x 11), .ref (x 12), .ref (x 13), .int (nI xf), .int (nI QX.1)])), (x 10, .inl (cA 0, 12, .inl (xr 0))), (x 11, .inl (cA 0, 12, .inl (xr 1))), (x 12, .inl (cA 0, 12, .inl (xr 2))), (x 13, .inl (cA 0, 48, .inl (xr 3)))]) [6, 0, 1, 2, 3, 4, 5] rfl
  have hD := hD.sub (ws' := [(o, .inr (4, [.ref F, .ref G, .int lo, .int nw, .int se, .ref (pa 0), .ref an, .ref ln])), cE x xv, (x 9, .inr (3, [.ref (x 10), .ref (x 11), .ref (x 12), .ref (x 13), .int (nI xf), .int (nI QX.1)])), (x 10, .inl (cA 0, 12, .inl (xr 0))), (x 11, .inl (cA 0, 12, .inl (xr 1))), (x 12, .inl (cA 0, 12, .inl (xr 2))), (x 13, .inl (cA 0, 48, .inl (xr 3)))]) [6, 0, 1, 2, 3, 4, 5] (by decide) rfl
  clear hPc hDc hFc hP1 hD1 hk1 hz1
  have hw_2 := hw
  refine va_get (D := D) (ci := 1) (v := .ref (x 9)) (C := RX0) (T := TX0) (N := 16) hx hb hts (fun _ h => List.mem_cons_of_mem _ (List.mem_append_left _ (List.mem_append_left _ (List.mem_append_left _ (List.mem_append_left _ (List.mem_append_right _ (h))))))) hown hK hP 1 rfl rfl 8 (by decide) (hts (.fieldLink RX3 132 "OptionWire$End" "packets" "LOptionWire$PacketQueue;") (List.mem_of_getElem? (i := 1) rfl)) (fun _ h9 => h9) rfl dX3_lose_9 ?_
  refine lv_astore_n (lv' := [(2, .ref (x 9)), (0, .ref o), (1, .int n)]) hx hb dX3_lose_12 rfl hl (by decide) rfl (fun ls hl => ?_)
  refine lv_aload_n hx hb dX3_lose_13 rfl (lv_at hl 0 rfl) ?_
  refine lv_iconst (v := 0) hx hb dX3_lose_14 (by decide) ?_
  have hPc := hP.sub (ws' := [(x 9, .inr (3, [.ref (x 10), .ref (x 11), .ref (x 12), .ref (x 13), .int (nI xf), .int (nI QX.1)]))]) [2] rfl
  have hDc := hD.sub (ws' := [(x 9, .inr (3, [.ref (x 10), .ref (x 11), .ref (x 12), .ref (x 13), .int (nI xf), .int (nI QX.1)]))]) [2] (by decide) rfl
  have hFc := va_free (wc := [(x 9, .inr (3, [.ref (x 10), .ref (x 11), .ref (x 12), .ref (x 13), .int (nI xf), .int (nI QX.1)]))]) hD hS hA [2] rfl
  refine va_callv (va_runS (As := [.ref (x 9), .int 0]) (rest := []) ⟨hx, hb, hml, hown, hts⟩ (c_X3_checkPlace_k l D cA H.size x xf QX 0 h0 hqx.2.1) (va_cwS 2 hts gX3_lose_X3_checkPlace rfl rfl rfl (by decide +kernel) ⟨Nat.le_of_ble_eq_true rfl, Nat.le_of_ble_eq_true rfl⟩) ⟨zU_blind, fun U hU hW => ⟨rfl, zU_call hU hPc hW.alike hK hDc⟩⟩ rfl rfl hl.1 rfl (lv_room (Nat.le_of_ble_eq_true rfl)) dX3_lose_15 ⟨(Nat.zero_le _), (Nat.zero_le _)⟩) hS (fun q _ h => hFc q h) hFc (fun u t H1 locs ht hvm hw hB hz1 hk1 hS => ?_)
  obtain ⟨hP1, hD1⟩ := hB
  rw [ht] at hP1
  obtain ⟨hP, hD⟩ := va_join (wr := [(o, .inr (4, [.ref F, .ref G, .int lo, .int nw, .int se, .ref (pa 0), .ref an, .ref ln])), cE x xv, (x 10, .inl (cA 0, 12, .inl (xr 0))), (x 11, .inl (cA 0, 12, .inl (xr 1))), (x 12, .inl (cA 0, 12, .inl (xr 2))), (x 13, .inl (cA 0, 48, .inl (xr 3)))]) (w1 := [(x 9, .inr (3, [.ref (x 10), .ref (x 11), .ref (x 12), .ref (x 13), .int (nI xf), .int (nI QX.1)]))]) hP hD [2] [0, 1, 3, 4, 5, 6] rfl rfl (by decide) (by decide) hk1 hFc hP1 hD1
  generalize H1 = H at hP hS ⊢
  have hP := hP.sub (ws' := [(o, .inr (4, [.ref F, .ref G, .int lo, .int nw, .int se, .ref (pa 0), .ref an, .ref ln])), cE x xv, (x 9, .inr (3, [.ref (x 10), .ref (x 11), .ref (x 12), .ref (x 13), .int (nI xf), .int (nI QX.1)])), (x 10, .inl (cA 0, 12, .inl (xr 0))), (x 11, .inl (cA 0, 12, .inl (xr 1))), (x 12, .inl (cA 0, 12, .inl (xr 2))), (x 13, .inl (cA 0, 48, .inl (xr 3)))]) [0, 1, 6, 2, 3, 4, 5] rfl
  have hD := hD.sub (ws' := [(o, .inr (4, [.ref F, .ref G, .int lo, .int nw, .int se, .ref (pa 0), .ref an, .ref ln])), cE x xv, (x 9, .inr (3, [.ref (x 10), .ref (x 11), .ref (x 12), .ref (x 13), .int (nI xf), .int (nI QX.1)])), (x 10, .inl (cA 0, 12, .inl (xr 0))), (x 11, .inl (cA 0, 12, .inl (xr 1))), (x 12, .inl (cA 0, 12, .inl (xr 2))), (x 13, .inl (cA 0, 48, .inl (xr 3)))]) [0, 1, 6, 2, 3, 4, 5] (by decide) rfl
  clear hPc hDc hFc hP1 hD1 hk1 hz1
  have hw_3 := hw
  refine lv_aload_n hx hb dX3_lose_18 rfl (lv_at hl 0 rfl) ?_
  refine lv_iconst (v := 0) hx hb dX3_lose_19 (by decide) ?_
  have hPc := hP.sub (ws' := [(x 9, .inr (3, [.ref (x 10), .ref (x 11), .ref (x 12), .ref (x 13), .int (nI xf), .int (nI QX.1)])), (x 10, .inl (cA 0, 12, .inl (xr 0))), (x 11, .inl (cA 0, 12, .inl (xr 1))), (x 12, .inl (cA 0, 12, .inl (xr 2))), (x 13, .inl (cA 0, 48, .inl (xr 3)))]) [2, 3, 4, 5, 6] rfl
  have hDc := hD.sub (ws' := [(x 9, .inr (3, [.ref (x 10), .ref (x 11), .ref (x 12), .ref (x 13), .int (nI xf), .int (nI QX.1)])), (x 10, .inl (cA 0, 12, .inl (xr 0))), (x 11, .inl (cA 0, 12, .inl (xr 1))), (x 12, .inl (cA 0, 12, .inl (xr 2))), (x 13, .inl (cA 0, 48, .inl (xr 3)))]) [2, 3, 4, 5, 6] (by decide) rfl
  have hFc := va_free (wc := [(x 9, .inr (3, [.ref (x 10), .ref (x 11), .ref (x 12), .ref (x 13), .int (nI xf), .int (nI QX.1)])), (x 10, .inl (cA 0, 12, .inl (xr 0))), (x 11, .inl (cA 0, 12, .inl (xr 1))), (x 12, .inl (cA 0, 12, .inl (xr 2))), (x 13, .inl (cA 0, 48, .inl (xr 3)))]) hD hS hA [2, 3, 4, 5, 6] rfl
  refine va_calli (va_runV (As := [.int 0]) (rest := []) ⟨hx, hb, hml, hown, hts⟩ (c_X2_kindOf l D cA H.size x xf QX xr 0 hqx h0) (cwV 1 hts gX3_lose_X2_kindOf rfl rfl rfl (by decide +kernel) ⟨Nat.le_of_ble_eq_true rfl, Nat.le_of_ble_eq_true rfl⟩) ⟨zU_blind, va_recv hK hPc (ci := 3) (q0 := 0) rfl rfl, fun U hU hW => ⟨rfl, zU_call hU hPc hW.alike hK hDc⟩⟩ rfl rfl hl.1 rfl (lv_room (Nat.le_of_ble_eq_true rfl)) dX3_lose_20 ⟨(Nat.zero_le _), (Nat.zero_le _)⟩) hS (fun q _ h => hFc q h) hFc (fun zr u t H1 locs ht hvm hw hB hz1 hk1 hS => ?_)
  obtain ⟨hP1, hD1⟩ := hB
  rw [ht] at hP1
  obtain ⟨hP, hD⟩ := va_join (wr := [(o, .inr (4, [.ref F, .ref G, .int lo, .int nw, .int se, .ref (pa 0), .ref an, .ref ln])), cE x xv]) (w1 := [(x 9, .inr (3, [.ref (x 10), .ref (x 11), .ref (x 12), .ref (x 13), .int (nI xf), .int (nI QX.1)])), (x 10, .inl (cA 0, 12, .inl (xr 0))), (x 11, .inl (cA 0, 12, .inl (xr 1))), (x 12, .inl (cA 0, 12, .inl (xr 2))), (x 13, .inl (cA 0, 48, .inl (xr 3)))]) hP hD [2, 3, 4, 5, 6] [0, 1] rfl rfl (by decide) (by decide) hk1 hFc hP1 hD1
  generalize H1 = H at hP hS ⊢
  have hP := hP.sub (ws' := [(o, .inr (4, [.ref F, .ref G, .int lo, .int nw, .int se, .ref (pa 0), .ref an, .ref ln])), cE x xv, (x 9, .inr (3, [.ref (x 10), .ref (x 11), .ref (x 12), .ref (x 13), .int (nI xf), .int (nI QX.1)])), (x 10, .inl (cA 0, 12, .inl (xr 0))), (x 11, .inl (cA 0, 12, .inl (xr 1))), (x 12, .inl (cA 0, 12, .inl (xr 2))), (x 13, .inl (cA 0, 48, .inl (xr 3)))]) [0, 1, 2, 3, 4, 5, 6] rfl
  have hD := hD.sub (ws' := [(o, .inr (4, [.ref F, .ref G, .int lo, .int nw, .int se, .ref (pa 0), .ref an, .ref ln])), cE x xv, (x 9, .inr (3, [.ref (x 10), .ref (x 11), .ref (x 12), .ref (x 13), .int (nI xf), .int (nI QX.1)])), (x 10, .inl (cA 0, 12, .inl (xr 0))), (x 11, .inl (cA 0, 12, .inl (xr 1))), (x 12, .inl (cA 0, 12, .inl (xr 2))), (x 13, .inl (cA 0, 48, .inl (xr 3)))]) [0, 1, 2, 3, 4, 5, 6] (by decide) rfl
  clear hPc hDc hFc hP1 hD1 hk1 hz1
  have hw_4 := hw
  obtain rfl := hw
  refine lv_istore_n (lv' := [(3, .int (QX.2 0 0)), (2, .ref (x 9)), (0, .ref o), (1, .int n)]) hx hb dX3_lose_23 rfl hl (by decide) rfl (fun ls hl => ?_)
  refine lv_aload_n hx hb dX3_lose_24 rfl (lv_at hl 1 rfl) ?_
  have hPc := hP.sub (ws' := [(x 9, .inr (3, [.ref (x 10), .ref (x 11), .ref (x 12), .ref (x 13), .int (nI xf), .int (nI QX.1)])), (x 10, .inl (cA 0, 12, .inl (xr 0))), (x 11, .inl (cA 0, 12, .inl (xr 1))), (x 12, .inl (cA 0, 12, .inl (xr 2))), (x 13, .inl (cA 0, 48, .inl (xr 3)))]) [2, 3, 4, 5, 6] rfl
  have hDc := hD.sub (ws' := [(x 9, .inr (3, [.ref (x 10), .ref (x 11), .ref (x 12), .ref (x 13), .int (nI xf), .int (nI QX.1)])), (x 10, .inl (cA 0, 12, .inl (xr 0))), (x 11, .inl (cA 0, 12, .inl (xr 1))), (x 12, .inl (cA 0, 12, .inl (xr 2))), (x 13, .inl (cA 0, 48, .inl (xr 3)))]) [2, 3, 4, 5, 6] (by decide) rfl
  have hFc := va_free (wc := [(x 9, .inr (3, [.ref (x 10), .ref (x 11), .ref (x 12), .ref (x 13), .int (nI xf), .int (nI QX.1)])), (x 10, .inl (cA 0, 12, .inl (xr 0))), (x 11, .inl (cA 0, 12, .inl (xr 1))), (x 12, .inl (cA 0, 12, .inl (xr 2))), (x 13, .inl (cA 0, 48, .inl (xr 3)))]) hD hS hA [2, 3, 4, 5, 6] rfl
  refine va_callv (va_runV (As := []) (rest := []) ⟨hx, hb, hml, hown, hts⟩ (c_X2_dropFirst l D cA H.size x xf QX xr hqx (by assumption)) (cwV 0 hts gX3_lose_X2_dropFirst rfl rfl rfl (by decide +kernel) ⟨Nat.le_of_ble_eq_true rfl, Nat.le_of_ble_eq_true rfl⟩) ⟨zU_blind, va_recv hK hPc (ci := 3) (q0 := 0) rfl rfl, fun U hU hW => ⟨rfl, zU_call hU hPc hW.alike hK hDc⟩⟩ rfl rfl hl.1 rfl (lv_room (Nat.le_of_ble_eq_true rfl)) dX3_lose_25 ⟨(Nat.zero_le _), (Nat.zero_le _)⟩) hS (fun q _ h => hFc q h) hFc (fun u t H1 locs ht hvm hw hB hz1 hk1 hS => ?_)
  obtain ⟨fi'_5, rfl⟩ : ∃ z, z = u := ⟨_, rfl⟩
  obtain ⟨hP1, hD1⟩ := hB
  rw [ht] at hP1
  try dsimp only at hw hP1 hD1
  obtain ⟨hP, hD⟩ := va_join (wr := [(o, .inr (4, [.ref F, .ref G, .int lo, .int nw, .int se, .ref (pa 0), .ref an, .ref ln])), cE x xv]) (w1 := [(x 9, .inr (3, [.ref (x 10), .ref (x 11), .ref (x 12), .ref (x 13), .int (nI fi'_5), .int (nI ((pop QX).1))])), (x 10, .inl (cA 0, 12, .inl (xr 0))), (x 11, .inl (cA 0, 12, .inl (xr 1))), (x 12, .inl (cA 0, 12, .inl (xr 2))), (x 13, .inl (cA 0, 48, .inl (xr 3)))]) hP hD [2, 3, 4, 5, 6] [0, 1] rfl rfl (by decide) (by decide) hk1 hFc hP1 hD1
  generalize H1 = H at hP hS ⊢
  have hP := hP.sub (ws' := [(o, .inr (4, [.ref F, .ref G, .int lo, .int nw, .int se, .ref (pa 0), .ref an, .ref ln])), cE x xv, (x 9, .inr (3, [.ref (x 10), .ref (x 11), .ref (x 12), .ref (x 13), .int (nI fi'_5), .int (nI ((pop QX).1))])), (x 10, .inl (cA 0, 12, .inl (xr 0))), (x 11, .inl (cA 0, 12, .inl (xr 1))), (x 12, .inl (cA 0, 12, .inl (xr 2))), (x 13, .inl (cA 0, 48, .inl (xr 3)))]) [0, 1, 2, 3, 4, 5, 6] rfl
  have hD := hD.sub (ws' := [(o, .inr (4, [.ref F, .ref G, .int lo, .int nw, .int se, .ref (pa 0), .ref an, .ref ln])), cE x xv, (x 9, .inr (3, [.ref (x 10), .ref (x 11), .ref (x 12), .ref (x 13), .int (nI fi'_5), .int (nI ((pop QX).1))])), (x 10, .inl (cA 0, 12, .inl (xr 0))), (x 11, .inl (cA 0, 12, .inl (xr 1))), (x 12, .inl (cA 0, 12, .inl (xr 2))), (x 13, .inl (cA 0, 48, .inl (xr 3)))]) [0, 1, 2, 3, 4, 5, 6] (by decide) rfl
  clear hPc hDc hFc hP1 hD1 hk1 hz1
  have hw_5 := hw
  refine lv_iload_n hx hb dX3_lose_28 rfl (lv_at hl 0 rfl) ?_
  refine W.widen (k := 0) (n := 0) (by omega) (by omega) ?_
  exact W.iret (v := (QX.2 0 0)) hx hb hr (fun t ht hW => ⟨⟨QX.2 0 0, (fi'_5), rfl, ⟨by assumption, rfl⟩, ⟨by rw [ht]; exact hP, by rw [hAe]; exact hD⟩⟩, hS.F ht⟩) hS.2.2 dX3_lose_29
set_option maxHeartbeats 4000000 in
set_option maxRecDepth 100000 in
theorem c_X3_deliver_e (l : Launch) (D : va_G) (cA : Nat → ClassId) (zv : Nat → Nat) (sz : Nat) (hl0 : l.stackTraces = false) (o F G : Nat) (lo nw se : Int32) (pa : Nat → Nat) (an ln : Nat) (x : Nat → Nat) (y0 : Nat) (n : Int32) (xv : Nat → Int32) (xf : Nat) (QX : Qt) (he : en n F G (x 0) y0) (h0 : QX.1 = 0) : vx_Met l yX3_deliver wsX3_deliver ({ frames := 9, cells := 1, slots := 6, locals := 121 }) (va_Pc [.ref o, .int n] (zUX D cA zv sz [(o, .inr (4, [.ref F, .ref G, .int lo, .int nw, .int se, .ref (pa 0), .ref an, .ref ln])), cE x xv, (x 9, .inr (3, [.ref (x 10), .ref (x 11), .ref (x 12), .ref (x 13), .int (nI xf), .int (nI QX.1)]))])) (va_Qi (fun (_ : Int32) (_ : Unit) => False) (fun (_ : Unit) _ => True) (va_A [(o, .inr (4, [.ref F, .ref G, .int lo, .int nw, .int se, .ref (pa 0), .ref an, .ref ln])), cE x xv, (x 9, .inr (3, [.ref (x 10), .ref (x 11), .ref (x 12), .ref (x 13), .int (nI xf), .int (nI QX.1)]))] sz)) (vx_X (fun (_ : Unit) => True) (fun E (_ : Unit) t => E = "java/util/NoSuchElementException" ∧ zB D [(o, .inr (4, [.ref F, .ref G, .int lo, .int nw, .int se, .ref (pa 0), .ref an, .ref ln])), cE x xv, (x 9, .inr (3, [.ref (x 10), .ref (x 11), .ref (x 12), .ref (x 13), .int (nI xf), .int (nI QX.1)]))] sz [(o, .inr (4, [.ref F, .ref G, .int lo, .int nw, .int se, .ref (pa 0), .ref an, .ref ln])), cE x xv, (x 9, .inr (3, [.ref (x 10), .ref (x 11), .ref (x 12), .ref (x 13), .int (nI xf), .int (nI QX.1)]))] t) (va_A [(o, .inr (4, [.ref F, .ref G, .int lo, .int nw, .int se, .ref (pa 0), .ref an, .ref ln])), cE x xv, (x 9, .inr (3, [.ref (x 10), .ref (x 11), .ref (x 12), .ref (x 13), .int (nI xf), .int (nI QX.1)]))] sz)) 1 6 (va_A [(o, .inr (4, [.ref F, .ref G, .int lo, .int nw, .int se, .ref (pa 0), .ref an, .ref ln])), cE x xv, (x 9, .inr (3, [.ref (x 10), .ref (x 11), .ref (x 12), .ref (x 13), .int (nI xf), .int (nI QX.1)]))] sz) := by
  refine vx_ofW (cc := cX3_deliver) (maxL := 3) (ret := (some .int)) (by decide) rfl ?_
  intro p e s m args below meth c s₁ B hml htab hv
  obtain ⟨rfl, ⟨hsz, hP, hK, hD0, hE0⟩, hX0⟩ := hv
  have hx := B.exec
  have hb := B.bytes
  have hr := B.returns
  have hts := atoms_spec (ws := wsX3_deliver) B.pre
  have hown : s.vm.findClass RX3 = some m.cls := findClass_of_methodNamed B.named
  have hlocks := B.notSynchronized
  subst hsz
  have hD := hD0.self (sz := s.heap.size)
  generalize hAe : va_A [(o, .inr (4, [.ref F, .ref G, .int lo, .int nw, .int se, .ref (pa 0), .ref an, .ref ln])), cE x xv, (x 9, .inr (3, [.ref (x 10), .ref (x 11), .ref (x 12), .ref (x 13), .int (nI xf), .int (nI QX.1)]))] s.heap.size = A at hD hE0 hX0 ⊢
  have hA : ∀ q : Nat, s.heap.size ≤ q → A q := fun q h => by rw [← hAe]; exact Or.inr h
  have hS : va_S A s.heap s.heap [] := va_S.rf
  have hl := lv_entry ([.ref o, .int n]) (n := 3) (Nat.le_of_ble_eq_true rfl)
  rw [lg_entry_eq]
  generalize (lg_sl ([.ref o, .int n]) ++ List.replicate (3 - (lg_sl ([.ref o, .int n])).length) Slot.unset).toArray = ls at hl ⊢
  have hl : lv_has ls 3 [(0, .ref o), (1, .int n)] := hl
  refine lv_iload_n hx hb dX3_deliver_0 rfl (lv_at hl 1 rfl) ?_
  have hPc := hP.sub (ws' := []) [] rfl
  have hDc := hD.sub (ws' := []) [] (by decide) rfl
  have hFc := va_free (wc := []) hD hS hA [] rfl
  refine va_callv (va_runS (As := [.int n]) (rest := []) ⟨hx, hb, hml, hown, hts⟩ (c_X3_checkEnd_k l D cA s.heap.size n (en_inr he)) (va_cwS 1 hts gX3_deliver_X3_checkEnd rfl rfl rfl (by decide +kernel) ⟨Nat.le_of_ble_eq_true rfl, Nat.le_of_ble_eq_true rfl⟩) ⟨zU_blind, fun U hU hW => ⟨rfl, zU_call hU hPc hW.alike hK hDc⟩⟩ rfl rfl hl.1 rfl (lv_room (Nat.le_of_ble_eq_true rfl)) dX3_deliver_1 ⟨(Nat.zero_le _), (Nat.zero_le _)⟩) hS (fun q _ h => hFc q h) hFc (fun u t H1 locs ht hvm hw hB hz1 hk1 hS => ?_)
  obtain ⟨hP1, hD1⟩ := hB
  rw [ht] at hP1
  obtain ⟨hP, hD⟩ := va_join (wr := [(o, .inr (4, [.ref F, .ref G, .int lo, .int nw, .int se, .ref (pa 0), .ref an, .ref ln])), cE x xv, (x 9, .inr (3, [.ref (x 10), .ref (x 11), .ref (x 12), .ref (x 13), .int (nI xf), .int (nI QX.1)]))]) (w1 := []) hP hD [] [0, 1, 2] rfl rfl (by decide) (by decide) hk1 hFc hP1 hD1
  generalize H1 = H at hP hS ⊢
  have hP := hP.sub (ws' := [(o, .inr (4, [.ref F, .ref G, .int lo, .int nw, .int se, .ref (pa 0), .ref an, .ref ln])), cE x xv, (x 9, .inr (3, [.ref (x 10), .ref (x 11), .ref (x 12), .ref (x 13), .int (nI xf), .int (nI QX.1)]))]) [0, 1, 2] rfl
  have hD := hD.sub (ws' := [(o, .inr (4, [.ref F, .ref G, .int lo, .int nw, .int se, .ref (pa 0), .ref an, .ref ln])), cE x xv, (x 9, .inr (3, [.ref (x 10), .ref (x 11), .ref (x 12), .ref (x 13), .int (nI xf), .int (nI QX.1)]))]) [0, 1, 2] (by decide) rfl
  clear hPc hDc hFc hP1 hD1 hk1 hz1
  have hw_1 := hw
  refine lv_aload_n hx hb dX3_deliver_4 rfl (lv_at hl 0 rfl) ?_
  refine lv_iload_n hx hb dX3_deliver_5 rfl (lv_at hl 1 rfl) ?_
  have hPc := hP.sub (ws' := [(o, .inr (4, [.ref F, .ref G, .int lo, .int nw, .int se, .ref (pa 0), .ref an, .ref ln]))]) [0] rfl
  have hDc := hD.sub (ws' := [(o, .inr (4, [.ref F, .ref G, .int lo, .int nw, .int se, .ref (pa 0), .ref an, .ref ln]))]) [0] (by decide) rfl
  have hFc := va_free (wc := [(o, .inr (4, [.ref F, .ref G, .int lo, .int nw, .int se, .ref (pa 0), .ref an, .ref ln]))]) hD hS hA [0] rfl
  refine va_callr (va_runV (As := [.int n]) (rest := []) ⟨hx, hb, hml, hown, hts⟩ (c_X3_endOf l D cA H.size o F G lo nw se pa an ln n (x 0) y0 (by assumption)) (cwV 1 hts gX3_deliver_X3_endOf rfl rfl rfl (by decide +kernel) ⟨Nat.le_of_ble_eq_true rfl, Nat.le_of_ble_eq_true rfl⟩) ⟨zU_blind, va_recv hK hPc (ci := 4) (q0 := 0) rfl rfl, fun U hU hW => ⟨rfl, zU_call hU hPc hW.alike hK hDc⟩⟩ rfl rfl hl.1 rfl (lv_room (Nat.le_of_ble_eq_true rfl)) dX3_deliver_6 ⟨(Nat.zero_le _), (Nat.zero_le _)⟩) hS (fun q _ h => hFc q h) hFc (fun u ra t H1 locs ht hvm hw hB hz1 hk1 hS => ?_)
  obtain ⟨hra, hP1, hD1⟩ := hB
  rw [ht] at hP1
  subst ra
  obtain ⟨hP, hD⟩ := va_join (wr := [cE x xv, (x 9, .inr (3, [.ref (x 10), .ref (x 11), .ref (x 12), .ref (x 13), .int (nI xf), .int (nI QX.1)]))]) (w1 := [(o, .inr (4, [.ref F, .ref G, .int lo, .int nw, .int se, .ref (pa 0), .ref an, .ref ln]))]) hP hD [0] [1, 2] rfl rfl (by decide) (by decide) hk1 hFc hP1 hD1
  generalize H1 = H at hP hS ⊢
  have hP := hP.sub (ws' := [(o, .inr (4, [.ref F, .ref G, .int lo, .int nw, .int se, .ref (pa 0), .ref an, .ref ln])), cE x xv, (x 9, .inr (3, [.ref (x 10), .ref (x 11), .ref (x 12), .ref (x 13), .int (nI xf), .int (nI QX.1)]))]) [2, 0, 1] rfl
  have hD := hD.sub (ws' := [(o, .inr (4, [.ref F, .ref G, .int lo, .int nw, .int se, .ref (pa 0), .ref an, .ref ln])), cE x xv, (x 9, .inr (3, [.ref (x 10), .ref (x 11), .ref (x 12), .ref (x 13), .int (nI xf), .int (nI QX.1)]))]) [2, 0, 1] (by decide) rfl
  clear hPc hDc hFc hP1 hD1 hk1 hz1
  have hw_2 := hw
  refine va_get (D := D) (ci := 1) (v := .ref (x 9)) (C := RX0) (T := TX0) (N := 16) hx hb hts (fun _ h => List.mem_cons_of_mem _ (List.mem_append_left _ (List.mem_append_left _ (List.mem_append_left _ (List.mem_append_left _ (List.mem_append_left _ (List.mem_append_right _ (h)))))))) hown hK hP 1 rfl rfl 8 (by decide) (hts (.fieldLink RX3 132 "OptionWire$End" "packets" "LOptionWire$PacketQueue;") (List.mem_of_getElem? (i := 1) rfl)) (fun _ h9 => h9) rfl dX3_deliver_9 ?_
  refine lv_astore_n (lv' := [(2, .ref (x 9)), (0, .ref o), (1, .int n)]) hx hb dX3_deliver_12 rfl hl (by decide) rfl (fun ls hl => ?_)
  refine lv_aload_n hx hb dX3_deliver_13 rfl (lv_at hl 0 rfl) ?_
  refine lv_iconst (v := 0) hx hb dX3_deliver_14 (by decide) ?_
  have hPc := hP.sub (ws' := [(x 9, .inr (3, [.ref (x 10), .ref (x 11), .ref (x 12), .ref (x 13), .int (nI xf), .int (nI QX.1)]))]) [2] rfl
  have hDc := hD.sub (ws' := [(x 9, .inr (3, [.ref (x 10), .ref (x 11), .ref (x 12), .ref (x 13), .int (nI xf), .int (nI QX.1)]))]) [2] (by decide) rfl
  have hFc := va_free (wc := [(x 9, .inr (3, [.ref (x 10), .ref (x 11), .ref (x 12), .ref (x 13), .int (nI xf), .int (nI QX.1)]))]) hD hS hA [2] rfl
  refine vx_callv (vx_runS (As := [.ref (x 9), .int 0]) (rest := []) ⟨hx, hb, hml, hown, hts⟩ (c_X3_checkPlace_t l D cA zv H.size hl0 x xf QX 0 (nplc0 h0) (by omega)) (va_cwS 2 hts gX3_deliver_X3_checkPlace rfl rfl rfl (by decide +kernel) ⟨Nat.le_of_ble_eq_true rfl, Nat.le_of_ble_eq_true rfl⟩) ⟨zUX_blind, fun U hU hW => ⟨rfl, zUX_call hE0 hX0 hS hFc hU hPc hW hK hDc⟩⟩ rfl rfl hl.1 rfl (lv_room (Nat.le_of_ble_eq_true rfl)) dX3_deliver_15 ⟨Nat.le_of_ble_eq_true rfl, Nat.le_of_ble_eq_true rfl⟩) hS (fun q _ h => hFc q h) hFc (fun q _ h => hFc q h) (fun E9 ce9 q9 u t H1 locs ht hvm hpx hB hz1 hk1 hS hcell hcv hcl => ?_) (fun u t H1 locs1 ht hvm hw _ _ _ _ => hw.elim)
  obtain ⟨rfl, hP1, hD1⟩ := hB
  rw [ht] at hP1
  obtain ⟨hP, hD⟩ := va_join (wr := [(o, .inr (4, [.ref F, .ref G, .int lo, .int nw, .int se, .ref (pa 0), .ref an, .ref ln])), cE x xv]) (w1 := [(x 9, .inr (3, [.ref (x 10), .ref (x 11), .ref (x 12), .ref (x 13), .int (nI xf), .int (nI QX.1)]))]) hP hD [2] [0, 1] rfl rfl (by decide) (by decide) hk1 hFc hP1 hD1
  have hP := hP.sub (ws' := [(o, .inr (4, [.ref F, .ref G, .int lo, .int nw, .int se, .ref (pa 0), .ref an, .ref ln])), cE x xv, (x 9, .inr (3, [.ref (x 10), .ref (x 11), .ref (x 12), .ref (x 13), .int (nI xf), .int (nI QX.1)]))]) [0, 1, 2] rfl
  have hD := hD.sub (ws' := [(o, .inr (4, [.ref F, .ref G, .int lo, .int nw, .int se, .ref (pa 0), .ref an, .ref ln])), cE x xv, (x 9, .inr (3, [.ref (x 10), .ref (x 11), .ref (x 12), .ref (x 13), .int (nI xf), .int (nI QX.1)]))]) [0, 1, 2] (by decide) rfl
  exact vx_out (fun x h => (htab x h).elim) hlocks hcell hcv hcl (fun t2 h7 h8 => z_thrO hP hD hS hAe h7) hS.2.2 (by omega) (by omega)
set_option maxHeartbeats 4000000 in
set_option maxRecDepth 100000 in
theorem c_X3_deliver_b (l : Launch) (D : va_G) (cA : Nat → ClassId) (zv : Nat → Nat) (sz : Nat) (hl0 : l.stackTraces = false) (o F G : Nat) (lo nw se : Int32) (pa : Nat → Nat) (an ln : Nat) (n  : Int32) (hbad : ¬ inr n 0 1) : vx_Met l yX3_deliver wsX3_deliver ({ frames := 9, cells := 1, slots := 6, locals := 120 }) (va_Pc [.ref o, .int n] (zUX D cA zv sz [(o, .inr (4, [.ref F, .ref G, .int lo, .int nw, .int se, .ref (pa 0), .ref an, .ref ln]))])) (va_Qi (fun (_ : Int32) (_ : Unit) => False) (fun (_ : Unit) _ => True) (va_A [(o, .inr (4, [.ref F, .ref G, .int lo, .int nw, .int se, .ref (pa 0), .ref an, .ref ln]))] sz)) (vx_X (fun (_ : Unit) => True) (fun E (_ : Unit) t => E = "java/lang/IllegalArgumentException" ∧ zB D [(o, .inr (4, [.ref F, .ref G, .int lo, .int nw, .int se, .ref (pa 0), .ref an, .ref ln]))] sz [(o, .inr (4, [.ref F, .ref G, .int lo, .int nw, .int se, .ref (pa 0), .ref an, .ref ln]))] t) (va_A [(o, .inr (4, [.ref F, .ref G, .int lo, .int nw, .int se, .ref (pa 0), .ref an, .ref ln]))] sz)) 1 6 (va_A [(o, .inr (4, [.ref F, .ref G, .int lo, .int nw, .int se, .ref (pa 0), .ref an, .ref ln]))] sz) := by
  refine vx_ofW (cc := cX3_deliver) (maxL := 3) (ret := (some .int)) (by decide) rfl ?_
  intro p e s m args below meth c s₁ B hml htab hv
  obtain ⟨rfl, ⟨hsz, hP, hK, hD0, hE0⟩, hX0⟩ := hv
  have hx := B.exec
  have hb := B.bytes
  have hr := B.returns
  have hts := atoms_spec (ws := wsX3_deliver) B.pre
  have hown : s.vm.findClass RX3 = some m.cls := findClass_of_methodNamed B.named
  have hlocks := B.notSynchronized
  subst hsz
  have hD := hD0.self (sz := s.heap.size)
  generalize hAe : va_A [(o, .inr (4, [.ref F, .ref G, .int lo, .int nw, .int se, .ref (pa 0), .ref an, .ref ln]))] s.heap.size = A at hD hE0 hX0 ⊢
  have hA : ∀ q : Nat, s.heap.size ≤ q → A q := fun q h => by rw [← hAe]; exact Or.inr h
  have hS : va_S A s.heap s.heap [] := va_S.rf
  have hl := lv_entry ([.ref o, .int n]) (n := 3) (Nat.le_of_ble_eq_true rfl)
  rw [lg_entry_eq]
  generalize (lg_sl ([.ref o, .int n]) ++ List.replicate (3 - (lg_sl ([.ref o, .int n])).length) Slot.unset).toArray = ls at hl ⊢
  have hl : lv_has ls 3 [(0, .ref o), (1, .int n)] := hl
  refine lv_iload_n hx hb dX3_deliver_0 rfl (lv_at hl 1 rfl) ?_
  have hPc := hP.sub (ws' := []) [] rfl
  have hDc := hD.sub (ws' := []) [] (by decide) rfl
  have hFc := va_free (wc := []) hD hS hA [] rfl
  refine vx_callv (vx_runS (As := [.int n]) (rest := []) ⟨hx, hb, hml, hown, hts⟩ (c_X3_checkEnd_t l D cA zv s.heap.size hl0 n hbad) (va_cwS 1 hts gX3_deliver_X3_checkEnd rfl rfl rfl (by decide +kernel) ⟨Nat.le_of_ble_eq_true rfl, Nat.le_of_ble_eq_true rfl⟩) ⟨zUX_blind, fun U hU hW => ⟨rfl, zUX_call hE0 hX0 hS hFc hU hPc hW hK hDc⟩⟩ rfl rfl hl.1 rfl (lv_room (Nat.le_of_ble_eq_true rfl)) dX3_deliver_1 ⟨Nat.le_of_ble_eq_true rfl, Nat.le_of_ble_eq_true rfl⟩) hS (fun q _ h => hFc q h) hFc (fun q _ h => hFc q h) (fun E9 ce9 q9 u t H1 locs ht hvm hpx hB hz1 hk1 hS hcell hcv hcl => ?_) (fun u t H1 locs1 ht hvm hw _ _ _ _ => hw.elim)
  obtain ⟨rfl, hP1, hD1⟩ := hB
  rw [ht] at hP1
  obtain ⟨hP, hD⟩ := va_join (wr := [(o, .inr (4, [.ref F, .ref G, .int lo, .int nw, .int se, .ref (pa 0), .ref an, .ref ln]))]) (w1 := []) hP hD [] [0] rfl rfl (by decide) (by decide) hk1 hFc hP1 hD1
  have hP := hP.sub (ws' := [(o, .inr (4, [.ref F, .ref G, .int lo, .int nw, .int se, .ref (pa 0), .ref an, .ref ln]))]) [0] rfl
  have hD := hD.sub (ws' := [(o, .inr (4, [.ref F, .ref G, .int lo, .int nw, .int se, .ref (pa 0), .ref an, .ref ln]))]) [0] (by decide) rfl
  exact vx_out (fun x h => (htab x h).elim) hlocks hcell hcv hcl (fun t2 h7 h8 => z_thrO hP hD hS hAe h7) hS.2.2 (by omega) (by omega)
set_option maxHeartbeats 4000000 in
set_option maxRecDepth 100000 in
theorem c_X3_lose_e (l : Launch) (D : va_G) (cA : Nat → ClassId) (zv : Nat → Nat) (sz : Nat) (hl0 : l.stackTraces = false) (o F G : Nat) (lo nw se : Int32) (pa : Nat → Nat) (an ln : Nat) (x : Nat → Nat) (y0 : Nat) (n : Int32) (xv : Nat → Int32) (xf : Nat) (QX : Qt) (he : en n F G (x 0) y0) (h0 : QX.1 = 0) : vx_Met l yX3_lose wsX3_lose ({ frames := 9, cells := 1, slots := 6, locals := 121 }) (va_Pc [.ref o, .int n] (zUX D cA zv sz [(o, .inr (4, [.ref F, .ref G, .int lo, .int nw, .int se, .ref (pa 0), .ref an, .ref ln])), cE x xv, (x 9, .inr (3, [.ref (x 10), .ref (x 11), .ref (x 12), .ref (x 13), .int (nI xf), .int (nI QX.1)]))])) (va_Qi (fun (_ : Int32) (_ : Unit) => False) (fun (_ : Unit) _ => True) (va_A [(o, .inr (4, [.ref F, .ref G, .int lo, .int nw, .int se, .ref (pa 0), .ref an, .ref ln])), cE x xv, (x 9, .inr (3, [.ref (x 10), .ref (x 11), .ref (x 12), .ref (x 13), .int (nI xf), .int (nI QX.1)]))] sz)) (vx_X (fun (_ : Unit) => True) (fun E (_ : Unit) t => E = "java/util/NoSuchElementException" ∧ zB D [(o, .inr (4, [.ref F, .ref G, .int lo, .int nw, .int se, .ref (pa 0), .ref an, .ref ln])), cE x xv, (x 9, .inr (3, [.ref (x 10), .ref (x 11), .ref (x 12), .ref (x 13), .int (nI xf), .int (nI QX.1)]))] sz [(o, .inr (4, [.ref F, .ref G, .int lo, .int nw, .int se, .ref (pa 0), .ref an, .ref ln])), cE x xv, (x 9, .inr (3, [.ref (x 10), .ref (x 11), .ref (x 12), .ref (x 13), .int (nI xf), .int (nI QX.1)]))] t) (va_A [(o, .inr (4, [.ref F, .ref G, .int lo, .int nw, .int se, .ref (pa 0), .ref an, .ref ln])), cE x xv, (x 9, .inr (3, [.ref (x 10), .ref (x 11), .ref (x 12), .ref (x 13), .int (nI xf), .int (nI QX.1)]))] sz)) 1 6 (va_A [(o, .inr (4, [.ref F, .ref G, .int lo, .int nw, .int se, .ref (pa 0), .ref an, .ref ln])), cE x xv, (x 9, .inr (3, [.ref (x 10), .ref (x 11), .ref (x 12), .ref (x 13), .int (nI xf), .int (nI QX.1)]))] sz) := by
  refine vx_ofW (cc := cX3_lose) (maxL := 4) (ret := (some .int)) (by decide) rfl ?_
  intro p e s m args below meth c s₁ B hml htab hv
  obtain ⟨rfl, ⟨hsz, hP, hK, hD0, hE0⟩, hX0⟩ := hv
  have hx := B.exec
  have hb := B.bytes
  have hr := B.returns
  have hts := atoms_spec (ws := wsX3_lose) B.pre
  have hown : s.vm.findClass RX3 = some m.cls := findClass_of_methodNamed B.named
  have hlocks := B.notSynchronized
  subst hsz
  have hD := hD0.self (sz := s.heap.size)
  generalize hAe : va_A [(o, .inr (4, [.ref F, .ref G, .int lo, .int nw, .int se, .ref (pa 0), .ref an, .ref ln])), cE x xv, (x 9, .inr (3, [.ref (x 10), .ref (x 11), .ref (x 12), .ref (x 13), .int (nI xf), .int (nI QX.1)]))] s.heap.size = A at hD hE0 hX0 ⊢
  have hA : ∀ q : Nat, s.heap.size ≤ q → A q := fun q h => by rw [← hAe]; exact Or.inr h
  have hS : va_S A s.heap s.heap [] := va_S.rf
  have hl := lv_entry ([.ref o, .int n]) (n := 4) (Nat.le_of_ble_eq_true rfl)
  rw [lg_entry_eq]
  generalize (lg_sl ([.ref o, .int n]) ++ List.replicate (4 - (lg_sl ([.ref o, .int n])).length) Slot.unset).toArray = ls at hl ⊢
  have hl : lv_has ls 4 [(0, .ref o), (1, .int n)] := hl
  refine lv_iload_n hx hb dX3_lose_0 rfl (lv_at hl 1 rfl) ?_
  have hPc := hP.sub (ws' := []) [] rfl
  have hDc := hD.sub (ws' := []) [] (by decide) rfl
  have hFc := va_free (wc := []) hD hS hA [] rfl
  refine va_callv (va_runS (As := [.int n]) (rest := []) ⟨hx, hb, hml, hown, hts⟩ (c_X3_checkEnd_k l D cA s.heap.size n (en_inr he)) (va_cwS 1 hts gX3_lose_X3_checkEnd rfl rfl rfl (by decide +kernel) ⟨Nat.le_of_ble_eq_true rfl, Nat.le_of_ble_eq_true rfl⟩) ⟨zU_blind, fun U hU hW => ⟨rfl, zU_call hU hPc hW.alike hK hDc⟩⟩ rfl rfl hl.1 rfl (lv_room (Nat.le_of_ble_eq_true rfl)) dX3_lose_1 ⟨(Nat.zero_le _), (Nat.zero_le _)⟩) hS (fun q _ h => hFc q h) hFc (fun u t H1 locs ht hvm hw hB hz1 hk1 hS => ?_)
  obtain ⟨hP1, hD1⟩ := hB
  rw [ht] at hP1
  obtain ⟨hP, hD⟩ := va_join (wr := [(o, .inr (4, [.ref F, .ref G, .int lo, .int nw, .int se, .ref (pa 0), .ref an, .ref ln])), cE x xv, (x 9, .inr (3, [.ref (x 10), .ref (x 11), .ref (x 12), .ref (x 13), .int (nI xf), .int (nI QX.1)]))]) (w1 := []) hP hD [] [0, 1, 2] rfl rfl (by decide) (by decide) hk1 hFc hP1 hD1
  generalize H1 = H at hP hS ⊢
  have hP := hP.sub (ws' := [(o, .inr (4, [.ref F, .ref G, .int lo, .int nw, .int se, .ref (pa 0), .ref an, .ref ln])), cE x xv, (x 9, .inr (3, [.ref (x 10), .ref (x 11), .ref (x 12), .ref (x 13), .int (nI xf), .int (nI QX.1)]))]) [0, 1, 2] rfl
  have hD := hD.sub (ws' := [(o, .inr (4, [.ref F, .ref G, .int lo, .int nw, .int se, .ref (pa 0), .ref an, .ref ln])), cE x xv, (x 9, .inr (3, [.ref (x 10), .ref (x 11), .ref (x 12), .ref (x 13), .int (nI xf), .int (nI QX.1)]))]) [0, 1, 2] (by decide) rfl
  clear hPc hDc hFc hP1 hD1 hk1 hz1
  have hw_1 := hw
  refine lv_aload_n hx hb dX3_lose_4 rfl (lv_at hl 0 rfl) ?_
  refine lv_iload_n hx hb dX3_lose_5 rfl (lv_at hl 1 rfl) ?_
  have hPc := hP.sub (ws' := [(o, .inr (4, [.ref F, .ref G, .int lo, .int nw, .int se, .ref (pa 0), .ref an, .ref ln]))]) [0] rfl
  have hDc := hD.sub (ws' := [(o, .inr (4, [.ref F, .ref G, .int lo, .int nw, .int se, .ref (pa 0), .ref an, .ref ln]))]) [0] (by decide) rfl
  have hFc := va_free (wc := [(o, .inr (4, [.ref F, .ref G, .int lo, .int nw, .int se, .ref (pa 0), .ref an, .ref ln]))]) hD hS hA [0] rfl
  refine va_callr (va_runV (As := [.int n]) (rest := []) ⟨hx, hb, hml, hown, hts⟩ (c_X3_endOf l D cA H.size o F G lo nw se pa an ln n (x 0) y0 (by assumption)) (cwV 1 hts gX3_lose_X3_endOf rfl rfl rfl (by decide +kernel) ⟨Nat.le_of_ble_eq_true rfl, Nat.le_of_ble_eq_true rfl⟩) ⟨zU_blind, va_recv hK hPc (ci := 4) (q0 := 0) rfl rfl, fun U hU hW => ⟨rfl, zU_call hU hPc hW.alike hK hDc⟩⟩ rfl rfl hl.1 rfl (lv_room (Nat.le_of_ble_eq_true rfl)) dX3_lose_6 ⟨(Nat.zero_le _), (Nat.zero_le _)⟩) hS (fun q _ h => hFc q h) hFc (fun u ra t H1 locs ht hvm hw hB hz1 hk1 hS => ?_)
  obtain ⟨hra, hP1, hD1⟩ := hB
  rw [ht] at hP1
  subst ra
  obtain ⟨hP, hD⟩ := va_join (wr := [cE x xv, (x 9, .inr (3, [.ref (x 10), .ref (x 11), .ref (x 12), .ref (x 13), .int (nI xf), .int (nI QX.1)]))]) (w1 := [(o, .inr (4, [.ref F, .ref G, .int lo, .int nw, .int se, .ref (pa 0), .ref an, .ref ln]))]) hP hD [0] [1, 2] rfl rfl (by decide) (by decide) hk1 hFc hP1 hD1
  generalize H1 = H at hP hS ⊢
  have hP := hP.sub (ws' := [(o, .inr (4, [.ref F, .ref G, .int lo, .int nw, .int se, .ref (pa 0), .ref an, .ref ln])), cE x xv, (x 9, .inr (3, [.ref (x 10), .ref (x 11), .ref (x 12), .ref (x 13), .int (nI xf), .int (nI QX.1)]))]) [2, 0, 1] rfl
  have hD := hD.sub (ws' := [(o, .inr (4, [.ref F, .ref G, .int lo, .int nw, .int se, .ref (pa 0), .ref an, .ref ln])), cE x xv, (x 9, .inr (3, [.ref (x 10), .ref (x 11), .ref (x 12), .ref (x 13), .int (nI xf), .int (nI QX.1)]))]) [2, 0, 1] (by decide) rfl
  clear hPc hDc hFc hP1 hD1 hk1 hz1
  have hw_2 := hw
  refine va_get (D := D) (ci := 1) (v := .ref (x 9)) (C := RX0) (T := TX0) (N := 16) hx hb hts (fun _ h => List.mem_cons_of_mem _ (List.mem_append_left _ (List.mem_append_left _ (List.mem_append_left _ (List.mem_append_left _ (List.mem_append_right _ (h))))))) hown hK hP 1 rfl rfl 8 (by decide) (hts (.fieldLink RX3 132 "OptionWire$End" "packets" "LOptionWire$PacketQueue;") (List.mem_of_getElem? (i := 1) rfl)) (fun _ h9 => h9) rfl dX3_lose_9 ?_
  refine lv_astore_n (lv' := [(2, .ref (x 9)), (0, .ref o), (1, .int n)]) hx hb dX3_lose_12 rfl hl (by decide) rfl (fun ls hl => ?_)
  refine lv_aload_n hx hb dX3_lose_13 rfl (lv_at hl 0 rfl) ?_
  refine lv_iconst (v := 0) hx hb dX3_lose_14 (by decide) ?_
  have hPc := hP.sub (ws' := [(x 9, .inr (3, [.ref (x 10), .ref (x 11), .ref (x 12), .ref (x 13), .int (nI xf), .int (nI QX.1)]))]) [2] rfl
  have hDc := hD.sub (ws' := [(x 9, .inr (3, [.ref (x 10), .ref (x 11), .ref (x 12), .ref (x 13), .int (nI xf), .int (nI QX.1)]))]) [2] (by decide) rfl
  have hFc := va_free (wc := [(x 9, .inr (3, [.ref (x 10), .ref (x 11), .ref (x 12), .ref (x 13), .int (nI xf), .int (nI QX.1)]))]) hD hS hA [2] rfl
  refine vx_callv (vx_runS (As := [.ref (x 9), .int 0]) (rest := []) ⟨hx, hb, hml, hown, hts⟩ (c_X3_checkPlace_t l D cA zv H.size hl0 x xf QX 0 (nplc0 h0) (by omega)) (va_cwS 2 hts gX3_lose_X3_checkPlace rfl rfl rfl (by decide +kernel) ⟨Nat.le_of_ble_eq_true rfl, Nat.le_of_ble_eq_true rfl⟩) ⟨zUX_blind, fun U hU hW => ⟨rfl, zUX_call hE0 hX0 hS hFc hU hPc hW hK hDc⟩⟩ rfl rfl hl.1 rfl (lv_room (Nat.le_of_ble_eq_true rfl)) dX3_lose_15 ⟨Nat.le_of_ble_eq_true rfl, Nat.le_of_ble_eq_true rfl⟩) hS (fun q _ h => hFc q h) hFc (fun q _ h => hFc q h) (fun E9 ce9 q9 u t H1 locs ht hvm hpx hB hz1 hk1 hS hcell hcv hcl => ?_) (fun u t H1 locs1 ht hvm hw _ _ _ _ => hw.elim)
  obtain ⟨rfl, hP1, hD1⟩ := hB
  rw [ht] at hP1
  obtain ⟨hP, hD⟩ := va_join (wr := [(o, .inr (4, [.ref F, .ref G, .int lo, .int nw, .int se, .ref (pa 0), .ref an, .ref ln])), cE x xv]) (w1 := [(x 9, .inr (3, [.ref (x 10), .ref (x 11), .ref (x 12), .ref (x 13), .int (nI xf), .int (nI QX.1)]))]) hP hD [2] [0, 1] rfl rfl (by decide) (by decide) hk1 hFc hP1 hD1
  have hP := hP.sub (ws' := [(o, .inr (4, [.ref F, .ref G, .int lo, .int nw, .int se, .ref (pa 0), .ref an, .ref ln])), cE x xv, (x 9, .inr (3, [.ref (x 10), .ref (x 11), .ref (x 12), .ref (x 13), .int (nI xf), .int (nI QX.1)]))]) [0, 1, 2] rfl
  have hD := hD.sub (ws' := [(o, .inr (4, [.ref F, .ref G, .int lo, .int nw, .int se, .ref (pa 0), .ref an, .ref ln])), cE x xv, (x 9, .inr (3, [.ref (x 10), .ref (x 11), .ref (x 12), .ref (x 13), .int (nI xf), .int (nI QX.1)]))]) [0, 1, 2] (by decide) rfl
  exact vx_out (fun x h => (htab x h).elim) hlocks hcell hcv hcl (fun t2 h7 h8 => z_thrO hP hD hS hAe h7) hS.2.2 (by omega) (by omega)
set_option maxHeartbeats 4000000 in
set_option maxRecDepth 100000 in
theorem c_X3_lose_b (l : Launch) (D : va_G) (cA : Nat → ClassId) (zv : Nat → Nat) (sz : Nat) (hl0 : l.stackTraces = false) (o F G : Nat) (lo nw se : Int32) (pa : Nat → Nat) (an ln : Nat) (n  : Int32) (hbad : ¬ inr n 0 1) : vx_Met l yX3_lose wsX3_lose ({ frames := 9, cells := 1, slots := 6, locals := 120 }) (va_Pc [.ref o, .int n] (zUX D cA zv sz [(o, .inr (4, [.ref F, .ref G, .int lo, .int nw, .int se, .ref (pa 0), .ref an, .ref ln]))])) (va_Qi (fun (_ : Int32) (_ : Unit) => False) (fun (_ : Unit) _ => True) (va_A [(o, .inr (4, [.ref F, .ref G, .int lo, .int nw, .int se, .ref (pa 0), .ref an, .ref ln]))] sz)) (vx_X (fun (_ : Unit) => True) (fun E (_ : Unit) t => E = "java/lang/IllegalArgumentException" ∧ zB D [(o, .inr (4, [.ref F, .ref G, .int lo, .int nw, .int se, .ref (pa 0), .ref an, .ref ln]))] sz [(o, .inr (4, [.ref F, .ref G, .int lo, .int nw, .int se, .ref (pa 0), .ref an, .ref ln]))] t) (va_A [(o, .inr (4, [.ref F, .ref G, .int lo, .int nw, .int se, .ref (pa 0), .ref an, .ref ln]))] sz)) 1 6 (va_A [(o, .inr (4, [.ref F, .ref G, .int lo, .int nw, .int se, .ref (pa 0), .ref an, .ref ln]))] sz) := by
  refine vx_ofW (cc := cX3_lose) (maxL := 4) (ret := (some .int)) (by decide) rfl ?_
  intro p e s m args below meth c s₁ B hml htab hv
  obtain ⟨rfl, ⟨hsz, hP, hK, hD0, hE0⟩, hX0⟩ := hv
  have hx := B.exec
  have hb := B.bytes
  have hr := B.returns
  have hts := atoms_spec (ws := wsX3_lose) B.pre
  have hown : s.vm.findClass RX3 = some m.cls := findClass_of_methodNamed B.named
  have hlocks := B.notSynchronized
  subst hsz
  have hD := hD0.self (sz := s.heap.size)
  generalize hAe : va_A [(o, .inr (4, [.ref F, .ref G, .int lo, .int nw, .int se, .ref (pa 0), .ref an, .ref ln]))] s.heap.size = A at hD hE0 hX0 ⊢
  have hA : ∀ q : Nat, s.heap.size ≤ q → A q := fun q h => by rw [← hAe]; exact Or.inr h
  have hS : va_S A s.heap s.heap [] := va_S.rf
  have hl := lv_entry ([.ref o, .int n]) (n := 4) (Nat.le_of_ble_eq_true rfl)
  rw [lg_entry_eq]
  generalize (lg_sl ([.ref o, .int n]) ++ List.replicate (4 - (lg_sl ([.ref o, .int n])).length) Slot.unset).toArray = ls at hl ⊢
  have hl : lv_has ls 4 [(0, .ref o), (1, .int n)] := hl
  refine lv_iload_n hx hb dX3_lose_0 rfl (lv_at hl 1 rfl) ?_
  have hPc := hP.sub (ws' := []) [] rfl
  have hDc := hD.sub (ws' := []) [] (by decide) rfl
  have hFc := va_free (wc := []) hD hS hA [] rfl
  refine vx_callv (vx_runS (As := [.int n]) (rest := []) ⟨hx, hb, hml, hown, hts⟩ (c_X3_checkEnd_t l D cA zv s.heap.size hl0 n hbad) (va_cwS 1 hts gX3_lose_X3_checkEnd rfl rfl rfl (by decide +kernel) ⟨Nat.le_of_ble_eq_true rfl, Nat.le_of_ble_eq_true rfl⟩) ⟨zUX_blind, fun U hU hW => ⟨rfl, zUX_call hE0 hX0 hS hFc hU hPc hW hK hDc⟩⟩ rfl rfl hl.1 rfl (lv_room (Nat.le_of_ble_eq_true rfl)) dX3_lose_1 ⟨Nat.le_of_ble_eq_true rfl, Nat.le_of_ble_eq_true rfl⟩) hS (fun q _ h => hFc q h) hFc (fun q _ h => hFc q h) (fun E9 ce9 q9 u t H1 locs ht hvm hpx hB hz1 hk1 hS hcell hcv hcl => ?_) (fun u t H1 locs1 ht hvm hw _ _ _ _ => hw.elim)
  obtain ⟨rfl, hP1, hD1⟩ := hB
  rw [ht] at hP1
  obtain ⟨hP, hD⟩ := va_join (wr := [(o, .inr (4, [.ref F, .ref G, .int lo, .int nw, .int se, .ref (pa 0), .ref an, .ref ln]))]) (w1 := []) hP hD [] [0] rfl rfl (by decide) (by decide) hk1 hFc hP1 hD1
  have hP := hP.sub (ws' := [(o, .inr (4, [.ref F, .ref G, .int lo, .int nw, .int se, .ref (pa 0), .ref an, .ref ln]))]) [0] rfl
  have hD := hD.sub (ws' := [(o, .inr (4, [.ref F, .ref G, .int lo, .int nw, .int se, .ref (pa 0), .ref an, .ref ln]))]) [0] (by decide) rfl
  exact vx_out (fun x h => (htab x h).elim) hlocks hcell hcv hcl (fun t2 h7 h8 => z_thrO hP hD hS hAe h7) hS.2.2 (by omega) (by omega)
set_option maxHeartbeats 4000000 in
set_option maxRecDepth 100000 in
/-- tick() -/
theorem c_X3_tick_k (l : Launch) (D : va_G) (cA : Nat → ClassId) (zv : Nat → Nat) (sz : Nat) (o F G : Nat) (lo nw se : Int32) (pa : Nat → Nat) (an ln : Nat) (x y : Nat → Nat) (xv yv : Nat → Int32) (xr yr : Nat → Nat → Int32) (xf yf : Nat) (QX QY : Qt) (f fy : Nat → Int32) (he : en 0 F G (x 0) (y 0)) (hqx : rg xr xf QX) (hqy : rg yr yf QY) : Met l yX3_tick wsX3_tick ({ frames := 6, cells := 0, slots := 0, locals := 139 }) (va_Pc [.ref o] (zUE D cA zv sz [(o, .inr (4, [.ref F, .ref G, .int lo, .int nw, .int se, .ref (pa 0), .ref an, .ref ln])), cE x xv, (x 9, .inr (3, [.ref (x 10), .ref (x 11), .ref (x 12), .ref (x 13), .int (nI xf), .int (nI QX.1)])), (x 10, .inl (cA 0, 12, .inl (xr 0))), (x 11, .inl (cA 0, 12, .inl (xr 1))), (x 12, .inl (cA 0, 12, .inl (xr 2))), (x 13, .inl (cA 0, 48, .inl (xr 3))), cE y yv, (y 9, .inr (3, [.ref (y 10), .ref (y 11), .ref (y 12), .ref (y 13), .int (nI yf), .int (nI QY.1)])), (y 10, .inl (cA 0, 12, .inl (yr 0))), (y 11, .inl (cA 0, 12, .inl (yr 1))), (y 12, .inl (cA 0, 12, .inl (yr 2))), (y 13, .inl (cA 0, 48, .inl (yr 3))), (x 7, .inl (cA 0, 4, .inl f)), (y 7, .inl (cA 0, 4, .inl fy))])) (va_Qi (fun (r : Int32) (u : ((Nat → Int32) × (Nat → Int32) × Int32 × (Nat → Nat → Int32) × (Nat → Nat → Int32) × Qt × Qt × Int32)) => u.1 = (wt lo xv f QX QY se).1 ∧ u.2.1 = (wt lo yv fy (wt lo xv f QX QY se).2.1.2 (wt lo xv f QX QY se).2.1.1 (wt lo xv f QX QY se).2.2).1 ∧ u.2.2.1 = nw + 1 ∧ u.2.2.2.2.2.1 = (wt lo yv fy (wt lo xv f QX QY se).2.1.2 (wt lo xv f QX QY se).2.1.1 (wt lo xv f QX QY se).2.2).2.1.2 ∧ u.2.2.2.2.2.2.1 = (wt lo yv fy (wt lo xv f QX QY se).2.1.2 (wt lo xv f QX QY se).2.1.1 (wt lo xv f QX QY se).2.2).2.1.1 ∧ u.2.2.2.2.2.2.2 = (wt lo yv fy (wt lo xv f QX QY se).2.1.2 (wt lo xv f QX QY se).2.1.1 (wt lo xv f QX QY se).2.2).2.2 ∧ rg u.2.2.2.1 xf u.2.2.2.2.2.1 ∧ rg u.2.2.2.2.1 yf u.2.2.2.2.2.2.1 ∧ r = (wt lo yv fy (wt lo xv f QX QY se).2.1.2 (wt lo xv f QX QY se).2.1.1 (wt lo xv f QX QY se).2.2).2.2 - se) (fun (u : ((Nat → Int32) × (Nat → Int32) × Int32 × (Nat → Nat → Int32) × (Nat → Nat → Int32) × Qt × Qt × Int32)) t => zB D [(o, .inr (4, [.ref F, .ref G, .int lo, .int nw, .int se, .ref (pa 0), .ref an, .ref ln])), cE x xv, (x 9, .inr (3, [.ref (x 10), .ref (x 11), .ref (x 12), .ref (x 13), .int (nI xf), .int (nI QX.1)])), (x 10, .inl (cA 0, 12, .inl (xr 0))), (x 11, .inl (cA 0, 12, .inl (xr 1))), (x 12, .inl (cA 0, 12, .inl (xr 2))), (x 13, .inl (cA 0, 48, .inl (xr 3))), cE y yv, (y 9, .inr (3, [.ref (y 10), .ref (y 11), .ref (y 12), .ref (y 13), .int (nI yf), .int (nI QY.1)])), (y 10, .inl (cA 0, 12, .inl (yr 0))), (y 11, .inl (cA 0, 12, .inl (yr 1))), (y 12, .inl (cA 0, 12, .inl (yr 2))), (y 13, .inl (cA 0, 48, .inl (yr 3))), (x 7, .inl (cA 0, 4, .inl f)), (y 7, .inl (cA 0, 4, .inl fy))] sz [(o, .inr (4, [.ref F, .ref G, .int lo, .int u.2.2.1, .int u.2.2.2.2.2.2.2, .ref (pa 0), .ref an, .ref ln])), cE x u.1, (x 9, .inr (3, [.ref (x 10), .ref (x 11), .ref (x 12), .ref (x 13), .int (nI xf), .int (nI u.2.2.2.2.2.1.1)])), (x 10, .inl (cA 0, 12, .inl (u.2.2.2.1 0))), (x 11, .inl (cA 0, 12, .inl (u.2.2.2.1 1))), (x 12, .inl (cA 0, 12, .inl (u.2.2.2.1 2))), (x 13, .inl (cA 0, 48, .inl (u.2.2.2.1 3))), cE y u.2.1, (y 9, .inr (3, [.ref (y 10), .ref (y 11), .ref (y 12), .ref (y 13), .int (nI yf), .int (nI u.2.2.2.2.2.2.1.1)])), (y 10, .inl (cA 0, 12, .inl (u.2.2.2.2.1 0))), (y 11, .inl (cA 0, 12, .inl (u.2.2.2.2.1 1))), (y 12, .inl (cA 0, 12, .inl (u.2.2.2.2.1 2))), (y 13, .inl (cA 0, 48, .inl (u.2.2.2.2.1 3))), (x 7, .inl (cA 0, 4, .inl f)), (y 7, .inl (cA 0, 4, .inl fy))] t) (va_A [(o, .inr (4, [.ref F, .ref G, .int lo, .int nw, .int se, .ref (pa 0), .ref an, .ref ln])), cE x xv, (x 9, .inr (3, [.ref (x 10), .ref (x 11), .ref (x 12), .ref (x 13), .int (nI xf), .int (nI QX.1)])), (x 10, .inl (cA 0, 12, .inl (xr 0))), (x 11, .inl (cA 0, 12, .inl (xr 1))), (x 12, .inl (cA 0, 12, .inl (xr 2))), (x 13, .inl (cA 0, 48, .inl (xr 3))), cE y yv, (y 9, .inr (3, [.ref (y 10), .ref (y 11), .ref (y 12), .ref (y 13), .int (nI yf), .int (nI QY.1)])), (y 10, .inl (cA 0, 12, .inl (yr 0))), (y 11, .inl (cA 0, 12, .inl (yr 1))), (y 12, .inl (cA 0, 12, .inl (yr 2))), (y 13, .inl (cA 0, 48, .inl (yr 3))), (x 7, .inl (cA 0, 4, .inl f)), (y 7, .inl (cA 0, 4, .inl fy))] sz)) 0 0 (va_A [(o, .inr (4, [.ref F, .ref G, .int lo, .int nw, .int se, .ref (pa 0), .ref an, .ref ln])), cE x xv, (x 9, .inr (3, [.ref (x 10), .ref (x 11), .ref (x 12), .ref (x 13), .int (nI xf), .int (nI QX.1)])), (x 10, .inl (cA 0, 12, .inl (xr 0))), (x 11, .inl (cA 0, 12, .inl (xr 1))), (x 12, .inl (cA 0, 12, .inl (xr 2))), (x 13, .inl (cA 0, 48, .inl (xr 3))), cE y yv, (y 9, .inr (3, [.ref (y 10), .ref (y 11), .ref (y 12), .ref (y 13), .int (nI yf), .int (nI QY.1)])), (y 10, .inl (cA 0, 12, .inl (yr 0))), (y 11, .inl (cA 0, 12, .inl (yr 1))), (y 12, .inl (cA 0, 12, .inl (yr 2))), (y 13, .inl (cA 0, 48, .inl (yr 3))), (x 7, .inl (cA 0, 4, .inl f)), (y 7, .inl (cA 0, 4, .inl fy))] sz) := by
  refine Met.ofW (cc := cX3_tick) (maxL := 2) (ret := (some .int)) (by decide) rfl ?_
  intro p e s m args below meth c s₁ B hml hv
  obtain ⟨rfl, hsz, hP, hK, hD0, hE0⟩ := hv
  have hx := B.exec
  have hb := B.bytes
  have hr := B.returns
  have hts := atoms_spec (ws := wsX3_tick) B.pre
  have hown : s.vm.findClass RX3 = some m.cls := findClass_of_methodNamed B.named
  have hlocks := B.notSynchronized
  subst hsz
  have hD := hD0.self (sz := s.heap.size)
  generalize hAe : va_A [(o, .inr (4, [.ref F, .ref G, .int lo, .int nw, .int se, .ref (pa 0), .ref an, .ref ln])), cE x xv, (x 9, .inr (3, [.ref (x 10), .ref (x 11), .ref (x 12), .ref (x 13), .int (nI xf), .int (nI QX.1)])), (x 10, .inl (cA 0, 12, .inl (xr 0))), (x 11, .inl (cA 0, 12, .inl (xr 1))), (x 12, .inl (cA 0, 12, .inl (xr 2))), (x 13, .inl (cA 0, 48, .inl (xr 3))), cE y yv, (y 9, .inr (3, [.ref (y 10), .ref (y 11), .ref (y 12), .ref (y 13), .int (nI yf), .int (nI QY.1)])), (y 10, .inl (cA 0, 12, .inl (yr 0))), (y 11, .inl (cA 0, 12, .inl (yr 1))), (y 12, .inl (cA 0, 12, .inl (yr 2))), (y 13, .inl (cA 0, 48, .inl (yr 3))), (x 7, .inl (cA 0, 4, .inl f)), (y 7, .inl (cA 0, 4, .inl fy))] s.heap.size = A at hD hE0 ⊢
  have hA : ∀ q : Nat, s.heap.size ≤ q → A q := fun q h => by rw [← hAe]; exact Or.inr h
  have hS : va_S A s.heap s.heap [] := va_S.rf
  have hl := lv_entry ([.ref o]) (n := 2) (Nat.le_of_ble_eq_true rfl)
  rw [lg_entry_eq]
  generalize (lg_sl ([.ref o]) ++ List.replicate (2 - (lg_sl ([.ref o])).length) Slot.unset).toArray = ls at hl ⊢
  have hl : lv_has ls 2 [(0, .ref o)] := hl
  refine lv_aload_n hx hb dX3_tick_0 rfl (lv_at hl 0 rfl) ?_
  refine va_get (D := D) (ci := 4) (v := .int se) (C := RX3) (T := TX3) (N := 8) hx hb hts (fun _ h => List.mem_cons_of_mem _ (List.mem_append_left _ (List.mem_append_left _ (List.mem_append_right _ (h))))) hown hK hP 0 rfl rfl 4 (by decide) (hts (.fieldLink RX3 27 "OptionWire" "packetsSent" "I") (List.mem_of_getElem? (i := 1) rfl)) (fun _ h9 => h9) rfl dX3_tick_1 ?_
  refine lv_istore_n (lv' := [(1, .int se), (0, .ref o)]) hx hb dX3_tick_4 rfl hl (by decide) rfl (fun ls hl => ?_)
  refine lv_aload_n hx hb dX3_tick_5 rfl (lv_at hl 1 rfl) ?_
  refine lv_dup hx hb dX3_tick_6 rfl ?_
  refine va_get (D := D) (ci := 4) (v := .int nw) (C := RX3) (T := TX3) (N := 8) hx hb hts (fun _ h => List.mem_cons_of_mem _ (List.mem_append_left _ (List.mem_append_left _ (List.mem_append_right _ (h))))) hown hK hP 0 rfl rfl 3 (by decide) (hts (.fieldLink RX3 23 "OptionWire" "now" "I") (List.mem_of_getElem? (i := 2) rfl)) (fun _ h9 => h9) rfl dX3_tick_7 ?_
  refine lv_iconst (v := 1) hx hb dX3_tick_10 (by decide) ?_
  refine lv_iadd hx hb dX3_tick_11 ?_
  refine va_put (D := D) (ci := 4) (v := .int (nw + 1)) (ty := .int) (C := RX3) (T := TX3) (N := 8) hx hb hts (fun _ h => List.mem_cons_of_mem _ (List.mem_append_left _ (List.mem_append_left _ (List.mem_append_right _ (h))))) tyX3 tyX3_ok nmX3 hown hK hP hD hS 0 rfl rfl 3 (by decide) (hts (.fieldLink RX3 23 "OptionWire" "now" "I") (List.mem_of_getElem? (i := 2) rfl)) (fun _ h9 => h9) rfl (by decide +kernel) rfl rfl (Nat.le_of_ble_eq_true rfl) dX3_tick_12 (fun H locs hP hD hS => ?_)
  have hP : va_P D vwCl [(o, .inr (4, [.ref F, .ref G, .int lo, .int (nw + 1), .int se, .ref (pa 0), .ref an, .ref ln])), cE x xv, (x 9, .inr (3, [.ref (x 10), .ref (x 11), .ref (x 12), .ref (x 13), .int (nI xf), .int (nI QX.1)])), (x 10, .inl (cA 0, 12, .inl (xr 0))), (x 11, .inl (cA 0, 12, .inl (xr 1))), (x 12, .inl (cA 0, 12, .inl (xr 2))), (x 13, .inl (cA 0, 48, .inl (xr 3))), cE y yv, (y 9, .inr (3, [.ref (y 10), .ref (y 11), .ref (y 12), .ref (y 13), .int (nI yf), .int (nI QY.1)])), (y 10, .inl (cA 0, 12, .inl (yr 0))), (y 11, .inl (cA 0, 12, .inl (yr 1))), (y 12, .inl (cA 0, 12, .inl (yr 2))), (y 13, .inl (cA 0, 48, .inl (yr 3))), (x 7, .inl (cA 0, 4, .inl f)), (y 7, .inl (cA 0, 4, .inl fy))] H := hP
  have hD : va_D A [(o, .inr (4, [.ref F, .ref G, .int lo, .int (nw + 1), .int se, .ref (pa 0), .ref an, .ref ln])), cE x xv, (x 9, .inr (3, [.ref (x 10), .ref (x 11), .ref (x 12), .ref (x 13), .int (nI xf), .int (nI QX.1)])), (x 10, .inl (cA 0, 12, .inl (xr 0))), (x 11, .inl (cA 0, 12, .inl (xr 1))), (x 12, .inl (cA 0, 12, .inl (xr 2))), (x 13, .inl (cA 0, 48, .inl (xr 3))), cE y yv, (y 9, .inr (3, [.ref (y 10), .ref (y 11), .ref (y 12), .ref (y 13), .int (nI yf), .int (nI QY.1)])), (y 10, .inl (cA 0, 12, .inl (yr 0))), (y 11, .inl (cA 0, 12, .inl (yr 1))), (y 12, .inl (cA 0, 12, .inl (yr 2))), (y 13, .inl (cA 0, 48, .inl (yr 3))), (x 7, .inl (cA 0, 4, .inl f)), (y 7, .inl (cA 0, 4, .inl fy))] := hD
  refine lv_aload_n hx hb dX3_tick_15 rfl (lv_at hl 1 rfl) ?_
  refine lv_iconst (v := 0) hx hb dX3_tick_16 (by decide) ?_
  have hPc := hP.sub (ws' := [(o, .inr (4, [.ref F, .ref G, .int lo, .int (nw + 1), .int se, .ref (pa 0), .ref an, .ref ln])), cE x xv, (x 9, .inr (3, [.ref (x 10), .ref (x 11), .ref (x 12), .ref (x 13), .int (nI xf), .int (nI QX.1)])), (x 10, .inl (cA 0, 12, .inl (xr 0))), (x 11, .inl (cA 0, 12, .inl (xr 1))), (x 12, .inl (cA 0, 12, .inl (xr 2))), (x 13, .inl (cA 0, 48, .inl (xr 3))), cE y yv, (y 9, .inr (3, [.ref (y 10), .ref (y 11), .ref (y 12), .ref (y 13), .int (nI yf), .int (nI QY.1)])), (y 10, .inl (cA 0, 12, .inl (yr 0))), (y 11, .inl (cA 0, 12, .inl (yr 1))), (y 12, .inl (cA 0, 12, .inl (yr 2))), (y 13, .inl (cA 0, 48, .inl (yr 3))), (x 7, .inl (cA 0, 4, .inl f))]) [0, 1, 2, 3, 4, 5, 6, 7, 8, 9, 10, 11, 12, 13] rfl
  have hDc := hD.sub (ws' := [(o, .inr (4, [.ref F, .ref G, .int lo, .int (nw + 1), .int se, .ref (pa 0), .ref an, .ref ln])), cE x xv, (x 9, .inr (3, [.ref (x 10), .ref (x 11), .ref (x 12), .ref (x 13), .int (nI xf), .int (nI QX.1)])), (x 10, .inl (cA 0, 12, .inl (xr 0))), (x 11, .inl (cA 0, 12, .inl (xr 1))), (x 12, .inl (cA 0, 12, .inl (xr 2))), (x 13, .inl (cA 0, 48, .inl (xr 3))), cE y yv, (y 9, .inr (3, [.ref (y 10), .ref (y 11), .ref (y 12), .ref (y 13), .int (nI yf), .int (nI QY.1)])), (y 10, .inl (cA 0, 12, .inl (yr 0))), (y 11, .inl (cA 0, 12, .inl (yr 1))), (y 12, .inl (cA 0, 12, .inl (yr 2))), (y 13, .inl (cA 0, 48, .inl (yr 3))), (x 7, .inl (cA 0, 4, .inl f))]) [0, 1, 2, 3, 4, 5, 6, 7, 8, 9, 10, 11, 12, 13] (by decide) rfl
  have hFc := va_free (wc := [(o, .inr (4, [.ref F, .ref G, .int lo, .int (nw + 1), .int se, .ref (pa 0), .ref an, .ref ln])), cE x xv, (x 9, .inr (3, [.ref (x 10), .ref (x 11), .ref (x 12), .ref (x 13), .int (nI xf), .int (nI QX.1)])), (x 10, .inl (cA 0, 12, .inl (xr 0))), (x 11, .inl (cA 0, 12, .inl (xr 1))), (x 12, .inl (cA 0, 12, .inl (xr 2))), (x 13, .inl (cA 0, 48, .inl (xr 3))), cE y yv, (y 9, .inr (3, [.ref (y 10), .ref (y 11), .ref (y 12), .ref (y 13), .int (nI yf), .int (nI QY.1)])), (y 10, .inl (cA 0, 12, .inl (yr 0))), (y 11, .inl (cA 0, 12, .inl (yr 1))), (y 12, .inl (cA 0, 12, .inl (yr 2))), (y 13, .inl (cA 0, 48, .inl (yr 3))), (x 7, .inl (cA 0, 4, .inl f))]) hD hS hA [0, 1, 2, 3, 4, 5, 6, 7, 8, 9, 10, 11, 12, 13] rfl
  refine va_callv (va_runV (As := [.int 0]) (rest := []) ⟨hx, hb, hml, hown, hts⟩ (c_X3_waitOneTickLess l D cA zv H.size o F G lo (nw + 1) se pa an ln x y 0 xv yv xr yr xf yf QX QY f (by first | exact he | exact en_01 he) (by assumption) (by assumption)) (cwV 1 hts gX3_tick_X3_waitOneTickLess rfl rfl rfl (by decide +kernel) ⟨Nat.le_of_ble_eq_true rfl, Nat.le_of_ble_eq_true rfl⟩) ⟨zUE_blind, va_recv hK hPc (ci := 4) (q0 := 0) rfl rfl, fun U hU hW => ⟨rfl, zUE_call hE0 hS hFc hU hPc hW hK hDc⟩⟩ rfl rfl hl.1 rfl (lv_room (Nat.le_of_ble_eq_true rfl)) dX3_tick_17 ⟨(Nat.zero_le _), (Nat.zero_le _)⟩) hS (fun q _ h => hFc q h) hFc (fun u t H1 locs ht hvm hw hB hz1 hk1 hS => ?_)
  obtain ⟨xv'_1, xr'_1, yr'_1, QX'_1, QY'_1, se'_1⟩ := u
  obtain ⟨hP1, hD1⟩ := hB
  rw [ht] at hP1
  try dsimp only at hw hP1 hD1
  obtain ⟨hP, hD⟩ := va_join (wr := [(y 7, .inl (cA 0, 4, .inl fy))]) (w1 := [(o, .inr (4, [.ref F, .ref G, .int lo, .int (nw + 1), .int se'_1, .ref (pa 0), .ref an, .ref ln])), cE x xv'_1, (x 9, .inr (3, [.ref (x 10), .ref (x 11), .ref (x 12), .ref (x 13), .int (nI xf), .int (nI QX'_1.1)])), (x 10, .inl (cA 0, 12, .inl (xr'_1 0))), (x 11, .inl (cA 0, 12, .inl (xr'_1 1))), (x 12, .inl (cA 0, 12, .inl (xr'_1 2))), (x 13, .inl (cA 0, 48, .inl (xr'_1 3))), cE y yv, (y 9, .inr (3, [.ref (y 10), .ref (y 11), .ref (y 12), .ref (y 13), .int (nI yf), .int (nI QY'_1.1)])), (y 10, .inl (cA 0, 12, .inl (yr'_1 0))), (y 11, .inl (cA 0, 12, .inl (yr'_1 1))), (y 12, .inl (cA 0, 12, .inl (yr'_1 2))), (y 13, .inl (cA 0, 48, .inl (yr'_1 3))), (x 7, .inl (cA 0, 4, .inl f))]) hP hD [0, 1, 2, 3, 4, 5, 6, 7, 8, 9, 10, 11, 12, 13] [14] rfl rfl (by decide) (by decide) hk1 hFc hP1 hD1
  generalize H1 = H at hP hS ⊢
  have hP := hP.sub (ws' := [(o, .inr (4, [.ref F, .ref G, .int lo, .int (nw + 1), .int se'_1, .ref (pa 0), .ref an, .ref ln])), cE x xv'_1, (x 9, .inr (3, [.ref (x 10), .ref (x 11), .ref (x 12), .ref (x 13), .int (nI xf), .int (nI QX'_1.1)])), (x 10, .inl (cA 0, 12, .inl (xr'_1 0))), (x 11, .inl (cA 0, 12, .inl (xr'_1 1))), (x 12, .inl (cA 0, 12, .inl (xr'_1 2))), (x 13, .inl (cA 0, 48, .inl (xr'_1 3))), cE y yv, (y 9, .inr (3, [.ref (y 10), .ref (y 11), .ref (y 12), .ref (y 13), .int (nI yf), .int (nI QY'_1.1)])), (y 10, .inl (cA 0, 12, .inl (yr'_1 0))), (y 11, .inl (cA 0, 12, .inl (yr'_1 1))), (y 12, .inl (cA 0, 12, .inl (yr'_1 2))), (y 13, .inl (cA 0, 48, .inl (yr'_1 3))), (x 7, .inl (cA 0, 4, .inl f)), (y 7, .inl (cA 0, 4, .inl fy))]) [1, 2, 3, 4, 5, 6, 7, 8, 9, 10, 11, 12, 13, 14, 0] rfl
  have hD := hD.sub (ws' := [(o, .inr (4, [.ref F, .ref G, .int lo, .int (nw + 1), .int se'_1, .ref (pa 0), .ref an, .ref ln])), cE x xv'_1, (x 9, .inr (3, [.ref (x 10), .ref (x 11), .ref (x 12), .ref (x 13), .int (nI xf), .int (nI QX'_1.1)])), (x 10, .inl (cA 0, 12, .inl (xr'_1 0))), (x 11, .inl (cA 0, 12, .inl (xr'_1 1))), (x 12, .inl (cA 0, 12, .inl (xr'_1 2))), (x 13, .inl (cA 0, 48, .inl (xr'_1 3))), cE y yv, (y 9, .inr (3, [.ref (y 10), .ref (y 11), .ref (y 12), .ref (y 13), .int (nI yf), .int (nI QY'_1.1)])), (y 10, .inl (cA 0, 12, .inl (yr'_1 0))), (y 11, .inl (cA 0, 12, .inl (yr'_1 1))), (y 12, .inl (cA 0, 12, .inl (yr'_1 2))), (y 13, .inl (cA 0, 48, .inl (yr'_1 3))), (x 7, .inl (cA 0, 4, .inl f)), (y 7, .inl (cA 0, 4, .inl fy))]) [1, 2, 3, 4, 5, 6, 7, 8, 9, 10, 11, 12, 13, 14, 0] (by decide) rfl
  clear hPc hDc hFc hP1 hD1 hk1 hz1
  obtain ⟨rfl, rfl, rfl, rfl, hw_1_0, hw_1_1⟩ := hw
  refine lv_aload_n hx hb dX3_tick_20 rfl (lv_at hl 1 rfl) ?_
  refine lv_iconst (v := 1) hx hb dX3_tick_21 (by decide) ?_
  have hPc := hP.sub (ws' := [(o, .inr (4, [.ref F, .ref G, .int lo, .int (nw + 1), .int ((wt lo xv f QX QY se).2.2), .ref (pa 0), .ref an, .ref ln])), cE y yv, (y 9, .inr (3, [.ref (y 10), .ref (y 11), .ref (y 12), .ref (y 13), .int (nI yf), .int (nI ((wt lo xv f QX QY se).2.1.2).1)])), (y 10, .inl (cA 0, 12, .inl (yr'_1 0))), (y 11, .inl (cA 0, 12, .inl (yr'_1 1))), (y 12, .inl (cA 0, 12, .inl (yr'_1 2))), (y 13, .inl (cA 0, 48, .inl (yr'_1 3))), cE x ((wt lo xv f QX QY se).1), (x 9, .inr (3, [.ref (x 10), .ref (x 11), .ref (x 12), .ref (x 13), .int (nI xf), .int (nI ((wt lo xv f QX QY se).2.1.1).1)])), (x 10, .inl (cA 0, 12, .inl (xr'_1 0))), (x 11, .inl (cA 0, 12, .inl (xr'_1 1))), (x 12, .inl (cA 0, 12, .inl (xr'_1 2))), (x 13, .inl (cA 0, 48, .inl (xr'_1 3))), (y 7, .inl (cA 0, 4, .inl fy))]) [0, 7, 8, 9, 10, 11, 12, 1, 2, 3, 4, 5, 6, 14] rfl
  have hDc := hD.sub (ws' := [(o, .inr (4, [.ref F, .ref G, .int lo, .int (nw + 1), .int ((wt lo xv f QX QY se).2.2), .ref (pa 0), .ref an, .ref ln])), cE y yv, (y 9, .inr (3, [.ref (y 10), .ref (y 11), .ref (y 12), .ref (y 13), .int (nI yf), .int (nI ((wt lo xv f QX QY se).2.1.2).1)])), (y 10, .inl (cA 0, 12, .inl (yr'_1 0))), (y 11, .inl (cA 0, 12, .inl (yr'_1 1))), (y 12, .inl (cA 0, 12, .inl (yr'_1 2))), (y 13, .inl (cA 0, 48, .inl (yr'_1 3))), cE x ((wt lo xv f QX QY se).1), (x 9, .inr (3, [.ref (x 10), .ref (x 11), .ref (x 12), .ref (x 13), .int (nI xf), .int (nI ((wt lo xv f QX QY se).2.1.1).1)])), (x 10, .inl (cA 0, 12, .inl (xr'_1 0))), (x 11, .inl (cA 0, 12, .inl (xr'_1 1))), (x 12, .inl (cA 0, 12, .inl (xr'_1 2))), (x 13, .inl (cA 0, 48, .inl (xr'_1 3))), (y 7, .inl (cA 0, 4, .inl fy))]) [0, 7, 8, 9, 10, 11, 12, 1, 2, 3, 4, 5, 6, 14] (by decide) rfl
  have hFc := va_free (wc := [(o, .inr (4, [.ref F, .ref G, .int lo, .int (nw + 1), .int ((wt lo xv f QX QY se).2.2), .ref (pa 0), .ref an, .ref ln])), cE y yv, (y 9, .inr (3, [.ref (y 10), .ref (y 11), .ref (y 12), .ref (y 13), .int (nI yf), .int (nI ((wt lo xv f QX QY se).2.1.2).1)])), (y 10, .inl (cA 0, 12, .inl (yr'_1 0))), (y 11, .inl (cA 0, 12, .inl (yr'_1 1))), (y 12, .inl (cA 0, 12, .inl (yr'_1 2))), (y 13, .inl (cA 0, 48, .inl (yr'_1 3))), cE x ((wt lo xv f QX QY se).1), (x 9, .inr (3, [.ref (x 10), .ref (x 11), .ref (x 12), .ref (x 13), .int (nI xf), .int (nI ((wt lo xv f QX QY se).2.1.1).1)])), (x 10, .inl (cA 0, 12, .inl (xr'_1 0))), (x 11, .inl (cA 0, 12, .inl (xr'_1 1))), (x 12, .inl (cA 0, 12, .inl (xr'_1 2))), (x 13, .inl (cA 0, 48, .inl (xr'_1 3))), (y 7, .inl (cA 0, 4, .inl fy))]) hD hS hA [0, 7, 8, 9, 10, 11, 12, 1, 2, 3, 4, 5, 6, 14] rfl
  refine va_callv (va_runV (As := [.int 1]) (rest := []) ⟨hx, hb, hml, hown, hts⟩ (c_X3_waitOneTickLess l D cA zv H.size o F G lo (nw + 1) ((wt lo xv f QX QY se).2.2) pa an ln y x 1 yv ((wt lo xv f QX QY se).1) yr'_1 xr'_1 yf xf ((wt lo xv f QX QY se).2.1.2) ((wt lo xv f QX QY se).2.1.1) fy (by first | exact he | exact en_01 he) (by assumption) (by assumption)) (cwV 1 hts gX3_tick_X3_waitOneTickLess rfl rfl rfl (by decide +kernel) ⟨Nat.le_of_ble_eq_true rfl, Nat.le_of_ble_eq_true rfl⟩) ⟨zUE_blind, va_recv hK hPc (ci := 4) (q0 := 0) rfl rfl, fun U hU hW => ⟨rfl, zUE_call hE0 hS hFc hU hPc hW hK hDc⟩⟩ rfl rfl hl.1 rfl (lv_room (Nat.le_of_ble_eq_true rfl)) dX3_tick_22 ⟨(Nat.zero_le _), (Nat.zero_le _)⟩) hS (fun q _ h => hFc q h) hFc (fun u t H1 locs ht hvm hw hB hz1 hk1 hS => ?_)
  obtain ⟨xv'_2, xr'_2, yr'_2, QX'_2, QY'_2, se'_2⟩ := u
  obtain ⟨hP1, hD1⟩ := hB
  rw [ht] at hP1
  try dsimp only at hw hP1 hD1
  obtain ⟨hP, hD⟩ := va_join (wr := [(x 7, .inl (cA 0, 4, .inl f))]) (w1 := [(o, .inr (4, [.ref F, .ref G, .int lo, .int (nw + 1), .int se'_2, .ref (pa 0), .ref an, .ref ln])), cE y xv'_2, (y 9, .inr (3, [.ref (y 10), .ref (y 11), .ref (y 12), .ref (y 13), .int (nI yf), .int (nI QX'_2.1)])), (y 10, .inl (cA 0, 12, .inl (xr'_2 0))), (y 11, .inl (cA 0, 12, .inl (xr'_2 1))), (y 12, .inl (cA 0, 12, .inl (xr'_2 2))), (y 13, .inl (cA 0, 48, .inl (xr'_2 3))), cE x ((wt lo xv f QX QY se).1), (x 9, .inr (3, [.ref (x 10), .ref (x 11), .ref (x 12), .ref (x 13), .int (nI xf), .int (nI QY'_2.1)])), (x 10, .inl (cA 0, 12, .inl (yr'_2 0))), (x 11, .inl (cA 0, 12, .inl (yr'_2 1))), (x 12, .inl (cA 0, 12, .inl (yr'_2 2))), (x 13, .inl (cA 0, 48, .inl (yr'_2 3))), (y 7, .inl (cA 0, 4, .inl fy))]) hP hD [0, 7, 8, 9, 10, 11, 12, 1, 2, 3, 4, 5, 6, 14] [13] rfl rfl (by decide) (by decide) hk1 hFc hP1 hD1
  generalize H1 = H at hP hS ⊢
  have hP := hP.sub (ws' := [(o, .inr (4, [.ref F, .ref G, .int lo, .int (nw + 1), .int se'_2, .ref (pa 0), .ref an, .ref ln])), cE x ((wt lo xv f QX QY se).1), (x 9, .inr (3, [.ref (x 10), .ref (x 11), .ref (x 12), .ref (x 13), .int (nI xf), .int (nI QY'_2.1)])), (x 10, .inl (cA 0, 12, .inl (yr'_2 0))), (x 11, .inl (cA 0, 12, .inl (yr'_2 1))), (x 12, .inl (cA 0, 12, .inl (yr'_2 2))), (x 13, .inl (cA 0, 48, .inl (yr'_2 3))), cE y xv'_2, (y 9, .inr (3, [.ref (y 10), .ref (y 11), .ref (y 12), .ref (y 13), .int (nI yf), .int (nI QX'_2.1)])), (y 10, .inl (cA 0, 12, .inl (xr'_2 0))), (y 11, .inl (cA 0, 12, .inl (xr'_2 1))), (y 12, .inl (cA 0, 12, .inl (xr'_2 2))), (y 13, .inl (cA 0, 48, .inl (xr'_2 3))), (x 7, .inl (cA 0, 4, .inl f)), (y 7, .inl (cA 0, 4, .inl fy))]) [1, 8, 9, 10, 11, 12, 13, 2, 3, 4, 5, 6, 7, 0, 14] rfl
  have hD := hD.sub (ws' := [(o, .inr (4, [.ref F, .ref G, .int lo, .int (nw + 1), .int se'_2, .ref (pa 0), .ref an, .ref ln])), cE x ((wt lo xv f QX QY se).1), (x 9, .inr (3, [.ref (x 10), .ref (x 11), .ref (x 12), .ref (x 13), .int (nI xf), .int (nI QY'_2.1)])), (x 10, .inl (cA 0, 12, .inl (yr'_2 0))), (x 11, .inl (cA 0, 12, .inl (yr'_2 1))), (x 12, .inl (cA 0, 12, .inl (yr'_2 2))), (x 13, .inl (cA 0, 48, .inl (yr'_2 3))), cE y xv'_2, (y 9, .inr (3, [.ref (y 10), .ref (y 11), .ref (y 12), .ref (y 13), .int (nI yf), .int (nI QX'_2.1)])), (y 10, .inl (cA 0, 12, .inl (xr'_2 0))), (y 11, .inl (cA 0, 12, .inl (xr'_2 1))), (y 12, .inl (cA 0, 12, .inl (xr'_2 2))), (y 13, .inl (cA 0, 48, .inl (xr'_2 3))), (x 7, .inl (cA 0, 4, .inl f)), (y 7, .inl (cA 0, 4, .inl fy))]) [1, 8, 9, 10, 11, 12, 13, 2, 3, 4, 5, 6, 7, 0, 14] (by decide) rfl
  clear hPc hDc hFc hP1 hD1 hk1 hz1
  obtain ⟨rfl, rfl, rfl, rfl, hw_2_0, hw_2_1⟩ := hw
  refine lv_aload_n hx hb dX3_tick_25 rfl (lv_at hl 1 rfl) ?_
  refine va_get (D := D) (ci := 4) (v := .int ((wt lo yv fy ((wt lo xv f QX QY se).2.1.2) ((wt lo xv f QX QY se).2.1.1) ((wt lo xv f QX QY se).2.2)).2.2)) (C := RX3) (T := TX3) (N := 8) hx hb hts (fun _ h => List.mem_cons_of_mem _ (List.mem_append_left _ (List.mem_append_left _ (List.mem_append_right _ (h))))) hown hK hP 0 rfl rfl 4 (by decide) (hts (.fieldLink RX3 27 "OptionWire" "packetsSent" "I") (List.mem_of_getElem? (i := 1) rfl)) (fun _ h9 => h9) rfl dX3_tick_26 ?_
  refine lv_iload_n hx hb dX3_tick_29 rfl (lv_at hl 0 rfl) ?_
  refine lv_isub hx hb dX3_tick_30 ?_
  refine W.widen (k := 0) (n := 0) (by omega) (by omega) ?_
  exact W.iret (v := (((wt lo yv fy ((wt lo xv f QX QY se).2.1.2) ((wt lo xv f QX QY se).2.1.1) ((wt lo xv f QX QY se).2.2)).2.2) - se)) hx hb hr (fun t ht hW => ⟨⟨((wt lo yv fy ((wt lo xv f QX QY se).2.1.2) ((wt lo xv f QX QY se).2.1.1) ((wt lo xv f QX QY se).2.2)).2.2) - se, (((wt lo xv f QX QY se).1), ((wt lo yv fy ((wt lo xv f QX QY se).2.1.2) ((wt lo xv f QX QY se).2.1.1) ((wt lo xv f QX QY se).2.2)).1), nw + 1, yr'_2, xr'_2, (wt lo yv fy ((wt lo xv f QX QY se).2.1.2) ((wt lo xv f QX QY se).2.1.1) ((wt lo xv f QX QY se).2.2)).2.1.2, (wt lo yv fy ((wt lo xv f QX QY se).2.1.2) ((wt lo xv f QX QY se).2.1.1) ((wt lo xv f QX QY se).2.2)).2.1.1, ((wt lo yv fy ((wt lo xv f QX QY se).2.1.2) ((wt lo xv f QX QY se).2.1.1) ((wt lo xv f QX QY se).2.2)).2.2)), rfl, ⟨rfl, rfl, rfl, rfl, rfl, rfl, by assumption, by assumption, rfl⟩, ⟨by rw [ht]; exact hP, by rw [hAe]; exact hD⟩⟩, hS.F ht⟩) hS.2.2 dX3_tick_31
