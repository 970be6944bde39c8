set_option maxHeartbeats 4000000 in
set_option maxRecDepth 100000 in
/-- End.isShut() -/
theorem c_X0_isShut (l : Launch) (D : va_G) (cA : Nat → ClassId) (sz : Nat) (a : Nat → Nat) (v : Nat → Int32)  : Met l yX0_isShut wsX0_isShut ({ frames := 0, cells := 0, slots := 0, locals := 0 }) (va_Pc [.ref (a 0)] (zU D cA sz [cE a v])) (va_Qi (fun (r : Int32) (_ : Unit) => r = bI (sSh (v 0))) (fun (_ : Unit) t => zB D [cE a v] sz [cE a v] t) (va_A [cE a v] sz)) 0 0 (va_A [cE a v] sz) := by
  refine Met.ofW (cc := cX0_isShut) (maxL := 1) (ret := (some .boolean)) (by decide) rfl ?_
  intro p e s m args below meth c s₁ B hml hv
  obtain ⟨rfl, hsz, hP, hK, hD0⟩ := hv
  have hx := B.exec
  have hb := B.bytes
  have hr := B.returns
  have hts := atoms_spec (ws := wsX0_isShut) B.pre
  have hown : s.vm.findClass RX0 = some m.cls := findClass_of_methodNamed B.named
  have hlocks := B.notSynchronized
  subst hsz
  have hD := hD0.self (sz := s.heap.size)
  generalize hAe : va_A [cE a v] s.heap.size = A at hD ⊢
  have hA : ∀ q : Nat, s.heap.size ≤ q → A q := fun q h => by rw [← hAe]; exact Or.inr h
  have hS : va_S A s.heap s.heap [] := va_S.rf
  have hl := lv_entry ([.ref (a 0)]) (n := 1) (Nat.le_of_ble_eq_true rfl)
  rw [lg_entry_eq]
  generalize (lg_sl ([.ref (a 0)]) ++ List.replicate (1 - (lg_sl ([.ref (a 0)])).length) Slot.unset).toArray = ls at hl ⊢
  have hl : lv_has ls 1 [(0, .ref (a 0))] := hl
  refine lv_aload_n hx hb dX0_isShut_0 rfl (lv_at hl 0 rfl) ?_
  refine va_get (D := D) (ci := 1) (v := .int (v 0)) (C := RX0) (T := TX0) (N := 16) hx hb hts (fun _ h => List.mem_cons_of_mem _ (List.mem_append_right _ (h))) hown hK hP 0 rfl rfl 9 (by decide) (hts (.fieldLink RX0 44 "OptionWire$End" "state" "I") (List.mem_of_getElem? (i := 1) rfl)) (fun _ h9 => h9) rfl dX0_isShut_1 ?_
  refine lv_if_eq (tgt := 25) hx hb dX0_isShut_4 (by decide) (fun c_1 => ?_) (fun c_1 => ?_)
  · skip
    refine lv_iconst (v := 1) hx hb dX0_isShut_25 (by decide) ?_
    refine lv_goto (tgt := 30) hx hb dX0_isShut_26 (by decide) ?_
    refine W.widen (k := 0) (n := 0) (by omega) (by omega) ?_
    exact W.zret (v := 1) hx hb hr rfl (fun t ht hW => ⟨⟨1, (), rfl, by simp [c_1, bI, sSh], ⟨by rw [ht]; exact hP, by rw [hAe]; exact hD⟩⟩, hS.F ht⟩) hS.2.2 dX0_isShut_30
  · skip
    refine lv_aload_n hx hb dX0_isShut_7 rfl (lv_at hl 0 rfl) ?_
    refine va_get (D := D) (ci := 1) (v := .int (v 0)) (C := RX0) (T := TX0) (N := 16) hx hb hts (fun _ h => List.mem_cons_of_mem _ (List.mem_append_right _ (h))) hown hK hP 0 rfl rfl 9 (by decide) (hts (.fieldLink RX0 44 "OptionWire$End" "state" "I") (List.mem_of_getElem? (i := 1) rfl)) (fun _ h9 => h9) rfl dX0_isShut_8 ?_
    refine lv_bipush (v := 6) hx hb dX0_isShut_11 (by decide) ?_
    refine lv_icmp_eq (tgt := 25) hx hb dX0_isShut_13 (by decide) (fun c_2 => ?_) (fun c_2 => ?_)
    · skip
      refine lv_iconst (v := 1) hx hb dX0_isShut_25 (by decide) ?_
      refine lv_goto (tgt := 30) hx hb dX0_isShut_26 (by decide) ?_
      refine W.widen (k := 0) (n := 0) (by omega) (by omega) ?_
      exact W.zret (v := 1) hx hb hr rfl (fun t ht hW => ⟨⟨1, (), rfl, by simp [c_1, c_2, bI, sSh], ⟨by rw [ht]; exact hP, by rw [hAe]; exact hD⟩⟩, hS.F ht⟩) hS.2.2 dX0_isShut_30
    · skip
      refine lv_aload_n hx hb dX0_isShut_16 rfl (lv_at hl 0 rfl) ?_
      refine va_get (D := D) (ci := 1) (v := .int (v 0)) (C := RX0) (T := TX0) (N := 16) hx hb hts (fun _ h => List.mem_cons_of_mem _ (List.mem_append_right _ (h))) hown hK hP 0 rfl rfl 9 (by decide) (hts (.fieldLink RX0 44 "OptionWire$End" "state" "I") (List.mem_of_getElem? (i := 1) rfl)) (fun _ h9 => h9) rfl dX0_isShut_17 ?_
      refine lv_bipush (v := 7) hx hb dX0_isShut_20 (by decide) ?_
      refine lv_icmp_ne (tgt := 29) hx hb dX0_isShut_22 (by decide) (fun c_3 => ?_) (fun c_3 => ?_)
      · skip
        refine lv_iconst (v := 0) hx hb dX0_isShut_29 (by decide) ?_
        refine W.widen (k := 0) (n := 0) (by omega) (by omega) ?_
        exact W.zret (v := 0) hx hb hr rfl (fun t ht hW => ⟨⟨0, (), rfl, by simp [c_1, c_2, c_3, bI, sSh], ⟨by rw [ht]; exact hP, by rw [hAe]; exact hD⟩⟩, hS.F ht⟩) hS.2.2 dX0_isShut_30
      · skip
        refine lv_iconst (v := 1) hx hb dX0_isShut_25 (by decide) ?_
        refine lv_goto (tgt := 30) hx hb dX0_isShut_26 (by decide) ?_
        refine W.widen (k := 0) (n := 0) (by omega) (by omega) ?_
        exact W.zret (v := 1) hx hb hr rfl (fun t ht hW => ⟨⟨1, (), rfl, by simp [c_1, c_2, c_3, bI, sSh], ⟨by rw [ht]; exact hP, by rw [hAe]; exact hD⟩⟩, hS.F ht⟩) hS.2.2 dX0_isShut_30
set_option maxHeartbeats 4000000 in
set_option maxRecDepth 100000 in
/-- End.isUp() -/
theorem c_X0_isUp (l : Launch) (D : va_G) (cA : Nat → ClassId) (sz : Nat) (a : Nat → Nat) (v : Nat → Int32)  : Met l yX0_isUp wsX0_isUp ({ frames := 1, cells := 0, slots := 0, locals := 20 }) (va_Pc [.ref (a 0)] (zU D cA sz [cE a v])) (va_Qi (fun (r : Int32) (_ : Unit) => r = bI (sUp (v 0))) (fun (_ : Unit) t => zB D [cE a v] sz [cE a v] t) (va_A [cE a v] sz)) 0 0 (va_A [cE a v] sz) := by
  refine Met.ofW (cc := cX0_isUp) (maxL := 1) (ret := (some .boolean)) (by decide) rfl ?_
  intro p e s m args below meth c s₁ B hml hv
  obtain ⟨rfl, hsz, hP, hK, hD0⟩ := hv
  have hx := B.exec
  have hb := B.bytes
  have hr := B.returns
  have hts := atoms_spec (ws := wsX0_isUp) B.pre
  have hown : s.vm.findClass RX0 = some m.cls := findClass_of_methodNamed B.named
  have hlocks := B.notSynchronized
  subst hsz
  have hD := hD0.self (sz := s.heap.size)
  generalize hAe : va_A [cE a v] s.heap.size = A at hD ⊢
  have hA : ∀ q : Nat, s.heap.size ≤ q → A q := fun q h => by rw [← hAe]; exact Or.inr h
  have hS : va_S A s.heap s.heap [] := va_S.rf
  have hl := lv_entry ([.ref (a 0)]) (n := 1) (Nat.le_of_ble_eq_true rfl)
  rw [lg_entry_eq]
  generalize (lg_sl ([.ref (a 0)]) ++ List.replicate (1 - (lg_sl ([.ref (a 0)])).length) Slot.unset).toArray = ls at hl ⊢
  have hl : lv_has ls 1 [(0, .ref (a 0))] := hl
  refine lv_aload_n hx hb dX0_isUp_0 rfl (lv_at hl 0 rfl) ?_
  have hPc := hP.sub (ws' := [cE a v]) [0] rfl
  have hDc := hD.sub (ws' := [cE a v]) [0] (by decide) rfl
  have hFc := va_free (wc := [cE a v]) hD hS hA [0] rfl
  refine va_calli (va_runV (As := []) (rest := []) ⟨hx, hb, hml, hown, hts⟩ (c_X0_isShut l D cA s.heap.size a v) (cwV 0 hts gX0_isUp_X0_isShut rfl rfl rfl (by decide +kernel) ⟨Nat.le_of_ble_eq_true rfl, Nat.le_of_ble_eq_true rfl⟩) ⟨zU_blind, va_recv hK hPc (ci := 1) (q0 := 0) rfl rfl, fun U hU hW => ⟨rfl, zU_call hU hPc hW.alike hK hDc⟩⟩ rfl rfl hl.1 rfl (lv_room (Nat.le_of_ble_eq_true rfl)) dX0_isUp_1 ⟨(Nat.zero_le _), (Nat.zero_le _)⟩) hS (fun q _ h => hFc q h) hFc (fun zr u t H1 locs ht hvm hw hB hz1 hk1 hS => ?_)
  obtain ⟨hP1, hD1⟩ := hB
  rw [ht] at hP1
  obtain ⟨hP, hD⟩ := va_join (wr := []) (w1 := [cE a v]) hP hD [0] [] rfl rfl (by decide) (by decide) hk1 hFc hP1 hD1
  generalize H1 = H at hP hS ⊢
  have hP := hP.sub (ws' := [cE a v]) [0] rfl
  have hD := hD.sub (ws' := [cE a v]) [0] (by decide) rfl
  clear hPc hDc hFc hP1 hD1 hk1 hz1
  have hw_1 := hw
  rcases z_bool hw with ⟨h_1, rfl⟩ | ⟨h_1, rfl⟩
  · skip
    refine lv_if_ne (tgt := 19) hx hb dX0_isUp_4 (by decide) (fun _ => ?_) (fun c_2 => absurd c_2 (by decide))
    refine lv_iconst (v := 0) hx hb dX0_isUp_19 (by decide) ?_
    refine W.widen (k := 0) (n := 0) (by omega) (by omega) ?_
    exact W.zret (v := 0) hx hb hr rfl (fun t ht hW => ⟨⟨0, (), rfl, by simp [h_1, bI, sUp], ⟨by rw [ht]; exact hP, by rw [hAe]; exact hD⟩⟩, hS.F ht⟩) hS.2.2 dX0_isUp_20
  · skip
    refine lv_if_ne (tgt := 19) hx hb dX0_isUp_4 (by decide) (fun c_3 => absurd c_3 (by decide)) (fun _ => ?_)
    refine lv_aload_n hx hb dX0_isUp_7 rfl (lv_at hl 0 rfl) ?_
    refine va_get (D := D) (ci := 1) (v := .int (v 0)) (C := RX0) (T := TX0) (N := 16) hx hb hts (fun _ h => List.mem_cons_of_mem _ (List.mem_append_right _ (h))) hown hK hP 0 rfl rfl 9 (by decide) (hts (.fieldLink RX0 44 "OptionWire$End" "state" "I") (List.mem_of_getElem? (i := 1) rfl)) (fun _ h9 => h9) rfl dX0_isUp_8 ?_
    refine lv_iconst (v := 5) hx hb dX0_isUp_11 (by decide) ?_
    refine lv_icmp_eq (tgt := 19) hx hb dX0_isUp_12 (by decide) (fun c_4 => ?_) (fun c_4 => ?_)
    · skip
      refine lv_iconst (v := 0) hx hb dX0_isUp_19 (by decide) ?_
      refine W.widen (k := 0) (n := 0) (by omega) (by omega) ?_
      exact W.zret (v := 0) hx hb hr rfl (fun t ht hW => ⟨⟨0, (), rfl, by simp [h_1, c_4, bI, sUp], ⟨by rw [ht]; exact hP, by rw [hAe]; exact hD⟩⟩, hS.F ht⟩) hS.2.2 dX0_isUp_20
    · skip
      refine lv_iconst (v := 1) hx hb dX0_isUp_15 (by decide) ?_
      refine lv_goto (tgt := 20) hx hb dX0_isUp_16 (by decide) ?_
      refine W.widen (k := 0) (n := 0) (by omega) (by omega) ?_
      exact W.zret (v := 1) hx hb hr rfl (fun t ht hW => ⟨⟨1, (), rfl, by simp [h_1, c_4, bI, sUp], ⟨by rw [ht]; exact hP, by rw [hAe]; exact hD⟩⟩, hS.F ht⟩) hS.2.2 dX0_isUp_20
set_option maxHeartbeats 4000000 in
set_option maxRecDepth 100000 in
/-- End.isWaiting() -/
theorem c_X0_isWaiting (l : Launch) (D : va_G) (cA : Nat → ClassId) (sz : Nat) (a : Nat → Nat) (v : Nat → Int32)  : Met l yX0_isWaiting wsX0_isWaiting ({ frames := 1, cells := 0, slots := 0, locals := 20 }) (va_Pc [.ref (a 0)] (zU D cA sz [cE a v])) (va_Qi (fun (r : Int32) (_ : Unit) => r = bI (sWt (v 0))) (fun (_ : Unit) t => zB D [cE a v] sz [cE a v] t) (va_A [cE a v] sz)) 0 0 (va_A [cE a v] sz) := by
  refine Met.ofW (cc := cX0_isWaiting) (maxL := 1) (ret := (some .boolean)) (by decide) rfl ?_
  intro p e s m args below meth c s₁ B hml hv
  obtain ⟨rfl, hsz, hP, hK, hD0⟩ := hv
  have hx := B.exec
  have hb := B.bytes
  have hr := B.returns
  have hts := atoms_spec (ws := wsX0_isWaiting) B.pre
  have hown : s.vm.findClass RX0 = some m.cls := findClass_of_methodNamed B.named
  have hlocks := B.notSynchronized
  subst hsz
  have hD := hD0.self (sz := s.heap.size)
  generalize hAe : va_A [cE a v] s.heap.size = A at hD ⊢
  have hA : ∀ q : Nat, s.heap.size ≤ q → A q := fun q h => by rw [← hAe]; exact Or.inr h
  have hS : va_S A s.heap s.heap [] := va_S.rf
  have hl := lv_entry ([.ref (a 0)]) (n := 1) (Nat.le_of_ble_eq_true rfl)
  rw [lg_entry_eq]
  generalize (lg_sl ([.ref (a 0)]) ++ List.replicate (1 - (lg_sl ([.ref (a 0)])).length) Slot.unset).toArray = ls at hl ⊢
  have hl : lv_has ls 1 [(0, .ref (a 0))] := hl
  refine lv_aload_n hx hb dX0_isWaiting_0 rfl (lv_at hl 0 rfl) ?_
  have hPc := hP.sub (ws' := [cE a v]) [0] rfl
  have hDc := hD.sub (ws' := [cE a v]) [0] (by decide) rfl
  have hFc := va_free (wc := [cE a v]) hD hS hA [0] rfl
  refine va_calli (va_runV (As := []) (rest := []) ⟨hx, hb, hml, hown, hts⟩ (c_X0_isShut l D cA s.heap.size a v) (cwV 0 hts gX0_isWaiting_X0_isShut rfl rfl rfl (by decide +kernel) ⟨Nat.le_of_ble_eq_true rfl, Nat.le_of_ble_eq_true rfl⟩) ⟨zU_blind, va_recv hK hPc (ci := 1) (q0 := 0) rfl rfl, fun U hU hW => ⟨rfl, zU_call hU hPc hW.alike hK hDc⟩⟩ rfl rfl hl.1 rfl (lv_room (Nat.le_of_ble_eq_true rfl)) dX0_isWaiting_1 ⟨(Nat.zero_le _), (Nat.zero_le _)⟩) hS (fun q _ h => hFc q h) hFc (fun zr u t H1 locs ht hvm hw hB hz1 hk1 hS => ?_)
  obtain ⟨hP1, hD1⟩ := hB
  rw [ht] at hP1
  obtain ⟨hP, hD⟩ := va_join (wr := []) (w1 := [cE a v]) hP hD [0] [] rfl rfl (by decide) (by decide) hk1 hFc hP1 hD1
  generalize H1 = H at hP hS ⊢
  have hP := hP.sub (ws' := [cE a v]) [0] rfl
  have hD := hD.sub (ws' := [cE a v]) [0] (by decide) rfl
  clear hPc hDc hFc hP1 hD1 hk1 hz1
  have hw_1 := hw
  rcases z_bool hw with ⟨h_1, rfl⟩ | ⟨h_1, rfl⟩
  · skip
    refine lv_if_ne (tgt := 19) hx hb dX0_isWaiting_4 (by decide) (fun _ => ?_) (fun c_2 => absurd c_2 (by decide))
    refine lv_iconst (v := 0) hx hb dX0_isWaiting_19 (by decide) ?_
    refine W.widen (k := 0) (n := 0) (by omega) (by omega) ?_
    exact W.zret (v := 0) hx hb hr rfl (fun t ht hW => ⟨⟨0, (), rfl, by simp [h_1, bI, sWt], ⟨by rw [ht]; exact hP, by rw [hAe]; exact hD⟩⟩, hS.F ht⟩) hS.2.2 dX0_isWaiting_20
  · skip
    refine lv_if_ne (tgt := 19) hx hb dX0_isWaiting_4 (by decide) (fun c_3 => absurd c_3 (by decide)) (fun _ => ?_)
    refine lv_aload_n hx hb dX0_isWaiting_7 rfl (lv_at hl 0 rfl) ?_
    refine va_get (D := D) (ci := 1) (v := .int (v 0)) (C := RX0) (T := TX0) (N := 16) hx hb hts (fun _ h => List.mem_cons_of_mem _ (List.mem_append_right _ (h))) hown hK hP 0 rfl rfl 9 (by decide) (hts (.fieldLink RX0 44 "OptionWire$End" "state" "I") (List.mem_of_getElem? (i := 1) rfl)) (fun _ h9 => h9) rfl dX0_isWaiting_8 ?_
    refine lv_iconst (v := 4) hx hb dX0_isWaiting_11 (by decide) ?_
    refine lv_icmp_eq (tgt := 19) hx hb dX0_isWaiting_12 (by decide) (fun c_4 => ?_) (fun c_4 => ?_)
    · skip
      refine lv_iconst (v := 0) hx hb dX0_isWaiting_19 (by decide) ?_
      refine W.widen (k := 0) (n := 0) (by omega) (by omega) ?_
      exact W.zret (v := 0) hx hb hr rfl (fun t ht hW => ⟨⟨0, (), rfl, by simp [h_1, c_4, bI, sWt], ⟨by rw [ht]; exact hP, by rw [hAe]; exact hD⟩⟩, hS.F ht⟩) hS.2.2 dX0_isWaiting_20
    · skip
      refine lv_iconst (v := 1) hx hb dX0_isWaiting_15 (by decide) ?_
      refine lv_goto (tgt := 20) hx hb dX0_isWaiting_16 (by decide) ?_
      refine W.widen (k := 0) (n := 0) (by omega) (by omega) ?_
      exact W.zret (v := 1) hx hb hr rfl (fun t ht hW => ⟨⟨1, (), rfl, by simp [h_1, c_4, bI, sWt], ⟨by rw [ht]; exact hP, by rw [hAe]; exact hD⟩⟩, hS.F ht⟩) hS.2.2 dX0_isWaiting_20
set_option maxHeartbeats 4000000 in
set_option maxRecDepth 100000 in
/-- End.becomeOpened() -/
theorem c_X0_becomeOpened (l : Launch) (D : va_G) (cA : Nat → ClassId) (sz : Nat) (a : Nat → Nat) (v : Nat → Int32)  : Met l yX0_becomeOpened wsX0_becomeOpened ({ frames := 0, cells := 0, slots := 0, locals := 0 }) (va_Pc [.ref (a 0)] (zU D cA sz [cE a v])) (va_Qv (fun (u : (Nat → Int32)) => u = upd (upd v 0 4) 3 10) (fun (u : (Nat → Int32)) t => zB D [cE a v] sz [cE a u] t) (va_A [cE a v] sz)) 0 0 (va_A [cE a v] sz) := by
  refine Met.ofW (cc := cX0_becomeOpened) (maxL := 1) (ret := none) (by decide) rfl ?_
  intro p e s m args below meth c s₁ B hml hv
  obtain ⟨rfl, hsz, hP, hK, hD0⟩ := hv
  have hx := B.exec
  have hb := B.bytes
  have hr := B.returns
  have hts := atoms_spec (ws := wsX0_becomeOpened) B.pre
  have hown : s.vm.findClass RX0 = some m.cls := findClass_of_methodNamed B.named
  have hlocks := B.notSynchronized
  subst hsz
  have hD := hD0.self (sz := s.heap.size)
  generalize hAe : va_A [cE a v] s.heap.size = A at hD ⊢
  have hA : ∀ q : Nat, s.heap.size ≤ q → A q := fun q h => by rw [← hAe]; exact Or.inr h
  have hS : va_S A s.heap s.heap [] := va_S.rf
  have hl := lv_entry ([.ref (a 0)]) (n := 1) (Nat.le_of_ble_eq_true rfl)
  rw [lg_entry_eq]
  generalize (lg_sl ([.ref (a 0)]) ++ List.replicate (1 - (lg_sl ([.ref (a 0)])).length) Slot.unset).toArray = ls at hl ⊢
  have hl : lv_has ls 1 [(0, .ref (a 0))] := hl
  refine lv_aload_n hx hb dX0_becomeOpened_0 rfl (lv_at hl 0 rfl) ?_
  refine lv_iconst (v := 4) hx hb dX0_becomeOpened_1 (by decide) ?_
  refine va_put (D := D) (ci := 1) (v := .int 4) (ty := .int) (C := RX0) (T := TX0) (N := 16) hx hb hts (fun _ h => List.mem_cons_of_mem _ (List.mem_append_right _ (h))) tyX0 tyX0_ok nmX0 hown hK hP hD hS 0 rfl rfl 9 (by decide) (hts (.fieldLink RX0 44 "OptionWire$End" "state" "I") (List.mem_of_getElem? (i := 1) rfl)) (fun _ h9 => h9) rfl (by decide +kernel) rfl rfl (Nat.le_of_ble_eq_true rfl) dX0_becomeOpened_2 (fun H locs hP hD hS => ?_)
  have hP : va_P D vwCl [cE a (upd v 0 4)] H := hP
  have hD : va_D A [cE a (upd v 0 4)] := hD
  refine lv_aload_n hx hb dX0_becomeOpened_5 rfl (lv_at hl 0 rfl) ?_
  refine lv_bipush (v := 10) hx hb dX0_becomeOpened_6 (by decide) ?_
  refine va_put (D := D) (ci := 1) (v := .int 10) (ty := .int) (C := RX0) (T := TX0) (N := 16) hx hb hts (fun _ h => List.mem_cons_of_mem _ (List.mem_append_right _ (h))) tyX0 tyX0_ok nmX0 hown hK hP hD hS 0 rfl rfl 12 (by decide) (hts (.fieldLink RX0 54 "OptionWire$End" "tries" "I") (List.mem_of_getElem? (i := 2) rfl)) (fun _ h9 => h9) rfl (by decide +kernel) rfl rfl (Nat.le_of_ble_eq_true rfl) dX0_becomeOpened_8 (fun H locs hP hD hS => ?_)
  have hP : va_P D vwCl [cE a (upd (upd v 0 4) 3 10)] H := hP
  have hD : va_D A [cE a (upd (upd v 0 4) 3 10)] := hD
  refine W.widen (k := 0) (n := 0) (by omega) (by omega) ?_
  exact W.vret hx hb hr (fun t ht hW => ⟨⟨((upd (upd v 0 4) 3 10)), rfl, rfl, ⟨by rw [ht]; exact hP, by rw [hAe]; exact hD⟩⟩, hS.F ht⟩) hS.2.2 dX0_becomeOpened_11
set_option maxHeartbeats 4000000 in
set_option maxRecDepth 100000 in
/-- End.moveOnAfterYes() -/
theorem c_X0_moveOnAfterYes (l : Launch) (D : va_G) (cA : Nat → ClassId) (sz : Nat) (a : Nat → Nat) (v : Nat → Int32)  : Met l yX0_moveOnAfterYes wsX0_moveOnAfterYes ({ frames := 1, cells := 0, slots := 0, locals := 20 }) (va_Pc [.ref (a 0)] (zU D cA sz [cE a v])) (va_Qv (fun (u : (Nat → Int32)) => u = mvY v) (fun (u : (Nat → Int32)) t => zB D [cE a v] sz [cE a u] t) (va_A [cE a v] sz)) 0 0 (va_A [cE a v] sz) := by
  refine Met.ofW (cc := cX0_moveOnAfterYes) (maxL := 1) (ret := none) (by decide) rfl ?_
  intro p e s m args below meth c s₁ B hml hv
  obtain ⟨rfl, hsz, hP, hK, hD0⟩ := hv
  have hx := B.exec
  have hb := B.bytes
  have hr := B.returns
  have hts := atoms_spec (ws := wsX0_moveOnAfterYes) B.pre
  have hown : s.vm.findClass RX0 = some m.cls := findClass_of_methodNamed B.named
  have hlocks := B.notSynchronized
  subst hsz
  have hD := hD0.self (sz := s.heap.size)
  generalize hAe : va_A [cE a v] s.heap.size = A at hD ⊢
  have hA : ∀ q : Nat, s.heap.size ≤ q → A q := fun q h => by rw [← hAe]; exact Or.inr h
  have hS : va_S A s.heap s.heap [] := va_S.rf
  have hl := lv_entry ([.ref (a 0)]) (n := 1) (Nat.le_of_ble_eq_true rfl)
  rw [lg_entry_eq]
  generalize (lg_sl ([.ref (a 0)]) ++ List.replicate (1 - (lg_sl ([.ref (a 0)])).length) Slot.unset).toArray = ls at hl ⊢
  have hl : lv_has ls 1 [(0, .ref (a 0))] := hl
  refine lv_aload_n hx hb dX0_moveOnAfterYes_0 rfl (lv_at hl 0 rfl) ?_
  refine va_get (D := D) (ci := 1) (v := .int (v 0)) (C := RX0) (T := TX0) (N := 16) hx hb hts (fun _ h => List.mem_cons_of_mem _ (List.mem_append_right _ (h))) hown hK hP 0 rfl rfl 9 (by decide) (hts (.fieldLink RX0 44 "OptionWire$End" "state" "I") (List.mem_of_getElem? (i := 1) rfl)) (fun _ h9 => h9) rfl dX0_moveOnAfterYes_1 ?_
  refine lv_iconst (v := 1) hx hb dX0_moveOnAfterYes_4 (by decide) ?_
  refine lv_icmp_ne (tgt := 16) hx hb dX0_moveOnAfterYes_5 (by decide) (fun c_1 => ?_) (fun c_1 => ?_)
  · skip
    refine lv_aload_n hx hb dX0_moveOnAfterYes_16 rfl (lv_at hl 0 rfl) ?_
    refine va_get (D := D) (ci := 1) (v := .int (v 0)) (C := RX0) (T := TX0) (N := 16) hx hb hts (fun _ h => List.mem_cons_of_mem _ (List.mem_append_right _ (h))) hown hK hP 0 rfl rfl 9 (by decide) (hts (.fieldLink RX0 44 "OptionWire$End" "state" "I") (List.mem_of_getElem? (i := 1) rfl)) (fun _ h9 => h9) rfl dX0_moveOnAfterYes_17 ?_
    refine lv_iconst (v := 2) hx hb dX0_moveOnAfterYes_20 (by decide) ?_
    refine lv_icmp_ne (tgt := 28) hx hb dX0_moveOnAfterYes_21 (by decide) (fun c_2 => ?_) (fun c_2 => ?_)
    · skip
      refine W.widen (k := 0) (n := 0) (by omega) (by omega) ?_
      exact W.vret hx hb hr (fun t ht hW => ⟨⟨(v), rfl, by simp [c_1, c_2, mvY], ⟨by rw [ht]; exact hP, by rw [hAe]; exact hD⟩⟩, hS.F ht⟩) hS.2.2 dX0_moveOnAfterYes_28
    · skip
      refine lv_aload_n hx hb dX0_moveOnAfterYes_24 rfl (lv_at hl 0 rfl) ?_
      have hPc := hP.sub (ws' := [cE a v]) [0] rfl
      have hDc := hD.sub (ws' := [cE a v]) [0] (by decide) rfl
      have hFc := va_free (wc := [cE a v]) hD hS hA [0] rfl
      refine va_callv (va_runV (As := []) (rest := []) ⟨hx, hb, hml, hown, hts⟩ (c_X0_becomeOpened l D cA s.heap.size a v) (cwV 0 hts gX0_moveOnAfterYes_X0_becomeOpened rfl rfl rfl (by decide +kernel) ⟨Nat.le_of_ble_eq_true rfl, Nat.le_of_ble_eq_true rfl⟩) ⟨zU_blind, va_recv hK hPc (ci := 1) (q0 := 0) rfl rfl, fun U hU hW => ⟨rfl, zU_call hU hPc hW.alike hK hDc⟩⟩ rfl rfl hl.1 rfl (lv_room (Nat.le_of_ble_eq_true rfl)) dX0_moveOnAfterYes_25 ⟨(Nat.zero_le _), (Nat.zero_le _)⟩) hS (fun q _ h => hFc q h) hFc (fun u t H1 locs ht hvm hw hB hz1 hk1 hS => ?_)
      obtain ⟨v'_3, rfl⟩ : ∃ z, z = u := ⟨_, rfl⟩
      obtain ⟨hP1, hD1⟩ := hB
      rw [ht] at hP1
      try dsimp only at hw hP1 hD1
      obtain ⟨hP, hD⟩ := va_join (wr := []) (w1 := [cE a v'_3]) hP hD [0] [] rfl rfl (by decide) (by decide) hk1 hFc hP1 hD1
      generalize H1 = H at hP hS ⊢
      have hP := hP.sub (ws' := [cE a v'_3]) [0] rfl
      have hD := hD.sub (ws' := [cE a v'_3]) [0] (by decide) rfl
      clear hPc hDc hFc hP1 hD1 hk1 hz1
      obtain rfl := hw
      refine W.widen (k := 0) (n := 0) (by omega) (by omega) ?_
      exact W.vret hx hb hr (fun t ht hW => ⟨⟨((upd (upd v 0 4) 3 10)), rfl, by simp [c_1, c_2, mvY], ⟨by rw [ht]; exact hP, by rw [hAe]; exact hD⟩⟩, hS.F ht⟩) hS.2.2 dX0_moveOnAfterYes_28
  · skip
    refine lv_aload_n hx hb dX0_moveOnAfterYes_8 rfl (lv_at hl 0 rfl) ?_
    refine lv_iconst (v := 3) hx hb dX0_moveOnAfterYes_9 (by decide) ?_
    refine va_put (D := D) (ci := 1) (v := .int 3) (ty := .int) (C := RX0) (T := TX0) (N := 16) hx hb hts (fun _ h => List.mem_cons_of_mem _ (List.mem_append_right _ (h))) tyX0 tyX0_ok nmX0 hown hK hP hD hS 0 rfl rfl 9 (by decide) (hts (.fieldLink RX0 44 "OptionWire$End" "state" "I") (List.mem_of_getElem? (i := 1) rfl)) (fun _ h9 => h9) rfl (by decide +kernel) rfl rfl (Nat.le_of_ble_eq_true rfl) dX0_moveOnAfterYes_10 (fun H locs hP hD hS => ?_)
    have hP : va_P D vwCl [cE a (upd v 0 3)] H := hP
    have hD : va_D A [cE a (upd v 0 3)] := hD
    refine lv_goto (tgt := 28) hx hb dX0_moveOnAfterYes_13 (by decide) ?_
    refine W.widen (k := 0) (n := 0) (by omega) (by omega) ?_
    exact W.vret hx hb hr (fun t ht hW => ⟨⟨((upd v 0 3)), rfl, by simp [c_1, mvY], ⟨by rw [ht]; exact hP, by rw [hAe]; exact hD⟩⟩, hS.F ht⟩) hS.2.2 dX0_moveOnAfterYes_28
set_option maxHeartbeats 4000000 in
set_option maxRecDepth 100000 in
/-- End.countLoop() -/
theorem c_X0_countLoop (l : Launch) (D : va_G) (cA : Nat → ClassId) (sz : Nat) (a : Nat → Nat) (v : Nat → Int32)  : Met l yX0_countLoop wsX0_countLoop ({ frames := 0, cells := 0, slots := 0, locals := 0 }) (va_Pc [.ref (a 0)] (zU D cA sz [cE a v])) (va_Qv (fun (u : (Nat → Int32)) => u = cnL v) (fun (u : (Nat → Int32)) t => zB D [cE a v] sz [cE a u] t) (va_A [cE a v] sz)) 0 0 (va_A [cE a v] sz) := by
  refine Met.ofW (cc := cX0_countLoop) (maxL := 1) (ret := none) (by decide) rfl ?_
  intro p e s m args below meth c s₁ B hml hv
  obtain ⟨rfl, hsz, hP, hK, hD0⟩ := hv
  have hx := B.exec
  have hb := B.bytes
  have hr := B.returns
  have hts := atoms_spec (ws := wsX0_countLoop) B.pre
  have hown : s.vm.findClass RX0 = some m.cls := findClass_of_methodNamed B.named
  have hlocks := B.notSynchronized
  subst hsz
  have hD := hD0.self (sz := s.heap.size)
  generalize hAe : va_A [cE a v] s.heap.size = A at hD ⊢
  have hA : ∀ q : Nat, s.heap.size ≤ q → A q := fun q h => by rw [← hAe]; exact Or.inr h
  have hS : va_S A s.heap s.heap [] := va_S.rf
  have hl := lv_entry ([.ref (a 0)]) (n := 1) (Nat.le_of_ble_eq_true rfl)
  rw [lg_entry_eq]
  generalize (lg_sl ([.ref (a 0)]) ++ List.replicate (1 - (lg_sl ([.ref (a 0)])).length) Slot.unset).toArray = ls at hl ⊢
  have hl : lv_has ls 1 [(0, .ref (a 0))] := hl
  refine lv_aload_n hx hb dX0_countLoop_0 rfl (lv_at hl 0 rfl) ?_
  refine lv_dup hx hb dX0_countLoop_1 rfl ?_
  refine va_get (D := D) (ci := 1) (v := .int (v 5)) (C := RX0) (T := TX0) (N := 16) hx hb hts (fun _ h => List.mem_cons_of_mem _ (List.mem_append_right _ (h))) hown hK hP 0 rfl rfl 14 (by decide) (hts (.fieldLink RX0 60 "OptionWire$End" "loops" "I") (List.mem_of_getElem? (i := 1) rfl)) (fun _ h9 => h9) rfl dX0_countLoop_2 ?_
  refine lv_iconst (v := 1) hx hb dX0_countLoop_5 (by decide) ?_
  refine lv_iadd hx hb dX0_countLoop_6 ?_
  refine va_put (D := D) (ci := 1) (v := .int ((v 5) + 1)) (ty := .int) (C := RX0) (T := TX0) (N := 16) hx hb hts (fun _ h => List.mem_cons_of_mem _ (List.mem_append_right _ (h))) tyX0 tyX0_ok nmX0 hown hK hP hD hS 0 rfl rfl 14 (by decide) (hts (.fieldLink RX0 60 "OptionWire$End" "loops" "I") (List.mem_of_getElem? (i := 1) rfl)) (fun _ h9 => h9) rfl (by decide +kernel) rfl rfl (Nat.le_of_ble_eq_true rfl) dX0_countLoop_7 (fun H locs hP hD hS => ?_)
  have hP : va_P D vwCl [cE a (upd v 5 ((v 5) + 1))] H := hP
  have hD : va_D A [cE a (upd v 5 ((v 5) + 1))] := hD
  refine lv_aload_n hx hb dX0_countLoop_10 rfl (lv_at hl 0 rfl) ?_
  refine va_get (D := D) (ci := 1) (v := .int ((v 5) + 1)) (C := RX0) (T := TX0) (N := 16) hx hb hts (fun _ h => List.mem_cons_of_mem _ (List.mem_append_right _ (h))) hown hK hP 0 rfl rfl 14 (by decide) (hts (.fieldLink RX0 60 "OptionWire$End" "loops" "I") (List.mem_of_getElem? (i := 1) rfl)) (fun _ h9 => h9) rfl dX0_countLoop_11 ?_
  refine lv_iconst (v := 3) hx hb dX0_countLoop_14 (by decide) ?_
  refine lv_icmp_ne (tgt := 24) hx hb dX0_countLoop_15 (by decide) (fun c_1 => ?_) (fun c_1 => ?_)
  · skip
    refine W.widen (k := 0) (n := 0) (by omega) (by omega) ?_
    exact W.vret hx hb hr (fun t ht hW => ⟨⟨((upd v 5 ((v 5) + 1))), rfl, by simp [c_1, cnL], ⟨by rw [ht]; exact hP, by rw [hAe]; exact hD⟩⟩, hS.F ht⟩) hS.2.2 dX0_countLoop_24
  · skip
    refine lv_aload_n hx hb dX0_countLoop_18 rfl (lv_at hl 0 rfl) ?_
    refine lv_bipush (v := 7) hx hb dX0_countLoop_19 (by decide) ?_
    refine va_put (D := D) (ci := 1) (v := .int 7) (ty := .int) (C := RX0) (T := TX0) (N := 16) hx hb hts (fun _ h => List.mem_cons_of_mem _ (List.mem_append_right _ (h))) tyX0 tyX0_ok nmX0 hown hK hP hD hS 0 rfl rfl 9 (by decide) (hts (.fieldLink RX0 44 "OptionWire$End" "state" "I") (List.mem_of_getElem? (i := 2) rfl)) (fun _ h9 => h9) rfl (by decide +kernel) rfl rfl (Nat.le_of_ble_eq_true rfl) dX0_countLoop_21 (fun H locs hP hD hS => ?_)
    have hP : va_P D vwCl [cE a (upd (upd v 5 ((v 5) + 1)) 0 7)] H := hP
    have hD : va_D A [cE a (upd (upd v 5 ((v 5) + 1)) 0 7)] := hD
    refine W.widen (k := 0) (n := 0) (by omega) (by omega) ?_
    exact W.vret hx hb hr (fun t ht hW => ⟨⟨((upd (upd v 5 ((v 5) + 1)) 0 7)), rfl, by simp [c_1, cnL], ⟨by rw [ht]; exact hP, by rw [hAe]; exact hD⟩⟩, hS.F ht⟩) hS.2.2 dX0_countLoop_24
