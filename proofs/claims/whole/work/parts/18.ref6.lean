theorem fitz {x : Int32} (h : x = 0 ∨ x = 1) : fits .boolean (.int x) = true := by rcases h with rfl | rfl <;> rfl
set_option maxHeartbeats 4000000 in
set_option maxRecDepth 100000 in
theorem c_X4_state_k (l : Launch) (D : va_G) (cA : Nat → ClassId) (sz : Nat) (b : Nat → Nat) (mm : Nat → Int32) (ix : Nat) (c1 c2 : Int32)  (hix : ix ≤ 1) : Met l yX4_state wsX4_state ({ frames := 2, cells := 0, slots := 0, locals := 42 }) (va_Pc [.ref (b 0), .int (nI ix)] (zU D cA sz [cM b mm, (b 9, .inl (cA 0, 2, .inl (t2 ix c1 c2)))])) (va_Qi (fun (r : Int32) (u : (Nat → Int32)) => u = upd mm 6 0 ∧ r = c1) (fun (u : (Nat → Int32)) t => zB D [cM b mm, (b 9, .inl (cA 0, 2, .inl (t2 ix c1 c2)))] sz [cM b u, (b 9, .inl (cA 0, 2, .inl (t2 ix c1 c2)))] t) (va_A [cM b mm, (b 9, .inl (cA 0, 2, .inl (t2 ix c1 c2)))] sz)) 0 0 (va_A [cM b mm, (b 9, .inl (cA 0, 2, .inl (t2 ix c1 c2)))] sz) := by
  refine Met.ofW (cc := cX4_state) (maxL := 2) (ret := (some .int)) (by decide) rfl ?_
  intro p e s m args below meth c s₁ B hml hv
  obtain ⟨rfl, hsz, hP, hK, hD0⟩ := hv
  have hx := B.exec
  have hb := B.bytes
  have hr := B.returns
  have hts := atoms_spec (ws := wsX4_state) B.pre
  have hown : s.vm.findClass RX4 = some m.cls := findClass_of_methodNamed B.named
  have hlocks := B.notSynchronized
  subst hsz
  have hD := hD0.self (sz := s.heap.size)
  generalize hAe : va_A [cM b mm, (b 9, .inl (cA 0, 2, .inl (t2 ix c1 c2)))] s.heap.size = A at hD ⊢
  have hA : ∀ q : Nat, s.heap.size ≤ q → A q := fun q h => by rw [← hAe]; exact Or.inr h
  have hS : va_S A s.heap s.heap [] := va_S.rf
  have hl := lv_entry ([.ref (b 0), .int (nI ix)]) (n := 2) (Nat.le_of_ble_eq_true rfl)
  rw [lg_entry_eq]
  generalize (lg_sl ([.ref (b 0), .int (nI ix)]) ++ List.replicate (2 - (lg_sl ([.ref (b 0), .int (nI ix)])).length) Slot.unset).toArray = ls at hl ⊢
  have hl : lv_has ls 2 [(0, .ref (b 0)), (1, .int (nI ix))] := hl
  refine lv_aload_n hx hb dX4_state_0 rfl (lv_at hl 0 rfl) ?_
  refine lv_iload_n hx hb dX4_state_1 rfl (lv_at hl 1 rfl) ?_
  have hPc := hP.sub (ws' := []) [] rfl
  have hDc := hD.sub (ws' := []) [] (by decide) rfl
  have hFc := va_free (wc := []) hD hS hA [] rfl
  refine va_calli (va_runS (As := [.int (nI ix)]) (rest := [.ref (b 0)]) ⟨hx, hb, hml, hown, hts⟩ (c_X4_isEnd l D cA s.heap.size (nI ix)) (va_cwS 1 hts gX4_state_X4_isEnd rfl rfl rfl (by decide +kernel) ⟨Nat.le_of_ble_eq_true rfl, Nat.le_of_ble_eq_true rfl⟩) ⟨zU_blind, fun U hU hW => ⟨rfl, zU_call hU hPc hW.alike hK hDc⟩⟩ rfl rfl hl.1 rfl (lv_room (Nat.le_of_ble_eq_true rfl)) dX4_state_2 ⟨(Nat.zero_le _), (Nat.zero_le _)⟩) hS (fun q _ h => hFc q h) hFc (fun zr u t H1 locs ht hvm hw hB hz1 hk1 hS => ?_)
  obtain ⟨hP1, hD1⟩ := hB
  rw [ht] at hP1
  obtain ⟨hP, hD⟩ := va_join (wr := [cM b mm, (b 9, .inl (cA 0, 2, .inl (t2 ix c1 c2)))]) (w1 := []) hP hD [] [0, 1] rfl rfl (by decide) (by decide) hk1 hFc hP1 hD1
  generalize H1 = H at hP hS ⊢
  have hP := hP.sub (ws' := [cM b mm, (b 9, .inl (cA 0, 2, .inl (t2 ix c1 c2)))]) [0, 1] rfl
  have hD := hD.sub (ws' := [cM b mm, (b 9, .inl (cA 0, 2, .inl (t2 ix c1 c2)))]) [0, 1] (by decide) rfl
  clear hPc hDc hFc hP1 hD1 hk1 hz1
  have hw_1 := hw
  rcases z_bool hw with ⟨h_1, rfl⟩ | ⟨h_1, rfl⟩
  · skip
    refine lv_if_eq (tgt := 12) hx hb dX4_state_5 (by decide) (fun c_2 => absurd c_2 (by decide)) (fun _ => ?_)
    refine lv_iconst (v := 0) hx hb dX4_state_8 (by decide) ?_
    refine lv_goto (tgt := 13) hx hb dX4_state_9 (by decide) ?_
    have hPc := hP.sub (ws' := [cM b mm]) [0] rfl
    have hDc := hD.sub (ws' := [cM b mm]) [0] (by decide) rfl
    have hFc := va_free (wc := [cM b mm]) hD hS hA [0] rfl
    refine va_calli (va_runV (As := [.int 0]) (rest := []) ⟨hx, hb, hml, hown, hts⟩ (c_X4_can l D cA H.size b mm 0) (cwV 1 hts gX4_state_X4_can rfl rfl rfl (by decide +kernel) ⟨Nat.le_of_ble_eq_true rfl, Nat.le_of_ble_eq_true rfl⟩) ⟨zU_blind, va_recv hK hPc (ci := 6) (q0 := 0) rfl rfl, fun U hU hW => ⟨rfl, zU_call hU hPc hW.alike hK hDc⟩⟩ rfl rfl hl.1 rfl (lv_room (Nat.le_of_ble_eq_true rfl)) dX4_state_13 ⟨(Nat.zero_le _), (Nat.zero_le _)⟩) hS (fun q _ h => hFc q h) hFc (fun zr u t H1 locs ht hvm hw hB hz1 hk1 hS => ?_)
    obtain ⟨mm'_3, rfl⟩ : ∃ z, z = u := ⟨_, rfl⟩
    obtain ⟨hP1, hD1⟩ := hB
    rw [ht] at hP1
    try dsimp only at hw hP1 hD1
    obtain ⟨hP, hD⟩ := va_join (wr := [(b 9, .inl (cA 0, 2, .inl (t2 ix c1 c2)))]) (w1 := [cM b mm'_3]) hP hD [0] [1] rfl rfl (by decide) (by decide) hk1 hFc hP1 hD1
    generalize H1 = H at hP hS ⊢
    have hP := hP.sub (ws' := [cM b mm'_3, (b 9, .inl (cA 0, 2, .inl (t2 ix c1 c2)))]) [1, 0] rfl
    have hD := hD.sub (ws' := [cM b mm'_3, (b 9, .inl (cA 0, 2, .inl (t2 ix c1 c2)))]) [1, 0] (by decide) rfl
    clear hPc hDc hFc hP1 hD1 hk1 hz1
    obtain ⟨rfl, hw⟩ := hw
    have hw_3 := hw
    rcases z_bool hw with ⟨h_3, rfl⟩ | ⟨h_3, rfl⟩
    · skip
      refine lv_if_eq (tgt := 28) hx hb dX4_state_16 (by decide) (fun c_4 => absurd c_4 (by decide)) (fun _ => ?_)
      refine lv_aload_n hx hb dX4_state_19 rfl (lv_at hl 0 rfl) ?_
      refine va_get (D := D) (ci := 6) (v := .ref (b 9)) (C := RX4) (T := TX4) (N := 29) hx hb hts (fun _ h => List.mem_cons_of_mem _ (List.mem_append_right _ (h))) hown hK hP 0 rfl rfl 10 (by decide) (hts (.fieldLink RX4 35 "OptionWireModel" "states" "[I") (List.mem_of_getElem? (i := 1) rfl)) (fun _ h9 => h9) rfl dX4_state_20 ?_
      refine lv_iload_n hx hb dX4_state_23 rfl (lv_at hl 1 rfl) ?_
      refine z_iald (k := ix) (v := c1) hx hb hK hP 1 0 rfl rfl rfl (by omega) (by decide) t2_x dX4_state_24 ?_
      refine lv_goto (tgt := 29) hx hb dX4_state_25 (by decide) ?_
      refine W.widen (k := 0) (n := 0) (by omega) (by omega) ?_
      exact W.iret (v := c1) hx hb hr (fun t ht hW => ⟨⟨c1, ((upd mm 6 0)), rfl, ⟨rfl, rfl⟩, ⟨by rw [ht]; exact hP, by rw [hAe]; exact hD⟩⟩, hS.F ht⟩) hS.2.2 dX4_state_29
    · exact absurd rfl h_3
  · exact absurd (inr_ix hix) h_1
set_option maxHeartbeats 4000000 in
set_option maxRecDepth 100000 in
theorem c_X4_state_b (l : Launch) (D : va_G) (cA : Nat → ClassId) (sz : Nat) (b : Nat → Nat) (mm : Nat → Int32) (n : Int32) (hn : ¬ inr n 0 1) : Met l yX4_state wsX4_state ({ frames := 2, cells := 0, slots := 0, locals := 42 }) (va_Pc [.ref (b 0), .int n] (zU D cA sz [cM b mm])) (va_Qi (fun (r : Int32) (u : (Nat → Int32)) => u = upd mm 6 1) (fun (u : (Nat → Int32)) t => zB D [cM b mm] sz [cM b u] t) (va_A [cM b mm] sz)) 0 0 (va_A [cM b mm] sz) := by
  refine Met.ofW (cc := cX4_state) (maxL := 2) (ret := (some .int)) (by decide) rfl ?_
  intro p e s m args below meth c s₁ B hml hv
  obtain ⟨rfl, hsz, hP, hK, hD0⟩ := hv
  have hx := B.exec
  have hb := B.bytes
  have hr := B.returns
  have hts := atoms_spec (ws := wsX4_state) B.pre
  have hown : s.vm.findClass RX4 = some m.cls := findClass_of_methodNamed B.named
  have hlocks := B.notSynchronized
  subst hsz
  have hD := hD0.self (sz := s.heap.size)
  generalize hAe : va_A [cM b mm] s.heap.size = A at hD ⊢
  have hA : ∀ q : Nat, s.heap.size ≤ q → A q := fun q h => by rw [← hAe]; exact Or.inr h
  have hS : va_S A s.heap s.heap [] := va_S.rf
  have hl := lv_entry ([.ref (b 0), .int n]) (n := 2) (Nat.le_of_ble_eq_true rfl)
  rw [lg_entry_eq]
  generalize (lg_sl ([.ref (b 0), .int n]) ++ List.replicate (2 - (lg_sl ([.ref (b 0), .int n])).length) Slot.unset).toArray = ls at hl ⊢
  have hl : lv_has ls 2 [(0, .ref (b 0)), (1, .int n)] := hl
  refine lv_aload_n hx hb dX4_state_0 rfl (lv_at hl 0 rfl) ?_
  refine lv_iload_n hx hb dX4_state_1 rfl (lv_at hl 1 rfl) ?_
  have hPc := hP.sub (ws' := []) [] rfl
  have hDc := hD.sub (ws' := []) [] (by decide) rfl
  have hFc := va_free (wc := []) hD hS hA [] rfl
  refine va_calli (va_runS (As := [.int n]) (rest := [.ref (b 0)]) ⟨hx, hb, hml, hown, hts⟩ (c_X4_isEnd l D cA s.heap.size n) (va_cwS 1 hts gX4_state_X4_isEnd rfl rfl rfl (by decide +kernel) ⟨Nat.le_of_ble_eq_true rfl, Nat.le_of_ble_eq_true rfl⟩) ⟨zU_blind, fun U hU hW => ⟨rfl, zU_call hU hPc hW.alike hK hDc⟩⟩ rfl rfl hl.1 rfl (lv_room (Nat.le_of_ble_eq_true rfl)) dX4_state_2 ⟨(Nat.zero_le _), (Nat.zero_le _)⟩) hS (fun q _ h => hFc q h) hFc (fun zr u t H1 locs ht hvm hw hB hz1 hk1 hS => ?_)
  obtain ⟨hP1, hD1⟩ := hB
  rw [ht] at hP1
  obtain ⟨hP, hD⟩ := va_join (wr := [cM b mm]) (w1 := []) hP hD [] [0] rfl rfl (by decide) (by decide) hk1 hFc hP1 hD1
  generalize H1 = H at hP hS ⊢
  have hP := hP.sub (ws' := [cM b mm]) [0] rfl
  have hD := hD.sub (ws' := [cM b mm]) [0] (by decide) rfl
  clear hPc hDc hFc hP1 hD1 hk1 hz1
  have hw_1 := hw
  rcases z_bool hw with ⟨h_1, rfl⟩ | ⟨h_1, rfl⟩
  · exact absurd h_1 hn
  · skip
    refine lv_if_eq (tgt := 12) hx hb dX4_state_5 (by decide) (fun _ => ?_) (fun c_2 => absurd c_2 (by decide))
    refine lv_iconst (v := 1) hx hb dX4_state_12 (by decide) ?_
    have hPc := hP.sub (ws' := [cM b mm]) [0] rfl
    have hDc := hD.sub (ws' := [cM b mm]) [0] (by decide) rfl
    have hFc := va_free (wc := [cM b mm]) hD hS hA [0] rfl
    refine va_calli (va_runV (As := [.int 1]) (rest := []) ⟨hx, hb, hml, hown, hts⟩ (c_X4_can l D cA H.size b mm 1) (cwV 1 hts gX4_state_X4_can rfl rfl rfl (by decide +kernel) ⟨Nat.le_of_ble_eq_true rfl, Nat.le_of_ble_eq_true rfl⟩) ⟨zU_blind, va_recv hK hPc (ci := 6) (q0 := 0) rfl rfl, fun U hU hW => ⟨rfl, zU_call hU hPc hW.alike hK hDc⟩⟩ rfl rfl hl.1 rfl (lv_room (Nat.le_of_ble_eq_true rfl)) dX4_state_13 ⟨(Nat.zero_le _), (Nat.zero_le _)⟩) hS (fun q _ h => hFc q h) hFc (fun zr u t H1 locs ht hvm hw hB hz1 hk1 hS => ?_)
    obtain ⟨mm'_3, rfl⟩ : ∃ z, z = u := ⟨_, rfl⟩
    obtain ⟨hP1, hD1⟩ := hB
    rw [ht] at hP1
    try dsimp only at hw hP1 hD1
    obtain ⟨hP, hD⟩ := va_join (wr := []) (w1 := [cM b mm'_3]) hP hD [0] [] rfl rfl (by decide) (by decide) hk1 hFc hP1 hD1
    generalize H1 = H at hP hS ⊢
    have hP := hP.sub (ws' := [cM b mm'_3]) [0] rfl
    have hD := hD.sub (ws' := [cM b mm'_3]) [0] (by decide) rfl
    clear hPc hDc hFc hP1 hD1 hk1 hz1
    obtain ⟨rfl, hw⟩ := hw
    have hw_3 := hw
    rcases z_bool hw with ⟨h_3, rfl⟩ | ⟨h_3, rfl⟩
    · exact absurd h_3 (by decide)
    · skip
      refine lv_if_eq (tgt := 28) hx hb dX4_state_16 (by decide) (fun _ => ?_) (fun c_4 => absurd c_4 (by decide))
      refine lv_iconst (v := 0) hx hb dX4_state_28 (by decide) ?_
      refine W.widen (k := 0) (n := 0) (by omega) (by omega) ?_
      exact W.iret (v := 0) hx hb hr (fun t ht hW => ⟨⟨0, ((upd mm 6 1)), rfl, rfl, ⟨by rw [ht]; exact hP, by rw [hAe]; exact hD⟩⟩, hS.F ht⟩) hS.2.2 dX4_state_29
set_option maxHeartbeats 4000000 in
set_option maxRecDepth 100000 in
theorem c_X4_tries_k (l : Launch) (D : va_G) (cA : Nat → ClassId) (sz : Nat) (b : Nat → Nat) (mm : Nat → Int32) (ix : Nat) (c1 c2 : Int32)  (hix : ix ≤ 1) : Met l yX4_tries wsX4_tries ({ frames := 2, cells := 0, slots := 0, locals := 42 }) (va_Pc [.ref (b 0), .int (nI ix)] (zU D cA sz [cM b mm, (b 12, .inl (cA 0, 2, .inl (t2 ix c1 c2)))])) (va_Qi (fun (r : Int32) (u : (Nat → Int32)) => u = upd mm 6 0 ∧ r = c1) (fun (u : (Nat → Int32)) t => zB D [cM b mm, (b 12, .inl (cA 0, 2, .inl (t2 ix c1 c2)))] sz [cM b u, (b 12, .inl (cA 0, 2, .inl (t2 ix c1 c2)))] t) (va_A [cM b mm, (b 12, .inl (cA 0, 2, .inl (t2 ix c1 c2)))] sz)) 0 0 (va_A [cM b mm, (b 12, .inl (cA 0, 2, .inl (t2 ix c1 c2)))] sz) := by
  refine Met.ofW (cc := cX4_tries) (maxL := 2) (ret := (some .int)) (by decide) rfl ?_
  intro p e s m args below meth c s₁ B hml hv
  obtain ⟨rfl, hsz, hP, hK, hD0⟩ := hv
  have hx := B.exec
  have hb := B.bytes
  have hr := B.returns
  have hts := atoms_spec (ws := wsX4_tries) B.pre
  have hown : s.vm.findClass RX4 = some m.cls := findClass_of_methodNamed B.named
  have hlocks := B.notSynchronized
  subst hsz
  have hD := hD0.self (sz := s.heap.size)
  generalize hAe : va_A [cM b mm, (b 12, .inl (cA 0, 2, .inl (t2 ix c1 c2)))] s.heap.size = A at hD ⊢
  have hA : ∀ q : Nat, s.heap.size ≤ q → A q := fun q h => by rw [← hAe]; exact Or.inr h
  have hS : va_S A s.heap s.heap [] := va_S.rf
  have hl := lv_entry ([.ref (b 0), .int (nI ix)]) (n := 2) (Nat.le_of_ble_eq_true rfl)
  rw [lg_entry_eq]
  generalize (lg_sl ([.ref (b 0), .int (nI ix)]) ++ List.replicate (2 - (lg_sl ([.ref (b 0), .int (nI ix)])).length) Slot.unset).toArray = ls at hl ⊢
  have hl : lv_has ls 2 [(0, .ref (b 0)), (1, .int (nI ix))] := hl
  refine lv_aload_n hx hb dX4_tries_0 rfl (lv_at hl 0 rfl) ?_
  refine lv_iload_n hx hb dX4_tries_1 rfl (lv_at hl 1 rfl) ?_
  have hPc := hP.sub (ws' := []) [] rfl
  have hDc := hD.sub (ws' := []) [] (by decide) rfl
  have hFc := va_free (wc := []) hD hS hA [] rfl
  refine va_calli (va_runS (As := [.int (nI ix)]) (rest := [.ref (b 0)]) ⟨hx, hb, hml, hown, hts⟩ (c_X4_isEnd l D cA s.heap.size (nI ix)) (va_cwS 1 hts gX4_tries_X4_isEnd rfl rfl rfl (by decide +kernel) ⟨Nat.le_of_ble_eq_true rfl, Nat.le_of_ble_eq_true rfl⟩) ⟨zU_blind, fun U hU hW => ⟨rfl, zU_call hU hPc hW.alike hK hDc⟩⟩ rfl rfl hl.1 rfl (lv_room (Nat.le_of_ble_eq_true rfl)) dX4_tries_2 ⟨(Nat.zero_le _), (Nat.zero_le _)⟩) hS (fun q _ h => hFc q h) hFc (fun zr u t H1 locs ht hvm hw hB hz1 hk1 hS => ?_)
  obtain ⟨hP1, hD1⟩ := hB
  rw [ht] at hP1
  obtain ⟨hP, hD⟩ := va_join (wr := [cM b mm, (b 12, .inl (cA 0, 2, .inl (t2 ix c1 c2)))]) (w1 := []) hP hD [] [0, 1] rfl rfl (by decide) (by decide) hk1 hFc hP1 hD1
  generalize H1 = H at hP hS ⊢
  have hP := hP.sub (ws' := [cM b mm, (b 12, .inl (cA 0, 2, .inl (t2 ix c1 c2)))]) [0, 1] rfl
  have hD := hD.sub (ws' := [cM b mm, (b 12, .inl (cA 0, 2, .inl (t2 ix c1 c2)))]) [0, 1] (by decide) rfl
  clear hPc hDc hFc hP1 hD1 hk1 hz1
  have hw_1 := hw
  rcases z_bool hw with ⟨h_1, rfl⟩ | ⟨h_1, rfl⟩
  · skip
    refine lv_if_eq (tgt := 12) hx hb dX4_tries_5 (by decide) (fun c_2 => absurd c_2 (by decide)) (fun _ => ?_)
    refine lv_iconst (v := 0) hx hb dX4_tries_8 (by decide) ?_
    refine lv_goto (tgt := 13) hx hb dX4_tries_9 (by decide) ?_
    have hPc := hP.sub (ws' := [cM b mm]) [0] rfl
    have hDc := hD.sub (ws' := [cM b mm]) [0] (by decide) rfl
    have hFc := va_free (wc := [cM b mm]) hD hS hA [0] rfl
    refine va_calli (va_runV (As := [.int 0]) (rest := []) ⟨hx, hb, hml, hown, hts⟩ (c_X4_can l D cA H.size b mm 0) (cwV 1 hts gX4_tries_X4_can rfl rfl rfl (by decide +kernel) ⟨Nat.le_of_ble_eq_true rfl, Nat.le_of_ble_eq_true rfl⟩) ⟨zU_blind, va_recv hK hPc (ci := 6) (q0 := 0) rfl rfl, fun U hU hW => ⟨rfl, zU_call hU hPc hW.alike hK hDc⟩⟩ rfl rfl hl.1 rfl (lv_room (Nat.le_of_ble_eq_true rfl)) dX4_tries_13 ⟨(Nat.zero_le _), (Nat.zero_le _)⟩) hS (fun q _ h => hFc q h) hFc (fun zr u t H1 locs ht hvm hw hB hz1 hk1 hS => ?_)
    obtain ⟨mm'_3, rfl⟩ : ∃ z, z = u := ⟨_, rfl⟩
    obtain ⟨hP1, hD1⟩ := hB
    rw [ht] at hP1
    try dsimp only at hw hP1 hD1
    obtain ⟨hP, hD⟩ := va_join (wr := [(b 12, .inl (cA 0, 2, .inl (t2 ix c1 c2)))]) (w1 := [cM b mm'_3]) hP hD [0] [1] rfl rfl (by decide) (by decide) hk1 hFc hP1 hD1
    generalize H1 = H at hP hS ⊢
    have hP := hP.sub (ws' := [cM b mm'_3, (b 12, .inl (cA 0, 2, .inl (t2 ix c1 c2)))]) [1, 0] rfl
    have hD := hD.sub (ws' := [cM b mm'_3, (b 12, .inl (cA 0, 2, .inl (t2 ix c1 c2)))]) [1, 0] (by decide) rfl
    clear hPc hDc hFc hP1 hD1 hk1 hz1
    obtain ⟨rfl, hw⟩ := hw
    have hw_3 := hw
    rcases z_bool hw with ⟨h_3, rfl⟩ | ⟨h_3, rfl⟩
    · skip
      refine lv_if_eq (tgt := 28) hx hb dX4_tries_16 (by decide) (fun c_4 => absurd c_4 (by decide)) (fun _ => ?_)
      refine lv_aload_n hx hb dX4_tries_19 rfl (lv_at hl 0 rfl) ?_
      refine va_get (D := D) (ci := 6) (v := .ref (b 12)) (C := RX4) (T := TX4) (N := 29) hx hb hts (fun _ h => List.mem_cons_of_mem _ (List.mem_append_right _ (h))) hown hK hP 0 rfl rfl 13 (by decide) (hts (.fieldLink RX4 44 "OptionWireModel" "left" "[I") (List.mem_of_getElem? (i := 1) rfl)) (fun _ h9 => h9) rfl dX4_tries_20 ?_
      refine lv_iload_n hx hb dX4_tries_23 rfl (lv_at hl 1 rfl) ?_
      refine z_iald (k := ix) (v := c1) hx hb hK hP 1 0 rfl rfl rfl (by omega) (by decide) t2_x dX4_tries_24 ?_
      refine lv_goto (tgt := 29) hx hb dX4_tries_25 (by decide) ?_
      refine W.widen (k := 0) (n := 0) (by omega) (by omega) ?_
      exact W.iret (v := c1) hx hb hr (fun t ht hW => ⟨⟨c1, ((upd mm 6 0)), rfl, ⟨rfl, rfl⟩, ⟨by rw [ht]; exact hP, by rw [hAe]; exact hD⟩⟩, hS.F ht⟩) hS.2.2 dX4_tries_29
    · exact absurd rfl h_3
  · exact absurd (inr_ix hix) h_1
set_option maxHeartbeats 4000000 in
set_option maxRecDepth 100000 in
theorem c_X4_tries_b (l : Launch) (D : va_G) (cA : Nat → ClassId) (sz : Nat) (b : Nat → Nat) (mm : Nat → Int32) (n : Int32) (hn : ¬ inr n 0 1) : Met l yX4_tries wsX4_tries ({ frames := 2, cells := 0, slots := 0, locals := 42 }) (va_Pc [.ref (b 0), .int n] (zU D cA sz [cM b mm])) (va_Qi (fun (r : Int32) (u : (Nat → Int32)) => u = upd mm 6 1) (fun (u : (Nat → Int32)) t => zB D [cM b mm] sz [cM b u] t) (va_A [cM b mm] sz)) 0 0 (va_A [cM b mm] sz) := by
  refine Met.ofW (cc := cX4_tries) (maxL := 2) (ret := (some .int)) (by decide) rfl ?_
  intro p e s m args below meth c s₁ B hml hv
  obtain ⟨rfl, hsz, hP, hK, hD0⟩ := hv
  have hx := B.exec
  have hb := B.bytes
  have hr := B.returns
  have hts := atoms_spec (ws := wsX4_tries) B.pre
  have hown : s.vm.findClass RX4 = some m.cls := findClass_of_methodNamed B.named
  have hlocks := B.notSynchronized
  subst hsz
  have hD := hD0.self (sz := s.heap.size)
  generalize hAe : va_A [cM b mm] s.heap.size = A at hD ⊢
  have hA : ∀ q : Nat, s.heap.size ≤ q → A q := fun q h => by rw [← hAe]; exact Or.inr h
  have hS : va_S A s.heap s.heap [] := va_S.rf
  have hl := lv_entry ([.ref (b 0), .int n]) (n := 2) (Nat.le_of_ble_eq_true rfl)
  rw [lg_entry_eq]
  generalize (lg_sl ([.ref (b 0), .int n]) ++ List.replicate (2 - (lg_sl ([.ref (b 0), .int n])).length) Slot.unset).toArray = ls at hl ⊢
  have hl : lv_has ls 2 [(0, .ref (b 0)), (1, .int n)] := hl
  refine lv_aload_n hx hb dX4_tries_0 rfl (lv_at hl 0 rfl) ?_
  refine lv_iload_n hx hb dX4_tries_1 rfl (lv_at hl 1 rfl) ?_
  have hPc := hP.sub (ws' := []) [] rfl
  have hDc := hD.sub (ws' := []) [] (by decide) rfl
  have hFc := va_free (wc := []) hD hS hA [] rfl
  refine va_calli (va_runS (As := [.int n]) (rest := [.ref (b 0)]) ⟨hx, hb, hml, hown, hts⟩ (c_X4_isEnd l D cA s.heap.size n) (va_cwS 1 hts gX4_tries_X4_isEnd rfl rfl rfl (by decide +kernel) ⟨Nat.le_of_ble_eq_true rfl, Nat.le_of_ble_eq_true rfl⟩) ⟨zU_blind, fun U hU hW => ⟨rfl, zU_call hU hPc hW.alike hK hDc⟩⟩ rfl rfl hl.1 rfl (lv_room (Nat.le_of_ble_eq_true rfl)) dX4_tries_2 ⟨(Nat.zero_le _), (Nat.zero_le _)⟩) hS (fun q _ h => hFc q h) hFc (fun zr u t H1 locs ht hvm hw hB hz1 hk1 hS => ?_)
  obtain ⟨hP1, hD1⟩ := hB
  rw [ht] at hP1
  obtain ⟨hP, hD⟩ := va_join (wr := [cM b mm]) (w1 := []) hP hD [] [0] rfl rfl (by decide) (by decide) hk1 hFc hP1 hD1
  generalize H1 = H at hP hS ⊢
  have hP := hP.sub (ws' := [cM b mm]) [0] rfl
  have hD := hD.sub (ws' := [cM b mm]) [0] (by decide) rfl
  clear hPc hDc hFc hP1 hD1 hk1 hz1
  have hw_1 := hw
  rcases z_bool hw with ⟨h_1, rfl⟩ | ⟨h_1, rfl⟩
  · exact absurd h_1 hn
  · skip
    refine lv_if_eq (tgt := 12) hx hb dX4_tries_5 (by decide) (fun _ => ?_) (fun c_2 => absurd c_2 (by decide))
    refine lv_iconst (v := 1) hx hb dX4_tries_12 (by decide) ?_
    have hPc := hP.sub (ws' := [cM b mm]) [0] rfl
    have hDc := hD.sub (ws' := [cM b mm]) [0] (by decide) rfl
    have hFc := va_free (wc := [cM b mm]) hD hS hA [0] rfl
    refine va_calli (va_runV (As := [.int 1]) (rest := []) ⟨hx, hb, hml, hown, hts⟩ (c_X4_can l D cA H.size b mm 1) (cwV 1 hts gX4_tries_X4_can rfl rfl rfl (by decide +kernel) ⟨Nat.le_of_ble_eq_true rfl, Nat.le_of_ble_eq_true rfl⟩) ⟨zU_blind, va_recv hK hPc (ci := 6) (q0 := 0) rfl rfl, fun U hU hW => ⟨rfl, zU_call hU hPc hW.alike hK hDc⟩⟩ rfl rfl hl.1 rfl (lv_room (Nat.le_of_ble_eq_true rfl)) dX4_tries_13 ⟨(Nat.zero_le _), (Nat.zero_le _)⟩) hS (fun q _ h => hFc q h) hFc (fun zr u t H1 locs ht hvm hw hB hz1 hk1 hS => ?_)
    obtain ⟨mm'_3, rfl⟩ : ∃ z, z = u := ⟨_, rfl⟩
    obtain ⟨hP1, hD1⟩ := hB
    rw [ht] at hP1
    try dsimp only at hw hP1 hD1
    obtain ⟨hP, hD⟩ := va_join (wr := []) (w1 := [cM b mm'_3]) hP hD [0] [] rfl rfl (by decide) (by decide) hk1 hFc hP1 hD1
    generalize H1 = H at hP hS ⊢
    have hP := hP.sub (ws' := [cM b mm'_3]) [0] rfl
    have hD := hD.sub (ws' := [cM b mm'_3]) [0] (by decide) rfl
    clear hPc hDc hFc hP1 hD1 hk1 hz1
    obtain ⟨rfl, hw⟩ := hw
    have hw_3 := hw
    rcases z_bool hw with ⟨h_3, rfl⟩ | ⟨h_3, rfl⟩
    · exact absurd h_3 (by decide)
    · skip
      refine lv_if_eq (tgt := 28) hx hb dX4_tries_16 (by decide) (fun _ => ?_) (fun c_4 => absurd c_4 (by decide))
      refine lv_iconst (v := 0) hx hb dX4_tries_28 (by decide) ?_
      refine W.widen (k := 0) (n := 0) (by omega) (by omega) ?_
      exact W.iret (v := 0) hx hb hr (fun t ht hW => ⟨⟨0, ((upd mm 6 1)), rfl, rfl, ⟨by rw [ht]; exact hP, by rw [hAe]; exact hD⟩⟩, hS.F ht⟩) hS.2.2 dX4_tries_29
set_option maxHeartbeats 4000000 in
set_option maxRecDepth 100000 in
theorem c_X4_waiting_k (l : Launch) (D : va_G) (cA : Nat → ClassId) (sz : Nat) (b : Nat → Nat) (mm : Nat → Int32) (ix : Nat) (QX QY : Qt)  (hix : ix ≤ 1) : Met l yX4_waiting wsX4_waiting ({ frames := 2, cells := 0, slots := 0, locals := 42 }) (va_Pc [.ref (b 0), .int (nI ix)] (zU D cA sz [cM b mm, (b 16, .inl (cA 0, 2, .inl (t2 ix (nI QX.1) (nI QY.1))))])) (va_Qi (fun (r : Int32) (u : (Nat → Int32)) => u = upd mm 6 0 ∧ r = nI QX.1) (fun (u : (Nat → Int32)) t => zB D [cM b mm, (b 16, .inl (cA 0, 2, .inl (t2 ix (nI QX.1) (nI QY.1))))] sz [cM b u, (b 16, .inl (cA 0, 2, .inl (t2 ix (nI QX.1) (nI QY.1))))] t) (va_A [cM b mm, (b 16, .inl (cA 0, 2, .inl (t2 ix (nI QX.1) (nI QY.1))))] sz)) 0 0 (va_A [cM b mm, (b 16, .inl (cA 0, 2, .inl (t2 ix (nI QX.1) (nI QY.1))))] sz) := by
  refine Met.ofW (cc := cX4_waiting) (maxL := 2) (ret := (some .int)) (by decide) rfl ?_
  intro p e s m args below meth c s₁ B hml hv
  obtain ⟨rfl, hsz, hP, hK, hD0⟩ := hv
  have hx := B.exec
  have hb := B.bytes
  have hr := B.returns
  have hts := atoms_spec (ws := wsX4_waiting) B.pre
  have hown : s.vm.findClass RX4 = some m.cls := findClass_of_methodNamed B.named
  have hlocks := B.notSynchronized
  subst hsz
  have hD := hD0.self (sz := s.heap.size)
  generalize hAe : va_A [cM b mm, (b 16, .inl (cA 0, 2, .inl (t2 ix (nI QX.1) (nI QY.1))))] s.heap.size = A at hD ⊢
  have hA : ∀ q : Nat, s.heap.size ≤ q → A q := fun q h => by rw [← hAe]; exact Or.inr h
  have hS : va_S A s.heap s.heap [] := va_S.rf
  have hl := lv_entry ([.ref (b 0), .int (nI ix)]) (n := 2) (Nat.le_of_ble_eq_true rfl)
  rw [lg_entry_eq]
  generalize (lg_sl ([.ref (b 0), .int (nI ix)]) ++ List.replicate (2 - (lg_sl ([.ref (b 0), .int (nI ix)])).length) Slot.unset).toArray = ls at hl ⊢
  have hl : lv_has ls 2 [(0, .ref (b 0)), (1, .int (nI ix))] := hl
  refine lv_aload_n hx hb dX4_waiting_0 rfl (lv_at hl 0 rfl) ?_
  refine lv_iload_n hx hb dX4_waiting_1 rfl (lv_at hl 1 rfl) ?_
  have hPc := hP.sub (ws' := []) [] rfl
  have hDc := hD.sub (ws' := []) [] (by decide) rfl
  have hFc := va_free (wc := []) hD hS hA [] rfl
  refine va_calli (va_runS (As := [.int (nI ix)]) (rest := [.ref (b 0)]) ⟨hx, hb, hml, hown, hts⟩ (c_X4_isEnd l D cA s.heap.size (nI ix)) (va_cwS 1 hts gX4_waiting_X4_isEnd rfl rfl rfl (by decide +kernel) ⟨Nat.le_of_ble_eq_true rfl, Nat.le_of_ble_eq_true rfl⟩) ⟨zU_blind, fun U hU hW => ⟨rfl, zU_call hU hPc hW.alike hK hDc⟩⟩ rfl rfl hl.1 rfl (lv_room (Nat.le_of_ble_eq_true rfl)) dX4_waiting_2 ⟨(Nat.zero_le _), (Nat.zero_le _)⟩) hS (fun q _ h => hFc q h) hFc (fun zr u t H1 locs ht hvm hw hB hz1 hk1 hS => ?_)
  obtain ⟨hP1, hD1⟩ := hB
  rw [ht] at hP1
  obtain ⟨hP, hD⟩ := va_join (wr := [cM b mm, (b 16, .inl (cA 0, 2, .inl (t2 ix (nI QX.1) (nI QY.1))))]) (w1 := []) hP hD [] [0, 1] rfl rfl (by decide) (by decide) hk1 hFc hP1 hD1
  generalize H1 = H at hP hS ⊢
  have hP := hP.sub (ws' := [cM b mm, (b 16, .inl (cA 0, 2, .inl (t2 ix (nI QX.1) (nI QY.1))))]) [0, 1] rfl
  have hD := hD.sub (ws' := [cM b mm, (b 16, .inl (cA 0, 2, .inl (t2 ix (nI QX.1) (nI QY.1))))]) [0, 1] (by decide) rfl
  clear hPc hDc hFc hP1 hD1 hk1 hz1
  have hw_1 := hw
  rcases z_bool hw with ⟨h_1, rfl⟩ | ⟨h_1, rfl⟩
  · skip
    refine lv_if_eq (tgt := 12) hx hb dX4_waiting_5 (by decide) (fun c_2 => absurd c_2 (by decide)) (fun _ => ?_)
    refine lv_iconst (v := 0) hx hb dX4_waiting_8 (by decide) ?_
    refine lv_goto (tgt := 13) hx hb dX4_waiting_9 (by decide) ?_
    have hPc := hP.sub (ws' := [cM b mm]) [0] rfl
    have hDc := hD.sub (ws' := [cM b mm]) [0] (by decide) rfl
    have hFc := va_free (wc := [cM b mm]) hD hS hA [0] rfl
    refine va_calli (va_runV (As := [.int 0]) (rest := []) ⟨hx, hb, hml, hown, hts⟩ (c_X4_can l D cA H.size b mm 0) (cwV 1 hts gX4_waiting_X4_can rfl rfl rfl (by decide +kernel) ⟨Nat.le_of_ble_eq_true rfl, Nat.le_of_ble_eq_true rfl⟩) ⟨zU_blind, va_recv hK hPc (ci := 6) (q0 := 0) rfl rfl, fun U hU hW => ⟨rfl, zU_call hU hPc hW.alike hK hDc⟩⟩ rfl rfl hl.1 rfl (lv_room (Nat.le_of_ble_eq_true rfl)) dX4_waiting_13 ⟨(Nat.zero_le _), (Nat.zero_le _)⟩) hS (fun q _ h => hFc q h) hFc (fun zr u t H1 locs ht hvm hw hB hz1 hk1 hS => ?_)
    obtain ⟨mm'_3, rfl⟩ : ∃ z, z = u := ⟨_, rfl⟩
    obtain ⟨hP1, hD1⟩ := hB
    rw [ht] at hP1
    try dsimp only at hw hP1 hD1
    obtain ⟨hP, hD⟩ := va_join (wr := [(b 16, .inl (cA 0, 2, .inl (t2 ix (nI QX.1) (nI QY.1))))]) (w1 := [cM b mm'_3]) hP hD [0] [1] rfl rfl (by decide) (by decide) hk1 hFc hP1 hD1
    generalize H1 = H at hP hS ⊢
    have hP := hP.sub (ws' := [cM b mm'_3, (b 16, .inl (cA 0, 2, .inl (t2 ix (nI QX.1) (nI QY.1))))]) [1, 0] rfl
    have hD := hD.sub (ws' := [cM b mm'_3, (b 16, .inl (cA 0, 2, .inl (t2 ix (nI QX.1) (nI QY.1))))]) [1, 0] (by decide) rfl
    clear hPc hDc hFc hP1 hD1 hk1 hz1
    obtain ⟨rfl, hw⟩ := hw
    have hw_3 := hw
    rcases z_bool hw with ⟨h_3, rfl⟩ | ⟨h_3, rfl⟩
    · skip
      refine lv_if_eq (tgt := 28) hx hb dX4_waiting_16 (by decide) (fun c_4 => absurd c_4 (by decide)) (fun _ => ?_)
      refine lv_aload_n hx hb dX4_waiting_19 rfl (lv_at hl 0 rfl) ?_
      refine va_get (D := D) (ci := 6) (v := .ref (b 16)) (C := RX4) (T := TX4) (N := 29) hx hb hts (fun _ h => List.mem_cons_of_mem _ (List.mem_append_right _ (h))) hown hK hP 0 rfl rfl 17 (by decide) (hts (.fieldLink RX4 56 "OptionWireModel" "many" "[I") (List.mem_of_getElem? (i := 1) rfl)) (fun _ h9 => h9) rfl dX4_waiting_20 ?_
      refine lv_iload_n hx hb dX4_waiting_23 rfl (lv_at hl 1 rfl) ?_
      refine z_iald (k := ix) (v := (nI QX.1)) hx hb hK hP 1 0 rfl rfl rfl (by omega) (by decide) t2_x dX4_waiting_24 ?_
      refine lv_goto (tgt := 29) hx hb dX4_waiting_25 (by decide) ?_
      refine W.widen (k := 0) (n := 0) (by omega) (by omega) ?_
      exact W.iret (v := (nI QX.1)) hx hb hr (fun t ht hW => ⟨⟨nI QX.1, ((upd mm 6 0)), rfl, ⟨rfl, rfl⟩, ⟨by rw [ht]; exact hP, by rw [hAe]; exact hD⟩⟩, hS.F ht⟩) hS.2.2 dX4_waiting_29
    · exact absurd rfl h_3
  · exact absurd (inr_ix hix) h_1
set_option maxHeartbeats 4000000 in
set_option maxRecDepth 100000 in
theorem c_X4_waiting_b (l : Launch) (D : va_G) (cA : Nat → ClassId) (sz : Nat) (b : Nat → Nat) (mm : Nat → Int32) (n : Int32) (hn : ¬ inr n 0 1) : Met l yX4_waiting wsX4_waiting ({ frames := 2, cells := 0, slots := 0, locals := 42 }) (va_Pc [.ref (b 0), .int n] (zU D cA sz [cM b mm])) (va_Qi (fun (r : Int32) (u : (Nat → Int32)) => u = upd mm 6 1) (fun (u : (Nat → Int32)) t => zB D [cM b mm] sz [cM b u] t) (va_A [cM b mm] sz)) 0 0 (va_A [cM b mm] sz) := by
  refine Met.ofW (cc := cX4_waiting) (maxL := 2) (ret := (some .int)) (by decide) rfl ?_
  intro p e s m args below meth c s₁ B hml hv
  obtain ⟨rfl, hsz, hP, hK, hD0⟩ := hv
  have hx := B.exec
  have hb := B.bytes
  have hr := B.returns
  have hts := atoms_spec (ws := wsX4_waiting) B.pre
  have hown : s.vm.findClass RX4 = some m.cls := findClass_of_methodNamed B.named
  have hlocks := B.notSynchronized
  subst hsz
  have hD := hD0.self (sz := s.heap.size)
  generalize hAe : va_A [cM b mm] s.heap.size = A at hD ⊢
  have hA : ∀ q : Nat, s.heap.size ≤ q → A q := fun q h => by rw [← hAe]; exact Or.inr h
  have hS : va_S A s.heap s.heap [] := va_S.rf
  have hl := lv_entry ([.ref (b 0), .int n]) (n := 2) (Nat.le_of_ble_eq_true rfl)
  rw [lg_entry_eq]
  generalize (lg_sl ([.ref (b 0), .int n]) ++ List.replicate (2 - (lg_sl ([.ref (b 0), .int n])).length) Slot.unset).toArray = ls at hl ⊢
  have hl : lv_has ls 2 [(0, .ref (b 0)), (1, .int n)] := hl
  refine lv_aload_n hx hb dX4_waiting_0 rfl (lv_at hl 0 rfl) ?_
  refine lv_iload_n hx hb dX4_waiting_1 rfl (lv_at hl 1 rfl) ?_
  have hPc := hP.sub (ws' := []) [] rfl
  have hDc := hD.sub (ws' := []) [] (by decide) rfl
  have hFc := va_free (wc := []) hD hS hA [] rfl
  refine va_calli (va_runS (As := [.int n]) (rest := [.ref (b 0)]) ⟨hx, hb, hml, hown, hts⟩ (c_X4_isEnd l D cA s.heap.size n) (va_cwS 1 hts gX4_waiting_X4_isEnd rfl rfl rfl (by decide +kernel) ⟨Nat.le_of_ble_eq_true rfl, Nat.le_of_ble_eq_true rfl⟩) ⟨zU_blind, fun U hU hW => ⟨rfl, zU_call hU hPc hW.alike hK hDc⟩⟩ rfl rfl hl.1 rfl (lv_room (Nat.le_of_ble_eq_true rfl)) dX4_waiting_2 ⟨(Nat.zero_le _), (Nat.zero_le _)⟩) hS (fun q _ h => hFc q h) hFc (fun zr u t H1 locs ht hvm hw hB hz1 hk1 hS => ?_)
  obtain ⟨hP1, hD1⟩ := hB
  rw [ht] at hP1
  obtain ⟨hP, hD⟩ := va_join (wr := [cM b mm]) (w1 := []) hP hD [] [0] rfl rfl (by decide) (by decide) hk1 hFc hP1 hD1
  generalize H1 = H at hP hS ⊢
  have hP := hP.sub (ws' := [cM b mm]) [0] rfl
  have hD := hD.sub (ws' := [cM b mm]) [0] (by decide) rfl
  clear hPc hDc hFc hP1 hD1 hk1 hz1
  have hw_1 := hw
  rcases z_bool hw with ⟨h_1, rfl⟩ | ⟨h_1, rfl⟩
  · exact absurd h_1 hn
  · skip
    refine lv_if_eq (tgt := 12) hx hb dX4_waiting_5 (by decide) (fun _ => ?_) (fun c_2 => absurd c_2 (by decide))
    refine lv_iconst (v := 1) hx hb dX4_waiting_12 (by decide) ?_
    have hPc := hP.sub (ws' := [cM b mm]) [0] rfl
    have hDc := hD.sub (ws' := [cM b mm]) [0] (by decide) rfl
    have hFc := va_free (wc := [cM b mm]) hD hS hA [0] rfl
    refine va_calli (va_runV (As := [.int 1]) (rest := []) ⟨hx, hb, hml, hown, hts⟩ (c_X4_can l D cA H.size b mm 1) (cwV 1 hts gX4_waiting_X4_can rfl rfl rfl (by decide +kernel) ⟨Nat.le_of_ble_eq_true rfl, Nat.le_of_ble_eq_true rfl⟩) ⟨zU_blind, va_recv hK hPc (ci := 6) (q0 := 0) rfl rfl, fun U hU hW => ⟨rfl, zU_call hU hPc hW.alike hK hDc⟩⟩ rfl rfl hl.1 rfl (lv_room (Nat.le_of_ble_eq_true rfl)) dX4_waiting_13 ⟨(Nat.zero_le _), (Nat.zero_le _)⟩) hS (fun q _ h => hFc q h) hFc (fun zr u t H1 locs ht hvm hw hB hz1 hk1 hS => ?_)
    obtain ⟨mm'_3, rfl⟩ : ∃ z, z = u := ⟨_, rfl⟩
    obtain ⟨hP1, hD1⟩ := hB
    rw [ht] at hP1
    try dsimp only at hw hP1 hD1
    obtain ⟨hP, hD⟩ := va_join (wr := []) (w1 := [cM b mm'_3]) hP hD [0] [] rfl rfl (by decide) (by decide) hk1 hFc hP1 hD1
    generalize H1 = H at hP hS ⊢
    have hP := hP.sub (ws' := [cM b mm'_3]) [0] rfl
    have hD := hD.sub (ws' := [cM b mm'_3]) [0] (by decide) rfl
    clear hPc hDc hFc hP1 hD1 hk1 hz1
    obtain ⟨rfl, hw⟩ := hw
    have hw_3 := hw
    rcases z_bool hw with ⟨h_3, rfl⟩ | ⟨h_3, rfl⟩
    · exact absurd h_3 (by decide)
    · skip
      refine lv_if_eq (tgt := 28) hx hb dX4_waiting_16 (by decide) (fun _ => ?_) (fun c_4 => absurd c_4 (by decide))
      refine lv_iconst (v := 0) hx hb dX4_waiting_28 (by decide) ?_
      refine W.widen (k := 0) (n := 0) (by omega) (by omega) ?_
      exact W.iret (v := 0) hx hb hr (fun t ht hW => ⟨⟨0, ((upd mm 6 1)), rfl, rfl, ⟨by rw [ht]; exact hP, by rw [hAe]; exact hD⟩⟩, hS.F ht⟩) hS.2.2 dX4_waiting_29
set_option maxHeartbeats 4000000 in
set_option maxRecDepth 100000 in
theorem c_X4_asked_k (l : Launch) (D : va_G) (cA : Nat → ClassId) (sz : Nat) (b : Nat → Nat) (mm : Nat → Int32) (ix : Nat) (k : Nat) (f fy : Nat → Int32) (hix : ix ≤ 1) (hk : k < 4) : Met l yX4_asked wsX4_asked ({ frames := 3, cells := 0, slots := 0, locals := 63 }) (va_Pc [.ref (b 0), .int (nI ix), .int (nI k)] (zU D cA sz [cM b mm, (b 7, .inl (cA 0, 8, .inl (bk 4 ix f fy)))])) (va_Qi (fun (r : Int32) (u : (Nat → Int32)) => u = upd mm 6 0 ∧ r = f k) (fun (u : (Nat → Int32)) t => zB D [cM b mm, (b 7, .inl (cA 0, 8, .inl (bk 4 ix f fy)))] sz [cM b u, (b 7, .inl (cA 0, 8, .inl (bk 4 ix f fy)))] t) (va_A [cM b mm, (b 7, .inl (cA 0, 8, .inl (bk 4 ix f fy)))] sz)) 0 0 (va_A [cM b mm, (b 7, .inl (cA 0, 8, .inl (bk 4 ix f fy)))] sz) := by
  refine Met.ofW (cc := cX4_asked) (maxL := 3) (ret := (some .int)) (by decide) rfl ?_
  intro p e s m args below meth c s₁ B hml hv
  obtain ⟨rfl, hsz, hP, hK, hD0⟩ := hv
  have hx := B.exec
  have hb := B.bytes
  have hr := B.returns
  have hts := atoms_spec (ws := wsX4_asked) B.pre
  have hown : s.vm.findClass RX4 = some m.cls := findClass_of_methodNamed B.named
  have hlocks := B.notSynchronized
  subst hsz
  have hD := hD0.self (sz := s.heap.size)
  generalize hAe : va_A [cM b mm, (b 7, .inl (cA 0, 8, .inl (bk 4 ix f fy)))] s.heap.size = A at hD ⊢
  have hA : ∀ q : Nat, s.heap.size ≤ q → A q := fun q h => by rw [← hAe]; exact Or.inr h
  have hS : va_S A s.heap s.heap [] := va_S.rf
  have hl := lv_entry ([.ref (b 0), .int (nI ix), .int (nI k)]) (n := 3) (Nat.le_of_ble_eq_true rfl)
  rw [lg_entry_eq]
  generalize (lg_sl ([.ref (b 0), .int (nI ix), .int (nI k)]) ++ List.replicate (3 - (lg_sl ([.ref (b 0), .int (nI ix), .int (nI k)])).length) Slot.unset).toArray = ls at hl ⊢
  have hl : lv_has ls 3 [(0, .ref (b 0)), (1, .int (nI ix)), (2, .int (nI k))] := hl
  refine lv_aload_n hx hb dX4_asked_0 rfl (lv_at hl 0 rfl) ?_
  refine lv_iload_n hx hb dX4_asked_1 rfl (lv_at hl 1 rfl) ?_
  refine lv_iload_n hx hb dX4_asked_2 rfl (lv_at hl 2 rfl) ?_
  have hPc := hP.sub (ws' := []) [] rfl
  have hDc := hD.sub (ws' := []) [] (by decide) rfl
  have hFc := va_free (wc := []) hD hS hA [] rfl
  refine va_calli (va_runS (As := [.int (nI ix), .int (nI k)]) (rest := [.ref (b 0)]) ⟨hx, hb, hml, hown, hts⟩ (c_X4_isOption l D cA s.heap.size (nI ix) (nI k)) (va_cwS 2 hts gX4_asked_X4_isOption rfl rfl rfl (by decide +kernel) ⟨Nat.le_of_ble_eq_true rfl, Nat.le_of_ble_eq_true rfl⟩) ⟨zU_blind, fun U hU hW => ⟨rfl, zU_call hU hPc hW.alike hK hDc⟩⟩ rfl rfl hl.1 rfl (lv_room (Nat.le_of_ble_eq_true rfl)) dX4_asked_3 ⟨(Nat.zero_le _), (Nat.zero_le _)⟩) hS (fun q _ h => hFc q h) hFc (fun zr u t H1 locs ht hvm hw hB hz1 hk1 hS => ?_)
  obtain ⟨hP1, hD1⟩ := hB
  rw [ht] at hP1
  obtain ⟨hP, hD⟩ := va_join (wr := [cM b mm, (b 7, .inl (cA 0, 8, .inl (bk 4 ix f fy)))]) (w1 := []) hP hD [] [0, 1] rfl rfl (by decide) (by decide) hk1 hFc hP1 hD1
  generalize H1 = H at hP hS ⊢
  have hP := hP.sub (ws' := [cM b mm, (b 7, .inl (cA 0, 8, .inl (bk 4 ix f fy)))]) [0, 1] rfl
  have hD := hD.sub (ws' := [cM b mm, (b 7, .inl (cA 0, 8, .inl (bk 4 ix f fy)))]) [0, 1] (by decide) rfl
  clear hPc hDc hFc hP1 hD1 hk1 hz1
  have hw_1 := hw
  rcases z_bool hw with ⟨h_1, rfl⟩ | ⟨h_1, rfl⟩
  · skip
    refine lv_if_eq (tgt := 13) hx hb dX4_asked_6 (by decide) (fun c_2 => absurd c_2 (by decide)) (fun _ => ?_)
    refine lv_iconst (v := 0) hx hb dX4_asked_9 (by decide) ?_
    refine lv_goto (tgt := 14) hx hb dX4_asked_10 (by decide) ?_
    have hPc := hP.sub (ws' := [cM b mm]) [0] rfl
    have hDc := hD.sub (ws' := [cM b mm]) [0] (by decide) rfl
    have hFc := va_free (wc := [cM b mm]) hD hS hA [0] rfl
    refine va_calli (va_runV (As := [.int 0]) (rest := []) ⟨hx, hb, hml, hown, hts⟩ (c_X4_can l D cA H.size b mm 0) (cwV 1 hts gX4_asked_X4_can rfl rfl rfl (by decide +kernel) ⟨Nat.le_of_ble_eq_true rfl, Nat.le_of_ble_eq_true rfl⟩) ⟨zU_blind, va_recv hK hPc (ci := 6) (q0 := 0) rfl rfl, fun U hU hW => ⟨rfl, zU_call hU hPc hW.alike hK hDc⟩⟩ rfl rfl hl.1 rfl (lv_room (Nat.le_of_ble_eq_true rfl)) dX4_asked_14 ⟨(Nat.zero_le _), (Nat.zero_le _)⟩) hS (fun q _ h => hFc q h) hFc (fun zr u t H1 locs ht hvm hw hB hz1 hk1 hS => ?_)
    obtain ⟨mm'_3, rfl⟩ : ∃ z, z = u := ⟨_, rfl⟩
    obtain ⟨hP1, hD1⟩ := hB
    rw [ht] at hP1
    try dsimp only at hw hP1 hD1
    obtain ⟨hP, hD⟩ := va_join (wr := [(b 7, .inl (cA 0, 8, .inl (bk 4 ix f fy)))]) (w1 := [cM b mm'_3]) hP hD [0] [1] rfl rfl (by decide) (by decide) hk1 hFc hP1 hD1
    generalize H1 = H at hP hS ⊢
    have hP := hP.sub (ws' := [cM b mm'_3, (b 7, .inl (cA 0, 8, .inl (bk 4 ix f fy)))]) [1, 0] rfl
    have hD := hD.sub (ws' := [cM b mm'_3, (b 7, .inl (cA 0, 8, .inl (bk 4 ix f fy)))]) [1, 0] (by decide) rfl
    clear hPc hDc hFc hP1 hD1 hk1 hz1
    obtain ⟨rfl, hw⟩ := hw
    have hw_3 := hw
    rcases z_bool hw with ⟨h_3, rfl⟩ | ⟨h_3, rfl⟩
    · skip
      refine lv_if_eq (tgt := 33) hx hb dX4_asked_17 (by decide) (fun c_4 => absurd c_4 (by decide)) (fun _ => ?_)
      refine lv_aload_n hx hb dX4_asked_20 rfl (lv_at hl 0 rfl) ?_
      refine va_get (D := D) (ci := 6) (v := .ref (b 7)) (C := RX4) (T := TX4) (N := 29) hx hb hts (fun _ h => List.mem_cons_of_mem _ (List.mem_append_right _ (h))) hown hK hP 0 rfl rfl 8 (by decide) (hts (.fieldLink RX4 29 "OptionWireModel" "asks" "[I") (List.mem_of_getElem? (i := 1) rfl)) (fun _ h9 => h9) rfl dX4_asked_21 ?_
      refine lv_iconst (v := 4) hx hb dX4_asked_24 (by decide) ?_
      refine lv_iload_n hx hb dX4_asked_25 rfl (lv_at hl 1 rfl) ?_
      refine lv_imul hx hb dX4_asked_26 ?_
      refine z_top (y := (nI (4 * ix))) (z_mul 4 ix) ?_
      refine lv_iload_n hx hb dX4_asked_27 rfl (lv_at hl 2 rfl) ?_
      refine lv_iadd hx hb dX4_asked_28 ?_
      refine z_top (y := (nI (4 * ix + k))) (z_add (4 * ix) k) ?_
      refine z_iald (k := (4 * ix + k)) (v := (f k)) hx hb hK hP 1 0 rfl rfl rfl (by omega) (by decide) (bk_x (by omega)) dX4_asked_29 ?_
      refine lv_goto (tgt := 34) hx hb dX4_asked_30 (by decide) ?_
      refine W.widen (k := 0) (n := 0) (by omega) (by omega) ?_
      exact W.iret (v := (f k)) hx hb hr (fun t ht hW => ⟨⟨f k, ((upd mm 6 0)), rfl, ⟨rfl, rfl⟩, ⟨by rw [ht]; exact hP, by rw [hAe]; exact hD⟩⟩, hS.F ht⟩) hS.2.2 dX4_asked_34
    · exact absurd rfl h_3
  · exact absurd ⟨inr_ix hix, inr_k hk⟩ h_1
set_option maxHeartbeats 4000000 in
set_option maxRecDepth 100000 in
theorem c_X4_asked_b (l : Launch) (D : va_G) (cA : Nat → ClassId) (sz : Nat) (b : Nat → Nat) (mm : Nat → Int32) (n o : Int32) (hn : ¬ (inr n 0 1 ∧ inr o 0 3)) : Met l yX4_asked wsX4_asked ({ frames := 3, cells := 0, slots := 0, locals := 63 }) (va_Pc [.ref (b 0), .int n, .int o] (zU D cA sz [cM b mm])) (va_Qi (fun (r : Int32) (u : (Nat → Int32)) => u = upd mm 6 1) (fun (u : (Nat → Int32)) t => zB D [cM b mm] sz [cM b u] t) (va_A [cM b mm] sz)) 0 0 (va_A [cM b mm] sz) := by
  refine Met.ofW (cc := cX4_asked) (maxL := 3) (ret := (some .int)) (by decide) rfl ?_
  intro p e s m args below meth c s₁ B hml hv
  obtain ⟨rfl, hsz, hP, hK, hD0⟩ := hv
  have hx := B.exec
  have hb := B.bytes
  have hr := B.returns
  have hts := atoms_spec (ws := wsX4_asked) B.pre
  have hown : s.vm.findClass RX4 = some m.cls := findClass_of_methodNamed B.named
  have hlocks := B.notSynchronized
  subst hsz
  have hD := hD0.self (sz := s.heap.size)
  generalize hAe : va_A [cM b mm] s.heap.size = A at hD ⊢
  have hA : ∀ q : Nat, s.heap.size ≤ q → A q := fun q h => by rw [← hAe]; exact Or.inr h
  have hS : va_S A s.heap s.heap [] := va_S.rf
  have hl := lv_entry ([.ref (b 0), .int n, .int o]) (n := 3) (Nat.le_of_ble_eq_true rfl)
  rw [lg_entry_eq]
  generalize (lg_sl ([.ref (b 0), .int n, .int o]) ++ List.replicate (3 - (lg_sl ([.ref (b 0), .int n, .int o])).length) Slot.unset).toArray = ls at hl ⊢
  have hl : lv_has ls 3 [(0, .ref (b 0)), (1, .int n), (2, .int o)] := hl
  refine lv_aload_n hx hb dX4_asked_0 rfl (lv_at hl 0 rfl) ?_
  refine lv_iload_n hx hb dX4_asked_1 rfl (lv_at hl 1 rfl) ?_
  refine lv_iload_n hx hb dX4_asked_2 rfl (lv_at hl 2 rfl) ?_
  have hPc := hP.sub (ws' := []) [] rfl
  have hDc := hD.sub (ws' := []) [] (by decide) rfl
  have hFc := va_free (wc := []) hD hS hA [] rfl
  refine va_calli (va_runS (As := [.int n, .int o]) (rest := [.ref (b 0)]) ⟨hx, hb, hml, hown, hts⟩ (c_X4_isOption l D cA s.heap.size n o) (va_cwS 2 hts gX4_asked_X4_isOption rfl rfl rfl (by decide +kernel) ⟨Nat.le_of_ble_eq_true rfl, Nat.le_of_ble_eq_true rfl⟩) ⟨zU_blind, fun U hU hW => ⟨rfl, zU_call hU hPc hW.alike hK hDc⟩⟩ rfl rfl hl.1 rfl (lv_room (Nat.le_of_ble_eq_true rfl)) dX4_asked_3 ⟨(Nat.zero_le _), (Nat.zero_le _)⟩) hS (fun q _ h => hFc q h) hFc (fun zr u t H1 locs ht hvm hw hB hz1 hk1 hS => ?_)
  obtain ⟨hP1, hD1⟩ := hB
  rw [ht] at hP1
  obtain ⟨hP, hD⟩ := va_join (wr := [cM b mm]) (w1 := []) hP hD [] [0] rfl rfl (by decide) (by decide) hk1 hFc hP1 hD1
  generalize H1 = H at hP hS ⊢
  have hP := hP.sub (ws' := [cM b mm]) [0] rfl
  have hD := hD.sub (ws' := [cM b mm]) [0] (by decide) rfl
  clear hPc hDc hFc hP1 hD1 hk1 hz1
  have hw_1 := hw
  rcases z_bool hw with ⟨h_1, rfl⟩ | ⟨h_1, rfl⟩
  · exact absurd h_1 hn
  · skip
    refine lv_if_eq (tgt := 13) hx hb dX4_asked_6 (by decide) (fun _ => ?_) (fun c_2 => absurd c_2 (by decide))
    refine lv_iconst (v := 1) hx hb dX4_asked_13 (by decide) ?_
    have hPc := hP.sub (ws' := [cM b mm]) [0] rfl
    have hDc := hD.sub (ws' := [cM b mm]) [0] (by decide) rfl
    have hFc := va_free (wc := [cM b mm]) hD hS hA [0] rfl
    refine va_calli (va_runV (As := [.int 1]) (rest := []) ⟨hx, hb, hml, hown, hts⟩ (c_X4_can l D cA H.size b mm 1) (cwV 1 hts gX4_asked_X4_can rfl rfl rfl (by decide +kernel) ⟨Nat.le_of_ble_eq_true rfl, Nat.le_of_ble_eq_true rfl⟩) ⟨zU_blind, va_recv hK hPc (ci := 6) (q0 := 0) rfl rfl, fun U hU hW => ⟨rfl, zU_call hU hPc hW.alike hK hDc⟩⟩ rfl rfl hl.1 rfl (lv_room (Nat.le_of_ble_eq_true rfl)) dX4_asked_14 ⟨(Nat.zero_le _), (Nat.zero_le _)⟩) hS (fun q _ h => hFc q h) hFc (fun zr u t H1 locs ht hvm hw hB hz1 hk1 hS => ?_)
    obtain ⟨mm'_3, rfl⟩ : ∃ z, z = u := ⟨_, rfl⟩
    obtain ⟨hP1, hD1⟩ := hB
    rw [ht] at hP1
    try dsimp only at hw hP1 hD1
    obtain ⟨hP, hD⟩ := va_join (wr := []) (w1 := [cM b mm'_3]) hP hD [0] [] rfl rfl (by decide) (by decide) hk1 hFc hP1 hD1
    generalize H1 = H at hP hS ⊢
    have hP := hP.sub (ws' := [cM b mm'_3]) [0] rfl
    have hD := hD.sub (ws' := [cM b mm'_3]) [0] (by decide) rfl
    clear hPc hDc hFc hP1 hD1 hk1 hz1
    obtain ⟨rfl, hw⟩ := hw
    have hw_3 := hw
    rcases z_bool hw with ⟨h_3, rfl⟩ | ⟨h_3, rfl⟩
    · exact absurd h_3 (by decide)
    · skip
      refine lv_if_eq (tgt := 33) hx hb dX4_asked_17 (by decide) (fun _ => ?_) (fun c_4 => absurd c_4 (by decide))
      refine lv_iconst (v := 0) hx hb dX4_asked_33 (by decide) ?_
      refine W.widen (k := 0) (n := 0) (by omega) (by omega) ?_
      exact W.iret (v := 0) hx hb hr (fun t ht hW => ⟨⟨0, ((upd mm 6 1)), rfl, rfl, ⟨by rw [ht]; exact hP, by rw [hAe]; exact hD⟩⟩, hS.F ht⟩) hS.2.2 dX4_asked_34
set_option maxHeartbeats 4000000 in
set_option maxRecDepth 100000 in
theorem c_X4_granted_k (l : Launch) (D : va_G) (cA : Nat → ClassId) (sz : Nat) (b : Nat → Nat) (mm : Nat → Int32) (ix : Nat) (c1 c2 : Int32) (k : Nat) (f fy : Nat → Int32) (hix : ix ≤ 1) (hk : k < 4) : Met l yX4_granted wsX4_granted ({ frames := 3, cells := 0, slots := 0, locals := 63 }) (va_Pc [.ref (b 0), .int (nI ix), .int (nI k)] (zU D cA sz [cM b mm, (b 9, .inl (cA 0, 2, .inl (t2 ix c1 c2))), (b 7, .inl (cA 0, 8, .inl (bk 4 ix f fy)))])) (va_Qi (fun (r : Int32) (u : (Nat → Int32)) => u = upd mm 6 0 ∧ r = (if c1 = 2 ∨ c1 = 4 then f k else -1)) (fun (u : (Nat → Int32)) t => zB D [cM b mm, (b 9, .inl (cA 0, 2, .inl (t2 ix c1 c2))), (b 7, .inl (cA 0, 8, .inl (bk 4 ix f fy)))] sz [cM b u, (b 9, .inl (cA 0, 2, .inl (t2 ix c1 c2))), (b 7, .inl (cA 0, 8, .inl (bk 4 ix f fy)))] t) (va_A [cM b mm, (b 9, .inl (cA 0, 2, .inl (t2 ix c1 c2))), (b 7, .inl (cA 0, 8, .inl (bk 4 ix f fy)))] sz)) 0 0 (va_A [cM b mm, (b 9, .inl (cA 0, 2, .inl (t2 ix c1 c2))), (b 7, .inl (cA 0, 8, .inl (bk 4 ix f fy)))] sz) := by
  refine Met.ofW (cc := cX4_granted) (maxL := 3) (ret := (some .int)) (by decide) rfl ?_
  intro p e s m args below meth c s₁ B hml hv
  obtain ⟨rfl, hsz, hP, hK, hD0⟩ := hv
  have hx := B.exec
  have hb := B.bytes
  have hr := B.returns
  have hts := atoms_spec (ws := wsX4_granted) B.pre
  have hown : s.vm.findClass RX4 = some m.cls := findClass_of_methodNamed B.named
  have hlocks := B.notSynchronized
  subst hsz
  have hD := hD0.self (sz := s.heap.size)
  generalize hAe : va_A [cM b mm, (b 9, .inl (cA 0, 2, .inl (t2 ix c1 c2))), (b 7, .inl (cA 0, 8, .inl (bk 4 ix f fy)))] s.heap.size = A at hD ⊢
  have hA : ∀ q : Nat, s.heap.size ≤ q → A q := fun q h => by rw [← hAe]; exact Or.inr h
  have hS : va_S A s.heap s.heap [] := va_S.rf
  have hl := lv_entry ([.ref (b 0), .int (nI ix), .int (nI k)]) (n := 3) (Nat.le_of_ble_eq_true rfl)
  rw [lg_entry_eq]
  generalize (lg_sl ([.ref (b 0), .int (nI ix), .int (nI k)]) ++ List.replicate (3 - (lg_sl ([.ref (b 0), .int (nI ix), .int (nI k)])).length) Slot.unset).toArray = ls at hl ⊢
  have hl : lv_has ls 3 [(0, .ref (b 0)), (1, .int (nI ix)), (2, .int (nI k))] := hl
  refine lv_aload_n hx hb dX4_granted_0 rfl (lv_at hl 0 rfl) ?_
  refine lv_iload_n hx hb dX4_granted_1 rfl (lv_at hl 1 rfl) ?_
  refine lv_iload_n hx hb dX4_granted_2 rfl (lv_at hl 2 rfl) ?_
  have hPc := hP.sub (ws' := []) [] rfl
  have hDc := hD.sub (ws' := []) [] (by decide) rfl
  have hFc := va_free (wc := []) hD hS hA [] rfl
  refine va_calli (va_runS (As := [.int (nI ix), .int (nI k)]) (rest := [.ref (b 0)]) ⟨hx, hb, hml, hown, hts⟩ (c_X4_isOption l D cA s.heap.size (nI ix) (nI k)) (va_cwS 2 hts gX4_granted_X4_isOption rfl rfl rfl (by decide +kernel) ⟨Nat.le_of_ble_eq_true rfl, Nat.le_of_ble_eq_true rfl⟩) ⟨zU_blind, fun U hU hW => ⟨rfl, zU_call hU hPc hW.alike hK hDc⟩⟩ rfl rfl hl.1 rfl (lv_room (Nat.le_of_ble_eq_true rfl)) dX4_granted_3 ⟨(Nat.zero_le _), (Nat.zero_le _)⟩) hS (fun q _ h => hFc q h) hFc (fun zr u t H1 locs ht hvm hw hB hz1 hk1 hS => ?_)
  obtain ⟨hP1, hD1⟩ := hB
  rw [ht] at hP1
  obtain ⟨hP, hD⟩ := va_join (wr := [cM b mm, (b 9, .inl (cA 0, 2, .inl (t2 ix c1 c2))), (b 7, .inl (cA 0, 8, .inl (bk 4 ix f fy)))]) (w1 := []) hP hD [] [0, 1, 2] rfl rfl (by decide) (by decide) hk1 hFc hP1 hD1
  generalize H1 = H at hP hS ⊢
  have hP := hP.sub (ws' := [cM b mm, (b 9, .inl (cA 0, 2, .inl (t2 ix c1 c2))), (b 7, .inl (cA 0, 8, .inl (bk 4 ix f fy)))]) [0, 1, 2] rfl
  have hD := hD.sub (ws' := [cM b mm, (b 9, .inl (cA 0, 2, .inl (t2 ix c1 c2))), (b 7, .inl (cA 0, 8, .inl (bk 4 ix f fy)))]) [0, 1, 2] (by decide) rfl
  clear hPc hDc hFc hP1 hD1 hk1 hz1
  have hw_1 := hw
  rcases z_bool hw with ⟨h_1, rfl⟩ | ⟨h_1, rfl⟩
  · skip
    refine lv_if_eq (tgt := 13) hx hb dX4_granted_6 (by decide) (fun c_2 => absurd c_2 (by decide)) (fun _ => ?_)
    refine lv_iconst (v := 0) hx hb dX4_granted_9 (by decide) ?_
    refine lv_goto (tgt := 14) hx hb dX4_granted_10 (by decide) ?_
    have hPc := hP.sub (ws' := [cM b mm]) [0] rfl
    have hDc := hD.sub (ws' := [cM b mm]) [0] (by decide) rfl
    have hFc := va_free (wc := [cM b mm]) hD hS hA [0] rfl
    refine va_calli (va_runV (As := [.int 0]) (rest := []) ⟨hx, hb, hml, hown, hts⟩ (c_X4_can l D cA H.size b mm 0) (cwV 1 hts gX4_granted_X4_can rfl rfl rfl (by decide +kernel) ⟨Nat.le_of_ble_eq_true rfl, Nat.le_of_ble_eq_true rfl⟩) ⟨zU_blind, va_recv hK hPc (ci := 6) (q0 := 0) rfl rfl, fun U hU hW => ⟨rfl, zU_call hU hPc hW.alike hK hDc⟩⟩ rfl rfl hl.1 rfl (lv_room (Nat.le_of_ble_eq_true rfl)) dX4_granted_14 ⟨(Nat.zero_le _), (Nat.zero_le _)⟩) hS (fun q _ h => hFc q h) hFc (fun zr u t H1 locs ht hvm hw hB hz1 hk1 hS => ?_)
    obtain ⟨mm'_3, rfl⟩ : ∃ z, z = u := ⟨_, rfl⟩
    obtain ⟨hP1, hD1⟩ := hB
    rw [ht] at hP1
    try dsimp only at hw hP1 hD1
    obtain ⟨hP, hD⟩ := va_join (wr := [(b 9, .inl (cA 0, 2, .inl (t2 ix c1 c2))), (b 7, .inl (cA 0, 8, .inl (bk 4 ix f fy)))]) (w1 := [cM b mm'_3]) hP hD [0] [1, 2] rfl rfl (by decide) (by decide) hk1 hFc hP1 hD1
    generalize H1 = H at hP hS ⊢
    have hP := hP.sub (ws' := [cM b mm'_3, (b 9, .inl (cA 0, 2, .inl (t2 ix c1 c2))), (b 7, .inl (cA 0, 8, .inl (bk 4 ix f fy)))]) [2, 0, 1] rfl
    have hD := hD.sub (ws' := [cM b mm'_3, (b 9, .inl (cA 0, 2, .inl (t2 ix c1 c2))), (b 7, .inl (cA 0, 8, .inl (bk 4 ix f fy)))]) [2, 0, 1] (by decide) rfl
    clear hPc hDc hFc hP1 hD1 hk1 hz1
    obtain ⟨rfl, hw⟩ := hw
    have hw_3 := hw
    rcases z_bool hw with ⟨h_3, rfl⟩ | ⟨h_3, rfl⟩
    · skip
      refine lv_if_ne (tgt := 22) hx hb dX4_granted_17 (by decide) (fun _ => ?_) (fun c_4 => absurd c_4 (by decide))
      refine lv_aload_n hx hb dX4_granted_22 rfl (lv_at hl 0 rfl) ?_
      refine va_get (D := D) (ci := 6) (v := .ref (b 9)) (C := RX4) (T := TX4) (N := 29) hx hb hts (fun _ h => List.mem_cons_of_mem _ (List.mem_append_right _ (h))) hown hK hP 0 rfl rfl 10 (by decide) (hts (.fieldLink RX4 35 "OptionWireModel" "states" "[I") (List.mem_of_getElem? (i := 1) rfl)) (fun _ h9 => h9) rfl dX4_granted_23 ?_
      refine lv_iload_n hx hb dX4_granted_26 rfl (lv_at hl 1 rfl) ?_
      refine z_iald (k := ix) (v := c1) hx hb hK hP 1 0 rfl rfl rfl (by omega) (by decide) t2_x dX4_granted_27 ?_
      refine lv_iconst (v := 2) hx hb dX4_granted_28 (by decide) ?_
      refine lv_icmp_eq (tgt := 42) hx hb dX4_granted_29 (by decide) (fun c_5 => ?_) (fun c_5 => ?_)
      · skip
        refine lv_aload_n hx hb dX4_granted_42 rfl (lv_at hl 0 rfl) ?_
        refine va_get (D := D) (ci := 6) (v := .ref (b 7)) (C := RX4) (T := TX4) (N := 29) hx hb hts (fun _ h => List.mem_cons_of_mem _ (List.mem_append_right _ (h))) hown hK hP 0 rfl rfl 8 (by decide) (hts (.fieldLink RX4 29 "OptionWireModel" "asks" "[I") (List.mem_of_getElem? (i := 2) rfl)) (fun _ h9 => h9) rfl dX4_granted_43 ?_
        refine lv_iconst (v := 4) hx hb dX4_granted_46 (by decide) ?_
        refine lv_iload_n hx hb dX4_granted_47 rfl (lv_at hl 1 rfl) ?_
        refine lv_imul hx hb dX4_granted_48 ?_
        refine z_top (y := (nI (4 * ix))) (z_mul 4 ix) ?_
        refine lv_iload_n hx hb dX4_granted_49 rfl (lv_at hl 2 rfl) ?_
        refine lv_iadd hx hb dX4_granted_50 ?_
        refine z_top (y := (nI (4 * ix + k))) (z_add (4 * ix) k) ?_
        refine z_iald (k := (4 * ix + k)) (v := (f k)) hx hb hK hP 2 0 rfl rfl rfl (by omega) (by decide) (bk_x (by omega)) dX4_granted_51 ?_
        refine lv_goto (tgt := 56) hx hb dX4_granted_52 (by decide) ?_
        refine W.widen (k := 0) (n := 0) (by omega) (by omega) ?_
        exact W.iret (v := (f k)) hx hb hr (fun t ht hW => ⟨⟨f k, ((upd mm 6 0)), rfl, ⟨rfl, by simp [h_1, h_3, c_5]⟩, ⟨by rw [ht]; exact hP, by rw [hAe]; exact hD⟩⟩, hS.F ht⟩) hS.2.2 dX4_granted_56
      · skip
        refine lv_aload_n hx hb dX4_granted_32 rfl (lv_at hl 0 rfl) ?_
        refine va_get (D := D) (ci := 6) (v := .ref (b 9)) (C := RX4) (T := TX4) (N := 29) hx hb hts (fun _ h => List.mem_cons_of_mem _ (List.mem_append_right _ (h))) hown hK hP 0 rfl rfl 10 (by decide) (hts (.fieldLink RX4 35 "OptionWireModel" "states" "[I") (List.mem_of_getElem? (i := 1) rfl)) (fun _ h9 => h9) rfl dX4_granted_33 ?_
        refine lv_iload_n hx hb dX4_granted_36 rfl (lv_at hl 1 rfl) ?_
        refine z_iald (k := ix) (v := c1) hx hb hK hP 1 0 rfl rfl rfl (by omega) (by decide) t2_x dX4_granted_37 ?_
        refine lv_iconst (v := 4) hx hb dX4_granted_38 (by decide) ?_
        refine lv_icmp_ne (tgt := 55) hx hb dX4_granted_39 (by decide) (fun c_6 => ?_) (fun c_6 => ?_)
        · skip
          refine lv_iconst (v := (-1)) hx hb dX4_granted_55 (by decide) ?_
          refine W.widen (k := 0) (n := 0) (by omega) (by omega) ?_
          exact W.iret (v := (-1)) hx hb hr (fun t ht hW => ⟨⟨(-1), ((upd mm 6 0)), rfl, ⟨rfl, by simp [h_1, h_3, c_5, c_6]⟩, ⟨by rw [ht]; exact hP, by rw [hAe]; exact hD⟩⟩, hS.F ht⟩) hS.2.2 dX4_granted_56
        · skip
          refine lv_aload_n hx hb dX4_granted_42 rfl (lv_at hl 0 rfl) ?_
          refine va_get (D := D) (ci := 6) (v := .ref (b 7)) (C := RX4) (T := TX4) (N := 29) hx hb hts (fun _ h => List.mem_cons_of_mem _ (List.mem_append_right _ (h))) hown hK hP 0 rfl rfl 8 (by decide) (hts (.fieldLink RX4 29 "OptionWireModel" "asks" "[I") (List.mem_of_getElem? (i := 2) rfl)) (fun _ h9 => h9) rfl dX4_granted_43 ?_
          refine lv_iconst (v := 4) hx hb dX4_granted_46 (by decide) ?_
          refine lv_iload_n hx hb dX4_granted_47 rfl (lv_at hl 1 rfl) ?_
          refine lv_imul hx hb dX4_granted_48 ?_
          refine z_top (y := (nI (4 * ix))) (z_mul 4 ix) ?_
          refine lv_iload_n hx hb dX4_granted_49 rfl (lv_at hl 2 rfl) ?_
          refine lv_iadd hx hb dX4_granted_50 ?_
          refine z_top (y := (nI (4 * ix + k))) (z_add (4 * ix) k) ?_
          refine z_iald (k := (4 * ix + k)) (v := (f k)) hx hb hK hP 2 0 rfl rfl rfl (by omega) (by decide) (bk_x (by omega)) dX4_granted_51 ?_
          refine lv_goto (tgt := 56) hx hb dX4_granted_52 (by decide) ?_
          refine W.widen (k := 0) (n := 0) (by omega) (by omega) ?_
          exact W.iret (v := (f k)) hx hb hr (fun t ht hW => ⟨⟨f k, ((upd mm 6 0)), rfl, ⟨rfl, by simp [h_1, h_3, c_5, c_6]⟩, ⟨by rw [ht]; exact hP, by rw [hAe]; exact hD⟩⟩, hS.F ht⟩) hS.2.2 dX4_granted_56
    · exact absurd rfl h_3
  · exact absurd ⟨inr_ix hix, inr_k hk⟩ h_1
set_option maxHeartbeats 4000000 in
set_option maxRecDepth 100000 in
theorem c_X4_granted_b (l : Launch) (D : va_G) (cA : Nat → ClassId) (sz : Nat) (b : Nat → Nat) (mm : Nat → Int32) (n o : Int32) (hn : ¬ (inr n 0 1 ∧ inr o 0 3)) : Met l yX4_granted wsX4_granted ({ frames := 3, cells := 0, slots := 0, locals := 63 }) (va_Pc [.ref (b 0), .int n, .int o] (zU D cA sz [cM b mm])) (va_Qi (fun (r : Int32) (u : (Nat → Int32)) => u = upd mm 6 1) (fun (u : (Nat → Int32)) t => zB D [cM b mm] sz [cM b u] t) (va_A [cM b mm] sz)) 0 0 (va_A [cM b mm] sz) := by
  refine Met.ofW (cc := cX4_granted) (maxL := 3) (ret := (some .int)) (by decide) rfl ?_
  intro p e s m args below meth c s₁ B hml hv
  obtain ⟨rfl, hsz, hP, hK, hD0⟩ := hv
  have hx := B.exec
  have hb := B.bytes
  have hr := B.returns
  have hts := atoms_spec (ws := wsX4_granted) B.pre
  have hown : s.vm.findClass RX4 = some m.cls := findClass_of_methodNamed B.named
  have hlocks := B.notSynchronized
  subst hsz
  have hD := hD0.self (sz := s.heap.size)
  generalize hAe : va_A [cM b mm] s.heap.size = A at hD ⊢
  have hA : ∀ q : Nat, s.heap.size ≤ q → A q := fun q h => by rw [← hAe]; exact Or.inr h
  have hS : va_S A s.heap s.heap [] := va_S.rf
  have hl := lv_entry ([.ref (b 0), .int n, .int o]) (n := 3) (Nat.le_of_ble_eq_true rfl)
  rw [lg_entry_eq]
  generalize (lg_sl ([.ref (b 0), .int n, .int o]) ++ List.replicate (3 - (lg_sl ([.ref (b 0), .int n, .int o])).length) Slot.unset).toArray = ls at hl ⊢
  have hl : lv_has ls 3 [(0, .ref (b 0)), (1, .int n), (2, .int o)] := hl
  refine lv_aload_n hx hb dX4_granted_0 rfl (lv_at hl 0 rfl) ?_
  refine lv_iload_n hx hb dX4_granted_1 rfl (lv_at hl 1 rfl) ?_
  refine lv_iload_n hx hb dX4_granted_2 rfl (lv_at hl 2 rfl) ?_
  have hPc := hP.sub (ws' := []) [] rfl
  have hDc := hD.sub (ws' := []) [] (by decide) rfl
  have hFc := va_free (wc := []) hD hS hA [] rfl
  refine va_calli (va_runS (As := [.int n, .int o]) (rest := [.ref (b 0)]) ⟨hx, hb, hml, hown, hts⟩ (c_X4_isOption l D cA s.heap.size n o) (va_cwS 2 hts gX4_granted_X4_isOption rfl rfl rfl (by decide +kernel) ⟨Nat.le_of_ble_eq_true rfl, Nat.le_of_ble_eq_true rfl⟩) ⟨zU_blind, fun U hU hW => ⟨rfl, zU_call hU hPc hW.alike hK hDc⟩⟩ rfl rfl hl.1 rfl (lv_room (Nat.le_of_ble_eq_true rfl)) dX4_granted_3 ⟨(Nat.zero_le _), (Nat.zero_le _)⟩) hS (fun q _ h => hFc q h) hFc (fun zr u t H1 locs ht hvm hw hB hz1 hk1 hS => ?_)
  obtain ⟨hP1, hD1⟩ := hB
  rw [ht] at hP1
  obtain ⟨hP, hD⟩ := va_join (wr := [cM b mm]) (w1 := []) hP hD [] [0] rfl rfl (by decide) (by decide) hk1 hFc hP1 hD1
  generalize H1 = H at hP hS ⊢
  have hP := hP.sub (ws' := [cM b mm]) [0] rfl
  have hD := hD.sub (ws' := [cM b mm]) [0] (by decide) rfl
  clear hPc hDc hFc hP1 hD1 hk1 hz1
  have hw_1 := hw
  rcases z_bool hw with ⟨h_1, rfl⟩ | ⟨h_1, rfl⟩
  · exact absurd h_1 hn
  · skip
    refine lv_if_eq (tgt := 13) hx hb dX4_granted_6 (by decide) (fun _ => ?_) (fun c_2 => absurd c_2 (by decide))
    refine lv_iconst (v := 1) hx hb dX4_granted_13 (by decide) ?_
    have hPc := hP.sub (ws' := [cM b mm]) [0] rfl
    have hDc := hD.sub (ws' := [cM b mm]) [0] (by decide) rfl
    have hFc := va_free (wc := [cM b mm]) hD hS hA [0] rfl
    refine va_calli (va_runV (As := [.int 1]) (rest := []) ⟨hx, hb, hml, hown, hts⟩ (c_X4_can l D cA H.size b mm 1) (cwV 1 hts gX4_granted_X4_can rfl rfl rfl (by decide +kernel) ⟨Nat.le_of_ble_eq_true rfl, Nat.le_of_ble_eq_true rfl⟩) ⟨zU_blind, va_recv hK hPc (ci := 6) (q0 := 0) rfl rfl, fun U hU hW => ⟨rfl, zU_call hU hPc hW.alike hK hDc⟩⟩ rfl rfl hl.1 rfl (lv_room (Nat.le_of_ble_eq_true rfl)) dX4_granted_14 ⟨(Nat.zero_le _), (Nat.zero_le _)⟩) hS (fun q _ h => hFc q h) hFc (fun zr u t H1 locs ht hvm hw hB hz1 hk1 hS => ?_)
    obtain ⟨mm'_3, rfl⟩ : ∃ z, z = u := ⟨_, rfl⟩
    obtain ⟨hP1, hD1⟩ := hB
    rw [ht] at hP1
    try dsimp only at hw hP1 hD1
    obtain ⟨hP, hD⟩ := va_join (wr := []) (w1 := [cM b mm'_3]) hP hD [0] [] rfl rfl (by decide) (by decide) hk1 hFc hP1 hD1
    generalize H1 = H at hP hS ⊢
    have hP := hP.sub (ws' := [cM b mm'_3]) [0] rfl
    have hD := hD.sub (ws' := [cM b mm'_3]) [0] (by decide) rfl
    clear hPc hDc hFc hP1 hD1 hk1 hz1
    obtain ⟨rfl, hw⟩ := hw
    have hw_3 := hw
    rcases z_bool hw with ⟨h_3, rfl⟩ | ⟨h_3, rfl⟩
    · exact absurd h_3 (by decide)
    · skip
      refine lv_if_ne (tgt := 22) hx hb dX4_granted_17 (by decide) (fun c_4 => absurd c_4 (by decide)) (fun _ => ?_)
      refine lv_iconst (v := 0) hx hb dX4_granted_20 (by decide) ?_
      refine W.widen (k := 0) (n := 0) (by omega) (by omega) ?_
      exact W.iret (v := 0) hx hb hr (fun t ht hW => ⟨⟨0, ((upd mm 6 1)), rfl, rfl, ⟨by rw [ht]; exact hP, by rw [hAe]; exact hD⟩⟩, hS.F ht⟩) hS.2.2 dX4_granted_21
set_option maxHeartbeats 4000000 in
set_option maxRecDepth 100000 in
theorem c_X4_allowed_k (l : Launch) (D : va_G) (cA : Nat → ClassId) (sz : Nat) (b : Nat → Nat) (mm : Nat → Int32) (ix : Nat) (c1 c2 : Int32) (k : Nat) (f fy : Nat → Int32) (hix : ix ≤ 1) (hk : k < 4) : Met l yX4_allowed wsX4_allowed ({ frames := 3, cells := 0, slots := 0, locals := 63 }) (va_Pc [.ref (b 0), .int (nI ix), .int (nI k)] (zU D cA sz [cM b mm, (b 9, .inl (cA 0, 2, .inl (t2 ix c1 c2))), (b 8, .inl (cA 0, 8, .inl (bk 4 ix f fy)))])) (va_Qi (fun (r : Int32) (u : (Nat → Int32)) => u = upd mm 6 0 ∧ r = (if c1 = 3 ∨ c1 = 4 then f k else -1)) (fun (u : (Nat → Int32)) t => zB D [cM b mm, (b 9, .inl (cA 0, 2, .inl (t2 ix c1 c2))), (b 8, .inl (cA 0, 8, .inl (bk 4 ix f fy)))] sz [cM b u, (b 9, .inl (cA 0, 2, .inl (t2 ix c1 c2))), (b 8, .inl (cA 0, 8, .inl (bk 4 ix f fy)))] t) (va_A [cM b mm, (b 9, .inl (cA 0, 2, .inl (t2 ix c1 c2))), (b 8, .inl (cA 0, 8, .inl (bk 4 ix f fy)))] sz)) 0 0 (va_A [cM b mm, (b 9, .inl (cA 0, 2, .inl (t2 ix c1 c2))), (b 8, .inl (cA 0, 8, .inl (bk 4 ix f fy)))] sz) := by
  refine Met.ofW (cc := cX4_allowed) (maxL := 3) (ret := (some .int)) (by decide) rfl ?_
  intro p e s m args below meth c s₁ B hml hv
  obtain ⟨rfl, hsz, hP, hK, hD0⟩ := hv
  have hx := B.exec
  have hb := B.bytes
  have hr := B.returns
  have hts := atoms_spec (ws := wsX4_allowed) B.pre
  have hown : s.vm.findClass RX4 = some m.cls := findClass_of_methodNamed B.named
  have hlocks := B.notSynchronized
  subst hsz
  have hD := hD0.self (sz := s.heap.size)
  generalize hAe : va_A [cM b mm, (b 9, .inl (cA 0, 2, .inl (t2 ix c1 c2))), (b 8, .inl (cA 0, 8, .inl (bk 4 ix f fy)))] s.heap.size = A at hD ⊢
  have hA : ∀ q : Nat, s.heap.size ≤ q → A q := fun q h => by rw [← hAe]; exact Or.inr h
  have hS : va_S A s.heap s.heap [] := va_S.rf
  have hl := lv_entry ([.ref (b 0), .int (nI ix), .int (nI k)]) (n := 3) (Nat.le_of_ble_eq_true rfl)
  rw [lg_entry_eq]
  generalize (lg_sl ([.ref (b 0), .int (nI ix), .int (nI k)]) ++ List.replicate (3 - (lg_sl ([.ref (b 0), .int (nI ix), .int (nI k)])).length) Slot.unset).toArray = ls at hl ⊢
  have hl : lv_has ls 3 [(0, .ref (b 0)), (1, .int (nI ix)), (2, .int (nI k))] := hl
  refine lv_aload_n hx hb dX4_allowed_0 rfl (lv_at hl 0 rfl) ?_
  refine lv_iload_n hx hb dX4_allowed_1 rfl (lv_at hl 1 rfl) ?_
  refine lv_iload_n hx hb dX4_allowed_2 rfl (lv_at hl 2 rfl) ?_
  have hPc := hP.sub (ws' := []) [] rfl
  have hDc := hD.sub (ws' := []) [] (by decide) rfl
  have hFc := va_free (wc := []) hD hS hA [] rfl
  refine va_calli (va_runS (As := [.int (nI ix), .int (nI k)]) (rest := [.ref (b 0)]) ⟨hx, hb, hml, hown, hts⟩ (c_X4_isOption l D cA s.heap.size (nI ix) (nI k)) (va_cwS 2 hts gX4_allowed_X4_isOption rfl rfl rfl (by decide +kernel) ⟨Nat.le_of_ble_eq_true rfl, Nat.le_of_ble_eq_true rfl⟩) ⟨zU_blind, fun U hU hW => ⟨rfl, zU_call hU hPc hW.alike hK hDc⟩⟩ rfl rfl hl.1 rfl (lv_room (Nat.le_of_ble_eq_true rfl)) dX4_allowed_3 ⟨(Nat.zero_le _), (Nat.zero_le _)⟩) hS (fun q _ h => hFc q h) hFc (fun zr u t H1 locs ht hvm hw hB hz1 hk1 hS => ?_)
  obtain ⟨hP1, hD1⟩ := hB
  rw [ht] at hP1
  obtain ⟨hP, hD⟩ := va_join (wr := [cM b mm, (b 9, .inl (cA 0, 2, .inl (t2 ix c1 c2))), (b 8, .inl (cA 0, 8, .inl (bk 4 ix f fy)))]) (w1 := []) hP hD [] [0, 1, 2] rfl rfl (by decide) (by decide) hk1 hFc hP1 hD1
  generalize H1 = H at hP hS ⊢
  have hP := hP.sub (ws' := [cM b mm, (b 9, .inl (cA 0, 2, .inl (t2 ix c1 c2))), (b 8, .inl (cA 0, 8, .inl (bk 4 ix f fy)))]) [0, 1, 2] rfl
  have hD := hD.sub (ws' := [cM b mm, (b 9, .inl (cA 0, 2, .inl (t2 ix c1 c2))), (b 8, .inl (cA 0, 8, .inl (bk 4 ix f fy)))]) [0, 1, 2] (by decide) rfl
  clear hPc hDc hFc hP1 hD1 hk1 hz1
  have hw_1 := hw
  rcases z_bool hw with ⟨h_1, rfl⟩ | ⟨h_1, rfl⟩
  · skip
    refine lv_if_eq (tgt := 13) hx hb dX4_allowed_6 (by decide) (fun c_2 => absurd c_2 (by decide)) (fun _ => ?_)
    refine lv_iconst (v := 0) hx hb dX4_allowed_9 (by decide) ?_
    refine lv_goto (tgt := 14) hx hb dX4_allowed_10 (by decide) ?_
    have hPc := hP.sub (ws' := [cM b mm]) [0] rfl
    have hDc := hD.sub (ws' := [cM b mm]) [0] (by decide) rfl
    have hFc := va_free (wc := [cM b mm]) hD hS hA [0] rfl
    refine va_calli (va_runV (As := [.int 0]) (rest := []) ⟨hx, hb, hml, hown, hts⟩ (c_X4_can l D cA H.size b mm 0) (cwV 1 hts gX4_allowed_X4_can rfl rfl rfl (by decide +kernel) ⟨Nat.le_of_ble_eq_true rfl, Nat.le_of_ble_eq_true rfl⟩) ⟨zU_blind, va_recv hK hPc (ci := 6) (q0 := 0) rfl rfl, fun U hU hW => ⟨rfl, zU_call hU hPc hW.alike hK hDc⟩⟩ rfl rfl hl.1 rfl (lv_room (Nat.le_of_ble_eq_true rfl)) dX4_allowed_14 ⟨(Nat.zero_le _), (Nat.zero_le _)⟩) hS (fun q _ h => hFc q h) hFc (fun zr u t H1 locs ht hvm hw hB hz1 hk1 hS => ?_)
    obtain ⟨mm'_3, rfl⟩ : ∃ z, z = u := ⟨_, rfl⟩
    obtain ⟨hP1, hD1⟩ := hB
    rw [ht] at hP1
    try dsimp only at hw hP1 hD1
    obtain ⟨hP, hD⟩ := va_join (wr := [(b 9, .inl (cA 0, 2, .inl (t2 ix c1 c2))), (b 8, .inl (cA 0, 8, .inl (bk 4 ix f fy)))]) (w1 := [cM b mm'_3]) hP hD [0] [1, 2] rfl rfl (by decide) (by decide) hk1 hFc hP1 hD1
    generalize H1 = H at hP hS ⊢
    have hP := hP.sub (ws' := [cM b mm'_3, (b 9, .inl (cA 0, 2, .inl (t2 ix c1 c2))), (b 8, .inl (cA 0, 8, .inl (bk 4 ix f fy)))]) [2, 0, 1] rfl
    have hD := hD.sub (ws' := [cM b mm'_3, (b 9, .inl (cA 0, 2, .inl (t2 ix c1 c2))), (b 8, .inl (cA 0, 8, .inl (bk 4 ix f fy)))]) [2, 0, 1] (by decide) rfl
    clear hPc hDc hFc hP1 hD1 hk1 hz1
    obtain ⟨rfl, hw⟩ := hw
    have hw_3 := hw
    rcases z_bool hw with ⟨h_3, rfl⟩ | ⟨h_3, rfl⟩
    · skip
      refine lv_if_ne (tgt := 22) hx hb dX4_allowed_17 (by decide) (fun _ => ?_) (fun c_4 => absurd c_4 (by decide))
      refine lv_aload_n hx hb dX4_allowed_22 rfl (lv_at hl 0 rfl) ?_
      refine va_get (D := D) (ci := 6) (v := .ref (b 9)) (C := RX4) (T := TX4) (N := 29) hx hb hts (fun _ h => List.mem_cons_of_mem _ (List.mem_append_right _ (h))) hown hK hP 0 rfl rfl 10 (by decide) (hts (.fieldLink RX4 35 "OptionWireModel" "states" "[I") (List.mem_of_getElem? (i := 1) rfl)) (fun _ h9 => h9) rfl dX4_allowed_23 ?_
      refine lv_iload_n hx hb dX4_allowed_26 rfl (lv_at hl 1 rfl) ?_
      refine z_iald (k := ix) (v := c1) hx hb hK hP 1 0 rfl rfl rfl (by omega) (by decide) t2_x dX4_allowed_27 ?_
      refine lv_iconst (v := 3) hx hb dX4_allowed_28 (by decide) ?_
      refine lv_icmp_eq (tgt := 42) hx hb dX4_allowed_29 (by decide) (fun c_5 => ?_) (fun c_5 => ?_)
      · skip
        refine lv_aload_n hx hb dX4_allowed_42 rfl (lv_at hl 0 rfl) ?_
        refine va_get (D := D) (ci := 6) (v := .ref (b 8)) (C := RX4) (T := TX4) (N := 29) hx hb hts (fun _ h => List.mem_cons_of_mem _ (List.mem_append_right _ (h))) hown hK hP 0 rfl rfl 9 (by decide) (hts (.fieldLink RX4 32 "OptionWireModel" "said" "[I") (List.mem_of_getElem? (i := 2) rfl)) (fun _ h9 => h9) rfl dX4_allowed_43 ?_
        refine lv_iconst (v := 4) hx hb dX4_allowed_46 (by decide) ?_
        refine lv_iload_n hx hb dX4_allowed_47 rfl (lv_at hl 1 rfl) ?_
        refine lv_imul hx hb dX4_allowed_48 ?_
        refine z_top (y := (nI (4 * ix))) (z_mul 4 ix) ?_
        refine lv_iload_n hx hb dX4_allowed_49 rfl (lv_at hl 2 rfl) ?_
        refine lv_iadd hx hb dX4_allowed_50 ?_
        refine z_top (y := (nI (4 * ix + k))) (z_add (4 * ix) k) ?_
        refine z_iald (k := (4 * ix + k)) (v := (f k)) hx hb hK hP 2 0 rfl rfl rfl (by omega) (by decide) (bk_x (by omega)) dX4_allowed_51 ?_
        refine lv_goto (tgt := 56) hx hb dX4_allowed_52 (by decide) ?_
        refine W.widen (k := 0) (n := 0) (by omega) (by omega) ?_
        exact W.iret (v := (f k)) hx hb hr (fun t ht hW => ⟨⟨f k, ((upd mm 6 0)), rfl, ⟨rfl, by simp [h_1, h_3, c_5]⟩, ⟨by rw [ht]; exact hP, by rw [hAe]; exact hD⟩⟩, hS.F ht⟩) hS.2.2 dX4_allowed_56
      · skip
        refine lv_aload_n hx hb dX4_allowed_32 rfl (lv_at hl 0 rfl) ?_
        refine va_get (D := D) (ci := 6) (v := .ref (b 9)) (C := RX4) (T := TX4) (N := 29) hx hb hts (fun _ h => List.mem_cons_of_mem _ (List.mem_append_right _ (h))) hown hK hP 0 rfl rfl 10 (by decide) (hts (.fieldLink RX4 35 "OptionWireModel" "states" "[I") (List.mem_of_getElem? (i := 1) rfl)) (fun _ h9 => h9) rfl dX4_allowed_33 ?_
        refine lv_iload_n hx hb dX4_allowed_36 rfl (lv_at hl 1 rfl) ?_
        refine z_iald (k := ix) (v := c1) hx hb hK hP 1 0 rfl rfl rfl (by omega) (by decide) t2_x dX4_allowed_37 ?_
        refine lv_iconst (v := 4) hx hb dX4_allowed_38 (by decide) ?_
        refine lv_icmp_ne (tgt := 55) hx hb dX4_allowed_39 (by decide) (fun c_6 => ?_) (fun c_6 => ?_)
        · skip
          refine lv_iconst (v := (-1)) hx hb dX4_allowed_55 (by decide) ?_
          refine W.widen (k := 0) (n := 0) (by omega) (by omega) ?_
          exact W.iret (v := (-1)) hx hb hr (fun t ht hW => ⟨⟨(-1), ((upd mm 6 0)), rfl, ⟨rfl, by simp [h_1, h_3, c_5, c_6]⟩, ⟨by rw [ht]; exact hP, by rw [hAe]; exact hD⟩⟩, hS.F ht⟩) hS.2.2 dX4_allowed_56
        · skip
          refine lv_aload_n hx hb dX4_allowed_42 rfl (lv_at hl 0 rfl) ?_
          refine va_get (D := D) (ci := 6) (v := .ref (b 8)) (C := RX4) (T := TX4) (N := 29) hx hb hts (fun _ h => List.mem_cons_of_mem _ (List.mem_append_right _ (h))) hown hK hP 0 rfl rfl 9 (by decide) (hts (.fieldLink RX4 32 "OptionWireModel" "said" "[I") (List.mem_of_getElem? (i := 2) rfl)) (fun _ h9 => h9) rfl dX4_allowed_43 ?_
          refine lv_iconst (v := 4) hx hb dX4_allowed_46 (by decide) ?_
          refine lv_iload_n hx hb dX4_allowed_47 rfl (lv_at hl 1 rfl) ?_
          refine lv_imul hx hb dX4_allowed_48 ?_
          refine z_top (y := (nI (4 * ix))) (z_mul 4 ix) ?_
          refine lv_iload_n hx hb dX4_allowed_49 rfl (lv_at hl 2 rfl) ?_
          refine lv_iadd hx hb dX4_allowed_50 ?_
          refine z_top (y := (nI (4 * ix + k))) (z_add (4 * ix) k) ?_
          refine z_iald (k := (4 * ix + k)) (v := (f k)) hx hb hK hP 2 0 rfl rfl rfl (by omega) (by decide) (bk_x (by omega)) dX4_allowed_51 ?_
          refine lv_goto (tgt := 56) hx hb dX4_allowed_52 (by decide) ?_
          refine W.widen (k := 0) (n := 0) (by omega) (by omega) ?_
          exact W.iret (v := (f k)) hx hb hr (fun t ht hW => ⟨⟨f k, ((upd mm 6 0)), rfl, ⟨rfl, by simp [h_1, h_3, c_5, c_6]⟩, ⟨by rw [ht]; exact hP, by rw [hAe]; exact hD⟩⟩, hS.F ht⟩) hS.2.2 dX4_allowed_56
    · exact absurd rfl h_3
  · exact absurd ⟨inr_ix hix, inr_k hk⟩ h_1
set_option maxHeartbeats 4000000 in
set_option maxRecDepth 100000 in
theorem c_X4_allowed_b (l : Launch) (D : va_G) (cA : Nat → ClassId) (sz : Nat) (b : Nat → Nat) (mm : Nat → Int32) (n o : Int32) (hn : ¬ (inr n 0 1 ∧ inr o 0 3)) : Met l yX4_allowed wsX4_allowed ({ frames := 3, cells := 0, slots := 0, locals := 63 }) (va_Pc [.ref (b 0), .int n, .int o] (zU D cA sz [cM b mm])) (va_Qi (fun (r : Int32) (u : (Nat → Int32)) => u = upd mm 6 1) (fun (u : (Nat → Int32)) t => zB D [cM b mm] sz [cM b u] t) (va_A [cM b mm] sz)) 0 0 (va_A [cM b mm] sz) := by
  refine Met.ofW (cc := cX4_allowed) (maxL := 3) (ret := (some .int)) (by decide) rfl ?_
  intro p e s m args below meth c s₁ B hml hv
  obtain ⟨rfl, hsz, hP, hK, hD0⟩ := hv
  have hx := B.exec
  have hb := B.bytes
  have hr := B.returns
  have hts := atoms_spec (ws := wsX4_allowed) B.pre
  have hown : s.vm.findClass RX4 = some m.cls := findClass_of_methodNamed B.named
  have hlocks := B.notSynchronized
  subst hsz
  have hD := hD0.self (sz := s.heap.size)
  generalize hAe : va_A [cM b mm] s.heap.size = A at hD ⊢
  have hA : ∀ q : Nat, s.heap.size ≤ q → A q := fun q h => by rw [← hAe]; exact Or.inr h
  have hS : va_S A s.heap s.heap [] := va_S.rf
  have hl := lv_entry ([.ref (b 0), .int n, .int o]) (n := 3) (Nat.le_of_ble_eq_true rfl)
  rw [lg_entry_eq]
  generalize (lg_sl ([.ref (b 0), .int n, .int o]) ++ List.replicate (3 - (lg_sl ([.ref (b 0), .int n, .int o])).length) Slot.unset).toArray = ls at hl ⊢
  have hl : lv_has ls 3 [(0, .ref (b 0)), (1, .int n), (2, .int o)] := hl
  refine lv_aload_n hx hb dX4_allowed_0 rfl (lv_at hl 0 rfl) ?_
  refine lv_iload_n hx hb dX4_allowed_1 rfl (lv_at hl 1 rfl) ?_
  refine lv_iload_n hx hb dX4_allowed_2 rfl (lv_at hl 2 rfl) ?_
  have hPc := hP.sub (ws' := []) [] rfl
  have hDc := hD.sub (ws' := []) [] (by decide) rfl
  have hFc := va_free (wc := []) hD hS hA [] rfl
  refine va_calli (va_runS (As := [.int n, .int o]) (rest := [.ref (b 0)]) ⟨hx, hb, hml, hown, hts⟩ (c_X4_isOption l D cA s.heap.size n o) (va_cwS 2 hts gX4_allowed_X4_isOption rfl rfl rfl (by decide +kernel) ⟨Nat.le_of_ble_eq_true rfl, Nat.le_of_ble_eq_true rfl⟩) ⟨zU_blind, fun U hU hW => ⟨rfl, zU_call hU hPc hW.alike hK hDc⟩⟩ rfl rfl hl.1 rfl (lv_room (Nat.le_of_ble_eq_true rfl)) dX4_allowed_3 ⟨(Nat.zero_le _), (Nat.zero_le _)⟩) hS (fun q _ h => hFc q h) hFc (fun zr u t H1 locs ht hvm hw hB hz1 hk1 hS => ?_)
  obtain ⟨hP1, hD1⟩ := hB
  rw [ht] at hP1
  obtain ⟨hP, hD⟩ := va_join (wr := [cM b mm]) (w1 := []) hP hD [] [0] rfl rfl (by decide) (by decide) hk1 hFc hP1 hD1
  generalize H1 = H at hP hS ⊢
  have hP := hP.sub (ws' := [cM b mm]) [0] rfl
  have hD := hD.sub (ws' := [cM b mm]) [0] (by decide) rfl
  clear hPc hDc hFc hP1 hD1 hk1 hz1
  have hw_1 := hw
  rcases z_bool hw with ⟨h_1, rfl⟩ | ⟨h_1, rfl⟩
  · exact absurd h_1 hn
  · skip
    refine lv_if_eq (tgt := 13) hx hb dX4_allowed_6 (by decide) (fun _ => ?_) (fun c_2 => absurd c_2 (by decide))
    refine lv_iconst (v := 1) hx hb dX4_allowed_13 (by decide) ?_
    have hPc := hP.sub (ws' := [cM b mm]) [0] rfl
    have hDc := hD.sub (ws' := [cM b mm]) [0] (by decide) rfl
    have hFc := va_free (wc := [cM b mm]) hD hS hA [0] rfl
    refine va_calli (va_runV (As := [.int 1]) (rest := []) ⟨hx, hb, hml, hown, hts⟩ (c_X4_can l D cA H.size b mm 1) (cwV 1 hts gX4_allowed_X4_can rfl rfl rfl (by decide +kernel) ⟨Nat.le_of_ble_eq_true rfl, Nat.le_of_ble_eq_true rfl⟩) ⟨zU_blind, va_recv hK hPc (ci := 6) (q0 := 0) rfl rfl, fun U hU hW => ⟨rfl, zU_call hU hPc hW.alike hK hDc⟩⟩ rfl rfl hl.1 rfl (lv_room (Nat.le_of_ble_eq_true rfl)) dX4_allowed_14 ⟨(Nat.zero_le _), (Nat.zero_le _)⟩) hS (fun q _ h => hFc q h) hFc (fun zr u t H1 locs ht hvm hw hB hz1 hk1 hS => ?_)
    obtain ⟨mm'_3, rfl⟩ : ∃ z, z = u := ⟨_, rfl⟩
    obtain ⟨hP1, hD1⟩ := hB
    rw [ht] at hP1
    try dsimp only at hw hP1 hD1
    obtain ⟨hP, hD⟩ := va_join (wr := []) (w1 := [cM b mm'_3]) hP hD [0] [] rfl rfl (by decide) (by decide) hk1 hFc hP1 hD1
    generalize H1 = H at hP hS ⊢
    have hP := hP.sub (ws' := [cM b mm'_3]) [0] rfl
    have hD := hD.sub (ws' := [cM b mm'_3]) [0] (by decide) rfl
    clear hPc hDc hFc hP1 hD1 hk1 hz1
    obtain ⟨rfl, hw⟩ := hw
    have hw_3 := hw
    rcases z_bool hw with ⟨h_3, rfl⟩ | ⟨h_3, rfl⟩
    · exact absurd h_3 (by decide)
    · skip
      refine lv_if_ne (tgt := 22) hx hb dX4_allowed_17 (by decide) (fun c_4 => absurd c_4 (by decide)) (fun _ => ?_)
      refine lv_iconst (v := 0) hx hb dX4_allowed_20 (by decide) ?_
      refine W.widen (k := 0) (n := 0) (by omega) (by omega) ?_
      exact W.iret (v := 0) hx hb hr (fun t ht hW => ⟨⟨0, ((upd mm 6 1)), rfl, rfl, ⟨by rw [ht]; exact hP, by rw [hAe]; exact hD⟩⟩, hS.F ht⟩) hS.2.2 dX4_allowed_21
set_option maxHeartbeats 4000000 in
set_option maxRecDepth 100000 in
theorem c_X4_kindAt_k (l : Launch) (D : va_G) (cA : Nat → ClassId) (sz : Nat) (b : Nat → Nat) (mm : Nat → Int32) (ix : Nat) (QX QY : Qt) (k : Nat) (hix : ix ≤ 1) (hqx : QX.1 ≤ 12) (hqy : QY.1 ≤ 12) (hk : k < QX.1) : Met l yX4_kindAt wsX4_kindAt ({ frames := 2, cells := 0, slots := 0, locals := 42 }) (va_Pc [.ref (b 0), .int (nI ix), .int (nI k)] (zU D cA sz [cM b mm, (b 16, .inl (cA 0, 2, .inl (t2 ix (nI QX.1) (nI QY.1)))), (b 17, .inl (cA 0, 24, .inl (bk 12 ix (qc QX 0) (qc QY 0))))])) (va_Qi (fun (r : Int32) (u : (Nat → Int32)) => u = upd mm 6 0 ∧ r = QX.2 k 0) (fun (u : (Nat → Int32)) t => zB D [cM b mm, (b 16, .inl (cA 0, 2, .inl (t2 ix (nI QX.1) (nI QY.1)))), (b 17, .inl (cA 0, 24, .inl (bk 12 ix (qc QX 0) (qc QY 0))))] sz [cM b u, (b 16, .inl (cA 0, 2, .inl (t2 ix (nI QX.1) (nI QY.1)))), (b 17, .inl (cA 0, 24, .inl (bk 12 ix (qc QX 0) (qc QY 0))))] t) (va_A [cM b mm, (b 16, .inl (cA 0, 2, .inl (t2 ix (nI QX.1) (nI QY.1)))), (b 17, .inl (cA 0, 24, .inl (bk 12 ix (qc QX 0) (qc QY 0))))] sz)) 0 0 (va_A [cM b mm, (b 16, .inl (cA 0, 2, .inl (t2 ix (nI QX.1) (nI QY.1)))), (b 17, .inl (cA 0, 24, .inl (bk 12 ix (qc QX 0) (qc QY 0))))] sz) := by
  refine Met.ofW (cc := cX4_kindAt) (maxL := 3) (ret := (some .int)) (by decide) rfl ?_
  intro p e s m args below meth c s₁ B hml hv
  obtain ⟨rfl, hsz, hP, hK, hD0⟩ := hv
  have hx := B.exec
  have hb := B.bytes
  have hr := B.returns
  have hts := atoms_spec (ws := wsX4_kindAt) B.pre
  have hown : s.vm.findClass RX4 = some m.cls := findClass_of_methodNamed B.named
  have hlocks := B.notSynchronized
  subst hsz
  have hD := hD0.self (sz := s.heap.size)
  generalize hAe : va_A [cM b mm, (b 16, .inl (cA 0, 2, .inl (t2 ix (nI QX.1) (nI QY.1)))), (b 17, .inl (cA 0, 24, .inl (bk 12 ix (qc QX 0) (qc QY 0))))] s.heap.size = A at hD ⊢
  have hA : ∀ q : Nat, s.heap.size ≤ q → A q := fun q h => by rw [← hAe]; exact Or.inr h
  have hS : va_S A s.heap s.heap [] := va_S.rf
  have hl := lv_entry ([.ref (b 0), .int (nI ix), .int (nI k)]) (n := 3) (Nat.le_of_ble_eq_true rfl)
  rw [lg_entry_eq]
  generalize (lg_sl ([.ref (b 0), .int (nI ix), .int (nI k)]) ++ List.replicate (3 - (lg_sl ([.ref (b 0), .int (nI ix), .int (nI k)])).length) Slot.unset).toArray = ls at hl ⊢
  have hl : lv_has ls 3 [(0, .ref (b 0)), (1, .int (nI ix)), (2, .int (nI k))] := hl
  refine lv_aload_n hx hb dX4_kindAt_0 rfl (lv_at hl 0 rfl) ?_
  refine lv_iload_n hx hb dX4_kindAt_1 rfl (lv_at hl 1 rfl) ?_
  have hPc := hP.sub (ws' := []) [] rfl
  have hDc := hD.sub (ws' := []) [] (by decide) rfl
  have hFc := va_free (wc := []) hD hS hA [] rfl
  refine va_calli (va_runS (As := [.int (nI ix)]) (rest := [.ref (b 0)]) ⟨hx, hb, hml, hown, hts⟩ (c_X4_isEnd l D cA s.heap.size (nI ix)) (va_cwS 1 hts gX4_kindAt_X4_isEnd rfl rfl rfl (by decide +kernel) ⟨Nat.le_of_ble_eq_true rfl, Nat.le_of_ble_eq_true rfl⟩) ⟨zU_blind, fun U hU hW => ⟨rfl, zU_call hU hPc hW.alike hK hDc⟩⟩ rfl rfl hl.1 rfl (lv_room (Nat.le_of_ble_eq_true rfl)) dX4_kindAt_2 ⟨(Nat.zero_le _), (Nat.zero_le _)⟩) hS (fun q _ h => hFc q h) hFc (fun zr u t H1 locs ht hvm hw hB hz1 hk1 hS => ?_)
  obtain ⟨hP1, hD1⟩ := hB
  rw [ht] at hP1
  obtain ⟨hP, hD⟩ := va_join (wr := [cM b mm, (b 16, .inl (cA 0, 2, .inl (t2 ix (nI QX.1) (nI QY.1)))), (b 17, .inl (cA 0, 24, .inl (bk 12 ix (qc QX 0) (qc QY 0))))]) (w1 := []) hP hD [] [0, 1, 2] rfl rfl (by decide) (by decide) hk1 hFc hP1 hD1
  generalize H1 = H at hP hS ⊢
  have hP := hP.sub (ws' := [cM b mm, (b 16, .inl (cA 0, 2, .inl (t2 ix (nI QX.1) (nI QY.1)))), (b 17, .inl (cA 0, 24, .inl (bk 12 ix (qc QX 0) (qc QY 0))))]) [0, 1, 2] rfl
  have hD := hD.sub (ws' := [cM b mm, (b 16, .inl (cA 0, 2, .inl (t2 ix (nI QX.1) (nI QY.1)))), (b 17, .inl (cA 0, 24, .inl (bk 12 ix (qc QX 0) (qc QY 0))))]) [0, 1, 2] (by decide) rfl
  clear hPc hDc hFc hP1 hD1 hk1 hz1
  have hw_1 := hw
  rcases z_bool hw with ⟨h_1, rfl⟩ | ⟨h_1, rfl⟩
  · skip
    refine lv_if_ne (tgt := 12) hx hb dX4_kindAt_5 (by decide) (fun _ => ?_) (fun c_2 => absurd c_2 (by decide))
    refine lv_iload_n hx hb dX4_kindAt_12 rfl (lv_at hl 2 rfl) ?_
    refine lv_iconst (v := 0) hx hb dX4_kindAt_13 (by decide) ?_
    refine lv_aload_n hx hb dX4_kindAt_14 rfl (lv_at hl 0 rfl) ?_
    refine va_get (D := D) (ci := 6) (v := .ref (b 16)) (C := RX4) (T := TX4) (N := 29) hx hb hts (fun _ h => List.mem_cons_of_mem _ (List.mem_append_right _ (h))) hown hK hP 0 rfl rfl 17 (by decide) (hts (.fieldLink RX4 56 "OptionWireModel" "many" "[I") (List.mem_of_getElem? (i := 1) rfl)) (fun _ h9 => h9) rfl dX4_kindAt_15 ?_
    refine lv_iload_n hx hb dX4_kindAt_18 rfl (lv_at hl 1 rfl) ?_
    refine z_iald (k := ix) (v := (nI QX.1)) hx hb hK hP 1 0 rfl rfl rfl (by omega) (by decide) t2_x dX4_kindAt_19 ?_
    refine lv_iconst (v := 1) hx hb dX4_kindAt_20 (by decide) ?_
    refine lv_isub hx hb dX4_kindAt_21 ?_
    have hPc := hP.sub (ws' := []) [] rfl
    have hDc := hD.sub (ws' := []) [] (by decide) rfl
    have hFc := va_free (wc := []) hD hS hA [] rfl
    refine va_calli (va_runS (As := [.int (nI k), .int 0, .int ((nI QX.1) - 1)]) (rest := [.ref (b 0)]) ⟨hx, hb, hml, hown, hts⟩ (c_X4_isIn l D cA H.size (nI k) 0 ((nI QX.1) - 1)) (va_cwS 3 hts gX4_kindAt_X4_isIn rfl rfl rfl (by decide +kernel) ⟨Nat.le_of_ble_eq_true rfl, Nat.le_of_ble_eq_true rfl⟩) ⟨zU_blind, fun U hU hW => ⟨rfl, zU_call hU hPc hW.alike hK hDc⟩⟩ rfl rfl hl.1 rfl (lv_room (Nat.le_of_ble_eq_true rfl)) dX4_kindAt_22 ⟨(Nat.zero_le _), (Nat.zero_le _)⟩) hS (fun q _ h => hFc q h) hFc (fun zr u t H1 locs ht hvm hw hB hz1 hk1 hS => ?_)
    obtain ⟨hP1, hD1⟩ := hB
    rw [ht] at hP1
    obtain ⟨hP, hD⟩ := va_join (wr := [cM b mm, (b 16, .inl (cA 0, 2, .inl (t2 ix (nI QX.1) (nI QY.1)))), (b 17, .inl (cA 0, 24, .inl (bk 12 ix (qc QX 0) (qc QY 0))))]) (w1 := []) hP hD [] [0, 1, 2] rfl rfl (by decide) (by decide) hk1 hFc hP1 hD1
    generalize H1 = H at hP hS ⊢
    have hP := hP.sub (ws' := [cM b mm, (b 16, .inl (cA 0, 2, .inl (t2 ix (nI QX.1) (nI QY.1)))), (b 17, .inl (cA 0, 24, .inl (bk 12 ix (qc QX 0) (qc QY 0))))]) [0, 1, 2] rfl
    have hD := hD.sub (ws' := [cM b mm, (b 16, .inl (cA 0, 2, .inl (t2 ix (nI QX.1) (nI QY.1)))), (b 17, .inl (cA 0, 24, .inl (bk 12 ix (qc QX 0) (qc QY 0))))]) [0, 1, 2] (by decide) rfl
    clear hPc hDc hFc hP1 hD1 hk1 hz1
    have hw_3 := hw
    rcases z_bool hw with ⟨h_3, rfl⟩ | ⟨h_3, rfl⟩
    · skip
      refine lv_if_eq (tgt := 32) hx hb dX4_kindAt_25 (by decide) (fun c_4 => absurd c_4 (by decide)) (fun _ => ?_)
      refine lv_iconst (v := 0) hx hb dX4_kindAt_28 (by decide) ?_
      refine lv_goto (tgt := 33) hx hb dX4_kindAt_29 (by decide) ?_
      have hPc := hP.sub (ws' := [cM b mm]) [0] rfl
      have hDc := hD.sub (ws' := [cM b mm]) [0] (by decide) rfl
      have hFc := va_free (wc := [cM b mm]) hD hS hA [0] rfl
      refine va_calli (va_runV (As := [.int 0]) (rest := []) ⟨hx, hb, hml, hown, hts⟩ (c_X4_can l D cA H.size b mm 0) (cwV 1 hts gX4_kindAt_X4_can rfl rfl rfl (by decide +kernel) ⟨Nat.le_of_ble_eq_true rfl, Nat.le_of_ble_eq_true rfl⟩) ⟨zU_blind, va_recv hK hPc (ci := 6) (q0 := 0) rfl rfl, fun U hU hW => ⟨rfl, zU_call hU hPc hW.alike hK hDc⟩⟩ rfl rfl hl.1 rfl (lv_room (Nat.le_of_ble_eq_true rfl)) dX4_kindAt_33 ⟨(Nat.zero_le _), (Nat.zero_le _)⟩) hS (fun q _ h => hFc q h) hFc (fun zr u t H1 locs ht hvm hw hB hz1 hk1 hS => ?_)
      obtain ⟨mm'_5, rfl⟩ : ∃ z, z = u := ⟨_, rfl⟩
      obtain ⟨hP1, hD1⟩ := hB
      rw [ht] at hP1
      try dsimp only at hw hP1 hD1
      obtain ⟨hP, hD⟩ := va_join (wr := [(b 16, .inl (cA 0, 2, .inl (t2 ix (nI QX.1) (nI QY.1)))), (b 17, .inl (cA 0, 24, .inl (bk 12 ix (qc QX 0) (qc QY 0))))]) (w1 := [cM b mm'_5]) hP hD [0] [1, 2] rfl rfl (by decide) (by decide) hk1 hFc hP1 hD1
      generalize H1 = H at hP hS ⊢
      have hP := hP.sub (ws' := [cM b mm'_5, (b 16, .inl (cA 0, 2, .inl (t2 ix (nI QX.1) (nI QY.1)))), (b 17, .inl (cA 0, 24, .inl (bk 12 ix (qc QX 0) (qc QY 0))))]) [2, 0, 1] rfl
      have hD := hD.sub (ws' := [cM b mm'_5, (b 16, .inl (cA 0, 2, .inl (t2 ix (nI QX.1) (nI QY.1)))), (b 17, .inl (cA 0, 24, .inl (bk 12 ix (qc QX 0) (qc QY 0))))]) [2, 0, 1] (by decide) rfl
      clear hPc hDc hFc hP1 hD1 hk1 hz1
      obtain ⟨rfl, hw⟩ := hw
      have hw_5 := hw
      rcases z_bool hw with ⟨h_5, rfl⟩ | ⟨h_5, rfl⟩
      · skip
        refine lv_if_eq (tgt := 53) hx hb dX4_kindAt_36 (by decide) (fun c_6 => absurd c_6 (by decide)) (fun _ => ?_)
        refine lv_aload_n hx hb dX4_kindAt_39 rfl (lv_at hl 0 rfl) ?_
        refine va_get (D := D) (ci := 6) (v := .ref (b 17)) (C := RX4) (T := TX4) (N := 29) hx hb hts (fun _ h => List.mem_cons_of_mem _ (List.mem_append_right _ (h))) hown hK hP 0 rfl rfl 18 (by decide) (hts (.fieldLink RX4 59 "OptionWireModel" "kind" "[I") (List.mem_of_getElem? (i := 2) rfl)) (fun _ h9 => h9) rfl dX4_kindAt_40 ?_
        refine lv_bipush (v := 12) hx hb dX4_kindAt_43 (by decide) ?_
        refine lv_iload_n hx hb dX4_kindAt_45 rfl (lv_at hl 1 rfl) ?_
        refine lv_imul hx hb dX4_kindAt_46 ?_
        refine z_top (y := (nI (12 * ix))) (z_mul 12 ix) ?_
        refine lv_iload_n hx hb dX4_kindAt_47 rfl (lv_at hl 2 rfl) ?_
        refine lv_iadd hx hb dX4_kindAt_48 ?_
        refine z_top (y := (nI (12 * ix + k))) (z_add (12 * ix) k) ?_
        refine z_iald (k := (12 * ix + k)) (v := ((qc QX 0) k)) hx hb hK hP 2 0 rfl rfl rfl (by omega) (by decide) (bk_x (by omega)) dX4_kindAt_49 ?_
        refine lv_goto (tgt := 54) hx hb dX4_kindAt_50 (by decide) ?_
        refine W.widen (k := 0) (n := 0) (by omega) (by omega) ?_
        exact W.iret (v := ((qc QX 0) k)) hx hb hr (fun t ht hW => ⟨⟨(qc QX 0) k, ((upd mm 6 0)), rfl, ⟨rfl, rfl⟩, ⟨by rw [ht]; exact hP, by rw [hAe]; exact hD⟩⟩, hS.F ht⟩) hS.2.2 dX4_kindAt_54
      · exact absurd rfl h_5
    · exact absurd (inr_pl hk hqx) h_3
  · exact absurd (inr_ix hix) h_1
set_option maxHeartbeats 4000000 in
set_option maxRecDepth 100000 in
theorem c_X4_kindAt_p (l : Launch) (D : va_G) (cA : Nat → ClassId) (sz : Nat) (b : Nat → Nat) (mm : Nat → Int32) (ix : Nat) (QX QY : Qt) (o : Int32) (hix : ix ≤ 1) (hqx : QX.1 ≤ 12) (hqy : QY.1 ≤ 12) (hp : ¬ inr o 0 (nI QX.1 - 1)) : Met l yX4_kindAt wsX4_kindAt ({ frames := 2, cells := 0, slots := 0, locals := 42 }) (va_Pc [.ref (b 0), .int (nI ix), .int o] (zU D cA sz [cM b mm, (b 16, .inl (cA 0, 2, .inl (t2 ix (nI QX.1) (nI QY.1))))])) (va_Qi (fun (r : Int32) (u : (Nat → Int32)) => u = upd mm 6 2) (fun (u : (Nat → Int32)) t => zB D [cM b mm, (b 16, .inl (cA 0, 2, .inl (t2 ix (nI QX.1) (nI QY.1))))] sz [cM b u, (b 16, .inl (cA 0, 2, .inl (t2 ix (nI QX.1) (nI QY.1))))] t) (va_A [cM b mm, (b 16, .inl (cA 0, 2, .inl (t2 ix (nI QX.1) (nI QY.1))))] sz)) 0 0 (va_A [cM b mm, (b 16, .inl (cA 0, 2, .inl (t2 ix (nI QX.1) (nI QY.1))))] sz) := by
  refine Met.ofW (cc := cX4_kindAt) (maxL := 3) (ret := (some .int)) (by decide) rfl ?_
  intro p e s m args below meth c s₁ B hml hv
  obtain ⟨rfl, hsz, hP, hK, hD0⟩ := hv
  have hx := B.exec
  have hb := B.bytes
  have hr := B.returns
  have hts := atoms_spec (ws := wsX4_kindAt) B.pre
  have hown : s.vm.findClass RX4 = some m.cls := findClass_of_methodNamed B.named
  have hlocks := B.notSynchronized
  subst hsz
  have hD := hD0.self (sz := s.heap.size)
  generalize hAe : va_A [cM b mm, (b 16, .inl (cA 0, 2, .inl (t2 ix (nI QX.1) (nI QY.1))))] s.heap.size = A at hD ⊢
  have hA : ∀ q : Nat, s.heap.size ≤ q → A q := fun q h => by rw [← hAe]; exact Or.inr h
  have hS : va_S A s.heap s.heap [] := va_S.rf
  have hl := lv_entry ([.ref (b 0), .int (nI ix), .int o]) (n := 3) (Nat.le_of_ble_eq_true rfl)
  rw [lg_entry_eq]
  generalize (lg_sl ([.ref (b 0), .int (nI ix), .int o]) ++ List.replicate (3 - (lg_sl ([.ref (b 0), .int (nI ix), .int o])).length) Slot.unset).toArray = ls at hl ⊢
  have hl : lv_has ls 3 [(0, .ref (b 0)), (1, .int (nI ix)), (2, .int o)] := hl
  refine lv_aload_n hx hb dX4_kindAt_0 rfl (lv_at hl 0 rfl) ?_
  refine lv_iload_n hx hb dX4_kindAt_1 rfl (lv_at hl 1 rfl) ?_
  have hPc := hP.sub (ws' := []) [] rfl
  have hDc := hD.sub (ws' := []) [] (by decide) rfl
  have hFc := va_free (wc := []) hD hS hA [] rfl
  refine va_calli (va_runS (As := [.int (nI ix)]) (rest := [.ref (b 0)]) ⟨hx, hb, hml, hown, hts⟩ (c_X4_isEnd l D cA s.heap.size (nI ix)) (va_cwS 1 hts gX4_kindAt_X4_isEnd rfl rfl rfl (by decide +kernel) ⟨Nat.le_of_ble_eq_true rfl, Nat.le_of_ble_eq_true rfl⟩) ⟨zU_blind, fun U hU hW => ⟨rfl, zU_call hU hPc hW.alike hK hDc⟩⟩ rfl rfl hl.1 rfl (lv_room (Nat.le_of_ble_eq_true rfl)) dX4_kindAt_2 ⟨(Nat.zero_le _), (Nat.zero_le _)⟩) hS (fun q _ h => hFc q h) hFc (fun zr u t H1 locs ht hvm hw hB hz1 hk1 hS => ?_)
  obtain ⟨hP1, hD1⟩ := hB
  rw [ht] at hP1
  obtain ⟨hP, hD⟩ := va_join (wr := [cM b mm, (b 16, .inl (cA 0, 2, .inl (t2 ix (nI QX.1) (nI QY.1))))]) (w1 := []) hP hD [] [0, 1] rfl rfl (by decide) (by decide) hk1 hFc hP1 hD1
  generalize H1 = H at hP hS ⊢
  have hP := hP.sub (ws' := [cM b mm, (b 16, .inl (cA 0, 2, .inl (t2 ix (nI QX.1) (nI QY.1))))]) [0, 1] rfl
  have hD := hD.sub (ws' := [cM b mm, (b 16, .inl (cA 0, 2, .inl (t2 ix (nI QX.1) (nI QY.1))))]) [0, 1] (by decide) rfl
  clear hPc hDc hFc hP1 hD1 hk1 hz1
  have hw_1 := hw
  rcases z_bool hw with ⟨h_1, rfl⟩ | ⟨h_1, rfl⟩
  · skip
    refine lv_if_ne (tgt := 12) hx hb dX4_kindAt_5 (by decide) (fun _ => ?_) (fun c_2 => absurd c_2 (by decide))
    refine lv_iload_n hx hb dX4_kindAt_12 rfl (lv_at hl 2 rfl) ?_
    refine lv_iconst (v := 0) hx hb dX4_kindAt_13 (by decide) ?_
    refine lv_aload_n hx hb dX4_kindAt_14 rfl (lv_at hl 0 rfl) ?_
    refine va_get (D := D) (ci := 6) (v := .ref (b 16)) (C := RX4) (T := TX4) (N := 29) hx hb hts (fun _ h => List.mem_cons_of_mem _ (List.mem_append_right _ (h))) hown hK hP 0 rfl rfl 17 (by decide) (hts (.fieldLink RX4 56 "OptionWireModel" "many" "[I") (List.mem_of_getElem? (i := 1) rfl)) (fun _ h9 => h9) rfl dX4_kindAt_15 ?_
    refine lv_iload_n hx hb dX4_kindAt_18 rfl (lv_at hl 1 rfl) ?_
    refine z_iald (k := ix) (v := (nI QX.1)) hx hb hK hP 1 0 rfl rfl rfl (by omega) (by decide) t2_x dX4_kindAt_19 ?_
    refine lv_iconst (v := 1) hx hb dX4_kindAt_20 (by decide) ?_
    refine lv_isub hx hb dX4_kindAt_21 ?_
    have hPc := hP.sub (ws' := []) [] rfl
    have hDc := hD.sub (ws' := []) [] (by decide) rfl
    have hFc := va_free (wc := []) hD hS hA [] rfl
    refine va_calli (va_runS (As := [.int o, .int 0, .int ((nI QX.1) - 1)]) (rest := [.ref (b 0)]) ⟨hx, hb, hml, hown, hts⟩ (c_X4_isIn l D cA H.size o 0 ((nI QX.1) - 1)) (va_cwS 3 hts gX4_kindAt_X4_isIn rfl rfl rfl (by decide +kernel) ⟨Nat.le_of_ble_eq_true rfl, Nat.le_of_ble_eq_true rfl⟩) ⟨zU_blind, fun U hU hW => ⟨rfl, zU_call hU hPc hW.alike hK hDc⟩⟩ rfl rfl hl.1 rfl (lv_room (Nat.le_of_ble_eq_true rfl)) dX4_kindAt_22 ⟨(Nat.zero_le _), (Nat.zero_le _)⟩) hS (fun q _ h => hFc q h) hFc (fun zr u t H1 locs ht hvm hw hB hz1 hk1 hS => ?_)
    obtain ⟨hP1, hD1⟩ := hB
    rw [ht] at hP1
    obtain ⟨hP, hD⟩ := va_join (wr := [cM b mm, (b 16, .inl (cA 0, 2, .inl (t2 ix (nI QX.1) (nI QY.1))))]) (w1 := []) hP hD [] [0, 1] rfl rfl (by decide) (by decide) hk1 hFc hP1 hD1
    generalize H1 = H at hP hS ⊢
    have hP := hP.sub (ws' := [cM b mm, (b 16, .inl (cA 0, 2, .inl (t2 ix (nI QX.1) (nI QY.1))))]) [0, 1] rfl
    have hD := hD.sub (ws' := [cM b mm, (b 16, .inl (cA 0, 2, .inl (t2 ix (nI QX.1) (nI QY.1))))]) [0, 1] (by decide) rfl
    clear hPc hDc hFc hP1 hD1 hk1 hz1
    have hw_3 := hw
    rcases z_bool hw with ⟨h_3, rfl⟩ | ⟨h_3, rfl⟩
    · exact absurd h_3 hp
    · skip
      refine lv_if_eq (tgt := 32) hx hb dX4_kindAt_25 (by decide) (fun _ => ?_) (fun c_4 => absurd c_4 (by decide))
      refine lv_iconst (v := 2) hx hb dX4_kindAt_32 (by decide) ?_
      have hPc := hP.sub (ws' := [cM b mm]) [0] rfl
      have hDc := hD.sub (ws' := [cM b mm]) [0] (by decide) rfl
      have hFc := va_free (wc := [cM b mm]) hD hS hA [0] rfl
      refine va_calli (va_runV (As := [.int 2]) (rest := []) ⟨hx, hb, hml, hown, hts⟩ (c_X4_can l D cA H.size b mm 2) (cwV 1 hts gX4_kindAt_X4_can rfl rfl rfl (by decide +kernel) ⟨Nat.le_of_ble_eq_true rfl, Nat.le_of_ble_eq_true rfl⟩) ⟨zU_blind, va_recv hK hPc (ci := 6) (q0 := 0) rfl rfl, fun U hU hW => ⟨rfl, zU_call hU hPc hW.alike hK hDc⟩⟩ rfl rfl hl.1 rfl (lv_room (Nat.le_of_ble_eq_true rfl)) dX4_kindAt_33 ⟨(Nat.zero_le _), (Nat.zero_le _)⟩) hS (fun q _ h => hFc q h) hFc (fun zr u t H1 locs ht hvm hw hB hz1 hk1 hS => ?_)
      obtain ⟨mm'_5, rfl⟩ : ∃ z, z = u := ⟨_, rfl⟩
      obtain ⟨hP1, hD1⟩ := hB
      rw [ht] at hP1
      try dsimp only at hw hP1 hD1
      obtain ⟨hP, hD⟩ := va_join (wr := [(b 16, .inl (cA 0, 2, .inl (t2 ix (nI QX.1) (nI QY.1))))]) (w1 := [cM b mm'_5]) hP hD [0] [1] rfl rfl (by decide) (by decide) hk1 hFc hP1 hD1
      generalize H1 = H at hP hS ⊢
      have hP := hP.sub (ws' := [cM b mm'_5, (b 16, .inl (cA 0, 2, .inl (t2 ix (nI QX.1) (nI QY.1))))]) [1, 0] rfl
      have hD := hD.sub (ws' := [cM b mm'_5, (b 16, .inl (cA 0, 2, .inl (t2 ix (nI QX.1) (nI QY.1))))]) [1, 0] (by decide) rfl
      clear hPc hDc hFc hP1 hD1 hk1 hz1
      obtain ⟨rfl, hw⟩ := hw
      have hw_5 := hw
      rcases z_bool hw with ⟨h_5, rfl⟩ | ⟨h_5, rfl⟩
      · exact absurd h_5 (by decide)
      · skip
        refine lv_if_eq (tgt := 53) hx hb dX4_kindAt_36 (by decide) (fun _ => ?_) (fun c_6 => absurd c_6 (by decide))
        refine lv_iconst (v := 0) hx hb dX4_kindAt_53 (by decide) ?_
        refine W.widen (k := 0) (n := 0) (by omega) (by omega) ?_
        exact W.iret (v := 0) hx hb hr (fun t ht hW => ⟨⟨0, ((upd mm 6 2)), rfl, rfl, ⟨by rw [ht]; exact hP, by rw [hAe]; exact hD⟩⟩, hS.F ht⟩) hS.2.2 dX4_kindAt_54
  · exact absurd (inr_ix hix) h_1
set_option maxHeartbeats 4000000 in
set_option maxRecDepth 100000 in
theorem c_X4_kindAt_b (l : Launch) (D : va_G) (cA : Nat → ClassId) (sz : Nat) (b : Nat → Nat) (mm : Nat → Int32) (n : Int32) (o : Int32) (hn : ¬ inr n 0 1) : Met l yX4_kindAt wsX4_kindAt ({ frames := 2, cells := 0, slots := 0, locals := 42 }) (va_Pc [.ref (b 0), .int n, .int o] (zU D cA sz [cM b mm])) (va_Qi (fun (r : Int32) (u : (Nat → Int32)) => u = upd mm 6 1) (fun (u : (Nat → Int32)) t => zB D [cM b mm] sz [cM b u] t) (va_A [cM b mm] sz)) 0 0 (va_A [cM b mm] sz) := by
  refine Met.ofW (cc := cX4_kindAt) (maxL := 3) (ret := (some .int)) (by decide) rfl ?_
  intro p e s m args below meth c s₁ B hml hv
  obtain ⟨rfl, hsz, hP, hK, hD0⟩ := hv
  have hx := B.exec
  have hb := B.bytes
  have hr := B.returns
  have hts := atoms_spec (ws := wsX4_kindAt) B.pre
  have hown : s.vm.findClass RX4 = some m.cls := findClass_of_methodNamed B.named
  have hlocks := B.notSynchronized
  subst hsz
  have hD := hD0.self (sz := s.heap.size)
  generalize hAe : va_A [cM b mm] s.heap.size = A at hD ⊢
  have hA : ∀ q : Nat, s.heap.size ≤ q → A q := fun q h => by rw [← hAe]; exact Or.inr h
  have hS : va_S A s.heap s.heap [] := va_S.rf
  have hl := lv_entry ([.ref (b 0), .int n, .int o]) (n := 3) (Nat.le_of_ble_eq_true rfl)
  rw [lg_entry_eq]
  generalize (lg_sl ([.ref (b 0), .int n, .int o]) ++ List.replicate (3 - (lg_sl ([.ref (b 0), .int n, .int o])).length) Slot.unset).toArray = ls at hl ⊢
  have hl : lv_has ls 3 [(0, .ref (b 0)), (1, .int n), (2, .int o)] := hl
  refine lv_aload_n hx hb dX4_kindAt_0 rfl (lv_at hl 0 rfl) ?_
  refine lv_iload_n hx hb dX4_kindAt_1 rfl (lv_at hl 1 rfl) ?_
  have hPc := hP.sub (ws' := []) [] rfl
  have hDc := hD.sub (ws' := []) [] (by decide) rfl
  have hFc := va_free (wc := []) hD hS hA [] rfl
  refine va_calli (va_runS (As := [.int n]) (rest := [.ref (b 0)]) ⟨hx, hb, hml, hown, hts⟩ (c_X4_isEnd l D cA s.heap.size n) (va_cwS 1 hts gX4_kindAt_X4_isEnd rfl rfl rfl (by decide +kernel) ⟨Nat.le_of_ble_eq_true rfl, Nat.le_of_ble_eq_true rfl⟩) ⟨zU_blind, fun U hU hW => ⟨rfl, zU_call hU hPc hW.alike hK hDc⟩⟩ rfl rfl hl.1 rfl (lv_room (Nat.le_of_ble_eq_true rfl)) dX4_kindAt_2 ⟨(Nat.zero_le _), (Nat.zero_le _)⟩) hS (fun q _ h => hFc q h) hFc (fun zr u t H1 locs ht hvm hw hB hz1 hk1 hS => ?_)
  obtain ⟨hP1, hD1⟩ := hB
  rw [ht] at hP1
  obtain ⟨hP, hD⟩ := va_join (wr := [cM b mm]) (w1 := []) hP hD [] [0] rfl rfl (by decide) (by decide) hk1 hFc hP1 hD1
  generalize H1 = H at hP hS ⊢
  have hP := hP.sub (ws' := [cM b mm]) [0] rfl
  have hD := hD.sub (ws' := [cM b mm]) [0] (by decide) rfl
  clear hPc hDc hFc hP1 hD1 hk1 hz1
  have hw_1 := hw
  rcases z_bool hw with ⟨h_1, rfl⟩ | ⟨h_1, rfl⟩
  · exact absurd h_1 hn
  · skip
    refine lv_if_ne (tgt := 12) hx hb dX4_kindAt_5 (by decide) (fun c_2 => absurd c_2 (by decide)) (fun _ => ?_)
    refine lv_iconst (v := 1) hx hb dX4_kindAt_8 (by decide) ?_
    refine lv_goto (tgt := 33) hx hb dX4_kindAt_9 (by decide) ?_
    have hPc := hP.sub (ws' := [cM b mm]) [0] rfl
    have hDc := hD.sub (ws' := [cM b mm]) [0] (by decide) rfl
    have hFc := va_free (wc := [cM b mm]) hD hS hA [0] rfl
    refine va_calli (va_runV (As := [.int 1]) (rest := []) ⟨hx, hb, hml, hown, hts⟩ (c_X4_can l D cA H.size b mm 1) (cwV 1 hts gX4_kindAt_X4_can rfl rfl rfl (by decide +kernel) ⟨Nat.le_of_ble_eq_true rfl, Nat.le_of_ble_eq_true rfl⟩) ⟨zU_blind, va_recv hK hPc (ci := 6) (q0 := 0) rfl rfl, fun U hU hW => ⟨rfl, zU_call hU hPc hW.alike hK hDc⟩⟩ rfl rfl hl.1 rfl (lv_room (Nat.le_of_ble_eq_true rfl)) dX4_kindAt_33 ⟨(Nat.zero_le _), (Nat.zero_le _)⟩) hS (fun q _ h => hFc q h) hFc (fun zr u t H1 locs ht hvm hw hB hz1 hk1 hS => ?_)
    obtain ⟨mm'_3, rfl⟩ : ∃ z, z = u := ⟨_, rfl⟩
    obtain ⟨hP1, hD1⟩ := hB
    rw [ht] at hP1
    try dsimp only at hw hP1 hD1
    obtain ⟨hP, hD⟩ := va_join (wr := []) (w1 := [cM b mm'_3]) hP hD [0] [] rfl rfl (by decide) (by decide) hk1 hFc hP1 hD1
    generalize H1 = H at hP hS ⊢
    have hP := hP.sub (ws' := [cM b mm'_3]) [0] rfl
    have hD := hD.sub (ws' := [cM b mm'_3]) [0] (by decide) rfl
    clear hPc hDc hFc hP1 hD1 hk1 hz1
    obtain ⟨rfl, hw⟩ := hw
    have hw_3 := hw
    rcases z_bool hw with ⟨h_3, rfl⟩ | ⟨h_3, rfl⟩
    · exact absurd h_3 (by decide)
    · skip
      refine lv_if_eq (tgt := 53) hx hb dX4_kindAt_36 (by decide) (fun _ => ?_) (fun c_4 => absurd c_4 (by decide))
      refine lv_iconst (v := 0) hx hb dX4_kindAt_53 (by decide) ?_
      refine W.widen (k := 0) (n := 0) (by omega) (by omega) ?_
      exact W.iret (v := 0) hx hb hr (fun t ht hW => ⟨⟨0, ((upd mm 6 1)), rfl, rfl, ⟨by rw [ht]; exact hP, by rw [hAe]; exact hD⟩⟩, hS.F ht⟩) hS.2.2 dX4_kindAt_54
set_option maxHeartbeats 4000000 in
set_option maxRecDepth 100000 in
theorem c_X4_loop_k (l : Launch) (D : va_G) (cA : Nat → ClassId) (sz : Nat) (b : Nat → Nat) (mm : Nat → Int32) (o : Int32) (ho : o = 0 ∨ o = 1) (hm0 : mm 0 = 0 ∨ mm 0 = 1) : Met l yX4_loop wsX4_loop ({ frames := 0, cells := 0, slots := 0, locals := 0 }) (va_Pc [.ref (b 0), .int o] (zU D cA sz [cM b mm])) (va_Qi (fun (r : Int32) (u : (Nat → Int32)) => u = upd (upd mm 6 0) 0 o ∧ r = mm 0) (fun (u : (Nat → Int32)) t => zB D [cM b mm] sz [cM b u] t) (va_A [cM b mm] sz)) 0 0 (va_A [cM b mm] sz) := by
  refine Met.ofW (cc := cX4_loop) (maxL := 3) (ret := (some .boolean)) (by decide) rfl ?_
  intro p e s m args below meth c s₁ B hml hv
  obtain ⟨rfl, hsz, hP, hK, hD0⟩ := hv
  have hx := B.exec
  have hb := B.bytes
  have hr := B.returns
  have hts := atoms_spec (ws := wsX4_loop) B.pre
  have hown : s.vm.findClass RX4 = some m.cls := findClass_of_methodNamed B.named
  have hlocks := B.notSynchronized
  subst hsz
  have hD := hD0.self (sz := s.heap.size)
  generalize hAe : va_A [cM b mm] s.heap.size = A at hD ⊢
  have hA : ∀ q : Nat, s.heap.size ≤ q → A q := fun q h => by rw [← hAe]; exact Or.inr h
  have hS : va_S A s.heap s.heap [] := va_S.rf
  have hl := lv_entry ([.ref (b 0), .int o]) (n := 3) (Nat.le_of_ble_eq_true rfl)
  rw [lg_entry_eq]
  generalize (lg_sl ([.ref (b 0), .int o]) ++ List.replicate (3 - (lg_sl ([.ref (b 0), .int o])).length) Slot.unset).toArray = ls at hl ⊢
  have hl : lv_has ls 3 [(0, .ref (b 0)), (1, .int o)] := hl
  refine lv_aload_n hx hb dX4_loop_0 rfl (lv_at hl 0 rfl) ?_
  refine lv_iconst (v := 0) hx hb dX4_loop_1 (by decide) ?_
  refine va_put (D := D) (ci := 6) (v := .int 0) (ty := .int) (C := RX4) (T := TX4) (N := 29) hx hb hts (fun _ h => List.mem_cons_of_mem _ (List.mem_append_right _ (h))) tyX4 tyX4_ok nmX4 hown hK hP hD hS 0 rfl rfl 28 (by decide) (hts (.fieldLink RX4 77 "OptionWireModel" "thrown" "I") (List.mem_of_getElem? (i := 1) rfl)) (fun _ h9 => h9) rfl (by decide +kernel) rfl rfl (Nat.le_of_ble_eq_true rfl) dX4_loop_2 (fun H locs hP hD hS => ?_)
  have hP : va_P D vwCl [cM b (upd mm 6 0)] H := hP
  have hD : va_D A [cM b (upd mm 6 0)] := hD
  refine lv_aload_n hx hb dX4_loop_5 rfl (lv_at hl 0 rfl) ?_
  refine va_get (D := D) (ci := 6) (v := .int (mm 0)) (C := RX4) (T := TX4) (N := 29) hx hb hts (fun _ h => List.mem_cons_of_mem _ (List.mem_append_right _ (h))) hown hK hP 0 rfl rfl 0 (by decide) (hts (.fieldLink RX4 102 "OptionWireModel" "isLooped" "Z") (List.mem_of_getElem? (i := 2) rfl)) (fun _ h9 => h9) rfl dX4_loop_6 ?_
  refine lv_istore_n (lv' := [(2, .int (mm 0)), (0, .ref (b 0)), (1, .int o)]) hx hb dX4_loop_9 rfl hl (by decide) rfl (fun ls hl => ?_)
  refine lv_aload_n hx hb dX4_loop_10 rfl (lv_at hl 1 rfl) ?_
  refine lv_iload_n hx hb dX4_loop_11 rfl (lv_at hl 2 rfl) ?_
  refine va_put (D := D) (ci := 6) (v := .int o) (ty := .boolean) (C := RX4) (T := TX4) (N := 29) hx hb hts (fun _ h => List.mem_cons_of_mem _ (List.mem_append_right _ (h))) tyX4 tyX4_ok nmX4 hown hK hP hD hS 0 rfl rfl 0 (by decide) (hts (.fieldLink RX4 102 "OptionWireModel" "isLooped" "Z") (List.mem_of_getElem? (i := 2) rfl)) (fun _ h9 => h9) rfl (by decide +kernel) (narz ho) (fitz ho) (Nat.le_of_ble_eq_true rfl) dX4_loop_12 (fun H locs hP hD hS => ?_)
  have hP : va_P D vwCl [cM b (upd (upd mm 6 0) 0 o)] H := hP
  have hD : va_D A [cM b (upd (upd mm 6 0) 0 o)] := hD
  refine lv_iload_n hx hb dX4_loop_15 rfl (lv_at hl 0 rfl) ?_
  refine W.widen (k := 0) (n := 0) (by omega) (by omega) ?_
  exact W.zret (v := (mm 0)) hx hb hr (narz hm0) (fun t ht hW => ⟨⟨mm 0, ((upd (upd mm 6 0) 0 o)), rfl, ⟨rfl, rfl⟩, ⟨by rw [ht]; exact hP, by rw [hAe]; exact hD⟩⟩, hS.F ht⟩) hS.2.2 dX4_loop_16
set_option maxHeartbeats 4000000 in
set_option maxRecDepth 100000 in
theorem c_X4_wish_k (l : Launch) (D : va_G) (cA : Nat → ClassId) (sz : Nat) (b : Nat → Nat) (mm : Nat → Int32) (ix : Nat) (c1 c2 : Int32) (k : Nat) (wi le mo : Int32) (w0 w1 w2 y0 y1 y2 : Nat → Int32) (hix : ix ≤ 1) (hk : k < 4) (hsp : inr le 0 100 ∧ inr mo le 100) (hwi : wi = -1 ∨ inr wi le mo) (hsh : sSh c1) : Met l yX4_wish wsX4_wish ({ frames := 3, cells := 0, slots := 0, locals := 63 }) (va_Pc [.ref (b 0), .int (nI ix), .int (nI k), .int wi, .int le, .int mo] (zU D cA sz [cM b mm, (b 9, .inl (cA 0, 2, .inl (t2 ix c1 c2))), (b 1, .inl (cA 0, 8, .inl (bk 4 ix w0 y0))), (b 2, .inl (cA 0, 8, .inl (bk 4 ix w1 y1))), (b 3, .inl (cA 0, 8, .inl (bk 4 ix w2 y2)))])) (va_Qi (fun (r : Int32) (u : (Nat → Int32)) => u = upd mm 6 0 ∧ r = w0 k) (fun (u : (Nat → Int32)) t => zB D [cM b mm, (b 9, .inl (cA 0, 2, .inl (t2 ix c1 c2))), (b 1, .inl (cA 0, 8, .inl (bk 4 ix w0 y0))), (b 2, .inl (cA 0, 8, .inl (bk 4 ix w1 y1))), (b 3, .inl (cA 0, 8, .inl (bk 4 ix w2 y2)))] sz [cM b u, (b 9, .inl (cA 0, 2, .inl (t2 ix c1 c2))), (b 1, .inl (cA 0, 8, .inl (bk 4 ix (upd w0 k wi) y0))), (b 2, .inl (cA 0, 8, .inl (bk 4 ix (upd w1 k le) y1))), (b 3, .inl (cA 0, 8, .inl (bk 4 ix (upd w2 k mo) y2)))] t) (va_A [cM b mm, (b 9, .inl (cA 0, 2, .inl (t2 ix c1 c2))), (b 1, .inl (cA 0, 8, .inl (bk 4 ix w0 y0))), (b 2, .inl (cA 0, 8, .inl (bk 4 ix w1 y1))), (b 3, .inl (cA 0, 8, .inl (bk 4 ix w2 y2)))] sz)) 0 0 (va_A [cM b mm, (b 9, .inl (cA 0, 2, .inl (t2 ix c1 c2))), (b 1, .inl (cA 0, 8, .inl (bk 4 ix w0 y0))), (b 2, .inl (cA 0, 8, .inl (bk 4 ix w1 y1))), (b 3, .inl (cA 0, 8, .inl (bk 4 ix w2 y2)))] sz) := by
  refine Met.ofW (cc := cX4_wish) (maxL := 9) (ret := (some .int)) (by decide) rfl ?_
  intro p e s m args below meth c s₁ B hml hv
  obtain ⟨rfl, hsz, hP, hK, hD0⟩ := hv
  have hx := B.exec
  have hb := B.bytes
  have hr := B.returns
  have hts := atoms_spec (ws := wsX4_wish) B.pre
  have hown : s.vm.findClass RX4 = some m.cls := findClass_of_methodNamed B.named
  have hlocks := B.notSynchronized
  subst hsz
  have hD := hD0.self (sz := s.heap.size)
  generalize hAe : va_A [cM b mm, (b 9, .inl (cA 0, 2, .inl (t2 ix c1 c2))), (b 1, .inl (cA 0, 8, .inl (bk 4 ix w0 y0))), (b 2, .inl (cA 0, 8, .inl (bk 4 ix w1 y1))), (b 3, .inl (cA 0, 8, .inl (bk 4 ix w2 y2)))] s.heap.size = A at hD ⊢
  have hA : ∀ q : Nat, s.heap.size ≤ q → A q := fun q h => by rw [← hAe]; exact Or.inr h
  have hS : va_S A s.heap s.heap [] := va_S.rf
  have hl := lv_entry ([.ref (b 0), .int (nI ix), .int (nI k), .int wi, .int le, .int mo]) (n := 9) (Nat.le_of_ble_eq_true rfl)
  rw [lg_entry_eq]
  generalize (lg_sl ([.ref (b 0), .int (nI ix), .int (nI k), .int wi, .int le, .int mo]) ++ List.replicate (9 - (lg_sl ([.ref (b 0), .int (nI ix), .int (nI k), .int wi, .int le, .int mo])).length) Slot.unset).toArray = ls at hl ⊢
  have hl : lv_has ls 9 [(0, .ref (b 0)), (1, .int (nI ix)), (2, .int (nI k)), (3, .int wi), (4, .int le), (5, .int mo)] := hl
  refine lv_iload_n hx hb dX4_wish_0 rfl (lv_at hl 1 rfl) ?_
  refine lv_iload_n hx hb dX4_wish_1 rfl (lv_at hl 2 rfl) ?_
  have hPc := hP.sub (ws' := []) [] rfl
  have hDc := hD.sub (ws' := []) [] (by decide) rfl
  have hFc := va_free (wc := []) hD hS hA [] rfl
  refine va_calli (va_runS (As := [.int (nI ix), .int (nI k)]) (rest := []) ⟨hx, hb, hml, hown, hts⟩ (c_X4_isOption l D cA s.heap.size (nI ix) (nI k)) (va_cwS 2 hts gX4_wish_X4_isOption rfl rfl rfl (by decide +kernel) ⟨Nat.le_of_ble_eq_true rfl, Nat.le_of_ble_eq_true rfl⟩) ⟨zU_blind, fun U hU hW => ⟨rfl, zU_call hU hPc hW.alike hK hDc⟩⟩ rfl rfl hl.1 rfl (lv_room (Nat.le_of_ble_eq_true rfl)) dX4_wish_2 ⟨(Nat.zero_le _), (Nat.zero_le _)⟩) hS (fun q _ h => hFc q h) hFc (fun zr u t H1 locs ht hvm hw hB hz1 hk1 hS => ?_)
  obtain ⟨hP1, hD1⟩ := hB
  rw [ht] at hP1
  obtain ⟨hP, hD⟩ := va_join (wr := [cM b mm, (b 9, .inl (cA 0, 2, .inl (t2 ix c1 c2))), (b 1, .inl (cA 0, 8, .inl (bk 4 ix w0 y0))), (b 2, .inl (cA 0, 8, .inl (bk 4 ix w1 y1))), (b 3, .inl (cA 0, 8, .inl (bk 4 ix w2 y2)))]) (w1 := []) hP hD [] [0, 1, 2, 3, 4] rfl rfl (by decide) (by decide) hk1 hFc hP1 hD1
  generalize H1 = H at hP hS ⊢
  have hP := hP.sub (ws' := [cM b mm, (b 9, .inl (cA 0, 2, .inl (t2 ix c1 c2))), (b 1, .inl (cA 0, 8, .inl (bk 4 ix w0 y0))), (b 2, .inl (cA 0, 8, .inl (bk 4 ix w1 y1))), (b 3, .inl (cA 0, 8, .inl (bk 4 ix w2 y2)))]) [0, 1, 2, 3, 4] rfl
  have hD := hD.sub (ws' := [cM b mm, (b 9, .inl (cA 0, 2, .inl (t2 ix c1 c2))), (b 1, .inl (cA 0, 8, .inl (bk 4 ix w0 y0))), (b 2, .inl (cA 0, 8, .inl (bk 4 ix w1 y1))), (b 3, .inl (cA 0, 8, .inl (bk 4 ix w2 y2)))]) [0, 1, 2, 3, 4] (by decide) rfl
  clear hPc hDc hFc hP1 hD1 hk1 hz1
  have hw_1 := hw
  rcases z_bool hw with ⟨h_1, rfl⟩ | ⟨h_1, rfl⟩
  · skip
    refine lv_if_eq (tgt := 38) hx hb dX4_wish_5 (by decide) (fun c_2 => absurd c_2 (by decide)) (fun _ => ?_)
    refine lv_iload hx hb dX4_wish_8 (lv_at hl 4 rfl) ?_
    refine lv_iload hx hb dX4_wish_10 (lv_at hl 5 rfl) ?_
    have hPc := hP.sub (ws' := []) [] rfl
    have hDc := hD.sub (ws' := []) [] (by decide) rfl
    have hFc := va_free (wc := []) hD hS hA [] rfl
    refine va_calli (va_runS (As := [.int le, .int mo]) (rest := []) ⟨hx, hb, hml, hown, hts⟩ (c_X4_isSpan l D cA H.size le mo) (va_cwS 2 hts gX4_wish_X4_isSpan rfl rfl rfl (by decide +kernel) ⟨Nat.le_of_ble_eq_true rfl, Nat.le_of_ble_eq_true rfl⟩) ⟨zU_blind, fun U hU hW => ⟨rfl, zU_call hU hPc hW.alike hK hDc⟩⟩ rfl rfl hl.1 rfl (lv_room (Nat.le_of_ble_eq_true rfl)) dX4_wish_12 ⟨(Nat.zero_le _), (Nat.zero_le _)⟩) hS (fun q _ h => hFc q h) hFc (fun zr u t H1 locs ht hvm hw hB hz1 hk1 hS => ?_)
    obtain ⟨hP1, hD1⟩ := hB
    rw [ht] at hP1
    obtain ⟨hP, hD⟩ := va_join (wr := [cM b mm, (b 9, .inl (cA 0, 2, .inl (t2 ix c1 c2))), (b 1, .inl (cA 0, 8, .inl (bk 4 ix w0 y0))), (b 2, .inl (cA 0, 8, .inl (bk 4 ix w1 y1))), (b 3, .inl (cA 0, 8, .inl (bk 4 ix w2 y2)))]) (w1 := []) hP hD [] [0, 1, 2, 3, 4] rfl rfl (by decide) (by decide) hk1 hFc hP1 hD1
    generalize H1 = H at hP hS ⊢
    have hP := hP.sub (ws' := [cM b mm, (b 9, .inl (cA 0, 2, .inl (t2 ix c1 c2))), (b 1, .inl (cA 0, 8, .inl (bk 4 ix w0 y0))), (b 2, .inl (cA 0, 8, .inl (bk 4 ix w1 y1))), (b 3, .inl (cA 0, 8, .inl (bk 4 ix w2 y2)))]) [0, 1, 2, 3, 4] rfl
    have hD := hD.sub (ws' := [cM b mm, (b 9, .inl (cA 0, 2, .inl (t2 ix c1 c2))), (b 1, .inl (cA 0, 8, .inl (bk 4 ix w0 y0))), (b 2, .inl (cA 0, 8, .inl (bk 4 ix w1 y1))), (b 3, .inl (cA 0, 8, .inl (bk 4 ix w2 y2)))]) [0, 1, 2, 3, 4] (by decide) rfl
    clear hPc hDc hFc hP1 hD1 hk1 hz1
    have hw_3 := hw
    rcases z_bool hw with ⟨h_3, rfl⟩ | ⟨h_3, rfl⟩
    · skip
      refine lv_if_eq (tgt := 38) hx hb dX4_wish_15 (by decide) (fun c_4 => absurd c_4 (by decide)) (fun _ => ?_)
      refine lv_iload_n hx hb dX4_wish_18 rfl (lv_at hl 3 rfl) ?_
      refine lv_iconst (v := (-1)) hx hb dX4_wish_19 (by decide) ?_
      refine lv_icmp_eq (tgt := 34) hx hb dX4_wish_20 (by decide) (fun c_5 => ?_) (fun c_5 => ?_)
      · skip
        refine lv_iconst (v := 1) hx hb dX4_wish_34 (by decide) ?_
        refine lv_goto (tgt := 39) hx hb dX4_wish_35 (by decide) ?_
        refine lv_istore (lv' := [(6, .int 1), (0, .ref (b 0)), (1, .int (nI ix)), (2, .int (nI k)), (3, .int wi), (4, .int le), (5, .int mo)]) hx hb dX4_wish_39 hl (by decide) rfl (fun ls hl => ?_)
        refine lv_aload_n hx hb dX4_wish_41 rfl (lv_at hl 1 rfl) ?_
        refine lv_iload hx hb dX4_wish_42 (lv_at hl 0 rfl) ?_
        refine lv_if_ne (tgt := 51) hx hb dX4_wish_44 (by decide) (fun _ => ?_) (fun c_6 => absurd c_6 (by decide))
        refine lv_aload_n hx hb dX4_wish_51 rfl (lv_at hl 1 rfl) ?_
        refine lv_iload_n hx hb dX4_wish_52 rfl (lv_at hl 2 rfl) ?_
        have hPc := hP.sub (ws' := [cM b mm, (b 9, .inl (cA 0, 2, .inl (t2 ix c1 c2)))]) [0, 1] rfl
        have hDc := hD.sub (ws' := [cM b mm, (b 9, .inl (cA 0, 2, .inl (t2 ix c1 c2)))]) [0, 1] (by decide) rfl
        have hFc := va_free (wc := [cM b mm, (b 9, .inl (cA 0, 2, .inl (t2 ix c1 c2)))]) hD hS hA [0, 1] rfl
        refine va_calli (va_runV (As := [.int (nI ix)]) (rest := [.ref (b 0)]) ⟨hx, hb, hml, hown, hts⟩ (c_X4_isShut l D cA H.size b mm ix c1 c2 (by assumption)) (cwV 1 hts gX4_wish_X4_isShut rfl rfl rfl (by decide +kernel) ⟨Nat.le_of_ble_eq_true rfl, Nat.le_of_ble_eq_true rfl⟩) ⟨zU_blind, va_recv hK hPc (ci := 6) (q0 := 0) rfl rfl, fun U hU hW => ⟨rfl, zU_call hU hPc hW.alike hK hDc⟩⟩ rfl rfl hl.1 rfl (lv_room (Nat.le_of_ble_eq_true rfl)) dX4_wish_53 ⟨(Nat.zero_le _), (Nat.zero_le _)⟩) hS (fun q _ h => hFc q h) hFc (fun zr u t H1 locs ht hvm hw hB hz1 hk1 hS => ?_)
        obtain ⟨hP1, hD1⟩ := hB
        rw [ht] at hP1
        obtain ⟨hP, hD⟩ := va_join (wr := [(b 1, .inl (cA 0, 8, .inl (bk 4 ix w0 y0))), (b 2, .inl (cA 0, 8, .inl (bk 4 ix w1 y1))), (b 3, .inl (cA 0, 8, .inl (bk 4 ix w2 y2)))]) (w1 := [cM b mm, (b 9, .inl (cA 0, 2, .inl (t2 ix c1 c2)))]) hP hD [0, 1] [2, 3, 4] rfl rfl (by decide) (by decide) hk1 hFc hP1 hD1
        generalize H1 = H at hP hS ⊢
        have hP := hP.sub (ws' := [cM b mm, (b 9, .inl (cA 0, 2, .inl (t2 ix c1 c2))), (b 1, .inl (cA 0, 8, .inl (bk 4 ix w0 y0))), (b 2, .inl (cA 0, 8, .inl (bk 4 ix w1 y1))), (b 3, .inl (cA 0, 8, .inl (bk 4 ix w2 y2)))]) [3, 4, 0, 1, 2] rfl
        have hD := hD.sub (ws' := [cM b mm, (b 9, .inl (cA 0, 2, .inl (t2 ix c1 c2))), (b 1, .inl (cA 0, 8, .inl (bk 4 ix w0 y0))), (b 2, .inl (cA 0, 8, .inl (bk 4 ix w1 y1))), (b 3, .inl (cA 0, 8, .inl (bk 4 ix w2 y2)))]) [3, 4, 0, 1, 2] (by decide) rfl
        clear hPc hDc hFc hP1 hD1 hk1 hz1
        have hw_7 := hw
        rcases z_bool hw with ⟨h_7, rfl⟩ | ⟨h_7, rfl⟩
        · skip
          refine lv_if_eq (tgt := 63) hx hb dX4_wish_56 (by decide) (fun c_8 => absurd c_8 (by decide)) (fun _ => ?_)
          refine lv_iconst (v := 0) hx hb dX4_wish_59 (by decide) ?_
          refine lv_goto (tgt := 64) hx hb dX4_wish_60 (by decide) ?_
          have hPc := hP.sub (ws' := [cM b mm]) [0] rfl
          have hDc := hD.sub (ws' := [cM b mm]) [0] (by decide) rfl
          have hFc := va_free (wc := [cM b mm]) hD hS hA [0] rfl
          refine va_calli (va_runV (As := [.int 0]) (rest := []) ⟨hx, hb, hml, hown, hts⟩ (c_X4_can l D cA H.size b mm 0) (cwV 1 hts gX4_wish_X4_can rfl rfl rfl (by decide +kernel) ⟨Nat.le_of_ble_eq_true rfl, Nat.le_of_ble_eq_true rfl⟩) ⟨zU_blind, va_recv hK hPc (ci := 6) (q0 := 0) rfl rfl, fun U hU hW => ⟨rfl, zU_call hU hPc hW.alike hK hDc⟩⟩ rfl rfl hl.1 rfl (lv_room (Nat.le_of_ble_eq_true rfl)) dX4_wish_64 ⟨(Nat.zero_le _), (Nat.zero_le _)⟩) hS (fun q _ h => hFc q h) hFc (fun zr u t H1 locs ht hvm hw hB hz1 hk1 hS => ?_)
          obtain ⟨mm'_9, rfl⟩ : ∃ z, z = u := ⟨_, rfl⟩
          obtain ⟨hP1, hD1⟩ := hB
          rw [ht] at hP1
          try dsimp only at hw hP1 hD1
          obtain ⟨hP, hD⟩ := va_join (wr := [(b 9, .inl (cA 0, 2, .inl (t2 ix c1 c2))), (b 1, .inl (cA 0, 8, .inl (bk 4 ix w0 y0))), (b 2, .inl (cA 0, 8, .inl (bk 4 ix w1 y1))), (b 3, .inl (cA 0, 8, .inl (bk 4 ix w2 y2)))]) (w1 := [cM b mm'_9]) hP hD [0] [1, 2, 3, 4] rfl rfl (by decide) (by decide) hk1 hFc hP1 hD1
          generalize H1 = H at hP hS ⊢
          have hP := hP.sub (ws' := [cM b mm'_9, (b 9, .inl (cA 0, 2, .inl (t2 ix c1 c2))), (b 1, .inl (cA 0, 8, .inl (bk 4 ix w0 y0))), (b 2, .inl (cA 0, 8, .inl (bk 4 ix w1 y1))), (b 3, .inl (cA 0, 8, .inl (bk 4 ix w2 y2)))]) [4, 0, 1, 2, 3] rfl
          have hD := hD.sub (ws' := [cM b mm'_9, (b 9, .inl (cA 0, 2, .inl (t2 ix c1 c2))), (b 1, .inl (cA 0, 8, .inl (bk 4 ix w0 y0))), (b 2, .inl (cA 0, 8, .inl (bk 4 ix w1 y1))), (b 3, .inl (cA 0, 8, .inl (bk 4 ix w2 y2)))]) [4, 0, 1, 2, 3] (by decide) rfl
          clear hPc hDc hFc hP1 hD1 hk1 hz1
          obtain ⟨rfl, hw⟩ := hw
          have hw_9 := hw
          rcases z_bool hw with ⟨h_9, rfl⟩ | ⟨h_9, rfl⟩
          · skip
            refine lv_if_ne (tgt := 72) hx hb dX4_wish_67 (by decide) (fun _ => ?_) (fun c_10 => absurd c_10 (by decide))
            refine lv_iconst (v := 4) hx hb dX4_wish_72 (by decide) ?_
            refine lv_iload_n hx hb dX4_wish_73 rfl (lv_at hl 2 rfl) ?_
            refine lv_imul hx hb dX4_wish_74 ?_
            refine z_top (y := (nI (4 * ix))) (z_mul 4 ix) ?_
            refine lv_iload_n hx hb dX4_wish_75 rfl (lv_at hl 3 rfl) ?_
            refine lv_iadd hx hb dX4_wish_76 ?_
            refine z_top (y := (nI (4 * ix + k))) (z_add (4 * ix) k) ?_
            refine lv_istore (lv' := [(7, .int (nI (4 * ix + k))), (6, .int 1), (0, .ref (b 0)), (1, .int (nI ix)), (2, .int (nI k)), (3, .int wi), (4, .int le), (5, .int mo)]) hx hb dX4_wish_77 hl (by decide) rfl (fun ls hl => ?_)
            refine lv_aload_n hx hb dX4_wish_79 rfl (lv_at hl 2 rfl) ?_
            refine va_get (D := D) (ci := 6) (v := .ref (b 1)) (C := RX4) (T := TX4) (N := 29) hx hb hts (fun _ h => List.mem_cons_of_mem _ (List.mem_append_right _ (h))) hown hK hP 0 rfl rfl 2 (by decide) (hts (.fieldLink RX4 7 "OptionWireModel" "wishes" "[I") (List.mem_of_getElem? (i := 1) rfl)) (fun _ h9 => h9) rfl dX4_wish_80 ?_
            refine lv_iload hx hb dX4_wish_83 (lv_at hl 0 rfl) ?_
            refine z_iald (k := (4 * ix + k)) (v := (w0 k)) hx hb hK hP 2 0 rfl rfl rfl (by omega) (by decide) (bk_x (by omega)) dX4_wish_85 ?_
            refine lv_istore (lv' := [(8, .int (w0 k)), (7, .int (nI (4 * ix + k))), (6, .int 1), (0, .ref (b 0)), (1, .int (nI ix)), (2, .int (nI k)), (3, .int wi), (4, .int le), (5, .int mo)]) hx hb dX4_wish_86 hl (by decide) rfl (fun ls hl => ?_)
            refine lv_aload_n hx hb dX4_wish_88 rfl (lv_at hl 3 rfl) ?_
            refine va_get (D := D) (ci := 6) (v := .ref (b 1)) (C := RX4) (T := TX4) (N := 29) hx hb hts (fun _ h => List.mem_cons_of_mem _ (List.mem_append_right _ (h))) hown hK hP 0 rfl rfl 2 (by decide) (hts (.fieldLink RX4 7 "OptionWireModel" "wishes" "[I") (List.mem_of_getElem? (i := 1) rfl)) (fun _ h9 => h9) rfl dX4_wish_89 ?_
            refine lv_iload hx hb dX4_wish_92 (lv_at hl 1 rfl) ?_
            refine lv_iload_n hx hb dX4_wish_94 rfl (lv_at hl 6 rfl) ?_
            refine z_iast (k := (4 * ix + k)) hx hb hK hP hD hS 2 0 rfl rfl rfl (by omega) (by decide) dX4_wish_95 (fun H locs hP hD hS => ?_)
            have hP : va_P D vwCl [cM b (upd mm 6 0), (b 9, .inl (cA 0, 2, .inl (t2 ix c1 c2))), (b 1, .inl (cA 0, 8, .inl (upd (bk 4 ix w0 y0) (4 * ix + k) wi))), (b 2, .inl (cA 0, 8, .inl (bk 4 ix w1 y1))), (b 3, .inl (cA 0, 8, .inl (bk 4 ix w2 y2)))] H := hP
            have hD : va_D A [cM b (upd mm 6 0), (b 9, .inl (cA 0, 2, .inl (t2 ix c1 c2))), (b 1, .inl (cA 0, 8, .inl (upd (bk 4 ix w0 y0) (4 * ix + k) wi))), (b 2, .inl (cA 0, 8, .inl (bk 4 ix w1 y1))), (b 3, .inl (cA 0, 8, .inl (bk 4 ix w2 y2)))] := hD
            rw [show upd (bk 4 ix w0 y0) (4 * ix + k) wi = bk 4 ix (upd w0 k wi) y0 from (bk_ux (by omega))] at hP hD
            refine lv_aload_n hx hb dX4_wish_96 rfl (lv_at hl 3 rfl) ?_
            refine va_get (D := D) (ci := 6) (v := .ref (b 2)) (C := RX4) (T := TX4) (N := 29) hx hb hts (fun _ h => List.mem_cons_of_mem _ (List.mem_append_right _ (h))) hown hK hP 0 rfl rfl 3 (by decide) (hts (.fieldLink RX4 13 "OptionWireModel" "limitLeast" "[I") (List.mem_of_getElem? (i := 2) rfl)) (fun _ h9 => h9) rfl dX4_wish_97 ?_
            refine lv_iload hx hb dX4_wish_100 (lv_at hl 1 rfl) ?_
            refine lv_iload hx hb dX4_wish_102 (lv_at hl 7 rfl) ?_
            refine z_iast (k := (4 * ix + k)) hx hb hK hP hD hS 3 0 rfl rfl rfl (by omega) (by decide) dX4_wish_104 (fun H locs hP hD hS => ?_)
            have hP : va_P D vwCl [cM b (upd mm 6 0), (b 9, .inl (cA 0, 2, .inl (t2 ix c1 c2))), (b 1, .inl (cA 0, 8, .inl (bk 4 ix (upd w0 k wi) y0))), (b 2, .inl (cA 0, 8, .inl (upd (bk 4 ix w1 y1) (4 * ix + k) le))), (b 3, .inl (cA 0, 8, .inl (bk 4 ix w2 y2)))] H := hP
            have hD : va_D A [cM b (upd mm 6 0), (b 9, .inl (cA 0, 2, .inl (t2 ix c1 c2))), (b 1, .inl (cA 0, 8, .inl (bk 4 ix (upd w0 k wi) y0))), (b 2, .inl (cA 0, 8, .inl (upd (bk 4 ix w1 y1) (4 * ix + k) le))), (b 3, .inl (cA 0, 8, .inl (bk 4 ix w2 y2)))] := hD
            rw [show upd (bk 4 ix w1 y1) (4 * ix + k) le = bk 4 ix (upd w1 k le) y1 from (bk_ux (by omega))] at hP hD
            refine lv_aload_n hx hb dX4_wish_105 rfl (lv_at hl 3 rfl) ?_
            refine va_get (D := D) (ci := 6) (v := .ref (b 3)) (C := RX4) (T := TX4) (N := 29) hx hb hts (fun _ h => List.mem_cons_of_mem _ (List.mem_append_right _ (h))) hown hK hP 0 rfl rfl 4 (by decide) (hts (.fieldLink RX4 16 "OptionWireModel" "limitMost" "[I") (List.mem_of_getElem? (i := 3) rfl)) (fun _ h9 => h9) rfl dX4_wish_106 ?_
            refine lv_iload hx hb dX4_wish_109 (lv_at hl 1 rfl) ?_
            refine lv_iload hx hb dX4_wish_111 (lv_at hl 8 rfl) ?_
            refine z_iast (k := (4 * ix + k)) hx hb hK hP hD hS 4 0 rfl rfl rfl (by omega) (by decide) dX4_wish_113 (fun H locs hP hD hS => ?_)
            have hP : va_P D vwCl [cM b (upd mm 6 0), (b 9, .inl (cA 0, 2, .inl (t2 ix c1 c2))), (b 1, .inl (cA 0, 8, .inl (bk 4 ix (upd w0 k wi) y0))), (b 2, .inl (cA 0, 8, .inl (bk 4 ix (upd w1 k le) y1))), (b 3, .inl (cA 0, 8, .inl (upd (bk 4 ix w2 y2) (4 * ix + k) mo)))] H := hP
            have hD : va_D A [cM b (upd mm 6 0), (b 9, .inl (cA 0, 2, .inl (t2 ix c1 c2))), (b 1, .inl (cA 0, 8, .inl (bk 4 ix (upd w0 k wi) y0))), (b 2, .inl (cA 0, 8, .inl (bk 4 ix (upd w1 k le) y1))), (b 3, .inl (cA 0, 8, .inl (upd (bk 4 ix w2 y2) (4 * ix + k) mo)))] := hD
            rw [show upd (bk 4 ix w2 y2) (4 * ix + k) mo = bk 4 ix (upd w2 k mo) y2 from (bk_ux (by omega))] at hP hD
            refine lv_iload hx hb dX4_wish_114 (lv_at hl 0 rfl) ?_
            refine W.widen (k := 0) (n := 0) (by omega) (by omega) ?_
            exact W.iret (v := (w0 k)) hx hb hr (fun t ht hW => ⟨⟨w0 k, ((upd mm 6 0)), rfl, ⟨rfl, rfl⟩, ⟨by rw [ht]; exact hP, by rw [hAe]; exact hD⟩⟩, hS.F ht⟩) hS.2.2 dX4_wish_116
          · exact absurd rfl h_9
        · exact absurd hsh h_7
      · skip
        have hin := hwi.resolve_left c_5
        refine lv_iload_n hx hb dX4_wish_23 rfl (lv_at hl 3 rfl) ?_
        refine lv_iload hx hb dX4_wish_24 (lv_at hl 4 rfl) ?_
        refine lv_iload hx hb dX4_wish_26 (lv_at hl 5 rfl) ?_
        have hPc := hP.sub (ws' := []) [] rfl
        have hDc := hD.sub (ws' := []) [] (by decide) rfl
        have hFc := va_free (wc := []) hD hS hA [] rfl
        refine va_calli (va_runS (As := [.int wi, .int le, .int mo]) (rest := []) ⟨hx, hb, hml, hown, hts⟩ (c_X4_isIn l D cA H.size wi le mo) (va_cwS 3 hts gX4_wish_X4_isIn rfl rfl rfl (by decide +kernel) ⟨Nat.le_of_ble_eq_true rfl, Nat.le_of_ble_eq_true rfl⟩) ⟨zU_blind, fun U hU hW => ⟨rfl, zU_call hU hPc hW.alike hK hDc⟩⟩ rfl rfl hl.1 rfl (lv_room (Nat.le_of_ble_eq_true rfl)) dX4_wish_28 ⟨(Nat.zero_le _), (Nat.zero_le _)⟩) hS (fun q _ h => hFc q h) hFc (fun zr u t H1 locs ht hvm hw hB hz1 hk1 hS => ?_)
        obtain ⟨hP1, hD1⟩ := hB
        rw [ht] at hP1
        obtain ⟨hP, hD⟩ := va_join (wr := [cM b mm, (b 9, .inl (cA 0, 2, .inl (t2 ix c1 c2))), (b 1, .inl (cA 0, 8, .inl (bk 4 ix w0 y0))), (b 2, .inl (cA 0, 8, .inl (bk 4 ix w1 y1))), (b 3, .inl (cA 0, 8, .inl (bk 4 ix w2 y2)))]) (w1 := []) hP hD [] [0, 1, 2, 3, 4] rfl rfl (by decide) (by decide) hk1 hFc hP1 hD1
        generalize H1 = H at hP hS ⊢
        have hP := hP.sub (ws' := [cM b mm, (b 9, .inl (cA 0, 2, .inl (t2 ix c1 c2))), (b 1, .inl (cA 0, 8, .inl (bk 4 ix w0 y0))), (b 2, .inl (cA 0, 8, .inl (bk 4 ix w1 y1))), (b 3, .inl (cA 0, 8, .inl (bk 4 ix w2 y2)))]) [0, 1, 2, 3, 4] rfl
        have hD := hD.sub (ws' := [cM b mm, (b 9, .inl (cA 0, 2, .inl (t2 ix c1 c2))), (b 1, .inl (cA 0, 8, .inl (bk 4 ix w0 y0))), (b 2, .inl (cA 0, 8, .inl (bk 4 ix w1 y1))), (b 3, .inl (cA 0, 8, .inl (bk 4 ix w2 y2)))]) [0, 1, 2, 3, 4] (by decide) rfl
        clear hPc hDc hFc hP1 hD1 hk1 hz1
        have hw_11 := hw
        rcases z_bool hw with ⟨h_11, rfl⟩ | ⟨h_11, rfl⟩
        · skip
          refine lv_if_eq (tgt := 38) hx hb dX4_wish_31 (by decide) (fun c_12 => absurd c_12 (by decide)) (fun _ => ?_)
          refine lv_iconst (v := 1) hx hb dX4_wish_34 (by decide) ?_
          refine lv_goto (tgt := 39) hx hb dX4_wish_35 (by decide) ?_
          refine lv_istore (lv' := [(6, .int 1), (0, .ref (b 0)), (1, .int (nI ix)), (2, .int (nI k)), (3, .int wi), (4, .int le), (5, .int mo)]) hx hb dX4_wish_39 hl (by decide) rfl (fun ls hl => ?_)
          refine lv_aload_n hx hb dX4_wish_41 rfl (lv_at hl 1 rfl) ?_
          refine lv_iload hx hb dX4_wish_42 (lv_at hl 0 rfl) ?_
          refine lv_if_ne (tgt := 51) hx hb dX4_wish_44 (by decide) (fun _ => ?_) (fun c_13 => absurd c_13 (by decide))
          refine lv_aload_n hx hb dX4_wish_51 rfl (lv_at hl 1 rfl) ?_
          refine lv_iload_n hx hb dX4_wish_52 rfl (lv_at hl 2 rfl) ?_
          have hPc := hP.sub (ws' := [cM b mm, (b 9, .inl (cA 0, 2, .inl (t2 ix c1 c2)))]) [0, 1] rfl
          have hDc := hD.sub (ws' := [cM b mm, (b 9, .inl (cA 0, 2, .inl (t2 ix c1 c2)))]) [0, 1] (by decide) rfl
          have hFc := va_free (wc := [cM b mm, (b 9, .inl (cA 0, 2, .inl (t2 ix c1 c2)))]) hD hS hA [0, 1] rfl
          refine va_calli (va_runV (As := [.int (nI ix)]) (rest := [.ref (b 0)]) ⟨hx, hb, hml, hown, hts⟩ (c_X4_isShut l D cA H.size b mm ix c1 c2 (by assumption)) (cwV 1 hts gX4_wish_X4_isShut rfl rfl rfl (by decide +kernel) ⟨Nat.le_of_ble_eq_true rfl, Nat.le_of_ble_eq_true rfl⟩) ⟨zU_blind, va_recv hK hPc (ci := 6) (q0 := 0) rfl rfl, fun U hU hW => ⟨rfl, zU_call hU hPc hW.alike hK hDc⟩⟩ rfl rfl hl.1 rfl (lv_room (Nat.le_of_ble_eq_true rfl)) dX4_wish_53 ⟨(Nat.zero_le _), (Nat.zero_le _)⟩) hS (fun q _ h => hFc q h) hFc (fun zr u t H1 locs ht hvm hw hB hz1 hk1 hS => ?_)
          obtain ⟨hP1, hD1⟩ := hB
          rw [ht] at hP1
          obtain ⟨hP, hD⟩ := va_join (wr := [(b 1, .inl (cA 0, 8, .inl (bk 4 ix w0 y0))), (b 2, .inl (cA 0, 8, .inl (bk 4 ix w1 y1))), (b 3, .inl (cA 0, 8, .inl (bk 4 ix w2 y2)))]) (w1 := [cM b mm, (b 9, .inl (cA 0, 2, .inl (t2 ix c1 c2)))]) hP hD [0, 1] [2, 3, 4] rfl rfl (by decide) (by decide) hk1 hFc hP1 hD1
          generalize H1 = H at hP hS ⊢
          have hP := hP.sub (ws' := [cM b mm, (b 9, .inl (cA 0, 2, .inl (t2 ix c1 c2))), (b 1, .inl (cA 0, 8, .inl (bk 4 ix w0 y0))), (b 2, .inl (cA 0, 8, .inl (bk 4 ix w1 y1))), (b 3, .inl (cA 0, 8, .inl (bk 4 ix w2 y2)))]) [3, 4, 0, 1, 2] rfl
          have hD := hD.sub (ws' := [cM b mm, (b 9, .inl (cA 0, 2, .inl (t2 ix c1 c2))), (b 1, .inl (cA 0, 8, .inl (bk 4 ix w0 y0))), (b 2, .inl (cA 0, 8, .inl (bk 4 ix w1 y1))), (b 3, .inl (cA 0, 8, .inl (bk 4 ix w2 y2)))]) [3, 4, 0, 1, 2] (by decide) rfl
          clear hPc hDc hFc hP1 hD1 hk1 hz1
          have hw_14 := hw
          rcases z_bool hw with ⟨h_14, rfl⟩ | ⟨h_14, rfl⟩
          · skip
            refine lv_if_eq (tgt := 63) hx hb dX4_wish_56 (by decide) (fun c_15 => absurd c_15 (by decide)) (fun _ => ?_)
            refine lv_iconst (v := 0) hx hb dX4_wish_59 (by decide) ?_
            refine lv_goto (tgt := 64) hx hb dX4_wish_60 (by decide) ?_
            have hPc := hP.sub (ws' := [cM b mm]) [0] rfl
            have hDc := hD.sub (ws' := [cM b mm]) [0] (by decide) rfl
            have hFc := va_free (wc := [cM b mm]) hD hS hA [0] rfl
            refine va_calli (va_runV (As := [.int 0]) (rest := []) ⟨hx, hb, hml, hown, hts⟩ (c_X4_can l D cA H.size b mm 0) (cwV 1 hts gX4_wish_X4_can rfl rfl rfl (by decide +kernel) ⟨Nat.le_of_ble_eq_true rfl, Nat.le_of_ble_eq_true rfl⟩) ⟨zU_blind, va_recv hK hPc (ci := 6) (q0 := 0) rfl rfl, fun U hU hW => ⟨rfl, zU_call hU hPc hW.alike hK hDc⟩⟩ rfl rfl hl.1 rfl (lv_room (Nat.le_of_ble_eq_true rfl)) dX4_wish_64 ⟨(Nat.zero_le _), (Nat.zero_le _)⟩) hS (fun q _ h => hFc q h) hFc (fun zr u t H1 locs ht hvm hw hB hz1 hk1 hS => ?_)
            obtain ⟨mm'_16, rfl⟩ : ∃ z, z = u := ⟨_, rfl⟩
            obtain ⟨hP1, hD1⟩ := hB
            rw [ht] at hP1
            try dsimp only at hw hP1 hD1
            obtain ⟨hP, hD⟩ := va_join (wr := [(b 9, .inl (cA 0, 2, .inl (t2 ix c1 c2))), (b 1, .inl (cA 0, 8, .inl (bk 4 ix w0 y0))), (b 2, .inl (cA 0, 8, .inl (bk 4 ix w1 y1))), (b 3, .inl (cA 0, 8, .inl (bk 4 ix w2 y2)))]) (w1 := [cM b mm'_16]) hP hD [0] [1, 2, 3, 4] rfl rfl (by decide) (by decide) hk1 hFc hP1 hD1
            generalize H1 = H at hP hS ⊢
            have hP := hP.sub (ws' := [cM b mm'_16, (b 9, .inl (cA 0, 2, .inl (t2 ix c1 c2))), (b 1, .inl (cA 0, 8, .inl (bk 4 ix w0 y0))), (b 2, .inl (cA 0, 8, .inl (bk 4 ix w1 y1))), (b 3, .inl (cA 0, 8, .inl (bk 4 ix w2 y2)))]) [4, 0, 1, 2, 3] rfl
            have hD := hD.sub (ws' := [cM b mm'_16, (b 9, .inl (cA 0, 2, .inl (t2 ix c1 c2))), (b 1, .inl (cA 0, 8, .inl (bk 4 ix w0 y0))), (b 2, .inl (cA 0, 8, .inl (bk 4 ix w1 y1))), (b 3, .inl (cA 0, 8, .inl (bk 4 ix w2 y2)))]) [4, 0, 1, 2, 3] (by decide) rfl
            clear hPc hDc hFc hP1 hD1 hk1 hz1
            obtain ⟨rfl, hw⟩ := hw
            have hw_16 := hw
            rcases z_bool hw with ⟨h_16, rfl⟩ | ⟨h_16, rfl⟩
            · skip
              refine lv_if_ne (tgt := 72) hx hb dX4_wish_67 (by decide) (fun _ => ?_) (fun c_17 => absurd c_17 (by decide))
              refine lv_iconst (v := 4) hx hb dX4_wish_72 (by decide) ?_
              refine lv_iload_n hx hb dX4_wish_73 rfl (lv_at hl 2 rfl) ?_
              refine lv_imul hx hb dX4_wish_74 ?_
              refine z_top (y := (nI (4 * ix))) (z_mul 4 ix) ?_
              refine lv_iload_n hx hb dX4_wish_75 rfl (lv_at hl 3 rfl) ?_
              refine lv_iadd hx hb dX4_wish_76 ?_
              refine z_top (y := (nI (4 * ix + k))) (z_add (4 * ix) k) ?_
              refine lv_istore (lv' := [(7, .int (nI (4 * ix + k))), (6, .int 1), (0, .ref (b 0)), (1, .int (nI ix)), (2, .int (nI k)), (3, .int wi), (4, .int le), (5, .int mo)]) hx hb dX4_wish_77 hl (by decide) rfl (fun ls hl => ?_)
              refine lv_aload_n hx hb dX4_wish_79 rfl (lv_at hl 2 rfl) ?_
              refine va_get (D := D) (ci := 6) (v := .ref (b 1)) (C := RX4) (T := TX4) (N := 29) hx hb hts (fun _ h => List.mem_cons_of_mem _ (List.mem_append_right _ (h))) hown hK hP 0 rfl rfl 2 (by decide) (hts (.fieldLink RX4 7 "OptionWireModel" "wishes" "[I") (List.mem_of_getElem? (i := 1) rfl)) (fun _ h9 => h9) rfl dX4_wish_80 ?_
              refine lv_iload hx hb dX4_wish_83 (lv_at hl 0 rfl) ?_
              refine z_iald (k := (4 * ix + k)) (v := (w0 k)) hx hb hK hP 2 0 rfl rfl rfl (by omega) (by decide) (bk_x (by omega)) dX4_wish_85 ?_
              refine lv_istore (lv' := [(8, .int (w0 k)), (7, .int (nI (4 * ix + k))), (6, .int 1), (0, .ref (b 0)), (1, .int (nI ix)), (2, .int (nI k)), (3, .int wi), (4, .int le), (5, .int mo)]) hx hb dX4_wish_86 hl (by decide) rfl (fun ls hl => ?_)
              refine lv_aload_n hx hb dX4_wish_88 rfl (lv_at hl 3 rfl) ?_
              refine va_get (D := D) (ci := 6) (v := .ref (b 1)) (C := RX4) (T := TX4) (N := 29) hx hb hts (fun _ h => List.mem_cons_of_mem _ (List.mem_append_right _ (h))) hown hK hP 0 rfl rfl 2 (by decide) (hts (.fieldLink RX4 7 "OptionWireModel" "wishes" "[I") (List.mem_of_getElem? (i := 1) rfl)) (fun _ h9 => h9) rfl dX4_wish_89 ?_
              refine lv_iload hx hb dX4_wish_92 (lv_at hl 1 rfl) ?_
              refine lv_iload_n hx hb dX4_wish_94 rfl (lv_at hl 6 rfl) ?_
              refine z_iast (k := (4 * ix + k)) hx hb hK hP hD hS 2 0 rfl rfl rfl (by omega) (by decide) dX4_wish_95 (fun H locs hP hD hS => ?_)
              have hP : va_P D vwCl [cM b (upd mm 6 0), (b 9, .inl (cA 0, 2, .inl (t2 ix c1 c2))), (b 1, .inl (cA 0, 8, .inl (upd (bk 4 ix w0 y0) (4 * ix + k) wi))), (b 2, .inl (cA 0, 8, .inl (bk 4 ix w1 y1))), (b 3, .inl (cA 0, 8, .inl (bk 4 ix w2 y2)))] H := hP
              have hD : va_D A [cM b (upd mm 6 0), (b 9, .inl (cA 0, 2, .inl (t2 ix c1 c2))), (b 1, .inl (cA 0, 8, .inl (upd (bk 4 ix w0 y0) (4 * ix + k) wi))), (b 2, .inl (cA 0, 8, .inl (bk 4 ix w1 y1))), (b 3, .inl (cA 0, 8, .inl (bk 4 ix w2 y2)))] := hD
              rw [show upd (bk 4 ix w0 y0) (4 * ix + k) wi = bk 4 ix (upd w0 k wi) y0 from (bk_ux (by omega))] at hP hD
              refine lv_aload_n hx hb dX4_wish_96 rfl (lv_at hl 3 rfl) ?_
              refine va_get (D := D) (ci := 6) (v := .ref (b 2)) (C := RX4) (T := TX4) (N := 29) hx hb hts (fun _ h => List.mem_cons_of_mem _ (List.mem_append_right _ (h))) hown hK hP 0 rfl rfl 3 (by decide) (hts (.fieldLink RX4 13 "OptionWireModel" "limitLeast" "[I") (List.mem_of_getElem? (i := 2) rfl)) (fun _ h9 => h9) rfl dX4_wish_97 ?_
              refine lv_iload hx hb dX4_wish_100 (lv_at hl 1 rfl) ?_
              refine lv_iload hx hb dX4_wish_102 (lv_at hl 7 rfl) ?_
              refine z_iast (k := (4 * ix + k)) hx hb hK hP hD hS 3 0 rfl rfl rfl (by omega) (by decide) dX4_wish_104 (fun H locs hP hD hS => ?_)
              have hP : va_P D vwCl [cM b (upd mm 6 0), (b 9, .inl (cA 0, 2, .inl (t2 ix c1 c2))), (b 1, .inl (cA 0, 8, .inl (bk 4 ix (upd w0 k wi) y0))), (b 2, .inl (cA 0, 8, .inl (upd (bk 4 ix w1 y1) (4 * ix + k) le))), (b 3, .inl (cA 0, 8, .inl (bk 4 ix w2 y2)))] H := hP
              have hD : va_D A [cM b (upd mm 6 0), (b 9, .inl (cA 0, 2, .inl (t2 ix c1 c2))), (b 1, .inl (cA 0, 8, .inl (bk 4 ix (upd w0 k wi) y0))), (b 2, .inl (cA 0, 8, .inl (upd (bk 4 ix w1 y1) (4 * ix + k) le))), (b 3, .inl (cA 0, 8, .inl (bk 4 ix w2 y2)))] := hD
              rw [show upd (bk 4 ix w1 y1) (4 * ix + k) le = bk 4 ix (upd w1 k le) y1 from (bk_ux (by omega))] at hP hD
              refine lv_aload_n hx hb dX4_wish_105 rfl (lv_at hl 3 rfl) ?_
              refine va_get (D := D) (ci := 6) (v := .ref (b 3)) (C := RX4) (T := TX4) (N := 29) hx hb hts (fun _ h => List.mem_cons_of_mem _ (List.mem_append_right _ (h))) hown hK hP 0 rfl rfl 4 (by decide) (hts (.fieldLink RX4 16 "OptionWireModel" "limitMost" "[I") (List.mem_of_getElem? (i := 3) rfl)) (fun _ h9 => h9) rfl dX4_wish_106 ?_
              refine lv_iload hx hb dX4_wish_109 (lv_at hl 1 rfl) ?_
              refine lv_iload hx hb dX4_wish_111 (lv_at hl 8 rfl) ?_
              refine z_iast (k := (4 * ix + k)) hx hb hK hP hD hS 4 0 rfl rfl rfl (by omega) (by decide) dX4_wish_113 (fun H locs hP hD hS => ?_)
              have hP : va_P D vwCl [cM b (upd mm 6 0), (b 9, .inl (cA 0, 2, .inl (t2 ix c1 c2))), (b 1, .inl (cA 0, 8, .inl (bk 4 ix (upd w0 k wi) y0))), (b 2, .inl (cA 0, 8, .inl (bk 4 ix (upd w1 k le) y1))), (b 3, .inl (cA 0, 8, .inl (upd (bk 4 ix w2 y2) (4 * ix + k) mo)))] H := hP
              have hD : va_D A [cM b (upd mm 6 0), (b 9, .inl (cA 0, 2, .inl (t2 ix c1 c2))), (b 1, .inl (cA 0, 8, .inl (bk 4 ix (upd w0 k wi) y0))), (b 2, .inl (cA 0, 8, .inl (bk 4 ix (upd w1 k le) y1))), (b 3, .inl (cA 0, 8, .inl (upd (bk 4 ix w2 y2) (4 * ix + k) mo)))] := hD
              rw [show upd (bk 4 ix w2 y2) (4 * ix + k) mo = bk 4 ix (upd w2 k mo) y2 from (bk_ux (by omega))] at hP hD
              refine lv_iload hx hb dX4_wish_114 (lv_at hl 0 rfl) ?_
              refine W.widen (k := 0) (n := 0) (by omega) (by omega) ?_
              exact W.iret (v := (w0 k)) hx hb hr (fun t ht hW => ⟨⟨w0 k, ((upd mm 6 0)), rfl, ⟨rfl, rfl⟩, ⟨by rw [ht]; exact hP, by rw [hAe]; exact hD⟩⟩, hS.F ht⟩) hS.2.2 dX4_wish_116
            · exact absurd rfl h_16
          · exact absurd hsh h_14
        · exact absurd hin h_11
    · exact absurd hsp h_3
  · exact absurd ⟨inr_ix hix, inr_k hk⟩ h_1
set_option maxHeartbeats 4000000 in
set_option maxRecDepth 100000 in
theorem c_X4_wish_s (l : Launch) (D : va_G) (cA : Nat → ClassId) (sz : Nat) (b : Nat → Nat) (mm : Nat → Int32) (ix : Nat) (c1 c2 : Int32) (k : Nat) (wi le mo : Int32) (w0 w1 w2 y0 y1 y2 : Nat → Int32) (hix : ix ≤ 1) (hk : k < 4) (hsp : inr le 0 100 ∧ inr mo le 100) (hwi : wi = -1 ∨ inr wi le mo) (hsh : ¬ sSh c1) : Met l yX4_wish wsX4_wish ({ frames := 3, cells := 0, slots := 0, locals := 63 }) (va_Pc [.ref (b 0), .int (nI ix), .int (nI k), .int wi, .int le, .int mo] (zU D cA sz [cM b mm, (b 9, .inl (cA 0, 2, .inl (t2 ix c1 c2))), (b 1, .inl (cA 0, 8, .inl (bk 4 ix w0 y0))), (b 2, .inl (cA 0, 8, .inl (bk 4 ix w1 y1))), (b 3, .inl (cA 0, 8, .inl (bk 4 ix w2 y2)))])) (va_Qi (fun (r : Int32) (u : (Nat → Int32)) => u = upd mm 6 2 ∧ r = 0) (fun (u : (Nat → Int32)) t => zB D [cM b mm, (b 9, .inl (cA 0, 2, .inl (t2 ix c1 c2))), (b 1, .inl (cA 0, 8, .inl (bk 4 ix w0 y0))), (b 2, .inl (cA 0, 8, .inl (bk 4 ix w1 y1))), (b 3, .inl (cA 0, 8, .inl (bk 4 ix w2 y2)))] sz [cM b u, (b 9, .inl (cA 0, 2, .inl (t2 ix c1 c2))), (b 1, .inl (cA 0, 8, .inl (bk 4 ix w0 y0))), (b 2, .inl (cA 0, 8, .inl (bk 4 ix w1 y1))), (b 3, .inl (cA 0, 8, .inl (bk 4 ix w2 y2)))] t) (va_A [cM b mm, (b 9, .inl (cA 0, 2, .inl (t2 ix c1 c2))), (b 1, .inl (cA 0, 8, .inl (bk 4 ix w0 y0))), (b 2, .inl (cA 0, 8, .inl (bk 4 ix w1 y1))), (b 3, .inl (cA 0, 8, .inl (bk 4 ix w2 y2)))] sz)) 0 0 (va_A [cM b mm, (b 9, .inl (cA 0, 2, .inl (t2 ix c1 c2))), (b 1, .inl (cA 0, 8, .inl (bk 4 ix w0 y0))), (b 2, .inl (cA 0, 8, .inl (bk 4 ix w1 y1))), (b 3, .inl (cA 0, 8, .inl (bk 4 ix w2 y2)))] sz) := by
  refine Met.ofW (cc := cX4_wish) (maxL := 9) (ret := (some .int)) (by decide) rfl ?_
  intro p e s m args below meth c s₁ B hml hv
  obtain ⟨rfl, hsz, hP, hK, hD0⟩ := hv
  have hx := B.exec
  have hb := B.bytes
  have hr := B.returns
  have hts := atoms_spec (ws := wsX4_wish) B.pre
  have hown : s.vm.findClass RX4 = some m.cls := findClass_of_methodNamed B.named
  have hlocks := B.notSynchronized
  subst hsz
  have hD := hD0.self (sz := s.heap.size)
  generalize hAe : va_A [cM b mm, (b 9, .inl (cA 0, 2, .inl (t2 ix c1 c2))), (b 1, .inl (cA 0, 8, .inl (bk 4 ix w0 y0))), (b 2, .inl (cA 0, 8, .inl (bk 4 ix w1 y1))), (b 3, .inl (cA 0, 8, .inl (bk 4 ix w2 y2)))] s.heap.size = A at hD ⊢
  have hA : ∀ q : Nat, s.heap.size ≤ q → A q := fun q h => by rw [← hAe]; exact Or.inr h
  have hS : va_S A s.heap s.heap [] := va_S.rf
  have hl := lv_entry ([.ref (b 0), .int (nI ix), .int (nI k), .int wi, .int le, .int mo]) (n := 9) (Nat.le_of_ble_eq_true rfl)
  rw [lg_entry_eq]
  generalize (lg_sl ([.ref (b 0), .int (nI ix), .int (nI k), .int wi, .int le, .int mo]) ++ List.replicate (9 - (lg_sl ([.ref (b 0), .int (nI ix), .int (nI k), .int wi, .int le, .int mo])).length) Slot.unset).toArray = ls at hl ⊢
  have hl : lv_has ls 9 [(0, .ref (b 0)), (1, .int (nI ix)), (2, .int (nI k)), (3, .int wi), (4, .int le), (5, .int mo)] := hl
  refine lv_iload_n hx hb dX4_wish_0 rfl (lv_at hl 1 rfl) ?_
  refine lv_iload_n hx hb dX4_wish_1 rfl (lv_at hl 2 rfl) ?_
  have hPc := hP.sub (ws' := []) [] rfl
  have hDc := hD.sub (ws' := []) [] (by decide) rfl
  have hFc := va_free (wc := []) hD hS hA [] rfl
  refine va_calli (va_runS (As := [.int (nI ix), .int (nI k)]) (rest := []) ⟨hx, hb, hml, hown, hts⟩ (c_X4_isOption l D cA s.heap.size (nI ix) (nI k)) (va_cwS 2 hts gX4_wish_X4_isOption rfl rfl rfl (by decide +kernel) ⟨Nat.le_of_ble_eq_true rfl, Nat.le_of_ble_eq_true rfl⟩) ⟨zU_blind, fun U hU hW => ⟨rfl, zU_call hU hPc hW.alike hK hDc⟩⟩ rfl rfl hl.1 rfl (lv_room (Nat.le_of_ble_eq_true rfl)) dX4_wish_2 ⟨(Nat.zero_le _), (Nat.zero_le _)⟩) hS (fun q _ h => hFc q h) hFc (fun zr u t H1 locs ht hvm hw hB hz1 hk1 hS => ?_)
  obtain ⟨hP1, hD1⟩ := hB
  rw [ht] at hP1
  obtain ⟨hP, hD⟩ := va_join (wr := [cM b mm, (b 9, .inl (cA 0, 2, .inl (t2 ix c1 c2))), (b 1, .inl (cA 0, 8, .inl (bk 4 ix w0 y0))), (b 2, .inl (cA 0, 8, .inl (bk 4 ix w1 y1))), (b 3, .inl (cA 0, 8, .inl (bk 4 ix w2 y2)))]) (w1 := []) hP hD [] [0, 1, 2, 3, 4] rfl rfl (by decide) (by decide) hk1 hFc hP1 hD1
  generalize H1 = H at hP hS ⊢
  have hP := hP.sub (ws' := [cM b mm, (b 9, .inl (cA 0, 2, .inl (t2 ix c1 c2))), (b 1, .inl (cA 0, 8, .inl (bk 4 ix w0 y0))), (b 2, .inl (cA 0, 8, .inl (bk 4 ix w1 y1))), (b 3, .inl (cA 0, 8, .inl (bk 4 ix w2 y2)))]) [0, 1, 2, 3, 4] rfl
  have hD := hD.sub (ws' := [cM b mm, (b 9, .inl (cA 0, 2, .inl (t2 ix c1 c2))), (b 1, .inl (cA 0, 8, .inl (bk 4 ix w0 y0))), (b 2, .inl (cA 0, 8, .inl (bk 4 ix w1 y1))), (b 3, .inl (cA 0, 8, .inl (bk 4 ix w2 y2)))]) [0, 1, 2, 3, 4] (by decide) rfl
  clear hPc hDc hFc hP1 hD1 hk1 hz1
  have hw_1 := hw
  rcases z_bool hw with ⟨h_1, rfl⟩ | ⟨h_1, rfl⟩
  · skip
    refine lv_if_eq (tgt := 38) hx hb dX4_wish_5 (by decide) (fun c_2 => absurd c_2 (by decide)) (fun _ => ?_)
    refine lv_iload hx hb dX4_wish_8 (lv_at hl 4 rfl) ?_
    refine lv_iload hx hb dX4_wish_10 (lv_at hl 5 rfl) ?_
    have hPc := hP.sub (ws' := []) [] rfl
    have hDc := hD.sub (ws' := []) [] (by decide) rfl
    have hFc := va_free (wc := []) hD hS hA [] rfl
    refine va_calli (va_runS (As := [.int le, .int mo]) (rest := []) ⟨hx, hb, hml, hown, hts⟩ (c_X4_isSpan l D cA H.size le mo) (va_cwS 2 hts gX4_wish_X4_isSpan rfl rfl rfl (by decide +kernel) ⟨Nat.le_of_ble_eq_true rfl, Nat.le_of_ble_eq_true rfl⟩) ⟨zU_blind, fun U hU hW => ⟨rfl, zU_call hU hPc hW.alike hK hDc⟩⟩ rfl rfl hl.1 rfl (lv_room (Nat.le_of_ble_eq_true rfl)) dX4_wish_12 ⟨(Nat.zero_le _), (Nat.zero_le _)⟩) hS (fun q _ h => hFc q h) hFc (fun zr u t H1 locs ht hvm hw hB hz1 hk1 hS => ?_)
    obtain ⟨hP1, hD1⟩ := hB
    rw [ht] at hP1
    obtain ⟨hP, hD⟩ := va_join (wr := [cM b mm, (b 9, .inl (cA 0, 2, .inl (t2 ix c1 c2))), (b 1, .inl (cA 0, 8, .inl (bk 4 ix w0 y0))), (b 2, .inl (cA 0, 8, .inl (bk 4 ix w1 y1))), (b 3, .inl (cA 0, 8, .inl (bk 4 ix w2 y2)))]) (w1 := []) hP hD [] [0, 1, 2, 3, 4] rfl rfl (by decide) (by decide) hk1 hFc hP1 hD1
    generalize H1 = H at hP hS ⊢
    have hP := hP.sub (ws' := [cM b mm, (b 9, .inl (cA 0, 2, .inl (t2 ix c1 c2))), (b 1, .inl (cA 0, 8, .inl (bk 4 ix w0 y0))), (b 2, .inl (cA 0, 8, .inl (bk 4 ix w1 y1))), (b 3, .inl (cA 0, 8, .inl (bk 4 ix w2 y2)))]) [0, 1, 2, 3, 4] rfl
    have hD := hD.sub (ws' := [cM b mm, (b 9, .inl (cA 0, 2, .inl (t2 ix c1 c2))), (b 1, .inl (cA 0, 8, .inl (bk 4 ix w0 y0))), (b 2, .inl (cA 0, 8, .inl (bk 4 ix w1 y1))), (b 3, .inl (cA 0, 8, .inl (bk 4 ix w2 y2)))]) [0, 1, 2, 3, 4] (by decide) rfl
    clear hPc hDc hFc hP1 hD1 hk1 hz1
    have hw_3 := hw
    rcases z_bool hw with ⟨h_3, rfl⟩ | ⟨h_3, rfl⟩
    · skip
      refine lv_if_eq (tgt := 38) hx hb dX4_wish_15 (by decide) (fun c_4 => absurd c_4 (by decide)) (fun _ => ?_)
      refine lv_iload_n hx hb dX4_wish_18 rfl (lv_at hl 3 rfl) ?_
      refine lv_iconst (v := (-1)) hx hb dX4_wish_19 (by decide) ?_
      refine lv_icmp_eq (tgt := 34) hx hb dX4_wish_20 (by decide) (fun c_5 => ?_) (fun c_5 => ?_)
      · skip
        refine lv_iconst (v := 1) hx hb dX4_wish_34 (by decide) ?_
        refine lv_goto (tgt := 39) hx hb dX4_wish_35 (by decide) ?_
        refine lv_istore (lv' := [(6, .int 1), (0, .ref (b 0)), (1, .int (nI ix)), (2, .int (nI k)), (3, .int wi), (4, .int le), (5, .int mo)]) hx hb dX4_wish_39 hl (by decide) rfl (fun ls hl => ?_)
        refine lv_aload_n hx hb dX4_wish_41 rfl (lv_at hl 1 rfl) ?_
        refine lv_iload hx hb dX4_wish_42 (lv_at hl 0 rfl) ?_
        refine lv_if_ne (tgt := 51) hx hb dX4_wish_44 (by decide) (fun _ => ?_) (fun c_6 => absurd c_6 (by decide))
        refine lv_aload_n hx hb dX4_wish_51 rfl (lv_at hl 1 rfl) ?_
        refine lv_iload_n hx hb dX4_wish_52 rfl (lv_at hl 2 rfl) ?_
        have hPc := hP.sub (ws' := [cM b mm, (b 9, .inl (cA 0, 2, .inl (t2 ix c1 c2)))]) [0, 1] rfl
        have hDc := hD.sub (ws' := [cM b mm, (b 9, .inl (cA 0, 2, .inl (t2 ix c1 c2)))]) [0, 1] (by decide) rfl
        have hFc := va_free (wc := [cM b mm, (b 9, .inl (cA 0, 2, .inl (t2 ix c1 c2)))]) hD hS hA [0, 1] rfl
        refine va_calli (va_runV (As := [.int (nI ix)]) (rest := [.ref (b 0)]) ⟨hx, hb, hml, hown, hts⟩ (c_X4_isShut l D cA H.size b mm ix c1 c2 (by assumption)) (cwV 1 hts gX4_wish_X4_isShut rfl rfl rfl (by decide +kernel) ⟨Nat.le_of_ble_eq_true rfl, Nat.le_of_ble_eq_true rfl⟩) ⟨zU_blind, va_recv hK hPc (ci := 6) (q0 := 0) rfl rfl, fun U hU hW => ⟨rfl, zU_call hU hPc hW.alike hK hDc⟩⟩ rfl rfl hl.1 rfl (lv_room (Nat.le_of_ble_eq_true rfl)) dX4_wish_53 ⟨(Nat.zero_le _), (Nat.zero_le _)⟩) hS (fun q _ h => hFc q h) hFc (fun zr u t H1 locs ht hvm hw hB hz1 hk1 hS => ?_)
        obtain ⟨hP1, hD1⟩ := hB
        rw [ht] at hP1
        obtain ⟨hP, hD⟩ := va_join (wr := [(b 1, .inl (cA 0, 8, .inl (bk 4 ix w0 y0))), (b 2, .inl (cA 0, 8, .inl (bk 4 ix w1 y1))), (b 3, .inl (cA 0, 8, .inl (bk 4 ix w2 y2)))]) (w1 := [cM b mm, (b 9, .inl (cA 0, 2, .inl (t2 ix c1 c2)))]) hP hD [0, 1] [2, 3, 4] rfl rfl (by decide) (by decide) hk1 hFc hP1 hD1
        generalize H1 = H at hP hS ⊢
        have hP := hP.sub (ws' := [cM b mm, (b 9, .inl (cA 0, 2, .inl (t2 ix c1 c2))), (b 1, .inl (cA 0, 8, .inl (bk 4 ix w0 y0))), (b 2, .inl (cA 0, 8, .inl (bk 4 ix w1 y1))), (b 3, .inl (cA 0, 8, .inl (bk 4 ix w2 y2)))]) [3, 4, 0, 1, 2] rfl
        have hD := hD.sub (ws' := [cM b mm, (b 9, .inl (cA 0, 2, .inl (t2 ix c1 c2))), (b 1, .inl (cA 0, 8, .inl (bk 4 ix w0 y0))), (b 2, .inl (cA 0, 8, .inl (bk 4 ix w1 y1))), (b 3, .inl (cA 0, 8, .inl (bk 4 ix w2 y2)))]) [3, 4, 0, 1, 2] (by decide) rfl
        clear hPc hDc hFc hP1 hD1 hk1 hz1
        have hw_7 := hw
        rcases z_bool hw with ⟨h_7, rfl⟩ | ⟨h_7, rfl⟩
        · exact absurd h_7 hsh
        · skip
          refine lv_if_eq (tgt := 63) hx hb dX4_wish_56 (by decide) (fun _ => ?_) (fun c_8 => absurd c_8 (by decide))
          refine lv_iconst (v := 2) hx hb dX4_wish_63 (by decide) ?_
          have hPc := hP.sub (ws' := [cM b mm]) [0] rfl
          have hDc := hD.sub (ws' := [cM b mm]) [0] (by decide) rfl
          have hFc := va_free (wc := [cM b mm]) hD hS hA [0] rfl
          refine va_calli (va_runV (As := [.int 2]) (rest := []) ⟨hx, hb, hml, hown, hts⟩ (c_X4_can l D cA H.size b mm 2) (cwV 1 hts gX4_wish_X4_can rfl rfl rfl (by decide +kernel) ⟨Nat.le_of_ble_eq_true rfl, Nat.le_of_ble_eq_true rfl⟩) ⟨zU_blind, va_recv hK hPc (ci := 6) (q0 := 0) rfl rfl, fun U hU hW => ⟨rfl, zU_call hU hPc hW.alike hK hDc⟩⟩ rfl rfl hl.1 rfl (lv_room (Nat.le_of_ble_eq_true rfl)) dX4_wish_64 ⟨(Nat.zero_le _), (Nat.zero_le _)⟩) hS (fun q _ h => hFc q h) hFc (fun zr u t H1 locs ht hvm hw hB hz1 hk1 hS => ?_)
          obtain ⟨mm'_9, rfl⟩ : ∃ z, z = u := ⟨_, rfl⟩
          obtain ⟨hP1, hD1⟩ := hB
          rw [ht] at hP1
          try dsimp only at hw hP1 hD1
          obtain ⟨hP, hD⟩ := va_join (wr := [(b 9, .inl (cA 0, 2, .inl (t2 ix c1 c2))), (b 1, .inl (cA 0, 8, .inl (bk 4 ix w0 y0))), (b 2, .inl (cA 0, 8, .inl (bk 4 ix w1 y1))), (b 3, .inl (cA 0, 8, .inl (bk 4 ix w2 y2)))]) (w1 := [cM b mm'_9]) hP hD [0] [1, 2, 3, 4] rfl rfl (by decide) (by decide) hk1 hFc hP1 hD1
          generalize H1 = H at hP hS ⊢
          have hP := hP.sub (ws' := [cM b mm'_9, (b 9, .inl (cA 0, 2, .inl (t2 ix c1 c2))), (b 1, .inl (cA 0, 8, .inl (bk 4 ix w0 y0))), (b 2, .inl (cA 0, 8, .inl (bk 4 ix w1 y1))), (b 3, .inl (cA 0, 8, .inl (bk 4 ix w2 y2)))]) [4, 0, 1, 2, 3] rfl
          have hD := hD.sub (ws' := [cM b mm'_9, (b 9, .inl (cA 0, 2, .inl (t2 ix c1 c2))), (b 1, .inl (cA 0, 8, .inl (bk 4 ix w0 y0))), (b 2, .inl (cA 0, 8, .inl (bk 4 ix w1 y1))), (b 3, .inl (cA 0, 8, .inl (bk 4 ix w2 y2)))]) [4, 0, 1, 2, 3] (by decide) rfl
          clear hPc hDc hFc hP1 hD1 hk1 hz1
          obtain ⟨rfl, hw⟩ := hw
          have hw_9 := hw
          rcases z_bool hw with ⟨h_9, rfl⟩ | ⟨h_9, rfl⟩
          · exact absurd h_9 (by decide)
          · skip
            refine lv_if_ne (tgt := 72) hx hb dX4_wish_67 (by decide) (fun c_10 => absurd c_10 (by decide)) (fun _ => ?_)
            refine lv_iconst (v := 0) hx hb dX4_wish_70 (by decide) ?_
            refine W.widen (k := 0) (n := 0) (by omega) (by omega) ?_
            exact W.iret (v := 0) hx hb hr (fun t ht hW => ⟨⟨0, ((upd mm 6 2)), rfl, ⟨rfl, rfl⟩, ⟨by rw [ht]; exact hP, by rw [hAe]; exact hD⟩⟩, hS.F ht⟩) hS.2.2 dX4_wish_71
      · skip
        have hin := hwi.resolve_left c_5
        refine lv_iload_n hx hb dX4_wish_23 rfl (lv_at hl 3 rfl) ?_
        refine lv_iload hx hb dX4_wish_24 (lv_at hl 4 rfl) ?_
        refine lv_iload hx hb dX4_wish_26 (lv_at hl 5 rfl) ?_
        have hPc := hP.sub (ws' := []) [] rfl
        have hDc := hD.sub (ws' := []) [] (by decide) rfl
        have hFc := va_free (wc := []) hD hS hA [] rfl
        refine va_calli (va_runS (As := [.int wi, .int le, .int mo]) (rest := []) ⟨hx, hb, hml, hown, hts⟩ (c_X4_isIn l D cA H.size wi le mo) (va_cwS 3 hts gX4_wish_X4_isIn rfl rfl rfl (by decide +kernel) ⟨Nat.le_of_ble_eq_true rfl, Nat.le_of_ble_eq_true rfl⟩) ⟨zU_blind, fun U hU hW => ⟨rfl, zU_call hU hPc hW.alike hK hDc⟩⟩ rfl rfl hl.1 rfl (lv_room (Nat.le_of_ble_eq_true rfl)) dX4_wish_28 ⟨(Nat.zero_le _), (Nat.zero_le _)⟩) hS (fun q _ h => hFc q h) hFc (fun zr u t H1 locs ht hvm hw hB hz1 hk1 hS => ?_)
        obtain ⟨hP1, hD1⟩ := hB
        rw [ht] at hP1
        obtain ⟨hP, hD⟩ := va_join (wr := [cM b mm, (b 9, .inl (cA 0, 2, .inl (t2 ix c1 c2))), (b 1, .inl (cA 0, 8, .inl (bk 4 ix w0 y0))), (b 2, .inl (cA 0, 8, .inl (bk 4 ix w1 y1))), (b 3, .inl (cA 0, 8, .inl (bk 4 ix w2 y2)))]) (w1 := []) hP hD [] [0, 1, 2, 3, 4] rfl rfl (by decide) (by decide) hk1 hFc hP1 hD1
        generalize H1 = H at hP hS ⊢
        have hP := hP.sub (ws' := [cM b mm, (b 9, .inl (cA 0, 2, .inl (t2 ix c1 c2))), (b 1, .inl (cA 0, 8, .inl (bk 4 ix w0 y0))), (b 2, .inl (cA 0, 8, .inl (bk 4 ix w1 y1))), (b 3, .inl (cA 0, 8, .inl (bk 4 ix w2 y2)))]) [0, 1, 2, 3, 4] rfl
        have hD := hD.sub (ws' := [cM b mm, (b 9, .inl (cA 0, 2, .inl (t2 ix c1 c2))), (b 1, .inl (cA 0, 8, .inl (bk 4 ix w0 y0))), (b 2, .inl (cA 0, 8, .inl (bk 4 ix w1 y1))), (b 3, .inl (cA 0, 8, .inl (bk 4 ix w2 y2)))]) [0, 1, 2, 3, 4] (by decide) rfl
        clear hPc hDc hFc hP1 hD1 hk1 hz1
        have hw_11 := hw
        rcases z_bool hw with ⟨h_11, rfl⟩ | ⟨h_11, rfl⟩
        · skip
          refine lv_if_eq (tgt := 38) hx hb dX4_wish_31 (by decide) (fun c_12 => absurd c_12 (by decide)) (fun _ => ?_)
          refine lv_iconst (v := 1) hx hb dX4_wish_34 (by decide) ?_
          refine lv_goto (tgt := 39) hx hb dX4_wish_35 (by decide) ?_
          refine lv_istore (lv' := [(6, .int 1), (0, .ref (b 0)), (1, .int (nI ix)), (2, .int (nI k)), (3, .int wi), (4, .int le), (5, .int mo)]) hx hb dX4_wish_39 hl (by decide) rfl (fun ls hl => ?_)
          refine lv_aload_n hx hb dX4_wish_41 rfl (lv_at hl 1 rfl) ?_
          refine lv_iload hx hb dX4_wish_42 (lv_at hl 0 rfl) ?_
          refine lv_if_ne (tgt := 51) hx hb dX4_wish_44 (by decide) (fun _ => ?_) (fun c_13 => absurd c_13 (by decide))
          refine lv_aload_n hx hb dX4_wish_51 rfl (lv_at hl 1 rfl) ?_
          refine lv_iload_n hx hb dX4_wish_52 rfl (lv_at hl 2 rfl) ?_
          have hPc := hP.sub (ws' := [cM b mm, (b 9, .inl (cA 0, 2, .inl (t2 ix c1 c2)))]) [0, 1] rfl
          have hDc := hD.sub (ws' := [cM b mm, (b 9, .inl (cA 0, 2, .inl (t2 ix c1 c2)))]) [0, 1] (by decide) rfl
          have hFc := va_free (wc := [cM b mm, (b 9, .inl (cA 0, 2, .inl (t2 ix c1 c2)))]) hD hS hA [0, 1] rfl
          refine va_calli (va_runV (As := [.int (nI ix)]) (rest := [.ref (b 0)]) ⟨hx, hb, hml, hown, hts⟩ (c_X4_isShut l D cA H.size b mm ix c1 c2 (by assumption)) (cwV 1 hts gX4_wish_X4_isShut rfl rfl rfl (by decide +kernel) ⟨Nat.le_of_ble_eq_true rfl, Nat.le_of_ble_eq_true rfl⟩) ⟨zU_blind, va_recv hK hPc (ci := 6) (q0 := 0) rfl rfl, fun U hU hW => ⟨rfl, zU_call hU hPc hW.alike hK hDc⟩⟩ rfl rfl hl.1 rfl (lv_room (Nat.le_of_ble_eq_true rfl)) dX4_wish_53 ⟨(Nat.zero_le _), (Nat.zero_le _)⟩) hS (fun q _ h => hFc q h) hFc (fun zr u t H1 locs ht hvm hw hB hz1 hk1 hS => ?_)
          obtain ⟨hP1, hD1⟩ := hB
          rw [ht] at hP1
          obtain ⟨hP, hD⟩ := va_join (wr := [(b 1, .inl (cA 0, 8, .inl (bk 4 ix w0 y0))), (b 2, .inl (cA 0, 8, .inl (bk 4 ix w1 y1))), (b 3, .inl (cA 0, 8, .inl (bk 4 ix w2 y2)))]) (w1 := [cM b mm, (b 9, .inl (cA 0, 2, .inl (t2 ix c1 c2)))]) hP hD [0, 1] [2, 3, 4] rfl rfl (by decide) (by decide) hk1 hFc hP1 hD1
          generalize H1 = H at hP hS ⊢
          have hP := hP.sub (ws' := [cM b mm, (b 9, .inl (cA 0, 2, .inl (t2 ix c1 c2))), (b 1, .inl (cA 0, 8, .inl (bk 4 ix w0 y0))), (b 2, .inl (cA 0, 8, .inl (bk 4 ix w1 y1))), (b 3, .inl (cA 0, 8, .inl (bk 4 ix w2 y2)))]) [3, 4, 0, 1, 2] rfl
          have hD := hD.sub (ws' := [cM b mm, (b 9, .inl (cA 0, 2, .inl (t2 ix c1 c2))), (b 1, .inl (cA 0, 8, .inl (bk 4 ix w0 y0))), (b 2, .inl (cA 0, 8, .inl (bk 4 ix w1 y1))), (b 3, .inl (cA 0, 8, .inl (bk 4 ix w2 y2)))]) [3, 4, 0, 1, 2] (by decide) rfl
          clear hPc hDc hFc hP1 hD1 hk1 hz1
          have hw_14 := hw
          rcases z_bool hw with ⟨h_14, rfl⟩ | ⟨h_14, rfl⟩
          · exact absurd h_14 hsh
          · skip
            refine lv_if_eq (tgt := 63) hx hb dX4_wish_56 (by decide) (fun _ => ?_) (fun c_15 => absurd c_15 (by decide))
            refine lv_iconst (v := 2) hx hb dX4_wish_63 (by decide) ?_
            have hPc := hP.sub (ws' := [cM b mm]) [0] rfl
            have hDc := hD.sub (ws' := [cM b mm]) [0] (by decide) rfl
            have hFc := va_free (wc := [cM b mm]) hD hS hA [0] rfl
            refine va_calli (va_runV (As := [.int 2]) (rest := []) ⟨hx, hb, hml, hown, hts⟩ (c_X4_can l D cA H.size b mm 2) (cwV 1 hts gX4_wish_X4_can rfl rfl rfl (by decide +kernel) ⟨Nat.le_of_ble_eq_true rfl, Nat.le_of_ble_eq_true rfl⟩) ⟨zU_blind, va_recv hK hPc (ci := 6) (q0 := 0) rfl rfl, fun U hU hW => ⟨rfl, zU_call hU hPc hW.alike hK hDc⟩⟩ rfl rfl hl.1 rfl (lv_room (Nat.le_of_ble_eq_true rfl)) dX4_wish_64 ⟨(Nat.zero_le _), (Nat.zero_le _)⟩) hS (fun q _ h => hFc q h) hFc (fun zr u t H1 locs ht hvm hw hB hz1 hk1 hS => ?_)
            obtain ⟨mm'_16, rfl⟩ : ∃ z, z = u := ⟨_, rfl⟩
            obtain ⟨hP1, hD1⟩ := hB
            rw [ht] at hP1
            try dsimp only at hw hP1 hD1
            obtain ⟨hP, hD⟩ := va_join (wr := [(b 9, .inl (cA 0, 2, .inl (t2 ix c1 c2))), (b 1, .inl (cA 0, 8, .inl (bk 4 ix w0 y0))), (b 2, .inl (cA 0, 8, .inl (bk 4 ix w1 y1))), (b 3, .inl (cA 0, 8, .inl (bk 4 ix w2 y2)))]) (w1 := [cM b mm'_16]) hP hD [0] [1, 2, 3, 4] rfl rfl (by decide) (by decide) hk1 hFc hP1 hD1
            generalize H1 = H at hP hS ⊢
            have hP := hP.sub (ws' := [cM b mm'_16, (b 9, .inl (cA 0, 2, .inl (t2 ix c1 c2))), (b 1, .inl (cA 0, 8, .inl (bk 4 ix w0 y0))), (b 2, .inl (cA 0, 8, .inl (bk 4 ix w1 y1))), (b 3, .inl (cA 0, 8, .inl (bk 4 ix w2 y2)))]) [4, 0, 1, 2, 3] rfl
            have hD := hD.sub (ws' := [cM b mm'_16, (b 9, .inl (cA 0, 2, .inl (t2 ix c1 c2))), (b 1, .inl (cA 0, 8, .inl (bk 4 ix w0 y0))), (b 2, .inl (cA 0, 8, .inl (bk 4 ix w1 y1))), (b 3, .inl (cA 0, 8, .inl (bk 4 ix w2 y2)))]) [4, 0, 1, 2, 3] (by decide) rfl
            clear hPc hDc hFc hP1 hD1 hk1 hz1
            obtain ⟨rfl, hw⟩ := hw
            have hw_16 := hw
            rcases z_bool hw with ⟨h_16, rfl⟩ | ⟨h_16, rfl⟩
            · exact absurd h_16 (by decide)
            · skip
              refine lv_if_ne (tgt := 72) hx hb dX4_wish_67 (by decide) (fun c_17 => absurd c_17 (by decide)) (fun _ => ?_)
              refine lv_iconst (v := 0) hx hb dX4_wish_70 (by decide) ?_
              refine W.widen (k := 0) (n := 0) (by omega) (by omega) ?_
              exact W.iret (v := 0) hx hb hr (fun t ht hW => ⟨⟨0, ((upd mm 6 2)), rfl, ⟨rfl, rfl⟩, ⟨by rw [ht]; exact hP, by rw [hAe]; exact hD⟩⟩, hS.F ht⟩) hS.2.2 dX4_wish_71
        · exact absurd hin h_11
    · exact absurd hsp h_3
  · exact absurd ⟨inr_ix hix, inr_k hk⟩ h_1
set_option maxHeartbeats 4000000 in
set_option maxRecDepth 100000 in
theorem c_X4_wish_b (l : Launch) (D : va_G) (cA : Nat → ClassId) (sz : Nat) (b : Nat → Nat) (mm : Nat → Int32) (n o wi le mo : Int32) (hn : ¬ ((inr n 0 1 ∧ inr o 0 3) ∧ (inr le 0 100 ∧ inr mo le 100) ∧ (wi = -1 ∨ inr wi le mo))) : Met l yX4_wish wsX4_wish ({ frames := 3, cells := 0, slots := 0, locals := 63 }) (va_Pc [.ref (b 0), .int n, .int o, .int wi, .int le, .int mo] (zU D cA sz [cM b mm])) (va_Qi (fun (r : Int32) (u : (Nat → Int32)) => u = upd mm 6 1) (fun (u : (Nat → Int32)) t => zB D [cM b mm] sz [cM b u] t) (va_A [cM b mm] sz)) 0 0 (va_A [cM b mm] sz) := by
  refine Met.ofW (cc := cX4_wish) (maxL := 9) (ret := (some .int)) (by decide) rfl ?_
  intro p e s m args below meth c s₁ B hml hv
  obtain ⟨rfl, hsz, hP, hK, hD0⟩ := hv
  have hx := B.exec
  have hb := B.bytes
  have hr := B.returns
  have hts := atoms_spec (ws := wsX4_wish) B.pre
  have hown : s.vm.findClass RX4 = some m.cls := findClass_of_methodNamed B.named
  have hlocks := B.notSynchronized
  subst hsz
  have hD := hD0.self (sz := s.heap.size)
  generalize hAe : va_A [cM b mm] s.heap.size = A at hD ⊢
  have hA : ∀ q : Nat, s.heap.size ≤ q → A q := fun q h => by rw [← hAe]; exact Or.inr h
  have hS : va_S A s.heap s.heap [] := va_S.rf
  have hl := lv_entry ([.ref (b 0), .int n, .int o, .int wi, .int le, .int mo]) (n := 9) (Nat.le_of_ble_eq_true rfl)
  rw [lg_entry_eq]
  generalize (lg_sl ([.ref (b 0), .int n, .int o, .int wi, .int le, .int mo]) ++ List.replicate (9 - (lg_sl ([.ref (b 0), .int n, .int o, .int wi, .int le, .int mo])).length) Slot.unset).toArray = ls at hl ⊢
  have hl : lv_has ls 9 [(0, .ref (b 0)), (1, .int n), (2, .int o), (3, .int wi), (4, .int le), (5, .int mo)] := hl
  refine lv_iload_n hx hb dX4_wish_0 rfl (lv_at hl 1 rfl) ?_
  refine lv_iload_n hx hb dX4_wish_1 rfl (lv_at hl 2 rfl) ?_
  have hPc := hP.sub (ws' := []) [] rfl
  have hDc := hD.sub (ws' := []) [] (by decide) rfl
  have hFc := va_free (wc := []) hD hS hA [] rfl
  refine va_calli (va_runS (As := [.int n, .int o]) (rest := []) ⟨hx, hb, hml, hown, hts⟩ (c_X4_isOption l D cA s.heap.size n o) (va_cwS 2 hts gX4_wish_X4_isOption rfl rfl rfl (by decide +kernel) ⟨Nat.le_of_ble_eq_true rfl, Nat.le_of_ble_eq_true rfl⟩) ⟨zU_blind, fun U hU hW => ⟨rfl, zU_call hU hPc hW.alike hK hDc⟩⟩ rfl rfl hl.1 rfl (lv_room (Nat.le_of_ble_eq_true rfl)) dX4_wish_2 ⟨(Nat.zero_le _), (Nat.zero_le _)⟩) hS (fun q _ h => hFc q h) hFc (fun zr u t H1 locs ht hvm hw hB hz1 hk1 hS => ?_)
  obtain ⟨hP1, hD1⟩ := hB
  rw [ht] at hP1
  obtain ⟨hP, hD⟩ := va_join (wr := [cM b mm]) (w1 := []) hP hD [] [0] rfl rfl (by decide) (by decide) hk1 hFc hP1 hD1
  generalize H1 = H at hP hS ⊢
  have hP := hP.sub (ws' := [cM b mm]) [0] rfl
  have hD := hD.sub (ws' := [cM b mm]) [0] (by decide) rfl
  clear hPc hDc hFc hP1 hD1 hk1 hz1
  have hw_1 := hw
  rcases z_bool hw with ⟨h_1, rfl⟩ | ⟨h_1, rfl⟩
  · skip
    refine lv_if_eq (tgt := 38) hx hb dX4_wish_5 (by decide) (fun c_2 => absurd c_2 (by decide)) (fun _ => ?_)
    refine lv_iload hx hb dX4_wish_8 (lv_at hl 4 rfl) ?_
    refine lv_iload hx hb dX4_wish_10 (lv_at hl 5 rfl) ?_
    have hPc := hP.sub (ws' := []) [] rfl
    have hDc := hD.sub (ws' := []) [] (by decide) rfl
    have hFc := va_free (wc := []) hD hS hA [] rfl
    refine va_calli (va_runS (As := [.int le, .int mo]) (rest := []) ⟨hx, hb, hml, hown, hts⟩ (c_X4_isSpan l D cA H.size le mo) (va_cwS 2 hts gX4_wish_X4_isSpan rfl rfl rfl (by decide +kernel) ⟨Nat.le_of_ble_eq_true rfl, Nat.le_of_ble_eq_true rfl⟩) ⟨zU_blind, fun U hU hW => ⟨rfl, zU_call hU hPc hW.alike hK hDc⟩⟩ rfl rfl hl.1 rfl (lv_room (Nat.le_of_ble_eq_true rfl)) dX4_wish_12 ⟨(Nat.zero_le _), (Nat.zero_le _)⟩) hS (fun q _ h => hFc q h) hFc (fun zr u t H1 locs ht hvm hw hB hz1 hk1 hS => ?_)
    obtain ⟨hP1, hD1⟩ := hB
    rw [ht] at hP1
    obtain ⟨hP, hD⟩ := va_join (wr := [cM b mm]) (w1 := []) hP hD [] [0] rfl rfl (by decide) (by decide) hk1 hFc hP1 hD1
    generalize H1 = H at hP hS ⊢
    have hP := hP.sub (ws' := [cM b mm]) [0] rfl
    have hD := hD.sub (ws' := [cM b mm]) [0] (by decide) rfl
    clear hPc hDc hFc hP1 hD1 hk1 hz1
    have hw_3 := hw
    rcases z_bool hw with ⟨h_3, rfl⟩ | ⟨h_3, rfl⟩
    · skip
      refine lv_if_eq (tgt := 38) hx hb dX4_wish_15 (by decide) (fun c_4 => absurd c_4 (by decide)) (fun _ => ?_)
      refine lv_iload_n hx hb dX4_wish_18 rfl (lv_at hl 3 rfl) ?_
      refine lv_iconst (v := (-1)) hx hb dX4_wish_19 (by decide) ?_
      refine lv_icmp_eq (tgt := 34) hx hb dX4_wish_20 (by decide) (fun c_5 => ?_) (fun c_5 => ?_)
      · skip
        exact absurd ⟨h_1, h_3, Or.inl c_5⟩ hn
      · skip
        refine lv_iload_n hx hb dX4_wish_23 rfl (lv_at hl 3 rfl) ?_
        refine lv_iload hx hb dX4_wish_24 (lv_at hl 4 rfl) ?_
        refine lv_iload hx hb dX4_wish_26 (lv_at hl 5 rfl) ?_
        have hPc := hP.sub (ws' := []) [] rfl
        have hDc := hD.sub (ws' := []) [] (by decide) rfl
        have hFc := va_free (wc := []) hD hS hA [] rfl
        refine va_calli (va_runS (As := [.int wi, .int le, .int mo]) (rest := []) ⟨hx, hb, hml, hown, hts⟩ (c_X4_isIn l D cA H.size wi le mo) (va_cwS 3 hts gX4_wish_X4_isIn rfl rfl rfl (by decide +kernel) ⟨Nat.le_of_ble_eq_true rfl, Nat.le_of_ble_eq_true rfl⟩) ⟨zU_blind, fun U hU hW => ⟨rfl, zU_call hU hPc hW.alike hK hDc⟩⟩ rfl rfl hl.1 rfl (lv_room (Nat.le_of_ble_eq_true rfl)) dX4_wish_28 ⟨(Nat.zero_le _), (Nat.zero_le _)⟩) hS (fun q _ h => hFc q h) hFc (fun zr u t H1 locs ht hvm hw hB hz1 hk1 hS => ?_)
        obtain ⟨hP1, hD1⟩ := hB
        rw [ht] at hP1
        obtain ⟨hP, hD⟩ := va_join (wr := [cM b mm]) (w1 := []) hP hD [] [0] rfl rfl (by decide) (by decide) hk1 hFc hP1 hD1
        generalize H1 = H at hP hS ⊢
        have hP := hP.sub (ws' := [cM b mm]) [0] rfl
        have hD := hD.sub (ws' := [cM b mm]) [0] (by decide) rfl
        clear hPc hDc hFc hP1 hD1 hk1 hz1
        have hw_6 := hw
        rcases z_bool hw with ⟨h_6, rfl⟩ | ⟨h_6, rfl⟩
        · skip
          refine lv_if_eq (tgt := 38) hx hb dX4_wish_31 (by decide) (fun c_7 => absurd c_7 (by decide)) (fun _ => ?_)
          exact absurd ⟨h_1, h_3, Or.inr h_6⟩ hn
        · skip
          refine lv_if_eq (tgt := 38) hx hb dX4_wish_31 (by decide) (fun _ => ?_) (fun c_8 => absurd c_8 (by decide))
          refine lv_iconst (v := 0) hx hb dX4_wish_38 (by decide) ?_
          refine lv_istore (lv' := [(6, .int 0), (0, .ref (b 0)), (1, .int n), (2, .int o), (3, .int wi), (4, .int le), (5, .int mo)]) hx hb dX4_wish_39 hl (by decide) rfl (fun ls hl => ?_)
          refine lv_aload_n hx hb dX4_wish_41 rfl (lv_at hl 1 rfl) ?_
          refine lv_iload hx hb dX4_wish_42 (lv_at hl 0 rfl) ?_
          refine lv_if_ne (tgt := 51) hx hb dX4_wish_44 (by decide) (fun c_9 => absurd c_9 (by decide)) (fun _ => ?_)
          refine lv_iconst (v := 1) hx hb dX4_wish_47 (by decide) ?_
          refine lv_goto (tgt := 64) hx hb dX4_wish_48 (by decide) ?_
          have hPc := hP.sub (ws' := [cM b mm]) [0] rfl
          have hDc := hD.sub (ws' := [cM b mm]) [0] (by decide) rfl
          have hFc := va_free (wc := [cM b mm]) hD hS hA [0] rfl
          refine va_calli (va_runV (As := [.int 1]) (rest := []) ⟨hx, hb, hml, hown, hts⟩ (c_X4_can l D cA H.size b mm 1) (cwV 1 hts gX4_wish_X4_can rfl rfl rfl (by decide +kernel) ⟨Nat.le_of_ble_eq_true rfl, Nat.le_of_ble_eq_true rfl⟩) ⟨zU_blind, va_recv hK hPc (ci := 6) (q0 := 0) rfl rfl, fun U hU hW => ⟨rfl, zU_call hU hPc hW.alike hK hDc⟩⟩ rfl rfl hl.1 rfl (lv_room (Nat.le_of_ble_eq_true rfl)) dX4_wish_64 ⟨(Nat.zero_le _), (Nat.zero_le _)⟩) hS (fun q _ h => hFc q h) hFc (fun zr u t H1 locs ht hvm hw hB hz1 hk1 hS => ?_)
          obtain ⟨mm'_10, rfl⟩ : ∃ z, z = u := ⟨_, rfl⟩
          obtain ⟨hP1, hD1⟩ := hB
          rw [ht] at hP1
          try dsimp only at hw hP1 hD1
          obtain ⟨hP, hD⟩ := va_join (wr := []) (w1 := [cM b mm'_10]) hP hD [0] [] rfl rfl (by decide) (by decide) hk1 hFc hP1 hD1
          generalize H1 = H at hP hS ⊢
          have hP := hP.sub (ws' := [cM b mm'_10]) [0] rfl
          have hD := hD.sub (ws' := [cM b mm'_10]) [0] (by decide) rfl
          clear hPc hDc hFc hP1 hD1 hk1 hz1
          obtain ⟨rfl, hw⟩ := hw
          have hw_10 := hw
          rcases z_bool hw with ⟨h_10, rfl⟩ | ⟨h_10, rfl⟩
          · exact absurd h_10 (by decide)
          · skip
            refine lv_if_ne (tgt := 72) hx hb dX4_wish_67 (by decide) (fun c_11 => absurd c_11 (by decide)) (fun _ => ?_)
            refine lv_iconst (v := 0) hx hb dX4_wish_70 (by decide) ?_
            refine W.widen (k := 0) (n := 0) (by omega) (by omega) ?_
            exact W.iret (v := 0) hx hb hr (fun t ht hW => ⟨⟨0, ((upd mm 6 1)), rfl, rfl, ⟨by rw [ht]; exact hP, by rw [hAe]; exact hD⟩⟩, hS.F ht⟩) hS.2.2 dX4_wish_71
    · skip
      refine lv_if_eq (tgt := 38) hx hb dX4_wish_15 (by decide) (fun _ => ?_) (fun c_12 => absurd c_12 (by decide))
      refine lv_iconst (v := 0) hx hb dX4_wish_38 (by decide) ?_
      refine lv_istore (lv' := [(6, .int 0), (0, .ref (b 0)), (1, .int n), (2, .int o), (3, .int wi), (4, .int le), (5, .int mo)]) hx hb dX4_wish_39 hl (by decide) rfl (fun ls hl => ?_)
      refine lv_aload_n hx hb dX4_wish_41 rfl (lv_at hl 1 rfl) ?_
      refine lv_iload hx hb dX4_wish_42 (lv_at hl 0 rfl) ?_
      refine lv_if_ne (tgt := 51) hx hb dX4_wish_44 (by decide) (fun c_13 => absurd c_13 (by decide)) (fun _ => ?_)
      refine lv_iconst (v := 1) hx hb dX4_wish_47 (by decide) ?_
      refine lv_goto (tgt := 64) hx hb dX4_wish_48 (by decide) ?_
      have hPc := hP.sub (ws' := [cM b mm]) [0] rfl
      have hDc := hD.sub (ws' := [cM b mm]) [0] (by decide) rfl
      have hFc := va_free (wc := [cM b mm]) hD hS hA [0] rfl
      refine va_calli (va_runV (As := [.int 1]) (rest := []) ⟨hx, hb, hml, hown, hts⟩ (c_X4_can l D cA H.size b mm 1) (cwV 1 hts gX4_wish_X4_can rfl rfl rfl (by decide +kernel) ⟨Nat.le_of_ble_eq_true rfl, Nat.le_of_ble_eq_true rfl⟩) ⟨zU_blind, va_recv hK hPc (ci := 6) (q0 := 0) rfl rfl, fun U hU hW => ⟨rfl, zU_call hU hPc hW.alike hK hDc⟩⟩ rfl rfl hl.1 rfl (lv_room (Nat.le_of_ble_eq_true rfl)) dX4_wish_64 ⟨(Nat.zero_le _), (Nat.zero_le _)⟩) hS (fun q _ h => hFc q h) hFc (fun zr u t H1 locs ht hvm hw hB hz1 hk1 hS => ?_)
      obtain ⟨mm'_14, rfl⟩ : ∃ z, z = u := ⟨_, rfl⟩
      obtain ⟨hP1, hD1⟩ := hB
      rw [ht] at hP1
      try dsimp only at hw hP1 hD1
      obtain ⟨hP, hD⟩ := va_join (wr := []) (w1 := [cM b mm'_14]) hP hD [0] [] rfl rfl (by decide) (by decide) hk1 hFc hP1 hD1
      generalize H1 = H at hP hS ⊢
      have hP := hP.sub (ws' := [cM b mm'_14]) [0] rfl
      have hD := hD.sub (ws' := [cM b mm'_14]) [0] (by decide) rfl
      clear hPc hDc hFc hP1 hD1 hk1 hz1
      obtain ⟨rfl, hw⟩ := hw
      have hw_14 := hw
      rcases z_bool hw with ⟨h_14, rfl⟩ | ⟨h_14, rfl⟩
      · exact absurd h_14 (by decide)
      · skip
        refine lv_if_ne (tgt := 72) hx hb dX4_wish_67 (by decide) (fun c_15 => absurd c_15 (by decide)) (fun _ => ?_)
        refine lv_iconst (v := 0) hx hb dX4_wish_70 (by decide) ?_
        refine W.widen (k := 0) (n := 0) (by omega) (by omega) ?_
        exact W.iret (v := 0) hx hb hr (fun t ht hW => ⟨⟨0, ((upd mm 6 1)), rfl, rfl, ⟨by rw [ht]; exact hP, by rw [hAe]; exact hD⟩⟩, hS.F ht⟩) hS.2.2 dX4_wish_71
  · skip
    refine lv_if_eq (tgt := 38) hx hb dX4_wish_5 (by decide) (fun _ => ?_) (fun c_16 => absurd c_16 (by decide))
    refine lv_iconst (v := 0) hx hb dX4_wish_38 (by decide) ?_
    refine lv_istore (lv' := [(6, .int 0), (0, .ref (b 0)), (1, .int n), (2, .int o), (3, .int wi), (4, .int le), (5, .int mo)]) hx hb dX4_wish_39 hl (by decide) rfl (fun ls hl => ?_)
    refine lv_aload_n hx hb dX4_wish_41 rfl (lv_at hl 1 rfl) ?_
    refine lv_iload hx hb dX4_wish_42 (lv_at hl 0 rfl) ?_
    refine lv_if_ne (tgt := 51) hx hb dX4_wish_44 (by decide) (fun c_17 => absurd c_17 (by decide)) (fun _ => ?_)
    refine lv_iconst (v := 1) hx hb dX4_wish_47 (by decide) ?_
    refine lv_goto (tgt := 64) hx hb dX4_wish_48 (by decide) ?_
    have hPc := hP.sub (ws' := [cM b mm]) [0] rfl
    have hDc := hD.sub (ws' := [cM b mm]) [0] (by decide) rfl
    have hFc := va_free (wc := [cM b mm]) hD hS hA [0] rfl
    refine va_calli (va_runV (As := [.int 1]) (rest := []) ⟨hx, hb, hml, hown, hts⟩ (c_X4_can l D cA H.size b mm 1) (cwV 1 hts gX4_wish_X4_can rfl rfl rfl (by decide +kernel) ⟨Nat.le_of_ble_eq_true rfl, Nat.le_of_ble_eq_true rfl⟩) ⟨zU_blind, va_recv hK hPc (ci := 6) (q0 := 0) rfl rfl, fun U hU hW => ⟨rfl, zU_call hU hPc hW.alike hK hDc⟩⟩ rfl rfl hl.1 rfl (lv_room (Nat.le_of_ble_eq_true rfl)) dX4_wish_64 ⟨(Nat.zero_le _), (Nat.zero_le _)⟩) hS (fun q _ h => hFc q h) hFc (fun zr u t H1 locs ht hvm hw hB hz1 hk1 hS => ?_)
    obtain ⟨mm'_18, rfl⟩ : ∃ z, z = u := ⟨_, rfl⟩
    obtain ⟨hP1, hD1⟩ := hB
    rw [ht] at hP1
    try dsimp only at hw hP1 hD1
    obtain ⟨hP, hD⟩ := va_join (wr := []) (w1 := [cM b mm'_18]) hP hD [0] [] rfl rfl (by decide) (by decide) hk1 hFc hP1 hD1
    generalize H1 = H at hP hS ⊢
    have hP := hP.sub (ws' := [cM b mm'_18]) [0] rfl
    have hD := hD.sub (ws' := [cM b mm'_18]) [0] (by decide) rfl
    clear hPc hDc hFc hP1 hD1 hk1 hz1
    obtain ⟨rfl, hw⟩ := hw
    have hw_18 := hw
    rcases z_bool hw with ⟨h_18, rfl⟩ | ⟨h_18, rfl⟩
    · exact absurd h_18 (by decide)
    · skip
      refine lv_if_ne (tgt := 72) hx hb dX4_wish_67 (by decide) (fun c_19 => absurd c_19 (by decide)) (fun _ => ?_)
      refine lv_iconst (v := 0) hx hb dX4_wish_70 (by decide) ?_
      refine W.widen (k := 0) (n := 0) (by omega) (by omega) ?_
      exact W.iret (v := 0) hx hb hr (fun t ht hW => ⟨⟨0, ((upd mm 6 1)), rfl, rfl, ⟨by rw [ht]; exact hP, by rw [hAe]; exact hD⟩⟩, hS.F ht⟩) hS.2.2 dX4_wish_71
set_option maxHeartbeats 4000000 in
set_option maxRecDepth 100000 in
theorem c_X4_allow_k (l : Launch) (D : va_G) (cA : Nat → ClassId) (sz : Nat) (b : Nat → Nat) (mm : Nat → Int32) (ix : Nat) (c1 c2 : Int32) (k : Nat) (le mo : Int32) (w3 w4 y3 y4 : Nat → Int32) (hix : ix ≤ 1) (hk : k < 4) (hsp : inr le 0 100 ∧ inr mo le 100) (hsh : sSh c1) : Met l yX4_allow wsX4_allow ({ frames := 3, cells := 0, slots := 0, locals := 63 }) (va_Pc [.ref (b 0), .int (nI ix), .int (nI k), .int le, .int mo] (zU D cA sz [cM b mm, (b 9, .inl (cA 0, 2, .inl (t2 ix c1 c2))), (b 4, .inl (cA 0, 8, .inl (bk 4 ix w3 y3))), (b 5, .inl (cA 0, 8, .inl (bk 4 ix w4 y4)))])) (va_Qv (fun (u : (Nat → Int32)) => u = upd mm 6 0) (fun (u : (Nat → Int32)) t => zB D [cM b mm, (b 9, .inl (cA 0, 2, .inl (t2 ix c1 c2))), (b 4, .inl (cA 0, 8, .inl (bk 4 ix w3 y3))), (b 5, .inl (cA 0, 8, .inl (bk 4 ix w4 y4)))] sz [cM b u, (b 9, .inl (cA 0, 2, .inl (t2 ix c1 c2))), (b 4, .inl (cA 0, 8, .inl (bk 4 ix (upd w3 k le) y3))), (b 5, .inl (cA 0, 8, .inl (bk 4 ix (upd w4 k mo) y4)))] t) (va_A [cM b mm, (b 9, .inl (cA 0, 2, .inl (t2 ix c1 c2))), (b 4, .inl (cA 0, 8, .inl (bk 4 ix w3 y3))), (b 5, .inl (cA 0, 8, .inl (bk 4 ix w4 y4)))] sz)) 0 0 (va_A [cM b mm, (b 9, .inl (cA 0, 2, .inl (t2 ix c1 c2))), (b 4, .inl (cA 0, 8, .inl (bk 4 ix w3 y3))), (b 5, .inl (cA 0, 8, .inl (bk 4 ix w4 y4)))] sz) := by
  refine Met.ofW (cc := cX4_allow) (maxL := 5) (ret := none) (by decide) rfl ?_
  intro p e s m args below meth c s₁ B hml hv
  obtain ⟨rfl, hsz, hP, hK, hD0⟩ := hv
  have hx := B.exec
  have hb := B.bytes
  have hr := B.returns
  have hts := atoms_spec (ws := wsX4_allow) B.pre
  have hown : s.vm.findClass RX4 = some m.cls := findClass_of_methodNamed B.named
  have hlocks := B.notSynchronized
  subst hsz
  have hD := hD0.self (sz := s.heap.size)
  generalize hAe : va_A [cM b mm, (b 9, .inl (cA 0, 2, .inl (t2 ix c1 c2))), (b 4, .inl (cA 0, 8, .inl (bk 4 ix w3 y3))), (b 5, .inl (cA 0, 8, .inl (bk 4 ix w4 y4)))] s.heap.size = A at hD ⊢
  have hA : ∀ q : Nat, s.heap.size ≤ q → A q := fun q h => by rw [← hAe]; exact Or.inr h
  have hS : va_S A s.heap s.heap [] := va_S.rf
  have hl := lv_entry ([.ref (b 0), .int (nI ix), .int (nI k), .int le, .int mo]) (n := 5) (Nat.le_of_ble_eq_true rfl)
  rw [lg_entry_eq]
  generalize (lg_sl ([.ref (b 0), .int (nI ix), .int (nI k), .int le, .int mo]) ++ List.replicate (5 - (lg_sl ([.ref (b 0), .int (nI ix), .int (nI k), .int le, .int mo])).length) Slot.unset).toArray = ls at hl ⊢
  have hl : lv_has ls 5 [(0, .ref (b 0)), (1, .int (nI ix)), (2, .int (nI k)), (3, .int le), (4, .int mo)] := hl
  refine lv_aload_n hx hb dX4_allow_0 rfl (lv_at hl 0 rfl) ?_
  refine lv_iload_n hx hb dX4_allow_1 rfl (lv_at hl 1 rfl) ?_
  refine lv_iload_n hx hb dX4_allow_2 rfl (lv_at hl 2 rfl) ?_
  have hPc := hP.sub (ws' := []) [] rfl
  have hDc := hD.sub (ws' := []) [] (by decide) rfl
  have hFc := va_free (wc := []) hD hS hA [] rfl
  refine va_calli (va_runS (As := [.int (nI ix), .int (nI k)]) (rest := [.ref (b 0)]) ⟨hx, hb, hml, hown, hts⟩ (c_X4_isOption l D cA s.heap.size (nI ix) (nI k)) (va_cwS 2 hts gX4_allow_X4_isOption rfl rfl rfl (by decide +kernel) ⟨Nat.le_of_ble_eq_true rfl, Nat.le_of_ble_eq_true rfl⟩) ⟨zU_blind, fun U hU hW => ⟨rfl, zU_call hU hPc hW.alike hK hDc⟩⟩ rfl rfl hl.1 rfl (lv_room (Nat.le_of_ble_eq_true rfl)) dX4_allow_3 ⟨(Nat.zero_le _), (Nat.zero_le _)⟩) hS (fun q _ h => hFc q h) hFc (fun zr u t H1 locs ht hvm hw hB hz1 hk1 hS => ?_)
  obtain ⟨hP1, hD1⟩ := hB
  rw [ht] at hP1
  obtain ⟨hP, hD⟩ := va_join (wr := [cM b mm, (b 9, .inl (cA 0, 2, .inl (t2 ix c1 c2))), (b 4, .inl (cA 0, 8, .inl (bk 4 ix w3 y3))), (b 5, .inl (cA 0, 8, .inl (bk 4 ix w4 y4)))]) (w1 := []) hP hD [] [0, 1, 2, 3] rfl rfl (by decide) (by decide) hk1 hFc hP1 hD1
  generalize H1 = H at hP hS ⊢
  have hP := hP.sub (ws' := [cM b mm, (b 9, .inl (cA 0, 2, .inl (t2 ix c1 c2))), (b 4, .inl (cA 0, 8, .inl (bk 4 ix w3 y3))), (b 5, .inl (cA 0, 8, .inl (bk 4 ix w4 y4)))]) [0, 1, 2, 3] rfl
  have hD := hD.sub (ws' := [cM b mm, (b 9, .inl (cA 0, 2, .inl (t2 ix c1 c2))), (b 4, .inl (cA 0, 8, .inl (bk 4 ix w3 y3))), (b 5, .inl (cA 0, 8, .inl (bk 4 ix w4 y4)))]) [0, 1, 2, 3] (by decide) rfl
  clear hPc hDc hFc hP1 hD1 hk1 hz1
  have hw_1 := hw
  rcases z_bool hw with ⟨h_1, rfl⟩ | ⟨h_1, rfl⟩
  · skip
    refine lv_if_eq (tgt := 18) hx hb dX4_allow_6 (by decide) (fun c_2 => absurd c_2 (by decide)) (fun _ => ?_)
    refine lv_iload_n hx hb dX4_allow_9 rfl (lv_at hl 3 rfl) ?_
    refine lv_iload hx hb dX4_allow_10 (lv_at hl 4 rfl) ?_
    have hPc := hP.sub (ws' := []) [] rfl
    have hDc := hD.sub (ws' := []) [] (by decide) rfl
    have hFc := va_free (wc := []) hD hS hA [] rfl
    refine va_calli (va_runS (As := [.int le, .int mo]) (rest := [.ref (b 0)]) ⟨hx, hb, hml, hown, hts⟩ (c_X4_isSpan l D cA H.size le mo) (va_cwS 2 hts gX4_allow_X4_isSpan rfl rfl rfl (by decide +kernel) ⟨Nat.le_of_ble_eq_true rfl, Nat.le_of_ble_eq_true rfl⟩) ⟨zU_blind, fun U hU hW => ⟨rfl, zU_call hU hPc hW.alike hK hDc⟩⟩ rfl rfl hl.1 rfl (lv_room (Nat.le_of_ble_eq_true rfl)) dX4_allow_12 ⟨(Nat.zero_le _), (Nat.zero_le _)⟩) hS (fun q _ h => hFc q h) hFc (fun zr u t H1 locs ht hvm hw hB hz1 hk1 hS => ?_)
    obtain ⟨hP1, hD1⟩ := hB
    rw [ht] at hP1
    obtain ⟨hP, hD⟩ := va_join (wr := [cM b mm, (b 9, .inl (cA 0, 2, .inl (t2 ix c1 c2))), (b 4, .inl (cA 0, 8, .inl (bk 4 ix w3 y3))), (b 5, .inl (cA 0, 8, .inl (bk 4 ix w4 y4)))]) (w1 := []) hP hD [] [0, 1, 2, 3] rfl rfl (by decide) (by decide) hk1 hFc hP1 hD1
    generalize H1 = H at hP hS ⊢
    have hP := hP.sub (ws' := [cM b mm, (b 9, .inl (cA 0, 2, .inl (t2 ix c1 c2))), (b 4, .inl (cA 0, 8, .inl (bk 4 ix w3 y3))), (b 5, .inl (cA 0, 8, .inl (bk 4 ix w4 y4)))]) [0, 1, 2, 3] rfl
    have hD := hD.sub (ws' := [cM b mm, (b 9, .inl (cA 0, 2, .inl (t2 ix c1 c2))), (b 4, .inl (cA 0, 8, .inl (bk 4 ix w3 y3))), (b 5, .inl (cA 0, 8, .inl (bk 4 ix w4 y4)))]) [0, 1, 2, 3] (by decide) rfl
    clear hPc hDc hFc hP1 hD1 hk1 hz1
    have hw_3 := hw
    rcases z_bool hw with ⟨h_3, rfl⟩ | ⟨h_3, rfl⟩
    · skip
      refine lv_if_ne (tgt := 22) hx hb dX4_allow_15 (by decide) (fun _ => ?_) (fun c_4 => absurd c_4 (by decide))
      refine lv_aload_n hx hb dX4_allow_22 rfl (lv_at hl 0 rfl) ?_
      refine lv_iload_n hx hb dX4_allow_23 rfl (lv_at hl 1 rfl) ?_
      have hPc := hP.sub (ws' := [cM b mm, (b 9, .inl (cA 0, 2, .inl (t2 ix c1 c2)))]) [0, 1] rfl
      have hDc := hD.sub (ws' := [cM b mm, (b 9, .inl (cA 0, 2, .inl (t2 ix c1 c2)))]) [0, 1] (by decide) rfl
      have hFc := va_free (wc := [cM b mm, (b 9, .inl (cA 0, 2, .inl (t2 ix c1 c2)))]) hD hS hA [0, 1] rfl
      refine va_calli (va_runV (As := [.int (nI ix)]) (rest := [.ref (b 0)]) ⟨hx, hb, hml, hown, hts⟩ (c_X4_isShut l D cA H.size b mm ix c1 c2 (by assumption)) (cwV 1 hts gX4_allow_X4_isShut rfl rfl rfl (by decide +kernel) ⟨Nat.le_of_ble_eq_true rfl, Nat.le_of_ble_eq_true rfl⟩) ⟨zU_blind, va_recv hK hPc (ci := 6) (q0 := 0) rfl rfl, fun U hU hW => ⟨rfl, zU_call hU hPc hW.alike hK hDc⟩⟩ rfl rfl hl.1 rfl (lv_room (Nat.le_of_ble_eq_true rfl)) dX4_allow_24 ⟨(Nat.zero_le _), (Nat.zero_le _)⟩) hS (fun q _ h => hFc q h) hFc (fun zr u t H1 locs ht hvm hw hB hz1 hk1 hS => ?_)
      obtain ⟨hP1, hD1⟩ := hB
      rw [ht] at hP1
      obtain ⟨hP, hD⟩ := va_join (wr := [(b 4, .inl (cA 0, 8, .inl (bk 4 ix w3 y3))), (b 5, .inl (cA 0, 8, .inl (bk 4 ix w4 y4)))]) (w1 := [cM b mm, (b 9, .inl (cA 0, 2, .inl (t2 ix c1 c2)))]) hP hD [0, 1] [2, 3] rfl rfl (by decide) (by decide) hk1 hFc hP1 hD1
      generalize H1 = H at hP hS ⊢
      have hP := hP.sub (ws' := [cM b mm, (b 9, .inl (cA 0, 2, .inl (t2 ix c1 c2))), (b 4, .inl (cA 0, 8, .inl (bk 4 ix w3 y3))), (b 5, .inl (cA 0, 8, .inl (bk 4 ix w4 y4)))]) [2, 3, 0, 1] rfl
      have hD := hD.sub (ws' := [cM b mm, (b 9, .inl (cA 0, 2, .inl (t2 ix c1 c2))), (b 4, .inl (cA 0, 8, .inl (bk 4 ix w3 y3))), (b 5, .inl (cA 0, 8, .inl (bk 4 ix w4 y4)))]) [2, 3, 0, 1] (by decide) rfl
      clear hPc hDc hFc hP1 hD1 hk1 hz1
      have hw_5 := hw
      rcases z_bool hw with ⟨h_5, rfl⟩ | ⟨h_5, rfl⟩
      · skip
        refine lv_if_eq (tgt := 34) hx hb dX4_allow_27 (by decide) (fun c_6 => absurd c_6 (by decide)) (fun _ => ?_)
        refine lv_iconst (v := 0) hx hb dX4_allow_30 (by decide) ?_
        refine lv_goto (tgt := 35) hx hb dX4_allow_31 (by decide) ?_
        have hPc := hP.sub (ws' := [cM b mm]) [0] rfl
        have hDc := hD.sub (ws' := [cM b mm]) [0] (by decide) rfl
        have hFc := va_free (wc := [cM b mm]) hD hS hA [0] rfl
        refine va_calli (va_runV (As := [.int 0]) (rest := []) ⟨hx, hb, hml, hown, hts⟩ (c_X4_can l D cA H.size b mm 0) (cwV 1 hts gX4_allow_X4_can rfl rfl rfl (by decide +kernel) ⟨Nat.le_of_ble_eq_true rfl, Nat.le_of_ble_eq_true rfl⟩) ⟨zU_blind, va_recv hK hPc (ci := 6) (q0 := 0) rfl rfl, fun U hU hW => ⟨rfl, zU_call hU hPc hW.alike hK hDc⟩⟩ rfl rfl hl.1 rfl (lv_room (Nat.le_of_ble_eq_true rfl)) dX4_allow_35 ⟨(Nat.zero_le _), (Nat.zero_le _)⟩) hS (fun q _ h => hFc q h) hFc (fun zr u t H1 locs ht hvm hw hB hz1 hk1 hS => ?_)
        obtain ⟨mm'_7, rfl⟩ : ∃ z, z = u := ⟨_, rfl⟩
        obtain ⟨hP1, hD1⟩ := hB
        rw [ht] at hP1
        try dsimp only at hw hP1 hD1
        obtain ⟨hP, hD⟩ := va_join (wr := [(b 9, .inl (cA 0, 2, .inl (t2 ix c1 c2))), (b 4, .inl (cA 0, 8, .inl (bk 4 ix w3 y3))), (b 5, .inl (cA 0, 8, .inl (bk 4 ix w4 y4)))]) (w1 := [cM b mm'_7]) hP hD [0] [1, 2, 3] rfl rfl (by decide) (by decide) hk1 hFc hP1 hD1
        generalize H1 = H at hP hS ⊢
        have hP := hP.sub (ws' := [cM b mm'_7, (b 9, .inl (cA 0, 2, .inl (t2 ix c1 c2))), (b 4, .inl (cA 0, 8, .inl (bk 4 ix w3 y3))), (b 5, .inl (cA 0, 8, .inl (bk 4 ix w4 y4)))]) [3, 0, 1, 2] rfl
        have hD := hD.sub (ws' := [cM b mm'_7, (b 9, .inl (cA 0, 2, .inl (t2 ix c1 c2))), (b 4, .inl (cA 0, 8, .inl (bk 4 ix w3 y3))), (b 5, .inl (cA 0, 8, .inl (bk 4 ix w4 y4)))]) [3, 0, 1, 2] (by decide) rfl
        clear hPc hDc hFc hP1 hD1 hk1 hz1
        obtain ⟨rfl, hw⟩ := hw
        have hw_7 := hw
        rcases z_bool hw with ⟨h_7, rfl⟩ | ⟨h_7, rfl⟩
        · skip
          refine lv_if_eq (tgt := 64) hx hb dX4_allow_38 (by decide) (fun c_8 => absurd c_8 (by decide)) (fun _ => ?_)
          refine lv_aload_n hx hb dX4_allow_41 rfl (lv_at hl 0 rfl) ?_
          refine va_get (D := D) (ci := 6) (v := .ref (b 4)) (C := RX4) (T := TX4) (N := 29) hx hb hts (fun _ h => List.mem_cons_of_mem _ (List.mem_append_right _ (h))) hown hK hP 0 rfl rfl 5 (by decide) (hts (.fieldLink RX4 19 "OptionWireModel" "boundLeast" "[I") (List.mem_of_getElem? (i := 1) rfl)) (fun _ h9 => h9) rfl dX4_allow_42 ?_
          refine lv_iconst (v := 4) hx hb dX4_allow_45 (by decide) ?_
          refine lv_iload_n hx hb dX4_allow_46 rfl (lv_at hl 1 rfl) ?_
          refine lv_imul hx hb dX4_allow_47 ?_
          refine z_top (y := (nI (4 * ix))) (z_mul 4 ix) ?_
          refine lv_iload_n hx hb dX4_allow_48 rfl (lv_at hl 2 rfl) ?_
          refine lv_iadd hx hb dX4_allow_49 ?_
          refine z_top (y := (nI (4 * ix + k))) (z_add (4 * ix) k) ?_
          refine lv_iload_n hx hb dX4_allow_50 rfl (lv_at hl 3 rfl) ?_
          refine z_iast (k := (4 * ix + k)) hx hb hK hP hD hS 2 0 rfl rfl rfl (by omega) (by decide) dX4_allow_51 (fun H locs hP hD hS => ?_)
          have hP : va_P D vwCl [cM b (upd mm 6 0), (b 9, .inl (cA 0, 2, .inl (t2 ix c1 c2))), (b 4, .inl (cA 0, 8, .inl (upd (bk 4 ix w3 y3) (4 * ix + k) le))), (b 5, .inl (cA 0, 8, .inl (bk 4 ix w4 y4)))] H := hP
          have hD : va_D A [cM b (upd mm 6 0), (b 9, .inl (cA 0, 2, .inl (t2 ix c1 c2))), (b 4, .inl (cA 0, 8, .inl (upd (bk 4 ix w3 y3) (4 * ix + k) le))), (b 5, .inl (cA 0, 8, .inl (bk 4 ix w4 y4)))] := hD
          rw [show upd (bk 4 ix w3 y3) (4 * ix + k) le = bk 4 ix (upd w3 k le) y3 from (bk_ux (by omega))] at hP hD
          refine lv_aload_n hx hb dX4_allow_52 rfl (lv_at hl 0 rfl) ?_
          refine va_get (D := D) (ci := 6) (v := .ref (b 5)) (C := RX4) (T := TX4) (N := 29) hx hb hts (fun _ h => List.mem_cons_of_mem _ (List.mem_append_right _ (h))) hown hK hP 0 rfl rfl 6 (by decide) (hts (.fieldLink RX4 22 "OptionWireModel" "boundMost" "[I") (List.mem_of_getElem? (i := 2) rfl)) (fun _ h9 => h9) rfl dX4_allow_53 ?_
          refine lv_iconst (v := 4) hx hb dX4_allow_56 (by decide) ?_
          refine lv_iload_n hx hb dX4_allow_57 rfl (lv_at hl 1 rfl) ?_
          refine lv_imul hx hb dX4_allow_58 ?_
          refine z_top (y := (nI (4 * ix))) (z_mul 4 ix) ?_
          refine lv_iload_n hx hb dX4_allow_59 rfl (lv_at hl 2 rfl) ?_
          refine lv_iadd hx hb dX4_allow_60 ?_
          refine z_top (y := (nI (4 * ix + k))) (z_add (4 * ix) k) ?_
          refine lv_iload hx hb dX4_allow_61 (lv_at hl 4 rfl) ?_
          refine z_iast (k := (4 * ix + k)) hx hb hK hP hD hS 3 0 rfl rfl rfl (by omega) (by decide) dX4_allow_63 (fun H locs hP hD hS => ?_)
          have hP : va_P D vwCl [cM b (upd mm 6 0), (b 9, .inl (cA 0, 2, .inl (t2 ix c1 c2))), (b 4, .inl (cA 0, 8, .inl (bk 4 ix (upd w3 k le) y3))), (b 5, .inl (cA 0, 8, .inl (upd (bk 4 ix w4 y4) (4 * ix + k) mo)))] H := hP
          have hD : va_D A [cM b (upd mm 6 0), (b 9, .inl (cA 0, 2, .inl (t2 ix c1 c2))), (b 4, .inl (cA 0, 8, .inl (bk 4 ix (upd w3 k le) y3))), (b 5, .inl (cA 0, 8, .inl (upd (bk 4 ix w4 y4) (4 * ix + k) mo)))] := hD
          rw [show upd (bk 4 ix w4 y4) (4 * ix + k) mo = bk 4 ix (upd w4 k mo) y4 from (bk_ux (by omega))] at hP hD
          refine W.widen (k := 0) (n := 0) (by omega) (by omega) ?_
          exact W.vret hx hb hr (fun t ht hW => ⟨⟨((upd mm 6 0)), rfl, rfl, ⟨by rw [ht]; exact hP, by rw [hAe]; exact hD⟩⟩, hS.F ht⟩) hS.2.2 dX4_allow_64
        · exact absurd rfl h_7
      · exact absurd hsh h_5
    · exact absurd hsp h_3
  · exact absurd ⟨inr_ix hix, inr_k hk⟩ h_1
set_option maxHeartbeats 4000000 in
set_option maxRecDepth 100000 in
theorem c_X4_allow_s (l : Launch) (D : va_G) (cA : Nat → ClassId) (sz : Nat) (b : Nat → Nat) (mm : Nat → Int32) (ix : Nat) (c1 c2 : Int32) (k : Nat) (le mo : Int32) (w3 w4 y3 y4 : Nat → Int32) (hix : ix ≤ 1) (hk : k < 4) (hsp : inr le 0 100 ∧ inr mo le 100) (hsh : ¬ sSh c1) : Met l yX4_allow wsX4_allow ({ frames := 3, cells := 0, slots := 0, locals := 63 }) (va_Pc [.ref (b 0), .int (nI ix), .int (nI k), .int le, .int mo] (zU D cA sz [cM b mm, (b 9, .inl (cA 0, 2, .inl (t2 ix c1 c2))), (b 4, .inl (cA 0, 8, .inl (bk 4 ix w3 y3))), (b 5, .inl (cA 0, 8, .inl (bk 4 ix w4 y4)))])) (va_Qv (fun (u : (Nat → Int32)) => u = upd mm 6 2) (fun (u : (Nat → Int32)) t => zB D [cM b mm, (b 9, .inl (cA 0, 2, .inl (t2 ix c1 c2))), (b 4, .inl (cA 0, 8, .inl (bk 4 ix w3 y3))), (b 5, .inl (cA 0, 8, .inl (bk 4 ix w4 y4)))] sz [cM b u, (b 9, .inl (cA 0, 2, .inl (t2 ix c1 c2))), (b 4, .inl (cA 0, 8, .inl (bk 4 ix w3 y3))), (b 5, .inl (cA 0, 8, .inl (bk 4 ix w4 y4)))] t) (va_A [cM b mm, (b 9, .inl (cA 0, 2, .inl (t2 ix c1 c2))), (b 4, .inl (cA 0, 8, .inl (bk 4 ix w3 y3))), (b 5, .inl (cA 0, 8, .inl (bk 4 ix w4 y4)))] sz)) 0 0 (va_A [cM b mm, (b 9, .inl (cA 0, 2, .inl (t2 ix c1 c2))), (b 4, .inl (cA 0, 8, .inl (bk 4 ix w3 y3))), (b 5, .inl (cA 0, 8, .inl (bk 4 ix w4 y4)))] sz) := by
  refine Met.ofW (cc := cX4_allow) (maxL := 5) (ret := none) (by decide) rfl ?_
  intro p e s m args below meth c s₁ B hml hv
  obtain ⟨rfl, hsz, hP, hK, hD0⟩ := hv
  have hx := B.exec
  have hb := B.bytes
  have hr := B.returns
  have hts := atoms_spec (ws := wsX4_allow) B.pre
  have hown : s.vm.findClass RX4 = some m.cls := findClass_of_methodNamed B.named
  have hlocks := B.notSynchronized
  subst hsz
  have hD := hD0.self (sz := s.heap.size)
  generalize hAe : va_A [cM b mm, (b 9, .inl (cA 0, 2, .inl (t2 ix c1 c2))), (b 4, .inl (cA 0, 8, .inl (bk 4 ix w3 y3))), (b 5, .inl (cA 0, 8, .inl (bk 4 ix w4 y4)))] s.heap.size = A at hD ⊢
  have hA : ∀ q : Nat, s.heap.size ≤ q → A q := fun q h => by rw [← hAe]; exact Or.inr h
  have hS : va_S A s.heap s.heap [] := va_S.rf
  have hl := lv_entry ([.ref (b 0), .int (nI ix), .int (nI k), .int le, .int mo]) (n := 5) (Nat.le_of_ble_eq_true rfl)
  rw [lg_entry_eq]
  generalize (lg_sl ([.ref (b 0), .int (nI ix), .int (nI k), .int le, .int mo]) ++ List.replicate (5 - (lg_sl ([.ref (b 0), .int (nI ix), .int (nI k), .int le, .int mo])).length) Slot.unset).toArray = ls at hl ⊢
  have hl : lv_has ls 5 [(0, .ref (b 0)), (1, .int (nI ix)), (2, .int (nI k)), (3, .int le), (4, .int mo)] := hl
  refine lv_aload_n hx hb dX4_allow_0 rfl (lv_at hl 0 rfl) ?_
  refine lv_iload_n hx hb dX4_allow_1 rfl (lv_at hl 1 rfl) ?_
  refine lv_iload_n hx hb dX4_allow_2 rfl (lv_at hl 2 rfl) ?_
  have hPc := hP.sub (ws' := []) [] rfl
  have hDc := hD.sub (ws' := []) [] (by decide) rfl
  have hFc := va_free (wc := []) hD hS hA [] rfl
  refine va_calli (va_runS (As := [.int (nI ix), .int (nI k)]) (rest := [.ref (b 0)]) ⟨hx, hb, hml, hown, hts⟩ (c_X4_isOption l D cA s.heap.size (nI ix) (nI k)) (va_cwS 2 hts gX4_allow_X4_isOption rfl rfl rfl (by decide +kernel) ⟨Nat.le_of_ble_eq_true rfl, Nat.le_of_ble_eq_true rfl⟩) ⟨zU_blind, fun U hU hW => ⟨rfl, zU_call hU hPc hW.alike hK hDc⟩⟩ rfl rfl hl.1 rfl (lv_room (Nat.le_of_ble_eq_true rfl)) dX4_allow_3 ⟨(Nat.zero_le _), (Nat.zero_le _)⟩) hS (fun q _ h => hFc q h) hFc (fun zr u t H1 locs ht hvm hw hB hz1 hk1 hS => ?_)
  obtain ⟨hP1, hD1⟩ := hB
  rw [ht] at hP1
  obtain ⟨hP, hD⟩ := va_join (wr := [cM b mm, (b 9, .inl (cA 0, 2, .inl (t2 ix c1 c2))), (b 4, .inl (cA 0, 8, .inl (bk 4 ix w3 y3))), (b 5, .inl (cA 0, 8, .inl (bk 4 ix w4 y4)))]) (w1 := []) hP hD [] [0, 1, 2, 3] rfl rfl (by decide) (by decide) hk1 hFc hP1 hD1
  generalize H1 = H at hP hS ⊢
  have hP := hP.sub (ws' := [cM b mm, (b 9, .inl (cA 0, 2, .inl (t2 ix c1 c2))), (b 4, .inl (cA 0, 8, .inl (bk 4 ix w3 y3))), (b 5, .inl (cA 0, 8, .inl (bk 4 ix w4 y4)))]) [0, 1, 2, 3] rfl
  have hD := hD.sub (ws' := [cM b mm, (b 9, .inl (cA 0, 2, .inl (t2 ix c1 c2))), (b 4, .inl (cA 0, 8, .inl (bk 4 ix w3 y3))), (b 5, .inl (cA 0, 8, .inl (bk 4 ix w4 y4)))]) [0, 1, 2, 3] (by decide) rfl
  clear hPc hDc hFc hP1 hD1 hk1 hz1
  have hw_1 := hw
  rcases z_bool hw with ⟨h_1, rfl⟩ | ⟨h_1, rfl⟩
  · skip
    refine lv_if_eq (tgt := 18) hx hb dX4_allow_6 (by decide) (fun c_2 => absurd c_2 (by decide)) (fun _ => ?_)
    refine lv_iload_n hx hb dX4_allow_9 rfl (lv_at hl 3 rfl) ?_
    refine lv_iload hx hb dX4_allow_10 (lv_at hl 4 rfl) ?_
    have hPc := hP.sub (ws' := []) [] rfl
    have hDc := hD.sub (ws' := []) [] (by decide) rfl
    have hFc := va_free (wc := []) hD hS hA [] rfl
    refine va_calli (va_runS (As := [.int le, .int mo]) (rest := [.ref (b 0)]) ⟨hx, hb, hml, hown, hts⟩ (c_X4_isSpan l D cA H.size le mo) (va_cwS 2 hts gX4_allow_X4_isSpan rfl rfl rfl (by decide +kernel) ⟨Nat.le_of_ble_eq_true rfl, Nat.le_of_ble_eq_true rfl⟩) ⟨zU_blind, fun U hU hW => ⟨rfl, zU_call hU hPc hW.alike hK hDc⟩⟩ rfl rfl hl.1 rfl (lv_room (Nat.le_of_ble_eq_true rfl)) dX4_allow_12 ⟨(Nat.zero_le _), (Nat.zero_le _)⟩) hS (fun q _ h => hFc q h) hFc (fun zr u t H1 locs ht hvm hw hB hz1 hk1 hS => ?_)
    obtain ⟨hP1, hD1⟩ := hB
    rw [ht] at hP1
    obtain ⟨hP, hD⟩ := va_join (wr := [cM b mm, (b 9, .inl (cA 0, 2, .inl (t2 ix c1 c2))), (b 4, .inl (cA 0, 8, .inl (bk 4 ix w3 y3))), (b 5, .inl (cA 0, 8, .inl (bk 4 ix w4 y4)))]) (w1 := []) hP hD [] [0, 1, 2, 3] rfl rfl (by decide) (by decide) hk1 hFc hP1 hD1
    generalize H1 = H at hP hS ⊢
    have hP := hP.sub (ws' := [cM b mm, (b 9, .inl (cA 0, 2, .inl (t2 ix c1 c2))), (b 4, .inl (cA 0, 8, .inl (bk 4 ix w3 y3))), (b 5, .inl (cA 0, 8, .inl (bk 4 ix w4 y4)))]) [0, 1, 2, 3] rfl
    have hD := hD.sub (ws' := [cM b mm, (b 9, .inl (cA 0, 2, .inl (t2 ix c1 c2))), (b 4, .inl (cA 0, 8, .inl (bk 4 ix w3 y3))), (b 5, .inl (cA 0, 8, .inl (bk 4 ix w4 y4)))]) [0, 1, 2, 3] (by decide) rfl
    clear hPc hDc hFc hP1 hD1 hk1 hz1
    have hw_3 := hw
    rcases z_bool hw with ⟨h_3, rfl⟩ | ⟨h_3, rfl⟩
    · skip
      refine lv_if_ne (tgt := 22) hx hb dX4_allow_15 (by decide) (fun _ => ?_) (fun c_4 => absurd c_4 (by decide))
      refine lv_aload_n hx hb dX4_allow_22 rfl (lv_at hl 0 rfl) ?_
      refine lv_iload_n hx hb dX4_allow_23 rfl (lv_at hl 1 rfl) ?_
      have hPc := hP.sub (ws' := [cM b mm, (b 9, .inl (cA 0, 2, .inl (t2 ix c1 c2)))]) [0, 1] rfl
      have hDc := hD.sub (ws' := [cM b mm, (b 9, .inl (cA 0, 2, .inl (t2 ix c1 c2)))]) [0, 1] (by decide) rfl
      have hFc := va_free (wc := [cM b mm, (b 9, .inl (cA 0, 2, .inl (t2 ix c1 c2)))]) hD hS hA [0, 1] rfl
      refine va_calli (va_runV (As := [.int (nI ix)]) (rest := [.ref (b 0)]) ⟨hx, hb, hml, hown, hts⟩ (c_X4_isShut l D cA H.size b mm ix c1 c2 (by assumption)) (cwV 1 hts gX4_allow_X4_isShut rfl rfl rfl (by decide +kernel) ⟨Nat.le_of_ble_eq_true rfl, Nat.le_of_ble_eq_true rfl⟩) ⟨zU_blind, va_recv hK hPc (ci := 6) (q0 := 0) rfl rfl, fun U hU hW => ⟨rfl, zU_call hU hPc hW.alike hK hDc⟩⟩ rfl rfl hl.1 rfl (lv_room (Nat.le_of_ble_eq_true rfl)) dX4_allow_24 ⟨(Nat.zero_le _), (Nat.zero_le _)⟩) hS (fun q _ h => hFc q h) hFc (fun zr u t H1 locs ht hvm hw hB hz1 hk1 hS => ?_)
      obtain ⟨hP1, hD1⟩ := hB
      rw [ht] at hP1
      obtain ⟨hP, hD⟩ := va_join (wr := [(b 4, .inl (cA 0, 8, .inl (bk 4 ix w3 y3))), (b 5, .inl (cA 0, 8, .inl (bk 4 ix w4 y4)))]) (w1 := [cM b mm, (b 9, .inl (cA 0, 2, .inl (t2 ix c1 c2)))]) hP hD [0, 1] [2, 3] rfl rfl (by decide) (by decide) hk1 hFc hP1 hD1
      generalize H1 = H at hP hS ⊢
      have hP := hP.sub (ws' := [cM b mm, (b 9, .inl (cA 0, 2, .inl (t2 ix c1 c2))), (b 4, .inl (cA 0, 8, .inl (bk 4 ix w3 y3))), (b 5, .inl (cA 0, 8, .inl (bk 4 ix w4 y4)))]) [2, 3, 0, 1] rfl
      have hD := hD.sub (ws' := [cM b mm, (b 9, .inl (cA 0, 2, .inl (t2 ix c1 c2))), (b 4, .inl (cA 0, 8, .inl (bk 4 ix w3 y3))), (b 5, .inl (cA 0, 8, .inl (bk 4 ix w4 y4)))]) [2, 3, 0, 1] (by decide) rfl
      clear hPc hDc hFc hP1 hD1 hk1 hz1
      have hw_5 := hw
      rcases z_bool hw with ⟨h_5, rfl⟩ | ⟨h_5, rfl⟩
      · exact absurd h_5 hsh
      · skip
        refine lv_if_eq (tgt := 34) hx hb dX4_allow_27 (by decide) (fun _ => ?_) (fun c_6 => absurd c_6 (by decide))
        refine lv_iconst (v := 2) hx hb dX4_allow_34 (by decide) ?_
        have hPc := hP.sub (ws' := [cM b mm]) [0] rfl
        have hDc := hD.sub (ws' := [cM b mm]) [0] (by decide) rfl
        have hFc := va_free (wc := [cM b mm]) hD hS hA [0] rfl
        refine va_calli (va_runV (As := [.int 2]) (rest := []) ⟨hx, hb, hml, hown, hts⟩ (c_X4_can l D cA H.size b mm 2) (cwV 1 hts gX4_allow_X4_can rfl rfl rfl (by decide +kernel) ⟨Nat.le_of_ble_eq_true rfl, Nat.le_of_ble_eq_true rfl⟩) ⟨zU_blind, va_recv hK hPc (ci := 6) (q0 := 0) rfl rfl, fun U hU hW => ⟨rfl, zU_call hU hPc hW.alike hK hDc⟩⟩ rfl rfl hl.1 rfl (lv_room (Nat.le_of_ble_eq_true rfl)) dX4_allow_35 ⟨(Nat.zero_le _), (Nat.zero_le _)⟩) hS (fun q _ h => hFc q h) hFc (fun zr u t H1 locs ht hvm hw hB hz1 hk1 hS => ?_)
        obtain ⟨mm'_7, rfl⟩ : ∃ z, z = u := ⟨_, rfl⟩
        obtain ⟨hP1, hD1⟩ := hB
        rw [ht] at hP1
        try dsimp only at hw hP1 hD1
        obtain ⟨hP, hD⟩ := va_join (wr := [(b 9, .inl (cA 0, 2, .inl (t2 ix c1 c2))), (b 4, .inl (cA 0, 8, .inl (bk 4 ix w3 y3))), (b 5, .inl (cA 0, 8, .inl (bk 4 ix w4 y4)))]) (w1 := [cM b mm'_7]) hP hD [0] [1, 2, 3] rfl rfl (by decide) (by decide) hk1 hFc hP1 hD1
        generalize H1 = H at hP hS ⊢
        have hP := hP.sub (ws' := [cM b mm'_7, (b 9, .inl (cA 0, 2, .inl (t2 ix c1 c2))), (b 4, .inl (cA 0, 8, .inl (bk 4 ix w3 y3))), (b 5, .inl (cA 0, 8, .inl (bk 4 ix w4 y4)))]) [3, 0, 1, 2] rfl
        have hD := hD.sub (ws' := [cM b mm'_7, (b 9, .inl (cA 0, 2, .inl (t2 ix c1 c2))), (b 4, .inl (cA 0, 8, .inl (bk 4 ix w3 y3))), (b 5, .inl (cA 0, 8, .inl (bk 4 ix w4 y4)))]) [3, 0, 1, 2] (by decide) rfl
        clear hPc hDc hFc hP1 hD1 hk1 hz1
        obtain ⟨rfl, hw⟩ := hw
        have hw_7 := hw
        rcases z_bool hw with ⟨h_7, rfl⟩ | ⟨h_7, rfl⟩
        · exact absurd h_7 (by decide)
        · skip
          refine lv_if_eq (tgt := 64) hx hb dX4_allow_38 (by decide) (fun _ => ?_) (fun c_8 => absurd c_8 (by decide))
          refine W.widen (k := 0) (n := 0) (by omega) (by omega) ?_
          exact W.vret hx hb hr (fun t ht hW => ⟨⟨((upd mm 6 2)), rfl, rfl, ⟨by rw [ht]; exact hP, by rw [hAe]; exact hD⟩⟩, hS.F ht⟩) hS.2.2 dX4_allow_64
    · exact absurd hsp h_3
  · exact absurd ⟨inr_ix hix, inr_k hk⟩ h_1
set_option maxHeartbeats 4000000 in
set_option maxRecDepth 100000 in
theorem c_X4_allow_b (l : Launch) (D : va_G) (cA : Nat → ClassId) (sz : Nat) (b : Nat → Nat) (mm : Nat → Int32) (n o le mo : Int32) (hn : ¬ ((inr n 0 1 ∧ inr o 0 3) ∧ (inr le 0 100 ∧ inr mo le 100))) : Met l yX4_allow wsX4_allow ({ frames := 3, cells := 0, slots := 0, locals := 63 }) (va_Pc [.ref (b 0), .int n, .int o, .int le, .int mo] (zU D cA sz [cM b mm])) (va_Qv (fun (u : (Nat → Int32)) => u = upd mm 6 1) (fun (u : (Nat → Int32)) t => zB D [cM b mm] sz [cM b u] t) (va_A [cM b mm] sz)) 0 0 (va_A [cM b mm] sz) := by
  refine Met.ofW (cc := cX4_allow) (maxL := 5) (ret := none) (by decide) rfl ?_
  intro p e s m args below meth c s₁ B hml hv
  obtain ⟨rfl, hsz, hP, hK, hD0⟩ := hv
  have hx := B.exec
  have hb := B.bytes
  have hr := B.returns
  have hts := atoms_spec (ws := wsX4_allow) B.pre
  have hown : s.vm.findClass RX4 = some m.cls := findClass_of_methodNamed B.named
  have hlocks := B.notSynchronized
  subst hsz
  have hD := hD0.self (sz := s.heap.size)
  generalize hAe : va_A [cM b mm] s.heap.size = A at hD ⊢
  have hA : ∀ q : Nat, s.heap.size ≤ q → A q := fun q h => by rw [← hAe]; exact Or.inr h
  have hS : va_S A s.heap s.heap [] := va_S.rf
  have hl := lv_entry ([.ref (b 0), .int n, .int o, .int le, .int mo]) (n := 5) (Nat.le_of_ble_eq_true rfl)
  rw [lg_entry_eq]
  generalize (lg_sl ([.ref (b 0), .int n, .int o, .int le, .int mo]) ++ List.replicate (5 - (lg_sl ([.ref (b 0), .int n, .int o, .int le, .int mo])).length) Slot.unset).toArray = ls at hl ⊢
  have hl : lv_has ls 5 [(0, .ref (b 0)), (1, .int n), (2, .int o), (3, .int le), (4, .int mo)] := hl
  refine lv_aload_n hx hb dX4_allow_0 rfl (lv_at hl 0 rfl) ?_
  refine lv_iload_n hx hb dX4_allow_1 rfl (lv_at hl 1 rfl) ?_
  refine lv_iload_n hx hb dX4_allow_2 rfl (lv_at hl 2 rfl) ?_
  have hPc := hP.sub (ws' := []) [] rfl
  have hDc := hD.sub (ws' := []) [] (by decide) rfl
  have hFc := va_free (wc := []) hD hS hA [] rfl
  refine va_calli (va_runS (As := [.int n, .int o]) (rest := [.ref (b 0)]) ⟨hx, hb, hml, hown, hts⟩ (c_X4_isOption l D cA s.heap.size n o) (va_cwS 2 hts gX4_allow_X4_isOption rfl rfl rfl (by decide +kernel) ⟨Nat.le_of_ble_eq_true rfl, Nat.le_of_ble_eq_true rfl⟩) ⟨zU_blind, fun U hU hW => ⟨rfl, zU_call hU hPc hW.alike hK hDc⟩⟩ rfl rfl hl.1 rfl (lv_room (Nat.le_of_ble_eq_true rfl)) dX4_allow_3 ⟨(Nat.zero_le _), (Nat.zero_le _)⟩) hS (fun q _ h => hFc q h) hFc (fun zr u t H1 locs ht hvm hw hB hz1 hk1 hS => ?_)
  obtain ⟨hP1, hD1⟩ := hB
  rw [ht] at hP1
  obtain ⟨hP, hD⟩ := va_join (wr := [cM b mm]) (w1 := []) hP hD [] [0] rfl rfl (by decide) (by decide) hk1 hFc hP1 hD1
  generalize H1 = H at hP hS ⊢
  have hP := hP.sub (ws' := [cM b mm]) [0] rfl
  have hD := hD.sub (ws' := [cM b mm]) [0] (by decide) rfl
  clear hPc hDc hFc hP1 hD1 hk1 hz1
  have hw_1 := hw
  rcases z_bool hw with ⟨h_1, rfl⟩ | ⟨h_1, rfl⟩
  · skip
    refine lv_if_eq (tgt := 18) hx hb dX4_allow_6 (by decide) (fun c_2 => absurd c_2 (by decide)) (fun _ => ?_)
    refine lv_iload_n hx hb dX4_allow_9 rfl (lv_at hl 3 rfl) ?_
    refine lv_iload hx hb dX4_allow_10 (lv_at hl 4 rfl) ?_
    have hPc := hP.sub (ws' := []) [] rfl
    have hDc := hD.sub (ws' := []) [] (by decide) rfl
    have hFc := va_free (wc := []) hD hS hA [] rfl
    refine va_calli (va_runS (As := [.int le, .int mo]) (rest := [.ref (b 0)]) ⟨hx, hb, hml, hown, hts⟩ (c_X4_isSpan l D cA H.size le mo) (va_cwS 2 hts gX4_allow_X4_isSpan rfl rfl rfl (by decide +kernel) ⟨Nat.le_of_ble_eq_true rfl, Nat.le_of_ble_eq_true rfl⟩) ⟨zU_blind, fun U hU hW => ⟨rfl, zU_call hU hPc hW.alike hK hDc⟩⟩ rfl rfl hl.1 rfl (lv_room (Nat.le_of_ble_eq_true rfl)) dX4_allow_12 ⟨(Nat.zero_le _), (Nat.zero_le _)⟩) hS (fun q _ h => hFc q h) hFc (fun zr u t H1 locs ht hvm hw hB hz1 hk1 hS => ?_)
    obtain ⟨hP1, hD1⟩ := hB
    rw [ht] at hP1
    obtain ⟨hP, hD⟩ := va_join (wr := [cM b mm]) (w1 := []) hP hD [] [0] rfl rfl (by decide) (by decide) hk1 hFc hP1 hD1
    generalize H1 = H at hP hS ⊢
    have hP := hP.sub (ws' := [cM b mm]) [0] rfl
    have hD := hD.sub (ws' := [cM b mm]) [0] (by decide) rfl
    clear hPc hDc hFc hP1 hD1 hk1 hz1
    have hw_3 := hw
    rcases z_bool hw with ⟨h_3, rfl⟩ | ⟨h_3, rfl⟩
    · skip
      refine lv_if_ne (tgt := 22) hx hb dX4_allow_15 (by decide) (fun _ => ?_) (fun c_4 => absurd c_4 (by decide))
      exact absurd ⟨h_1, h_3⟩ hn
    · skip
      refine lv_if_ne (tgt := 22) hx hb dX4_allow_15 (by decide) (fun c_5 => absurd c_5 (by decide)) (fun _ => ?_)
      refine lv_iconst (v := 1) hx hb dX4_allow_18 (by decide) ?_
      refine lv_goto (tgt := 35) hx hb dX4_allow_19 (by decide) ?_
      have hPc := hP.sub (ws' := [cM b mm]) [0] rfl
      have hDc := hD.sub (ws' := [cM b mm]) [0] (by decide) rfl
      have hFc := va_free (wc := [cM b mm]) hD hS hA [0] rfl
      refine va_calli (va_runV (As := [.int 1]) (rest := []) ⟨hx, hb, hml, hown, hts⟩ (c_X4_can l D cA H.size b mm 1) (cwV 1 hts gX4_allow_X4_can rfl rfl rfl (by decide +kernel) ⟨Nat.le_of_ble_eq_true rfl, Nat.le_of_ble_eq_true rfl⟩) ⟨zU_blind, va_recv hK hPc (ci := 6) (q0 := 0) rfl rfl, fun U hU hW => ⟨rfl, zU_call hU hPc hW.alike hK hDc⟩⟩ rfl rfl hl.1 rfl (lv_room (Nat.le_of_ble_eq_true rfl)) dX4_allow_35 ⟨(Nat.zero_le _), (Nat.zero_le _)⟩) hS (fun q _ h => hFc q h) hFc (fun zr u t H1 locs ht hvm hw hB hz1 hk1 hS => ?_)
      obtain ⟨mm'_6, rfl⟩ : ∃ z, z = u := ⟨_, rfl⟩
      obtain ⟨hP1, hD1⟩ := hB
      rw [ht] at hP1
      try dsimp only at hw hP1 hD1
      obtain ⟨hP, hD⟩ := va_join (wr := []) (w1 := [cM b mm'_6]) hP hD [0] [] rfl rfl (by decide) (by decide) hk1 hFc hP1 hD1
      generalize H1 = H at hP hS ⊢
      have hP := hP.sub (ws' := [cM b mm'_6]) [0] rfl
      have hD := hD.sub (ws' := [cM b mm'_6]) [0] (by decide) rfl
      clear hPc hDc hFc hP1 hD1 hk1 hz1
      obtain ⟨rfl, hw⟩ := hw
      have hw_6 := hw
      rcases z_bool hw with ⟨h_6, rfl⟩ | ⟨h_6, rfl⟩
      · exact absurd h_6 (by decide)
      · skip
        refine lv_if_eq (tgt := 64) hx hb dX4_allow_38 (by decide) (fun _ => ?_) (fun c_7 => absurd c_7 (by decide))
        refine W.widen (k := 0) (n := 0) (by omega) (by omega) ?_
        exact W.vret hx hb hr (fun t ht hW => ⟨⟨((upd mm 6 1)), rfl, rfl, ⟨by rw [ht]; exact hP, by rw [hAe]; exact hD⟩⟩, hS.F ht⟩) hS.2.2 dX4_allow_64
  · skip
    refine lv_if_eq (tgt := 18) hx hb dX4_allow_6 (by decide) (fun _ => ?_) (fun c_8 => absurd c_8 (by decide))
    refine lv_iconst (v := 1) hx hb dX4_allow_18 (by decide) ?_
    refine lv_goto (tgt := 35) hx hb dX4_allow_19 (by decide) ?_
    have hPc := hP.sub (ws' := [cM b mm]) [0] rfl
    have hDc := hD.sub (ws' := [cM b mm]) [0] (by decide) rfl
    have hFc := va_free (wc := [cM b mm]) hD hS hA [0] rfl
    refine va_calli (va_runV (As := [.int 1]) (rest := []) ⟨hx, hb, hml, hown, hts⟩ (c_X4_can l D cA H.size b mm 1) (cwV 1 hts gX4_allow_X4_can rfl rfl rfl (by decide +kernel) ⟨Nat.le_of_ble_eq_true rfl, Nat.le_of_ble_eq_true rfl⟩) ⟨zU_blind, va_recv hK hPc (ci := 6) (q0 := 0) rfl rfl, fun U hU hW => ⟨rfl, zU_call hU hPc hW.alike hK hDc⟩⟩ rfl rfl hl.1 rfl (lv_room (Nat.le_of_ble_eq_true rfl)) dX4_allow_35 ⟨(Nat.zero_le _), (Nat.zero_le _)⟩) hS (fun q _ h => hFc q h) hFc (fun zr u t H1 locs ht hvm hw hB hz1 hk1 hS => ?_)
    obtain ⟨mm'_9, rfl⟩ : ∃ z, z = u := ⟨_, rfl⟩
    obtain ⟨hP1, hD1⟩ := hB
    rw [ht] at hP1
    try dsimp only at hw hP1 hD1
    obtain ⟨hP, hD⟩ := va_join (wr := []) (w1 := [cM b mm'_9]) hP hD [0] [] rfl rfl (by decide) (by decide) hk1 hFc hP1 hD1
    generalize H1 = H at hP hS ⊢
    have hP := hP.sub (ws' := [cM b mm'_9]) [0] rfl
    have hD := hD.sub (ws' := [cM b mm'_9]) [0] (by decide) rfl
    clear hPc hDc hFc hP1 hD1 hk1 hz1
    obtain ⟨rfl, hw⟩ := hw
    have hw_9 := hw
    rcases z_bool hw with ⟨h_9, rfl⟩ | ⟨h_9, rfl⟩
    · exact absurd h_9 (by decide)
    · skip
      refine lv_if_eq (tgt := 64) hx hb dX4_allow_38 (by decide) (fun _ => ?_) (fun c_10 => absurd c_10 (by decide))
      refine W.widen (k := 0) (n := 0) (by omega) (by omega) ?_
      exact W.vret hx hb hr (fun t ht hW => ⟨⟨((upd mm 6 1)), rfl, rfl, ⟨by rw [ht]; exact hP, by rw [hAe]; exact hD⟩⟩, hS.F ht⟩) hS.2.2 dX4_allow_64
set_option maxHeartbeats 4000000 in
set_option maxRecDepth 100000 in
theorem c_X4_refuse_k (l : Launch) (D : va_G) (cA : Nat → ClassId) (sz : Nat) (b : Nat → Nat) (mm : Nat → Int32) (ix : Nat) (c1 c2 : Int32) (k : Nat) (q : Int32) (w5 y5 : Nat → Int32) (hix : ix ≤ 1) (hk : k < 4) (hb01 : q = 0 ∨ q = 1) (hw5 : w5 k = 0 ∨ w5 k = 1) (hsh : sSh c1) : Met l yX4_refuse wsX4_refuse ({ frames := 3, cells := 0, slots := 0, locals := 63 }) (va_Pc [.ref (b 0), .int (nI ix), .int (nI k), .int q] (zU D cA sz [cM b mm, (b 9, .inl (cA 0, 2, .inl (t2 ix c1 c2))), (b 6, .inl (cA 1, 8, .inl (bk 4 ix w5 y5)))])) (va_Qi (fun (r : Int32) (u : (Nat → Int32)) => u = upd mm 6 0 ∧ r = w5 k) (fun (u : (Nat → Int32)) t => zB D [cM b mm, (b 9, .inl (cA 0, 2, .inl (t2 ix c1 c2))), (b 6, .inl (cA 1, 8, .inl (bk 4 ix w5 y5)))] sz [cM b u, (b 9, .inl (cA 0, 2, .inl (t2 ix c1 c2))), (b 6, .inl (cA 1, 8, .inl (bk 4 ix (upd w5 k q) y5)))] t) (va_A [cM b mm, (b 9, .inl (cA 0, 2, .inl (t2 ix c1 c2))), (b 6, .inl (cA 1, 8, .inl (bk 4 ix w5 y5)))] sz)) 0 0 (va_A [cM b mm, (b 9, .inl (cA 0, 2, .inl (t2 ix c1 c2))), (b 6, .inl (cA 1, 8, .inl (bk 4 ix w5 y5)))] sz) := by
  refine Met.ofW (cc := cX4_refuse) (maxL := 5) (ret := (some .boolean)) (by decide) rfl ?_
  intro p e s m args below meth c s₁ B hml hv
  obtain ⟨rfl, hsz, hP, hK, hD0⟩ := hv
  have hx := B.exec
  have hb := B.bytes
  have hr := B.returns
  have hts := atoms_spec (ws := wsX4_refuse) B.pre
  have hown : s.vm.findClass RX4 = some m.cls := findClass_of_methodNamed B.named
  have hlocks := B.notSynchronized
  subst hsz
  have hD := hD0.self (sz := s.heap.size)
  generalize hAe : va_A [cM b mm, (b 9, .inl (cA 0, 2, .inl (t2 ix c1 c2))), (b 6, .inl (cA 1, 8, .inl (bk 4 ix w5 y5)))] s.heap.size = A at hD ⊢
  have hA : ∀ q : Nat, s.heap.size ≤ q → A q := fun q h => by rw [← hAe]; exact Or.inr h
  have hS : va_S A s.heap s.heap [] := va_S.rf
  have hl := lv_entry ([.ref (b 0), .int (nI ix), .int (nI k), .int q]) (n := 5) (Nat.le_of_ble_eq_true rfl)
  rw [lg_entry_eq]
  generalize (lg_sl ([.ref (b 0), .int (nI ix), .int (nI k), .int q]) ++ List.replicate (5 - (lg_sl ([.ref (b 0), .int (nI ix), .int (nI k), .int q])).length) Slot.unset).toArray = ls at hl ⊢
  have hl : lv_has ls 5 [(0, .ref (b 0)), (1, .int (nI ix)), (2, .int (nI k)), (3, .int q)] := hl
  refine lv_aload_n hx hb dX4_refuse_0 rfl (lv_at hl 0 rfl) ?_
  refine lv_iload_n hx hb dX4_refuse_1 rfl (lv_at hl 1 rfl) ?_
  refine lv_iload_n hx hb dX4_refuse_2 rfl (lv_at hl 2 rfl) ?_
  have hPc := hP.sub (ws' := []) [] rfl
  have hDc := hD.sub (ws' := []) [] (by decide) rfl
  have hFc := va_free (wc := []) hD hS hA [] rfl
  refine va_calli (va_runS (As := [.int (nI ix), .int (nI k)]) (rest := [.ref (b 0)]) ⟨hx, hb, hml, hown, hts⟩ (c_X4_isOption l D cA s.heap.size (nI ix) (nI k)) (va_cwS 2 hts gX4_refuse_X4_isOption rfl rfl rfl (by decide +kernel) ⟨Nat.le_of_ble_eq_true rfl, Nat.le_of_ble_eq_true rfl⟩) ⟨zU_blind, fun U hU hW => ⟨rfl, zU_call hU hPc hW.alike hK hDc⟩⟩ rfl rfl hl.1 rfl (lv_room (Nat.le_of_ble_eq_true rfl)) dX4_refuse_3 ⟨(Nat.zero_le _), (Nat.zero_le _)⟩) hS (fun q _ h => hFc q h) hFc (fun zr u t H1 locs ht hvm hw hB hz1 hk1 hS => ?_)
  obtain ⟨hP1, hD1⟩ := hB
  rw [ht] at hP1
  obtain ⟨hP, hD⟩ := va_join (wr := [cM b mm, (b 9, .inl (cA 0, 2, .inl (t2 ix c1 c2))), (b 6, .inl (cA 1, 8, .inl (bk 4 ix w5 y5)))]) (w1 := []) hP hD [] [0, 1, 2] rfl rfl (by decide) (by decide) hk1 hFc hP1 hD1
  generalize H1 = H at hP hS ⊢
  have hP := hP.sub (ws' := [cM b mm, (b 9, .inl (cA 0, 2, .inl (t2 ix c1 c2))), (b 6, .inl (cA 1, 8, .inl (bk 4 ix w5 y5)))]) [0, 1, 2] rfl
  have hD := hD.sub (ws' := [cM b mm, (b 9, .inl (cA 0, 2, .inl (t2 ix c1 c2))), (b 6, .inl (cA 1, 8, .inl (bk 4 ix w5 y5)))]) [0, 1, 2] (by decide) rfl
  clear hPc hDc hFc hP1 hD1 hk1 hz1
  have hw_1 := hw
  rcases z_bool hw with ⟨h_1, rfl⟩ | ⟨h_1, rfl⟩
  · skip
    refine lv_if_ne (tgt := 13) hx hb dX4_refuse_6 (by decide) (fun _ => ?_) (fun c_2 => absurd c_2 (by decide))
    refine lv_aload_n hx hb dX4_refuse_13 rfl (lv_at hl 0 rfl) ?_
    refine lv_iload_n hx hb dX4_refuse_14 rfl (lv_at hl 1 rfl) ?_
    have hPc := hP.sub (ws' := [cM b mm, (b 9, .inl (cA 0, 2, .inl (t2 ix c1 c2)))]) [0, 1] rfl
    have hDc := hD.sub (ws' := [cM b mm, (b 9, .inl (cA 0, 2, .inl (t2 ix c1 c2)))]) [0, 1] (by decide) rfl
    have hFc := va_free (wc := [cM b mm, (b 9, .inl (cA 0, 2, .inl (t2 ix c1 c2)))]) hD hS hA [0, 1] rfl
    refine va_calli (va_runV (As := [.int (nI ix)]) (rest := [.ref (b 0)]) ⟨hx, hb, hml, hown, hts⟩ (c_X4_isShut l D cA H.size b mm ix c1 c2 (by assumption)) (cwV 1 hts gX4_refuse_X4_isShut rfl rfl rfl (by decide +kernel) ⟨Nat.le_of_ble_eq_true rfl, Nat.le_of_ble_eq_true rfl⟩) ⟨zU_blind, va_recv hK hPc (ci := 6) (q0 := 0) rfl rfl, fun U hU hW => ⟨rfl, zU_call hU hPc hW.alike hK hDc⟩⟩ rfl rfl hl.1 rfl (lv_room (Nat.le_of_ble_eq_true rfl)) dX4_refuse_15 ⟨(Nat.zero_le _), (Nat.zero_le _)⟩) hS (fun q _ h => hFc q h) hFc (fun zr u t H1 locs ht hvm hw hB hz1 hk1 hS => ?_)
    obtain ⟨hP1, hD1⟩ := hB
    rw [ht] at hP1
    obtain ⟨hP, hD⟩ := va_join (wr := [(b 6, .inl (cA 1, 8, .inl (bk 4 ix w5 y5)))]) (w1 := [cM b mm, (b 9, .inl (cA 0, 2, .inl (t2 ix c1 c2)))]) hP hD [0, 1] [2] rfl rfl (by decide) (by decide) hk1 hFc hP1 hD1
    generalize H1 = H at hP hS ⊢
    have hP := hP.sub (ws' := [cM b mm, (b 9, .inl (cA 0, 2, .inl (t2 ix c1 c2))), (b 6, .inl (cA 1, 8, .inl (bk 4 ix w5 y5)))]) [1, 2, 0] rfl
    have hD := hD.sub (ws' := [cM b mm, (b 9, .inl (cA 0, 2, .inl (t2 ix c1 c2))), (b 6, .inl (cA 1, 8, .inl (bk 4 ix w5 y5)))]) [1, 2, 0] (by decide) rfl
    clear hPc hDc hFc hP1 hD1 hk1 hz1
    have hw_3 := hw
    rcases z_bool hw with ⟨h_3, rfl⟩ | ⟨h_3, rfl⟩
    · skip
      refine lv_if_eq (tgt := 25) hx hb dX4_refuse_18 (by decide) (fun c_4 => absurd c_4 (by decide)) (fun _ => ?_)
      refine lv_iconst (v := 0) hx hb dX4_refuse_21 (by decide) ?_
      refine lv_goto (tgt := 26) hx hb dX4_refuse_22 (by decide) ?_
      have hPc := hP.sub (ws' := [cM b mm]) [0] rfl
      have hDc := hD.sub (ws' := [cM b mm]) [0] (by decide) rfl
      have hFc := va_free (wc := [cM b mm]) hD hS hA [0] rfl
      refine va_calli (va_runV (As := [.int 0]) (rest := []) ⟨hx, hb, hml, hown, hts⟩ (c_X4_can l D cA H.size b mm 0) (cwV 1 hts gX4_refuse_X4_can rfl rfl rfl (by decide +kernel) ⟨Nat.le_of_ble_eq_true rfl, Nat.le_of_ble_eq_true rfl⟩) ⟨zU_blind, va_recv hK hPc (ci := 6) (q0 := 0) rfl rfl, fun U hU hW => ⟨rfl, zU_call hU hPc hW.alike hK hDc⟩⟩ rfl rfl hl.1 rfl (lv_room (Nat.le_of_ble_eq_true rfl)) dX4_refuse_26 ⟨(Nat.zero_le _), (Nat.zero_le _)⟩) hS (fun q _ h => hFc q h) hFc (fun zr u t H1 locs ht hvm hw hB hz1 hk1 hS => ?_)
      obtain ⟨mm'_5, rfl⟩ : ∃ z, z = u := ⟨_, rfl⟩
      obtain ⟨hP1, hD1⟩ := hB
      rw [ht] at hP1
      try dsimp only at hw hP1 hD1
      obtain ⟨hP, hD⟩ := va_join (wr := [(b 9, .inl (cA 0, 2, .inl (t2 ix c1 c2))), (b 6, .inl (cA 1, 8, .inl (bk 4 ix w5 y5)))]) (w1 := [cM b mm'_5]) hP hD [0] [1, 2] rfl rfl (by decide) (by decide) hk1 hFc hP1 hD1
      generalize H1 = H at hP hS ⊢
      have hP := hP.sub (ws' := [cM b mm'_5, (b 9, .inl (cA 0, 2, .inl (t2 ix c1 c2))), (b 6, .inl (cA 1, 8, .inl (bk 4 ix w5 y5)))]) [2, 0, 1] rfl
      have hD := hD.sub (ws' := [cM b mm'_5, (b 9, .inl (cA 0, 2, .inl (t2 ix c1 c2))), (b 6, .inl (cA 1, 8, .inl (bk 4 ix w5 y5)))]) [2, 0, 1] (by decide) rfl
      clear hPc hDc hFc hP1 hD1 hk1 hz1
      obtain ⟨rfl, hw⟩ := hw
      have hw_5 := hw
      rcases z_bool hw with ⟨h_5, rfl⟩ | ⟨h_5, rfl⟩
      · skip
        refine lv_if_ne (tgt := 34) hx hb dX4_refuse_29 (by decide) (fun _ => ?_) (fun c_6 => absurd c_6 (by decide))
        refine lv_aload_n hx hb dX4_refuse_34 rfl (lv_at hl 0 rfl) ?_
        refine va_get (D := D) (ci := 6) (v := .ref (b 6)) (C := RX4) (T := TX4) (N := 29) hx hb hts (fun _ h => List.mem_cons_of_mem _ (List.mem_append_right _ (h))) hown hK hP 0 rfl rfl 7 (by decide) (hts (.fieldLink RX4 25 "OptionWireModel" "refuses" "[Z") (List.mem_of_getElem? (i := 1) rfl)) (fun _ h9 => h9) rfl dX4_refuse_35 ?_
        refine lv_iconst (v := 4) hx hb dX4_refuse_38 (by decide) ?_
        refine lv_iload_n hx hb dX4_refuse_39 rfl (lv_at hl 1 rfl) ?_
        refine lv_imul hx hb dX4_refuse_40 ?_
        refine z_top (y := (nI (4 * ix))) (z_mul 4 ix) ?_
        refine lv_iload_n hx hb dX4_refuse_41 rfl (lv_at hl 2 rfl) ?_
        refine lv_iadd hx hb dX4_refuse_42 ?_
        refine z_top (y := (nI (4 * ix + k))) (z_add (4 * ix) k) ?_
        refine z_zald (k := (4 * ix + k)) (v := (w5 k)) hx hb hK hP 2 1 rfl rfl rfl (by omega) (by decide) (bk_x (by omega)) dX4_refuse_43 ?_
        refine lv_istore (lv' := [(4, .int (w5 k)), (0, .ref (b 0)), (1, .int (nI ix)), (2, .int (nI k)), (3, .int q)]) hx hb dX4_refuse_44 hl (by decide) rfl (fun ls hl => ?_)
        refine lv_aload_n hx hb dX4_refuse_46 rfl (lv_at hl 1 rfl) ?_
        refine va_get (D := D) (ci := 6) (v := .ref (b 6)) (C := RX4) (T := TX4) (N := 29) hx hb hts (fun _ h => List.mem_cons_of_mem _ (List.mem_append_right _ (h))) hown hK hP 0 rfl rfl 7 (by decide) (hts (.fieldLink RX4 25 "OptionWireModel" "refuses" "[Z") (List.mem_of_getElem? (i := 1) rfl)) (fun _ h9 => h9) rfl dX4_refuse_47 ?_
        refine lv_iconst (v := 4) hx hb dX4_refuse_50 (by decide) ?_
        refine lv_iload_n hx hb dX4_refuse_51 rfl (lv_at hl 2 rfl) ?_
        refine lv_imul hx hb dX4_refuse_52 ?_
        refine z_top (y := (nI (4 * ix))) (z_mul 4 ix) ?_
        refine lv_iload_n hx hb dX4_refuse_53 rfl (lv_at hl 3 rfl) ?_
        refine lv_iadd hx hb dX4_refuse_54 ?_
        refine z_top (y := (nI (4 * ix + k))) (z_add (4 * ix) k) ?_
        refine lv_iload_n hx hb dX4_refuse_55 rfl (lv_at hl 4 rfl) ?_
        refine z_zast (k := (4 * ix + k)) hx hb hK hP hD hS 2 1 rfl rfl rfl (by omega) (by decide) (nar01 hb01) dX4_refuse_56 (fun H locs hP hD hS => ?_)
        have hP : va_P D vwCl [cM b (upd mm 6 0), (b 9, .inl (cA 0, 2, .inl (t2 ix c1 c2))), (b 6, .inl (cA 1, 8, .inl (upd (bk 4 ix w5 y5) (4 * ix + k) q)))] H := hP
        have hD : va_D A [cM b (upd mm 6 0), (b 9, .inl (cA 0, 2, .inl (t2 ix c1 c2))), (b 6, .inl (cA 1, 8, .inl (upd (bk 4 ix w5 y5) (4 * ix + k) q)))] := hD
        rw [show upd (bk 4 ix w5 y5) (4 * ix + k) q = bk 4 ix (upd w5 k q) y5 from (bk_ux (by omega))] at hP hD
        refine lv_iload hx hb dX4_refuse_57 (lv_at hl 0 rfl) ?_
        refine W.widen (k := 0) (n := 0) (by omega) (by omega) ?_
        exact W.zret (v := (w5 k)) hx hb hr (narz hw5) (fun t ht hW => ⟨⟨w5 k, ((upd mm 6 0)), rfl, ⟨rfl, rfl⟩, ⟨by rw [ht]; exact hP, by rw [hAe]; exact hD⟩⟩, hS.F ht⟩) hS.2.2 dX4_refuse_59
      · exact absurd rfl h_5
    · exact absurd hsh h_3
  · exact absurd ⟨inr_ix hix, inr_k hk⟩ h_1
set_option maxHeartbeats 4000000 in
set_option maxRecDepth 100000 in
theorem c_X4_refuse_s (l : Launch) (D : va_G) (cA : Nat → ClassId) (sz : Nat) (b : Nat → Nat) (mm : Nat → Int32) (ix : Nat) (c1 c2 : Int32) (k : Nat) (q : Int32) (w5 y5 : Nat → Int32) (hix : ix ≤ 1) (hk : k < 4) (hb01 : q = 0 ∨ q = 1) (hw5 : w5 k = 0 ∨ w5 k = 1) (hsh : ¬ sSh c1) : Met l yX4_refuse wsX4_refuse ({ frames := 3, cells := 0, slots := 0, locals := 63 }) (va_Pc [.ref (b 0), .int (nI ix), .int (nI k), .int q] (zU D cA sz [cM b mm, (b 9, .inl (cA 0, 2, .inl (t2 ix c1 c2))), (b 6, .inl (cA 1, 8, .inl (bk 4 ix w5 y5)))])) (va_Qi (fun (r : Int32) (u : (Nat → Int32)) => u = upd mm 6 2 ∧ r = 0) (fun (u : (Nat → Int32)) t => zB D [cM b mm, (b 9, .inl (cA 0, 2, .inl (t2 ix c1 c2))), (b 6, .inl (cA 1, 8, .inl (bk 4 ix w5 y5)))] sz [cM b u, (b 9, .inl (cA 0, 2, .inl (t2 ix c1 c2))), (b 6, .inl (cA 1, 8, .inl (bk 4 ix w5 y5)))] t) (va_A [cM b mm, (b 9, .inl (cA 0, 2, .inl (t2 ix c1 c2))), (b 6, .inl (cA 1, 8, .inl (bk 4 ix w5 y5)))] sz)) 0 0 (va_A [cM b mm, (b 9, .inl (cA 0, 2, .inl (t2 ix c1 c2))), (b 6, .inl (cA 1, 8, .inl (bk 4 ix w5 y5)))] sz) := by
  refine Met.ofW (cc := cX4_refuse) (maxL := 5) (ret := (some .boolean)) (by decide) rfl ?_
  intro p e s m args below meth c s₁ B hml hv
  obtain ⟨rfl, hsz, hP, hK, hD0⟩ := hv
  have hx := B.exec
  have hb := B.bytes
  have hr := B.returns
  have hts := atoms_spec (ws := wsX4_refuse) B.pre
  have hown : s.vm.findClass RX4 = some m.cls := findClass_of_methodNamed B.named
  have hlocks := B.notSynchronized
  subst hsz
  have hD := hD0.self (sz := s.heap.size)
  generalize hAe : va_A [cM b mm, (b 9, .inl (cA 0, 2, .inl (t2 ix c1 c2))), (b 6, .inl (cA 1, 8, .inl (bk 4 ix w5 y5)))] s.heap.size = A at hD ⊢
  have hA : ∀ q : Nat, s.heap.size ≤ q → A q := fun q h => by rw [← hAe]; exact Or.inr h
  have hS : va_S A s.heap s.heap [] := va_S.rf
  have hl := lv_entry ([.ref (b 0), .int (nI ix), .int (nI k), .int q]) (n := 5) (Nat.le_of_ble_eq_true rfl)
  rw [lg_entry_eq]
  generalize (lg_sl ([.ref (b 0), .int (nI ix), .int (nI k), .int q]) ++ List.replicate (5 - (lg_sl ([.ref (b 0), .int (nI ix), .int (nI k), .int q])).length) Slot.unset).toArray = ls at hl ⊢
  have hl : lv_has ls 5 [(0, .ref (b 0)), (1, .int (nI ix)), (2, .int (nI k)), (3, .int q)] := hl
  refine lv_aload_n hx hb dX4_refuse_0 rfl (lv_at hl 0 rfl) ?_
  refine lv_iload_n hx hb dX4_refuse_1 rfl (lv_at hl 1 rfl) ?_
  refine lv_iload_n hx hb dX4_refuse_2 rfl (lv_at hl 2 rfl) ?_
  have hPc := hP.sub (ws' := []) [] rfl
  have hDc := hD.sub (ws' := []) [] (by decide) rfl
  have hFc := va_free (wc := []) hD hS hA [] rfl
  refine va_calli (va_runS (As := [.int (nI ix), .int (nI k)]) (rest := [.ref (b 0)]) ⟨hx, hb, hml, hown, hts⟩ (c_X4_isOption l D cA s.heap.size (nI ix) (nI k)) (va_cwS 2 hts gX4_refuse_X4_isOption rfl rfl rfl (by decide +kernel) ⟨Nat.le_of_ble_eq_true rfl, Nat.le_of_ble_eq_true rfl⟩) ⟨zU_blind, fun U hU hW => ⟨rfl, zU_call hU hPc hW.alike hK hDc⟩⟩ rfl rfl hl.1 rfl (lv_room (Nat.le_of_ble_eq_true rfl)) dX4_refuse_3 ⟨(Nat.zero_le _), (Nat.zero_le _)⟩) hS (fun q _ h => hFc q h) hFc (fun zr u t H1 locs ht hvm hw hB hz1 hk1 hS => ?_)
  obtain ⟨hP1, hD1⟩ := hB
  rw [ht] at hP1
  obtain ⟨hP, hD⟩ := va_join (wr := [cM b mm, (b 9, .inl (cA 0, 2, .inl (t2 ix c1 c2))), (b 6, .inl (cA 1, 8, .inl (bk 4 ix w5 y5)))]) (w1 := []) hP hD [] [0, 1, 2] rfl rfl (by decide) (by decide) hk1 hFc hP1 hD1
  generalize H1 = H at hP hS ⊢
  have hP := hP.sub (ws' := [cM b mm, (b 9, .inl (cA 0, 2, .inl (t2 ix c1 c2))), (b 6, .inl (cA 1, 8, .inl (bk 4 ix w5 y5)))]) [0, 1, 2] rfl
  have hD := hD.sub (ws' := [cM b mm, (b 9, .inl (cA 0, 2, .inl (t2 ix c1 c2))), (b 6, .inl (cA 1, 8, .inl (bk 4 ix w5 y5)))]) [0, 1, 2] (by decide) rfl
  clear hPc hDc hFc hP1 hD1 hk1 hz1
  have hw_1 := hw
  rcases z_bool hw with ⟨h_1, rfl⟩ | ⟨h_1, rfl⟩
  · skip
    refine lv_if_ne (tgt := 13) hx hb dX4_refuse_6 (by decide) (fun _ => ?_) (fun c_2 => absurd c_2 (by decide))
    refine lv_aload_n hx hb dX4_refuse_13 rfl (lv_at hl 0 rfl) ?_
    refine lv_iload_n hx hb dX4_refuse_14 rfl (lv_at hl 1 rfl) ?_
    have hPc := hP.sub (ws' := [cM b mm, (b 9, .inl (cA 0, 2, .inl (t2 ix c1 c2)))]) [0, 1] rfl
    have hDc := hD.sub (ws' := [cM b mm, (b 9, .inl (cA 0, 2, .inl (t2 ix c1 c2)))]) [0, 1] (by decide) rfl
    have hFc := va_free (wc := [cM b mm, (b 9, .inl (cA 0, 2, .inl (t2 ix c1 c2)))]) hD hS hA [0, 1] rfl
    refine va_calli (va_runV (As := [.int (nI ix)]) (rest := [.ref (b 0)]) ⟨hx, hb, hml, hown, hts⟩ (c_X4_isShut l D cA H.size b mm ix c1 c2 (by assumption)) (cwV 1 hts gX4_refuse_X4_isShut rfl rfl rfl (by decide +kernel) ⟨Nat.le_of_ble_eq_true rfl, Nat.le_of_ble_eq_true rfl⟩) ⟨zU_blind, va_recv hK hPc (ci := 6) (q0 := 0) rfl rfl, fun U hU hW => ⟨rfl, zU_call hU hPc hW.alike hK hDc⟩⟩ rfl rfl hl.1 rfl (lv_room (Nat.le_of_ble_eq_true rfl)) dX4_refuse_15 ⟨(Nat.zero_le _), (Nat.zero_le _)⟩) hS (fun q _ h => hFc q h) hFc (fun zr u t H1 locs ht hvm hw hB hz1 hk1 hS => ?_)
    obtain ⟨hP1, hD1⟩ := hB
    rw [ht] at hP1
    obtain ⟨hP, hD⟩ := va_join (wr := [(b 6, .inl (cA 1, 8, .inl (bk 4 ix w5 y5)))]) (w1 := [cM b mm, (b 9, .inl (cA 0, 2, .inl (t2 ix c1 c2)))]) hP hD [0, 1] [2] rfl rfl (by decide) (by decide) hk1 hFc hP1 hD1
    generalize H1 = H at hP hS ⊢
    have hP := hP.sub (ws' := [cM b mm, (b 9, .inl (cA 0, 2, .inl (t2 ix c1 c2))), (b 6, .inl (cA 1, 8, .inl (bk 4 ix w5 y5)))]) [1, 2, 0] rfl
    have hD := hD.sub (ws' := [cM b mm, (b 9, .inl (cA 0, 2, .inl (t2 ix c1 c2))), (b 6, .inl (cA 1, 8, .inl (bk 4 ix w5 y5)))]) [1, 2, 0] (by decide) rfl
    clear hPc hDc hFc hP1 hD1 hk1 hz1
    have hw_3 := hw
    rcases z_bool hw with ⟨h_3, rfl⟩ | ⟨h_3, rfl⟩
    · exact absurd h_3 hsh
    · skip
      refine lv_if_eq (tgt := 25) hx hb dX4_refuse_18 (by decide) (fun _ => ?_) (fun c_4 => absurd c_4 (by decide))
      refine lv_iconst (v := 2) hx hb dX4_refuse_25 (by decide) ?_
      have hPc := hP.sub (ws' := [cM b mm]) [0] rfl
      have hDc := hD.sub (ws' := [cM b mm]) [0] (by decide) rfl
      have hFc := va_free (wc := [cM b mm]) hD hS hA [0] rfl
      refine va_calli (va_runV (As := [.int 2]) (rest := []) ⟨hx, hb, hml, hown, hts⟩ (c_X4_can l D cA H.size b mm 2) (cwV 1 hts gX4_refuse_X4_can rfl rfl rfl (by decide +kernel) ⟨Nat.le_of_ble_eq_true rfl, Nat.le_of_ble_eq_true rfl⟩) ⟨zU_blind, va_recv hK hPc (ci := 6) (q0 := 0) rfl rfl, fun U hU hW => ⟨rfl, zU_call hU hPc hW.alike hK hDc⟩⟩ rfl rfl hl.1 rfl (lv_room (Nat.le_of_ble_eq_true rfl)) dX4_refuse_26 ⟨(Nat.zero_le _), (Nat.zero_le _)⟩) hS (fun q _ h => hFc q h) hFc (fun zr u t H1 locs ht hvm hw hB hz1 hk1 hS => ?_)
      obtain ⟨mm'_5, rfl⟩ : ∃ z, z = u := ⟨_, rfl⟩
      obtain ⟨hP1, hD1⟩ := hB
      rw [ht] at hP1
      try dsimp only at hw hP1 hD1
      obtain ⟨hP, hD⟩ := va_join (wr := [(b 9, .inl (cA 0, 2, .inl (t2 ix c1 c2))), (b 6, .inl (cA 1, 8, .inl (bk 4 ix w5 y5)))]) (w1 := [cM b mm'_5]) hP hD [0] [1, 2] rfl rfl (by decide) (by decide) hk1 hFc hP1 hD1
      generalize H1 = H at hP hS ⊢
      have hP := hP.sub (ws' := [cM b mm'_5, (b 9, .inl (cA 0, 2, .inl (t2 ix c1 c2))), (b 6, .inl (cA 1, 8, .inl (bk 4 ix w5 y5)))]) [2, 0, 1] rfl
      have hD := hD.sub (ws' := [cM b mm'_5, (b 9, .inl (cA 0, 2, .inl (t2 ix c1 c2))), (b 6, .inl (cA 1, 8, .inl (bk 4 ix w5 y5)))]) [2, 0, 1] (by decide) rfl
      clear hPc hDc hFc hP1 hD1 hk1 hz1
      obtain ⟨rfl, hw⟩ := hw
      have hw_5 := hw
      rcases z_bool hw with ⟨h_5, rfl⟩ | ⟨h_5, rfl⟩
      · exact absurd h_5 (by decide)
      · skip
        refine lv_if_ne (tgt := 34) hx hb dX4_refuse_29 (by decide) (fun c_6 => absurd c_6 (by decide)) (fun _ => ?_)
        refine lv_iconst (v := 0) hx hb dX4_refuse_32 (by decide) ?_
        refine W.widen (k := 0) (n := 0) (by omega) (by omega) ?_
        exact W.zret (v := 0) hx hb hr rfl (fun t ht hW => ⟨⟨0, ((upd mm 6 2)), rfl, ⟨rfl, rfl⟩, ⟨by rw [ht]; exact hP, by rw [hAe]; exact hD⟩⟩, hS.F ht⟩) hS.2.2 dX4_refuse_33
  · exact absurd ⟨inr_ix hix, inr_k hk⟩ h_1
set_option maxHeartbeats 4000000 in
set_option maxRecDepth 100000 in
theorem c_X4_refuse_b (l : Launch) (D : va_G) (cA : Nat → ClassId) (sz : Nat) (b : Nat → Nat) (mm : Nat → Int32) (n o q : Int32) (hn : ¬ (inr n 0 1 ∧ inr o 0 3)) : Met l yX4_refuse wsX4_refuse ({ frames := 3, cells := 0, slots := 0, locals := 63 }) (va_Pc [.ref (b 0), .int n, .int o, .int q] (zU D cA sz [cM b mm])) (va_Qi (fun (r : Int32) (u : (Nat → Int32)) => u = upd mm 6 1) (fun (u : (Nat → Int32)) t => zB D [cM b mm] sz [cM b u] t) (va_A [cM b mm] sz)) 0 0 (va_A [cM b mm] sz) := by
  refine Met.ofW (cc := cX4_refuse) (maxL := 5) (ret := (some .boolean)) (by decide) rfl ?_
  intro p e s m args below meth c s₁ B hml hv
  obtain ⟨rfl, hsz, hP, hK, hD0⟩ := hv
  have hx := B.exec
  have hb := B.bytes
  have hr := B.returns
  have hts := atoms_spec (ws := wsX4_refuse) B.pre
  have hown : s.vm.findClass RX4 = some m.cls := findClass_of_methodNamed B.named
  have hlocks := B.notSynchronized
  subst hsz
  have hD := hD0.self (sz := s.heap.size)
  generalize hAe : va_A [cM b mm] s.heap.size = A at hD ⊢
  have hA : ∀ q : Nat, s.heap.size ≤ q → A q := fun q h => by rw [← hAe]; exact Or.inr h
  have hS : va_S A s.heap s.heap [] := va_S.rf
  have hl := lv_entry ([.ref (b 0), .int n, .int o, .int q]) (n := 5) (Nat.le_of_ble_eq_true rfl)
  rw [lg_entry_eq]
  generalize (lg_sl ([.ref (b 0), .int n, .int o, .int q]) ++ List.replicate (5 - (lg_sl ([.ref (b 0), .int n, .int o, .int q])).length) Slot.unset).toArray = ls at hl ⊢
  have hl : lv_has ls 5 [(0, .ref (b 0)), (1, .int n), (2, .int o), (3, .int q)] := hl
  refine lv_aload_n hx hb dX4_refuse_0 rfl (lv_at hl 0 rfl) ?_
  refine lv_iload_n hx hb dX4_refuse_1 rfl (lv_at hl 1 rfl) ?_
  refine lv_iload_n hx hb dX4_refuse_2 rfl (lv_at hl 2 rfl) ?_
  have hPc := hP.sub (ws' := []) [] rfl
  have hDc := hD.sub (ws' := []) [] (by decide) rfl
  have hFc := va_free (wc := []) hD hS hA [] rfl
  refine va_calli (va_runS (As := [.int n, .int o]) (rest := [.ref (b 0)]) ⟨hx, hb, hml, hown, hts⟩ (c_X4_isOption l D cA s.heap.size n o) (va_cwS 2 hts gX4_refuse_X4_isOption rfl rfl rfl (by decide +kernel) ⟨Nat.le_of_ble_eq_true rfl, Nat.le_of_ble_eq_true rfl⟩) ⟨zU_blind, fun U hU hW => ⟨rfl, zU_call hU hPc hW.alike hK hDc⟩⟩ rfl rfl hl.1 rfl (lv_room (Nat.le_of_ble_eq_true rfl)) dX4_refuse_3 ⟨(Nat.zero_le _), (Nat.zero_le _)⟩) hS (fun q _ h => hFc q h) hFc (fun zr u t H1 locs ht hvm hw hB hz1 hk1 hS => ?_)
  obtain ⟨hP1, hD1⟩ := hB
  rw [ht] at hP1
  obtain ⟨hP, hD⟩ := va_join (wr := [cM b mm]) (w1 := []) hP hD [] [0] rfl rfl (by decide) (by decide) hk1 hFc hP1 hD1
  generalize H1 = H at hP hS ⊢
  have hP := hP.sub (ws' := [cM b mm]) [0] rfl
  have hD := hD.sub (ws' := [cM b mm]) [0] (by decide) rfl
  clear hPc hDc hFc hP1 hD1 hk1 hz1
  have hw_1 := hw
  rcases z_bool hw with ⟨h_1, rfl⟩ | ⟨h_1, rfl⟩
  · exact absurd h_1 hn
  · skip
    refine lv_if_ne (tgt := 13) hx hb dX4_refuse_6 (by decide) (fun c_2 => absurd c_2 (by decide)) (fun _ => ?_)
    refine lv_iconst (v := 1) hx hb dX4_refuse_9 (by decide) ?_
    refine lv_goto (tgt := 26) hx hb dX4_refuse_10 (by decide) ?_
    have hPc := hP.sub (ws' := [cM b mm]) [0] rfl
    have hDc := hD.sub (ws' := [cM b mm]) [0] (by decide) rfl
    have hFc := va_free (wc := [cM b mm]) hD hS hA [0] rfl
    refine va_calli (va_runV (As := [.int 1]) (rest := []) ⟨hx, hb, hml, hown, hts⟩ (c_X4_can l D cA H.size b mm 1) (cwV 1 hts gX4_refuse_X4_can rfl rfl rfl (by decide +kernel) ⟨Nat.le_of_ble_eq_true rfl, Nat.le_of_ble_eq_true rfl⟩) ⟨zU_blind, va_recv hK hPc (ci := 6) (q0 := 0) rfl rfl, fun U hU hW => ⟨rfl, zU_call hU hPc hW.alike hK hDc⟩⟩ rfl rfl hl.1 rfl (lv_room (Nat.le_of_ble_eq_true rfl)) dX4_refuse_26 ⟨(Nat.zero_le _), (Nat.zero_le _)⟩) hS (fun q _ h => hFc q h) hFc (fun zr u t H1 locs ht hvm hw hB hz1 hk1 hS => ?_)
    obtain ⟨mm'_3, rfl⟩ : ∃ z, z = u := ⟨_, rfl⟩
    obtain ⟨hP1, hD1⟩ := hB
    rw [ht] at hP1
    try dsimp only at hw hP1 hD1
    obtain ⟨hP, hD⟩ := va_join (wr := []) (w1 := [cM b mm'_3]) hP hD [0] [] rfl rfl (by decide) (by decide) hk1 hFc hP1 hD1
    generalize H1 = H at hP hS ⊢
    have hP := hP.sub (ws' := [cM b mm'_3]) [0] rfl
    have hD := hD.sub (ws' := [cM b mm'_3]) [0] (by decide) rfl
    clear hPc hDc hFc hP1 hD1 hk1 hz1
    obtain ⟨rfl, hw⟩ := hw
    have hw_3 := hw
    rcases z_bool hw with ⟨h_3, rfl⟩ | ⟨h_3, rfl⟩
    · exact absurd h_3 (by decide)
    · skip
      refine lv_if_ne (tgt := 34) hx hb dX4_refuse_29 (by decide) (fun c_4 => absurd c_4 (by decide)) (fun _ => ?_)
      refine lv_iconst (v := 0) hx hb dX4_refuse_32 (by decide) ?_
      refine W.widen (k := 0) (n := 0) (by omega) (by omega) ?_
      exact W.zret (v := 0) hx hb hr rfl (fun t ht hW => ⟨⟨0, ((upd mm 6 1)), rfl, rfl, ⟨by rw [ht]; exact hP, by rw [hAe]; exact hD⟩⟩, hS.F ht⟩) hS.2.2 dX4_refuse_33
set_option maxHeartbeats 4000000 in
set_option maxRecDepth 100000 in
theorem c_X4_takesAt_k (l : Launch) (D : va_G) (cA : Nat → ClassId) (sz : Nat) (b : Nat → Nat) (mm : Nat → Int32) (ix : Nat) (QX QY : Qt) (hs : Nat → Int32) (hix : ix ≤ 1) (hqx : QX.1 ≤ 12) (hqy : QY.1 ≤ 12) (h0 : 0 < QX.1) : Met l yX4_takesAt wsX4_takesAt ({ frames := 2, cells := 0, slots := 0, locals := 42 }) (va_Pc [.ref (b 0), .int (nI ix)] (zU D cA sz [cM b mm, (b 16, .inl (cA 0, 2, .inl (t2 ix (nI QX.1) (nI QY.1)))), (b 17, .inl (cA 0, 24, .inl (bk 12 ix (qc QX 0) (qc QY 0)))), (b 18, .inl (cA 0, 24, .inl (bk 12 ix (qc QX 1) (qc QY 1)))), (b 19, .inl (cA 0, 24, .inl (bk 12 ix (qc QX 2) (qc QY 2)))), (b 20, .inl (cA 0, 96, .inl (bk 48 ix (qw QX) (qw QY)))), (b 21, .inl (cA 0, 4, .inl hs))])) (va_Qi (fun (r : Int32) (u : (Qt × (Nat → Int32))) => u.1 = pop QX ∧ u.2 = (upd (upd (upd (upd mm 6 0) 2 (QX.2 0 0)) 3 (QX.2 0 1)) 4 (QX.2 0 2)) ∧ r = 1) (fun (u : (Qt × (Nat → Int32))) t => zB D [cM b mm, (b 16, .inl (cA 0, 2, .inl (t2 ix (nI QX.1) (nI QY.1)))), (b 17, .inl (cA 0, 24, .inl (bk 12 ix (qc QX 0) (qc QY 0)))), (b 18, .inl (cA 0, 24, .inl (bk 12 ix (qc QX 1) (qc QY 1)))), (b 19, .inl (cA 0, 24, .inl (bk 12 ix (qc QX 2) (qc QY 2)))), (b 20, .inl (cA 0, 96, .inl (bk 48 ix (qw QX) (qw QY)))), (b 21, .inl (cA 0, 4, .inl hs))] sz [cM b u.2, (b 16, .inl (cA 0, 2, .inl (t2 ix (nI u.1.1) (nI QY.1)))), (b 17, .inl (cA 0, 24, .inl (bk 12 ix (qc u.1 0) (qc QY 0)))), (b 18, .inl (cA 0, 24, .inl (bk 12 ix (qc u.1 1) (qc QY 1)))), (b 19, .inl (cA 0, 24, .inl (bk 12 ix (qc u.1 2) (qc QY 2)))), (b 20, .inl (cA 0, 96, .inl (bk 48 ix (qw u.1) (qw QY)))), (b 21, .inl (cA 0, 4, .inl (fun k => QX.2 0 (3 + k))))] t) (va_A [cM b mm, (b 16, .inl (cA 0, 2, .inl (t2 ix (nI QX.1) (nI QY.1)))), (b 17, .inl (cA 0, 24, .inl (bk 12 ix (qc QX 0) (qc QY 0)))), (b 18, .inl (cA 0, 24, .inl (bk 12 ix (qc QX 1) (qc QY 1)))), (b 19, .inl (cA 0, 24, .inl (bk 12 ix (qc QX 2) (qc QY 2)))), (b 20, .inl (cA 0, 96, .inl (bk 48 ix (qw QX) (qw QY)))), (b 21, .inl (cA 0, 4, .inl hs))] sz)) 0 0 (va_A [cM b mm, (b 16, .inl (cA 0, 2, .inl (t2 ix (nI QX.1) (nI QY.1)))), (b 17, .inl (cA 0, 24, .inl (bk 12 ix (qc QX 0) (qc QY 0)))), (b 18, .inl (cA 0, 24, .inl (bk 12 ix (qc QX 1) (qc QY 1)))), (b 19, .inl (cA 0, 24, .inl (bk 12 ix (qc QX 2) (qc QY 2)))), (b 20, .inl (cA 0, 96, .inl (bk 48 ix (qw QX) (qw QY)))), (b 21, .inl (cA 0, 4, .inl hs))] sz) := by
  refine Met.ofW (cc := cX4_takesAt) (maxL := 2) (ret := (some .boolean)) (by decide) rfl ?_
  intro p e s m args below meth c s₁ B hml hv
  obtain ⟨rfl, hsz, hP, hK, hD0⟩ := hv
  have hx := B.exec
  have hb := B.bytes
  have hr := B.returns
  have hts := atoms_spec (ws := wsX4_takesAt) B.pre
  have hown : s.vm.findClass RX4 = some m.cls := findClass_of_methodNamed B.named
  have hlocks := B.notSynchronized
  subst hsz
  have hD := hD0.self (sz := s.heap.size)
  generalize hAe : va_A [cM b mm, (b 16, .inl (cA 0, 2, .inl (t2 ix (nI QX.1) (nI QY.1)))), (b 17, .inl (cA 0, 24, .inl (bk 12 ix (qc QX 0) (qc QY 0)))), (b 18, .inl (cA 0, 24, .inl (bk 12 ix (qc QX 1) (qc QY 1)))), (b 19, .inl (cA 0, 24, .inl (bk 12 ix (qc QX 2) (qc QY 2)))), (b 20, .inl (cA 0, 96, .inl (bk 48 ix (qw QX) (qw QY)))), (b 21, .inl (cA 0, 4, .inl hs))] s.heap.size = A at hD ⊢
  have hA : ∀ q : Nat, s.heap.size ≤ q → A q := fun q h => by rw [← hAe]; exact Or.inr h
  have hS : va_S A s.heap s.heap [] := va_S.rf
  have hl := lv_entry ([.ref (b 0), .int (nI ix)]) (n := 2) (Nat.le_of_ble_eq_true rfl)
  rw [lg_entry_eq]
  generalize (lg_sl ([.ref (b 0), .int (nI ix)]) ++ List.replicate (2 - (lg_sl ([.ref (b 0), .int (nI ix)])).length) Slot.unset).toArray = ls at hl ⊢
  have hl : lv_has ls 2 [(0, .ref (b 0)), (1, .int (nI ix))] := hl
  refine lv_aload_n hx hb dX4_takesAt_0 rfl (lv_at hl 0 rfl) ?_
  refine lv_iload_n hx hb dX4_takesAt_1 rfl (lv_at hl 1 rfl) ?_
  have hPc := hP.sub (ws' := []) [] rfl
  have hDc := hD.sub (ws' := []) [] (by decide) rfl
  have hFc := va_free (wc := []) hD hS hA [] rfl
  refine va_calli (va_runS (As := [.int (nI ix)]) (rest := [.ref (b 0)]) ⟨hx, hb, hml, hown, hts⟩ (c_X4_isEnd l D cA s.heap.size (nI ix)) (va_cwS 1 hts gX4_takesAt_X4_isEnd rfl rfl rfl (by decide +kernel) ⟨Nat.le_of_ble_eq_true rfl, Nat.le_of_ble_eq_true rfl⟩) ⟨zU_blind, fun U hU hW => ⟨rfl, zU_call hU hPc hW.alike hK hDc⟩⟩ rfl rfl hl.1 rfl (lv_room (Nat.le_of_ble_eq_true rfl)) dX4_takesAt_2 ⟨(Nat.zero_le _), (Nat.zero_le _)⟩) hS (fun q _ h => hFc q h) hFc (fun zr u t H1 locs ht hvm hw hB hz1 hk1 hS => ?_)
  obtain ⟨hP1, hD1⟩ := hB
  rw [ht] at hP1
  obtain ⟨hP, hD⟩ := va_join (wr := [cM b mm, (b 16, .inl (cA 0, 2, .inl (t2 ix (nI QX.1) (nI QY.1)))), (b 17, .inl (cA 0, 24, .inl (bk 12 ix (qc QX 0) (qc QY 0)))), (b 18, .inl (cA 0, 24, .inl (bk 12 ix (qc QX 1) (qc QY 1)))), (b 19, .inl (cA 0, 24, .inl (bk 12 ix (qc QX 2) (qc QY 2)))), (b 20, .inl (cA 0, 96, .inl (bk 48 ix (qw QX) (qw QY)))), (b 21, .inl (cA 0, 4, .inl hs))]) (w1 := []) hP hD [] [0, 1, 2, 3, 4, 5, 6] rfl rfl (by decide) (by decide) hk1 hFc hP1 hD1
  generalize H1 = H at hP hS ⊢
  have hP := hP.sub (ws' := [cM b mm, (b 16, .inl (cA 0, 2, .inl (t2 ix (nI QX.1) (nI QY.1)))), (b 17, .inl (cA 0, 24, .inl (bk 12 ix (qc QX 0) (qc QY 0)))), (b 18, .inl (cA 0, 24, .inl (bk 12 ix (qc QX 1) (qc QY 1)))), (b 19, .inl (cA 0, 24, .inl (bk 12 ix (qc QX 2) (qc QY 2)))), (b 20, .inl (cA 0, 96, .inl (bk 48 ix (qw QX) (qw QY)))), (b 21, .inl (cA 0, 4, .inl hs))]) [0, 1, 2, 3, 4, 5, 6] rfl
  have hD := hD.sub (ws' := [cM b mm, (b 16, .inl (cA 0, 2, .inl (t2 ix (nI QX.1) (nI QY.1)))), (b 17, .inl (cA 0, 24, .inl (bk 12 ix (qc QX 0) (qc QY 0)))), (b 18, .inl (cA 0, 24, .inl (bk 12 ix (qc QX 1) (qc QY 1)))), (b 19, .inl (cA 0, 24, .inl (bk 12 ix (qc QX 2) (qc QY 2)))), (b 20, .inl (cA 0, 96, .inl (bk 48 ix (qw QX) (qw QY)))), (b 21, .inl (cA 0, 4, .inl hs))]) [0, 1, 2, 3, 4, 5, 6] (by decide) rfl
  clear hPc hDc hFc hP1 hD1 hk1 hz1
  have hw_1 := hw
  rcases z_bool hw with ⟨h_1, rfl⟩ | ⟨h_1, rfl⟩
  · skip
    refine lv_if_ne (tgt := 12) hx hb dX4_takesAt_5 (by decide) (fun _ => ?_) (fun c_2 => absurd c_2 (by decide))
    refine lv_aload_n hx hb dX4_takesAt_12 rfl (lv_at hl 0 rfl) ?_
    refine va_get (D := D) (ci := 6) (v := .ref (b 16)) (C := RX4) (T := TX4) (N := 29) hx hb hts (fun _ h => List.mem_cons_of_mem _ (List.mem_append_right _ (h))) hown hK hP 0 rfl rfl 17 (by decide) (hts (.fieldLink RX4 56 "OptionWireModel" "many" "[I") (List.mem_of_getElem? (i := 1) rfl)) (fun _ h9 => h9) rfl dX4_takesAt_13 ?_
    refine lv_iload_n hx hb dX4_takesAt_16 rfl (lv_at hl 1 rfl) ?_
    refine z_iald (k := ix) (v := (nI QX.1)) hx hb hK hP 1 0 rfl rfl rfl (by omega) (by decide) t2_x dX4_takesAt_17 ?_
    refine lv_if_ne (tgt := 25) hx hb dX4_takesAt_18 (by decide) (fun c_3 => ?_) (fun c_3 => ?_)
    · have c_3 := mt (nI_eq (a := QX.1) (b := 0) (by omega) (by omega)).mpr c_3
      refine lv_iconst (v := 0) hx hb dX4_takesAt_25 (by decide) ?_
      have hPc := hP.sub (ws' := [cM b mm]) [0] rfl
      have hDc := hD.sub (ws' := [cM b mm]) [0] (by decide) rfl
      have hFc := va_free (wc := [cM b mm]) hD hS hA [0] rfl
      refine va_calli (va_runV (As := [.int 0]) (rest := []) ⟨hx, hb, hml, hown, hts⟩ (c_X4_can l D cA H.size b mm 0) (cwV 1 hts gX4_takesAt_X4_can rfl rfl rfl (by decide +kernel) ⟨Nat.le_of_ble_eq_true rfl, Nat.le_of_ble_eq_true rfl⟩) ⟨zU_blind, va_recv hK hPc (ci := 6) (q0 := 0) rfl rfl, fun U hU hW => ⟨rfl, zU_call hU hPc hW.alike hK hDc⟩⟩ rfl rfl hl.1 rfl (lv_room (Nat.le_of_ble_eq_true rfl)) dX4_takesAt_26 ⟨(Nat.zero_le _), (Nat.zero_le _)⟩) hS (fun q _ h => hFc q h) hFc (fun zr u t H1 locs ht hvm hw hB hz1 hk1 hS => ?_)
      obtain ⟨mm'_4, rfl⟩ : ∃ z, z = u := ⟨_, rfl⟩
      obtain ⟨hP1, hD1⟩ := hB
      rw [ht] at hP1
      try dsimp only at hw hP1 hD1
      obtain ⟨hP, hD⟩ := va_join (wr := [(b 16, .inl (cA 0, 2, .inl (t2 ix (nI QX.1) (nI QY.1)))), (b 17, .inl (cA 0, 24, .inl (bk 12 ix (qc QX 0) (qc QY 0)))), (b 18, .inl (cA 0, 24, .inl (bk 12 ix (qc QX 1) (qc QY 1)))), (b 19, .inl (cA 0, 24, .inl (bk 12 ix (qc QX 2) (qc QY 2)))), (b 20, .inl (cA 0, 96, .inl (bk 48 ix (qw QX) (qw QY)))), (b 21, .inl (cA 0, 4, .inl hs))]) (w1 := [cM b mm'_4]) hP hD [0] [1, 2, 3, 4, 5, 6] rfl rfl (by decide) (by decide) hk1 hFc hP1 hD1
      generalize H1 = H at hP hS ⊢
      have hP := hP.sub (ws' := [cM b mm'_4, (b 16, .inl (cA 0, 2, .inl (t2 ix (nI QX.1) (nI QY.1)))), (b 17, .inl (cA 0, 24, .inl (bk 12 ix (qc QX 0) (qc QY 0)))), (b 18, .inl (cA 0, 24, .inl (bk 12 ix (qc QX 1) (qc QY 1)))), (b 19, .inl (cA 0, 24, .inl (bk 12 ix (qc QX 2) (qc QY 2)))), (b 20, .inl (cA 0, 96, .inl (bk 48 ix (qw QX) (qw QY)))), (b 21, .inl (cA 0, 4, .inl hs))]) [6, 0, 1, 2, 3, 4, 5] rfl
      have hD := hD.sub (ws' := [cM b mm'_4, (b 16, .inl (cA 0, 2, .inl (t2 ix (nI QX.1) (nI QY.1)))), (b 17, .inl (cA 0, 24, .inl (bk 12 ix (qc QX 0) (qc QY 0)))), (b 18, .inl (cA 0, 24, .inl (bk 12 ix (qc QX 1) (qc QY 1)))), (b 19, .inl (cA 0, 24, .inl (bk 12 ix (qc QX 2) (qc QY 2)))), (b 20, .inl (cA 0, 96, .inl (bk 48 ix (qw QX) (qw QY)))), (b 21, .inl (cA 0, 4, .inl hs))]) [6, 0, 1, 2, 3, 4, 5] (by decide) rfl
      clear hPc hDc hFc hP1 hD1 hk1 hz1
      obtain ⟨rfl, hw⟩ := hw
      have hw_4 := hw
      rcases z_bool hw with ⟨h_4, rfl⟩ | ⟨h_4, rfl⟩
      · skip
        refine lv_if_ne (tgt := 34) hx hb dX4_takesAt_29 (by decide) (fun _ => ?_) (fun c_5 => absurd c_5 (by decide))
        refine lv_aload_n hx hb dX4_takesAt_34 rfl (lv_at hl 0 rfl) ?_
        refine lv_iload_n hx hb dX4_takesAt_35 rfl (lv_at hl 1 rfl) ?_
        have hPc := hP.sub (ws' := [cM b (upd mm 6 0), (b 16, .inl (cA 0, 2, .inl (t2 ix (nI QX.1) (nI QY.1)))), (b 17, .inl (cA 0, 24, .inl (bk 12 ix (qc QX 0) (qc QY 0)))), (b 18, .inl (cA 0, 24, .inl (bk 12 ix (qc QX 1) (qc QY 1)))), (b 19, .inl (cA 0, 24, .inl (bk 12 ix (qc QX 2) (qc QY 2)))), (b 20, .inl (cA 0, 96, .inl (bk 48 ix (qw QX) (qw QY)))), (b 21, .inl (cA 0, 4, .inl hs))]) [0, 1, 2, 3, 4, 5, 6] rfl
        have hDc := hD.sub (ws' := [cM b (upd mm 6 0), (b 16, .inl (cA 0, 2, .inl (t2 ix (nI QX.1) (nI QY.1)))), (b 17, .inl (cA 0, 24, .inl (bk 12 ix (qc QX 0) (qc QY 0)))), (b 18, .inl (cA 0, 24, .inl (bk 12 ix (qc QX 1) (qc QY 1)))), (b 19, .inl (cA 0, 24, .inl (bk 12 ix (qc QX 2) (qc QY 2)))), (b 20, .inl (cA 0, 96, .inl (bk 48 ix (qw QX) (qw QY)))), (b 21, .inl (cA 0, 4, .inl hs))]) [0, 1, 2, 3, 4, 5, 6] (by decide) rfl
        have hFc := va_free (wc := [cM b (upd mm 6 0), (b 16, .inl (cA 0, 2, .inl (t2 ix (nI QX.1) (nI QY.1)))), (b 17, .inl (cA 0, 24, .inl (bk 12 ix (qc QX 0) (qc QY 0)))), (b 18, .inl (cA 0, 24, .inl (bk 12 ix (qc QX 1) (qc QY 1)))), (b 19, .inl (cA 0, 24, .inl (bk 12 ix (qc QX 2) (qc QY 2)))), (b 20, .inl (cA 0, 96, .inl (bk 48 ix (qw QX) (qw QY)))), (b 21, .inl (cA 0, 4, .inl hs))]) hD hS hA [0, 1, 2, 3, 4, 5, 6] rfl
        refine va_callv (va_runV (As := [.int (nI ix)]) (rest := []) ⟨hx, hb, hml, hown, hts⟩ (c_X4_takes l D cA H.size b (upd mm 6 0) ix QX QY hs (by assumption) (by assumption) (by assumption) (by assumption)) (cwV 1 hts gX4_takesAt_X4_takes rfl rfl rfl (by decide +kernel) ⟨Nat.le_of_ble_eq_true rfl, Nat.le_of_ble_eq_true rfl⟩) ⟨zU_blind, va_recv hK hPc (ci := 6) (q0 := 0) rfl rfl, fun U hU hW => ⟨rfl, zU_call hU hPc hW.alike hK hDc⟩⟩ rfl rfl hl.1 rfl (lv_room (Nat.le_of_ble_eq_true rfl)) dX4_takesAt_36 ⟨(Nat.zero_le _), (Nat.zero_le _)⟩) hS (fun q _ h => hFc q h) hFc (fun u t H1 locs ht hvm hw hB hz1 hk1 hS => ?_)
        obtain ⟨QX'_6, mm'_6⟩ := u
        obtain ⟨hP1, hD1⟩ := hB
        rw [ht] at hP1
        try dsimp only at hw hP1 hD1
        obtain ⟨hP, hD⟩ := va_join (wr := []) (w1 := [cM b mm'_6, (b 16, .inl (cA 0, 2, .inl (t2 ix (nI QX'_6.1) (nI QY.1)))), (b 17, .inl (cA 0, 24, .inl (bk 12 ix (qc QX'_6 0) (qc QY 0)))), (b 18, .inl (cA 0, 24, .inl (bk 12 ix (qc QX'_6 1) (qc QY 1)))), (b 19, .inl (cA 0, 24, .inl (bk 12 ix (qc QX'_6 2) (qc QY 2)))), (b 20, .inl (cA 0, 96, .inl (bk 48 ix (qw QX'_6) (qw QY)))), (b 21, .inl (cA 0, 4, .inl (fun k => QX.2 0 (3 + k))))]) hP hD [0, 1, 2, 3, 4, 5, 6] [] rfl rfl (by decide) (by decide) hk1 hFc hP1 hD1
        generalize H1 = H at hP hS ⊢
        have hP := hP.sub (ws' := [cM b mm'_6, (b 16, .inl (cA 0, 2, .inl (t2 ix (nI QX'_6.1) (nI QY.1)))), (b 17, .inl (cA 0, 24, .inl (bk 12 ix (qc QX'_6 0) (qc QY 0)))), (b 18, .inl (cA 0, 24, .inl (bk 12 ix (qc QX'_6 1) (qc QY 1)))), (b 19, .inl (cA 0, 24, .inl (bk 12 ix (qc QX'_6 2) (qc QY 2)))), (b 20, .inl (cA 0, 96, .inl (bk 48 ix (qw QX'_6) (qw QY)))), (b 21, .inl (cA 0, 4, .inl (fun k => QX.2 0 (3 + k))))]) [0, 1, 2, 3, 4, 5, 6] rfl
        have hD := hD.sub (ws' := [cM b mm'_6, (b 16, .inl (cA 0, 2, .inl (t2 ix (nI QX'_6.1) (nI QY.1)))), (b 17, .inl (cA 0, 24, .inl (bk 12 ix (qc QX'_6 0) (qc QY 0)))), (b 18, .inl (cA 0, 24, .inl (bk 12 ix (qc QX'_6 1) (qc QY 1)))), (b 19, .inl (cA 0, 24, .inl (bk 12 ix (qc QX'_6 2) (qc QY 2)))), (b 20, .inl (cA 0, 96, .inl (bk 48 ix (qw QX'_6) (qw QY)))), (b 21, .inl (cA 0, 4, .inl (fun k => QX.2 0 (3 + k))))]) [0, 1, 2, 3, 4, 5, 6] (by decide) rfl
        clear hPc hDc hFc hP1 hD1 hk1 hz1
        obtain ⟨rfl, rfl⟩ := hw
        refine lv_iconst (v := 1) hx hb dX4_takesAt_39 (by decide) ?_
        refine W.widen (k := 0) (n := 0) (by omega) (by omega) ?_
        exact W.zret (v := 1) hx hb hr rfl (fun t ht hW => ⟨⟨1, ((pop QX), (upd (upd (upd (upd mm 6 0) 2 (QX.2 0 0)) 3 (QX.2 0 1)) 4 (QX.2 0 2))), rfl, ⟨rfl, rfl, rfl⟩, ⟨by rw [ht]; exact hP, by rw [hAe]; exact hD⟩⟩, hS.F ht⟩) hS.2.2 dX4_takesAt_40
      · exact absurd rfl h_4
    · have c_3 := (nI_eq (a := QX.1) (b := 0) (by omega) (by omega)).mp c_3
      exact absurd c_3 (Nat.ne_of_gt h0)
  · exact absurd (inr_ix hix) h_1
set_option maxHeartbeats 4000000 in
set_option maxRecDepth 100000 in
theorem c_X4_lose_k (l : Launch) (D : va_G) (cA : Nat → ClassId) (sz : Nat) (b : Nat → Nat) (mm : Nat → Int32) (ix : Nat) (QX QY : Qt) (hs : Nat → Int32) (hix : ix ≤ 1) (hqx : QX.1 ≤ 12) (hqy : QY.1 ≤ 12) (h0 : 0 < QX.1) : Met l yX4_lose wsX4_lose ({ frames := 3, cells := 0, slots := 0, locals := 63 }) (va_Pc [.ref (b 0), .int (nI ix)] (zU D cA sz [cM b mm, (b 16, .inl (cA 0, 2, .inl (t2 ix (nI QX.1) (nI QY.1)))), (b 17, .inl (cA 0, 24, .inl (bk 12 ix (qc QX 0) (qc QY 0)))), (b 18, .inl (cA 0, 24, .inl (bk 12 ix (qc QX 1) (qc QY 1)))), (b 19, .inl (cA 0, 24, .inl (bk 12 ix (qc QX 2) (qc QY 2)))), (b 20, .inl (cA 0, 96, .inl (bk 48 ix (qw QX) (qw QY)))), (b 21, .inl (cA 0, 4, .inl hs))])) (va_Qi (fun (r : Int32) (u : (Qt × (Nat → Int32))) => u.1 = pop QX ∧ u.2 = (upd (upd (upd (upd mm 6 0) 2 (QX.2 0 0)) 3 (QX.2 0 1)) 4 (QX.2 0 2)) ∧ r = QX.2 0 0) (fun (u : (Qt × (Nat → Int32))) t => zB D [cM b mm, (b 16, .inl (cA 0, 2, .inl (t2 ix (nI QX.1) (nI QY.1)))), (b 17, .inl (cA 0, 24, .inl (bk 12 ix (qc QX 0) (qc QY 0)))), (b 18, .inl (cA 0, 24, .inl (bk 12 ix (qc QX 1) (qc QY 1)))), (b 19, .inl (cA 0, 24, .inl (bk 12 ix (qc QX 2) (qc QY 2)))), (b 20, .inl (cA 0, 96, .inl (bk 48 ix (qw QX) (qw QY)))), (b 21, .inl (cA 0, 4, .inl hs))] sz [cM b u.2, (b 16, .inl (cA 0, 2, .inl (t2 ix (nI u.1.1) (nI QY.1)))), (b 17, .inl (cA 0, 24, .inl (bk 12 ix (qc u.1 0) (qc QY 0)))), (b 18, .inl (cA 0, 24, .inl (bk 12 ix (qc u.1 1) (qc QY 1)))), (b 19, .inl (cA 0, 24, .inl (bk 12 ix (qc u.1 2) (qc QY 2)))), (b 20, .inl (cA 0, 96, .inl (bk 48 ix (qw u.1) (qw QY)))), (b 21, .inl (cA 0, 4, .inl (fun k => QX.2 0 (3 + k))))] t) (va_A [cM b mm, (b 16, .inl (cA 0, 2, .inl (t2 ix (nI QX.1) (nI QY.1)))), (b 17, .inl (cA 0, 24, .inl (bk 12 ix (qc QX 0) (qc QY 0)))), (b 18, .inl (cA 0, 24, .inl (bk 12 ix (qc QX 1) (qc QY 1)))), (b 19, .inl (cA 0, 24, .inl (bk 12 ix (qc QX 2) (qc QY 2)))), (b 20, .inl (cA 0, 96, .inl (bk 48 ix (qw QX) (qw QY)))), (b 21, .inl (cA 0, 4, .inl hs))] sz)) 0 0 (va_A [cM b mm, (b 16, .inl (cA 0, 2, .inl (t2 ix (nI QX.1) (nI QY.1)))), (b 17, .inl (cA 0, 24, .inl (bk 12 ix (qc QX 0) (qc QY 0)))), (b 18, .inl (cA 0, 24, .inl (bk 12 ix (qc QX 1) (qc QY 1)))), (b 19, .inl (cA 0, 24, .inl (bk 12 ix (qc QX 2) (qc QY 2)))), (b 20, .inl (cA 0, 96, .inl (bk 48 ix (qw QX) (qw QY)))), (b 21, .inl (cA 0, 4, .inl hs))] sz) := by
  refine Met.ofW (cc := cX4_lose) (maxL := 2) (ret := (some .int)) (by decide) rfl ?_
  intro p e s m args below meth c s₁ B hml hv
  obtain ⟨rfl, hsz, hP, hK, hD0⟩ := hv
  have hx := B.exec
  have hb := B.bytes
  have hr := B.returns
  have hts := atoms_spec (ws := wsX4_lose) B.pre
  have hown : s.vm.findClass RX4 = some m.cls := findClass_of_methodNamed B.named
  have hlocks := B.notSynchronized
  subst hsz
  have hD := hD0.self (sz := s.heap.size)
  generalize hAe : va_A [cM b mm, (b 16, .inl (cA 0, 2, .inl (t2 ix (nI QX.1) (nI QY.1)))), (b 17, .inl (cA 0, 24, .inl (bk 12 ix (qc QX 0) (qc QY 0)))), (b 18, .inl (cA 0, 24, .inl (bk 12 ix (qc QX 1) (qc QY 1)))), (b 19, .inl (cA 0, 24, .inl (bk 12 ix (qc QX 2) (qc QY 2)))), (b 20, .inl (cA 0, 96, .inl (bk 48 ix (qw QX) (qw QY)))), (b 21, .inl (cA 0, 4, .inl hs))] s.heap.size = A at hD ⊢
  have hA : ∀ q : Nat, s.heap.size ≤ q → A q := fun q h => by rw [← hAe]; exact Or.inr h
  have hS : va_S A s.heap s.heap [] := va_S.rf
  have hl := lv_entry ([.ref (b 0), .int (nI ix)]) (n := 2) (Nat.le_of_ble_eq_true rfl)
  rw [lg_entry_eq]
  generalize (lg_sl ([.ref (b 0), .int (nI ix)]) ++ List.replicate (2 - (lg_sl ([.ref (b 0), .int (nI ix)])).length) Slot.unset).toArray = ls at hl ⊢
  have hl : lv_has ls 2 [(0, .ref (b 0)), (1, .int (nI ix))] := hl
  refine lv_aload_n hx hb dX4_lose_0 rfl (lv_at hl 0 rfl) ?_
  refine lv_iload_n hx hb dX4_lose_1 rfl (lv_at hl 1 rfl) ?_
  have hPc := hP.sub (ws' := [cM b mm, (b 16, .inl (cA 0, 2, .inl (t2 ix (nI QX.1) (nI QY.1)))), (b 17, .inl (cA 0, 24, .inl (bk 12 ix (qc QX 0) (qc QY 0)))), (b 18, .inl (cA 0, 24, .inl (bk 12 ix (qc QX 1) (qc QY 1)))), (b 19, .inl (cA 0, 24, .inl (bk 12 ix (qc QX 2) (qc QY 2)))), (b 20, .inl (cA 0, 96, .inl (bk 48 ix (qw QX) (qw QY)))), (b 21, .inl (cA 0, 4, .inl hs))]) [0, 1, 2, 3, 4, 5, 6] rfl
  have hDc := hD.sub (ws' := [cM b mm, (b 16, .inl (cA 0, 2, .inl (t2 ix (nI QX.1) (nI QY.1)))), (b 17, .inl (cA 0, 24, .inl (bk 12 ix (qc QX 0) (qc QY 0)))), (b 18, .inl (cA 0, 24, .inl (bk 12 ix (qc QX 1) (qc QY 1)))), (b 19, .inl (cA 0, 24, .inl (bk 12 ix (qc QX 2) (qc QY 2)))), (b 20, .inl (cA 0, 96, .inl (bk 48 ix (qw QX) (qw QY)))), (b 21, .inl (cA 0, 4, .inl hs))]) [0, 1, 2, 3, 4, 5, 6] (by decide) rfl
  have hFc := va_free (wc := [cM b mm, (b 16, .inl (cA 0, 2, .inl (t2 ix (nI QX.1) (nI QY.1)))), (b 17, .inl (cA 0, 24, .inl (bk 12 ix (qc QX 0) (qc QY 0)))), (b 18, .inl (cA 0, 24, .inl (bk 12 ix (qc QX 1) (qc QY 1)))), (b 19, .inl (cA 0, 24, .inl (bk 12 ix (qc QX 2) (qc QY 2)))), (b 20, .inl (cA 0, 96, .inl (bk 48 ix (qw QX) (qw QY)))), (b 21, .inl (cA 0, 4, .inl hs))]) hD hS hA [0, 1, 2, 3, 4, 5, 6] rfl
  refine va_calli (va_runV (As := [.int (nI ix)]) (rest := []) ⟨hx, hb, hml, hown, hts⟩ (c_X4_takesAt_k l D cA s.heap.size b mm ix QX QY hs (by assumption) (by assumption) (by assumption) (by assumption)) (cwV 1 hts gX4_lose_X4_takesAt rfl rfl rfl (by decide +kernel) ⟨Nat.le_of_ble_eq_true rfl, Nat.le_of_ble_eq_true rfl⟩) ⟨zU_blind, va_recv hK hPc (ci := 6) (q0 := 0) rfl rfl, fun U hU hW => ⟨rfl, zU_call hU hPc hW.alike hK hDc⟩⟩ rfl rfl hl.1 rfl (lv_room (Nat.le_of_ble_eq_true rfl)) dX4_lose_2 ⟨(Nat.zero_le _), (Nat.zero_le _)⟩) hS (fun q _ h => hFc q h) hFc (fun zr u t H1 locs ht hvm hw hB hz1 hk1 hS => ?_)
  obtain ⟨QX'_1, mm'_1⟩ := u
  obtain ⟨hP1, hD1⟩ := hB
  rw [ht] at hP1
  try dsimp only at hw hP1 hD1
  obtain ⟨hP, hD⟩ := va_join (wr := []) (w1 := [cM b mm'_1, (b 16, .inl (cA 0, 2, .inl (t2 ix (nI QX'_1.1) (nI QY.1)))), (b 17, .inl (cA 0, 24, .inl (bk 12 ix (qc QX'_1 0) (qc QY 0)))), (b 18, .inl (cA 0, 24, .inl (bk 12 ix (qc QX'_1 1) (qc QY 1)))), (b 19, .inl (cA 0, 24, .inl (bk 12 ix (qc QX'_1 2) (qc QY 2)))), (b 20, .inl (cA 0, 96, .inl (bk 48 ix (qw QX'_1) (qw QY)))), (b 21, .inl (cA 0, 4, .inl (fun k => QX.2 0 (3 + k))))]) hP hD [0, 1, 2, 3, 4, 5, 6] [] rfl rfl (by decide) (by decide) hk1 hFc hP1 hD1
  generalize H1 = H at hP hS ⊢
  have hP := hP.sub (ws' := [cM b mm'_1, (b 16, .inl (cA 0, 2, .inl (t2 ix (nI QX'_1.1) (nI QY.1)))), (b 17, .inl (cA 0, 24, .inl (bk 12 ix (qc QX'_1 0) (qc QY 0)))), (b 18, .inl (cA 0, 24, .inl (bk 12 ix (qc QX'_1 1) (qc QY 1)))), (b 19, .inl (cA 0, 24, .inl (bk 12 ix (qc QX'_1 2) (qc QY 2)))), (b 20, .inl (cA 0, 96, .inl (bk 48 ix (qw QX'_1) (qw QY)))), (b 21, .inl (cA 0, 4, .inl (fun k => QX.2 0 (3 + k))))]) [0, 1, 2, 3, 4, 5, 6] rfl
  have hD := hD.sub (ws' := [cM b mm'_1, (b 16, .inl (cA 0, 2, .inl (t2 ix (nI QX'_1.1) (nI QY.1)))), (b 17, .inl (cA 0, 24, .inl (bk 12 ix (qc QX'_1 0) (qc QY 0)))), (b 18, .inl (cA 0, 24, .inl (bk 12 ix (qc QX'_1 1) (qc QY 1)))), (b 19, .inl (cA 0, 24, .inl (bk 12 ix (qc QX'_1 2) (qc QY 2)))), (b 20, .inl (cA 0, 96, .inl (bk 48 ix (qw QX'_1) (qw QY)))), (b 21, .inl (cA 0, 4, .inl (fun k => QX.2 0 (3 + k))))]) [0, 1, 2, 3, 4, 5, 6] (by decide) rfl
  clear hPc hDc hFc hP1 hD1 hk1 hz1
  obtain ⟨rfl, rfl, hw⟩ := hw
  have hw_1 := hw
  obtain rfl := hw
  refine lv_if_eq (tgt := 15) hx hb dX4_lose_5 (by decide) (fun c_2 => absurd c_2 (by decide)) (fun _ => ?_)
  refine lv_aload_n hx hb dX4_lose_8 rfl (lv_at hl 0 rfl) ?_
  refine va_get (D := D) (ci := 6) (v := .int ((upd (upd (upd (upd mm 6 0) 2 (QX.2 0 0)) 3 (QX.2 0 1)) 4 (QX.2 0 2)) 2)) (C := RX4) (T := TX4) (N := 29) hx hb hts (fun _ h => List.mem_cons_of_mem _ (List.mem_append_right _ (h))) hown hK hP 0 rfl rfl 22 (by decide) (hts (.fieldLink RX4 109 "OptionWireModel" "hisKind" "I") (List.mem_of_getElem? (i := 1) rfl)) (fun _ h9 => h9) rfl dX4_lose_9 ?_
  refine lv_goto (tgt := 16) hx hb dX4_lose_12 (by decide) ?_
  refine W.widen (k := 0) (n := 0) (by omega) (by omega) ?_
  exact W.iret (v := ((upd (upd (upd (upd mm 6 0) 2 (QX.2 0 0)) 3 (QX.2 0 1)) 4 (QX.2 0 2)) 2)) hx hb hr (fun t ht hW => ⟨⟨(upd (upd (upd (upd mm 6 0) 2 (QX.2 0 0)) 3 (QX.2 0 1)) 4 (QX.2 0 2)) 2, ((pop QX), (upd (upd (upd (upd mm 6 0) 2 (QX.2 0 0)) 3 (QX.2 0 1)) 4 (QX.2 0 2))), rfl, ⟨rfl, rfl, rfl⟩, ⟨by rw [ht]; exact hP, by rw [hAe]; exact hD⟩⟩, hS.F ht⟩) hS.2.2 dX4_lose_16
set_option maxHeartbeats 4000000 in
set_option maxRecDepth 100000 in
theorem c_X4_takesAt_e (l : Launch) (D : va_G) (cA : Nat → ClassId) (sz : Nat) (b : Nat → Nat) (mm : Nat → Int32) (ix : Nat) (QX QY : Qt)  (hix : ix ≤ 1) (h0 : QX.1 = 0) : Met l yX4_takesAt wsX4_takesAt ({ frames := 2, cells := 0, slots := 0, locals := 42 }) (va_Pc [.ref (b 0), .int (nI ix)] (zU D cA sz [cM b mm, (b 16, .inl (cA 0, 2, .inl (t2 ix (nI QX.1) (nI QY.1))))])) (va_Qi (fun (r : Int32) (u : (Nat → Int32)) => u = upd mm 6 2 ∧ r = 0) (fun (u : (Nat → Int32)) t => zB D [cM b mm, (b 16, .inl (cA 0, 2, .inl (t2 ix (nI QX.1) (nI QY.1))))] sz [cM b u, (b 16, .inl (cA 0, 2, .inl (t2 ix (nI QX.1) (nI QY.1))))] t) (va_A [cM b mm, (b 16, .inl (cA 0, 2, .inl (t2 ix (nI QX.1) (nI QY.1))))] sz)) 0 0 (va_A [cM b mm, (b 16, .inl (cA 0, 2, .inl (t2 ix (nI QX.1) (nI QY.1))))] sz) := by
  refine Met.ofW (cc := cX4_takesAt) (maxL := 2) (ret := (some .boolean)) (by decide) rfl ?_
  intro p e s m args below meth c s₁ B hml hv
  obtain ⟨rfl, hsz, hP, hK, hD0⟩ := hv
  have hx := B.exec
  have hb := B.bytes
  have hr := B.returns
  have hts := atoms_spec (ws := wsX4_takesAt) B.pre
  have hown : s.vm.findClass RX4 = some m.cls := findClass_of_methodNamed B.named
  have hlocks := B.notSynchronized
  subst hsz
  have hD := hD0.self (sz := s.heap.size)
  generalize hAe : va_A [cM b mm, (b 16, .inl (cA 0, 2, .inl (t2 ix (nI QX.1) (nI QY.1))))] s.heap.size = A at hD ⊢
  have hA : ∀ q : Nat, s.heap.size ≤ q → A q := fun q h => by rw [← hAe]; exact Or.inr h
  have hS : va_S A s.heap s.heap [] := va_S.rf
  have hl := lv_entry ([.ref (b 0), .int (nI ix)]) (n := 2) (Nat.le_of_ble_eq_true rfl)
  rw [lg_entry_eq]
  generalize (lg_sl ([.ref (b 0), .int (nI ix)]) ++ List.replicate (2 - (lg_sl ([.ref (b 0), .int (nI ix)])).length) Slot.unset).toArray = ls at hl ⊢
  have hl : lv_has ls 2 [(0, .ref (b 0)), (1, .int (nI ix))] := hl
  have hq12 : QX.1 ≤ 12 := by omega
  refine lv_aload_n hx hb dX4_takesAt_0 rfl (lv_at hl 0 rfl) ?_
  refine lv_iload_n hx hb dX4_takesAt_1 rfl (lv_at hl 1 rfl) ?_
  have hPc := hP.sub (ws' := []) [] rfl
  have hDc := hD.sub (ws' := []) [] (by decide) rfl
  have hFc := va_free (wc := []) hD hS hA [] rfl
  refine va_calli (va_runS (As := [.int (nI ix)]) (rest := [.ref (b 0)]) ⟨hx, hb, hml, hown, hts⟩ (c_X4_isEnd l D cA s.heap.size (nI ix)) (va_cwS 1 hts gX4_takesAt_X4_isEnd rfl rfl rfl (by decide +kernel) ⟨Nat.le_of_ble_eq_true rfl, Nat.le_of_ble_eq_true rfl⟩) ⟨zU_blind, fun U hU hW => ⟨rfl, zU_call hU hPc hW.alike hK hDc⟩⟩ rfl rfl hl.1 rfl (lv_room (Nat.le_of_ble_eq_true rfl)) dX4_takesAt_2 ⟨(Nat.zero_le _), (Nat.zero_le _)⟩) hS (fun q _ h => hFc q h) hFc (fun zr u t H1 locs ht hvm hw hB hz1 hk1 hS => ?_)
  obtain ⟨hP1, hD1⟩ := hB
  rw [ht] at hP1
  obtain ⟨hP, hD⟩ := va_join (wr := [cM b mm, (b 16, .inl (cA 0, 2, .inl (t2 ix (nI QX.1) (nI QY.1))))]) (w1 := []) hP hD [] [0, 1] rfl rfl (by decide) (by decide) hk1 hFc hP1 hD1
  generalize H1 = H at hP hS ⊢
  have hP := hP.sub (ws' := [cM b mm, (b 16, .inl (cA 0, 2, .inl (t2 ix (nI QX.1) (nI QY.1))))]) [0, 1] rfl
  have hD := hD.sub (ws' := [cM b mm, (b 16, .inl (cA 0, 2, .inl (t2 ix (nI QX.1) (nI QY.1))))]) [0, 1] (by decide) rfl
  clear hPc hDc hFc hP1 hD1 hk1 hz1
  have hw_1 := hw
  rcases z_bool hw with ⟨h_1, rfl⟩ | ⟨h_1, rfl⟩
  · skip
    refine lv_if_ne (tgt := 12) hx hb dX4_takesAt_5 (by decide) (fun _ => ?_) (fun c_2 => absurd c_2 (by decide))
    refine lv_aload_n hx hb dX4_takesAt_12 rfl (lv_at hl 0 rfl) ?_
    refine va_get (D := D) (ci := 6) (v := .ref (b 16)) (C := RX4) (T := TX4) (N := 29) hx hb hts (fun _ h => List.mem_cons_of_mem _ (List.mem_append_right _ (h))) hown hK hP 0 rfl rfl 17 (by decide) (hts (.fieldLink RX4 56 "OptionWireModel" "many" "[I") (List.mem_of_getElem? (i := 1) rfl)) (fun _ h9 => h9) rfl dX4_takesAt_13 ?_
    refine lv_iload_n hx hb dX4_takesAt_16 rfl (lv_at hl 1 rfl) ?_
    refine z_iald (k := ix) (v := (nI QX.1)) hx hb hK hP 1 0 rfl rfl rfl (by omega) (by decide) t2_x dX4_takesAt_17 ?_
    refine lv_if_ne (tgt := 25) hx hb dX4_takesAt_18 (by decide) (fun c_3 => ?_) (fun c_3 => ?_)
    · have c_3 := mt (nI_eq (a := QX.1) (b := 0) (by omega) (by omega)).mpr c_3
      exact absurd h0 c_3
    · have c_3 := (nI_eq (a := QX.1) (b := 0) (by omega) (by omega)).mp c_3
      refine lv_iconst (v := 2) hx hb dX4_takesAt_21 (by decide) ?_
      refine lv_goto (tgt := 26) hx hb dX4_takesAt_22 (by decide) ?_
      have hPc := hP.sub (ws' := [cM b mm]) [0] rfl
      have hDc := hD.sub (ws' := [cM b mm]) [0] (by decide) rfl
      have hFc := va_free (wc := [cM b mm]) hD hS hA [0] rfl
      refine va_calli (va_runV (As := [.int 2]) (rest := []) ⟨hx, hb, hml, hown, hts⟩ (c_X4_can l D cA H.size b mm 2) (cwV 1 hts gX4_takesAt_X4_can rfl rfl rfl (by decide +kernel) ⟨Nat.le_of_ble_eq_true rfl, Nat.le_of_ble_eq_true rfl⟩) ⟨zU_blind, va_recv hK hPc (ci := 6) (q0 := 0) rfl rfl, fun U hU hW => ⟨rfl, zU_call hU hPc hW.alike hK hDc⟩⟩ rfl rfl hl.1 rfl (lv_room (Nat.le_of_ble_eq_true rfl)) dX4_takesAt_26 ⟨(Nat.zero_le _), (Nat.zero_le _)⟩) hS (fun q _ h => hFc q h) hFc (fun zr u t H1 locs ht hvm hw hB hz1 hk1 hS => ?_)
      obtain ⟨mm'_4, rfl⟩ : ∃ z, z = u := ⟨_, rfl⟩
      obtain ⟨hP1, hD1⟩ := hB
      rw [ht] at hP1
      try dsimp only at hw hP1 hD1
      obtain ⟨hP, hD⟩ := va_join (wr := [(b 16, .inl (cA 0, 2, .inl (t2 ix (nI QX.1) (nI QY.1))))]) (w1 := [cM b mm'_4]) hP hD [0] [1] rfl rfl (by decide) (by decide) hk1 hFc hP1 hD1
      generalize H1 = H at hP hS ⊢
      have hP := hP.sub (ws' := [cM b mm'_4, (b 16, .inl (cA 0, 2, .inl (t2 ix (nI QX.1) (nI QY.1))))]) [1, 0] rfl
      have hD := hD.sub (ws' := [cM b mm'_4, (b 16, .inl (cA 0, 2, .inl (t2 ix (nI QX.1) (nI QY.1))))]) [1, 0] (by decide) rfl
      clear hPc hDc hFc hP1 hD1 hk1 hz1
      obtain ⟨rfl, hw⟩ := hw
      have hw_4 := hw
      rcases z_bool hw with ⟨h_4, rfl⟩ | ⟨h_4, rfl⟩
      · exact absurd h_4 (by decide)
      · skip
        refine lv_if_ne (tgt := 34) hx hb dX4_takesAt_29 (by decide) (fun c_5 => absurd c_5 (by decide)) (fun _ => ?_)
        refine lv_iconst (v := 0) hx hb dX4_takesAt_32 (by decide) ?_
        refine W.widen (k := 0) (n := 0) (by omega) (by omega) ?_
        exact W.zret (v := 0) hx hb hr rfl (fun t ht hW => ⟨⟨0, ((upd mm 6 2)), rfl, ⟨rfl, rfl⟩, ⟨by rw [ht]; exact hP, by rw [hAe]; exact hD⟩⟩, hS.F ht⟩) hS.2.2 dX4_takesAt_33
  · exact absurd (inr_ix hix) h_1
set_option maxHeartbeats 4000000 in
set_option maxRecDepth 100000 in
theorem c_X4_takesAt_b (l : Launch) (D : va_G) (cA : Nat → ClassId) (sz : Nat) (b : Nat → Nat) (mm : Nat → Int32) (n : Int32) (hn : ¬ inr n 0 1) : Met l yX4_takesAt wsX4_takesAt ({ frames := 2, cells := 0, slots := 0, locals := 42 }) (va_Pc [.ref (b 0), .int n] (zU D cA sz [cM b mm])) (va_Qi (fun (r : Int32) (u : (Nat → Int32)) => u = upd mm 6 1 ∧ r = 0) (fun (u : (Nat → Int32)) t => zB D [cM b mm] sz [cM b u] t) (va_A [cM b mm] sz)) 0 0 (va_A [cM b mm] sz) := by
  refine Met.ofW (cc := cX4_takesAt) (maxL := 2) (ret := (some .boolean)) (by decide) rfl ?_
  intro p e s m args below meth c s₁ B hml hv
  obtain ⟨rfl, hsz, hP, hK, hD0⟩ := hv
  have hx := B.exec
  have hb := B.bytes
  have hr := B.returns
  have hts := atoms_spec (ws := wsX4_takesAt) B.pre
  have hown : s.vm.findClass RX4 = some m.cls := findClass_of_methodNamed B.named
  have hlocks := B.notSynchronized
  subst hsz
  have hD := hD0.self (sz := s.heap.size)
  generalize hAe : va_A [cM b mm] s.heap.size = A at hD ⊢
  have hA : ∀ q : Nat, s.heap.size ≤ q → A q := fun q h => by rw [← hAe]; exact Or.inr h
  have hS : va_S A s.heap s.heap [] := va_S.rf
  have hl := lv_entry ([.ref (b 0), .int n]) (n := 2) (Nat.le_of_ble_eq_true rfl)
  rw [lg_entry_eq]
  generalize (lg_sl ([.ref (b 0), .int n]) ++ List.replicate (2 - (lg_sl ([.ref (b 0), .int n])).length) Slot.unset).toArray = ls at hl ⊢
  have hl : lv_has ls 2 [(0, .ref (b 0)), (1, .int n)] := hl
  refine lv_aload_n hx hb dX4_takesAt_0 rfl (lv_at hl 0 rfl) ?_
  refine lv_iload_n hx hb dX4_takesAt_1 rfl (lv_at hl 1 rfl) ?_
  have hPc := hP.sub (ws' := []) [] rfl
  have hDc := hD.sub (ws' := []) [] (by decide) rfl
  have hFc := va_free (wc := []) hD hS hA [] rfl
  refine va_calli (va_runS (As := [.int n]) (rest := [.ref (b 0)]) ⟨hx, hb, hml, hown, hts⟩ (c_X4_isEnd l D cA s.heap.size n) (va_cwS 1 hts gX4_takesAt_X4_isEnd rfl rfl rfl (by decide +kernel) ⟨Nat.le_of_ble_eq_true rfl, Nat.le_of_ble_eq_true rfl⟩) ⟨zU_blind, fun U hU hW => ⟨rfl, zU_call hU hPc hW.alike hK hDc⟩⟩ rfl rfl hl.1 rfl (lv_room (Nat.le_of_ble_eq_true rfl)) dX4_takesAt_2 ⟨(Nat.zero_le _), (Nat.zero_le _)⟩) hS (fun q _ h => hFc q h) hFc (fun zr u t H1 locs ht hvm hw hB hz1 hk1 hS => ?_)
  obtain ⟨hP1, hD1⟩ := hB
  rw [ht] at hP1
  obtain ⟨hP, hD⟩ := va_join (wr := [cM b mm]) (w1 := []) hP hD [] [0] rfl rfl (by decide) (by decide) hk1 hFc hP1 hD1
  generalize H1 = H at hP hS ⊢
  have hP := hP.sub (ws' := [cM b mm]) [0] rfl
  have hD := hD.sub (ws' := [cM b mm]) [0] (by decide) rfl
  clear hPc hDc hFc hP1 hD1 hk1 hz1
  have hw_1 := hw
  rcases z_bool hw with ⟨h_1, rfl⟩ | ⟨h_1, rfl⟩
  · exact absurd h_1 hn
  · skip
    refine lv_if_ne (tgt := 12) hx hb dX4_takesAt_5 (by decide) (fun c_2 => absurd c_2 (by decide)) (fun _ => ?_)
    refine lv_iconst (v := 1) hx hb dX4_takesAt_8 (by decide) ?_
    refine lv_goto (tgt := 26) hx hb dX4_takesAt_9 (by decide) ?_
    have hPc := hP.sub (ws' := [cM b mm]) [0] rfl
    have hDc := hD.sub (ws' := [cM b mm]) [0] (by decide) rfl
    have hFc := va_free (wc := [cM b mm]) hD hS hA [0] rfl
    refine va_calli (va_runV (As := [.int 1]) (rest := []) ⟨hx, hb, hml, hown, hts⟩ (c_X4_can l D cA H.size b mm 1) (cwV 1 hts gX4_takesAt_X4_can rfl rfl rfl (by decide +kernel) ⟨Nat.le_of_ble_eq_true rfl, Nat.le_of_ble_eq_true rfl⟩) ⟨zU_blind, va_recv hK hPc (ci := 6) (q0 := 0) rfl rfl, fun U hU hW => ⟨rfl, zU_call hU hPc hW.alike hK hDc⟩⟩ rfl rfl hl.1 rfl (lv_room (Nat.le_of_ble_eq_true rfl)) dX4_takesAt_26 ⟨(Nat.zero_le _), (Nat.zero_le _)⟩) hS (fun q _ h => hFc q h) hFc (fun zr u t H1 locs ht hvm hw hB hz1 hk1 hS => ?_)
    obtain ⟨mm'_3, rfl⟩ : ∃ z, z = u := ⟨_, rfl⟩
    obtain ⟨hP1, hD1⟩ := hB
    rw [ht] at hP1
    try dsimp only at hw hP1 hD1
    obtain ⟨hP, hD⟩ := va_join (wr := []) (w1 := [cM b mm'_3]) hP hD [0] [] rfl rfl (by decide) (by decide) hk1 hFc hP1 hD1
    generalize H1 = H at hP hS ⊢
    have hP := hP.sub (ws' := [cM b mm'_3]) [0] rfl
    have hD := hD.sub (ws' := [cM b mm'_3]) [0] (by decide) rfl
    clear hPc hDc hFc hP1 hD1 hk1 hz1
    obtain ⟨rfl, hw⟩ := hw
    have hw_3 := hw
    rcases z_bool hw with ⟨h_3, rfl⟩ | ⟨h_3, rfl⟩
    · exact absurd h_3 (by decide)
    · skip
      refine lv_if_ne (tgt := 34) hx hb dX4_takesAt_29 (by decide) (fun c_4 => absurd c_4 (by decide)) (fun _ => ?_)
      refine lv_iconst (v := 0) hx hb dX4_takesAt_32 (by decide) ?_
      refine W.widen (k := 0) (n := 0) (by omega) (by omega) ?_
      exact W.zret (v := 0) hx hb hr rfl (fun t ht hW => ⟨⟨0, ((upd mm 6 1)), rfl, ⟨rfl, rfl⟩, ⟨by rw [ht]; exact hP, by rw [hAe]; exact hD⟩⟩, hS.F ht⟩) hS.2.2 dX4_takesAt_33
set_option maxHeartbeats 4000000 in
set_option maxRecDepth 100000 in
theorem c_X4_lose_e (l : Launch) (D : va_G) (cA : Nat → ClassId) (sz : Nat) (b : Nat → Nat) (mm : Nat → Int32) (ix : Nat) (QX QY : Qt)  (hix : ix ≤ 1) (h0 : QX.1 = 0) : Met l yX4_lose wsX4_lose ({ frames := 3, cells := 0, slots := 0, locals := 63 }) (va_Pc [.ref (b 0), .int (nI ix)] (zU D cA sz [cM b mm, (b 16, .inl (cA 0, 2, .inl (t2 ix (nI QX.1) (nI QY.1))))])) (va_Qi (fun (r : Int32) (u : (Nat → Int32)) => u = upd mm 6 2 ∧ r = 0) (fun (u : (Nat → Int32)) t => zB D [cM b mm, (b 16, .inl (cA 0, 2, .inl (t2 ix (nI QX.1) (nI QY.1))))] sz [cM b u, (b 16, .inl (cA 0, 2, .inl (t2 ix (nI QX.1) (nI QY.1))))] t) (va_A [cM b mm, (b 16, .inl (cA 0, 2, .inl (t2 ix (nI QX.1) (nI QY.1))))] sz)) 0 0 (va_A [cM b mm, (b 16, .inl (cA 0, 2, .inl (t2 ix (nI QX.1) (nI QY.1))))] sz) := by
  refine Met.ofW (cc := cX4_lose) (maxL := 2) (ret := (some .int)) (by decide) rfl ?_
  intro p e s m args below meth c s₁ B hml hv
  obtain ⟨rfl, hsz, hP, hK, hD0⟩ := hv
  have hx := B.exec
  have hb := B.bytes
  have hr := B.returns
  have hts := atoms_spec (ws := wsX4_lose) B.pre
  have hown : s.vm.findClass RX4 = some m.cls := findClass_of_methodNamed B.named
  have hlocks := B.notSynchronized
  subst hsz
  have hD := hD0.self (sz := s.heap.size)
  generalize hAe : va_A [cM b mm, (b 16, .inl (cA 0, 2, .inl (t2 ix (nI QX.1) (nI QY.1))))] s.heap.size = A at hD ⊢
  have hA : ∀ q : Nat, s.heap.size ≤ q → A q := fun q h => by rw [← hAe]; exact Or.inr h
  have hS : va_S A s.heap s.heap [] := va_S.rf
  have hl := lv_entry ([.ref (b 0), .int (nI ix)]) (n := 2) (Nat.le_of_ble_eq_true rfl)
  rw [lg_entry_eq]
  generalize (lg_sl ([.ref (b 0), .int (nI ix)]) ++ List.replicate (2 - (lg_sl ([.ref (b 0), .int (nI ix)])).length) Slot.unset).toArray = ls at hl ⊢
  have hl : lv_has ls 2 [(0, .ref (b 0)), (1, .int (nI ix))] := hl
  have hq12 : QX.1 ≤ 12 := by omega
  refine lv_aload_n hx hb dX4_lose_0 rfl (lv_at hl 0 rfl) ?_
  refine lv_iload_n hx hb dX4_lose_1 rfl (lv_at hl 1 rfl) ?_
  have hPc := hP.sub (ws' := [cM b mm, (b 16, .inl (cA 0, 2, .inl (t2 ix (nI QX.1) (nI QY.1))))]) [0, 1] rfl
  have hDc := hD.sub (ws' := [cM b mm, (b 16, .inl (cA 0, 2, .inl (t2 ix (nI QX.1) (nI QY.1))))]) [0, 1] (by decide) rfl
  have hFc := va_free (wc := [cM b mm, (b 16, .inl (cA 0, 2, .inl (t2 ix (nI QX.1) (nI QY.1))))]) hD hS hA [0, 1] rfl
  refine va_calli (va_runV (As := [.int (nI ix)]) (rest := []) ⟨hx, hb, hml, hown, hts⟩ (c_X4_takesAt_e l D cA s.heap.size b mm ix QX QY (by assumption) (by assumption)) (cwV 1 hts gX4_lose_X4_takesAt rfl rfl rfl (by decide +kernel) ⟨Nat.le_of_ble_eq_true rfl, Nat.le_of_ble_eq_true rfl⟩) ⟨zU_blind, va_recv hK hPc (ci := 6) (q0 := 0) rfl rfl, fun U hU hW => ⟨rfl, zU_call hU hPc hW.alike hK hDc⟩⟩ rfl rfl hl.1 rfl (lv_room (Nat.le_of_ble_eq_true rfl)) dX4_lose_2 ⟨(Nat.zero_le _), (Nat.zero_le _)⟩) hS (fun q _ h => hFc q h) hFc (fun zr u t H1 locs ht hvm hw hB hz1 hk1 hS => ?_)
  obtain ⟨mm'_1, rfl⟩ : ∃ z, z = u := ⟨_, rfl⟩
  obtain ⟨hP1, hD1⟩ := hB
  rw [ht] at hP1
  try dsimp only at hw hP1 hD1
  obtain ⟨hP, hD⟩ := va_join (wr := []) (w1 := [cM b mm'_1, (b 16, .inl (cA 0, 2, .inl (t2 ix (nI QX.1) (nI QY.1))))]) hP hD [0, 1] [] rfl rfl (by decide) (by decide) hk1 hFc hP1 hD1
  generalize H1 = H at hP hS ⊢
  have hP := hP.sub (ws' := [cM b mm'_1, (b 16, .inl (cA 0, 2, .inl (t2 ix (nI QX.1) (nI QY.1))))]) [0, 1] rfl
  have hD := hD.sub (ws' := [cM b mm'_1, (b 16, .inl (cA 0, 2, .inl (t2 ix (nI QX.1) (nI QY.1))))]) [0, 1] (by decide) rfl
  clear hPc hDc hFc hP1 hD1 hk1 hz1
  obtain ⟨rfl, hw⟩ := hw
  have hw_1 := hw
  obtain rfl := hw
  refine lv_if_eq (tgt := 15) hx hb dX4_lose_5 (by decide) (fun _ => ?_) (fun c_2 => absurd c_2 (by decide))
  refine lv_iconst (v := 0) hx hb dX4_lose_15 (by decide) ?_
  refine W.widen (k := 0) (n := 0) (by omega) (by omega) ?_
  exact W.iret (v := 0) hx hb hr (fun t ht hW => ⟨⟨0, ((upd mm 6 2)), rfl, ⟨rfl, rfl⟩, ⟨by rw [ht]; exact hP, by rw [hAe]; exact hD⟩⟩, hS.F ht⟩) hS.2.2 dX4_lose_16
set_option maxHeartbeats 4000000 in
set_option maxRecDepth 100000 in
theorem c_X4_lose_b (l : Launch) (D : va_G) (cA : Nat → ClassId) (sz : Nat) (b : Nat → Nat) (mm : Nat → Int32) (n : Int32) (hn : ¬ inr n 0 1) : Met l yX4_lose wsX4_lose ({ frames := 3, cells := 0, slots := 0, locals := 63 }) (va_Pc [.ref (b 0), .int n] (zU D cA sz [cM b mm])) (va_Qi (fun (r : Int32) (u : (Nat → Int32)) => u = upd mm 6 1 ∧ r = 0) (fun (u : (Nat → Int32)) t => zB D [cM b mm] sz [cM b u] t) (va_A [cM b mm] sz)) 0 0 (va_A [cM b mm] sz) := by
  refine Met.ofW (cc := cX4_lose) (maxL := 2) (ret := (some .int)) (by decide) rfl ?_
  intro p e s m args below meth c s₁ B hml hv
  obtain ⟨rfl, hsz, hP, hK, hD0⟩ := hv
  have hx := B.exec
  have hb := B.bytes
  have hr := B.returns
  have hts := atoms_spec (ws := wsX4_lose) B.pre
  have hown : s.vm.findClass RX4 = some m.cls := findClass_of_methodNamed B.named
  have hlocks := B.notSynchronized
  subst hsz
  have hD := hD0.self (sz := s.heap.size)
  generalize hAe : va_A [cM b mm] s.heap.size = A at hD ⊢
  have hA : ∀ q : Nat, s.heap.size ≤ q → A q := fun q h => by rw [← hAe]; exact Or.inr h
  have hS : va_S A s.heap s.heap [] := va_S.rf
  have hl := lv_entry ([.ref (b 0), .int n]) (n := 2) (Nat.le_of_ble_eq_true rfl)
  rw [lg_entry_eq]
  generalize (lg_sl ([.ref (b 0), .int n]) ++ List.replicate (2 - (lg_sl ([.ref (b 0), .int n])).length) Slot.unset).toArray = ls at hl ⊢
  have hl : lv_has ls 2 [(0, .ref (b 0)), (1, .int n)] := hl
  refine lv_aload_n hx hb dX4_lose_0 rfl (lv_at hl 0 rfl) ?_
  refine lv_iload_n hx hb dX4_lose_1 rfl (lv_at hl 1 rfl) ?_
  have hPc := hP.sub (ws' := [cM b mm]) [0] rfl
  have hDc := hD.sub (ws' := [cM b mm]) [0] (by decide) rfl
  have hFc := va_free (wc := [cM b mm]) hD hS hA [0] rfl
  refine va_calli (va_runV (As := [.int n]) (rest := []) ⟨hx, hb, hml, hown, hts⟩ (c_X4_takesAt_b l D cA s.heap.size b mm n (by assumption)) (cwV 1 hts gX4_lose_X4_takesAt rfl rfl rfl (by decide +kernel) ⟨Nat.le_of_ble_eq_true rfl, Nat.le_of_ble_eq_true rfl⟩) ⟨zU_blind, va_recv hK hPc (ci := 6) (q0 := 0) rfl rfl, fun U hU hW => ⟨rfl, zU_call hU hPc hW.alike hK hDc⟩⟩ rfl rfl hl.1 rfl (lv_room (Nat.le_of_ble_eq_true rfl)) dX4_lose_2 ⟨(Nat.zero_le _), (Nat.zero_le _)⟩) hS (fun q _ h => hFc q h) hFc (fun zr u t H1 locs ht hvm hw hB hz1 hk1 hS => ?_)
  obtain ⟨mm'_1, rfl⟩ : ∃ z, z = u := ⟨_, rfl⟩
  obtain ⟨hP1, hD1⟩ := hB
  rw [ht] at hP1
  try dsimp only at hw hP1 hD1
  obtain ⟨hP, hD⟩ := va_join (wr := []) (w1 := [cM b mm'_1]) hP hD [0] [] rfl rfl (by decide) (by decide) hk1 hFc hP1 hD1
  generalize H1 = H at hP hS ⊢
  have hP := hP.sub (ws' := [cM b mm'_1]) [0] rfl
  have hD := hD.sub (ws' := [cM b mm'_1]) [0] (by decide) rfl
  clear hPc hDc hFc hP1 hD1 hk1 hz1
  obtain ⟨rfl, hw⟩ := hw
  have hw_1 := hw
  obtain rfl := hw
  refine lv_if_eq (tgt := 15) hx hb dX4_lose_5 (by decide) (fun _ => ?_) (fun c_2 => absurd c_2 (by decide))
  refine lv_iconst (v := 0) hx hb dX4_lose_15 (by decide) ?_
  refine W.widen (k := 0) (n := 0) (by omega) (by omega) ?_
  exact W.iret (v := 0) hx hb hr (fun t ht hW => ⟨⟨0, ((upd mm 6 1)), rfl, ⟨rfl, rfl⟩, ⟨by rw [ht]; exact hP, by rw [hAe]; exact hD⟩⟩, hS.F ht⟩) hS.2.2 dX4_lose_16
set_option maxHeartbeats 4000000 in
set_option maxRecDepth 100000 in
theorem c_X4_deliver_e (l : Launch) (D : va_G) (cA : Nat → ClassId) (sz : Nat) (b : Nat → Nat) (mm : Nat → Int32) (ix : Nat) (QX QY : Qt)  (hix : ix ≤ 1) (h0 : QX.1 = 0) : Met l yX4_deliver wsX4_deliver ({ frames := 3, cells := 0, slots := 0, locals := 63 }) (va_Pc [.ref (b 0), .int (nI ix)] (zU D cA sz [cM b mm, (b 16, .inl (cA 0, 2, .inl (t2 ix (nI QX.1) (nI QY.1))))])) (va_Qi (fun (r : Int32) (u : (Nat → Int32)) => u = upd mm 6 2 ∧ r = 0) (fun (u : (Nat → Int32)) t => zB D [cM b mm, (b 16, .inl (cA 0, 2, .inl (t2 ix (nI QX.1) (nI QY.1))))] sz [cM b u, (b 16, .inl (cA 0, 2, .inl (t2 ix (nI QX.1) (nI QY.1))))] t) (va_A [cM b mm, (b 16, .inl (cA 0, 2, .inl (t2 ix (nI QX.1) (nI QY.1))))] sz)) 0 0 (va_A [cM b mm, (b 16, .inl (cA 0, 2, .inl (t2 ix (nI QX.1) (nI QY.1))))] sz) := by
  refine Met.ofW (cc := cX4_deliver) (maxL := 3) (ret := (some .int)) (by decide) rfl ?_
  intro p e s m args below meth c s₁ B hml hv
  obtain ⟨rfl, hsz, hP, hK, hD0⟩ := hv
  have hx := B.exec
  have hb := B.bytes
  have hr := B.returns
  have hts := atoms_spec (ws := wsX4_deliver) B.pre
  have hown : s.vm.findClass RX4 = some m.cls := findClass_of_methodNamed B.named
  have hlocks := B.notSynchronized
  subst hsz
  have hD := hD0.self (sz := s.heap.size)
  generalize hAe : va_A [cM b mm, (b 16, .inl (cA 0, 2, .inl (t2 ix (nI QX.1) (nI QY.1))))] s.heap.size = A at hD ⊢
  have hA : ∀ q : Nat, s.heap.size ≤ q → A q := fun q h => by rw [← hAe]; exact Or.inr h
  have hS : va_S A s.heap s.heap [] := va_S.rf
  have hl := lv_entry ([.ref (b 0), .int (nI ix)]) (n := 3) (Nat.le_of_ble_eq_true rfl)
  rw [lg_entry_eq]
  generalize (lg_sl ([.ref (b 0), .int (nI ix)]) ++ List.replicate (3 - (lg_sl ([.ref (b 0), .int (nI ix)])).length) Slot.unset).toArray = ls at hl ⊢
  have hl : lv_has ls 3 [(0, .ref (b 0)), (1, .int (nI ix))] := hl
  have hq12 : QX.1 ≤ 12 := by omega
  refine lv_aload_n hx hb dX4_deliver_0 rfl (lv_at hl 0 rfl) ?_
  refine lv_iload_n hx hb dX4_deliver_1 rfl (lv_at hl 1 rfl) ?_
  have hPc := hP.sub (ws' := [cM b mm, (b 16, .inl (cA 0, 2, .inl (t2 ix (nI QX.1) (nI QY.1))))]) [0, 1] rfl
  have hDc := hD.sub (ws' := [cM b mm, (b 16, .inl (cA 0, 2, .inl (t2 ix (nI QX.1) (nI QY.1))))]) [0, 1] (by decide) rfl
  have hFc := va_free (wc := [cM b mm, (b 16, .inl (cA 0, 2, .inl (t2 ix (nI QX.1) (nI QY.1))))]) hD hS hA [0, 1] rfl
  refine va_calli (va_runV (As := [.int (nI ix)]) (rest := []) ⟨hx, hb, hml, hown, hts⟩ (c_X4_takesAt_e l D cA s.heap.size b mm ix QX QY (by assumption) (by assumption)) (cwV 1 hts gX4_deliver_X4_takesAt rfl rfl rfl (by decide +kernel) ⟨Nat.le_of_ble_eq_true rfl, Nat.le_of_ble_eq_true rfl⟩) ⟨zU_blind, va_recv hK hPc (ci := 6) (q0 := 0) rfl rfl, fun U hU hW => ⟨rfl, zU_call hU hPc hW.alike hK hDc⟩⟩ rfl rfl hl.1 rfl (lv_room (Nat.le_of_ble_eq_true rfl)) dX4_deliver_2 ⟨(Nat.zero_le _), (Nat.zero_le _)⟩) hS (fun q _ h => hFc q h) hFc (fun zr u t H1 locs ht hvm hw hB hz1 hk1 hS => ?_)
  obtain ⟨mm'_1, rfl⟩ : ∃ z, z = u := ⟨_, rfl⟩
  obtain ⟨hP1, hD1⟩ := hB
  rw [ht] at hP1
  try dsimp only at hw hP1 hD1
  obtain ⟨hP, hD⟩ := va_join (wr := []) (w1 := [cM b mm'_1, (b 16, .inl (cA 0, 2, .inl (t2 ix (nI QX.1) (nI QY.1))))]) hP hD [0, 1] [] rfl rfl (by decide) (by decide) hk1 hFc hP1 hD1
  generalize H1 = H at hP hS ⊢
  have hP := hP.sub (ws' := [cM b mm'_1, (b 16, .inl (cA 0, 2, .inl (t2 ix (nI QX.1) (nI QY.1))))]) [0, 1] rfl
  have hD := hD.sub (ws' := [cM b mm'_1, (b 16, .inl (cA 0, 2, .inl (t2 ix (nI QX.1) (nI QY.1))))]) [0, 1] (by decide) rfl
  clear hPc hDc hFc hP1 hD1 hk1 hz1
  obtain ⟨rfl, hw⟩ := hw
  have hw_1 := hw
  obtain rfl := hw
  refine lv_if_ne (tgt := 10) hx hb dX4_deliver_5 (by decide) (fun c_2 => absurd c_2 (by decide)) (fun _ => ?_)
  refine lv_iconst (v := 0) hx hb dX4_deliver_8 (by decide) ?_
  refine W.widen (k := 0) (n := 0) (by omega) (by omega) ?_
  exact W.iret (v := 0) hx hb hr (fun t ht hW => ⟨⟨0, ((upd mm 6 2)), rfl, ⟨rfl, rfl⟩, ⟨by rw [ht]; exact hP, by rw [hAe]; exact hD⟩⟩, hS.F ht⟩) hS.2.2 dX4_deliver_9
set_option maxHeartbeats 4000000 in
set_option maxRecDepth 100000 in
theorem c_X4_deliver_b (l : Launch) (D : va_G) (cA : Nat → ClassId) (sz : Nat) (b : Nat → Nat) (mm : Nat → Int32) (n : Int32) (hn : ¬ inr n 0 1) : Met l yX4_deliver wsX4_deliver ({ frames := 3, cells := 0, slots := 0, locals := 63 }) (va_Pc [.ref (b 0), .int n] (zU D cA sz [cM b mm])) (va_Qi (fun (r : Int32) (u : (Nat → Int32)) => u = upd mm 6 1 ∧ r = 0) (fun (u : (Nat → Int32)) t => zB D [cM b mm] sz [cM b u] t) (va_A [cM b mm] sz)) 0 0 (va_A [cM b mm] sz) := by
  refine Met.ofW (cc := cX4_deliver) (maxL := 3) (ret := (some .int)) (by decide) rfl ?_
  intro p e s m args below meth c s₁ B hml hv
  obtain ⟨rfl, hsz, hP, hK, hD0⟩ := hv
  have hx := B.exec
  have hb := B.bytes
  have hr := B.returns
  have hts := atoms_spec (ws := wsX4_deliver) B.pre
  have hown : s.vm.findClass RX4 = some m.cls := findClass_of_methodNamed B.named
  have hlocks := B.notSynchronized
  subst hsz
  have hD := hD0.self (sz := s.heap.size)
  generalize hAe : va_A [cM b mm] s.heap.size = A at hD ⊢
  have hA : ∀ q : Nat, s.heap.size ≤ q → A q := fun q h => by rw [← hAe]; exact Or.inr h
  have hS : va_S A s.heap s.heap [] := va_S.rf
  have hl := lv_entry ([.ref (b 0), .int n]) (n := 3) (Nat.le_of_ble_eq_true rfl)
  rw [lg_entry_eq]
  generalize (lg_sl ([.ref (b 0), .int n]) ++ List.replicate (3 - (lg_sl ([.ref (b 0), .int n])).length) Slot.unset).toArray = ls at hl ⊢
  have hl : lv_has ls 3 [(0, .ref (b 0)), (1, .int n)] := hl
  refine lv_aload_n hx hb dX4_deliver_0 rfl (lv_at hl 0 rfl) ?_
  refine lv_iload_n hx hb dX4_deliver_1 rfl (lv_at hl 1 rfl) ?_
  have hPc := hP.sub (ws' := [cM b mm]) [0] rfl
  have hDc := hD.sub (ws' := [cM b mm]) [0] (by decide) rfl
  have hFc := va_free (wc := [cM b mm]) hD hS hA [0] rfl
  refine va_calli (va_runV (As := [.int n]) (rest := []) ⟨hx, hb, hml, hown, hts⟩ (c_X4_takesAt_b l D cA s.heap.size b mm n (by assumption)) (cwV 1 hts gX4_deliver_X4_takesAt rfl rfl rfl (by decide +kernel) ⟨Nat.le_of_ble_eq_true rfl, Nat.le_of_ble_eq_true rfl⟩) ⟨zU_blind, va_recv hK hPc (ci := 6) (q0 := 0) rfl rfl, fun U hU hW => ⟨rfl, zU_call hU hPc hW.alike hK hDc⟩⟩ rfl rfl hl.1 rfl (lv_room (Nat.le_of_ble_eq_true rfl)) dX4_deliver_2 ⟨(Nat.zero_le _), (Nat.zero_le _)⟩) hS (fun q _ h => hFc q h) hFc (fun zr u t H1 locs ht hvm hw hB hz1 hk1 hS => ?_)
  obtain ⟨mm'_1, rfl⟩ : ∃ z, z = u := ⟨_, rfl⟩
  obtain ⟨hP1, hD1⟩ := hB
  rw [ht] at hP1
  try dsimp only at hw hP1 hD1
  obtain ⟨hP, hD⟩ := va_join (wr := []) (w1 := [cM b mm'_1]) hP hD [0] [] rfl rfl (by decide) (by decide) hk1 hFc hP1 hD1
  generalize H1 = H at hP hS ⊢
  have hP := hP.sub (ws' := [cM b mm'_1]) [0] rfl
  have hD := hD.sub (ws' := [cM b mm'_1]) [0] (by decide) rfl
  clear hPc hDc hFc hP1 hD1 hk1 hz1
  obtain ⟨rfl, hw⟩ := hw
  have hw_1 := hw
  obtain rfl := hw
  refine lv_if_ne (tgt := 10) hx hb dX4_deliver_5 (by decide) (fun c_2 => absurd c_2 (by decide)) (fun _ => ?_)
  refine lv_iconst (v := 0) hx hb dX4_deliver_8 (by decide) ?_
  refine W.widen (k := 0) (n := 0) (by omega) (by omega) ?_
  exact W.iret (v := 0) hx hb hr (fun t ht hW => ⟨⟨0, ((upd mm 6 1)), rfl, ⟨rfl, rfl⟩, ⟨by rw [ht]; exact hP, by rw [hAe]; exact hD⟩⟩, hS.F ht⟩) hS.2.2 dX4_deliver_9
set_option maxHeartbeats 4000000 in
set_option maxRecDepth 100000 in
/-- deliver(end), a packet waits -/
theorem c_X4_deliver_k (l : Launch) (D : va_G) (cA : Nat → ClassId) (sz : Nat) (b : Nat → Nat) (mm : Nat → Int32) (ix : Nat) (QX QY : Qt) (xv yv : Nat → Int32) (xd yd : Nat → Nat → Int32) (hs sn : Nat → Int32) (hix : ix ≤ 1) (hqx : QX.1 ≤ 12) (hqy : QY.1 ≤ 12) (h0 : 0 < QX.1) (hbd : ∀ j, j < 4 → xd 3 j ≤ xd 4 j) : Met l yX4_deliver wsX4_deliver ({ frames := 5, cells := 0, slots := 0, locals := 117 }) (va_Pc [.ref (b 0), .int (nI ix)] (zU D cA sz [cM b mm, (b 1, .inl (cA 0, 8, .inl (bk 4 ix (xd 0) (yd 0)))), (b 2, .inl (cA 0, 8, .inl (bk 4 ix (xd 1) (yd 1)))), (b 3, .inl (cA 0, 8, .inl (bk 4 ix (xd 2) (yd 2)))), (b 4, .inl (cA 0, 8, .inl (bk 4 ix (xd 3) (yd 3)))), (b 5, .inl (cA 0, 8, .inl (bk 4 ix (xd 4) (yd 4)))), (b 6, .inl (cA 1, 8, .inl (bk 4 ix (xd 5) (yd 5)))), (b 7, .inl (cA 0, 8, .inl (bk 4 ix (xd 6) (yd 6)))), (b 8, .inl (cA 0, 8, .inl (bk 4 ix (xd 7) (yd 7)))), (b 9, .inl (cA 0, 2, .inl (t2 ix (xv 0) (yv 0)))), (b 10, .inl (cA 0, 2, .inl (t2 ix (xv 1) (yv 1)))), (b 11, .inl (cA 0, 2, .inl (t2 ix (xv 2) (yv 2)))), (b 12, .inl (cA 0, 2, .inl (t2 ix (xv 3) (yv 3)))), (b 13, .inl (cA 0, 2, .inl (t2 ix (xv 4) (yv 4)))), (b 14, .inl (cA 0, 2, .inl (t2 ix (xv 5) (yv 5)))), (b 15, .inl (cA 0, 2, .inl (t2 ix (xv 6) (yv 6)))), (b 16, .inl (cA 0, 2, .inl (t2 ix (nI QX.1) (nI QY.1)))), (b 17, .inl (cA 0, 24, .inl (bk 12 ix (qc QX 0) (qc QY 0)))), (b 18, .inl (cA 0, 24, .inl (bk 12 ix (qc QX 1) (qc QY 1)))), (b 19, .inl (cA 0, 24, .inl (bk 12 ix (qc QX 2) (qc QY 2)))), (b 20, .inl (cA 0, 96, .inl (bk 48 ix (qw QX) (qw QY)))), (b 21, .inl (cA 0, 4, .inl hs)), (b 22, .inl (cA 0, 4, .inl sn))])) (va_Qi (fun (r : Int32) (u : ((Nat → Int32) × (Nat → Nat → Int32) × Qt × Qt × (Nat → Int32) × (Nat → Int32))) => u.1 = (hea (mm 0) (QX.2 0 0) (QX.2 0 1) (QX.2 0 2) (fun k => QX.2 0 (3 + k)) xv xd (pop QX) QY (mm 5)).1 ∧ u.2.1 = (hea (mm 0) (QX.2 0 0) (QX.2 0 1) (QX.2 0 2) (fun k => QX.2 0 (3 + k)) xv xd (pop QX) QY (mm 5)).2.1 ∧ u.2.2.1 = (hea (mm 0) (QX.2 0 0) (QX.2 0 1) (QX.2 0 2) (fun k => QX.2 0 (3 + k)) xv xd (pop QX) QY (mm 5)).2.2.1.1 ∧ u.2.2.2.1 = (hea (mm 0) (QX.2 0 0) (QX.2 0 1) (QX.2 0 2) (fun k => QX.2 0 (3 + k)) xv xd (pop QX) QY (mm 5)).2.2.1.2 ∧ u.2.2.2.2.1 = upd (upd (upd (upd (upd mm 6 0) 2 (QX.2 0 0)) 3 (QX.2 0 1)) 4 (QX.2 0 2)) 5 (hea (mm 0) (QX.2 0 0) (QX.2 0 1) (QX.2 0 2) (fun k => QX.2 0 (3 + k)) xv xd (pop QX) QY (mm 5)).2.2.2 ∧ r = QX.2 0 0) (fun (u : ((Nat → Int32) × (Nat → Nat → Int32) × Qt × Qt × (Nat → Int32) × (Nat → Int32))) t => zB D [cM b mm, (b 1, .inl (cA 0, 8, .inl (bk 4 ix (xd 0) (yd 0)))), (b 2, .inl (cA 0, 8, .inl (bk 4 ix (xd 1) (yd 1)))), (b 3, .inl (cA 0, 8, .inl (bk 4 ix (xd 2) (yd 2)))), (b 4, .inl (cA 0, 8, .inl (bk 4 ix (xd 3) (yd 3)))), (b 5, .inl (cA 0, 8, .inl (bk 4 ix (xd 4) (yd 4)))), (b 6, .inl (cA 1, 8, .inl (bk 4 ix (xd 5) (yd 5)))), (b 7, .inl (cA 0, 8, .inl (bk 4 ix (xd 6) (yd 6)))), (b 8, .inl (cA 0, 8, .inl (bk 4 ix (xd 7) (yd 7)))), (b 9, .inl (cA 0, 2, .inl (t2 ix (xv 0) (yv 0)))), (b 10, .inl (cA 0, 2, .inl (t2 ix (xv 1) (yv 1)))), (b 11, .inl (cA 0, 2, .inl (t2 ix (xv 2) (yv 2)))), (b 12, .inl (cA 0, 2, .inl (t2 ix (xv 3) (yv 3)))), (b 13, .inl (cA 0, 2, .inl (t2 ix (xv 4) (yv 4)))), (b 14, .inl (cA 0, 2, .inl (t2 ix (xv 5) (yv 5)))), (b 15, .inl (cA 0, 2, .inl (t2 ix (xv 6) (yv 6)))), (b 16, .inl (cA 0, 2, .inl (t2 ix (nI QX.1) (nI QY.1)))), (b 17, .inl (cA 0, 24, .inl (bk 12 ix (qc QX 0) (qc QY 0)))), (b 18, .inl (cA 0, 24, .inl (bk 12 ix (qc QX 1) (qc QY 1)))), (b 19, .inl (cA 0, 24, .inl (bk 12 ix (qc QX 2) (qc QY 2)))), (b 20, .inl (cA 0, 96, .inl (bk 48 ix (qw QX) (qw QY)))), (b 21, .inl (cA 0, 4, .inl hs)), (b 22, .inl (cA 0, 4, .inl sn))] sz [cM b u.2.2.2.2.1, (b 1, .inl (cA 0, 8, .inl (bk 4 ix (u.2.1 0) (yd 0)))), (b 2, .inl (cA 0, 8, .inl (bk 4 ix (u.2.1 1) (yd 1)))), (b 3, .inl (cA 0, 8, .inl (bk 4 ix (u.2.1 2) (yd 2)))), (b 4, .inl (cA 0, 8, .inl (bk 4 ix (u.2.1 3) (yd 3)))), (b 5, .inl (cA 0, 8, .inl (bk 4 ix (u.2.1 4) (yd 4)))), (b 6, .inl (cA 1, 8, .inl (bk 4 ix (u.2.1 5) (yd 5)))), (b 7, .inl (cA 0, 8, .inl (bk 4 ix (u.2.1 6) (yd 6)))), (b 8, .inl (cA 0, 8, .inl (bk 4 ix (u.2.1 7) (yd 7)))), (b 9, .inl (cA 0, 2, .inl (t2 ix (u.1 0) (yv 0)))), (b 10, .inl (cA 0, 2, .inl (t2 ix (u.1 1) (yv 1)))), (b 11, .inl (cA 0, 2, .inl (t2 ix (u.1 2) (yv 2)))), (b 12, .inl (cA 0, 2, .inl (t2 ix (u.1 3) (yv 3)))), (b 13, .inl (cA 0, 2, .inl (t2 ix (u.1 4) (yv 4)))), (b 14, .inl (cA 0, 2, .inl (t2 ix (u.1 5) (yv 5)))), (b 15, .inl (cA 0, 2, .inl (t2 ix (u.1 6) (yv 6)))), (b 16, .inl (cA 0, 2, .inl (t2 ix (nI u.2.2.1.1) (nI u.2.2.2.1.1)))), (b 17, .inl (cA 0, 24, .inl (bk 12 ix (qc u.2.2.1 0) (qc u.2.2.2.1 0)))), (b 18, .inl (cA 0, 24, .inl (bk 12 ix (qc u.2.2.1 1) (qc u.2.2.2.1 1)))), (b 19, .inl (cA 0, 24, .inl (bk 12 ix (qc u.2.2.1 2) (qc u.2.2.2.1 2)))), (b 20, .inl (cA 0, 96, .inl (bk 48 ix (qw u.2.2.1) (qw u.2.2.2.1)))), (b 21, .inl (cA 0, 4, .inl (fun k => QX.2 0 (3 + k)))), (b 22, .inl (cA 0, 4, .inl u.2.2.2.2.2))] t) (va_A [cM b mm, (b 1, .inl (cA 0, 8, .inl (bk 4 ix (xd 0) (yd 0)))), (b 2, .inl (cA 0, 8, .inl (bk 4 ix (xd 1) (yd 1)))), (b 3, .inl (cA 0, 8, .inl (bk 4 ix (xd 2) (yd 2)))), (b 4, .inl (cA 0, 8, .inl (bk 4 ix (xd 3) (yd 3)))), (b 5, .inl (cA 0, 8, .inl (bk 4 ix (xd 4) (yd 4)))), (b 6, .inl (cA 1, 8, .inl (bk 4 ix (xd 5) (yd 5)))), (b 7, .inl (cA 0, 8, .inl (bk 4 ix (xd 6) (yd 6)))), (b 8, .inl (cA 0, 8, .inl (bk 4 ix (xd 7) (yd 7)))), (b 9, .inl (cA 0, 2, .inl (t2 ix (xv 0) (yv 0)))), (b 10, .inl (cA 0, 2, .inl (t2 ix (xv 1) (yv 1)))), (b 11, .inl (cA 0, 2, .inl (t2 ix (xv 2) (yv 2)))), (b 12, .inl (cA 0, 2, .inl (t2 ix (xv 3) (yv 3)))), (b 13, .inl (cA 0, 2, .inl (t2 ix (xv 4) (yv 4)))), (b 14, .inl (cA 0, 2, .inl (t2 ix (xv 5) (yv 5)))), (b 15, .inl (cA 0, 2, .inl (t2 ix (xv 6) (yv 6)))), (b 16, .inl (cA 0, 2, .inl (t2 ix (nI QX.1) (nI QY.1)))), (b 17, .inl (cA 0, 24, .inl (bk 12 ix (qc QX 0) (qc QY 0)))), (b 18, .inl (cA 0, 24, .inl (bk 12 ix (qc QX 1) (qc QY 1)))), (b 19, .inl (cA 0, 24, .inl (bk 12 ix (qc QX 2) (qc QY 2)))), (b 20, .inl (cA 0, 96, .inl (bk 48 ix (qw QX) (qw QY)))), (b 21, .inl (cA 0, 4, .inl hs)), (b 22, .inl (cA 0, 4, .inl sn))] sz)) 0 0 (va_A [cM b mm, (b 1, .inl (cA 0, 8, .inl (bk 4 ix (xd 0) (yd 0)))), (b 2, .inl (cA 0, 8, .inl (bk 4 ix (xd 1) (yd 1)))), (b 3, .inl (cA 0, 8, .inl (bk 4 ix (xd 2) (yd 2)))), (b 4, .inl (cA 0, 8, .inl (bk 4 ix (xd 3) (yd 3)))), (b 5, .inl (cA 0, 8, .inl (bk 4 ix (xd 4) (yd 4)))), (b 6, .inl (cA 1, 8, .inl (bk 4 ix (xd 5) (yd 5)))), (b 7, .inl (cA 0, 8, .inl (bk 4 ix (xd 6) (yd 6)))), (b 8, .inl (cA 0, 8, .inl (bk 4 ix (xd 7) (yd 7)))), (b 9, .inl (cA 0, 2, .inl (t2 ix (xv 0) (yv 0)))), (b 10, .inl (cA 0, 2, .inl (t2 ix (xv 1) (yv 1)))), (b 11, .inl (cA 0, 2, .inl (t2 ix (xv 2) (yv 2)))), (b 12, .inl (cA 0, 2, .inl (t2 ix (xv 3) (yv 3)))), (b 13, .inl (cA 0, 2, .inl (t2 ix (xv 4) (yv 4)))), (b 14, .inl (cA 0, 2, .inl (t2 ix (xv 5) (yv 5)))), (b 15, .inl (cA 0, 2, .inl (t2 ix (xv 6) (yv 6)))), (b 16, .inl (cA 0, 2, .inl (t2 ix (nI QX.1) (nI QY.1)))), (b 17, .inl (cA 0, 24, .inl (bk 12 ix (qc QX 0) (qc QY 0)))), (b 18, .inl (cA 0, 24, .inl (bk 12 ix (qc QX 1) (qc QY 1)))), (b 19, .inl (cA 0, 24, .inl (bk 12 ix (qc QX 2) (qc QY 2)))), (b 20, .inl (cA 0, 96, .inl (bk 48 ix (qw QX) (qw QY)))), (b 21, .inl (cA 0, 4, .inl hs)), (b 22, .inl (cA 0, 4, .inl sn))] sz) := by
  refine Met.ofW (cc := cX4_deliver) (maxL := 3) (ret := (some .int)) (by decide) rfl ?_
  intro p e s m args below meth c s₁ B hml hv
  obtain ⟨rfl, hsz, hP, hK, hD0⟩ := hv
  have hx := B.exec
  have hb := B.bytes
  have hr := B.returns
  have hts := atoms_spec (ws := wsX4_deliver) B.pre
  have hown : s.vm.findClass RX4 = some m.cls := findClass_of_methodNamed B.named
  have hlocks := B.notSynchronized
  subst hsz
  have hD := hD0.self (sz := s.heap.size)
  generalize hAe : va_A [cM b mm, (b 1, .inl (cA 0, 8, .inl (bk 4 ix (xd 0) (yd 0)))), (b 2, .inl (cA 0, 8, .inl (bk 4 ix (xd 1) (yd 1)))), (b 3, .inl (cA 0, 8, .inl (bk 4 ix (xd 2) (yd 2)))), (b 4, .inl (cA 0, 8, .inl (bk 4 ix (xd 3) (yd 3)))), (b 5, .inl (cA 0, 8, .inl (bk 4 ix (xd 4) (yd 4)))), (b 6, .inl (cA 1, 8, .inl (bk 4 ix (xd 5) (yd 5)))), (b 7, .inl (cA 0, 8, .inl (bk 4 ix (xd 6) (yd 6)))), (b 8, .inl (cA 0, 8, .inl (bk 4 ix (xd 7) (yd 7)))), (b 9, .inl (cA 0, 2, .inl (t2 ix (xv 0) (yv 0)))), (b 10, .inl (cA 0, 2, .inl (t2 ix (xv 1) (yv 1)))), (b 11, .inl (cA 0, 2, .inl (t2 ix (xv 2) (yv 2)))), (b 12, .inl (cA 0, 2, .inl (t2 ix (xv 3) (yv 3)))), (b 13, .inl (cA 0, 2, .inl (t2 ix (xv 4) (yv 4)))), (b 14, .inl (cA 0, 2, .inl (t2 ix (xv 5) (yv 5)))), (b 15, .inl (cA 0, 2, .inl (t2 ix (xv 6) (yv 6)))), (b 16, .inl (cA 0, 2, .inl (t2 ix (nI QX.1) (nI QY.1)))), (b 17, .inl (cA 0, 24, .inl (bk 12 ix (qc QX 0) (qc QY 0)))), (b 18, .inl (cA 0, 24, .inl (bk 12 ix (qc QX 1) (qc QY 1)))), (b 19, .inl (cA 0, 24, .inl (bk 12 ix (qc QX 2) (qc QY 2)))), (b 20, .inl (cA 0, 96, .inl (bk 48 ix (qw QX) (qw QY)))), (b 21, .inl (cA 0, 4, .inl hs)), (b 22, .inl (cA 0, 4, .inl sn))] s.heap.size = A at hD ⊢
  have hA : ∀ q : Nat, s.heap.size ≤ q → A q := fun q h => by rw [← hAe]; exact Or.inr h
  have hS : va_S A s.heap s.heap [] := va_S.rf
  have hl := lv_entry ([.ref (b 0), .int (nI ix)]) (n := 3) (Nat.le_of_ble_eq_true rfl)
  rw [lg_entry_eq]
  generalize (lg_sl ([.ref (b 0), .int (nI ix)]) ++ List.replicate (3 - (lg_sl ([.ref (b 0), .int (nI ix)])).length) Slot.unset).toArray = ls at hl ⊢
  have hl : lv_has ls 3 [(0, .ref (b 0)), (1, .int (nI ix))] := hl
  refine lv_aload_n hx hb dX4_deliver_0 rfl (lv_at hl 0 rfl) ?_
  refine lv_iload_n hx hb dX4_deliver_1 rfl (lv_at hl 1 rfl) ?_
  have hPc := hP.sub (ws' := [cM b mm, (b 16, .inl (cA 0, 2, .inl (t2 ix (nI QX.1) (nI QY.1)))), (b 17, .inl (cA 0, 24, .inl (bk 12 ix (qc QX 0) (qc QY 0)))), (b 18, .inl (cA 0, 24, .inl (bk 12 ix (qc QX 1) (qc QY 1)))), (b 19, .inl (cA 0, 24, .inl (bk 12 ix (qc QX 2) (qc QY 2)))), (b 20, .inl (cA 0, 96, .inl (bk 48 ix (qw QX) (qw QY)))), (b 21, .inl (cA 0, 4, .inl hs))]) [0, 16, 17, 18, 19, 20, 21] rfl
  have hDc := hD.sub (ws' := [cM b mm, (b 16, .inl (cA 0, 2, .inl (t2 ix (nI QX.1) (nI QY.1)))), (b 17, .inl (cA 0, 24, .inl (bk 12 ix (qc QX 0) (qc QY 0)))), (b 18, .inl (cA 0, 24, .inl (bk 12 ix (qc QX 1) (qc QY 1)))), (b 19, .inl (cA 0, 24, .inl (bk 12 ix (qc QX 2) (qc QY 2)))), (b 20, .inl (cA 0, 96, .inl (bk 48 ix (qw QX) (qw QY)))), (b 21, .inl (cA 0, 4, .inl hs))]) [0, 16, 17, 18, 19, 20, 21] (by decide) rfl
  have hFc := va_free (wc := [cM b mm, (b 16, .inl (cA 0, 2, .inl (t2 ix (nI QX.1) (nI QY.1)))), (b 17, .inl (cA 0, 24, .inl (bk 12 ix (qc QX 0) (qc QY 0)))), (b 18, .inl (cA 0, 24, .inl (bk 12 ix (qc QX 1) (qc QY 1)))), (b 19, .inl (cA 0, 24, .inl (bk 12 ix (qc QX 2) (qc QY 2)))), (b 20, .inl (cA 0, 96, .inl (bk 48 ix (qw QX) (qw QY)))), (b 21, .inl (cA 0, 4, .inl hs))]) hD hS hA [0, 16, 17, 18, 19, 20, 21] rfl
  refine va_calli (va_runV (As := [.int (nI ix)]) (rest := []) ⟨hx, hb, hml, hown, hts⟩ (c_X4_takesAt_k l D cA s.heap.size b mm ix QX QY hs (by assumption) (by assumption) (by assumption) (by assumption)) (cwV 1 hts gX4_deliver_X4_takesAt rfl rfl rfl (by decide +kernel) ⟨Nat.le_of_ble_eq_true rfl, Nat.le_of_ble_eq_true rfl⟩) ⟨zU_blind, va_recv hK hPc (ci := 6) (q0 := 0) rfl rfl, fun U hU hW => ⟨rfl, zU_call hU hPc hW.alike hK hDc⟩⟩ rfl rfl hl.1 rfl (lv_room (Nat.le_of_ble_eq_true rfl)) dX4_deliver_2 ⟨(Nat.zero_le _), (Nat.zero_le _)⟩) hS (fun q _ h => hFc q h) hFc (fun zr u t H1 locs ht hvm hw hB hz1 hk1 hS => ?_)
  obtain ⟨QX'_1, mm'_1⟩ := u
  obtain ⟨hP1, hD1⟩ := hB
  rw [ht] at hP1
  try dsimp only at hw hP1 hD1
  obtain ⟨hP, hD⟩ := va_join (wr := [(b 1, .inl (cA 0, 8, .inl (bk 4 ix (xd 0) (yd 0)))), (b 2, .inl (cA 0, 8, .inl (bk 4 ix (xd 1) (yd 1)))), (b 3, .inl (cA 0, 8, .inl (bk 4 ix (xd 2) (yd 2)))), (b 4, .inl (cA 0, 8, .inl (bk 4 ix (xd 3) (yd 3)))), (b 5, .inl (cA 0, 8, .inl (bk 4 ix (xd 4) (yd 4)))), (b 6, .inl (cA 1, 8, .inl (bk 4 ix (xd 5) (yd 5)))), (b 7, .inl (cA 0, 8, .inl (bk 4 ix (xd 6) (yd 6)))), (b 8, .inl (cA 0, 8, .inl (bk 4 ix (xd 7) (yd 7)))), (b 9, .inl (cA 0, 2, .inl (t2 ix (xv 0) (yv 0)))), (b 10, .inl (cA 0, 2, .inl (t2 ix (xv 1) (yv 1)))), (b 11, .inl (cA 0, 2, .inl (t2 ix (xv 2) (yv 2)))), (b 12, .inl (cA 0, 2, .inl (t2 ix (xv 3) (yv 3)))), (b 13, .inl (cA 0, 2, .inl (t2 ix (xv 4) (yv 4)))), (b 14, .inl (cA 0, 2, .inl (t2 ix (xv 5) (yv 5)))), (b 15, .inl (cA 0, 2, .inl (t2 ix (xv 6) (yv 6)))), (b 22, .inl (cA 0, 4, .inl sn))]) (w1 := [cM b mm'_1, (b 16, .inl (cA 0, 2, .inl (t2 ix (nI QX'_1.1) (nI QY.1)))), (b 17, .inl (cA 0, 24, .inl (bk 12 ix (qc QX'_1 0) (qc QY 0)))), (b 18, .inl (cA 0, 24, .inl (bk 12 ix (qc QX'_1 1) (qc QY 1)))), (b 19, .inl (cA 0, 24, .inl (bk 12 ix (qc QX'_1 2) (qc QY 2)))), (b 20, .inl (cA 0, 96, .inl (bk 48 ix (qw QX'_1) (qw QY)))), (b 21, .inl (cA 0, 4, .inl (fun k => QX.2 0 (3 + k))))]) hP hD [0, 16, 17, 18, 19, 20, 21] [1, 2, 3, 4, 5, 6, 7, 8, 9, 10, 11, 12, 13, 14, 15, 22] rfl rfl (by decide) (by decide) hk1 hFc hP1 hD1
  generalize H1 = H at hP hS ⊢
  have hP := hP.sub (ws' := [cM b mm'_1, (b 1, .inl (cA 0, 8, .inl (bk 4 ix (xd 0) (yd 0)))), (b 2, .inl (cA 0, 8, .inl (bk 4 ix (xd 1) (yd 1)))), (b 3, .inl (cA 0, 8, .inl (bk 4 ix (xd 2) (yd 2)))), (b 4, .inl (cA 0, 8, .inl (bk 4 ix (xd 3) (yd 3)))), (b 5, .inl (cA 0, 8, .inl (bk 4 ix (xd 4) (yd 4)))), (b 6, .inl (cA 1, 8, .inl (bk 4 ix (xd 5) (yd 5)))), (b 7, .inl (cA 0, 8, .inl (bk 4 ix (xd 6) (yd 6)))), (b 8, .inl (cA 0, 8, .inl (bk 4 ix (xd 7) (yd 7)))), (b 9, .inl (cA 0, 2, .inl (t2 ix (xv 0) (yv 0)))), (b 10, .inl (cA 0, 2, .inl (t2 ix (xv 1) (yv 1)))), (b 11, .inl (cA 0, 2, .inl (t2 ix (xv 2) (yv 2)))), (b 12, .inl (cA 0, 2, .inl (t2 ix (xv 3) (yv 3)))), (b 13, .inl (cA 0, 2, .inl (t2 ix (xv 4) (yv 4)))), (b 14, .inl (cA 0, 2, .inl (t2 ix (xv 5) (yv 5)))), (b 15, .inl (cA 0, 2, .inl (t2 ix (xv 6) (yv 6)))), (b 16, .inl (cA 0, 2, .inl (t2 ix (nI QX'_1.1) (nI QY.1)))), (b 17, .inl (cA 0, 24, .inl (bk 12 ix (qc QX'_1 0) (qc QY 0)))), (b 18, .inl (cA 0, 24, .inl (bk 12 ix (qc QX'_1 1) (qc QY 1)))), (b 19, .inl (cA 0, 24, .inl (bk 12 ix (qc QX'_1 2) (qc QY 2)))), (b 20, .inl (cA 0, 96, .inl (bk 48 ix (qw QX'_1) (qw QY)))), (b 21, .inl (cA 0, 4, .inl (fun k => QX.2 0 (3 + k)))), (b 22, .inl (cA 0, 4, .inl sn))]) [16, 0, 1, 2, 3, 4, 5, 6, 7, 8, 9, 10, 11, 12, 13, 14, 17, 18, 19, 20, 21, 22, 15] rfl
  have hD := hD.sub (ws' := [cM b mm'_1, (b 1, .inl (cA 0, 8, .inl (bk 4 ix (xd 0) (yd 0)))), (b 2, .inl (cA 0, 8, .inl (bk 4 ix (xd 1) (yd 1)))), (b 3, .inl (cA 0, 8, .inl (bk 4 ix (xd 2) (yd 2)))), (b 4, .inl (cA 0, 8, .inl (bk 4 ix (xd 3) (yd 3)))), (b 5, .inl (cA 0, 8, .inl (bk 4 ix (xd 4) (yd 4)))), (b 6, .inl (cA 1, 8, .inl (bk 4 ix (xd 5) (yd 5)))), (b 7, .inl (cA 0, 8, .inl (bk 4 ix (xd 6) (yd 6)))), (b 8, .inl (cA 0, 8, .inl (bk 4 ix (xd 7) (yd 7)))), (b 9, .inl (cA 0, 2, .inl (t2 ix (xv 0) (yv 0)))), (b 10, .inl (cA 0, 2, .inl (t2 ix (xv 1) (yv 1)))), (b 11, .inl (cA 0, 2, .inl (t2 ix (xv 2) (yv 2)))), (b 12, .inl (cA 0, 2, .inl (t2 ix (xv 3) (yv 3)))), (b 13, .inl (cA 0, 2, .inl (t2 ix (xv 4) (yv 4)))), (b 14, .inl (cA 0, 2, .inl (t2 ix (xv 5) (yv 5)))), (b 15, .inl (cA 0, 2, .inl (t2 ix (xv 6) (yv 6)))), (b 16, .inl (cA 0, 2, .inl (t2 ix (nI QX'_1.1) (nI QY.1)))), (b 17, .inl (cA 0, 24, .inl (bk 12 ix (qc QX'_1 0) (qc QY 0)))), (b 18, .inl (cA 0, 24, .inl (bk 12 ix (qc QX'_1 1) (qc QY 1)))), (b 19, .inl (cA 0, 24, .inl (bk 12 ix (qc QX'_1 2) (qc QY 2)))), (b 20, .inl (cA 0, 96, .inl (bk 48 ix (qw QX'_1) (qw QY)))), (b 21, .inl (cA 0, 4, .inl (fun k => QX.2 0 (3 + k)))), (b 22, .inl (cA 0, 4, .inl sn))]) [16, 0, 1, 2, 3, 4, 5, 6, 7, 8, 9, 10, 11, 12, 13, 14, 17, 18, 19, 20, 21, 22, 15] (by decide) rfl
  clear hPc hDc hFc hP1 hD1 hk1 hz1
  obtain ⟨rfl, rfl, hw⟩ := hw
  have hw_1 := hw
  obtain rfl := hw
  refine lv_if_ne (tgt := 10) hx hb dX4_deliver_5 (by decide) (fun _ => ?_) (fun c_2 => absurd c_2 (by decide))
  refine lv_aload_n hx hb dX4_deliver_10 rfl (lv_at hl 0 rfl) ?_
  refine va_get (D := D) (ci := 6) (v := .int ((upd (upd (upd (upd mm 6 0) 2 (QX.2 0 0)) 3 (QX.2 0 1)) 4 (QX.2 0 2)) 2)) (C := RX4) (T := TX4) (N := 29) hx hb hts (fun _ h => List.mem_cons_of_mem _ (List.mem_append_right _ (h))) hown hK hP 0 rfl rfl 22 (by decide) (hts (.fieldLink RX4 109 "OptionWireModel" "hisKind" "I") (List.mem_of_getElem? (i := 1) rfl)) (fun _ h9 => h9) rfl dX4_deliver_11 ?_
  refine lv_istore_n (lv' := [(2, .int ((upd (upd (upd (upd mm 6 0) 2 (QX.2 0 0)) 3 (QX.2 0 1)) 4 (QX.2 0 2)) 2)), (0, .ref (b 0)), (1, .int (nI ix))]) hx hb dX4_deliver_14 rfl hl (by decide) rfl (fun ls hl => ?_)
  refine lv_aload_n hx hb dX4_deliver_15 rfl (lv_at hl 1 rfl) ?_
  refine lv_iload_n hx hb dX4_deliver_16 rfl (lv_at hl 2 rfl) ?_
  have hPc := hP.sub (ws' := [cM b (upd (upd (upd (upd mm 6 0) 2 (QX.2 0 0)) 3 (QX.2 0 1)) 4 (QX.2 0 2)), (b 1, .inl (cA 0, 8, .inl (bk 4 ix (xd 0) (yd 0)))), (b 2, .inl (cA 0, 8, .inl (bk 4 ix (xd 1) (yd 1)))), (b 3, .inl (cA 0, 8, .inl (bk 4 ix (xd 2) (yd 2)))), (b 4, .inl (cA 0, 8, .inl (bk 4 ix (xd 3) (yd 3)))), (b 5, .inl (cA 0, 8, .inl (bk 4 ix (xd 4) (yd 4)))), (b 6, .inl (cA 1, 8, .inl (bk 4 ix (xd 5) (yd 5)))), (b 7, .inl (cA 0, 8, .inl (bk 4 ix (xd 6) (yd 6)))), (b 8, .inl (cA 0, 8, .inl (bk 4 ix (xd 7) (yd 7)))), (b 9, .inl (cA 0, 2, .inl (t2 ix (xv 0) (yv 0)))), (b 10, .inl (cA 0, 2, .inl (t2 ix (xv 1) (yv 1)))), (b 11, .inl (cA 0, 2, .inl (t2 ix (xv 2) (yv 2)))), (b 12, .inl (cA 0, 2, .inl (t2 ix (xv 3) (yv 3)))), (b 13, .inl (cA 0, 2, .inl (t2 ix (xv 4) (yv 4)))), (b 14, .inl (cA 0, 2, .inl (t2 ix (xv 5) (yv 5)))), (b 15, .inl (cA 0, 2, .inl (t2 ix (xv 6) (yv 6)))), (b 16, .inl (cA 0, 2, .inl (t2 ix (nI (pop QX).1) (nI QY.1)))), (b 17, .inl (cA 0, 24, .inl (bk 12 ix (qc (pop QX) 0) (qc QY 0)))), (b 18, .inl (cA 0, 24, .inl (bk 12 ix (qc (pop QX) 1) (qc QY 1)))), (b 19, .inl (cA 0, 24, .inl (bk 12 ix (qc (pop QX) 2) (qc QY 2)))), (b 20, .inl (cA 0, 96, .inl (bk 48 ix (qw (pop QX)) (qw QY)))), (b 21, .inl (cA 0, 4, .inl (fun k => QX.2 0 (3 + k)))), (b 22, .inl (cA 0, 4, .inl sn))]) [0, 1, 2, 3, 4, 5, 6, 7, 8, 9, 10, 11, 12, 13, 14, 15, 16, 17, 18, 19, 20, 21, 22] rfl
  have hDc := hD.sub (ws' := [cM b (upd (upd (upd (upd mm 6 0) 2 (QX.2 0 0)) 3 (QX.2 0 1)) 4 (QX.2 0 2)), (b 1, .inl (cA 0, 8, .inl (bk 4 ix (xd 0) (yd 0)))), (b 2, .inl (cA 0, 8, .inl (bk 4 ix (xd 1) (yd 1)))), (b 3, .inl (cA 0, 8, .inl (bk 4 ix (xd 2) (yd 2)))), (b 4, .inl (cA 0, 8, .inl (bk 4 ix (xd 3) (yd 3)))), (b 5, .inl (cA 0, 8, .inl (bk 4 ix (xd 4) (yd 4)))), (b 6, .inl (cA 1, 8, .inl (bk 4 ix (xd 5) (yd 5)))), (b 7, .inl (cA 0, 8, .inl (bk 4 ix (xd 6) (yd 6)))), (b 8, .inl (cA 0, 8, .inl (bk 4 ix (xd 7) (yd 7)))), (b 9, .inl (cA 0, 2, .inl (t2 ix (xv 0) (yv 0)))), (b 10, .inl (cA 0, 2, .inl (t2 ix (xv 1) (yv 1)))), (b 11, .inl (cA 0, 2, .inl (t2 ix (xv 2) (yv 2)))), (b 12, .inl (cA 0, 2, .inl (t2 ix (xv 3) (yv 3)))), (b 13, .inl (cA 0, 2, .inl (t2 ix (xv 4) (yv 4)))), (b 14, .inl (cA 0, 2, .inl (t2 ix (xv 5) (yv 5)))), (b 15, .inl (cA 0, 2, .inl (t2 ix (xv 6) (yv 6)))), (b 16, .inl (cA 0, 2, .inl (t2 ix (nI (pop QX).1) (nI QY.1)))), (b 17, .inl (cA 0, 24, .inl (bk 12 ix (qc (pop QX) 0) (qc QY 0)))), (b 18, .inl (cA 0, 24, .inl (bk 12 ix (qc (pop QX) 1) (qc QY 1)))), (b 19, .inl (cA 0, 24, .inl (bk 12 ix (qc (pop QX) 2) (qc QY 2)))), (b 20, .inl (cA 0, 96, .inl (bk 48 ix (qw (pop QX)) (qw QY)))), (b 21, .inl (cA 0, 4, .inl (fun k => QX.2 0 (3 + k)))), (b 22, .inl (cA 0, 4, .inl sn))]) [0, 1, 2, 3, 4, 5, 6, 7, 8, 9, 10, 11, 12, 13, 14, 15, 16, 17, 18, 19, 20, 21, 22] (by decide) rfl
  have hFc := va_free (wc := [cM b (upd (upd (upd (upd mm 6 0) 2 (QX.2 0 0)) 3 (QX.2 0 1)) 4 (QX.2 0 2)), (b 1, .inl (cA 0, 8, .inl (bk 4 ix (xd 0) (yd 0)))), (b 2, .inl (cA 0, 8, .inl (bk 4 ix (xd 1) (yd 1)))), (b 3, .inl (cA 0, 8, .inl (bk 4 ix (xd 2) (yd 2)))), (b 4, .inl (cA 0, 8, .inl (bk 4 ix (xd 3) (yd 3)))), (b 5, .inl (cA 0, 8, .inl (bk 4 ix (xd 4) (yd 4)))), (b 6, .inl (cA 1, 8, .inl (bk 4 ix (xd 5) (yd 5)))), (b 7, .inl (cA 0, 8, .inl (bk 4 ix (xd 6) (yd 6)))), (b 8, .inl (cA 0, 8, .inl (bk 4 ix (xd 7) (yd 7)))), (b 9, .inl (cA 0, 2, .inl (t2 ix (xv 0) (yv 0)))), (b 10, .inl (cA 0, 2, .inl (t2 ix (xv 1) (yv 1)))), (b 11, .inl (cA 0, 2, .inl (t2 ix (xv 2) (yv 2)))), (b 12, .inl (cA 0, 2, .inl (t2 ix (xv 3) (yv 3)))), (b 13, .inl (cA 0, 2, .inl (t2 ix (xv 4) (yv 4)))), (b 14, .inl (cA 0, 2, .inl (t2 ix (xv 5) (yv 5)))), (b 15, .inl (cA 0, 2, .inl (t2 ix (xv 6) (yv 6)))), (b 16, .inl (cA 0, 2, .inl (t2 ix (nI (pop QX).1) (nI QY.1)))), (b 17, .inl (cA 0, 24, .inl (bk 12 ix (qc (pop QX) 0) (qc QY 0)))), (b 18, .inl (cA 0, 24, .inl (bk 12 ix (qc (pop QX) 1) (qc QY 1)))), (b 19, .inl (cA 0, 24, .inl (bk 12 ix (qc (pop QX) 2) (qc QY 2)))), (b 20, .inl (cA 0, 96, .inl (bk 48 ix (qw (pop QX)) (qw QY)))), (b 21, .inl (cA 0, 4, .inl (fun k => QX.2 0 (3 + k)))), (b 22, .inl (cA 0, 4, .inl sn))]) hD hS hA [0, 1, 2, 3, 4, 5, 6, 7, 8, 9, 10, 11, 12, 13, 14, 15, 16, 17, 18, 19, 20, 21, 22] rfl
  refine va_callv (va_runV (As := [.int (nI ix)]) (rest := []) ⟨hx, hb, hml, hown, hts⟩ (c_X4_hears l D cA H.size b (upd (upd (upd (upd mm 6 0) 2 (QX.2 0 0)) 3 (QX.2 0 1)) 4 (QX.2 0 2)) ix (pop QX) QY xv yv xd yd (fun k => QX.2 0 (3 + k)) sn (by assumption) (show QX.1 - 1 ≤ 12 by omega) (by assumption) (by assumption)) (cwV 1 hts gX4_deliver_X4_hears rfl rfl rfl (by decide +kernel) ⟨Nat.le_of_ble_eq_true rfl, Nat.le_of_ble_eq_true rfl⟩) ⟨zU_blind, va_recv hK hPc (ci := 6) (q0 := 0) rfl rfl, fun U hU hW => ⟨rfl, zU_call hU hPc hW.alike hK hDc⟩⟩ rfl rfl hl.1 rfl (lv_room (Nat.le_of_ble_eq_true rfl)) dX4_deliver_17 ⟨(Nat.zero_le _), (Nat.zero_le _)⟩) hS (fun q _ h => hFc q h) hFc (fun u t H1 locs ht hvm hw hB hz1 hk1 hS => ?_)
  obtain ⟨xv'_3, xd'_3, QX'_3, QY'_3, mm'_3, sn'_3⟩ := u
  obtain ⟨hP1, hD1⟩ := hB
  rw [ht] at hP1
  try dsimp only at hw hP1 hD1
  obtain ⟨hP, hD⟩ := va_join (wr := []) (w1 := [cM b mm'_3, (b 1, .inl (cA 0, 8, .inl (bk 4 ix (xd'_3 0) (yd 0)))), (b 2, .inl (cA 0, 8, .inl (bk 4 ix (xd'_3 1) (yd 1)))), (b 3, .inl (cA 0, 8, .inl (bk 4 ix (xd'_3 2) (yd 2)))), (b 4, .inl (cA 0, 8, .inl (bk 4 ix (xd'_3 3) (yd 3)))), (b 5, .inl (cA 0, 8, .inl (bk 4 ix (xd'_3 4) (yd 4)))), (b 6, .inl (cA 1, 8, .inl (bk 4 ix (xd'_3 5) (yd 5)))), (b 7, .inl (cA 0, 8, .inl (bk 4 ix (xd'_3 6) (yd 6)))), (b 8, .inl (cA 0, 8, .inl (bk 4 ix (xd'_3 7) (yd 7)))), (b 9, .inl (cA 0, 2, .inl (t2 ix (xv'_3 0) (yv 0)))), (b 10, .inl (cA 0, 2, .inl (t2 ix (xv'_3 1) (yv 1)))), (b 11, .inl (cA 0, 2, .inl (t2 ix (xv'_3 2) (yv 2)))), (b 12, .inl (cA 0, 2, .inl (t2 ix (xv'_3 3) (yv 3)))), (b 13, .inl (cA 0, 2, .inl (t2 ix (xv'_3 4) (yv 4)))), (b 14, .inl (cA 0, 2, .inl (t2 ix (xv'_3 5) (yv 5)))), (b 15, .inl (cA 0, 2, .inl (t2 ix (xv'_3 6) (yv 6)))), (b 16, .inl (cA 0, 2, .inl (t2 ix (nI QX'_3.1) (nI QY'_3.1)))), (b 17, .inl (cA 0, 24, .inl (bk 12 ix (qc QX'_3 0) (qc QY'_3 0)))), (b 18, .inl (cA 0, 24, .inl (bk 12 ix (qc QX'_3 1) (qc QY'_3 1)))), (b 19, .inl (cA 0, 24, .inl (bk 12 ix (qc QX'_3 2) (qc QY'_3 2)))), (b 20, .inl (cA 0, 96, .inl (bk 48 ix (qw QX'_3) (qw QY'_3)))), (b 21, .inl (cA 0, 4, .inl (fun k => QX.2 0 (3 + k)))), (b 22, .inl (cA 0, 4, .inl sn'_3))]) hP hD [0, 1, 2, 3, 4, 5, 6, 7, 8, 9, 10, 11, 12, 13, 14, 15, 16, 17, 18, 19, 20, 21, 22] [] rfl rfl (by decide) (by decide) hk1 hFc hP1 hD1
  generalize H1 = H at hP hS ⊢
  have hP := hP.sub (ws' := [cM b mm'_3, (b 1, .inl (cA 0, 8, .inl (bk 4 ix (xd'_3 0) (yd 0)))), (b 2, .inl (cA 0, 8, .inl (bk 4 ix (xd'_3 1) (yd 1)))), (b 3, .inl (cA 0, 8, .inl (bk 4 ix (xd'_3 2) (yd 2)))), (b 4, .inl (cA 0, 8, .inl (bk 4 ix (xd'_3 3) (yd 3)))), (b 5, .inl (cA 0, 8, .inl (bk 4 ix (xd'_3 4) (yd 4)))), (b 6, .inl (cA 1, 8, .inl (bk 4 ix (xd'_3 5) (yd 5)))), (b 7, .inl (cA 0, 8, .inl (bk 4 ix (xd'_3 6) (yd 6)))), (b 8, .inl (cA 0, 8, .inl (bk 4 ix (xd'_3 7) (yd 7)))), (b 9, .inl (cA 0, 2, .inl (t2 ix (xv'_3 0) (yv 0)))), (b 10, .inl (cA 0, 2, .inl (t2 ix (xv'_3 1) (yv 1)))), (b 11, .inl (cA 0, 2, .inl (t2 ix (xv'_3 2) (yv 2)))), (b 12, .inl (cA 0, 2, .inl (t2 ix (xv'_3 3) (yv 3)))), (b 13, .inl (cA 0, 2, .inl (t2 ix (xv'_3 4) (yv 4)))), (b 14, .inl (cA 0, 2, .inl (t2 ix (xv'_3 5) (yv 5)))), (b 15, .inl (cA 0, 2, .inl (t2 ix (xv'_3 6) (yv 6)))), (b 16, .inl (cA 0, 2, .inl (t2 ix (nI QX'_3.1) (nI QY'_3.1)))), (b 17, .inl (cA 0, 24, .inl (bk 12 ix (qc QX'_3 0) (qc QY'_3 0)))), (b 18, .inl (cA 0, 24, .inl (bk 12 ix (qc QX'_3 1) (qc QY'_3 1)))), (b 19, .inl (cA 0, 24, .inl (bk 12 ix (qc QX'_3 2) (qc QY'_3 2)))), (b 20, .inl (cA 0, 96, .inl (bk 48 ix (qw QX'_3) (qw QY'_3)))), (b 21, .inl (cA 0, 4, .inl (fun k => QX.2 0 (3 + k)))), (b 22, .inl (cA 0, 4, .inl sn'_3))]) [0, 1, 2, 3, 4, 5, 6, 7, 8, 9, 10, 11, 12, 13, 14, 15, 16, 17, 18, 19, 20, 21, 22] rfl
  have hD := hD.sub (ws' := [cM b mm'_3, (b 1, .inl (cA 0, 8, .inl (bk 4 ix (xd'_3 0) (yd 0)))), (b 2, .inl (cA 0, 8, .inl (bk 4 ix (xd'_3 1) (yd 1)))), (b 3, .inl (cA 0, 8, .inl (bk 4 ix (xd'_3 2) (yd 2)))), (b 4, .inl (cA 0, 8, .inl (bk 4 ix (xd'_3 3) (yd 3)))), (b 5, .inl (cA 0, 8, .inl (bk 4 ix (xd'_3 4) (yd 4)))), (b 6, .inl (cA 1, 8, .inl (bk 4 ix (xd'_3 5) (yd 5)))), (b 7, .inl (cA 0, 8, .inl (bk 4 ix (xd'_3 6) (yd 6)))), (b 8, .inl (cA 0, 8, .inl (bk 4 ix (xd'_3 7) (yd 7)))), (b 9, .inl (cA 0, 2, .inl (t2 ix (xv'_3 0) (yv 0)))), (b 10, .inl (cA 0, 2, .inl (t2 ix (xv'_3 1) (yv 1)))), (b 11, .inl (cA 0, 2, .inl (t2 ix (xv'_3 2) (yv 2)))), (b 12, .inl (cA 0, 2, .inl (t2 ix (xv'_3 3) (yv 3)))), (b 13, .inl (cA 0, 2, .inl (t2 ix (xv'_3 4) (yv 4)))), (b 14, .inl (cA 0, 2, .inl (t2 ix (xv'_3 5) (yv 5)))), (b 15, .inl (cA 0, 2, .inl (t2 ix (xv'_3 6) (yv 6)))), (b 16, .inl (cA 0, 2, .inl (t2 ix (nI QX'_3.1) (nI QY'_3.1)))), (b 17, .inl (cA 0, 24, .inl (bk 12 ix (qc QX'_3 0) (qc QY'_3 0)))), (b 18, .inl (cA 0, 24, .inl (bk 12 ix (qc QX'_3 1) (qc QY'_3 1)))), (b 19, .inl (cA 0, 24, .inl (bk 12 ix (qc QX'_3 2) (qc QY'_3 2)))), (b 20, .inl (cA 0, 96, .inl (bk 48 ix (qw QX'_3) (qw QY'_3)))), (b 21, .inl (cA 0, 4, .inl (fun k => QX.2 0 (3 + k)))), (b 22, .inl (cA 0, 4, .inl sn'_3))]) [0, 1, 2, 3, 4, 5, 6, 7, 8, 9, 10, 11, 12, 13, 14, 15, 16, 17, 18, 19, 20, 21, 22] (by decide) rfl
  clear hPc hDc hFc hP1 hD1 hk1 hz1
  obtain ⟨rfl, rfl, rfl, rfl, rfl⟩ := hw
  refine lv_iload_n hx hb dX4_deliver_20 rfl (lv_at hl 0 rfl) ?_
  refine W.widen (k := 0) (n := 0) (by omega) (by omega) ?_
  exact W.iret (v := ((upd (upd (upd (upd mm 6 0) 2 (QX.2 0 0)) 3 (QX.2 0 1)) 4 (QX.2 0 2)) 2)) hx hb hr (fun t ht hW => ⟨⟨(upd (upd (upd (upd mm 6 0) 2 (QX.2 0 0)) 3 (QX.2 0 1)) 4 (QX.2 0 2)) 2, (((hea ((upd (upd (upd (upd mm 6 0) 2 (QX.2 0 0)) 3 (QX.2 0 1)) 4 (QX.2 0 2)) 0) ((upd (upd (upd (upd mm 6 0) 2 (QX.2 0 0)) 3 (QX.2 0 1)) 4 (QX.2 0 2)) 2) ((upd (upd (upd (upd mm 6 0) 2 (QX.2 0 0)) 3 (QX.2 0 1)) 4 (QX.2 0 2)) 3) ((upd (upd (upd (upd mm 6 0) 2 (QX.2 0 0)) 3 (QX.2 0 1)) 4 (QX.2 0 2)) 4) (fun k => QX.2 0 (3 + k)) xv xd (pop QX) QY ((upd (upd (upd (upd mm 6 0) 2 (QX.2 0 0)) 3 (QX.2 0 1)) 4 (QX.2 0 2)) 5)).1), ((hea ((upd (upd (upd (upd mm 6 0) 2 (QX.2 0 0)) 3 (QX.2 0 1)) 4 (QX.2 0 2)) 0) ((upd (upd (upd (upd mm 6 0) 2 (QX.2 0 0)) 3 (QX.2 0 1)) 4 (QX.2 0 2)) 2) ((upd (upd (upd (upd mm 6 0) 2 (QX.2 0 0)) 3 (QX.2 0 1)) 4 (QX.2 0 2)) 3) ((upd (upd (upd (upd mm 6 0) 2 (QX.2 0 0)) 3 (QX.2 0 1)) 4 (QX.2 0 2)) 4) (fun k => QX.2 0 (3 + k)) xv xd (pop QX) QY ((upd (upd (upd (upd mm 6 0) 2 (QX.2 0 0)) 3 (QX.2 0 1)) 4 (QX.2 0 2)) 5)).2.1), ((hea ((upd (upd (upd (upd mm 6 0) 2 (QX.2 0 0)) 3 (QX.2 0 1)) 4 (QX.2 0 2)) 0) ((upd (upd (upd (upd mm 6 0) 2 (QX.2 0 0)) 3 (QX.2 0 1)) 4 (QX.2 0 2)) 2) ((upd (upd (upd (upd mm 6 0) 2 (QX.2 0 0)) 3 (QX.2 0 1)) 4 (QX.2 0 2)) 3) ((upd (upd (upd (upd mm 6 0) 2 (QX.2 0 0)) 3 (QX.2 0 1)) 4 (QX.2 0 2)) 4) (fun k => QX.2 0 (3 + k)) xv xd (pop QX) QY ((upd (upd (upd (upd mm 6 0) 2 (QX.2 0 0)) 3 (QX.2 0 1)) 4 (QX.2 0 2)) 5)).2.2.1.1), ((hea ((upd (upd (upd (upd mm 6 0) 2 (QX.2 0 0)) 3 (QX.2 0 1)) 4 (QX.2 0 2)) 0) ((upd (upd (upd (upd mm 6 0) 2 (QX.2 0 0)) 3 (QX.2 0 1)) 4 (QX.2 0 2)) 2) ((upd (upd (upd (upd mm 6 0) 2 (QX.2 0 0)) 3 (QX.2 0 1)) 4 (QX.2 0 2)) 3) ((upd (upd (upd (upd mm 6 0) 2 (QX.2 0 0)) 3 (QX.2 0 1)) 4 (QX.2 0 2)) 4) (fun k => QX.2 0 (3 + k)) xv xd (pop QX) QY ((upd (upd (upd (upd mm 6 0) 2 (QX.2 0 0)) 3 (QX.2 0 1)) 4 (QX.2 0 2)) 5)).2.2.1.2), (upd (upd (upd (upd (upd mm 6 0) 2 (QX.2 0 0)) 3 (QX.2 0 1)) 4 (QX.2 0 2)) 5 (hea ((upd (upd (upd (upd mm 6 0) 2 (QX.2 0 0)) 3 (QX.2 0 1)) 4 (QX.2 0 2)) 0) ((upd (upd (upd (upd mm 6 0) 2 (QX.2 0 0)) 3 (QX.2 0 1)) 4 (QX.2 0 2)) 2) ((upd (upd (upd (upd mm 6 0) 2 (QX.2 0 0)) 3 (QX.2 0 1)) 4 (QX.2 0 2)) 3) ((upd (upd (upd (upd mm 6 0) 2 (QX.2 0 0)) 3 (QX.2 0 1)) 4 (QX.2 0 2)) 4) (fun k => QX.2 0 (3 + k)) xv xd (pop QX) QY ((upd (upd (upd (upd mm 6 0) 2 (QX.2 0 0)) 3 (QX.2 0 1)) 4 (QX.2 0 2)) 5)).2.2.2), sn'_3), rfl, ⟨rfl, rfl, rfl, rfl, rfl, rfl⟩, ⟨by rw [ht]; exact hP, by rw [hAe]; exact hD⟩⟩, hS.F ht⟩) hS.2.2 dX4_deliver_21
set_option maxHeartbeats 4000000 in
set_option maxRecDepth 100000 in
/-- open(end, mark) -/
theorem c_X4_open_k (l : Launch) (D : va_G) (cA : Nat → ClassId) (sz : Nat) (b : Nat → Nat) (mm : Nat → Int32) (ix : Nat) (QX QY : Qt) (xv yv : Nat → Int32) (o : Int32) (f fy g gy sn : Nat → Int32) (hix : ix ≤ 1) (hqx : QX.1 ≤ 12) (hqy : QY.1 ≤ 12) (hmk : inr o 1 999) (hsh : sSh (xv 0)) : Met l yX4_open wsX4_open ({ frames := 2, cells := 0, slots := 0, locals := 49 }) (va_Pc [.ref (b 0), .int (nI ix), .int o] (zU D cA sz [cM b mm, (b 1, .inl (cA 0, 8, .inl (bk 4 ix g gy))), (b 7, .inl (cA 0, 8, .inl (bk 4 ix f fy))), (b 9, .inl (cA 0, 2, .inl (t2 ix (xv 0) (yv 0)))), (b 10, .inl (cA 0, 2, .inl (t2 ix (xv 1) (yv 1)))), (b 11, .inl (cA 0, 2, .inl (t2 ix (xv 2) (yv 2)))), (b 12, .inl (cA 0, 2, .inl (t2 ix (xv 3) (yv 3)))), (b 13, .inl (cA 0, 2, .inl (t2 ix (xv 4) (yv 4)))), (b 14, .inl (cA 0, 2, .inl (t2 ix (xv 5) (yv 5)))), (b 15, .inl (cA 0, 2, .inl (t2 ix (xv 6) (yv 6)))), (b 16, .inl (cA 0, 2, .inl (t2 ix (nI QX.1) (nI QY.1)))), (b 17, .inl (cA 0, 24, .inl (bk 12 ix (qc QX 0) (qc QY 0)))), (b 18, .inl (cA 0, 24, .inl (bk 12 ix (qc QX 1) (qc QY 1)))), (b 19, .inl (cA 0, 24, .inl (bk 12 ix (qc QX 2) (qc QY 2)))), (b 20, .inl (cA 0, 96, .inl (bk 48 ix (qw QX) (qw QY)))), (b 22, .inl (cA 0, 4, .inl sn))])) (va_Qv (fun (u : ((Nat → Int32) × Qt × Qt × (Nat → Int32) × (Nat → Int32))) => u.1 = (rq (mm 0) (upd (upd (upd (upd xv 0 1) 3 10) 1 o) 5 0) g QX QY (mm 5)).1 ∧ u.2.1 = (rq (mm 0) (upd (upd (upd (upd xv 0 1) 3 10) 1 o) 5 0) g QX QY (mm 5)).2.1.1 ∧ u.2.2.1 = (rq (mm 0) (upd (upd (upd (upd xv 0 1) 3 10) 1 o) 5 0) g QX QY (mm 5)).2.1.2 ∧ u.2.2.2.1 = upd (upd mm 6 0) 5 (rq (mm 0) (upd (upd (upd (upd xv 0 1) 3 10) 1 o) 5 0) g QX QY (mm 5)).2.2) (fun (u : ((Nat → Int32) × Qt × Qt × (Nat → Int32) × (Nat → Int32))) t => zB D [cM b mm, (b 1, .inl (cA 0, 8, .inl (bk 4 ix g gy))), (b 7, .inl (cA 0, 8, .inl (bk 4 ix f fy))), (b 9, .inl (cA 0, 2, .inl (t2 ix (xv 0) (yv 0)))), (b 10, .inl (cA 0, 2, .inl (t2 ix (xv 1) (yv 1)))), (b 11, .inl (cA 0, 2, .inl (t2 ix (xv 2) (yv 2)))), (b 12, .inl (cA 0, 2, .inl (t2 ix (xv 3) (yv 3)))), (b 13, .inl (cA 0, 2, .inl (t2 ix (xv 4) (yv 4)))), (b 14, .inl (cA 0, 2, .inl (t2 ix (xv 5) (yv 5)))), (b 15, .inl (cA 0, 2, .inl (t2 ix (xv 6) (yv 6)))), (b 16, .inl (cA 0, 2, .inl (t2 ix (nI QX.1) (nI QY.1)))), (b 17, .inl (cA 0, 24, .inl (bk 12 ix (qc QX 0) (qc QY 0)))), (b 18, .inl (cA 0, 24, .inl (bk 12 ix (qc QX 1) (qc QY 1)))), (b 19, .inl (cA 0, 24, .inl (bk 12 ix (qc QX 2) (qc QY 2)))), (b 20, .inl (cA 0, 96, .inl (bk 48 ix (qw QX) (qw QY)))), (b 22, .inl (cA 0, 4, .inl sn))] sz [cM b u.2.2.2.1, (b 1, .inl (cA 0, 8, .inl (bk 4 ix g gy))), (b 7, .inl (cA 0, 8, .inl (bk 4 ix g fy))), (b 9, .inl (cA 0, 2, .inl (t2 ix (u.1 0) (yv 0)))), (b 10, .inl (cA 0, 2, .inl (t2 ix (u.1 1) (yv 1)))), (b 11, .inl (cA 0, 2, .inl (t2 ix (u.1 2) (yv 2)))), (b 12, .inl (cA 0, 2, .inl (t2 ix (u.1 3) (yv 3)))), (b 13, .inl (cA 0, 2, .inl (t2 ix (u.1 4) (yv 4)))), (b 14, .inl (cA 0, 2, .inl (t2 ix (u.1 5) (yv 5)))), (b 15, .inl (cA 0, 2, .inl (t2 ix (u.1 6) (yv 6)))), (b 16, .inl (cA 0, 2, .inl (t2 ix (nI u.2.1.1) (nI u.2.2.1.1)))), (b 17, .inl (cA 0, 24, .inl (bk 12 ix (qc u.2.1 0) (qc u.2.2.1 0)))), (b 18, .inl (cA 0, 24, .inl (bk 12 ix (qc u.2.1 1) (qc u.2.2.1 1)))), (b 19, .inl (cA 0, 24, .inl (bk 12 ix (qc u.2.1 2) (qc u.2.2.1 2)))), (b 20, .inl (cA 0, 96, .inl (bk 48 ix (qw u.2.1) (qw u.2.2.1)))), (b 22, .inl (cA 0, 4, .inl u.2.2.2.2))] t) (va_A [cM b mm, (b 1, .inl (cA 0, 8, .inl (bk 4 ix g gy))), (b 7, .inl (cA 0, 8, .inl (bk 4 ix f fy))), (b 9, .inl (cA 0, 2, .inl (t2 ix (xv 0) (yv 0)))), (b 10, .inl (cA 0, 2, .inl (t2 ix (xv 1) (yv 1)))), (b 11, .inl (cA 0, 2, .inl (t2 ix (xv 2) (yv 2)))), (b 12, .inl (cA 0, 2, .inl (t2 ix (xv 3) (yv 3)))), (b 13, .inl (cA 0, 2, .inl (t2 ix (xv 4) (yv 4)))), (b 14, .inl (cA 0, 2, .inl (t2 ix (xv 5) (yv 5)))), (b 15, .inl (cA 0, 2, .inl (t2 ix (xv 6) (yv 6)))), (b 16, .inl (cA 0, 2, .inl (t2 ix (nI QX.1) (nI QY.1)))), (b 17, .inl (cA 0, 24, .inl (bk 12 ix (qc QX 0) (qc QY 0)))), (b 18, .inl (cA 0, 24, .inl (bk 12 ix (qc QX 1) (qc QY 1)))), (b 19, .inl (cA 0, 24, .inl (bk 12 ix (qc QX 2) (qc QY 2)))), (b 20, .inl (cA 0, 96, .inl (bk 48 ix (qw QX) (qw QY)))), (b 22, .inl (cA 0, 4, .inl sn))] sz)) 0 0 (va_A [cM b mm, (b 1, .inl (cA 0, 8, .inl (bk 4 ix g gy))), (b 7, .inl (cA 0, 8, .inl (bk 4 ix f fy))), (b 9, .inl (cA 0, 2, .inl (t2 ix (xv 0) (yv 0)))), (b 10, .inl (cA 0, 2, .inl (t2 ix (xv 1) (yv 1)))), (b 11, .inl (cA 0, 2, .inl (t2 ix (xv 2) (yv 2)))), (b 12, .inl (cA 0, 2, .inl (t2 ix (xv 3) (yv 3)))), (b 13, .inl (cA 0, 2, .inl (t2 ix (xv 4) (yv 4)))), (b 14, .inl (cA 0, 2, .inl (t2 ix (xv 5) (yv 5)))), (b 15, .inl (cA 0, 2, .inl (t2 ix (xv 6) (yv 6)))), (b 16, .inl (cA 0, 2, .inl (t2 ix (nI QX.1) (nI QY.1)))), (b 17, .inl (cA 0, 24, .inl (bk 12 ix (qc QX 0) (qc QY 0)))), (b 18, .inl (cA 0, 24, .inl (bk 12 ix (qc QX 1) (qc QY 1)))), (b 19, .inl (cA 0, 24, .inl (bk 12 ix (qc QX 2) (qc QY 2)))), (b 20, .inl (cA 0, 96, .inl (bk 48 ix (qw QX) (qw QY)))), (b 22, .inl (cA 0, 4, .inl sn))] sz) := by
  refine Met.ofW (cc := cX4_open) (maxL := 4) (ret := none) (by decide) rfl ?_
  intro p e s m args below meth c s₁ B hml hv
  obtain ⟨rfl, hsz, hP, hK, hD0⟩ := hv
  have hx := B.exec
  have hb := B.bytes
  have hr := B.returns
  have hts := atoms_spec (ws := wsX4_open) B.pre
  have hown : s.vm.findClass RX4 = some m.cls := findClass_of_methodNamed B.named
  have hlocks := B.notSynchronized
  subst hsz
  have hD := hD0.self (sz := s.heap.size)
  generalize hAe : va_A [cM b mm, (b 1, .inl (cA 0, 8, .inl (bk 4 ix g gy))), (b 7, .inl (cA 0, 8, .inl (bk 4 ix f fy))), (b 9, .inl (cA 0, 2, .inl (t2 ix (xv 0) (yv 0)))), (b 10, .inl (cA 0, 2, .inl (t2 ix (xv 1) (yv 1)))), (b 11, .inl (cA 0, 2, .inl (t2 ix (xv 2) (yv 2)))), (b 12, .inl (cA 0, 2, .inl (t2 ix (xv 3) (yv 3)))), (b 13, .inl (cA 0, 2, .inl (t2 ix (xv 4) (yv 4)))), (b 14, .inl (cA 0, 2, .inl (t2 ix (xv 5) (yv 5)))), (b 15, .inl (cA 0, 2, .inl (t2 ix (xv 6) (yv 6)))), (b 16, .inl (cA 0, 2, .inl (t2 ix (nI QX.1) (nI QY.1)))), (b 17, .inl (cA 0, 24, .inl (bk 12 ix (qc QX 0) (qc QY 0)))), (b 18, .inl (cA 0, 24, .inl (bk 12 ix (qc QX 1) (qc QY 1)))), (b 19, .inl (cA 0, 24, .inl (bk 12 ix (qc QX 2) (qc QY 2)))), (b 20, .inl (cA 0, 96, .inl (bk 48 ix (qw QX) (qw QY)))), (b 22, .inl (cA 0, 4, .inl sn))] s.heap.size = A at hD ⊢
  have hA : ∀ q : Nat, s.heap.size ≤ q → A q := fun q h => by rw [← hAe]; exact Or.inr h
  have hS : va_S A s.heap s.heap [] := va_S.rf
  have hl := lv_entry ([.ref (b 0), .int (nI ix), .int o]) (n := 4) (Nat.le_of_ble_eq_true rfl)
  rw [lg_entry_eq]
  generalize (lg_sl ([.ref (b 0), .int (nI ix), .int o]) ++ List.replicate (4 - (lg_sl ([.ref (b 0), .int (nI ix), .int o])).length) Slot.unset).toArray = ls at hl ⊢
  have hl : lv_has ls 4 [(0, .ref (b 0)), (1, .int (nI ix)), (2, .int o)] := hl
  refine lv_aload_n hx hb dX4_open_0 rfl (lv_at hl 0 rfl) ?_
  refine lv_iload_n hx hb dX4_open_1 rfl (lv_at hl 1 rfl) ?_
  have hPc := hP.sub (ws' := []) [] rfl
  have hDc := hD.sub (ws' := []) [] (by decide) rfl
  have hFc := va_free (wc := []) hD hS hA [] rfl
  refine va_calli (va_runS (As := [.int (nI ix)]) (rest := [.ref (b 0)]) ⟨hx, hb, hml, hown, hts⟩ (c_X4_isEnd l D cA s.heap.size (nI ix)) (va_cwS 1 hts gX4_open_X4_isEnd rfl rfl rfl (by decide +kernel) ⟨Nat.le_of_ble_eq_true rfl, Nat.le_of_ble_eq_true rfl⟩) ⟨zU_blind, fun U hU hW => ⟨rfl, zU_call hU hPc hW.alike hK hDc⟩⟩ rfl rfl hl.1 rfl (lv_room (Nat.le_of_ble_eq_true rfl)) dX4_open_2 ⟨(Nat.zero_le _), (Nat.zero_le _)⟩) hS (fun q _ h => hFc q h) hFc (fun zr u t H1 locs ht hvm hw hB hz1 hk1 hS => ?_)
  obtain ⟨hP1, hD1⟩ := hB
  rw [ht] at hP1
  obtain ⟨hP, hD⟩ := va_join (wr := [cM b mm, (b 1, .inl (cA 0, 8, .inl (bk 4 ix g gy))), (b 7, .inl (cA 0, 8, .inl (bk 4 ix f fy))), (b 9, .inl (cA 0, 2, .inl (t2 ix (xv 0) (yv 0)))), (b 10, .inl (cA 0, 2, .inl (t2 ix (xv 1) (yv 1)))), (b 11, .inl (cA 0, 2, .inl (t2 ix (xv 2) (yv 2)))), (b 12, .inl (cA 0, 2, .inl (t2 ix (xv 3) (yv 3)))), (b 13, .inl (cA 0, 2, .inl (t2 ix (xv 4) (yv 4)))), (b 14, .inl (cA 0, 2, .inl (t2 ix (xv 5) (yv 5)))), (b 15, .inl (cA 0, 2, .inl (t2 ix (xv 6) (yv 6)))), (b 16, .inl (cA 0, 2, .inl (t2 ix (nI QX.1) (nI QY.1)))), (b 17, .inl (cA 0, 24, .inl (bk 12 ix (qc QX 0) (qc QY 0)))), (b 18, .inl (cA 0, 24, .inl (bk 12 ix (qc QX 1) (qc QY 1)))), (b 19, .inl (cA 0, 24, .inl (bk 12 ix (qc QX 2) (qc QY 2)))), (b 20, .inl (cA 0, 96, .inl (bk 48 ix (qw QX) (qw QY)))), (b 22, .inl (cA 0, 4, .inl sn))]) (w1 := []) hP hD [] [0, 1, 2, 3, 4, 5, 6, 7, 8, 9, 10, 11, 12, 13, 14, 15] rfl rfl (by decide) (by decide) hk1 hFc hP1 hD1
  generalize H1 = H at hP hS ⊢
  have hP := hP.sub (ws' := [cM b mm, (b 1, .inl (cA 0, 8, .inl (bk 4 ix g gy))), (b 7, .inl (cA 0, 8, .inl (bk 4 ix f fy))), (b 9, .inl (cA 0, 2, .inl (t2 ix (xv 0) (yv 0)))), (b 10, .inl (cA 0, 2, .inl (t2 ix (xv 1) (yv 1)))), (b 11, .inl (cA 0, 2, .inl (t2 ix (xv 2) (yv 2)))), (b 12, .inl (cA 0, 2, .inl (t2 ix (xv 3) (yv 3)))), (b 13, .inl (cA 0, 2, .inl (t2 ix (xv 4) (yv 4)))), (b 14, .inl (cA 0, 2, .inl (t2 ix (xv 5) (yv 5)))), (b 15, .inl (cA 0, 2, .inl (t2 ix (xv 6) (yv 6)))), (b 16, .inl (cA 0, 2, .inl (t2 ix (nI QX.1) (nI QY.1)))), (b 17, .inl (cA 0, 24, .inl (bk 12 ix (qc QX 0) (qc QY 0)))), (b 18, .inl (cA 0, 24, .inl (bk 12 ix (qc QX 1) (qc QY 1)))), (b 19, .inl (cA 0, 24, .inl (bk 12 ix (qc QX 2) (qc QY 2)))), (b 20, .inl (cA 0, 96, .inl (bk 48 ix (qw QX) (qw QY)))), (b 22, .inl (cA 0, 4, .inl sn))]) [0, 1, 2, 3, 4, 5, 6, 7, 8, 9, 10, 11, 12, 13, 14, 15] rfl
  have hD := hD.sub (ws' := [cM b mm, (b 1, .inl (cA 0, 8, .inl (bk 4 ix g gy))), (b 7, .inl (cA 0, 8, .inl (bk 4 ix f fy))), (b 9, .inl (cA 0, 2, .inl (t2 ix (xv 0) (yv 0)))), (b 10, .inl (cA 0, 2, .inl (t2 ix (xv 1) (yv 1)))), (b 11, .inl (cA 0, 2, .inl (t2 ix (xv 2) (yv 2)))), (b 12, .inl (cA 0, 2, .inl (t2 ix (xv 3) (yv 3)))), (b 13, .inl (cA 0, 2, .inl (t2 ix (xv 4) (yv 4)))), (b 14, .inl (cA 0, 2, .inl (t2 ix (xv 5) (yv 5)))), (b 15, .inl (cA 0, 2, .inl (t2 ix (xv 6) (yv 6)))), (b 16, .inl (cA 0, 2, .inl (t2 ix (nI QX.1) (nI QY.1)))), (b 17, .inl (cA 0, 24, .inl (bk 12 ix (qc QX 0) (qc QY 0)))), (b 18, .inl (cA 0, 24, .inl (bk 12 ix (qc QX 1) (qc QY 1)))), (b 19, .inl (cA 0, 24, .inl (bk 12 ix (qc QX 2) (qc QY 2)))), (b 20, .inl (cA 0, 96, .inl (bk 48 ix (qw QX) (qw QY)))), (b 22, .inl (cA 0, 4, .inl sn))]) [0, 1, 2, 3, 4, 5, 6, 7, 8, 9, 10, 11, 12, 13, 14, 15] (by decide) rfl
  clear hPc hDc hFc hP1 hD1 hk1 hz1
  have hw_1 := hw
  rcases z_bool hw with ⟨h_1, rfl⟩ | ⟨h_1, rfl⟩
  · skip
    refine lv_if_eq (tgt := 19) hx hb dX4_open_5 (by decide) (fun c_2 => absurd c_2 (by decide)) (fun _ => ?_)
    refine lv_iload_n hx hb dX4_open_8 rfl (lv_at hl 2 rfl) ?_
    refine lv_iconst (v := 1) hx hb dX4_open_9 (by decide) ?_
    refine lv_sipush (v := 999) hx hb dX4_open_10 (by decide) ?_
    have hPc := hP.sub (ws' := []) [] rfl
    have hDc := hD.sub (ws' := []) [] (by decide) rfl
    have hFc := va_free (wc := []) hD hS hA [] rfl
    refine va_calli (va_runS (As := [.int o, .int 1, .int 999]) (rest := [.ref (b 0)]) ⟨hx, hb, hml, hown, hts⟩ (c_X4_isIn l D cA H.size o 1 999) (va_cwS 3 hts gX4_open_X4_isIn rfl rfl rfl (by decide +kernel) ⟨Nat.le_of_ble_eq_true rfl, Nat.le_of_ble_eq_true rfl⟩) ⟨zU_blind, fun U hU hW => ⟨rfl, zU_call hU hPc hW.alike hK hDc⟩⟩ rfl rfl hl.1 rfl (lv_room (Nat.le_of_ble_eq_true rfl)) dX4_open_13 ⟨(Nat.zero_le _), (Nat.zero_le _)⟩) hS (fun q _ h => hFc q h) hFc (fun zr u t H1 locs ht hvm hw hB hz1 hk1 hS => ?_)
    obtain ⟨hP1, hD1⟩ := hB
    rw [ht] at hP1
    obtain ⟨hP, hD⟩ := va_join (wr := [cM b mm, (b 1, .inl (cA 0, 8, .inl (bk 4 ix g gy))), (b 7, .inl (cA 0, 8, .inl (bk 4 ix f fy))), (b 9, .inl (cA 0, 2, .inl (t2 ix (xv 0) (yv 0)))), (b 10, .inl (cA 0, 2, .inl (t2 ix (xv 1) (yv 1)))), (b 11, .inl (cA 0, 2, .inl (t2 ix (xv 2) (yv 2)))), (b 12, .inl (cA 0, 2, .inl (t2 ix (xv 3) (yv 3)))), (b 13, .inl (cA 0, 2, .inl (t2 ix (xv 4) (yv 4)))), (b 14, .inl (cA 0, 2, .inl (t2 ix (xv 5) (yv 5)))), (b 15, .inl (cA 0, 2, .inl (t2 ix (xv 6) (yv 6)))), (b 16, .inl (cA 0, 2, .inl (t2 ix (nI QX.1) (nI QY.1)))), (b 17, .inl (cA 0, 24, .inl (bk 12 ix (qc QX 0) (qc QY 0)))), (b 18, .inl (cA 0, 24, .inl (bk 12 ix (qc QX 1) (qc QY 1)))), (b 19, .inl (cA 0, 24, .inl (bk 12 ix (qc QX 2) (qc QY 2)))), (b 20, .inl (cA 0, 96, .inl (bk 48 ix (qw QX) (qw QY)))), (b 22, .inl (cA 0, 4, .inl sn))]) (w1 := []) hP hD [] [0, 1, 2, 3, 4, 5, 6, 7, 8, 9, 10, 11, 12, 13, 14, 15] rfl rfl (by decide) (by decide) hk1 hFc hP1 hD1
    generalize H1 = H at hP hS ⊢
    have hP := hP.sub (ws' := [cM b mm, (b 1, .inl (cA 0, 8, .inl (bk 4 ix g gy))), (b 7, .inl (cA 0, 8, .inl (bk 4 ix f fy))), (b 9, .inl (cA 0, 2, .inl (t2 ix (xv 0) (yv 0)))), (b 10, .inl (cA 0, 2, .inl (t2 ix (xv 1) (yv 1)))), (b 11, .inl (cA 0, 2, .inl (t2 ix (xv 2) (yv 2)))), (b 12, .inl (cA 0, 2, .inl (t2 ix (xv 3) (yv 3)))), (b 13, .inl (cA 0, 2, .inl (t2 ix (xv 4) (yv 4)))), (b 14, .inl (cA 0, 2, .inl (t2 ix (xv 5) (yv 5)))), (b 15, .inl (cA 0, 2, .inl (t2 ix (xv 6) (yv 6)))), (b 16, .inl (cA 0, 2, .inl (t2 ix (nI QX.1) (nI QY.1)))), (b 17, .inl (cA 0, 24, .inl (bk 12 ix (qc QX 0) (qc QY 0)))), (b 18, .inl (cA 0, 24, .inl (bk 12 ix (qc QX 1) (qc QY 1)))), (b 19, .inl (cA 0, 24, .inl (bk 12 ix (qc QX 2) (qc QY 2)))), (b 20, .inl (cA 0, 96, .inl (bk 48 ix (qw QX) (qw QY)))), (b 22, .inl (cA 0, 4, .inl sn))]) [0, 1, 2, 3, 4, 5, 6, 7, 8, 9, 10, 11, 12, 13, 14, 15] rfl
    have hD := hD.sub (ws' := [cM b mm, (b 1, .inl (cA 0, 8, .inl (bk 4 ix g gy))), (b 7, .inl (cA 0, 8, .inl (bk 4 ix f fy))), (b 9, .inl (cA 0, 2, .inl (t2 ix (xv 0) (yv 0)))), (b 10, .inl (cA 0, 2, .inl (t2 ix (xv 1) (yv 1)))), (b 11, .inl (cA 0, 2, .inl (t2 ix (xv 2) (yv 2)))), (b 12, .inl (cA 0, 2, .inl (t2 ix (xv 3) (yv 3)))), (b 13, .inl (cA 0, 2, .inl (t2 ix (xv 4) (yv 4)))), (b 14, .inl (cA 0, 2, .inl (t2 ix (xv 5) (yv 5)))), (b 15, .inl (cA 0, 2, .inl (t2 ix (xv 6) (yv 6)))), (b 16, .inl (cA 0, 2, .inl (t2 ix (nI QX.1) (nI QY.1)))), (b 17, .inl (cA 0, 24, .inl (bk 12 ix (qc QX 0) (qc QY 0)))), (b 18, .inl (cA 0, 24, .inl (bk 12 ix (qc QX 1) (qc QY 1)))), (b 19, .inl (cA 0, 24, .inl (bk 12 ix (qc QX 2) (qc QY 2)))), (b 20, .inl (cA 0, 96, .inl (bk 48 ix (qw QX) (qw QY)))), (b 22, .inl (cA 0, 4, .inl sn))]) [0, 1, 2, 3, 4, 5, 6, 7, 8, 9, 10, 11, 12, 13, 14, 15] (by decide) rfl
    clear hPc hDc hFc hP1 hD1 hk1 hz1
    have hw_3 := hw
    rcases z_bool hw with ⟨h_3, rfl⟩ | ⟨h_3, rfl⟩
    · skip
      refine lv_if_ne (tgt := 23) hx hb dX4_open_16 (by decide) (fun _ => ?_) (fun c_4 => absurd c_4 (by decide))
      refine lv_aload_n hx hb dX4_open_23 rfl (lv_at hl 0 rfl) ?_
      refine lv_iload_n hx hb dX4_open_24 rfl (lv_at hl 1 rfl) ?_
      have hPc := hP.sub (ws' := [cM b mm, (b 9, .inl (cA 0, 2, .inl (t2 ix (xv 0) (yv 0))))]) [0, 3] rfl
      have hDc := hD.sub (ws' := [cM b mm, (b 9, .inl (cA 0, 2, .inl (t2 ix (xv 0) (yv 0))))]) [0, 3] (by decide) rfl
      have hFc := va_free (wc := [cM b mm, (b 9, .inl (cA 0, 2, .inl (t2 ix (xv 0) (yv 0))))]) hD hS hA [0, 3] rfl
      refine va_calli (va_runV (As := [.int (nI ix)]) (rest := [.ref (b 0)]) ⟨hx, hb, hml, hown, hts⟩ (c_X4_isShut l D cA H.size b mm ix (xv 0) (yv 0) (by assumption)) (cwV 1 hts gX4_open_X4_isShut rfl rfl rfl (by decide +kernel) ⟨Nat.le_of_ble_eq_true rfl, Nat.le_of_ble_eq_true rfl⟩) ⟨zU_blind, va_recv hK hPc (ci := 6) (q0 := 0) rfl rfl, fun U hU hW => ⟨rfl, zU_call hU hPc hW.alike hK hDc⟩⟩ rfl rfl hl.1 rfl (lv_room (Nat.le_of_ble_eq_true rfl)) dX4_open_25 ⟨(Nat.zero_le _), (Nat.zero_le _)⟩) hS (fun q _ h => hFc q h) hFc (fun zr u t H1 locs ht hvm hw hB hz1 hk1 hS => ?_)
      obtain ⟨hP1, hD1⟩ := hB
      rw [ht] at hP1
      obtain ⟨hP, hD⟩ := va_join (wr := [(b 1, .inl (cA 0, 8, .inl (bk 4 ix g gy))), (b 7, .inl (cA 0, 8, .inl (bk 4 ix f fy))), (b 10, .inl (cA 0, 2, .inl (t2 ix (xv 1) (yv 1)))), (b 11, .inl (cA 0, 2, .inl (t2 ix (xv 2) (yv 2)))), (b 12, .inl (cA 0, 2, .inl (t2 ix (xv 3) (yv 3)))), (b 13, .inl (cA 0, 2, .inl (t2 ix (xv 4) (yv 4)))), (b 14, .inl (cA 0, 2, .inl (t2 ix (xv 5) (yv 5)))), (b 15, .inl (cA 0, 2, .inl (t2 ix (xv 6) (yv 6)))), (b 16, .inl (cA 0, 2, .inl (t2 ix (nI QX.1) (nI QY.1)))), (b 17, .inl (cA 0, 24, .inl (bk 12 ix (qc QX 0) (qc QY 0)))), (b 18, .inl (cA 0, 24, .inl (bk 12 ix (qc QX 1) (qc QY 1)))), (b 19, .inl (cA 0, 24, .inl (bk 12 ix (qc QX 2) (qc QY 2)))), (b 20, .inl (cA 0, 96, .inl (bk 48 ix (qw QX) (qw QY)))), (b 22, .inl (cA 0, 4, .inl sn))]) (w1 := [cM b mm, (b 9, .inl (cA 0, 2, .inl (t2 ix (xv 0) (yv 0))))]) hP hD [0, 3] [1, 2, 4, 5, 6, 7, 8, 9, 10, 11, 12, 13, 14, 15] rfl rfl (by decide) (by decide) hk1 hFc hP1 hD1
      generalize H1 = H at hP hS ⊢
      have hP := hP.sub (ws' := [cM b mm, (b 1, .inl (cA 0, 8, .inl (bk 4 ix g gy))), (b 7, .inl (cA 0, 8, .inl (bk 4 ix f fy))), (b 9, .inl (cA 0, 2, .inl (t2 ix (xv 0) (yv 0)))), (b 10, .inl (cA 0, 2, .inl (t2 ix (xv 1) (yv 1)))), (b 11, .inl (cA 0, 2, .inl (t2 ix (xv 2) (yv 2)))), (b 12, .inl (cA 0, 2, .inl (t2 ix (xv 3) (yv 3)))), (b 13, .inl (cA 0, 2, .inl (t2 ix (xv 4) (yv 4)))), (b 14, .inl (cA 0, 2, .inl (t2 ix (xv 5) (yv 5)))), (b 15, .inl (cA 0, 2, .inl (t2 ix (xv 6) (yv 6)))), (b 16, .inl (cA 0, 2, .inl (t2 ix (nI QX.1) (nI QY.1)))), (b 17, .inl (cA 0, 24, .inl (bk 12 ix (qc QX 0) (qc QY 0)))), (b 18, .inl (cA 0, 24, .inl (bk 12 ix (qc QX 1) (qc QY 1)))), (b 19, .inl (cA 0, 24, .inl (bk 12 ix (qc QX 2) (qc QY 2)))), (b 20, .inl (cA 0, 96, .inl (bk 48 ix (qw QX) (qw QY)))), (b 22, .inl (cA 0, 4, .inl sn))]) [14, 0, 1, 15, 2, 3, 4, 5, 6, 7, 8, 9, 10, 11, 12, 13] rfl
      have hD := hD.sub (ws' := [cM b mm, (b 1, .inl (cA 0, 8, .inl (bk 4 ix g gy))), (b 7, .inl (cA 0, 8, .inl (bk 4 ix f fy))), (b 9, .inl (cA 0, 2, .inl (t2 ix (xv 0) (yv 0)))), (b 10, .inl (cA 0, 2, .inl (t2 ix (xv 1) (yv 1)))), (b 11, .inl (cA 0, 2, .inl (t2 ix (xv 2) (yv 2)))), (b 12, .inl (cA 0, 2, .inl (t2 ix (xv 3) (yv 3)))), (b 13, .inl (cA 0, 2, .inl (t2 ix (xv 4) (yv 4)))), (b 14, .inl (cA 0, 2, .inl (t2 ix (xv 5) (yv 5)))), (b 15, .inl (cA 0, 2, .inl (t2 ix (xv 6) (yv 6)))), (b 16, .inl (cA 0, 2, .inl (t2 ix (nI QX.1) (nI QY.1)))), (b 17, .inl (cA 0, 24, .inl (bk 12 ix (qc QX 0) (qc QY 0)))), (b 18, .inl (cA 0, 24, .inl (bk 12 ix (qc QX 1) (qc QY 1)))), (b 19, .inl (cA 0, 24, .inl (bk 12 ix (qc QX 2) (qc QY 2)))), (b 20, .inl (cA 0, 96, .inl (bk 48 ix (qw QX) (qw QY)))), (b 22, .inl (cA 0, 4, .inl sn))]) [14, 0, 1, 15, 2, 3, 4, 5, 6, 7, 8, 9, 10, 11, 12, 13] (by decide) rfl
      clear hPc hDc hFc hP1 hD1 hk1 hz1
      have hw_5 := hw
      rcases z_bool hw with ⟨h_5, rfl⟩ | ⟨h_5, rfl⟩
      · skip
        refine lv_if_eq (tgt := 35) hx hb dX4_open_28 (by decide) (fun c_6 => absurd c_6 (by decide)) (fun _ => ?_)
        refine lv_iconst (v := 0) hx hb dX4_open_31 (by decide) ?_
        refine lv_goto (tgt := 36) hx hb dX4_open_32 (by decide) ?_
        have hPc := hP.sub (ws' := [cM b mm]) [0] rfl
        have hDc := hD.sub (ws' := [cM b mm]) [0] (by decide) rfl
        have hFc := va_free (wc := [cM b mm]) hD hS hA [0] rfl
        refine va_calli (va_runV (As := [.int 0]) (rest := []) ⟨hx, hb, hml, hown, hts⟩ (c_X4_can l D cA H.size b mm 0) (cwV 1 hts gX4_open_X4_can rfl rfl rfl (by decide +kernel) ⟨Nat.le_of_ble_eq_true rfl, Nat.le_of_ble_eq_true rfl⟩) ⟨zU_blind, va_recv hK hPc (ci := 6) (q0 := 0) rfl rfl, fun U hU hW => ⟨rfl, zU_call hU hPc hW.alike hK hDc⟩⟩ rfl rfl hl.1 rfl (lv_room (Nat.le_of_ble_eq_true rfl)) dX4_open_36 ⟨(Nat.zero_le _), (Nat.zero_le _)⟩) hS (fun q _ h => hFc q h) hFc (fun zr u t H1 locs ht hvm hw hB hz1 hk1 hS => ?_)
        obtain ⟨mm'_7, rfl⟩ : ∃ z, z = u := ⟨_, rfl⟩
        obtain ⟨hP1, hD1⟩ := hB
        rw [ht] at hP1
        try dsimp only at hw hP1 hD1
        obtain ⟨hP, hD⟩ := va_join (wr := [(b 1, .inl (cA 0, 8, .inl (bk 4 ix g gy))), (b 7, .inl (cA 0, 8, .inl (bk 4 ix f fy))), (b 9, .inl (cA 0, 2, .inl (t2 ix (xv 0) (yv 0)))), (b 10, .inl (cA 0, 2, .inl (t2 ix (xv 1) (yv 1)))), (b 11, .inl (cA 0, 2, .inl (t2 ix (xv 2) (yv 2)))), (b 12, .inl (cA 0, 2, .inl (t2 ix (xv 3) (yv 3)))), (b 13, .inl (cA 0, 2, .inl (t2 ix (xv 4) (yv 4)))), (b 14, .inl (cA 0, 2, .inl (t2 ix (xv 5) (yv 5)))), (b 15, .inl (cA 0, 2, .inl (t2 ix (xv 6) (yv 6)))), (b 16, .inl (cA 0, 2, .inl (t2 ix (nI QX.1) (nI QY.1)))), (b 17, .inl (cA 0, 24, .inl (bk 12 ix (qc QX 0) (qc QY 0)))), (b 18, .inl (cA 0, 24, .inl (bk 12 ix (qc QX 1) (qc QY 1)))), (b 19, .inl (cA 0, 24, .inl (bk 12 ix (qc QX 2) (qc QY 2)))), (b 20, .inl (cA 0, 96, .inl (bk 48 ix (qw QX) (qw QY)))), (b 22, .inl (cA 0, 4, .inl sn))]) (w1 := [cM b mm'_7]) hP hD [0] [1, 2, 3, 4, 5, 6, 7, 8, 9, 10, 11, 12, 13, 14, 15] rfl rfl (by decide) (by decide) hk1 hFc hP1 hD1
        generalize H1 = H at hP hS ⊢
        have hP := hP.sub (ws' := [cM b mm'_7, (b 1, .inl (cA 0, 8, .inl (bk 4 ix g gy))), (b 7, .inl (cA 0, 8, .inl (bk 4 ix f fy))), (b 9, .inl (cA 0, 2, .inl (t2 ix (xv 0) (yv 0)))), (b 10, .inl (cA 0, 2, .inl (t2 ix (xv 1) (yv 1)))), (b 11, .inl (cA 0, 2, .inl (t2 ix (xv 2) (yv 2)))), (b 12, .inl (cA 0, 2, .inl (t2 ix (xv 3) (yv 3)))), (b 13, .inl (cA 0, 2, .inl (t2 ix (xv 4) (yv 4)))), (b 14, .inl (cA 0, 2, .inl (t2 ix (xv 5) (yv 5)))), (b 15, .inl (cA 0, 2, .inl (t2 ix (xv 6) (yv 6)))), (b 16, .inl (cA 0, 2, .inl (t2 ix (nI QX.1) (nI QY.1)))), (b 17, .inl (cA 0, 24, .inl (bk 12 ix (qc QX 0) (qc QY 0)))), (b 18, .inl (cA 0, 24, .inl (bk 12 ix (qc QX 1) (qc QY 1)))), (b 19, .inl (cA 0, 24, .inl (bk 12 ix (qc QX 2) (qc QY 2)))), (b 20, .inl (cA 0, 96, .inl (bk 48 ix (qw QX) (qw QY)))), (b 22, .inl (cA 0, 4, .inl sn))]) [15, 0, 1, 2, 3, 4, 5, 6, 7, 8, 9, 10, 11, 12, 13, 14] rfl
        have hD := hD.sub (ws' := [cM b mm'_7, (b 1, .inl (cA 0, 8, .inl (bk 4 ix g gy))), (b 7, .inl (cA 0, 8, .inl (bk 4 ix f fy))), (b 9, .inl (cA 0, 2, .inl (t2 ix (xv 0) (yv 0)))), (b 10, .inl (cA 0, 2, .inl (t2 ix (xv 1) (yv 1)))), (b 11, .inl (cA 0, 2, .inl (t2 ix (xv 2) (yv 2)))), (b 12, .inl (cA 0, 2, .inl (t2 ix (xv 3) (yv 3)))), (b 13, .inl (cA 0, 2, .inl (t2 ix (xv 4) (yv 4)))), (b 14, .inl (cA 0, 2, .inl (t2 ix (xv 5) (yv 5)))), (b 15, .inl (cA 0, 2, .inl (t2 ix (xv 6) (yv 6)))), (b 16, .inl (cA 0, 2, .inl (t2 ix (nI QX.1) (nI QY.1)))), (b 17, .inl (cA 0, 24, .inl (bk 12 ix (qc QX 0) (qc QY 0)))), (b 18, .inl (cA 0, 24, .inl (bk 12 ix (qc QX 1) (qc QY 1)))), (b 19, .inl (cA 0, 24, .inl (bk 12 ix (qc QX 2) (qc QY 2)))), (b 20, .inl (cA 0, 96, .inl (bk 48 ix (qw QX) (qw QY)))), (b 22, .inl (cA 0, 4, .inl sn))]) [15, 0, 1, 2, 3, 4, 5, 6, 7, 8, 9, 10, 11, 12, 13, 14] (by decide) rfl
        clear hPc hDc hFc hP1 hD1 hk1 hz1
        obtain ⟨rfl, hw⟩ := hw
        have hw_7 := hw
        rcases z_bool hw with ⟨h_7, rfl⟩ | ⟨h_7, rfl⟩
        · skip
          refine lv_if_eq (tgt := 107) hx hb dX4_open_39 (by decide) (fun c_8 => absurd c_8 (by decide)) (fun _ => ?_)
          refine lv_aload_n hx hb dX4_open_42 rfl (lv_at hl 0 rfl) ?_
          refine va_get (D := D) (ci := 6) (v := .ref (b 9)) (C := RX4) (T := TX4) (N := 29) hx hb hts (fun _ h => List.mem_cons_of_mem _ (List.mem_append_right _ (h))) hown hK hP 0 rfl rfl 10 (by decide) (hts (.fieldLink RX4 35 "OptionWireModel" "states" "[I") (List.mem_of_getElem? (i := 1) rfl)) (fun _ h9 => h9) rfl dX4_open_43 ?_
          refine lv_iload_n hx hb dX4_open_46 rfl (lv_at hl 1 rfl) ?_
          refine lv_iconst (v := 1) hx hb dX4_open_47 (by decide) ?_
          refine z_iast (k := ix) hx hb hK hP hD hS 3 0 rfl rfl rfl (by omega) (by decide) dX4_open_48 (fun H locs hP hD hS => ?_)
          have hP : va_P D vwCl [cM b (upd mm 6 0), (b 1, .inl (cA 0, 8, .inl (bk 4 ix g gy))), (b 7, .inl (cA 0, 8, .inl (bk 4 ix f fy))), (b 9, .inl (cA 0, 2, .inl (upd (t2 ix (xv 0) (yv 0)) ix 1))), (b 10, .inl (cA 0, 2, .inl (t2 ix (xv 1) (yv 1)))), (b 11, .inl (cA 0, 2, .inl (t2 ix (xv 2) (yv 2)))), (b 12, .inl (cA 0, 2, .inl (t2 ix (xv 3) (yv 3)))), (b 13, .inl (cA 0, 2, .inl (t2 ix (xv 4) (yv 4)))), (b 14, .inl (cA 0, 2, .inl (t2 ix (xv 5) (yv 5)))), (b 15, .inl (cA 0, 2, .inl (t2 ix (xv 6) (yv 6)))), (b 16, .inl (cA 0, 2, .inl (t2 ix (nI QX.1) (nI QY.1)))), (b 17, .inl (cA 0, 24, .inl (bk 12 ix (qc QX 0) (qc QY 0)))), (b 18, .inl (cA 0, 24, .inl (bk 12 ix (qc QX 1) (qc QY 1)))), (b 19, .inl (cA 0, 24, .inl (bk 12 ix (qc QX 2) (qc QY 2)))), (b 20, .inl (cA 0, 96, .inl (bk 48 ix (qw QX) (qw QY)))), (b 22, .inl (cA 0, 4, .inl sn))] H := hP
          have hD : va_D A [cM b (upd mm 6 0), (b 1, .inl (cA 0, 8, .inl (bk 4 ix g gy))), (b 7, .inl (cA 0, 8, .inl (bk 4 ix f fy))), (b 9, .inl (cA 0, 2, .inl (upd (t2 ix (xv 0) (yv 0)) ix 1))), (b 10, .inl (cA 0, 2, .inl (t2 ix (xv 1) (yv 1)))), (b 11, .inl (cA 0, 2, .inl (t2 ix (xv 2) (yv 2)))), (b 12, .inl (cA 0, 2, .inl (t2 ix (xv 3) (yv 3)))), (b 13, .inl (cA 0, 2, .inl (t2 ix (xv 4) (yv 4)))), (b 14, .inl (cA 0, 2, .inl (t2 ix (xv 5) (yv 5)))), (b 15, .inl (cA 0, 2, .inl (t2 ix (xv 6) (yv 6)))), (b 16, .inl (cA 0, 2, .inl (t2 ix (nI QX.1) (nI QY.1)))), (b 17, .inl (cA 0, 24, .inl (bk 12 ix (qc QX 0) (qc QY 0)))), (b 18, .inl (cA 0, 24, .inl (bk 12 ix (qc QX 1) (qc QY 1)))), (b 19, .inl (cA 0, 24, .inl (bk 12 ix (qc QX 2) (qc QY 2)))), (b 20, .inl (cA 0, 96, .inl (bk 48 ix (qw QX) (qw QY)))), (b 22, .inl (cA 0, 4, .inl sn))] := hD
          rw [show upd (t2 ix (xv 0) (yv 0)) ix 1 = t2 ix 1 (yv 0) from t2_ux] at hP hD
          refine lv_aload_n hx hb dX4_open_49 rfl (lv_at hl 0 rfl) ?_
          refine va_get (D := D) (ci := 6) (v := .ref (b 12)) (C := RX4) (T := TX4) (N := 29) hx hb hts (fun _ h => List.mem_cons_of_mem _ (List.mem_append_right _ (h))) hown hK hP 0 rfl rfl 13 (by decide) (hts (.fieldLink RX4 44 "OptionWireModel" "left" "[I") (List.mem_of_getElem? (i := 2) rfl)) (fun _ h9 => h9) rfl dX4_open_50 ?_
          refine lv_iload_n hx hb dX4_open_53 rfl (lv_at hl 1 rfl) ?_
          refine lv_bipush (v := 10) hx hb dX4_open_54 (by decide) ?_
          refine z_iast (k := ix) hx hb hK hP hD hS 6 0 rfl rfl rfl (by omega) (by decide) dX4_open_56 (fun H locs hP hD hS => ?_)
          have hP : va_P D vwCl [cM b (upd mm 6 0), (b 1, .inl (cA 0, 8, .inl (bk 4 ix g gy))), (b 7, .inl (cA 0, 8, .inl (bk 4 ix f fy))), (b 9, .inl (cA 0, 2, .inl (t2 ix 1 (yv 0)))), (b 10, .inl (cA 0, 2, .inl (t2 ix (xv 1) (yv 1)))), (b 11, .inl (cA 0, 2, .inl (t2 ix (xv 2) (yv 2)))), (b 12, .inl (cA 0, 2, .inl (upd (t2 ix (xv 3) (yv 3)) ix 10))), (b 13, .inl (cA 0, 2, .inl (t2 ix (xv 4) (yv 4)))), (b 14, .inl (cA 0, 2, .inl (t2 ix (xv 5) (yv 5)))), (b 15, .inl (cA 0, 2, .inl (t2 ix (xv 6) (yv 6)))), (b 16, .inl (cA 0, 2, .inl (t2 ix (nI QX.1) (nI QY.1)))), (b 17, .inl (cA 0, 24, .inl (bk 12 ix (qc QX 0) (qc QY 0)))), (b 18, .inl (cA 0, 24, .inl (bk 12 ix (qc QX 1) (qc QY 1)))), (b 19, .inl (cA 0, 24, .inl (bk 12 ix (qc QX 2) (qc QY 2)))), (b 20, .inl (cA 0, 96, .inl (bk 48 ix (qw QX) (qw QY)))), (b 22, .inl (cA 0, 4, .inl sn))] H := hP
          have hD : va_D A [cM b (upd mm 6 0), (b 1, .inl (cA 0, 8, .inl (bk 4 ix g gy))), (b 7, .inl (cA 0, 8, .inl (bk 4 ix f fy))), (b 9, .inl (cA 0, 2, .inl (t2 ix 1 (yv 0)))), (b 10, .inl (cA 0, 2, .inl (t2 ix (xv 1) (yv 1)))), (b 11, .inl (cA 0, 2, .inl (t2 ix (xv 2) (yv 2)))), (b 12, .inl (cA 0, 2, .inl (upd (t2 ix (xv 3) (yv 3)) ix 10))), (b 13, .inl (cA 0, 2, .inl (t2 ix (xv 4) (yv 4)))), (b 14, .inl (cA 0, 2, .inl (t2 ix (xv 5) (yv 5)))), (b 15, .inl (cA 0, 2, .inl (t2 ix (xv 6) (yv 6)))), (b 16, .inl (cA 0, 2, .inl (t2 ix (nI QX.1) (nI QY.1)))), (b 17, .inl (cA 0, 24, .inl (bk 12 ix (qc QX 0) (qc QY 0)))), (b 18, .inl (cA 0, 24, .inl (bk 12 ix (qc QX 1) (qc QY 1)))), (b 19, .inl (cA 0, 24, .inl (bk 12 ix (qc QX 2) (qc QY 2)))), (b 20, .inl (cA 0, 96, .inl (bk 48 ix (qw QX) (qw QY)))), (b 22, .inl (cA 0, 4, .inl sn))] := hD
          rw [show upd (t2 ix (xv 3) (yv 3)) ix 10 = t2 ix 10 (yv 3) from t2_ux] at hP hD
          refine lv_aload_n hx hb dX4_open_57 rfl (lv_at hl 0 rfl) ?_
          refine va_get (D := D) (ci := 6) (v := .ref (b 10)) (C := RX4) (T := TX4) (N := 29) hx hb hts (fun _ h => List.mem_cons_of_mem _ (List.mem_append_right _ (h))) hown hK hP 0 rfl rfl 11 (by decide) (hts (.fieldLink RX4 38 "OptionWireModel" "marks" "[I") (List.mem_of_getElem? (i := 3) rfl)) (fun _ h9 => h9) rfl dX4_open_58 ?_
          refine lv_iload_n hx hb dX4_open_61 rfl (lv_at hl 1 rfl) ?_
          refine lv_iload_n hx hb dX4_open_62 rfl (lv_at hl 2 rfl) ?_
          refine z_iast (k := ix) hx hb hK hP hD hS 4 0 rfl rfl rfl (by omega) (by decide) dX4_open_63 (fun H locs hP hD hS => ?_)
          have hP : va_P D vwCl [cM b (upd mm 6 0), (b 1, .inl (cA 0, 8, .inl (bk 4 ix g gy))), (b 7, .inl (cA 0, 8, .inl (bk 4 ix f fy))), (b 9, .inl (cA 0, 2, .inl (t2 ix 1 (yv 0)))), (b 10, .inl (cA 0, 2, .inl (upd (t2 ix (xv 1) (yv 1)) ix o))), (b 11, .inl (cA 0, 2, .inl (t2 ix (xv 2) (yv 2)))), (b 12, .inl (cA 0, 2, .inl (t2 ix 10 (yv 3)))), (b 13, .inl (cA 0, 2, .inl (t2 ix (xv 4) (yv 4)))), (b 14, .inl (cA 0, 2, .inl (t2 ix (xv 5) (yv 5)))), (b 15, .inl (cA 0, 2, .inl (t2 ix (xv 6) (yv 6)))), (b 16, .inl (cA 0, 2, .inl (t2 ix (nI QX.1) (nI QY.1)))), (b 17, .inl (cA 0, 24, .inl (bk 12 ix (qc QX 0) (qc QY 0)))), (b 18, .inl (cA 0, 24, .inl (bk 12 ix (qc QX 1) (qc QY 1)))), (b 19, .inl (cA 0, 24, .inl (bk 12 ix (qc QX 2) (qc QY 2)))), (b 20, .inl (cA 0, 96, .inl (bk 48 ix (qw QX) (qw QY)))), (b 22, .inl (cA 0, 4, .inl sn))] H := hP
          have hD : va_D A [cM b (upd mm 6 0), (b 1, .inl (cA 0, 8, .inl (bk 4 ix g gy))), (b 7, .inl (cA 0, 8, .inl (bk 4 ix f fy))), (b 9, .inl (cA 0, 2, .inl (t2 ix 1 (yv 0)))), (b 10, .inl (cA 0, 2, .inl (upd (t2 ix (xv 1) (yv 1)) ix o))), (b 11, .inl (cA 0, 2, .inl (t2 ix (xv 2) (yv 2)))), (b 12, .inl (cA 0, 2, .inl (t2 ix 10 (yv 3)))), (b 13, .inl (cA 0, 2, .inl (t2 ix (xv 4) (yv 4)))), (b 14, .inl (cA 0, 2, .inl (t2 ix (xv 5) (yv 5)))), (b 15, .inl (cA 0, 2, .inl (t2 ix (xv 6) (yv 6)))), (b 16, .inl (cA 0, 2, .inl (t2 ix (nI QX.1) (nI QY.1)))), (b 17, .inl (cA 0, 24, .inl (bk 12 ix (qc QX 0) (qc QY 0)))), (b 18, .inl (cA 0, 24, .inl (bk 12 ix (qc QX 1) (qc QY 1)))), (b 19, .inl (cA 0, 24, .inl (bk 12 ix (qc QX 2) (qc QY 2)))), (b 20, .inl (cA 0, 96, .inl (bk 48 ix (qw QX) (qw QY)))), (b 22, .inl (cA 0, 4, .inl sn))] := hD
          rw [show upd (t2 ix (xv 1) (yv 1)) ix o = t2 ix o (yv 1) from t2_ux] at hP hD
          refine lv_aload_n hx hb dX4_open_64 rfl (lv_at hl 0 rfl) ?_
          refine va_get (D := D) (ci := 6) (v := .ref (b 14)) (C := RX4) (T := TX4) (N := 29) hx hb hts (fun _ h => List.mem_cons_of_mem _ (List.mem_append_right _ (h))) hown hK hP 0 rfl rfl 15 (by decide) (hts (.fieldLink RX4 50 "OptionWireModel" "loops" "[I") (List.mem_of_getElem? (i := 4) rfl)) (fun _ h9 => h9) rfl dX4_open_65 ?_
          refine lv_iload_n hx hb dX4_open_68 rfl (lv_at hl 1 rfl) ?_
          refine lv_iconst (v := 0) hx hb dX4_open_69 (by decide) ?_
          refine z_iast (k := ix) hx hb hK hP hD hS 8 0 rfl rfl rfl (by omega) (by decide) dX4_open_70 (fun H locs hP hD hS => ?_)
          have hP : va_P D vwCl [cM b (upd mm 6 0), (b 1, .inl (cA 0, 8, .inl (bk 4 ix g gy))), (b 7, .inl (cA 0, 8, .inl (bk 4 ix f fy))), (b 9, .inl (cA 0, 2, .inl (t2 ix 1 (yv 0)))), (b 10, .inl (cA 0, 2, .inl (t2 ix o (yv 1)))), (b 11, .inl (cA 0, 2, .inl (t2 ix (xv 2) (yv 2)))), (b 12, .inl (cA 0, 2, .inl (t2 ix 10 (yv 3)))), (b 13, .inl (cA 0, 2, .inl (t2 ix (xv 4) (yv 4)))), (b 14, .inl (cA 0, 2, .inl (upd (t2 ix (xv 5) (yv 5)) ix 0))), (b 15, .inl (cA 0, 2, .inl (t2 ix (xv 6) (yv 6)))), (b 16, .inl (cA 0, 2, .inl (t2 ix (nI QX.1) (nI QY.1)))), (b 17, .inl (cA 0, 24, .inl (bk 12 ix (qc QX 0) (qc QY 0)))), (b 18, .inl (cA 0, 24, .inl (bk 12 ix (qc QX 1) (qc QY 1)))), (b 19, .inl (cA 0, 24, .inl (bk 12 ix (qc QX 2) (qc QY 2)))), (b 20, .inl (cA 0, 96, .inl (bk 48 ix (qw QX) (qw QY)))), (b 22, .inl (cA 0, 4, .inl sn))] H := hP
          have hD : va_D A [cM b (upd mm 6 0), (b 1, .inl (cA 0, 8, .inl (bk 4 ix g gy))), (b 7, .inl (cA 0, 8, .inl (bk 4 ix f fy))), (b 9, .inl (cA 0, 2, .inl (t2 ix 1 (yv 0)))), (b 10, .inl (cA 0, 2, .inl (t2 ix o (yv 1)))), (b 11, .inl (cA 0, 2, .inl (t2 ix (xv 2) (yv 2)))), (b 12, .inl (cA 0, 2, .inl (t2 ix 10 (yv 3)))), (b 13, .inl (cA 0, 2, .inl (t2 ix (xv 4) (yv 4)))), (b 14, .inl (cA 0, 2, .inl (upd (t2 ix (xv 5) (yv 5)) ix 0))), (b 15, .inl (cA 0, 2, .inl (t2 ix (xv 6) (yv 6)))), (b 16, .inl (cA 0, 2, .inl (t2 ix (nI QX.1) (nI QY.1)))), (b 17, .inl (cA 0, 24, .inl (bk 12 ix (qc QX 0) (qc QY 0)))), (b 18, .inl (cA 0, 24, .inl (bk 12 ix (qc QX 1) (qc QY 1)))), (b 19, .inl (cA 0, 24, .inl (bk 12 ix (qc QX 2) (qc QY 2)))), (b 20, .inl (cA 0, 96, .inl (bk 48 ix (qw QX) (qw QY)))), (b 22, .inl (cA 0, 4, .inl sn))] := hD
          rw [show upd (t2 ix (xv 5) (yv 5)) ix 0 = t2 ix 0 (yv 5) from t2_ux] at hP hD
          refine lv_iconst (v := 4) hx hb dX4_open_71 (by decide) ?_
          refine lv_iload_n hx hb dX4_open_72 rfl (lv_at hl 1 rfl) ?_
          refine lv_imul hx hb dX4_open_73 ?_
          refine z_top (y := (nI (4 * ix))) (z_mul 4 ix) ?_
          refine lv_istore_n (lv' := [(3, .int (nI (4 * ix))), (0, .ref (b 0)), (1, .int (nI ix)), (2, .int o)]) hx hb dX4_open_74 rfl hl (by decide) rfl (fun ls hl => ?_)
          -- the loop at 75
          have hP : va_P D vwCl [cM b (upd mm 6 0), (b 1, .inl (cA 0, 8, .inl (bk 4 ix g gy))), (b 7, .inl (cA 0, 8, .inl (bk 4 ix (mix 0 g f) fy))), (b 9, .inl (cA 0, 2, .inl (t2 ix 1 (yv 0)))), (b 10, .inl (cA 0, 2, .inl (t2 ix o (yv 1)))), (b 11, .inl (cA 0, 2, .inl (t2 ix (xv 2) (yv 2)))), (b 12, .inl (cA 0, 2, .inl (t2 ix 10 (yv 3)))), (b 13, .inl (cA 0, 2, .inl (t2 ix (xv 4) (yv 4)))), (b 14, .inl (cA 0, 2, .inl (t2 ix 0 (yv 5)))), (b 15, .inl (cA 0, 2, .inl (t2 ix (xv 6) (yv 6)))), (b 16, .inl (cA 0, 2, .inl (t2 ix (nI QX.1) (nI QY.1)))), (b 17, .inl (cA 0, 24, .inl (bk 12 ix (qc QX 0) (qc QY 0)))), (b 18, .inl (cA 0, 24, .inl (bk 12 ix (qc QX 1) (qc QY 1)))), (b 19, .inl (cA 0, 24, .inl (bk 12 ix (qc QX 2) (qc QY 2)))), (b 20, .inl (cA 0, 96, .inl (bk 48 ix (qw QX) (qw QY)))), (b 22, .inl (cA 0, 4, .inl sn))] H := z_row hP 2 rfl (fun k _ => congrFun (show bk 4 ix f fy = bk 4 ix (mix 0 g f) fy from (bk_cx (mix_0 g f))) k)
          have hD : va_D A [cM b (upd mm 6 0), (b 1, .inl (cA 0, 8, .inl (bk 4 ix g gy))), (b 7, .inl (cA 0, 8, .inl (bk 4 ix (mix 0 g f) fy))), (b 9, .inl (cA 0, 2, .inl (t2 ix 1 (yv 0)))), (b 10, .inl (cA 0, 2, .inl (t2 ix o (yv 1)))), (b 11, .inl (cA 0, 2, .inl (t2 ix (xv 2) (yv 2)))), (b 12, .inl (cA 0, 2, .inl (t2 ix 10 (yv 3)))), (b 13, .inl (cA 0, 2, .inl (t2 ix (xv 4) (yv 4)))), (b 14, .inl (cA 0, 2, .inl (t2 ix 0 (yv 5)))), (b 15, .inl (cA 0, 2, .inl (t2 ix (xv 6) (yv 6)))), (b 16, .inl (cA 0, 2, .inl (t2 ix (nI QX.1) (nI QY.1)))), (b 17, .inl (cA 0, 24, .inl (bk 12 ix (qc QX 0) (qc QY 0)))), (b 18, .inl (cA 0, 24, .inl (bk 12 ix (qc QX 1) (qc QY 1)))), (b 19, .inl (cA 0, 24, .inl (bk 12 ix (qc QX 2) (qc QY 2)))), (b 20, .inl (cA 0, 96, .inl (bk 48 ix (qw QX) (qw QY)))), (b 22, .inl (cA 0, 4, .inl sn))] := hD.set (p := 2) rfl
          refine z_loop (Inv := fun j H locs ls => va_P D vwCl [cM b (upd mm 6 0), (b 1, .inl (cA 0, 8, .inl (bk 4 ix g gy))), (b 7, .inl (cA 0, 8, .inl (bk 4 ix (mix j g f) fy))), (b 9, .inl (cA 0, 2, .inl (t2 ix 1 (yv 0)))), (b 10, .inl (cA 0, 2, .inl (t2 ix o (yv 1)))), (b 11, .inl (cA 0, 2, .inl (t2 ix (xv 2) (yv 2)))), (b 12, .inl (cA 0, 2, .inl (t2 ix 10 (yv 3)))), (b 13, .inl (cA 0, 2, .inl (t2 ix (xv 4) (yv 4)))), (b 14, .inl (cA 0, 2, .inl (t2 ix 0 (yv 5)))), (b 15, .inl (cA 0, 2, .inl (t2 ix (xv 6) (yv 6)))), (b 16, .inl (cA 0, 2, .inl (t2 ix (nI QX.1) (nI QY.1)))), (b 17, .inl (cA 0, 24, .inl (bk 12 ix (qc QX 0) (qc QY 0)))), (b 18, .inl (cA 0, 24, .inl (bk 12 ix (qc QX 1) (qc QY 1)))), (b 19, .inl (cA 0, 24, .inl (bk 12 ix (qc QX 2) (qc QY 2)))), (b 20, .inl (cA 0, 96, .inl (bk 48 ix (qw QX) (qw QY)))), (b 22, .inl (cA 0, 4, .inl sn))] H ∧ va_D A [cM b (upd mm 6 0), (b 1, .inl (cA 0, 8, .inl (bk 4 ix g gy))), (b 7, .inl (cA 0, 8, .inl (bk 4 ix (mix j g f) fy))), (b 9, .inl (cA 0, 2, .inl (t2 ix 1 (yv 0)))), (b 10, .inl (cA 0, 2, .inl (t2 ix o (yv 1)))), (b 11, .inl (cA 0, 2, .inl (t2 ix (xv 2) (yv 2)))), (b 12, .inl (cA 0, 2, .inl (t2 ix 10 (yv 3)))), (b 13, .inl (cA 0, 2, .inl (t2 ix (xv 4) (yv 4)))), (b 14, .inl (cA 0, 2, .inl (t2 ix 0 (yv 5)))), (b 15, .inl (cA 0, 2, .inl (t2 ix (xv 6) (yv 6)))), (b 16, .inl (cA 0, 2, .inl (t2 ix (nI QX.1) (nI QY.1)))), (b 17, .inl (cA 0, 24, .inl (bk 12 ix (qc QX 0) (qc QY 0)))), (b 18, .inl (cA 0, 24, .inl (bk 12 ix (qc QX 1) (qc QY 1)))), (b 19, .inl (cA 0, 24, .inl (bk 12 ix (qc QX 2) (qc QY 2)))), (b 20, .inl (cA 0, 96, .inl (bk 48 ix (qw QX) (qw QY)))), (b 22, .inl (cA 0, 4, .inl sn))] ∧ va_S A s.heap H locs ∧ lv_has ls 4 [(3, .int (nI (4 * ix + j))), (0, .ref (b 0)), (1, .int (nI ix)), (2, .int o)]) 4 (fun j hj_j ih_j H locs ls hI => ?_) ⟨hP, hD, hS, lv_sub hl [0, 1, 2, 3] rfl⟩
          obtain ⟨hP, hD, hS, hl⟩ := hI
          refine lv_iload_n hx hb dX4_open_75 rfl (lv_at hl 0 rfl) ?_
          refine lv_iconst (v := 4) hx hb dX4_open_76 (by decide) ?_
          refine lv_iload_n hx hb dX4_open_77 rfl (lv_at hl 2 rfl) ?_
          refine lv_imul hx hb dX4_open_78 ?_
          refine z_top (y := (nI (4 * ix))) (z_mul 4 ix) ?_
          refine lv_iconst (v := 4) hx hb dX4_open_79 (by decide) ?_
          refine lv_iadd hx hb dX4_open_80 ?_
          refine z_top (y := (nI (4 * ix + 4))) (z_add (4 * ix) 4) ?_
          refine lv_icmp_ge (tgt := 102) hx hb dX4_open_81 (by decide) (fun c_9 => ?_) (fun c_9 => ?_)
          · have c_9 := (nI_leI (a := 4 * ix + 4) (b := 4 * ix + j) (by omega) (by omega)).mp c_9
            obtain rfl : j = 4 := by omega
            have hP : va_P D vwCl [cM b (upd mm 6 0), (b 1, .inl (cA 0, 8, .inl (bk 4 ix g gy))), (b 7, .inl (cA 0, 8, .inl (bk 4 ix g fy))), (b 9, .inl (cA 0, 2, .inl (t2 ix 1 (yv 0)))), (b 10, .inl (cA 0, 2, .inl (t2 ix o (yv 1)))), (b 11, .inl (cA 0, 2, .inl (t2 ix (xv 2) (yv 2)))), (b 12, .inl (cA 0, 2, .inl (t2 ix 10 (yv 3)))), (b 13, .inl (cA 0, 2, .inl (t2 ix (xv 4) (yv 4)))), (b 14, .inl (cA 0, 2, .inl (t2 ix 0 (yv 5)))), (b 15, .inl (cA 0, 2, .inl (t2 ix (xv 6) (yv 6)))), (b 16, .inl (cA 0, 2, .inl (t2 ix (nI QX.1) (nI QY.1)))), (b 17, .inl (cA 0, 24, .inl (bk 12 ix (qc QX 0) (qc QY 0)))), (b 18, .inl (cA 0, 24, .inl (bk 12 ix (qc QX 1) (qc QY 1)))), (b 19, .inl (cA 0, 24, .inl (bk 12 ix (qc QX 2) (qc QY 2)))), (b 20, .inl (cA 0, 96, .inl (bk 48 ix (qw QX) (qw QY)))), (b 22, .inl (cA 0, 4, .inl sn))] H := z_row hP 2 rfl (fun k hk => bk_mix (g := fy) k hk)
            have hD : va_D A [cM b (upd mm 6 0), (b 1, .inl (cA 0, 8, .inl (bk 4 ix g gy))), (b 7, .inl (cA 0, 8, .inl (bk 4 ix g fy))), (b 9, .inl (cA 0, 2, .inl (t2 ix 1 (yv 0)))), (b 10, .inl (cA 0, 2, .inl (t2 ix o (yv 1)))), (b 11, .inl (cA 0, 2, .inl (t2 ix (xv 2) (yv 2)))), (b 12, .inl (cA 0, 2, .inl (t2 ix 10 (yv 3)))), (b 13, .inl (cA 0, 2, .inl (t2 ix (xv 4) (yv 4)))), (b 14, .inl (cA 0, 2, .inl (t2 ix 0 (yv 5)))), (b 15, .inl (cA 0, 2, .inl (t2 ix (xv 6) (yv 6)))), (b 16, .inl (cA 0, 2, .inl (t2 ix (nI QX.1) (nI QY.1)))), (b 17, .inl (cA 0, 24, .inl (bk 12 ix (qc QX 0) (qc QY 0)))), (b 18, .inl (cA 0, 24, .inl (bk 12 ix (qc QX 1) (qc QY 1)))), (b 19, .inl (cA 0, 24, .inl (bk 12 ix (qc QX 2) (qc QY 2)))), (b 20, .inl (cA 0, 96, .inl (bk 48 ix (qw QX) (qw QY)))), (b 22, .inl (cA 0, 4, .inl sn))] := hD.set (p := 2) rfl
            refine lv_aload_n hx hb dX4_open_102 rfl (lv_at hl 1 rfl) ?_
            refine lv_iload_n hx hb dX4_open_103 rfl (lv_at hl 2 rfl) ?_
            have hPc := hP.sub (ws' := [cM b (upd mm 6 0), (b 7, .inl (cA 0, 8, .inl (bk 4 ix g fy))), (b 9, .inl (cA 0, 2, .inl (t2 ix 1 (yv 0)))), (b 10, .inl (cA 0, 2, .inl (t2 ix o (yv 1)))), (b 11, .inl (cA 0, 2, .inl (t2 ix (xv 2) (yv 2)))), (b 12, .inl (cA 0, 2, .inl (t2 ix 10 (yv 3)))), (b 13, .inl (cA 0, 2, .inl (t2 ix (xv 4) (yv 4)))), (b 14, .inl (cA 0, 2, .inl (t2 ix 0 (yv 5)))), (b 15, .inl (cA 0, 2, .inl (t2 ix (xv 6) (yv 6)))), (b 16, .inl (cA 0, 2, .inl (t2 ix (nI QX.1) (nI QY.1)))), (b 17, .inl (cA 0, 24, .inl (bk 12 ix (qc QX 0) (qc QY 0)))), (b 18, .inl (cA 0, 24, .inl (bk 12 ix (qc QX 1) (qc QY 1)))), (b 19, .inl (cA 0, 24, .inl (bk 12 ix (qc QX 2) (qc QY 2)))), (b 20, .inl (cA 0, 96, .inl (bk 48 ix (qw QX) (qw QY)))), (b 22, .inl (cA 0, 4, .inl sn))]) [0, 2, 3, 4, 5, 6, 7, 8, 9, 10, 11, 12, 13, 14, 15] rfl
            have hDc := hD.sub (ws' := [cM b (upd mm 6 0), (b 7, .inl (cA 0, 8, .inl (bk 4 ix g fy))), (b 9, .inl (cA 0, 2, .inl (t2 ix 1 (yv 0)))), (b 10, .inl (cA 0, 2, .inl (t2 ix o (yv 1)))), (b 11, .inl (cA 0, 2, .inl (t2 ix (xv 2) (yv 2)))), (b 12, .inl (cA 0, 2, .inl (t2 ix 10 (yv 3)))), (b 13, .inl (cA 0, 2, .inl (t2 ix (xv 4) (yv 4)))), (b 14, .inl (cA 0, 2, .inl (t2 ix 0 (yv 5)))), (b 15, .inl (cA 0, 2, .inl (t2 ix (xv 6) (yv 6)))), (b 16, .inl (cA 0, 2, .inl (t2 ix (nI QX.1) (nI QY.1)))), (b 17, .inl (cA 0, 24, .inl (bk 12 ix (qc QX 0) (qc QY 0)))), (b 18, .inl (cA 0, 24, .inl (bk 12 ix (qc QX 1) (qc QY 1)))), (b 19, .inl (cA 0, 24, .inl (bk 12 ix (qc QX 2) (qc QY 2)))), (b 20, .inl (cA 0, 96, .inl (bk 48 ix (qw QX) (qw QY)))), (b 22, .inl (cA 0, 4, .inl sn))]) [0, 2, 3, 4, 5, 6, 7, 8, 9, 10, 11, 12, 13, 14, 15] (by decide) rfl
            have hFc := va_free (wc := [cM b (upd mm 6 0), (b 7, .inl (cA 0, 8, .inl (bk 4 ix g fy))), (b 9, .inl (cA 0, 2, .inl (t2 ix 1 (yv 0)))), (b 10, .inl (cA 0, 2, .inl (t2 ix o (yv 1)))), (b 11, .inl (cA 0, 2, .inl (t2 ix (xv 2) (yv 2)))), (b 12, .inl (cA 0, 2, .inl (t2 ix 10 (yv 3)))), (b 13, .inl (cA 0, 2, .inl (t2 ix (xv 4) (yv 4)))), (b 14, .inl (cA 0, 2, .inl (t2 ix 0 (yv 5)))), (b 15, .inl (cA 0, 2, .inl (t2 ix (xv 6) (yv 6)))), (b 16, .inl (cA 0, 2, .inl (t2 ix (nI QX.1) (nI QY.1)))), (b 17, .inl (cA 0, 24, .inl (bk 12 ix (qc QX 0) (qc QY 0)))), (b 18, .inl (cA 0, 24, .inl (bk 12 ix (qc QX 1) (qc QY 1)))), (b 19, .inl (cA 0, 24, .inl (bk 12 ix (qc QX 2) (qc QY 2)))), (b 20, .inl (cA 0, 96, .inl (bk 48 ix (qw QX) (qw QY)))), (b 22, .inl (cA 0, 4, .inl sn))]) hD hS hA [0, 2, 3, 4, 5, 6, 7, 8, 9, 10, 11, 12, 13, 14, 15] rfl
            refine va_callv (va_runV (As := [.int (nI ix)]) (rest := []) ⟨hx, hb, hml, hown, hts⟩ (c_X4_requests l D cA H.size b (upd mm 6 0) ix QX QY (upd (upd (upd (upd xv 0 1) 3 10) 1 o) 5 0) yv g fy sn (by assumption) (by assumption) (by assumption)) (cwV 1 hts gX4_open_X4_requests rfl rfl rfl (by decide +kernel) ⟨Nat.le_of_ble_eq_true rfl, Nat.le_of_ble_eq_true rfl⟩) ⟨zU_blind, va_recv hK hPc (ci := 6) (q0 := 0) rfl rfl, fun U hU hW => ⟨rfl, zU_call hU hPc hW.alike hK hDc⟩⟩ rfl rfl hl.1 rfl (lv_room (Nat.le_of_ble_eq_true rfl)) dX4_open_104 ⟨(Nat.zero_le _), (Nat.zero_le _)⟩) hS (fun q _ h => hFc q h) hFc (fun u t H1 locs ht hvm hw hB hz1 hk1 hS => ?_)
            obtain ⟨xv'_10, QX'_10, QY'_10, mm'_10, sn'_10⟩ := u
            obtain ⟨hP1, hD1⟩ := hB
            rw [ht] at hP1
            try dsimp only at hw hP1 hD1
            obtain ⟨hP, hD⟩ := va_join (wr := [(b 1, .inl (cA 0, 8, .inl (bk 4 ix g gy)))]) (w1 := [cM b mm'_10, (b 7, .inl (cA 0, 8, .inl (bk 4 ix g fy))), (b 9, .inl (cA 0, 2, .inl (t2 ix (xv'_10 0) (yv 0)))), (b 10, .inl (cA 0, 2, .inl (t2 ix (xv'_10 1) (yv 1)))), (b 11, .inl (cA 0, 2, .inl (t2 ix (xv'_10 2) (yv 2)))), (b 12, .inl (cA 0, 2, .inl (t2 ix (xv'_10 3) (yv 3)))), (b 13, .inl (cA 0, 2, .inl (t2 ix (xv'_10 4) (yv 4)))), (b 14, .inl (cA 0, 2, .inl (t2 ix (xv'_10 5) (yv 5)))), (b 15, .inl (cA 0, 2, .inl (t2 ix (xv'_10 6) (yv 6)))), (b 16, .inl (cA 0, 2, .inl (t2 ix (nI QX'_10.1) (nI QY'_10.1)))), (b 17, .inl (cA 0, 24, .inl (bk 12 ix (qc QX'_10 0) (qc QY'_10 0)))), (b 18, .inl (cA 0, 24, .inl (bk 12 ix (qc QX'_10 1) (qc QY'_10 1)))), (b 19, .inl (cA 0, 24, .inl (bk 12 ix (qc QX'_10 2) (qc QY'_10 2)))), (b 20, .inl (cA 0, 96, .inl (bk 48 ix (qw QX'_10) (qw QY'_10)))), (b 22, .inl (cA 0, 4, .inl sn'_10))]) hP hD [0, 2, 3, 4, 5, 6, 7, 8, 9, 10, 11, 12, 13, 14, 15] [1] rfl rfl (by decide) (by decide) hk1 hFc hP1 hD1
            generalize H1 = H at hP hS ⊢
            have hP := hP.sub (ws' := [cM b mm'_10, (b 1, .inl (cA 0, 8, .inl (bk 4 ix g gy))), (b 7, .inl (cA 0, 8, .inl (bk 4 ix g fy))), (b 9, .inl (cA 0, 2, .inl (t2 ix (xv'_10 0) (yv 0)))), (b 10, .inl (cA 0, 2, .inl (t2 ix (xv'_10 1) (yv 1)))), (b 11, .inl (cA 0, 2, .inl (t2 ix (xv'_10 2) (yv 2)))), (b 12, .inl (cA 0, 2, .inl (t2 ix (xv'_10 3) (yv 3)))), (b 13, .inl (cA 0, 2, .inl (t2 ix (xv'_10 4) (yv 4)))), (b 14, .inl (cA 0, 2, .inl (t2 ix (xv'_10 5) (yv 5)))), (b 15, .inl (cA 0, 2, .inl (t2 ix (xv'_10 6) (yv 6)))), (b 16, .inl (cA 0, 2, .inl (t2 ix (nI QX'_10.1) (nI QY'_10.1)))), (b 17, .inl (cA 0, 24, .inl (bk 12 ix (qc QX'_10 0) (qc QY'_10 0)))), (b 18, .inl (cA 0, 24, .inl (bk 12 ix (qc QX'_10 1) (qc QY'_10 1)))), (b 19, .inl (cA 0, 24, .inl (bk 12 ix (qc QX'_10 2) (qc QY'_10 2)))), (b 20, .inl (cA 0, 96, .inl (bk 48 ix (qw QX'_10) (qw QY'_10)))), (b 22, .inl (cA 0, 4, .inl sn'_10))]) [1, 0, 2, 3, 4, 5, 6, 7, 8, 9, 10, 11, 12, 13, 14, 15] rfl
            have hD := hD.sub (ws' := [cM b mm'_10, (b 1, .inl (cA 0, 8, .inl (bk 4 ix g gy))), (b 7, .inl (cA 0, 8, .inl (bk 4 ix g fy))), (b 9, .inl (cA 0, 2, .inl (t2 ix (xv'_10 0) (yv 0)))), (b 10, .inl (cA 0, 2, .inl (t2 ix (xv'_10 1) (yv 1)))), (b 11, .inl (cA 0, 2, .inl (t2 ix (xv'_10 2) (yv 2)))), (b 12, .inl (cA 0, 2, .inl (t2 ix (xv'_10 3) (yv 3)))), (b 13, .inl (cA 0, 2, .inl (t2 ix (xv'_10 4) (yv 4)))), (b 14, .inl (cA 0, 2, .inl (t2 ix (xv'_10 5) (yv 5)))), (b 15, .inl (cA 0, 2, .inl (t2 ix (xv'_10 6) (yv 6)))), (b 16, .inl (cA 0, 2, .inl (t2 ix (nI QX'_10.1) (nI QY'_10.1)))), (b 17, .inl (cA 0, 24, .inl (bk 12 ix (qc QX'_10 0) (qc QY'_10 0)))), (b 18, .inl (cA 0, 24, .inl (bk 12 ix (qc QX'_10 1) (qc QY'_10 1)))), (b 19, .inl (cA 0, 24, .inl (bk 12 ix (qc QX'_10 2) (qc QY'_10 2)))), (b 20, .inl (cA 0, 96, .inl (bk 48 ix (qw QX'_10) (qw QY'_10)))), (b 22, .inl (cA 0, 4, .inl sn'_10))]) [1, 0, 2, 3, 4, 5, 6, 7, 8, 9, 10, 11, 12, 13, 14, 15] (by decide) rfl
            clear hPc hDc hFc hP1 hD1 hk1 hz1
            obtain ⟨rfl, rfl, rfl, rfl⟩ := hw
            refine W.widen (k := 0) (n := 0) (by omega) (by omega) ?_
            exact W.vret hx hb hr (fun t ht hW => ⟨⟨(((rq ((upd mm 6 0) 0) (upd (upd (upd (upd xv 0 1) 3 10) 1 o) 5 0) g QX QY ((upd mm 6 0) 5)).1), ((rq ((upd mm 6 0) 0) (upd (upd (upd (upd xv 0 1) 3 10) 1 o) 5 0) g QX QY ((upd mm 6 0) 5)).2.1.1), ((rq ((upd mm 6 0) 0) (upd (upd (upd (upd xv 0 1) 3 10) 1 o) 5 0) g QX QY ((upd mm 6 0) 5)).2.1.2), (upd (upd mm 6 0) 5 (rq ((upd mm 6 0) 0) (upd (upd (upd (upd xv 0 1) 3 10) 1 o) 5 0) g QX QY ((upd mm 6 0) 5)).2.2), sn'_10), rfl, ⟨rfl, rfl, rfl, rfl⟩, ⟨by rw [ht]; exact hP, by rw [hAe]; exact hD⟩⟩, hS.F ht⟩) hS.2.2 dX4_open_107
          · have c_9 := mt (nI_leI (a := 4 * ix + 4) (b := 4 * ix + j) (by omega) (by omega)).mpr c_9
            refine lv_aload_n hx hb dX4_open_84 rfl (lv_at hl 1 rfl) ?_
            refine va_get (D := D) (ci := 6) (v := .ref (b 7)) (C := RX4) (T := TX4) (N := 29) hx hb hts (fun _ h => List.mem_cons_of_mem _ (List.mem_append_right _ (h))) hown hK hP 0 rfl rfl 8 (by decide) (hts (.fieldLink RX4 29 "OptionWireModel" "asks" "[I") (List.mem_of_getElem? (i := 5) rfl)) (fun _ h9 => h9) rfl dX4_open_85 ?_
            refine lv_iload_n hx hb dX4_open_88 rfl (lv_at hl 0 rfl) ?_
            refine lv_aload_n hx hb dX4_open_89 rfl (lv_at hl 1 rfl) ?_
            refine va_get (D := D) (ci := 6) (v := .ref (b 1)) (C := RX4) (T := TX4) (N := 29) hx hb hts (fun _ h => List.mem_cons_of_mem _ (List.mem_append_right _ (h))) hown hK hP 0 rfl rfl 2 (by decide) (hts (.fieldLink RX4 7 "OptionWireModel" "wishes" "[I") (List.mem_of_getElem? (i := 6) rfl)) (fun _ h9 => h9) rfl dX4_open_90 ?_
            refine lv_iload_n hx hb dX4_open_93 rfl (lv_at hl 0 rfl) ?_
            refine z_iald (k := (4 * ix + j)) (v := (g j)) hx hb hK hP 1 0 rfl rfl rfl (by omega) (by decide) (bk_x (by omega)) dX4_open_94 ?_
            refine z_iast (k := (4 * ix + j)) hx hb hK hP hD hS 2 0 rfl rfl rfl (by omega) (by decide) dX4_open_95 (fun H locs hP hD hS => ?_)
            have hP : va_P D vwCl [cM b (upd mm 6 0), (b 1, .inl (cA 0, 8, .inl (bk 4 ix g gy))), (b 7, .inl (cA 0, 8, .inl (upd (bk 4 ix (mix j g f) fy) (4 * ix + j) (g j)))), (b 9, .inl (cA 0, 2, .inl (t2 ix 1 (yv 0)))), (b 10, .inl (cA 0, 2, .inl (t2 ix o (yv 1)))), (b 11, .inl (cA 0, 2, .inl (t2 ix (xv 2) (yv 2)))), (b 12, .inl (cA 0, 2, .inl (t2 ix 10 (yv 3)))), (b 13, .inl (cA 0, 2, .inl (t2 ix (xv 4) (yv 4)))), (b 14, .inl (cA 0, 2, .inl (t2 ix 0 (yv 5)))), (b 15, .inl (cA 0, 2, .inl (t2 ix (xv 6) (yv 6)))), (b 16, .inl (cA 0, 2, .inl (t2 ix (nI QX.1) (nI QY.1)))), (b 17, .inl (cA 0, 24, .inl (bk 12 ix (qc QX 0) (qc QY 0)))), (b 18, .inl (cA 0, 24, .inl (bk 12 ix (qc QX 1) (qc QY 1)))), (b 19, .inl (cA 0, 24, .inl (bk 12 ix (qc QX 2) (qc QY 2)))), (b 20, .inl (cA 0, 96, .inl (bk 48 ix (qw QX) (qw QY)))), (b 22, .inl (cA 0, 4, .inl sn))] H := hP
            have hD : va_D A [cM b (upd mm 6 0), (b 1, .inl (cA 0, 8, .inl (bk 4 ix g gy))), (b 7, .inl (cA 0, 8, .inl (upd (bk 4 ix (mix j g f) fy) (4 * ix + j) (g j)))), (b 9, .inl (cA 0, 2, .inl (t2 ix 1 (yv 0)))), (b 10, .inl (cA 0, 2, .inl (t2 ix o (yv 1)))), (b 11, .inl (cA 0, 2, .inl (t2 ix (xv 2) (yv 2)))), (b 12, .inl (cA 0, 2, .inl (t2 ix 10 (yv 3)))), (b 13, .inl (cA 0, 2, .inl (t2 ix (xv 4) (yv 4)))), (b 14, .inl (cA 0, 2, .inl (t2 ix 0 (yv 5)))), (b 15, .inl (cA 0, 2, .inl (t2 ix (xv 6) (yv 6)))), (b 16, .inl (cA 0, 2, .inl (t2 ix (nI QX.1) (nI QY.1)))), (b 17, .inl (cA 0, 24, .inl (bk 12 ix (qc QX 0) (qc QY 0)))), (b 18, .inl (cA 0, 24, .inl (bk 12 ix (qc QX 1) (qc QY 1)))), (b 19, .inl (cA 0, 24, .inl (bk 12 ix (qc QX 2) (qc QY 2)))), (b 20, .inl (cA 0, 96, .inl (bk 48 ix (qw QX) (qw QY)))), (b 22, .inl (cA 0, 4, .inl sn))] := hD
            rw [show upd (bk 4 ix (mix j g f) fy) (4 * ix + j) (g j) = bk 4 ix (upd (mix j g f) j (g j)) fy from (bk_ux (by omega))] at hP hD
            refine lv_iinc (v := nI (4 * ix + j + 1)) (lv' := [(3, .int (nI (4 * ix + j + 1))), (0, .ref (b 0)), (1, .int (nI ix)), (2, .int o)]) hx hb dX4_open_96 hl (k := 0) rfl (z_inc (4 * ix + j) 1) (by decide) rfl (fun ls hl => ?_)
            refine lv_goto (tgt := 75) hx hb dX4_open_99 (by decide) ?_
            have hP : va_P D vwCl [cM b (upd mm 6 0), (b 1, .inl (cA 0, 8, .inl (bk 4 ix g gy))), (b 7, .inl (cA 0, 8, .inl (bk 4 ix (mix (j + 1) g f) fy))), (b 9, .inl (cA 0, 2, .inl (t2 ix 1 (yv 0)))), (b 10, .inl (cA 0, 2, .inl (t2 ix o (yv 1)))), (b 11, .inl (cA 0, 2, .inl (t2 ix (xv 2) (yv 2)))), (b 12, .inl (cA 0, 2, .inl (t2 ix 10 (yv 3)))), (b 13, .inl (cA 0, 2, .inl (t2 ix (xv 4) (yv 4)))), (b 14, .inl (cA 0, 2, .inl (t2 ix 0 (yv 5)))), (b 15, .inl (cA 0, 2, .inl (t2 ix (xv 6) (yv 6)))), (b 16, .inl (cA 0, 2, .inl (t2 ix (nI QX.1) (nI QY.1)))), (b 17, .inl (cA 0, 24, .inl (bk 12 ix (qc QX 0) (qc QY 0)))), (b 18, .inl (cA 0, 24, .inl (bk 12 ix (qc QX 1) (qc QY 1)))), (b 19, .inl (cA 0, 24, .inl (bk 12 ix (qc QX 2) (qc QY 2)))), (b 20, .inl (cA 0, 96, .inl (bk 48 ix (qw QX) (qw QY)))), (b 22, .inl (cA 0, 4, .inl sn))] H := z_row hP 2 rfl (fun k _ => congrFun (show bk 4 ix (upd (mix j g f) j (g j)) fy = bk 4 ix (mix (j + 1) g f) fy from (bk_cx (mix_put rfl))) k)
            have hD : va_D A [cM b (upd mm 6 0), (b 1, .inl (cA 0, 8, .inl (bk 4 ix g gy))), (b 7, .inl (cA 0, 8, .inl (bk 4 ix (mix (j + 1) g f) fy))), (b 9, .inl (cA 0, 2, .inl (t2 ix 1 (yv 0)))), (b 10, .inl (cA 0, 2, .inl (t2 ix o (yv 1)))), (b 11, .inl (cA 0, 2, .inl (t2 ix (xv 2) (yv 2)))), (b 12, .inl (cA 0, 2, .inl (t2 ix 10 (yv 3)))), (b 13, .inl (cA 0, 2, .inl (t2 ix (xv 4) (yv 4)))), (b 14, .inl (cA 0, 2, .inl (t2 ix 0 (yv 5)))), (b 15, .inl (cA 0, 2, .inl (t2 ix (xv 6) (yv 6)))), (b 16, .inl (cA 0, 2, .inl (t2 ix (nI QX.1) (nI QY.1)))), (b 17, .inl (cA 0, 24, .inl (bk 12 ix (qc QX 0) (qc QY 0)))), (b 18, .inl (cA 0, 24, .inl (bk 12 ix (qc QX 1) (qc QY 1)))), (b 19, .inl (cA 0, 24, .inl (bk 12 ix (qc QX 2) (qc QY 2)))), (b 20, .inl (cA 0, 96, .inl (bk 48 ix (qw QX) (qw QY)))), (b 22, .inl (cA 0, 4, .inl sn))] := hD.set (p := 2) rfl
            exact ih_j _ _ _ (by omega) ⟨hP, hD, hS, lv_sub hl [0, 1, 2, 3] rfl⟩
        · exact absurd rfl h_7
      · exact absurd hsh h_5
    · exact absurd hmk h_3
  · exact absurd (inr_ix hix) h_1
set_option maxHeartbeats 4000000 in
set_option maxRecDepth 100000 in
theorem c_X4_open_s (l : Launch) (D : va_G) (cA : Nat → ClassId) (sz : Nat) (b : Nat → Nat) (mm : Nat → Int32) (ix : Nat) (c1 c2 : Int32) (o : Int32) (hix : ix ≤ 1) (hmk : inr o 1 999) (hsh : ¬ sSh c1) : Met l yX4_open wsX4_open ({ frames := 2, cells := 0, slots := 0, locals := 42 }) (va_Pc [.ref (b 0), .int (nI ix), .int o] (zU D cA sz [cM b mm, (b 9, .inl (cA 0, 2, .inl (t2 ix c1 c2)))])) (va_Qv (fun (u : (Nat → Int32)) => u = upd mm 6 2) (fun (u : (Nat → Int32)) t => zB D [cM b mm, (b 9, .inl (cA 0, 2, .inl (t2 ix c1 c2)))] sz [cM b u, (b 9, .inl (cA 0, 2, .inl (t2 ix c1 c2)))] t) (va_A [cM b mm, (b 9, .inl (cA 0, 2, .inl (t2 ix c1 c2)))] sz)) 0 0 (va_A [cM b mm, (b 9, .inl (cA 0, 2, .inl (t2 ix c1 c2)))] sz) := by
  refine Met.ofW (cc := cX4_open) (maxL := 4) (ret := none) (by decide) rfl ?_
  intro p e s m args below meth c s₁ B hml hv
  obtain ⟨rfl, hsz, hP, hK, hD0⟩ := hv
  have hx := B.exec
  have hb := B.bytes
  have hr := B.returns
  have hts := atoms_spec (ws := wsX4_open) B.pre
  have hown : s.vm.findClass RX4 = some m.cls := findClass_of_methodNamed B.named
  have hlocks := B.notSynchronized
  subst hsz
  have hD := hD0.self (sz := s.heap.size)
  generalize hAe : va_A [cM b mm, (b 9, .inl (cA 0, 2, .inl (t2 ix c1 c2)))] s.heap.size = A at hD ⊢
  have hA : ∀ q : Nat, s.heap.size ≤ q → A q := fun q h => by rw [← hAe]; exact Or.inr h
  have hS : va_S A s.heap s.heap [] := va_S.rf
  have hl := lv_entry ([.ref (b 0), .int (nI ix), .int o]) (n := 4) (Nat.le_of_ble_eq_true rfl)
  rw [lg_entry_eq]
  generalize (lg_sl ([.ref (b 0), .int (nI ix), .int o]) ++ List.replicate (4 - (lg_sl ([.ref (b 0), .int (nI ix), .int o])).length) Slot.unset).toArray = ls at hl ⊢
  have hl : lv_has ls 4 [(0, .ref (b 0)), (1, .int (nI ix)), (2, .int o)] := hl
  refine lv_aload_n hx hb dX4_open_0 rfl (lv_at hl 0 rfl) ?_
  refine lv_iload_n hx hb dX4_open_1 rfl (lv_at hl 1 rfl) ?_
  have hPc := hP.sub (ws' := []) [] rfl
  have hDc := hD.sub (ws' := []) [] (by decide) rfl
  have hFc := va_free (wc := []) hD hS hA [] rfl
  refine va_calli (va_runS (As := [.int (nI ix)]) (rest := [.ref (b 0)]) ⟨hx, hb, hml, hown, hts⟩ (c_X4_isEnd l D cA s.heap.size (nI ix)) (va_cwS 1 hts gX4_open_X4_isEnd rfl rfl rfl (by decide +kernel) ⟨Nat.le_of_ble_eq_true rfl, Nat.le_of_ble_eq_true rfl⟩) ⟨zU_blind, fun U hU hW => ⟨rfl, zU_call hU hPc hW.alike hK hDc⟩⟩ rfl rfl hl.1 rfl (lv_room (Nat.le_of_ble_eq_true rfl)) dX4_open_2 ⟨(Nat.zero_le _), (Nat.zero_le _)⟩) hS (fun q _ h => hFc q h) hFc (fun zr u t H1 locs ht hvm hw hB hz1 hk1 hS => ?_)
  obtain ⟨hP1, hD1⟩ := hB
  rw [ht] at hP1
  obtain ⟨hP, hD⟩ := va_join (wr := [cM b mm, (b 9, .inl (cA 0, 2, .inl (t2 ix c1 c2)))]) (w1 := []) hP hD [] [0, 1] rfl rfl (by decide) (by decide) hk1 hFc hP1 hD1
  generalize H1 = H at hP hS ⊢
  have hP := hP.sub (ws' := [cM b mm, (b 9, .inl (cA 0, 2, .inl (t2 ix c1 c2)))]) [0, 1] rfl
  have hD := hD.sub (ws' := [cM b mm, (b 9, .inl (cA 0, 2, .inl (t2 ix c1 c2)))]) [0, 1] (by decide) rfl
  clear hPc hDc hFc hP1 hD1 hk1 hz1
  have hw_1 := hw
  rcases z_bool hw with ⟨h_1, rfl⟩ | ⟨h_1, rfl⟩
  · skip
    refine lv_if_eq (tgt := 19) hx hb dX4_open_5 (by decide) (fun c_2 => absurd c_2 (by decide)) (fun _ => ?_)
    refine lv_iload_n hx hb dX4_open_8 rfl (lv_at hl 2 rfl) ?_
    refine lv_iconst (v := 1) hx hb dX4_open_9 (by decide) ?_
    refine lv_sipush (v := 999) hx hb dX4_open_10 (by decide) ?_
    have hPc := hP.sub (ws' := []) [] rfl
    have hDc := hD.sub (ws' := []) [] (by decide) rfl
    have hFc := va_free (wc := []) hD hS hA [] rfl
    refine va_calli (va_runS (As := [.int o, .int 1, .int 999]) (rest := [.ref (b 0)]) ⟨hx, hb, hml, hown, hts⟩ (c_X4_isIn l D cA H.size o 1 999) (va_cwS 3 hts gX4_open_X4_isIn rfl rfl rfl (by decide +kernel) ⟨Nat.le_of_ble_eq_true rfl, Nat.le_of_ble_eq_true rfl⟩) ⟨zU_blind, fun U hU hW => ⟨rfl, zU_call hU hPc hW.alike hK hDc⟩⟩ rfl rfl hl.1 rfl (lv_room (Nat.le_of_ble_eq_true rfl)) dX4_open_13 ⟨(Nat.zero_le _), (Nat.zero_le _)⟩) hS (fun q _ h => hFc q h) hFc (fun zr u t H1 locs ht hvm hw hB hz1 hk1 hS => ?_)
    obtain ⟨hP1, hD1⟩ := hB
    rw [ht] at hP1
    obtain ⟨hP, hD⟩ := va_join (wr := [cM b mm, (b 9, .inl (cA 0, 2, .inl (t2 ix c1 c2)))]) (w1 := []) hP hD [] [0, 1] rfl rfl (by decide) (by decide) hk1 hFc hP1 hD1
    generalize H1 = H at hP hS ⊢
    have hP := hP.sub (ws' := [cM b mm, (b 9, .inl (cA 0, 2, .inl (t2 ix c1 c2)))]) [0, 1] rfl
    have hD := hD.sub (ws' := [cM b mm, (b 9, .inl (cA 0, 2, .inl (t2 ix c1 c2)))]) [0, 1] (by decide) rfl
    clear hPc hDc hFc hP1 hD1 hk1 hz1
    have hw_3 := hw
    rcases z_bool hw with ⟨h_3, rfl⟩ | ⟨h_3, rfl⟩
    · skip
      refine lv_if_ne (tgt := 23) hx hb dX4_open_16 (by decide) (fun _ => ?_) (fun c_4 => absurd c_4 (by decide))
      refine lv_aload_n hx hb dX4_open_23 rfl (lv_at hl 0 rfl) ?_
      refine lv_iload_n hx hb dX4_open_24 rfl (lv_at hl 1 rfl) ?_
      have hPc := hP.sub (ws' := [cM b mm, (b 9, .inl (cA 0, 2, .inl (t2 ix c1 c2)))]) [0, 1] rfl
      have hDc := hD.sub (ws' := [cM b mm, (b 9, .inl (cA 0, 2, .inl (t2 ix c1 c2)))]) [0, 1] (by decide) rfl
      have hFc := va_free (wc := [cM b mm, (b 9, .inl (cA 0, 2, .inl (t2 ix c1 c2)))]) hD hS hA [0, 1] rfl
      refine va_calli (va_runV (As := [.int (nI ix)]) (rest := [.ref (b 0)]) ⟨hx, hb, hml, hown, hts⟩ (c_X4_isShut l D cA H.size b mm ix c1 c2 (by assumption)) (cwV 1 hts gX4_open_X4_isShut rfl rfl rfl (by decide +kernel) ⟨Nat.le_of_ble_eq_true rfl, Nat.le_of_ble_eq_true rfl⟩) ⟨zU_blind, va_recv hK hPc (ci := 6) (q0 := 0) rfl rfl, fun U hU hW => ⟨rfl, zU_call hU hPc hW.alike hK hDc⟩⟩ rfl rfl hl.1 rfl (lv_room (Nat.le_of_ble_eq_true rfl)) dX4_open_25 ⟨(Nat.zero_le _), (Nat.zero_le _)⟩) hS (fun q _ h => hFc q h) hFc (fun zr u t H1 locs ht hvm hw hB hz1 hk1 hS => ?_)
      obtain ⟨hP1, hD1⟩ := hB
      rw [ht] at hP1
      obtain ⟨hP, hD⟩ := va_join (wr := []) (w1 := [cM b mm, (b 9, .inl (cA 0, 2, .inl (t2 ix c1 c2)))]) hP hD [0, 1] [] rfl rfl (by decide) (by decide) hk1 hFc hP1 hD1
      generalize H1 = H at hP hS ⊢
      have hP := hP.sub (ws' := [cM b mm, (b 9, .inl (cA 0, 2, .inl (t2 ix c1 c2)))]) [0, 1] rfl
      have hD := hD.sub (ws' := [cM b mm, (b 9, .inl (cA 0, 2, .inl (t2 ix c1 c2)))]) [0, 1] (by decide) rfl
      clear hPc hDc hFc hP1 hD1 hk1 hz1
      have hw_5 := hw
      rcases z_bool hw with ⟨h_5, rfl⟩ | ⟨h_5, rfl⟩
      · exact absurd h_5 hsh
      · skip
        refine lv_if_eq (tgt := 35) hx hb dX4_open_28 (by decide) (fun _ => ?_) (fun c_6 => absurd c_6 (by decide))
        refine lv_iconst (v := 2) hx hb dX4_open_35 (by decide) ?_
        have hPc := hP.sub (ws' := [cM b mm]) [0] rfl
        have hDc := hD.sub (ws' := [cM b mm]) [0] (by decide) rfl
        have hFc := va_free (wc := [cM b mm]) hD hS hA [0] rfl
        refine va_calli (va_runV (As := [.int 2]) (rest := []) ⟨hx, hb, hml, hown, hts⟩ (c_X4_can l D cA H.size b mm 2) (cwV 1 hts gX4_open_X4_can rfl rfl rfl (by decide +kernel) ⟨Nat.le_of_ble_eq_true rfl, Nat.le_of_ble_eq_true rfl⟩) ⟨zU_blind, va_recv hK hPc (ci := 6) (q0 := 0) rfl rfl, fun U hU hW => ⟨rfl, zU_call hU hPc hW.alike hK hDc⟩⟩ rfl rfl hl.1 rfl (lv_room (Nat.le_of_ble_eq_true rfl)) dX4_open_36 ⟨(Nat.zero_le _), (Nat.zero_le _)⟩) hS (fun q _ h => hFc q h) hFc (fun zr u t H1 locs ht hvm hw hB hz1 hk1 hS => ?_)
        obtain ⟨mm'_7, rfl⟩ : ∃ z, z = u := ⟨_, rfl⟩
        obtain ⟨hP1, hD1⟩ := hB
        rw [ht] at hP1
        try dsimp only at hw hP1 hD1
        obtain ⟨hP, hD⟩ := va_join (wr := [(b 9, .inl (cA 0, 2, .inl (t2 ix c1 c2)))]) (w1 := [cM b mm'_7]) hP hD [0] [1] rfl rfl (by decide) (by decide) hk1 hFc hP1 hD1
        generalize H1 = H at hP hS ⊢
        have hP := hP.sub (ws' := [cM b mm'_7, (b 9, .inl (cA 0, 2, .inl (t2 ix c1 c2)))]) [1, 0] rfl
        have hD := hD.sub (ws' := [cM b mm'_7, (b 9, .inl (cA 0, 2, .inl (t2 ix c1 c2)))]) [1, 0] (by decide) rfl
        clear hPc hDc hFc hP1 hD1 hk1 hz1
        obtain ⟨rfl, hw⟩ := hw
        have hw_7 := hw
        rcases z_bool hw with ⟨h_7, rfl⟩ | ⟨h_7, rfl⟩
        · exact absurd h_7 (by decide)
        · skip
          refine lv_if_eq (tgt := 107) hx hb dX4_open_39 (by decide) (fun _ => ?_) (fun c_8 => absurd c_8 (by decide))
          refine W.widen (k := 0) (n := 0) (by omega) (by omega) ?_
          exact W.vret hx hb hr (fun t ht hW => ⟨⟨((upd mm 6 2)), rfl, rfl, ⟨by rw [ht]; exact hP, by rw [hAe]; exact hD⟩⟩, hS.F ht⟩) hS.2.2 dX4_open_107
    · exact absurd hmk h_3
  · exact absurd (inr_ix hix) h_1
set_option maxHeartbeats 4000000 in
set_option maxRecDepth 100000 in
theorem c_X4_open_b (l : Launch) (D : va_G) (cA : Nat → ClassId) (sz : Nat) (b : Nat → Nat) (mm : Nat → Int32) (n o : Int32) (hn : ¬ (inr n 0 1 ∧ inr o 1 999)) : Met l yX4_open wsX4_open ({ frames := 2, cells := 0, slots := 0, locals := 42 }) (va_Pc [.ref (b 0), .int n, .int o] (zU D cA sz [cM b mm])) (va_Qv (fun (u : (Nat → Int32)) => u = upd mm 6 1) (fun (u : (Nat → Int32)) t => zB D [cM b mm] sz [cM b u] t) (va_A [cM b mm] sz)) 0 0 (va_A [cM b mm] sz) := by
  refine Met.ofW (cc := cX4_open) (maxL := 4) (ret := none) (by decide) rfl ?_
  intro p e s m args below meth c s₁ B hml hv
  obtain ⟨rfl, hsz, hP, hK, hD0⟩ := hv
  have hx := B.exec
  have hb := B.bytes
  have hr := B.returns
  have hts := atoms_spec (ws := wsX4_open) B.pre
  have hown : s.vm.findClass RX4 = some m.cls := findClass_of_methodNamed B.named
  have hlocks := B.notSynchronized
  subst hsz
  have hD := hD0.self (sz := s.heap.size)
  generalize hAe : va_A [cM b mm] s.heap.size = A at hD ⊢
  have hA : ∀ q : Nat, s.heap.size ≤ q → A q := fun q h => by rw [← hAe]; exact Or.inr h
  have hS : va_S A s.heap s.heap [] := va_S.rf
  have hl := lv_entry ([.ref (b 0), .int n, .int o]) (n := 4) (Nat.le_of_ble_eq_true rfl)
  rw [lg_entry_eq]
  generalize (lg_sl ([.ref (b 0), .int n, .int o]) ++ List.replicate (4 - (lg_sl ([.ref (b 0), .int n, .int o])).length) Slot.unset).toArray = ls at hl ⊢
  have hl : lv_has ls 4 [(0, .ref (b 0)), (1, .int n), (2, .int o)] := hl
  refine lv_aload_n hx hb dX4_open_0 rfl (lv_at hl 0 rfl) ?_
  refine lv_iload_n hx hb dX4_open_1 rfl (lv_at hl 1 rfl) ?_
  have hPc := hP.sub (ws' := []) [] rfl
  have hDc := hD.sub (ws' := []) [] (by decide) rfl
  have hFc := va_free (wc := []) hD hS hA [] rfl
  refine va_calli (va_runS (As := [.int n]) (rest := [.ref (b 0)]) ⟨hx, hb, hml, hown, hts⟩ (c_X4_isEnd l D cA s.heap.size n) (va_cwS 1 hts gX4_open_X4_isEnd rfl rfl rfl (by decide +kernel) ⟨Nat.le_of_ble_eq_true rfl, Nat.le_of_ble_eq_true rfl⟩) ⟨zU_blind, fun U hU hW => ⟨rfl, zU_call hU hPc hW.alike hK hDc⟩⟩ rfl rfl hl.1 rfl (lv_room (Nat.le_of_ble_eq_true rfl)) dX4_open_2 ⟨(Nat.zero_le _), (Nat.zero_le _)⟩) hS (fun q _ h => hFc q h) hFc (fun zr u t H1 locs ht hvm hw hB hz1 hk1 hS => ?_)
  obtain ⟨hP1, hD1⟩ := hB
  rw [ht] at hP1
  obtain ⟨hP, hD⟩ := va_join (wr := [cM b mm]) (w1 := []) hP hD [] [0] rfl rfl (by decide) (by decide) hk1 hFc hP1 hD1
  generalize H1 = H at hP hS ⊢
  have hP := hP.sub (ws' := [cM b mm]) [0] rfl
  have hD := hD.sub (ws' := [cM b mm]) [0] (by decide) rfl
  clear hPc hDc hFc hP1 hD1 hk1 hz1
  have hw_1 := hw
  rcases z_bool hw with ⟨h_1, rfl⟩ | ⟨h_1, rfl⟩
  · skip
    refine lv_if_eq (tgt := 19) hx hb dX4_open_5 (by decide) (fun c_2 => absurd c_2 (by decide)) (fun _ => ?_)
    refine lv_iload_n hx hb dX4_open_8 rfl (lv_at hl 2 rfl) ?_
    refine lv_iconst (v := 1) hx hb dX4_open_9 (by decide) ?_
    refine lv_sipush (v := 999) hx hb dX4_open_10 (by decide) ?_
    have hPc := hP.sub (ws' := []) [] rfl
    have hDc := hD.sub (ws' := []) [] (by decide) rfl
    have hFc := va_free (wc := []) hD hS hA [] rfl
    refine va_calli (va_runS (As := [.int o, .int 1, .int 999]) (rest := [.ref (b 0)]) ⟨hx, hb, hml, hown, hts⟩ (c_X4_isIn l D cA H.size o 1 999) (va_cwS 3 hts gX4_open_X4_isIn rfl rfl rfl (by decide +kernel) ⟨Nat.le_of_ble_eq_true rfl, Nat.le_of_ble_eq_true rfl⟩) ⟨zU_blind, fun U hU hW => ⟨rfl, zU_call hU hPc hW.alike hK hDc⟩⟩ rfl rfl hl.1 rfl (lv_room (Nat.le_of_ble_eq_true rfl)) dX4_open_13 ⟨(Nat.zero_le _), (Nat.zero_le _)⟩) hS (fun q _ h => hFc q h) hFc (fun zr u t H1 locs ht hvm hw hB hz1 hk1 hS => ?_)
    obtain ⟨hP1, hD1⟩ := hB
    rw [ht] at hP1
    obtain ⟨hP, hD⟩ := va_join (wr := [cM b mm]) (w1 := []) hP hD [] [0] rfl rfl (by decide) (by decide) hk1 hFc hP1 hD1
    generalize H1 = H at hP hS ⊢
    have hP := hP.sub (ws' := [cM b mm]) [0] rfl
    have hD := hD.sub (ws' := [cM b mm]) [0] (by decide) rfl
    clear hPc hDc hFc hP1 hD1 hk1 hz1
    have hw_3 := hw
    rcases z_bool hw with ⟨h_3, rfl⟩ | ⟨h_3, rfl⟩
    · skip
      refine lv_if_ne (tgt := 23) hx hb dX4_open_16 (by decide) (fun _ => ?_) (fun c_4 => absurd c_4 (by decide))
      exact absurd ⟨h_1, h_3⟩ hn
    · skip
      refine lv_if_ne (tgt := 23) hx hb dX4_open_16 (by decide) (fun c_5 => absurd c_5 (by decide)) (fun _ => ?_)
      refine lv_iconst (v := 1) hx hb dX4_open_19 (by decide) ?_
      refine lv_goto (tgt := 36) hx hb dX4_open_20 (by decide) ?_
      have hPc := hP.sub (ws' := [cM b mm]) [0] rfl
      have hDc := hD.sub (ws' := [cM b mm]) [0] (by decide) rfl
      have hFc := va_free (wc := [cM b mm]) hD hS hA [0] rfl
      refine va_calli (va_runV (As := [.int 1]) (rest := []) ⟨hx, hb, hml, hown, hts⟩ (c_X4_can l D cA H.size b mm 1) (cwV 1 hts gX4_open_X4_can rfl rfl rfl (by decide +kernel) ⟨Nat.le_of_ble_eq_true rfl, Nat.le_of_ble_eq_true rfl⟩) ⟨zU_blind, va_recv hK hPc (ci := 6) (q0 := 0) rfl rfl, fun U hU hW => ⟨rfl, zU_call hU hPc hW.alike hK hDc⟩⟩ rfl rfl hl.1 rfl (lv_room (Nat.le_of_ble_eq_true rfl)) dX4_open_36 ⟨(Nat.zero_le _), (Nat.zero_le _)⟩) hS (fun q _ h => hFc q h) hFc (fun zr u t H1 locs ht hvm hw hB hz1 hk1 hS => ?_)
      obtain ⟨mm'_6, rfl⟩ : ∃ z, z = u := ⟨_, rfl⟩
      obtain ⟨hP1, hD1⟩ := hB
      rw [ht] at hP1
      try dsimp only at hw hP1 hD1
      obtain ⟨hP, hD⟩ := va_join (wr := []) (w1 := [cM b mm'_6]) hP hD [0] [] rfl rfl (by decide) (by decide) hk1 hFc hP1 hD1
      generalize H1 = H at hP hS ⊢
      have hP := hP.sub (ws' := [cM b mm'_6]) [0] rfl
      have hD := hD.sub (ws' := [cM b mm'_6]) [0] (by decide) rfl
      clear hPc hDc hFc hP1 hD1 hk1 hz1
      obtain ⟨rfl, hw⟩ := hw
      have hw_6 := hw
      rcases z_bool hw with ⟨h_6, rfl⟩ | ⟨h_6, rfl⟩
      · exact absurd h_6 (by decide)
      · skip
        refine lv_if_eq (tgt := 107) hx hb dX4_open_39 (by decide) (fun _ => ?_) (fun c_7 => absurd c_7 (by decide))
        refine W.widen (k := 0) (n := 0) (by omega) (by omega) ?_
        exact W.vret hx hb hr (fun t ht hW => ⟨⟨((upd mm 6 1)), rfl, rfl, ⟨by rw [ht]; exact hP, by rw [hAe]; exact hD⟩⟩, hS.F ht⟩) hS.2.2 dX4_open_107
  · skip
    refine lv_if_eq (tgt := 19) hx hb dX4_open_5 (by decide) (fun _ => ?_) (fun c_8 => absurd c_8 (by decide))
    refine lv_iconst (v := 1) hx hb dX4_open_19 (by decide) ?_
    refine lv_goto (tgt := 36) hx hb dX4_open_20 (by decide) ?_
    have hPc := hP.sub (ws' := [cM b mm]) [0] rfl
    have hDc := hD.sub (ws' := [cM b mm]) [0] (by decide) rfl
    have hFc := va_free (wc := [cM b mm]) hD hS hA [0] rfl
    refine va_calli (va_runV (As := [.int 1]) (rest := []) ⟨hx, hb, hml, hown, hts⟩ (c_X4_can l D cA H.size b mm 1) (cwV 1 hts gX4_open_X4_can rfl rfl rfl (by decide +kernel) ⟨Nat.le_of_ble_eq_true rfl, Nat.le_of_ble_eq_true rfl⟩) ⟨zU_blind, va_recv hK hPc (ci := 6) (q0 := 0) rfl rfl, fun U hU hW => ⟨rfl, zU_call hU hPc hW.alike hK hDc⟩⟩ rfl rfl hl.1 rfl (lv_room (Nat.le_of_ble_eq_true rfl)) dX4_open_36 ⟨(Nat.zero_le _), (Nat.zero_le _)⟩) hS (fun q _ h => hFc q h) hFc (fun zr u t H1 locs ht hvm hw hB hz1 hk1 hS => ?_)
    obtain ⟨mm'_9, rfl⟩ : ∃ z, z = u := ⟨_, rfl⟩
    obtain ⟨hP1, hD1⟩ := hB
    rw [ht] at hP1
    try dsimp only at hw hP1 hD1
    obtain ⟨hP, hD⟩ := va_join (wr := []) (w1 := [cM b mm'_9]) hP hD [0] [] rfl rfl (by decide) (by decide) hk1 hFc hP1 hD1
    generalize H1 = H at hP hS ⊢
    have hP := hP.sub (ws' := [cM b mm'_9]) [0] rfl
    have hD := hD.sub (ws' := [cM b mm'_9]) [0] (by decide) rfl
    clear hPc hDc hFc hP1 hD1 hk1 hz1
    obtain ⟨rfl, hw⟩ := hw
    have hw_9 := hw
    rcases z_bool hw with ⟨h_9, rfl⟩ | ⟨h_9, rfl⟩
    · exact absurd h_9 (by decide)
    · skip
      refine lv_if_eq (tgt := 107) hx hb dX4_open_39 (by decide) (fun _ => ?_) (fun c_10 => absurd c_10 (by decide))
      refine W.widen (k := 0) (n := 0) (by omega) (by omega) ?_
      exact W.vret hx hb hr (fun t ht hW => ⟨⟨((upd mm 6 1)), rfl, rfl, ⟨by rw [ht]; exact hP, by rw [hAe]; exact hD⟩⟩, hS.F ht⟩) hS.2.2 dX4_open_107
set_option maxHeartbeats 4000000 in
set_option maxRecDepth 100000 in
/-- close(end) -/
theorem c_X4_close_k (l : Launch) (D : va_G) (cA : Nat → ClassId) (sz : Nat) (b : Nat → Nat) (mm : Nat → Int32) (ix : Nat) (QX QY : Qt) (xv yv : Nat → Int32) (sn : Nat → Int32) (hix : ix ≤ 1) (hqx : QX.1 ≤ 12) (hqy : QY.1 ≤ 12) (hup : sUp (xv 0)) : Met l yX4_close wsX4_close ({ frames := 2, cells := 0, slots := 0, locals := 50 }) (va_Pc [.ref (b 0), .int (nI ix)] (zU D cA sz [cM b mm, (b 9, .inl (cA 0, 2, .inl (t2 ix (xv 0) (yv 0)))), (b 10, .inl (cA 0, 2, .inl (t2 ix (xv 1) (yv 1)))), (b 11, .inl (cA 0, 2, .inl (t2 ix (xv 2) (yv 2)))), (b 12, .inl (cA 0, 2, .inl (t2 ix (xv 3) (yv 3)))), (b 13, .inl (cA 0, 2, .inl (t2 ix (xv 4) (yv 4)))), (b 14, .inl (cA 0, 2, .inl (t2 ix (xv 5) (yv 5)))), (b 15, .inl (cA 0, 2, .inl (t2 ix (xv 6) (yv 6)))), (b 16, .inl (cA 0, 2, .inl (t2 ix (nI QX.1) (nI QY.1)))), (b 17, .inl (cA 0, 24, .inl (bk 12 ix (qc QX 0) (qc QY 0)))), (b 18, .inl (cA 0, 24, .inl (bk 12 ix (qc QX 1) (qc QY 1)))), (b 19, .inl (cA 0, 24, .inl (bk 12 ix (qc QX 2) (qc QY 2)))), (b 20, .inl (cA 0, 96, .inl (bk 48 ix (qw QX) (qw QY)))), (b 22, .inl (cA 0, 4, .inl sn))])) (va_Qv (fun (u : ((Nat → Int32) × Qt × Qt × (Nat → Int32))) => u.1 = upd (upd (upd xv 0 5) 6 1) 4 2 ∧ u.2.1 = (sq (mm 0) (pk 4 0 0 nB) QX QY).1 ∧ u.2.2.1 = (sq (mm 0) (pk 4 0 0 nB) QX QY).2 ∧ u.2.2.2 = upd (upd mm 6 0) 5 (mm 5 + 1)) (fun (u : ((Nat → Int32) × Qt × Qt × (Nat → Int32))) t => zB D [cM b mm, (b 9, .inl (cA 0, 2, .inl (t2 ix (xv 0) (yv 0)))), (b 10, .inl (cA 0, 2, .inl (t2 ix (xv 1) (yv 1)))), (b 11, .inl (cA 0, 2, .inl (t2 ix (xv 2) (yv 2)))), (b 12, .inl (cA 0, 2, .inl (t2 ix (xv 3) (yv 3)))), (b 13, .inl (cA 0, 2, .inl (t2 ix (xv 4) (yv 4)))), (b 14, .inl (cA 0, 2, .inl (t2 ix (xv 5) (yv 5)))), (b 15, .inl (cA 0, 2, .inl (t2 ix (xv 6) (yv 6)))), (b 16, .inl (cA 0, 2, .inl (t2 ix (nI QX.1) (nI QY.1)))), (b 17, .inl (cA 0, 24, .inl (bk 12 ix (qc QX 0) (qc QY 0)))), (b 18, .inl (cA 0, 24, .inl (bk 12 ix (qc QX 1) (qc QY 1)))), (b 19, .inl (cA 0, 24, .inl (bk 12 ix (qc QX 2) (qc QY 2)))), (b 20, .inl (cA 0, 96, .inl (bk 48 ix (qw QX) (qw QY)))), (b 22, .inl (cA 0, 4, .inl sn))] sz [cM b u.2.2.2, (b 9, .inl (cA 0, 2, .inl (t2 ix (u.1 0) (yv 0)))), (b 10, .inl (cA 0, 2, .inl (t2 ix (u.1 1) (yv 1)))), (b 11, .inl (cA 0, 2, .inl (t2 ix (u.1 2) (yv 2)))), (b 12, .inl (cA 0, 2, .inl (t2 ix (u.1 3) (yv 3)))), (b 13, .inl (cA 0, 2, .inl (t2 ix (u.1 4) (yv 4)))), (b 14, .inl (cA 0, 2, .inl (t2 ix (u.1 5) (yv 5)))), (b 15, .inl (cA 0, 2, .inl (t2 ix (u.1 6) (yv 6)))), (b 16, .inl (cA 0, 2, .inl (t2 ix (nI u.2.1.1) (nI u.2.2.1.1)))), (b 17, .inl (cA 0, 24, .inl (bk 12 ix (qc u.2.1 0) (qc u.2.2.1 0)))), (b 18, .inl (cA 0, 24, .inl (bk 12 ix (qc u.2.1 1) (qc u.2.2.1 1)))), (b 19, .inl (cA 0, 24, .inl (bk 12 ix (qc u.2.1 2) (qc u.2.2.1 2)))), (b 20, .inl (cA 0, 96, .inl (bk 48 ix (qw u.2.1) (qw u.2.2.1)))), (b 22, .inl (cA 0, 4, .inl nB))] t) (va_A [cM b mm, (b 9, .inl (cA 0, 2, .inl (t2 ix (xv 0) (yv 0)))), (b 10, .inl (cA 0, 2, .inl (t2 ix (xv 1) (yv 1)))), (b 11, .inl (cA 0, 2, .inl (t2 ix (xv 2) (yv 2)))), (b 12, .inl (cA 0, 2, .inl (t2 ix (xv 3) (yv 3)))), (b 13, .inl (cA 0, 2, .inl (t2 ix (xv 4) (yv 4)))), (b 14, .inl (cA 0, 2, .inl (t2 ix (xv 5) (yv 5)))), (b 15, .inl (cA 0, 2, .inl (t2 ix (xv 6) (yv 6)))), (b 16, .inl (cA 0, 2, .inl (t2 ix (nI QX.1) (nI QY.1)))), (b 17, .inl (cA 0, 24, .inl (bk 12 ix (qc QX 0) (qc QY 0)))), (b 18, .inl (cA 0, 24, .inl (bk 12 ix (qc QX 1) (qc QY 1)))), (b 19, .inl (cA 0, 24, .inl (bk 12 ix (qc QX 2) (qc QY 2)))), (b 20, .inl (cA 0, 96, .inl (bk 48 ix (qw QX) (qw QY)))), (b 22, .inl (cA 0, 4, .inl sn))] sz)) 0 0 (va_A [cM b mm, (b 9, .inl (cA 0, 2, .inl (t2 ix (xv 0) (yv 0)))), (b 10, .inl (cA 0, 2, .inl (t2 ix (xv 1) (yv 1)))), (b 11, .inl (cA 0, 2, .inl (t2 ix (xv 2) (yv 2)))), (b 12, .inl (cA 0, 2, .inl (t2 ix (xv 3) (yv 3)))), (b 13, .inl (cA 0, 2, .inl (t2 ix (xv 4) (yv 4)))), (b 14, .inl (cA 0, 2, .inl (t2 ix (xv 5) (yv 5)))), (b 15, .inl (cA 0, 2, .inl (t2 ix (xv 6) (yv 6)))), (b 16, .inl (cA 0, 2, .inl (t2 ix (nI QX.1) (nI QY.1)))), (b 17, .inl (cA 0, 24, .inl (bk 12 ix (qc QX 0) (qc QY 0)))), (b 18, .inl (cA 0, 24, .inl (bk 12 ix (qc QX 1) (qc QY 1)))), (b 19, .inl (cA 0, 24, .inl (bk 12 ix (qc QX 2) (qc QY 2)))), (b 20, .inl (cA 0, 96, .inl (bk 48 ix (qw QX) (qw QY)))), (b 22, .inl (cA 0, 4, .inl sn))] sz) := by
  refine Met.ofW (cc := cX4_close) (maxL := 2) (ret := none) (by decide) rfl ?_
  intro p e s m args below meth c s₁ B hml hv
  obtain ⟨rfl, hsz, hP, hK, hD0⟩ := hv
  have hx := B.exec
  have hb := B.bytes
  have hr := B.returns
  have hts := atoms_spec (ws := wsX4_close) B.pre
  have hown : s.vm.findClass RX4 = some m.cls := findClass_of_methodNamed B.named
  have hlocks := B.notSynchronized
  subst hsz
  have hD := hD0.self (sz := s.heap.size)
  generalize hAe : va_A [cM b mm, (b 9, .inl (cA 0, 2, .inl (t2 ix (xv 0) (yv 0)))), (b 10, .inl (cA 0, 2, .inl (t2 ix (xv 1) (yv 1)))), (b 11, .inl (cA 0, 2, .inl (t2 ix (xv 2) (yv 2)))), (b 12, .inl (cA 0, 2, .inl (t2 ix (xv 3) (yv 3)))), (b 13, .inl (cA 0, 2, .inl (t2 ix (xv 4) (yv 4)))), (b 14, .inl (cA 0, 2, .inl (t2 ix (xv 5) (yv 5)))), (b 15, .inl (cA 0, 2, .inl (t2 ix (xv 6) (yv 6)))), (b 16, .inl (cA 0, 2, .inl (t2 ix (nI QX.1) (nI QY.1)))), (b 17, .inl (cA 0, 24, .inl (bk 12 ix (qc QX 0) (qc QY 0)))), (b 18, .inl (cA 0, 24, .inl (bk 12 ix (qc QX 1) (qc QY 1)))), (b 19, .inl (cA 0, 24, .inl (bk 12 ix (qc QX 2) (qc QY 2)))), (b 20, .inl (cA 0, 96, .inl (bk 48 ix (qw QX) (qw QY)))), (b 22, .inl (cA 0, 4, .inl sn))] s.heap.size = A at hD ⊢
  have hA : ∀ q : Nat, s.heap.size ≤ q → A q := fun q h => by rw [← hAe]; exact Or.inr h
  have hS : va_S A s.heap s.heap [] := va_S.rf
  have hl := lv_entry ([.ref (b 0), .int (nI ix)]) (n := 2) (Nat.le_of_ble_eq_true rfl)
  rw [lg_entry_eq]
  generalize (lg_sl ([.ref (b 0), .int (nI ix)]) ++ List.replicate (2 - (lg_sl ([.ref (b 0), .int (nI ix)])).length) Slot.unset).toArray = ls at hl ⊢
  have hl : lv_has ls 2 [(0, .ref (b 0)), (1, .int (nI ix))] := hl
  refine lv_aload_n hx hb dX4_close_0 rfl (lv_at hl 0 rfl) ?_
  refine lv_iload_n hx hb dX4_close_1 rfl (lv_at hl 1 rfl) ?_
  have hPc := hP.sub (ws' := []) [] rfl
  have hDc := hD.sub (ws' := []) [] (by decide) rfl
  have hFc := va_free (wc := []) hD hS hA [] rfl
  refine va_calli (va_runS (As := [.int (nI ix)]) (rest := [.ref (b 0)]) ⟨hx, hb, hml, hown, hts⟩ (c_X4_isEnd l D cA s.heap.size (nI ix)) (va_cwS 1 hts gX4_close_X4_isEnd rfl rfl rfl (by decide +kernel) ⟨Nat.le_of_ble_eq_true rfl, Nat.le_of_ble_eq_true rfl⟩) ⟨zU_blind, fun U hU hW => ⟨rfl, zU_call hU hPc hW.alike hK hDc⟩⟩ rfl rfl hl.1 rfl (lv_room (Nat.le_of_ble_eq_true rfl)) dX4_close_2 ⟨(Nat.zero_le _), (Nat.zero_le _)⟩) hS (fun q _ h => hFc q h) hFc (fun zr u t H1 locs ht hvm hw hB hz1 hk1 hS => ?_)
  obtain ⟨hP1, hD1⟩ := hB
  rw [ht] at hP1
  obtain ⟨hP, hD⟩ := va_join (wr := [cM b mm, (b 9, .inl (cA 0, 2, .inl (t2 ix (xv 0) (yv 0)))), (b 10, .inl (cA 0, 2, .inl (t2 ix (xv 1) (yv 1)))), (b 11, .inl (cA 0, 2, .inl (t2 ix (xv 2) (yv 2)))), (b 12, .inl (cA 0, 2, .inl (t2 ix (xv 3) (yv 3)))), (b 13, .inl (cA 0, 2, .inl (t2 ix (xv 4) (yv 4)))), (b 14, .inl (cA 0, 2, .inl (t2 ix (xv 5) (yv 5)))), (b 15, .inl (cA 0, 2, .inl (t2 ix (xv 6) (yv 6)))), (b 16, .inl (cA 0, 2, .inl (t2 ix (nI QX.1) (nI QY.1)))), (b 17, .inl (cA 0, 24, .inl (bk 12 ix (qc QX 0) (qc QY 0)))), (b 18, .inl (cA 0, 24, .inl (bk 12 ix (qc QX 1) (qc QY 1)))), (b 19, .inl (cA 0, 24, .inl (bk 12 ix (qc QX 2) (qc QY 2)))), (b 20, .inl (cA 0, 96, .inl (bk 48 ix (qw QX) (qw QY)))), (b 22, .inl (cA 0, 4, .inl sn))]) (w1 := []) hP hD [] [0, 1, 2, 3, 4, 5, 6, 7, 8, 9, 10, 11, 12, 13] rfl rfl (by decide) (by decide) hk1 hFc hP1 hD1
  generalize H1 = H at hP hS ⊢
  have hP := hP.sub (ws' := [cM b mm, (b 9, .inl (cA 0, 2, .inl (t2 ix (xv 0) (yv 0)))), (b 10, .inl (cA 0, 2, .inl (t2 ix (xv 1) (yv 1)))), (b 11, .inl (cA 0, 2, .inl (t2 ix (xv 2) (yv 2)))), (b 12, .inl (cA 0, 2, .inl (t2 ix (xv 3) (yv 3)))), (b 13, .inl (cA 0, 2, .inl (t2 ix (xv 4) (yv 4)))), (b 14, .inl (cA 0, 2, .inl (t2 ix (xv 5) (yv 5)))), (b 15, .inl (cA 0, 2, .inl (t2 ix (xv 6) (yv 6)))), (b 16, .inl (cA 0, 2, .inl (t2 ix (nI QX.1) (nI QY.1)))), (b 17, .inl (cA 0, 24, .inl (bk 12 ix (qc QX 0) (qc QY 0)))), (b 18, .inl (cA 0, 24, .inl (bk 12 ix (qc QX 1) (qc QY 1)))), (b 19, .inl (cA 0, 24, .inl (bk 12 ix (qc QX 2) (qc QY 2)))), (b 20, .inl (cA 0, 96, .inl (bk 48 ix (qw QX) (qw QY)))), (b 22, .inl (cA 0, 4, .inl sn))]) [0, 1, 2, 3, 4, 5, 6, 7, 8, 9, 10, 11, 12, 13] rfl
  have hD := hD.sub (ws' := [cM b mm, (b 9, .inl (cA 0, 2, .inl (t2 ix (xv 0) (yv 0)))), (b 10, .inl (cA 0, 2, .inl (t2 ix (xv 1) (yv 1)))), (b 11, .inl (cA 0, 2, .inl (t2 ix (xv 2) (yv 2)))), (b 12, .inl (cA 0, 2, .inl (t2 ix (xv 3) (yv 3)))), (b 13, .inl (cA 0, 2, .inl (t2 ix (xv 4) (yv 4)))), (b 14, .inl (cA 0, 2, .inl (t2 ix (xv 5) (yv 5)))), (b 15, .inl (cA 0, 2, .inl (t2 ix (xv 6) (yv 6)))), (b 16, .inl (cA 0, 2, .inl (t2 ix (nI QX.1) (nI QY.1)))), (b 17, .inl (cA 0, 24, .inl (bk 12 ix (qc QX 0) (qc QY 0)))), (b 18, .inl (cA 0, 24, .inl (bk 12 ix (qc QX 1) (qc QY 1)))), (b 19, .inl (cA 0, 24, .inl (bk 12 ix (qc QX 2) (qc QY 2)))), (b 20, .inl (cA 0, 96, .inl (bk 48 ix (qw QX) (qw QY)))), (b 22, .inl (cA 0, 4, .inl sn))]) [0, 1, 2, 3, 4, 5, 6, 7, 8, 9, 10, 11, 12, 13] (by decide) rfl
  clear hPc hDc hFc hP1 hD1 hk1 hz1
  have hw_1 := hw
  rcases z_bool hw with ⟨h_1, rfl⟩ | ⟨h_1, rfl⟩
  · skip
    refine lv_if_ne (tgt := 12) hx hb dX4_close_5 (by decide) (fun _ => ?_) (fun c_2 => absurd c_2 (by decide))
    refine lv_aload_n hx hb dX4_close_12 rfl (lv_at hl 0 rfl) ?_
    refine lv_iload_n hx hb dX4_close_13 rfl (lv_at hl 1 rfl) ?_
    have hPc := hP.sub (ws' := [cM b mm, (b 9, .inl (cA 0, 2, .inl (t2 ix (xv 0) (yv 0))))]) [0, 1] rfl
    have hDc := hD.sub (ws' := [cM b mm, (b 9, .inl (cA 0, 2, .inl (t2 ix (xv 0) (yv 0))))]) [0, 1] (by decide) rfl
    have hFc := va_free (wc := [cM b mm, (b 9, .inl (cA 0, 2, .inl (t2 ix (xv 0) (yv 0))))]) hD hS hA [0, 1] rfl
    refine va_calli (va_runV (As := [.int (nI ix)]) (rest := [.ref (b 0)]) ⟨hx, hb, hml, hown, hts⟩ (c_X4_isShut l D cA H.size b mm ix (xv 0) (yv 0) (by assumption)) (cwV 1 hts gX4_close_X4_isShut rfl rfl rfl (by decide +kernel) ⟨Nat.le_of_ble_eq_true rfl, Nat.le_of_ble_eq_true rfl⟩) ⟨zU_blind, va_recv hK hPc (ci := 6) (q0 := 0) rfl rfl, fun U hU hW => ⟨rfl, zU_call hU hPc hW.alike hK hDc⟩⟩ rfl rfl hl.1 rfl (lv_room (Nat.le_of_ble_eq_true rfl)) dX4_close_14 ⟨(Nat.zero_le _), (Nat.zero_le _)⟩) hS (fun q _ h => hFc q h) hFc (fun zr u t H1 locs ht hvm hw hB hz1 hk1 hS => ?_)
    obtain ⟨hP1, hD1⟩ := hB
    rw [ht] at hP1
    obtain ⟨hP, hD⟩ := va_join (wr := [(b 10, .inl (cA 0, 2, .inl (t2 ix (xv 1) (yv 1)))), (b 11, .inl (cA 0, 2, .inl (t2 ix (xv 2) (yv 2)))), (b 12, .inl (cA 0, 2, .inl (t2 ix (xv 3) (yv 3)))), (b 13, .inl (cA 0, 2, .inl (t2 ix (xv 4) (yv 4)))), (b 14, .inl (cA 0, 2, .inl (t2 ix (xv 5) (yv 5)))), (b 15, .inl (cA 0, 2, .inl (t2 ix (xv 6) (yv 6)))), (b 16, .inl (cA 0, 2, .inl (t2 ix (nI QX.1) (nI QY.1)))), (b 17, .inl (cA 0, 24, .inl (bk 12 ix (qc QX 0) (qc QY 0)))), (b 18, .inl (cA 0, 24, .inl (bk 12 ix (qc QX 1) (qc QY 1)))), (b 19, .inl (cA 0, 24, .inl (bk 12 ix (qc QX 2) (qc QY 2)))), (b 20, .inl (cA 0, 96, .inl (bk 48 ix (qw QX) (qw QY)))), (b 22, .inl (cA 0, 4, .inl sn))]) (w1 := [cM b mm, (b 9, .inl (cA 0, 2, .inl (t2 ix (xv 0) (yv 0))))]) hP hD [0, 1] [2, 3, 4, 5, 6, 7, 8, 9, 10, 11, 12, 13] rfl rfl (by decide) (by decide) hk1 hFc hP1 hD1
    generalize H1 = H at hP hS ⊢
    have hP := hP.sub (ws' := [cM b mm, (b 9, .inl (cA 0, 2, .inl (t2 ix (xv 0) (yv 0)))), (b 10, .inl (cA 0, 2, .inl (t2 ix (xv 1) (yv 1)))), (b 11, .inl (cA 0, 2, .inl (t2 ix (xv 2) (yv 2)))), (b 12, .inl (cA 0, 2, .inl (t2 ix (xv 3) (yv 3)))), (b 13, .inl (cA 0, 2, .inl (t2 ix (xv 4) (yv 4)))), (b 14, .inl (cA 0, 2, .inl (t2 ix (xv 5) (yv 5)))), (b 15, .inl (cA 0, 2, .inl (t2 ix (xv 6) (yv 6)))), (b 16, .inl (cA 0, 2, .inl (t2 ix (nI QX.1) (nI QY.1)))), (b 17, .inl (cA 0, 24, .inl (bk 12 ix (qc QX 0) (qc QY 0)))), (b 18, .inl (cA 0, 24, .inl (bk 12 ix (qc QX 1) (qc QY 1)))), (b 19, .inl (cA 0, 24, .inl (bk 12 ix (qc QX 2) (qc QY 2)))), (b 20, .inl (cA 0, 96, .inl (bk 48 ix (qw QX) (qw QY)))), (b 22, .inl (cA 0, 4, .inl sn))]) [12, 13, 0, 1, 2, 3, 4, 5, 6, 7, 8, 9, 10, 11] rfl
    have hD := hD.sub (ws' := [cM b mm, (b 9, .inl (cA 0, 2, .inl (t2 ix (xv 0) (yv 0)))), (b 10, .inl (cA 0, 2, .inl (t2 ix (xv 1) (yv 1)))), (b 11, .inl (cA 0, 2, .inl (t2 ix (xv 2) (yv 2)))), (b 12, .inl (cA 0, 2, .inl (t2 ix (xv 3) (yv 3)))), (b 13, .inl (cA 0, 2, .inl (t2 ix (xv 4) (yv 4)))), (b 14, .inl (cA 0, 2, .inl (t2 ix (xv 5) (yv 5)))), (b 15, .inl (cA 0, 2, .inl (t2 ix (xv 6) (yv 6)))), (b 16, .inl (cA 0, 2, .inl (t2 ix (nI QX.1) (nI QY.1)))), (b 17, .inl (cA 0, 24, .inl (bk 12 ix (qc QX 0) (qc QY 0)))), (b 18, .inl (cA 0, 24, .inl (bk 12 ix (qc QX 1) (qc QY 1)))), (b 19, .inl (cA 0, 24, .inl (bk 12 ix (qc QX 2) (qc QY 2)))), (b 20, .inl (cA 0, 96, .inl (bk 48 ix (qw QX) (qw QY)))), (b 22, .inl (cA 0, 4, .inl sn))]) [12, 13, 0, 1, 2, 3, 4, 5, 6, 7, 8, 9, 10, 11] (by decide) rfl
    clear hPc hDc hFc hP1 hD1 hk1 hz1
    have hw_3 := hw
    rcases z_bool hw with ⟨h_3, rfl⟩ | ⟨h_3, rfl⟩
    · exact absurd h_3 hup.1
    · skip
      refine lv_if_ne (tgt := 30) hx hb dX4_close_17 (by decide) (fun c_4 => absurd c_4 (by decide)) (fun _ => ?_)
      refine lv_aload_n hx hb dX4_close_20 rfl (lv_at hl 0 rfl) ?_
      refine va_get (D := D) (ci := 6) (v := .ref (b 9)) (C := RX4) (T := TX4) (N := 29) hx hb hts (fun _ h => List.mem_cons_of_mem _ (List.mem_append_right _ (h))) hown hK hP 0 rfl rfl 10 (by decide) (hts (.fieldLink RX4 35 "OptionWireModel" "states" "[I") (List.mem_of_getElem? (i := 1) rfl)) (fun _ h9 => h9) rfl dX4_close_21 ?_
      refine lv_iload_n hx hb dX4_close_24 rfl (lv_at hl 1 rfl) ?_
      refine z_iald (k := ix) (v := (xv 0)) hx hb hK hP 1 0 rfl rfl rfl (by omega) (by decide) t2_x dX4_close_25 ?_
      refine lv_iconst (v := 5) hx hb dX4_close_26 (by decide) ?_
      refine lv_icmp_ne (tgt := 34) hx hb dX4_close_27 (by decide) (fun c_5 => ?_) (fun c_5 => ?_)
      · skip
        refine lv_iconst (v := 0) hx hb dX4_close_34 (by decide) ?_
        have hPc := hP.sub (ws' := [cM b mm]) [0] rfl
        have hDc := hD.sub (ws' := [cM b mm]) [0] (by decide) rfl
        have hFc := va_free (wc := [cM b mm]) hD hS hA [0] rfl
        refine va_calli (va_runV (As := [.int 0]) (rest := []) ⟨hx, hb, hml, hown, hts⟩ (c_X4_can l D cA H.size b mm 0) (cwV 1 hts gX4_close_X4_can rfl rfl rfl (by decide +kernel) ⟨Nat.le_of_ble_eq_true rfl, Nat.le_of_ble_eq_true rfl⟩) ⟨zU_blind, va_recv hK hPc (ci := 6) (q0 := 0) rfl rfl, fun U hU hW => ⟨rfl, zU_call hU hPc hW.alike hK hDc⟩⟩ rfl rfl hl.1 rfl (lv_room (Nat.le_of_ble_eq_true rfl)) dX4_close_35 ⟨(Nat.zero_le _), (Nat.zero_le _)⟩) hS (fun q _ h => hFc q h) hFc (fun zr u t H1 locs ht hvm hw hB hz1 hk1 hS => ?_)
        obtain ⟨mm'_6, rfl⟩ : ∃ z, z = u := ⟨_, rfl⟩
        obtain ⟨hP1, hD1⟩ := hB
        rw [ht] at hP1
        try dsimp only at hw hP1 hD1
        obtain ⟨hP, hD⟩ := va_join (wr := [(b 9, .inl (cA 0, 2, .inl (t2 ix (xv 0) (yv 0)))), (b 10, .inl (cA 0, 2, .inl (t2 ix (xv 1) (yv 1)))), (b 11, .inl (cA 0, 2, .inl (t2 ix (xv 2) (yv 2)))), (b 12, .inl (cA 0, 2, .inl (t2 ix (xv 3) (yv 3)))), (b 13, .inl (cA 0, 2, .inl (t2 ix (xv 4) (yv 4)))), (b 14, .inl (cA 0, 2, .inl (t2 ix (xv 5) (yv 5)))), (b 15, .inl (cA 0, 2, .inl (t2 ix (xv 6) (yv 6)))), (b 16, .inl (cA 0, 2, .inl (t2 ix (nI QX.1) (nI QY.1)))), (b 17, .inl (cA 0, 24, .inl (bk 12 ix (qc QX 0) (qc QY 0)))), (b 18, .inl (cA 0, 24, .inl (bk 12 ix (qc QX 1) (qc QY 1)))), (b 19, .inl (cA 0, 24, .inl (bk 12 ix (qc QX 2) (qc QY 2)))), (b 20, .inl (cA 0, 96, .inl (bk 48 ix (qw QX) (qw QY)))), (b 22, .inl (cA 0, 4, .inl sn))]) (w1 := [cM b mm'_6]) hP hD [0] [1, 2, 3, 4, 5, 6, 7, 8, 9, 10, 11, 12, 13] rfl rfl (by decide) (by decide) hk1 hFc hP1 hD1
        generalize H1 = H at hP hS ⊢
        have hP := hP.sub (ws' := [cM b mm'_6, (b 9, .inl (cA 0, 2, .inl (t2 ix (xv 0) (yv 0)))), (b 10, .inl (cA 0, 2, .inl (t2 ix (xv 1) (yv 1)))), (b 11, .inl (cA 0, 2, .inl (t2 ix (xv 2) (yv 2)))), (b 12, .inl (cA 0, 2, .inl (t2 ix (xv 3) (yv 3)))), (b 13, .inl (cA 0, 2, .inl (t2 ix (xv 4) (yv 4)))), (b 14, .inl (cA 0, 2, .inl (t2 ix (xv 5) (yv 5)))), (b 15, .inl (cA 0, 2, .inl (t2 ix (xv 6) (yv 6)))), (b 16, .inl (cA 0, 2, .inl (t2 ix (nI QX.1) (nI QY.1)))), (b 17, .inl (cA 0, 24, .inl (bk 12 ix (qc QX 0) (qc QY 0)))), (b 18, .inl (cA 0, 24, .inl (bk 12 ix (qc QX 1) (qc QY 1)))), (b 19, .inl (cA 0, 24, .inl (bk 12 ix (qc QX 2) (qc QY 2)))), (b 20, .inl (cA 0, 96, .inl (bk 48 ix (qw QX) (qw QY)))), (b 22, .inl (cA 0, 4, .inl sn))]) [13, 0, 1, 2, 3, 4, 5, 6, 7, 8, 9, 10, 11, 12] rfl
        have hD := hD.sub (ws' := [cM b mm'_6, (b 9, .inl (cA 0, 2, .inl (t2 ix (xv 0) (yv 0)))), (b 10, .inl (cA 0, 2, .inl (t2 ix (xv 1) (yv 1)))), (b 11, .inl (cA 0, 2, .inl (t2 ix (xv 2) (yv 2)))), (b 12, .inl (cA 0, 2, .inl (t2 ix (xv 3) (yv 3)))), (b 13, .inl (cA 0, 2, .inl (t2 ix (xv 4) (yv 4)))), (b 14, .inl (cA 0, 2, .inl (t2 ix (xv 5) (yv 5)))), (b 15, .inl (cA 0, 2, .inl (t2 ix (xv 6) (yv 6)))), (b 16, .inl (cA 0, 2, .inl (t2 ix (nI QX.1) (nI QY.1)))), (b 17, .inl (cA 0, 24, .inl (bk 12 ix (qc QX 0) (qc QY 0)))), (b 18, .inl (cA 0, 24, .inl (bk 12 ix (qc QX 1) (qc QY 1)))), (b 19, .inl (cA 0, 24, .inl (bk 12 ix (qc QX 2) (qc QY 2)))), (b 20, .inl (cA 0, 96, .inl (bk 48 ix (qw QX) (qw QY)))), (b 22, .inl (cA 0, 4, .inl sn))]) [13, 0, 1, 2, 3, 4, 5, 6, 7, 8, 9, 10, 11, 12] (by decide) rfl
        clear hPc hDc hFc hP1 hD1 hk1 hz1
        obtain ⟨rfl, hw⟩ := hw
        have hw_6 := hw
        rcases z_bool hw with ⟨h_6, rfl⟩ | ⟨h_6, rfl⟩
        · skip
          refine lv_if_eq (tgt := 68) hx hb dX4_close_38 (by decide) (fun c_7 => absurd c_7 (by decide)) (fun _ => ?_)
          refine lv_aload_n hx hb dX4_close_41 rfl (lv_at hl 0 rfl) ?_
          refine va_get (D := D) (ci := 6) (v := .ref (b 9)) (C := RX4) (T := TX4) (N := 29) hx hb hts (fun _ h => List.mem_cons_of_mem _ (List.mem_append_right _ (h))) hown hK hP 0 rfl rfl 10 (by decide) (hts (.fieldLink RX4 35 "OptionWireModel" "states" "[I") (List.mem_of_getElem? (i := 1) rfl)) (fun _ h9 => h9) rfl dX4_close_42 ?_
          refine lv_iload_n hx hb dX4_close_45 rfl (lv_at hl 1 rfl) ?_
          refine lv_iconst (v := 5) hx hb dX4_close_46 (by decide) ?_
          refine z_iast (k := ix) hx hb hK hP hD hS 1 0 rfl rfl rfl (by omega) (by decide) dX4_close_47 (fun H locs hP hD hS => ?_)
          have hP : va_P D vwCl [cM b (upd mm 6 0), (b 9, .inl (cA 0, 2, .inl (upd (t2 ix (xv 0) (yv 0)) ix 5))), (b 10, .inl (cA 0, 2, .inl (t2 ix (xv 1) (yv 1)))), (b 11, .inl (cA 0, 2, .inl (t2 ix (xv 2) (yv 2)))), (b 12, .inl (cA 0, 2, .inl (t2 ix (xv 3) (yv 3)))), (b 13, .inl (cA 0, 2, .inl (t2 ix (xv 4) (yv 4)))), (b 14, .inl (cA 0, 2, .inl (t2 ix (xv 5) (yv 5)))), (b 15, .inl (cA 0, 2, .inl (t2 ix (xv 6) (yv 6)))), (b 16, .inl (cA 0, 2, .inl (t2 ix (nI QX.1) (nI QY.1)))), (b 17, .inl (cA 0, 24, .inl (bk 12 ix (qc QX 0) (qc QY 0)))), (b 18, .inl (cA 0, 24, .inl (bk 12 ix (qc QX 1) (qc QY 1)))), (b 19, .inl (cA 0, 24, .inl (bk 12 ix (qc QX 2) (qc QY 2)))), (b 20, .inl (cA 0, 96, .inl (bk 48 ix (qw QX) (qw QY)))), (b 22, .inl (cA 0, 4, .inl sn))] H := hP
          have hD : va_D A [cM b (upd mm 6 0), (b 9, .inl (cA 0, 2, .inl (upd (t2 ix (xv 0) (yv 0)) ix 5))), (b 10, .inl (cA 0, 2, .inl (t2 ix (xv 1) (yv 1)))), (b 11, .inl (cA 0, 2, .inl (t2 ix (xv 2) (yv 2)))), (b 12, .inl (cA 0, 2, .inl (t2 ix (xv 3) (yv 3)))), (b 13, .inl (cA 0, 2, .inl (t2 ix (xv 4) (yv 4)))), (b 14, .inl (cA 0, 2, .inl (t2 ix (xv 5) (yv 5)))), (b 15, .inl (cA 0, 2, .inl (t2 ix (xv 6) (yv 6)))), (b 16, .inl (cA 0, 2, .inl (t2 ix (nI QX.1) (nI QY.1)))), (b 17, .inl (cA 0, 24, .inl (bk 12 ix (qc QX 0) (qc QY 0)))), (b 18, .inl (cA 0, 24, .inl (bk 12 ix (qc QX 1) (qc QY 1)))), (b 19, .inl (cA 0, 24, .inl (bk 12 ix (qc QX 2) (qc QY 2)))), (b 20, .inl (cA 0, 96, .inl (bk 48 ix (qw QX) (qw QY)))), (b 22, .inl (cA 0, 4, .inl sn))] := hD
          rw [show upd (t2 ix (xv 0) (yv 0)) ix 5 = t2 ix 5 (yv 0) from t2_ux] at hP hD
          refine lv_aload_n hx hb dX4_close_48 rfl (lv_at hl 0 rfl) ?_
          refine va_get (D := D) (ci := 6) (v := .ref (b 15)) (C := RX4) (T := TX4) (N := 29) hx hb hts (fun _ h => List.mem_cons_of_mem _ (List.mem_append_right _ (h))) hown hK hP 0 rfl rfl 16 (by decide) (hts (.fieldLink RX4 53 "OptionWireModel" "byes" "[I") (List.mem_of_getElem? (i := 2) rfl)) (fun _ h9 => h9) rfl dX4_close_49 ?_
          refine lv_iload_n hx hb dX4_close_52 rfl (lv_at hl 1 rfl) ?_
          refine lv_iconst (v := 1) hx hb dX4_close_53 (by decide) ?_
          refine z_iast (k := ix) hx hb hK hP hD hS 7 0 rfl rfl rfl (by omega) (by decide) dX4_close_54 (fun H locs hP hD hS => ?_)
          have hP : va_P D vwCl [cM b (upd mm 6 0), (b 9, .inl (cA 0, 2, .inl (t2 ix 5 (yv 0)))), (b 10, .inl (cA 0, 2, .inl (t2 ix (xv 1) (yv 1)))), (b 11, .inl (cA 0, 2, .inl (t2 ix (xv 2) (yv 2)))), (b 12, .inl (cA 0, 2, .inl (t2 ix (xv 3) (yv 3)))), (b 13, .inl (cA 0, 2, .inl (t2 ix (xv 4) (yv 4)))), (b 14, .inl (cA 0, 2, .inl (t2 ix (xv 5) (yv 5)))), (b 15, .inl (cA 0, 2, .inl (upd (t2 ix (xv 6) (yv 6)) ix 1))), (b 16, .inl (cA 0, 2, .inl (t2 ix (nI QX.1) (nI QY.1)))), (b 17, .inl (cA 0, 24, .inl (bk 12 ix (qc QX 0) (qc QY 0)))), (b 18, .inl (cA 0, 24, .inl (bk 12 ix (qc QX 1) (qc QY 1)))), (b 19, .inl (cA 0, 24, .inl (bk 12 ix (qc QX 2) (qc QY 2)))), (b 20, .inl (cA 0, 96, .inl (bk 48 ix (qw QX) (qw QY)))), (b 22, .inl (cA 0, 4, .inl sn))] H := hP
          have hD : va_D A [cM b (upd mm 6 0), (b 9, .inl (cA 0, 2, .inl (t2 ix 5 (yv 0)))), (b 10, .inl (cA 0, 2, .inl (t2 ix (xv 1) (yv 1)))), (b 11, .inl (cA 0, 2, .inl (t2 ix (xv 2) (yv 2)))), (b 12, .inl (cA 0, 2, .inl (t2 ix (xv 3) (yv 3)))), (b 13, .inl (cA 0, 2, .inl (t2 ix (xv 4) (yv 4)))), (b 14, .inl (cA 0, 2, .inl (t2 ix (xv 5) (yv 5)))), (b 15, .inl (cA 0, 2, .inl (upd (t2 ix (xv 6) (yv 6)) ix 1))), (b 16, .inl (cA 0, 2, .inl (t2 ix (nI QX.1) (nI QY.1)))), (b 17, .inl (cA 0, 24, .inl (bk 12 ix (qc QX 0) (qc QY 0)))), (b 18, .inl (cA 0, 24, .inl (bk 12 ix (qc QX 1) (qc QY 1)))), (b 19, .inl (cA 0, 24, .inl (bk 12 ix (qc QX 2) (qc QY 2)))), (b 20, .inl (cA 0, 96, .inl (bk 48 ix (qw QX) (qw QY)))), (b 22, .inl (cA 0, 4, .inl sn))] := hD
          rw [show upd (t2 ix (xv 6) (yv 6)) ix 1 = t2 ix 1 (yv 6) from t2_ux] at hP hD
          refine lv_aload_n hx hb dX4_close_55 rfl (lv_at hl 0 rfl) ?_
          refine lv_iload_n hx hb dX4_close_56 rfl (lv_at hl 1 rfl) ?_
          refine lv_iconst (v := 4) hx hb dX4_close_57 (by decide) ?_
          have hPc := hP.sub (ws' := [cM b (upd mm 6 0), (b 16, .inl (cA 0, 2, .inl (t2 ix (nI QX.1) (nI QY.1)))), (b 17, .inl (cA 0, 24, .inl (bk 12 ix (qc QX 0) (qc QY 0)))), (b 18, .inl (cA 0, 24, .inl (bk 12 ix (qc QX 1) (qc QY 1)))), (b 19, .inl (cA 0, 24, .inl (bk 12 ix (qc QX 2) (qc QY 2)))), (b 20, .inl (cA 0, 96, .inl (bk 48 ix (qw QX) (qw QY)))), (b 22, .inl (cA 0, 4, .inl sn))]) [0, 8, 9, 10, 11, 12, 13] rfl
          have hDc := hD.sub (ws' := [cM b (upd mm 6 0), (b 16, .inl (cA 0, 2, .inl (t2 ix (nI QX.1) (nI QY.1)))), (b 17, .inl (cA 0, 24, .inl (bk 12 ix (qc QX 0) (qc QY 0)))), (b 18, .inl (cA 0, 24, .inl (bk 12 ix (qc QX 1) (qc QY 1)))), (b 19, .inl (cA 0, 24, .inl (bk 12 ix (qc QX 2) (qc QY 2)))), (b 20, .inl (cA 0, 96, .inl (bk 48 ix (qw QX) (qw QY)))), (b 22, .inl (cA 0, 4, .inl sn))]) [0, 8, 9, 10, 11, 12, 13] (by decide) rfl
          have hFc := va_free (wc := [cM b (upd mm 6 0), (b 16, .inl (cA 0, 2, .inl (t2 ix (nI QX.1) (nI QY.1)))), (b 17, .inl (cA 0, 24, .inl (bk 12 ix (qc QX 0) (qc QY 0)))), (b 18, .inl (cA 0, 24, .inl (bk 12 ix (qc QX 1) (qc QY 1)))), (b 19, .inl (cA 0, 24, .inl (bk 12 ix (qc QX 2) (qc QY 2)))), (b 20, .inl (cA 0, 96, .inl (bk 48 ix (qw QX) (qw QY)))), (b 22, .inl (cA 0, 4, .inl sn))]) hD hS hA [0, 8, 9, 10, 11, 12, 13] rfl
          refine va_callv (va_runV (As := [.int (nI ix), .int 4]) (rest := []) ⟨hx, hb, hml, hown, hts⟩ (c_X4_says l D cA H.size b (upd mm 6 0) ix QX QY sn 4 (by assumption) (by assumption) (by assumption)) (cwV 2 hts gX4_close_X4_says rfl rfl rfl (by decide +kernel) ⟨Nat.le_of_ble_eq_true rfl, Nat.le_of_ble_eq_true rfl⟩) ⟨zU_blind, va_recv hK hPc (ci := 6) (q0 := 0) rfl rfl, fun U hU hW => ⟨rfl, zU_call hU hPc hW.alike hK hDc⟩⟩ rfl rfl hl.1 rfl (lv_room (Nat.le_of_ble_eq_true rfl)) dX4_close_58 ⟨(Nat.zero_le _), (Nat.zero_le _)⟩) hS (fun q _ h => hFc q h) hFc (fun u t H1 locs ht hvm hw hB hz1 hk1 hS => ?_)
          obtain ⟨QX'_8, QY'_8, mm'_8⟩ := u
          obtain ⟨hP1, hD1⟩ := hB
          rw [ht] at hP1
          try dsimp only at hw hP1 hD1
          obtain ⟨hP, hD⟩ := va_join (wr := [(b 9, .inl (cA 0, 2, .inl (t2 ix 5 (yv 0)))), (b 10, .inl (cA 0, 2, .inl (t2 ix (xv 1) (yv 1)))), (b 11, .inl (cA 0, 2, .inl (t2 ix (xv 2) (yv 2)))), (b 12, .inl (cA 0, 2, .inl (t2 ix (xv 3) (yv 3)))), (b 13, .inl (cA 0, 2, .inl (t2 ix (xv 4) (yv 4)))), (b 14, .inl (cA 0, 2, .inl (t2 ix (xv 5) (yv 5)))), (b 15, .inl (cA 0, 2, .inl (t2 ix 1 (yv 6))))]) (w1 := [cM b mm'_8, (b 16, .inl (cA 0, 2, .inl (t2 ix (nI QX'_8.1) (nI QY'_8.1)))), (b 17, .inl (cA 0, 24, .inl (bk 12 ix (qc QX'_8 0) (qc QY'_8 0)))), (b 18, .inl (cA 0, 24, .inl (bk 12 ix (qc QX'_8 1) (qc QY'_8 1)))), (b 19, .inl (cA 0, 24, .inl (bk 12 ix (qc QX'_8 2) (qc QY'_8 2)))), (b 20, .inl (cA 0, 96, .inl (bk 48 ix (qw QX'_8) (qw QY'_8)))), (b 22, .inl (cA 0, 4, .inl nB))]) hP hD [0, 8, 9, 10, 11, 12, 13] [1, 2, 3, 4, 5, 6, 7] rfl rfl (by decide) (by decide) hk1 hFc hP1 hD1
          generalize H1 = H at hP hS ⊢
          have hP := hP.sub (ws' := [cM b mm'_8, (b 9, .inl (cA 0, 2, .inl (t2 ix 5 (yv 0)))), (b 10, .inl (cA 0, 2, .inl (t2 ix (xv 1) (yv 1)))), (b 11, .inl (cA 0, 2, .inl (t2 ix (xv 2) (yv 2)))), (b 12, .inl (cA 0, 2, .inl (t2 ix (xv 3) (yv 3)))), (b 13, .inl (cA 0, 2, .inl (t2 ix (xv 4) (yv 4)))), (b 14, .inl (cA 0, 2, .inl (t2 ix (xv 5) (yv 5)))), (b 15, .inl (cA 0, 2, .inl (t2 ix 1 (yv 6)))), (b 16, .inl (cA 0, 2, .inl (t2 ix (nI QX'_8.1) (nI QY'_8.1)))), (b 17, .inl (cA 0, 24, .inl (bk 12 ix (qc QX'_8 0) (qc QY'_8 0)))), (b 18, .inl (cA 0, 24, .inl (bk 12 ix (qc QX'_8 1) (qc QY'_8 1)))), (b 19, .inl (cA 0, 24, .inl (bk 12 ix (qc QX'_8 2) (qc QY'_8 2)))), (b 20, .inl (cA 0, 96, .inl (bk 48 ix (qw QX'_8) (qw QY'_8)))), (b 22, .inl (cA 0, 4, .inl nB))]) [7, 0, 1, 2, 3, 4, 5, 6, 8, 9, 10, 11, 12, 13] rfl
          have hD := hD.sub (ws' := [cM b mm'_8, (b 9, .inl (cA 0, 2, .inl (t2 ix 5 (yv 0)))), (b 10, .inl (cA 0, 2, .inl (t2 ix (xv 1) (yv 1)))), (b 11, .inl (cA 0, 2, .inl (t2 ix (xv 2) (yv 2)))), (b 12, .inl (cA 0, 2, .inl (t2 ix (xv 3) (yv 3)))), (b 13, .inl (cA 0, 2, .inl (t2 ix (xv 4) (yv 4)))), (b 14, .inl (cA 0, 2, .inl (t2 ix (xv 5) (yv 5)))), (b 15, .inl (cA 0, 2, .inl (t2 ix 1 (yv 6)))), (b 16, .inl (cA 0, 2, .inl (t2 ix (nI QX'_8.1) (nI QY'_8.1)))), (b 17, .inl (cA 0, 24, .inl (bk 12 ix (qc QX'_8 0) (qc QY'_8 0)))), (b 18, .inl (cA 0, 24, .inl (bk 12 ix (qc QX'_8 1) (qc QY'_8 1)))), (b 19, .inl (cA 0, 24, .inl (bk 12 ix (qc QX'_8 2) (qc QY'_8 2)))), (b 20, .inl (cA 0, 96, .inl (bk 48 ix (qw QX'_8) (qw QY'_8)))), (b 22, .inl (cA 0, 4, .inl nB))]) [7, 0, 1, 2, 3, 4, 5, 6, 8, 9, 10, 11, 12, 13] (by decide) rfl
          clear hPc hDc hFc hP1 hD1 hk1 hz1
          obtain ⟨rfl, rfl, rfl⟩ := hw
          refine lv_aload_n hx hb dX4_close_61 rfl (lv_at hl 0 rfl) ?_
          refine va_get (D := D) (ci := 6) (v := .ref (b 13)) (C := RX4) (T := TX4) (N := 29) hx hb hts (fun _ h => List.mem_cons_of_mem _ (List.mem_append_right _ (h))) hown hK hP 0 rfl rfl 14 (by decide) (hts (.fieldLink RX4 47 "OptionWireModel" "waits" "[I") (List.mem_of_getElem? (i := 3) rfl)) (fun _ h9 => h9) rfl dX4_close_62 ?_
          refine lv_iload_n hx hb dX4_close_65 rfl (lv_at hl 1 rfl) ?_
          refine lv_iconst (v := 2) hx hb dX4_close_66 (by decide) ?_
          refine z_iast (k := ix) hx hb hK hP hD hS 5 0 rfl rfl rfl (by omega) (by decide) dX4_close_67 (fun H locs hP hD hS => ?_)
          have hP : va_P D vwCl [cM b (upd (upd mm 6 0) 5 ((upd mm 6 0) 5 + 1)), (b 9, .inl (cA 0, 2, .inl (t2 ix 5 (yv 0)))), (b 10, .inl (cA 0, 2, .inl (t2 ix (xv 1) (yv 1)))), (b 11, .inl (cA 0, 2, .inl (t2 ix (xv 2) (yv 2)))), (b 12, .inl (cA 0, 2, .inl (t2 ix (xv 3) (yv 3)))), (b 13, .inl (cA 0, 2, .inl (upd (t2 ix (xv 4) (yv 4)) ix 2))), (b 14, .inl (cA 0, 2, .inl (t2 ix (xv 5) (yv 5)))), (b 15, .inl (cA 0, 2, .inl (t2 ix 1 (yv 6)))), (b 16, .inl (cA 0, 2, .inl (t2 ix (nI ((sq ((upd mm 6 0) 0) (pk 4 0 0 nB) QX QY).1).1) (nI ((sq ((upd mm 6 0) 0) (pk 4 0 0 nB) QX QY).2).1)))), (b 17, .inl (cA 0, 24, .inl (bk 12 ix (qc ((sq ((upd mm 6 0) 0) (pk 4 0 0 nB) QX QY).1) 0) (qc ((sq ((upd mm 6 0) 0) (pk 4 0 0 nB) QX QY).2) 0)))), (b 18, .inl (cA 0, 24, .inl (bk 12 ix (qc ((sq ((upd mm 6 0) 0) (pk 4 0 0 nB) QX QY).1) 1) (qc ((sq ((upd mm 6 0) 0) (pk 4 0 0 nB) QX QY).2) 1)))), (b 19, .inl (cA 0, 24, .inl (bk 12 ix (qc ((sq ((upd mm 6 0) 0) (pk 4 0 0 nB) QX QY).1) 2) (qc ((sq ((upd mm 6 0) 0) (pk 4 0 0 nB) QX QY).2) 2)))), (b 20, .inl (cA 0, 96, .inl (bk 48 ix (qw ((sq ((upd mm 6 0) 0) (pk 4 0 0 nB) QX QY).1)) (qw ((sq ((upd mm 6 0) 0) (pk 4 0 0 nB) QX QY).2))))), (b 22, .inl (cA 0, 4, .inl nB))] H := hP
          have hD : va_D A [cM b (upd (upd mm 6 0) 5 ((upd mm 6 0) 5 + 1)), (b 9, .inl (cA 0, 2, .inl (t2 ix 5 (yv 0)))), (b 10, .inl (cA 0, 2, .inl (t2 ix (xv 1) (yv 1)))), (b 11, .inl (cA 0, 2, .inl (t2 ix (xv 2) (yv 2)))), (b 12, .inl (cA 0, 2, .inl (t2 ix (xv 3) (yv 3)))), (b 13, .inl (cA 0, 2, .inl (upd (t2 ix (xv 4) (yv 4)) ix 2))), (b 14, .inl (cA 0, 2, .inl (t2 ix (xv 5) (yv 5)))), (b 15, .inl (cA 0, 2, .inl (t2 ix 1 (yv 6)))), (b 16, .inl (cA 0, 2, .inl (t2 ix (nI ((sq ((upd mm 6 0) 0) (pk 4 0 0 nB) QX QY).1).1) (nI ((sq ((upd mm 6 0) 0) (pk 4 0 0 nB) QX QY).2).1)))), (b 17, .inl (cA 0, 24, .inl (bk 12 ix (qc ((sq ((upd mm 6 0) 0) (pk 4 0 0 nB) QX QY).1) 0) (qc ((sq ((upd mm 6 0) 0) (pk 4 0 0 nB) QX QY).2) 0)))), (b 18, .inl (cA 0, 24, .inl (bk 12 ix (qc ((sq ((upd mm 6 0) 0) (pk 4 0 0 nB) QX QY).1) 1) (qc ((sq ((upd mm 6 0) 0) (pk 4 0 0 nB) QX QY).2) 1)))), (b 19, .inl (cA 0, 24, .inl (bk 12 ix (qc ((sq ((upd mm 6 0) 0) (pk 4 0 0 nB) QX QY).1) 2) (qc ((sq ((upd mm 6 0) 0) (pk 4 0 0 nB) QX QY).2) 2)))), (b 20, .inl (cA 0, 96, .inl (bk 48 ix (qw ((sq ((upd mm 6 0) 0) (pk 4 0 0 nB) QX QY).1)) (qw ((sq ((upd mm 6 0) 0) (pk 4 0 0 nB) QX QY).2))))), (b 22, .inl (cA 0, 4, .inl nB))] := hD
          rw [show upd (t2 ix (xv 4) (yv 4)) ix 2 = t2 ix 2 (yv 4) from t2_ux] at hP hD
          refine W.widen (k := 0) (n := 0) (by omega) (by omega) ?_
          exact W.vret hx hb hr (fun t ht hW => ⟨⟨((upd (upd (upd xv 0 5) 6 1) 4 2), ((sq ((upd mm 6 0) 0) (pk 4 0 0 nB) QX QY).1), ((sq ((upd mm 6 0) 0) (pk 4 0 0 nB) QX QY).2), (upd (upd mm 6 0) 5 ((upd mm 6 0) 5 + 1))), rfl, ⟨rfl, rfl, rfl, rfl⟩, ⟨by rw [ht]; exact hP, by rw [hAe]; exact hD⟩⟩, hS.F ht⟩) hS.2.2 dX4_close_68
        · exact absurd rfl h_6
      · skip
        exact absurd c_5 hup.2
  · exact absurd (inr_ix hix) h_1
set_option maxHeartbeats 4000000 in
set_option maxRecDepth 100000 in
theorem c_X4_close_s (l : Launch) (D : va_G) (cA : Nat → ClassId) (sz : Nat) (b : Nat → Nat) (mm : Nat → Int32) (ix : Nat) (c1 c2 : Int32)  (hix : ix ≤ 1) (hup : ¬ sUp c1) : Met l yX4_close wsX4_close ({ frames := 2, cells := 0, slots := 0, locals := 42 }) (va_Pc [.ref (b 0), .int (nI ix)] (zU D cA sz [cM b mm, (b 9, .inl (cA 0, 2, .inl (t2 ix c1 c2)))])) (va_Qv (fun (u : (Nat → Int32)) => u = upd mm 6 2) (fun (u : (Nat → Int32)) t => zB D [cM b mm, (b 9, .inl (cA 0, 2, .inl (t2 ix c1 c2)))] sz [cM b u, (b 9, .inl (cA 0, 2, .inl (t2 ix c1 c2)))] t) (va_A [cM b mm, (b 9, .inl (cA 0, 2, .inl (t2 ix c1 c2)))] sz)) 0 0 (va_A [cM b mm, (b 9, .inl (cA 0, 2, .inl (t2 ix c1 c2)))] sz) := by
  refine Met.ofW (cc := cX4_close) (maxL := 2) (ret := none) (by decide) rfl ?_
  intro p e s m args below meth c s₁ B hml hv
  obtain ⟨rfl, hsz, hP, hK, hD0⟩ := hv
  have hx := B.exec
  have hb := B.bytes
  have hr := B.returns
  have hts := atoms_spec (ws := wsX4_close) B.pre
  have hown : s.vm.findClass RX4 = some m.cls := findClass_of_methodNamed B.named
  have hlocks := B.notSynchronized
  subst hsz
  have hD := hD0.self (sz := s.heap.size)
  generalize hAe : va_A [cM b mm, (b 9, .inl (cA 0, 2, .inl (t2 ix c1 c2)))] s.heap.size = A at hD ⊢
  have hA : ∀ q : Nat, s.heap.size ≤ q → A q := fun q h => by rw [← hAe]; exact Or.inr h
  have hS : va_S A s.heap s.heap [] := va_S.rf
  have hl := lv_entry ([.ref (b 0), .int (nI ix)]) (n := 2) (Nat.le_of_ble_eq_true rfl)
  rw [lg_entry_eq]
  generalize (lg_sl ([.ref (b 0), .int (nI ix)]) ++ List.replicate (2 - (lg_sl ([.ref (b 0), .int (nI ix)])).length) Slot.unset).toArray = ls at hl ⊢
  have hl : lv_has ls 2 [(0, .ref (b 0)), (1, .int (nI ix))] := hl
  refine lv_aload_n hx hb dX4_close_0 rfl (lv_at hl 0 rfl) ?_
  refine lv_iload_n hx hb dX4_close_1 rfl (lv_at hl 1 rfl) ?_
  have hPc := hP.sub (ws' := []) [] rfl
  have hDc := hD.sub (ws' := []) [] (by decide) rfl
  have hFc := va_free (wc := []) hD hS hA [] rfl
  refine va_calli (va_runS (As := [.int (nI ix)]) (rest := [.ref (b 0)]) ⟨hx, hb, hml, hown, hts⟩ (c_X4_isEnd l D cA s.heap.size (nI ix)) (va_cwS 1 hts gX4_close_X4_isEnd rfl rfl rfl (by decide +kernel) ⟨Nat.le_of_ble_eq_true rfl, Nat.le_of_ble_eq_true rfl⟩) ⟨zU_blind, fun U hU hW => ⟨rfl, zU_call hU hPc hW.alike hK hDc⟩⟩ rfl rfl hl.1 rfl (lv_room (Nat.le_of_ble_eq_true rfl)) dX4_close_2 ⟨(Nat.zero_le _), (Nat.zero_le _)⟩) hS (fun q _ h => hFc q h) hFc (fun zr u t H1 locs ht hvm hw hB hz1 hk1 hS => ?_)
  obtain ⟨hP1, hD1⟩ := hB
  rw [ht] at hP1
  obtain ⟨hP, hD⟩ := va_join (wr := [cM b mm, (b 9, .inl (cA 0, 2, .inl (t2 ix c1 c2)))]) (w1 := []) hP hD [] [0, 1] rfl rfl (by decide) (by decide) hk1 hFc hP1 hD1
  generalize H1 = H at hP hS ⊢
  have hP := hP.sub (ws' := [cM b mm, (b 9, .inl (cA 0, 2, .inl (t2 ix c1 c2)))]) [0, 1] rfl
  have hD := hD.sub (ws' := [cM b mm, (b 9, .inl (cA 0, 2, .inl (t2 ix c1 c2)))]) [0, 1] (by decide) rfl
  clear hPc hDc hFc hP1 hD1 hk1 hz1
  have hw_1 := hw
  rcases z_bool hw with ⟨h_1, rfl⟩ | ⟨h_1, rfl⟩
  · skip
    refine lv_if_ne (tgt := 12) hx hb dX4_close_5 (by decide) (fun _ => ?_) (fun c_2 => absurd c_2 (by decide))
    refine lv_aload_n hx hb dX4_close_12 rfl (lv_at hl 0 rfl) ?_
    refine lv_iload_n hx hb dX4_close_13 rfl (lv_at hl 1 rfl) ?_
    have hPc := hP.sub (ws' := [cM b mm, (b 9, .inl (cA 0, 2, .inl (t2 ix c1 c2)))]) [0, 1] rfl
    have hDc := hD.sub (ws' := [cM b mm, (b 9, .inl (cA 0, 2, .inl (t2 ix c1 c2)))]) [0, 1] (by decide) rfl
    have hFc := va_free (wc := [cM b mm, (b 9, .inl (cA 0, 2, .inl (t2 ix c1 c2)))]) hD hS hA [0, 1] rfl
    refine va_calli (va_runV (As := [.int (nI ix)]) (rest := [.ref (b 0)]) ⟨hx, hb, hml, hown, hts⟩ (c_X4_isShut l D cA H.size b mm ix c1 c2 (by assumption)) (cwV 1 hts gX4_close_X4_isShut rfl rfl rfl (by decide +kernel) ⟨Nat.le_of_ble_eq_true rfl, Nat.le_of_ble_eq_true rfl⟩) ⟨zU_blind, va_recv hK hPc (ci := 6) (q0 := 0) rfl rfl, fun U hU hW => ⟨rfl, zU_call hU hPc hW.alike hK hDc⟩⟩ rfl rfl hl.1 rfl (lv_room (Nat.le_of_ble_eq_true rfl)) dX4_close_14 ⟨(Nat.zero_le _), (Nat.zero_le _)⟩) hS (fun q _ h => hFc q h) hFc (fun zr u t H1 locs ht hvm hw hB hz1 hk1 hS => ?_)
    obtain ⟨hP1, hD1⟩ := hB
    rw [ht] at hP1
    obtain ⟨hP, hD⟩ := va_join (wr := []) (w1 := [cM b mm, (b 9, .inl (cA 0, 2, .inl (t2 ix c1 c2)))]) hP hD [0, 1] [] rfl rfl (by decide) (by decide) hk1 hFc hP1 hD1
    generalize H1 = H at hP hS ⊢
    have hP := hP.sub (ws' := [cM b mm, (b 9, .inl (cA 0, 2, .inl (t2 ix c1 c2)))]) [0, 1] rfl
    have hD := hD.sub (ws' := [cM b mm, (b 9, .inl (cA 0, 2, .inl (t2 ix c1 c2)))]) [0, 1] (by decide) rfl
    clear hPc hDc hFc hP1 hD1 hk1 hz1
    have hw_3 := hw
    rcases z_bool hw with ⟨h_3, rfl⟩ | ⟨h_3, rfl⟩
    · skip
      refine lv_if_ne (tgt := 30) hx hb dX4_close_17 (by decide) (fun _ => ?_) (fun c_4 => absurd c_4 (by decide))
      refine lv_iconst (v := 2) hx hb dX4_close_30 (by decide) ?_
      refine lv_goto (tgt := 35) hx hb dX4_close_31 (by decide) ?_
      have hPc := hP.sub (ws' := [cM b mm]) [0] rfl
      have hDc := hD.sub (ws' := [cM b mm]) [0] (by decide) rfl
      have hFc := va_free (wc := [cM b mm]) hD hS hA [0] rfl
      refine va_calli (va_runV (As := [.int 2]) (rest := []) ⟨hx, hb, hml, hown, hts⟩ (c_X4_can l D cA H.size b mm 2) (cwV 1 hts gX4_close_X4_can rfl rfl rfl (by decide +kernel) ⟨Nat.le_of_ble_eq_true rfl, Nat.le_of_ble_eq_true rfl⟩) ⟨zU_blind, va_recv hK hPc (ci := 6) (q0 := 0) rfl rfl, fun U hU hW => ⟨rfl, zU_call hU hPc hW.alike hK hDc⟩⟩ rfl rfl hl.1 rfl (lv_room (Nat.le_of_ble_eq_true rfl)) dX4_close_35 ⟨(Nat.zero_le _), (Nat.zero_le _)⟩) hS (fun q _ h => hFc q h) hFc (fun zr u t H1 locs ht hvm hw hB hz1 hk1 hS => ?_)
      obtain ⟨mm'_5, rfl⟩ : ∃ z, z = u := ⟨_, rfl⟩
      obtain ⟨hP1, hD1⟩ := hB
      rw [ht] at hP1
      try dsimp only at hw hP1 hD1
      obtain ⟨hP, hD⟩ := va_join (wr := [(b 9, .inl (cA 0, 2, .inl (t2 ix c1 c2)))]) (w1 := [cM b mm'_5]) hP hD [0] [1] rfl rfl (by decide) (by decide) hk1 hFc hP1 hD1
      generalize H1 = H at hP hS ⊢
      have hP := hP.sub (ws' := [cM b mm'_5, (b 9, .inl (cA 0, 2, .inl (t2 ix c1 c2)))]) [1, 0] rfl
      have hD := hD.sub (ws' := [cM b mm'_5, (b 9, .inl (cA 0, 2, .inl (t2 ix c1 c2)))]) [1, 0] (by decide) rfl
      clear hPc hDc hFc hP1 hD1 hk1 hz1
      obtain ⟨rfl, hw⟩ := hw
      have hw_5 := hw
      rcases z_bool hw with ⟨h_5, rfl⟩ | ⟨h_5, rfl⟩
      · exact absurd h_5 (by decide)
      · skip
        refine lv_if_eq (tgt := 68) hx hb dX4_close_38 (by decide) (fun _ => ?_) (fun c_6 => absurd c_6 (by decide))
        refine W.widen (k := 0) (n := 0) (by omega) (by omega) ?_
        exact W.vret hx hb hr (fun t ht hW => ⟨⟨((upd mm 6 2)), rfl, rfl, ⟨by rw [ht]; exact hP, by rw [hAe]; exact hD⟩⟩, hS.F ht⟩) hS.2.2 dX4_close_68
    · skip
      refine lv_if_ne (tgt := 30) hx hb dX4_close_17 (by decide) (fun c_7 => absurd c_7 (by decide)) (fun _ => ?_)
      refine lv_aload_n hx hb dX4_close_20 rfl (lv_at hl 0 rfl) ?_
      refine va_get (D := D) (ci := 6) (v := .ref (b 9)) (C := RX4) (T := TX4) (N := 29) hx hb hts (fun _ h => List.mem_cons_of_mem _ (List.mem_append_right _ (h))) hown hK hP 0 rfl rfl 10 (by decide) (hts (.fieldLink RX4 35 "OptionWireModel" "states" "[I") (List.mem_of_getElem? (i := 1) rfl)) (fun _ h9 => h9) rfl dX4_close_21 ?_
      refine lv_iload_n hx hb dX4_close_24 rfl (lv_at hl 1 rfl) ?_
      refine z_iald (k := ix) (v := c1) hx hb hK hP 1 0 rfl rfl rfl (by omega) (by decide) t2_x dX4_close_25 ?_
      refine lv_iconst (v := 5) hx hb dX4_close_26 (by decide) ?_
      refine lv_icmp_ne (tgt := 34) hx hb dX4_close_27 (by decide) (fun c_8 => ?_) (fun c_8 => ?_)
      · skip
        exact absurd ⟨h_3, c_8⟩ hup
      · skip
        refine lv_iconst (v := 2) hx hb dX4_close_30 (by decide) ?_
        refine lv_goto (tgt := 35) hx hb dX4_close_31 (by decide) ?_
        have hPc := hP.sub (ws' := [cM b mm]) [0] rfl
        have hDc := hD.sub (ws' := [cM b mm]) [0] (by decide) rfl
        have hFc := va_free (wc := [cM b mm]) hD hS hA [0] rfl
        refine va_calli (va_runV (As := [.int 2]) (rest := []) ⟨hx, hb, hml, hown, hts⟩ (c_X4_can l D cA H.size b mm 2) (cwV 1 hts gX4_close_X4_can rfl rfl rfl (by decide +kernel) ⟨Nat.le_of_ble_eq_true rfl, Nat.le_of_ble_eq_true rfl⟩) ⟨zU_blind, va_recv hK hPc (ci := 6) (q0 := 0) rfl rfl, fun U hU hW => ⟨rfl, zU_call hU hPc hW.alike hK hDc⟩⟩ rfl rfl hl.1 rfl (lv_room (Nat.le_of_ble_eq_true rfl)) dX4_close_35 ⟨(Nat.zero_le _), (Nat.zero_le _)⟩) hS (fun q _ h => hFc q h) hFc (fun zr u t H1 locs ht hvm hw hB hz1 hk1 hS => ?_)
        obtain ⟨mm'_9, rfl⟩ : ∃ z, z = u := ⟨_, rfl⟩
        obtain ⟨hP1, hD1⟩ := hB
        rw [ht] at hP1
        try dsimp only at hw hP1 hD1
        obtain ⟨hP, hD⟩ := va_join (wr := [(b 9, .inl (cA 0, 2, .inl (t2 ix c1 c2)))]) (w1 := [cM b mm'_9]) hP hD [0] [1] rfl rfl (by decide) (by decide) hk1 hFc hP1 hD1
        generalize H1 = H at hP hS ⊢
        have hP := hP.sub (ws' := [cM b mm'_9, (b 9, .inl (cA 0, 2, .inl (t2 ix c1 c2)))]) [1, 0] rfl
        have hD := hD.sub (ws' := [cM b mm'_9, (b 9, .inl (cA 0, 2, .inl (t2 ix c1 c2)))]) [1, 0] (by decide) rfl
        clear hPc hDc hFc hP1 hD1 hk1 hz1
        obtain ⟨rfl, hw⟩ := hw
        have hw_9 := hw
        rcases z_bool hw with ⟨h_9, rfl⟩ | ⟨h_9, rfl⟩
        · exact absurd h_9 (by decide)
        · skip
          refine lv_if_eq (tgt := 68) hx hb dX4_close_38 (by decide) (fun _ => ?_) (fun c_10 => absurd c_10 (by decide))
          refine W.widen (k := 0) (n := 0) (by omega) (by omega) ?_
          exact W.vret hx hb hr (fun t ht hW => ⟨⟨((upd mm 6 2)), rfl, rfl, ⟨by rw [ht]; exact hP, by rw [hAe]; exact hD⟩⟩, hS.F ht⟩) hS.2.2 dX4_close_68
  · exact absurd (inr_ix hix) h_1
set_option maxHeartbeats 4000000 in
set_option maxRecDepth 100000 in
theorem c_X4_close_b (l : Launch) (D : va_G) (cA : Nat → ClassId) (sz : Nat) (b : Nat → Nat) (mm : Nat → Int32) (n : Int32) (hn : ¬ inr n 0 1) : Met l yX4_close wsX4_close ({ frames := 2, cells := 0, slots := 0, locals := 42 }) (va_Pc [.ref (b 0), .int n] (zU D cA sz [cM b mm])) (va_Qv (fun (u : (Nat → Int32)) => u = upd mm 6 1) (fun (u : (Nat → Int32)) t => zB D [cM b mm] sz [cM b u] t) (va_A [cM b mm] sz)) 0 0 (va_A [cM b mm] sz) := by
  refine Met.ofW (cc := cX4_close) (maxL := 2) (ret := none) (by decide) rfl ?_
  intro p e s m args below meth c s₁ B hml hv
  obtain ⟨rfl, hsz, hP, hK, hD0⟩ := hv
  have hx := B.exec
  have hb := B.bytes
  have hr := B.returns
  have hts := atoms_spec (ws := wsX4_close) B.pre
  have hown : s.vm.findClass RX4 = some m.cls := findClass_of_methodNamed B.named
  have hlocks := B.notSynchronized
  subst hsz
  have hD := hD0.self (sz := s.heap.size)
  generalize hAe : va_A [cM b mm] s.heap.size = A at hD ⊢
  have hA : ∀ q : Nat, s.heap.size ≤ q → A q := fun q h => by rw [← hAe]; exact Or.inr h
  have hS : va_S A s.heap s.heap [] := va_S.rf
  have hl := lv_entry ([.ref (b 0), .int n]) (n := 2) (Nat.le_of_ble_eq_true rfl)
  rw [lg_entry_eq]
  generalize (lg_sl ([.ref (b 0), .int n]) ++ List.replicate (2 - (lg_sl ([.ref (b 0), .int n])).length) Slot.unset).toArray = ls at hl ⊢
  have hl : lv_has ls 2 [(0, .ref (b 0)), (1, .int n)] := hl
  refine lv_aload_n hx hb dX4_close_0 rfl (lv_at hl 0 rfl) ?_
  refine lv_iload_n hx hb dX4_close_1 rfl (lv_at hl 1 rfl) ?_
  have hPc := hP.sub (ws' := []) [] rfl
  have hDc := hD.sub (ws' := []) [] (by decide) rfl
  have hFc := va_free (wc := []) hD hS hA [] rfl
  refine va_calli (va_runS (As := [.int n]) (rest := [.ref (b 0)]) ⟨hx, hb, hml, hown, hts⟩ (c_X4_isEnd l D cA s.heap.size n) (va_cwS 1 hts gX4_close_X4_isEnd rfl rfl rfl (by decide +kernel) ⟨Nat.le_of_ble_eq_true rfl, Nat.le_of_ble_eq_true rfl⟩) ⟨zU_blind, fun U hU hW => ⟨rfl, zU_call hU hPc hW.alike hK hDc⟩⟩ rfl rfl hl.1 rfl (lv_room (Nat.le_of_ble_eq_true rfl)) dX4_close_2 ⟨(Nat.zero_le _), (Nat.zero_le _)⟩) hS (fun q _ h => hFc q h) hFc (fun zr u t H1 locs ht hvm hw hB hz1 hk1 hS => ?_)
  obtain ⟨hP1, hD1⟩ := hB
  rw [ht] at hP1
  obtain ⟨hP, hD⟩ := va_join (wr := [cM b mm]) (w1 := []) hP hD [] [0] rfl rfl (by decide) (by decide) hk1 hFc hP1 hD1
  generalize H1 = H at hP hS ⊢
  have hP := hP.sub (ws' := [cM b mm]) [0] rfl
  have hD := hD.sub (ws' := [cM b mm]) [0] (by decide) rfl
  clear hPc hDc hFc hP1 hD1 hk1 hz1
  have hw_1 := hw
  rcases z_bool hw with ⟨h_1, rfl⟩ | ⟨h_1, rfl⟩
  · exact absurd h_1 hn
  · skip
    refine lv_if_ne (tgt := 12) hx hb dX4_close_5 (by decide) (fun c_2 => absurd c_2 (by decide)) (fun _ => ?_)
    refine lv_iconst (v := 1) hx hb dX4_close_8 (by decide) ?_
    refine lv_goto (tgt := 35) hx hb dX4_close_9 (by decide) ?_
    have hPc := hP.sub (ws' := [cM b mm]) [0] rfl
    have hDc := hD.sub (ws' := [cM b mm]) [0] (by decide) rfl
    have hFc := va_free (wc := [cM b mm]) hD hS hA [0] rfl
    refine va_calli (va_runV (As := [.int 1]) (rest := []) ⟨hx, hb, hml, hown, hts⟩ (c_X4_can l D cA H.size b mm 1) (cwV 1 hts gX4_close_X4_can rfl rfl rfl (by decide +kernel) ⟨Nat.le_of_ble_eq_true rfl, Nat.le_of_ble_eq_true rfl⟩) ⟨zU_blind, va_recv hK hPc (ci := 6) (q0 := 0) rfl rfl, fun U hU hW => ⟨rfl, zU_call hU hPc hW.alike hK hDc⟩⟩ rfl rfl hl.1 rfl (lv_room (Nat.le_of_ble_eq_true rfl)) dX4_close_35 ⟨(Nat.zero_le _), (Nat.zero_le _)⟩) hS (fun q _ h => hFc q h) hFc (fun zr u t H1 locs ht hvm hw hB hz1 hk1 hS => ?_)
    obtain ⟨mm'_3, rfl⟩ : ∃ z, z = u := ⟨_, rfl⟩
    obtain ⟨hP1, hD1⟩ := hB
    rw [ht] at hP1
    try dsimp only at hw hP1 hD1
    obtain ⟨hP, hD⟩ := va_join (wr := []) (w1 := [cM b mm'_3]) hP hD [0] [] rfl rfl (by decide) (by decide) hk1 hFc hP1 hD1
    generalize H1 = H at hP hS ⊢
    have hP := hP.sub (ws' := [cM b mm'_3]) [0] rfl
    have hD := hD.sub (ws' := [cM b mm'_3]) [0] (by decide) rfl
    clear hPc hDc hFc hP1 hD1 hk1 hz1
    obtain ⟨rfl, hw⟩ := hw
    have hw_3 := hw
    rcases z_bool hw with ⟨h_3, rfl⟩ | ⟨h_3, rfl⟩
    · exact absurd h_3 (by decide)
    · skip
      refine lv_if_eq (tgt := 68) hx hb dX4_close_38 (by decide) (fun _ => ?_) (fun c_4 => absurd c_4 (by decide))
      refine W.widen (k := 0) (n := 0) (by omega) (by omega) ?_
      exact W.vret hx hb hr (fun t ht hW => ⟨⟨((upd mm 6 1)), rfl, rfl, ⟨by rw [ht]; exact hP, by rw [hAe]; exact hD⟩⟩, hS.F ht⟩) hS.2.2 dX4_close_68
