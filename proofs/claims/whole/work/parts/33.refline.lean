set_option maxHeartbeats 4000000 in
set_option maxRecDepth 100000 in
theorem c_X4_word (l : Launch) (D : va_G) (cA : Nat → ClassId) (sz : Nat) (a1 a2 a3 a4 a5 a6 a7 : Int32)  : Met l yX4_word wsX4_word ({ frames := 0, cells := 0, slots := 0, locals := 0 }) (va_Pc [.int a1, .int a2, .int a3, .int a4, .int a5, .int a6, .int a7] (zU D cA sz [])) (va_Ql (fun (r : Int64) (_ : Unit) => r = lwd a1 a2 a3 a4 a5 a6 a7) (fun (_ : Unit) t => zB D [] sz [] t) (va_A [] sz)) 0 0 (va_A [] sz) := by
  refine Met.ofW (cc := cX4_word) (maxL := 7) (ret := (some .long)) (by decide) rfl ?_
  intro p e s m args below meth c s₁ B hml hv
  obtain ⟨rfl, hsz, hP, hK, hD0⟩ := hv
  have hx := B.exec
  have hb := B.bytes
  have hr := B.returns
  have hts := atoms_spec (ws := wsX4_word) B.pre
  have hown : s.vm.findClass RX4 = some m.cls := findClass_of_methodNamed B.named
  have hlocks := B.notSynchronized
  subst hsz
  have hD := hD0.self (sz := s.heap.size)
  generalize hAe : va_A [] s.heap.size = A at hD ⊢
  have hA : ∀ q : Nat, s.heap.size ≤ q → A q := fun q h => by rw [← hAe]; exact Or.inr h
  have hS : va_S A s.heap s.heap [] := va_S.rf
  have hl := lv_entry ([.int a1, .int a2, .int a3, .int a4, .int a5, .int a6, .int a7]) (n := 7) (Nat.le_of_ble_eq_true rfl)
  rw [lg_entry_eq]
  generalize (lg_sl ([.int a1, .int a2, .int a3, .int a4, .int a5, .int a6, .int a7]) ++ List.replicate (7 - (lg_sl ([.int a1, .int a2, .int a3, .int a4, .int a5, .int a6, .int a7])).length) Slot.unset).toArray = ls at hl ⊢
  have hl : lv_has ls 7 [(0, .int a1), (1, .int a2), (2, .int a3), (3, .int a4), (4, .int a5), (5, .int a6), (6, .int a7)] := hl
  refine lv_iload_n hx hb dX4_word_0 rfl (lv_at hl 0 rfl) ?_
  refine lv_i2l (v := a1.toInt64) hx hb dX4_word_1 rfl ?_
  refine lv_iload_n hx hb dX4_word_2 rfl (lv_at hl 1 rfl) ?_
  refine lv_i2l (v := a2.toInt64) hx hb dX4_word_3 rfl ?_
  refine lv_bipush (v := 7) hx hb dX4_word_4 (by decide) ?_
  refine lv_lshl (v := (a2.toInt64 <<< ((7 : Int32).toInt64 &&& 63))) hx hb dX4_word_6 rfl ?_
  refine lv_lor hx hb dX4_word_7 ?_
  refine lv_iload_n hx hb dX4_word_8 rfl (lv_at hl 2 rfl) ?_
  refine lv_i2l (v := a3.toInt64) hx hb dX4_word_9 rfl ?_
  refine lv_bipush (v := 14) hx hb dX4_word_10 (by decide) ?_
  refine lv_lshl (v := (a3.toInt64 <<< ((14 : Int32).toInt64 &&& 63))) hx hb dX4_word_12 rfl ?_
  refine lv_lor hx hb dX4_word_13 ?_
  refine lv_iload_n hx hb dX4_word_14 rfl (lv_at hl 3 rfl) ?_
  refine lv_i2l (v := a4.toInt64) hx hb dX4_word_15 rfl ?_
  refine lv_bipush (v := 21) hx hb dX4_word_16 (by decide) ?_
  refine lv_lshl (v := (a4.toInt64 <<< ((21 : Int32).toInt64 &&& 63))) hx hb dX4_word_18 rfl ?_
  refine lv_lor hx hb dX4_word_19 ?_
  refine lv_iload hx hb dX4_word_20 (lv_at hl 4 rfl) ?_
  refine lv_i2l (v := a5.toInt64) hx hb dX4_word_22 rfl ?_
  refine lv_bipush (v := 28) hx hb dX4_word_23 (by decide) ?_
  refine lv_lshl (v := (a5.toInt64 <<< ((28 : Int32).toInt64 &&& 63))) hx hb dX4_word_25 rfl ?_
  refine lv_lor hx hb dX4_word_26 ?_
  refine lv_iload hx hb dX4_word_27 (lv_at hl 5 rfl) ?_
  refine lv_i2l (v := a6.toInt64) hx hb dX4_word_29 rfl ?_
  refine lv_bipush (v := 35) hx hb dX4_word_30 (by decide) ?_
  refine lv_lshl (v := (a6.toInt64 <<< ((35 : Int32).toInt64 &&& 63))) hx hb dX4_word_32 rfl ?_
  refine lv_lor hx hb dX4_word_33 ?_
  refine lv_iload hx hb dX4_word_34 (lv_at hl 6 rfl) ?_
  refine lv_i2l (v := a7.toInt64) hx hb dX4_word_36 rfl ?_
  refine lv_bipush (v := 42) hx hb dX4_word_37 (by decide) ?_
  refine lv_lshl (v := (a7.toInt64 <<< ((42 : Int32).toInt64 &&& 63))) hx hb dX4_word_39 rfl ?_
  refine lv_lor hx hb dX4_word_40 ?_
  refine W.widen (k := 0) (n := 0) (by omega) (by omega) ?_
  exact W.lret (v := ((((((a1.toInt64 ||| (a2.toInt64 <<< ((7 : Int32).toInt64 &&& 63))) ||| (a3.toInt64 <<< ((14 : Int32).toInt64 &&& 63))) ||| (a4.toInt64 <<< ((21 : Int32).toInt64 &&& 63))) ||| (a5.toInt64 <<< ((28 : Int32).toInt64 &&& 63))) ||| (a6.toInt64 <<< ((35 : Int32).toInt64 &&& 63))) ||| (a7.toInt64 <<< ((42 : Int32).toInt64 &&& 63)))) hx hb hr (fun t ht hW => ⟨⟨(((((a1.toInt64 ||| (a2.toInt64 <<< ((7 : Int32).toInt64 &&& 63))) ||| (a3.toInt64 <<< ((14 : Int32).toInt64 &&& 63))) ||| (a4.toInt64 <<< ((21 : Int32).toInt64 &&& 63))) ||| (a5.toInt64 <<< ((28 : Int32).toInt64 &&& 63))) ||| (a6.toInt64 <<< ((35 : Int32).toInt64 &&& 63))) ||| (a7.toInt64 <<< ((42 : Int32).toInt64 &&& 63)), (), rfl, rfl, ⟨by rw [ht]; exact hP, by rw [hAe]; exact hD⟩⟩, hS.F ht⟩) hS.2.2 dX4_word_41
set_option maxHeartbeats 4000000 in
set_option maxRecDepth 100000 in
theorem c_wordOf_0 (l : Launch) (D : va_G) (cA : Nat → ClassId) (sz : Nat)   : Met l yX4_wordOf wsX4_wordOf ({ frames := 1, cells := 0, slots := 0, locals := 26 }) (va_Pc [.int 0] (zU D cA sz [])) (va_Ql (fun (r : Int64) (_ : Unit) => r = zWd.getD 0 0) (fun (_ : Unit) t => zB D [] sz [] t) (va_A [] sz)) 0 0 (va_A [] sz) := by
  refine Met.ofW (cc := cX4_wordOf) (maxL := 1) (ret := (some .long)) (by decide) rfl ?_
  intro p e s m args below meth c s₁ B hml hv
  obtain ⟨rfl, hsz, hP, hK, hD0⟩ := hv
  have hx := B.exec
  have hb := B.bytes
  have hr := B.returns
  have hts := atoms_spec (ws := wsX4_wordOf) B.pre
  have hown : s.vm.findClass RX4 = some m.cls := findClass_of_methodNamed B.named
  have hlocks := B.notSynchronized
  subst hsz
  have hD := hD0.self (sz := s.heap.size)
  generalize hAe : va_A [] s.heap.size = A at hD ⊢
  have hA : ∀ q : Nat, s.heap.size ≤ q → A q := fun q h => by rw [← hAe]; exact Or.inr h
  have hS : va_S A s.heap s.heap [] := va_S.rf
  have hl := lv_entry ([.int 0]) (n := 1) (Nat.le_of_ble_eq_true rfl)
  rw [lg_entry_eq]
  generalize (lg_sl ([.int 0]) ++ List.replicate (1 - (lg_sl ([.int 0])).length) Slot.unset).toArray = ls at hl ⊢
  have hl : lv_has ls 1 [(0, .int 0)] := hl
  refine lv_iload_n hx hb dX4_wordOf_0 rfl (lv_at hl 0 rfl) ?_
  refine lv_iconst (v := 3) hx hb dX4_wordOf_1 (by decide) ?_
  refine lv_icmp_ge (tgt := 68) hx hb dX4_wordOf_2 (by decide) (fun c_1 => absurd c_1 (by decide)) (fun _ => ?_)
  refine lv_iload_n hx hb dX4_wordOf_5 rfl (lv_at hl 0 rfl) ?_
  refine lv_if_ne (tgt := 28) hx hb dX4_wordOf_6 (by decide) (fun c_2 => absurd c_2 (by decide)) (fun _ => ?_)
  refine lv_bipush (v := 99) hx hb dX4_wordOf_9 (by decide) ?_
  refine lv_bipush (v := 108) hx hb dX4_wordOf_11 (by decide) ?_
  refine lv_bipush (v := 111) hx hb dX4_wordOf_13 (by decide) ?_
  refine lv_bipush (v := 115) hx hb dX4_wordOf_15 (by decide) ?_
  refine lv_bipush (v := 101) hx hb dX4_wordOf_17 (by decide) ?_
  refine lv_bipush (v := 100) hx hb dX4_wordOf_19 (by decide) ?_
  refine lv_iconst (v := 0) hx hb dX4_wordOf_21 (by decide) ?_
  have hPc := hP.sub (ws' := []) [] rfl
  have hDc := hD.sub (ws' := []) [] (by decide) rfl
  have hFc := va_free (wc := []) hD hS hA [] rfl
  refine va_calll (va_runS (As := [.int 99, .int 108, .int 111, .int 115, .int 101, .int 100, .int 0]) (rest := []) ⟨hx, hb, hml, hown, hts⟩ (c_X4_word l D cA s.heap.size 99 108 111 115 101 100 0) (va_cwS 7 hts gX4_wordOf_X4_word rfl rfl rfl (by decide +kernel) ⟨Nat.le_of_ble_eq_true rfl, Nat.le_of_ble_eq_true rfl⟩) ⟨zU_blind, fun U hU hW => ⟨rfl, zU_call hU hPc hW.alike hK hDc⟩⟩ rfl rfl hl.1 rfl (lv_room (Nat.le_of_ble_eq_true rfl)) dX4_wordOf_22 ⟨(Nat.zero_le _), (Nat.zero_le _)⟩) hS (fun q _ h => hFc q h) hFc (fun zr u t H1 locs ht hvm hw hB hz1 hk1 hS => ?_)
  obtain ⟨hP1, hD1⟩ := hB
  rw [ht] at hP1
  obtain ⟨hP, hD⟩ := va_join (wr := []) (w1 := []) hP hD [] [] rfl rfl (by decide) (by decide) hk1 hFc hP1 hD1
  generalize H1 = H at hP hS ⊢
  have hP := hP.sub (ws' := []) [] rfl
  have hD := hD.sub (ws' := []) [] (by decide) rfl
  clear hPc hDc hFc hP1 hD1 hk1 hz1
  have hw_3 := hw
  obtain rfl := hw
  refine lv_goto (tgt := 67) hx hb dX4_wordOf_25 (by decide) ?_
  refine W.widen (k := 0) (n := 0) (by omega) (by omega) ?_
  exact W.lret (v := (lwd 99 108 111 115 101 100 0)) hx hb hr (fun t ht hW => ⟨⟨lwd 99 108 111 115 101 100 0, (), rfl, rfl, ⟨by rw [ht]; exact hP, by rw [hAe]; exact hD⟩⟩, hS.F ht⟩) hS.2.2 dX4_wordOf_67
set_option maxHeartbeats 4000000 in
set_option maxRecDepth 100000 in
theorem c_wordOf_1 (l : Launch) (D : va_G) (cA : Nat → ClassId) (sz : Nat)   : Met l yX4_wordOf wsX4_wordOf ({ frames := 1, cells := 0, slots := 0, locals := 26 }) (va_Pc [.int 1] (zU D cA sz [])) (va_Ql (fun (r : Int64) (_ : Unit) => r = zWd.getD 1 0) (fun (_ : Unit) t => zB D [] sz [] t) (va_A [] sz)) 0 0 (va_A [] sz) := by
  refine Met.ofW (cc := cX4_wordOf) (maxL := 1) (ret := (some .long)) (by decide) rfl ?_
  intro p e s m args below meth c s₁ B hml hv
  obtain ⟨rfl, hsz, hP, hK, hD0⟩ := hv
  have hx := B.exec
  have hb := B.bytes
  have hr := B.returns
  have hts := atoms_spec (ws := wsX4_wordOf) B.pre
  have hown : s.vm.findClass RX4 = some m.cls := findClass_of_methodNamed B.named
  have hlocks := B.notSynchronized
  subst hsz
  have hD := hD0.self (sz := s.heap.size)
  generalize hAe : va_A [] s.heap.size = A at hD ⊢
  have hA : ∀ q : Nat, s.heap.size ≤ q → A q := fun q h => by rw [← hAe]; exact Or.inr h
  have hS : va_S A s.heap s.heap [] := va_S.rf
  have hl := lv_entry ([.int 1]) (n := 1) (Nat.le_of_ble_eq_true rfl)
  rw [lg_entry_eq]
  generalize (lg_sl ([.int 1]) ++ List.replicate (1 - (lg_sl ([.int 1])).length) Slot.unset).toArray = ls at hl ⊢
  have hl : lv_has ls 1 [(0, .int 1)] := hl
  refine lv_iload_n hx hb dX4_wordOf_0 rfl (lv_at hl 0 rfl) ?_
  refine lv_iconst (v := 3) hx hb dX4_wordOf_1 (by decide) ?_
  refine lv_icmp_ge (tgt := 68) hx hb dX4_wordOf_2 (by decide) (fun c_1 => absurd c_1 (by decide)) (fun _ => ?_)
  refine lv_iload_n hx hb dX4_wordOf_5 rfl (lv_at hl 0 rfl) ?_
  refine lv_if_ne (tgt := 28) hx hb dX4_wordOf_6 (by decide) (fun _ => ?_) (fun c_2 => absurd c_2 (by decide))
  refine lv_iload_n hx hb dX4_wordOf_28 rfl (lv_at hl 0 rfl) ?_
  refine lv_iconst (v := 1) hx hb dX4_wordOf_29 (by decide) ?_
  refine lv_icmp_ne (tgt := 52) hx hb dX4_wordOf_30 (by decide) (fun c_3 => absurd c_3 (by decide)) (fun _ => ?_)
  refine lv_bipush (v := 97) hx hb dX4_wordOf_33 (by decide) ?_
  refine lv_bipush (v := 115) hx hb dX4_wordOf_35 (by decide) ?_
  refine lv_bipush (v := 107) hx hb dX4_wordOf_37 (by decide) ?_
  refine lv_bipush (v := 105) hx hb dX4_wordOf_39 (by decide) ?_
  refine lv_bipush (v := 110) hx hb dX4_wordOf_41 (by decide) ?_
  refine lv_bipush (v := 103) hx hb dX4_wordOf_43 (by decide) ?_
  refine lv_iconst (v := 0) hx hb dX4_wordOf_45 (by decide) ?_
  have hPc := hP.sub (ws' := []) [] rfl
  have hDc := hD.sub (ws' := []) [] (by decide) rfl
  have hFc := va_free (wc := []) hD hS hA [] rfl
  refine va_calll (va_runS (As := [.int 97, .int 115, .int 107, .int 105, .int 110, .int 103, .int 0]) (rest := []) ⟨hx, hb, hml, hown, hts⟩ (c_X4_word l D cA s.heap.size 97 115 107 105 110 103 0) (va_cwS 7 hts gX4_wordOf_X4_word rfl rfl rfl (by decide +kernel) ⟨Nat.le_of_ble_eq_true rfl, Nat.le_of_ble_eq_true rfl⟩) ⟨zU_blind, fun U hU hW => ⟨rfl, zU_call hU hPc hW.alike hK hDc⟩⟩ rfl rfl hl.1 rfl (lv_room (Nat.le_of_ble_eq_true rfl)) dX4_wordOf_46 ⟨(Nat.zero_le _), (Nat.zero_le _)⟩) hS (fun q _ h => hFc q h) hFc (fun zr u t H1 locs ht hvm hw hB hz1 hk1 hS => ?_)
  obtain ⟨hP1, hD1⟩ := hB
  rw [ht] at hP1
  obtain ⟨hP, hD⟩ := va_join (wr := []) (w1 := []) hP hD [] [] rfl rfl (by decide) (by decide) hk1 hFc hP1 hD1
  generalize H1 = H at hP hS ⊢
  have hP := hP.sub (ws' := []) [] rfl
  have hD := hD.sub (ws' := []) [] (by decide) rfl
  clear hPc hDc hFc hP1 hD1 hk1 hz1
  have hw_4 := hw
  obtain rfl := hw
  refine lv_goto (tgt := 67) hx hb dX4_wordOf_49 (by decide) ?_
  refine W.widen (k := 0) (n := 0) (by omega) (by omega) ?_
  exact W.lret (v := (lwd 97 115 107 105 110 103 0)) hx hb hr (fun t ht hW => ⟨⟨lwd 97 115 107 105 110 103 0, (), rfl, rfl, ⟨by rw [ht]; exact hP, by rw [hAe]; exact hD⟩⟩, hS.F ht⟩) hS.2.2 dX4_wordOf_67
set_option maxHeartbeats 4000000 in
set_option maxRecDepth 100000 in
theorem c_wordOf_2 (l : Launch) (D : va_G) (cA : Nat → ClassId) (sz : Nat)   : Met l yX4_wordOf wsX4_wordOf ({ frames := 1, cells := 0, slots := 0, locals := 26 }) (va_Pc [.int 2] (zU D cA sz [])) (va_Ql (fun (r : Int64) (_ : Unit) => r = zWd.getD 2 0) (fun (_ : Unit) t => zB D [] sz [] t) (va_A [] sz)) 0 0 (va_A [] sz) := by
  refine Met.ofW (cc := cX4_wordOf) (maxL := 1) (ret := (some .long)) (by decide) rfl ?_
  intro p e s m args below meth c s₁ B hml hv
  obtain ⟨rfl, hsz, hP, hK, hD0⟩ := hv
  have hx := B.exec
  have hb := B.bytes
  have hr := B.returns
  have hts := atoms_spec (ws := wsX4_wordOf) B.pre
  have hown : s.vm.findClass RX4 = some m.cls := findClass_of_methodNamed B.named
  have hlocks := B.notSynchronized
  subst hsz
  have hD := hD0.self (sz := s.heap.size)
  generalize hAe : va_A [] s.heap.size = A at hD ⊢
  have hA : ∀ q : Nat, s.heap.size ≤ q → A q := fun q h => by rw [← hAe]; exact Or.inr h
  have hS : va_S A s.heap s.heap [] := va_S.rf
  have hl := lv_entry ([.int 2]) (n := 1) (Nat.le_of_ble_eq_true rfl)
  rw [lg_entry_eq]
  generalize (lg_sl ([.int 2]) ++ List.replicate (1 - (lg_sl ([.int 2])).length) Slot.unset).toArray = ls at hl ⊢
  have hl : lv_has ls 1 [(0, .int 2)] := hl
  refine lv_iload_n hx hb dX4_wordOf_0 rfl (lv_at hl 0 rfl) ?_
  refine lv_iconst (v := 3) hx hb dX4_wordOf_1 (by decide) ?_
  refine lv_icmp_ge (tgt := 68) hx hb dX4_wordOf_2 (by decide) (fun c_1 => absurd c_1 (by decide)) (fun _ => ?_)
  refine lv_iload_n hx hb dX4_wordOf_5 rfl (lv_at hl 0 rfl) ?_
  refine lv_if_ne (tgt := 28) hx hb dX4_wordOf_6 (by decide) (fun _ => ?_) (fun c_2 => absurd c_2 (by decide))
  refine lv_iload_n hx hb dX4_wordOf_28 rfl (lv_at hl 0 rfl) ?_
  refine lv_iconst (v := 1) hx hb dX4_wordOf_29 (by decide) ?_
  refine lv_icmp_ne (tgt := 52) hx hb dX4_wordOf_30 (by decide) (fun _ => ?_) (fun c_3 => absurd c_3 (by decide))
  refine lv_bipush (v := 104) hx hb dX4_wordOf_52 (by decide) ?_
  refine lv_bipush (v := 101) hx hb dX4_wordOf_54 (by decide) ?_
  refine lv_bipush (v := 97) hx hb dX4_wordOf_56 (by decide) ?_
  refine lv_bipush (v := 114) hx hb dX4_wordOf_58 (by decide) ?_
  refine lv_bipush (v := 100) hx hb dX4_wordOf_60 (by decide) ?_
  refine lv_iconst (v := 0) hx hb dX4_wordOf_62 (by decide) ?_
  refine lv_iconst (v := 0) hx hb dX4_wordOf_63 (by decide) ?_
  have hPc := hP.sub (ws' := []) [] rfl
  have hDc := hD.sub (ws' := []) [] (by decide) rfl
  have hFc := va_free (wc := []) hD hS hA [] rfl
  refine va_calll (va_runS (As := [.int 104, .int 101, .int 97, .int 114, .int 100, .int 0, .int 0]) (rest := []) ⟨hx, hb, hml, hown, hts⟩ (c_X4_word l D cA s.heap.size 104 101 97 114 100 0 0) (va_cwS 7 hts gX4_wordOf_X4_word rfl rfl rfl (by decide +kernel) ⟨Nat.le_of_ble_eq_true rfl, Nat.le_of_ble_eq_true rfl⟩) ⟨zU_blind, fun U hU hW => ⟨rfl, zU_call hU hPc hW.alike hK hDc⟩⟩ rfl rfl hl.1 rfl (lv_room (Nat.le_of_ble_eq_true rfl)) dX4_wordOf_64 ⟨(Nat.zero_le _), (Nat.zero_le _)⟩) hS (fun q _ h => hFc q h) hFc (fun zr u t H1 locs ht hvm hw hB hz1 hk1 hS => ?_)
  obtain ⟨hP1, hD1⟩ := hB
  rw [ht] at hP1
  obtain ⟨hP, hD⟩ := va_join (wr := []) (w1 := []) hP hD [] [] rfl rfl (by decide) (by decide) hk1 hFc hP1 hD1
  generalize H1 = H at hP hS ⊢
  have hP := hP.sub (ws' := []) [] rfl
  have hD := hD.sub (ws' := []) [] (by decide) rfl
  clear hPc hDc hFc hP1 hD1 hk1 hz1
  have hw_4 := hw
  obtain rfl := hw
  refine W.widen (k := 0) (n := 0) (by omega) (by omega) ?_
  exact W.lret (v := (lwd 104 101 97 114 100 0 0)) hx hb hr (fun t ht hW => ⟨⟨lwd 104 101 97 114 100 0 0, (), rfl, rfl, ⟨by rw [ht]; exact hP, by rw [hAe]; exact hD⟩⟩, hS.F ht⟩) hS.2.2 dX4_wordOf_67
set_option maxHeartbeats 4000000 in
set_option maxRecDepth 100000 in
theorem c_wordOf_3 (l : Launch) (D : va_G) (cA : Nat → ClassId) (sz : Nat)   : Met l yX4_wordOf wsX4_wordOf ({ frames := 1, cells := 0, slots := 0, locals := 26 }) (va_Pc [.int 3] (zU D cA sz [])) (va_Ql (fun (r : Int64) (_ : Unit) => r = zWd.getD 3 0) (fun (_ : Unit) t => zB D [] sz [] t) (va_A [] sz)) 0 0 (va_A [] sz) := by
  refine Met.ofW (cc := cX4_wordOf) (maxL := 1) (ret := (some .long)) (by decide) rfl ?_
  intro p e s m args below meth c s₁ B hml hv
  obtain ⟨rfl, hsz, hP, hK, hD0⟩ := hv
  have hx := B.exec
  have hb := B.bytes
  have hr := B.returns
  have hts := atoms_spec (ws := wsX4_wordOf) B.pre
  have hown : s.vm.findClass RX4 = some m.cls := findClass_of_methodNamed B.named
  have hlocks := B.notSynchronized
  subst hsz
  have hD := hD0.self (sz := s.heap.size)
  generalize hAe : va_A [] s.heap.size = A at hD ⊢
  have hA : ∀ q : Nat, s.heap.size ≤ q → A q := fun q h => by rw [← hAe]; exact Or.inr h
  have hS : va_S A s.heap s.heap [] := va_S.rf
  have hl := lv_entry ([.int 3]) (n := 1) (Nat.le_of_ble_eq_true rfl)
  rw [lg_entry_eq]
  generalize (lg_sl ([.int 3]) ++ List.replicate (1 - (lg_sl ([.int 3])).length) Slot.unset).toArray = ls at hl ⊢
  have hl : lv_has ls 1 [(0, .int 3)] := hl
  refine lv_iload_n hx hb dX4_wordOf_0 rfl (lv_at hl 0 rfl) ?_
  refine lv_iconst (v := 3) hx hb dX4_wordOf_1 (by decide) ?_
  refine lv_icmp_ge (tgt := 68) hx hb dX4_wordOf_2 (by decide) (fun _ => ?_) (fun c_1 => absurd c_1 (by decide))
  refine lv_iload_n hx hb dX4_wordOf_68 rfl (lv_at hl 0 rfl) ?_
  refine lv_iconst (v := 5) hx hb dX4_wordOf_69 (by decide) ?_
  refine lv_icmp_ge (tgt := 112) hx hb dX4_wordOf_70 (by decide) (fun c_2 => absurd c_2 (by decide)) (fun _ => ?_)
  refine lv_iload_n hx hb dX4_wordOf_73 rfl (lv_at hl 0 rfl) ?_
  refine lv_iconst (v := 3) hx hb dX4_wordOf_74 (by decide) ?_
  refine lv_icmp_ne (tgt := 95) hx hb dX4_wordOf_75 (by decide) (fun c_3 => absurd c_3 (by decide)) (fun _ => ?_)
  refine lv_bipush (v := 116) hx hb dX4_wordOf_78 (by decide) ?_
  refine lv_bipush (v := 111) hx hb dX4_wordOf_80 (by decide) ?_
  refine lv_bipush (v := 108) hx hb dX4_wordOf_82 (by decide) ?_
  refine lv_bipush (v := 100) hx hb dX4_wordOf_84 (by decide) ?_
  refine lv_iconst (v := 0) hx hb dX4_wordOf_86 (by decide) ?_
  refine lv_iconst (v := 0) hx hb dX4_wordOf_87 (by decide) ?_
  refine lv_iconst (v := 0) hx hb dX4_wordOf_88 (by decide) ?_
  have hPc := hP.sub (ws' := []) [] rfl
  have hDc := hD.sub (ws' := []) [] (by decide) rfl
  have hFc := va_free (wc := []) hD hS hA [] rfl
  refine va_calll (va_runS (As := [.int 116, .int 111, .int 108, .int 100, .int 0, .int 0, .int 0]) (rest := []) ⟨hx, hb, hml, hown, hts⟩ (c_X4_word l D cA s.heap.size 116 111 108 100 0 0 0) (va_cwS 7 hts gX4_wordOf_X4_word rfl rfl rfl (by decide +kernel) ⟨Nat.le_of_ble_eq_true rfl, Nat.le_of_ble_eq_true rfl⟩) ⟨zU_blind, fun U hU hW => ⟨rfl, zU_call hU hPc hW.alike hK hDc⟩⟩ rfl rfl hl.1 rfl (lv_room (Nat.le_of_ble_eq_true rfl)) dX4_wordOf_89 ⟨(Nat.zero_le _), (Nat.zero_le _)⟩) hS (fun q _ h => hFc q h) hFc (fun zr u t H1 locs ht hvm hw hB hz1 hk1 hS => ?_)
  obtain ⟨hP1, hD1⟩ := hB
  rw [ht] at hP1
  obtain ⟨hP, hD⟩ := va_join (wr := []) (w1 := []) hP hD [] [] rfl rfl (by decide) (by decide) hk1 hFc hP1 hD1
  generalize H1 = H at hP hS ⊢
  have hP := hP.sub (ws' := []) [] rfl
  have hD := hD.sub (ws' := []) [] (by decide) rfl
  clear hPc hDc hFc hP1 hD1 hk1 hz1
  have hw_4 := hw
  obtain rfl := hw
  refine lv_goto (tgt := 111) hx hb dX4_wordOf_92 (by decide) ?_
  refine W.widen (k := 0) (n := 0) (by omega) (by omega) ?_
  exact W.lret (v := (lwd 116 111 108 100 0 0 0)) hx hb hr (fun t ht hW => ⟨⟨lwd 116 111 108 100 0 0 0, (), rfl, rfl, ⟨by rw [ht]; exact hP, by rw [hAe]; exact hD⟩⟩, hS.F ht⟩) hS.2.2 dX4_wordOf_111
set_option maxHeartbeats 4000000 in
set_option maxRecDepth 100000 in
theorem c_wordOf_4 (l : Launch) (D : va_G) (cA : Nat → ClassId) (sz : Nat)   : Met l yX4_wordOf wsX4_wordOf ({ frames := 1, cells := 0, slots := 0, locals := 26 }) (va_Pc [.int 4] (zU D cA sz [])) (va_Ql (fun (r : Int64) (_ : Unit) => r = zWd.getD 4 0) (fun (_ : Unit) t => zB D [] sz [] t) (va_A [] sz)) 0 0 (va_A [] sz) := by
  refine Met.ofW (cc := cX4_wordOf) (maxL := 1) (ret := (some .long)) (by decide) rfl ?_
  intro p e s m args below meth c s₁ B hml hv
  obtain ⟨rfl, hsz, hP, hK, hD0⟩ := hv
  have hx := B.exec
  have hb := B.bytes
  have hr := B.returns
  have hts := atoms_spec (ws := wsX4_wordOf) B.pre
  have hown : s.vm.findClass RX4 = some m.cls := findClass_of_methodNamed B.named
  have hlocks := B.notSynchronized
  subst hsz
  have hD := hD0.self (sz := s.heap.size)
  generalize hAe : va_A [] s.heap.size = A at hD ⊢
  have hA : ∀ q : Nat, s.heap.size ≤ q → A q := fun q h => by rw [← hAe]; exact Or.inr h
  have hS : va_S A s.heap s.heap [] := va_S.rf
  have hl := lv_entry ([.int 4]) (n := 1) (Nat.le_of_ble_eq_true rfl)
  rw [lg_entry_eq]
  generalize (lg_sl ([.int 4]) ++ List.replicate (1 - (lg_sl ([.int 4])).length) Slot.unset).toArray = ls at hl ⊢
  have hl : lv_has ls 1 [(0, .int 4)] := hl
  refine lv_iload_n hx hb dX4_wordOf_0 rfl (lv_at hl 0 rfl) ?_
  refine lv_iconst (v := 3) hx hb dX4_wordOf_1 (by decide) ?_
  refine lv_icmp_ge (tgt := 68) hx hb dX4_wordOf_2 (by decide) (fun _ => ?_) (fun c_1 => absurd c_1 (by decide))
  refine lv_iload_n hx hb dX4_wordOf_68 rfl (lv_at hl 0 rfl) ?_
  refine lv_iconst (v := 5) hx hb dX4_wordOf_69 (by decide) ?_
  refine lv_icmp_ge (tgt := 112) hx hb dX4_wordOf_70 (by decide) (fun c_2 => absurd c_2 (by decide)) (fun _ => ?_)
  refine lv_iload_n hx hb dX4_wordOf_73 rfl (lv_at hl 0 rfl) ?_
  refine lv_iconst (v := 3) hx hb dX4_wordOf_74 (by decide) ?_
  refine lv_icmp_ne (tgt := 95) hx hb dX4_wordOf_75 (by decide) (fun _ => ?_) (fun c_3 => absurd c_3 (by decide))
  refine lv_bipush (v := 111) hx hb dX4_wordOf_95 (by decide) ?_
  refine lv_bipush (v := 112) hx hb dX4_wordOf_97 (by decide) ?_
  refine lv_bipush (v := 101) hx hb dX4_wordOf_99 (by decide) ?_
  refine lv_bipush (v := 110) hx hb dX4_wordOf_101 (by decide) ?_
  refine lv_bipush (v := 101) hx hb dX4_wordOf_103 (by decide) ?_
  refine lv_bipush (v := 100) hx hb dX4_wordOf_105 (by decide) ?_
  refine lv_iconst (v := 0) hx hb dX4_wordOf_107 (by decide) ?_
  have hPc := hP.sub (ws' := []) [] rfl
  have hDc := hD.sub (ws' := []) [] (by decide) rfl
  have hFc := va_free (wc := []) hD hS hA [] rfl
  refine va_calll (va_runS (As := [.int 111, .int 112, .int 101, .int 110, .int 101, .int 100, .int 0]) (rest := []) ⟨hx, hb, hml, hown, hts⟩ (c_X4_word l D cA s.heap.size 111 112 101 110 101 100 0) (va_cwS 7 hts gX4_wordOf_X4_word rfl rfl rfl (by decide +kernel) ⟨Nat.le_of_ble_eq_true rfl, Nat.le_of_ble_eq_true rfl⟩) ⟨zU_blind, fun U hU hW => ⟨rfl, zU_call hU hPc hW.alike hK hDc⟩⟩ rfl rfl hl.1 rfl (lv_room (Nat.le_of_ble_eq_true rfl)) dX4_wordOf_108 ⟨(Nat.zero_le _), (Nat.zero_le _)⟩) hS (fun q _ h => hFc q h) hFc (fun zr u t H1 locs ht hvm hw hB hz1 hk1 hS => ?_)
  obtain ⟨hP1, hD1⟩ := hB
  rw [ht] at hP1
  obtain ⟨hP, hD⟩ := va_join (wr := []) (w1 := []) hP hD [] [] rfl rfl (by decide) (by decide) hk1 hFc hP1 hD1
  generalize H1 = H at hP hS ⊢
  have hP := hP.sub (ws' := []) [] rfl
  have hD := hD.sub (ws' := []) [] (by decide) rfl
  clear hPc hDc hFc hP1 hD1 hk1 hz1
  have hw_4 := hw
  obtain rfl := hw
  refine W.widen (k := 0) (n := 0) (by omega) (by omega) ?_
  exact W.lret (v := (lwd 111 112 101 110 101 100 0)) hx hb hr (fun t ht hW => ⟨⟨lwd 111 112 101 110 101 100 0, (), rfl, rfl, ⟨by rw [ht]; exact hP, by rw [hAe]; exact hD⟩⟩, hS.F ht⟩) hS.2.2 dX4_wordOf_111
set_option maxHeartbeats 4000000 in
set_option maxRecDepth 100000 in
theorem c_wordOf_5 (l : Launch) (D : va_G) (cA : Nat → ClassId) (sz : Nat)   : Met l yX4_wordOf wsX4_wordOf ({ frames := 1, cells := 0, slots := 0, locals := 26 }) (va_Pc [.int 5] (zU D cA sz [])) (va_Ql (fun (r : Int64) (_ : Unit) => r = zWd.getD 5 0) (fun (_ : Unit) t => zB D [] sz [] t) (va_A [] sz)) 0 0 (va_A [] sz) := by
  refine Met.ofW (cc := cX4_wordOf) (maxL := 1) (ret := (some .long)) (by decide) rfl ?_
  intro p e s m args below meth c s₁ B hml hv
  obtain ⟨rfl, hsz, hP, hK, hD0⟩ := hv
  have hx := B.exec
  have hb := B.bytes
  have hr := B.returns
  have hts := atoms_spec (ws := wsX4_wordOf) B.pre
  have hown : s.vm.findClass RX4 = some m.cls := findClass_of_methodNamed B.named
  have hlocks := B.notSynchronized
  subst hsz
  have hD := hD0.self (sz := s.heap.size)
  generalize hAe : va_A [] s.heap.size = A at hD ⊢
  have hA : ∀ q : Nat, s.heap.size ≤ q → A q := fun q h => by rw [← hAe]; exact Or.inr h
  have hS : va_S A s.heap s.heap [] := va_S.rf
  have hl := lv_entry ([.int 5]) (n := 1) (Nat.le_of_ble_eq_true rfl)
  rw [lg_entry_eq]
  generalize (lg_sl ([.int 5]) ++ List.replicate (1 - (lg_sl ([.int 5])).length) Slot.unset).toArray = ls at hl ⊢
  have hl : lv_has ls 1 [(0, .int 5)] := hl
  refine lv_iload_n hx hb dX4_wordOf_0 rfl (lv_at hl 0 rfl) ?_
  refine lv_iconst (v := 3) hx hb dX4_wordOf_1 (by decide) ?_
  refine lv_icmp_ge (tgt := 68) hx hb dX4_wordOf_2 (by decide) (fun _ => ?_) (fun c_1 => absurd c_1 (by decide))
  refine lv_iload_n hx hb dX4_wordOf_68 rfl (lv_at hl 0 rfl) ?_
  refine lv_iconst (v := 5) hx hb dX4_wordOf_69 (by decide) ?_
  refine lv_icmp_ge (tgt := 112) hx hb dX4_wordOf_70 (by decide) (fun _ => ?_) (fun c_2 => absurd c_2 (by decide))
  refine lv_iload_n hx hb dX4_wordOf_112 rfl (lv_at hl 0 rfl) ?_
  refine lv_iconst (v := 5) hx hb dX4_wordOf_113 (by decide) ?_
  refine lv_icmp_ne (tgt := 137) hx hb dX4_wordOf_114 (by decide) (fun c_3 => absurd c_3 (by decide)) (fun _ => ?_)
  refine lv_bipush (v := 99) hx hb dX4_wordOf_117 (by decide) ?_
  refine lv_bipush (v := 108) hx hb dX4_wordOf_119 (by decide) ?_
  refine lv_bipush (v := 111) hx hb dX4_wordOf_121 (by decide) ?_
  refine lv_bipush (v := 115) hx hb dX4_wordOf_123 (by decide) ?_
  refine lv_bipush (v := 105) hx hb dX4_wordOf_125 (by decide) ?_
  refine lv_bipush (v := 110) hx hb dX4_wordOf_127 (by decide) ?_
  refine lv_bipush (v := 103) hx hb dX4_wordOf_129 (by decide) ?_
  have hPc := hP.sub (ws' := []) [] rfl
  have hDc := hD.sub (ws' := []) [] (by decide) rfl
  have hFc := va_free (wc := []) hD hS hA [] rfl
  refine va_calll (va_runS (As := [.int 99, .int 108, .int 111, .int 115, .int 105, .int 110, .int 103]) (rest := []) ⟨hx, hb, hml, hown, hts⟩ (c_X4_word l D cA s.heap.size 99 108 111 115 105 110 103) (va_cwS 7 hts gX4_wordOf_X4_word rfl rfl rfl (by decide +kernel) ⟨Nat.le_of_ble_eq_true rfl, Nat.le_of_ble_eq_true rfl⟩) ⟨zU_blind, fun U hU hW => ⟨rfl, zU_call hU hPc hW.alike hK hDc⟩⟩ rfl rfl hl.1 rfl (lv_room (Nat.le_of_ble_eq_true rfl)) dX4_wordOf_131 ⟨(Nat.zero_le _), (Nat.zero_le _)⟩) hS (fun q _ h => hFc q h) hFc (fun zr u t H1 locs ht hvm hw hB hz1 hk1 hS => ?_)
  obtain ⟨hP1, hD1⟩ := hB
  rw [ht] at hP1
  obtain ⟨hP, hD⟩ := va_join (wr := []) (w1 := []) hP hD [] [] rfl rfl (by decide) (by decide) hk1 hFc hP1 hD1
  generalize H1 = H at hP hS ⊢
  have hP := hP.sub (ws' := []) [] rfl
  have hD := hD.sub (ws' := []) [] (by decide) rfl
  clear hPc hDc hFc hP1 hD1 hk1 hz1
  have hw_4 := hw
  obtain rfl := hw
  refine lv_goto (tgt := 178) hx hb dX4_wordOf_134 (by decide) ?_
  refine W.widen (k := 0) (n := 0) (by omega) (by omega) ?_
  exact W.lret (v := (lwd 99 108 111 115 105 110 103)) hx hb hr (fun t ht hW => ⟨⟨lwd 99 108 111 115 105 110 103, (), rfl, rfl, ⟨by rw [ht]; exact hP, by rw [hAe]; exact hD⟩⟩, hS.F ht⟩) hS.2.2 dX4_wordOf_178
set_option maxHeartbeats 4000000 in
set_option maxRecDepth 100000 in
theorem c_wordOf_6 (l : Launch) (D : va_G) (cA : Nat → ClassId) (sz : Nat)   : Met l yX4_wordOf wsX4_wordOf ({ frames := 1, cells := 0, slots := 0, locals := 26 }) (va_Pc [.int 6] (zU D cA sz [])) (va_Ql (fun (r : Int64) (_ : Unit) => r = zWd.getD 6 0) (fun (_ : Unit) t => zB D [] sz [] t) (va_A [] sz)) 0 0 (va_A [] sz) := by
  refine Met.ofW (cc := cX4_wordOf) (maxL := 1) (ret := (some .long)) (by decide) rfl ?_
  intro p e s m args below meth c s₁ B hml hv
  obtain ⟨rfl, hsz, hP, hK, hD0⟩ := hv
  have hx := B.exec
  have hb := B.bytes
  have hr := B.returns
  have hts := atoms_spec (ws := wsX4_wordOf) B.pre
  have hown : s.vm.findClass RX4 = some m.cls := findClass_of_methodNamed B.named
  have hlocks := B.notSynchronized
  subst hsz
  have hD := hD0.self (sz := s.heap.size)
  generalize hAe : va_A [] s.heap.size = A at hD ⊢
  have hA : ∀ q : Nat, s.heap.size ≤ q → A q := fun q h => by rw [← hAe]; exact Or.inr h
  have hS : va_S A s.heap s.heap [] := va_S.rf
  have hl := lv_entry ([.int 6]) (n := 1) (Nat.le_of_ble_eq_true rfl)
  rw [lg_entry_eq]
  generalize (lg_sl ([.int 6]) ++ List.replicate (1 - (lg_sl ([.int 6])).length) Slot.unset).toArray = ls at hl ⊢
  have hl : lv_has ls 1 [(0, .int 6)] := hl
  refine lv_iload_n hx hb dX4_wordOf_0 rfl (lv_at hl 0 rfl) ?_
  refine lv_iconst (v := 3) hx hb dX4_wordOf_1 (by decide) ?_
  refine lv_icmp_ge (tgt := 68) hx hb dX4_wordOf_2 (by decide) (fun _ => ?_) (fun c_1 => absurd c_1 (by decide))
  refine lv_iload_n hx hb dX4_wordOf_68 rfl (lv_at hl 0 rfl) ?_
  refine lv_iconst (v := 5) hx hb dX4_wordOf_69 (by decide) ?_
  refine lv_icmp_ge (tgt := 112) hx hb dX4_wordOf_70 (by decide) (fun _ => ?_) (fun c_2 => absurd c_2 (by decide))
  refine lv_iload_n hx hb dX4_wordOf_112 rfl (lv_at hl 0 rfl) ?_
  refine lv_iconst (v := 5) hx hb dX4_wordOf_113 (by decide) ?_
  refine lv_icmp_ne (tgt := 137) hx hb dX4_wordOf_114 (by decide) (fun _ => ?_) (fun c_3 => absurd c_3 (by decide))
  refine lv_iload_n hx hb dX4_wordOf_137 rfl (lv_at hl 0 rfl) ?_
  refine lv_bipush (v := 6) hx hb dX4_wordOf_138 (by decide) ?_
  refine lv_icmp_ne (tgt := 162) hx hb dX4_wordOf_140 (by decide) (fun c_4 => absurd c_4 (by decide)) (fun _ => ?_)
  refine lv_bipush (v := 102) hx hb dX4_wordOf_143 (by decide) ?_
  refine lv_bipush (v := 97) hx hb dX4_wordOf_145 (by decide) ?_
  refine lv_bipush (v := 105) hx hb dX4_wordOf_147 (by decide) ?_
  refine lv_bipush (v := 108) hx hb dX4_wordOf_149 (by decide) ?_
  refine lv_bipush (v := 101) hx hb dX4_wordOf_151 (by decide) ?_
  refine lv_bipush (v := 100) hx hb dX4_wordOf_153 (by decide) ?_
  refine lv_iconst (v := 0) hx hb dX4_wordOf_155 (by decide) ?_
  have hPc := hP.sub (ws' := []) [] rfl
  have hDc := hD.sub (ws' := []) [] (by decide) rfl
  have hFc := va_free (wc := []) hD hS hA [] rfl
  refine va_calll (va_runS (As := [.int 102, .int 97, .int 105, .int 108, .int 101, .int 100, .int 0]) (rest := []) ⟨hx, hb, hml, hown, hts⟩ (c_X4_word l D cA s.heap.size 102 97 105 108 101 100 0) (va_cwS 7 hts gX4_wordOf_X4_word rfl rfl rfl (by decide +kernel) ⟨Nat.le_of_ble_eq_true rfl, Nat.le_of_ble_eq_true rfl⟩) ⟨zU_blind, fun U hU hW => ⟨rfl, zU_call hU hPc hW.alike hK hDc⟩⟩ rfl rfl hl.1 rfl (lv_room (Nat.le_of_ble_eq_true rfl)) dX4_wordOf_156 ⟨(Nat.zero_le _), (Nat.zero_le _)⟩) hS (fun q _ h => hFc q h) hFc (fun zr u t H1 locs ht hvm hw hB hz1 hk1 hS => ?_)
  obtain ⟨hP1, hD1⟩ := hB
  rw [ht] at hP1
  obtain ⟨hP, hD⟩ := va_join (wr := []) (w1 := []) hP hD [] [] rfl rfl (by decide) (by decide) hk1 hFc hP1 hD1
  generalize H1 = H at hP hS ⊢
  have hP := hP.sub (ws' := []) [] rfl
  have hD := hD.sub (ws' := []) [] (by decide) rfl
  clear hPc hDc hFc hP1 hD1 hk1 hz1
  have hw_5 := hw
  obtain rfl := hw
  refine lv_goto (tgt := 178) hx hb dX4_wordOf_159 (by decide) ?_
  refine W.widen (k := 0) (n := 0) (by omega) (by omega) ?_
  exact W.lret (v := (lwd 102 97 105 108 101 100 0)) hx hb hr (fun t ht hW => ⟨⟨lwd 102 97 105 108 101 100 0, (), rfl, rfl, ⟨by rw [ht]; exact hP, by rw [hAe]; exact hD⟩⟩, hS.F ht⟩) hS.2.2 dX4_wordOf_178
set_option maxHeartbeats 4000000 in
set_option maxRecDepth 100000 in
theorem c_wordOf_7 (l : Launch) (D : va_G) (cA : Nat → ClassId) (sz : Nat)   : Met l yX4_wordOf wsX4_wordOf ({ frames := 1, cells := 0, slots := 0, locals := 26 }) (va_Pc [.int 7] (zU D cA sz [])) (va_Ql (fun (r : Int64) (_ : Unit) => r = zWd.getD 7 0) (fun (_ : Unit) t => zB D [] sz [] t) (va_A [] sz)) 0 0 (va_A [] sz) := by
  refine Met.ofW (cc := cX4_wordOf) (maxL := 1) (ret := (some .long)) (by decide) rfl ?_
  intro p e s m args below meth c s₁ B hml hv
  obtain ⟨rfl, hsz, hP, hK, hD0⟩ := hv
  have hx := B.exec
  have hb := B.bytes
  have hr := B.returns
  have hts := atoms_spec (ws := wsX4_wordOf) B.pre
  have hown : s.vm.findClass RX4 = some m.cls := findClass_of_methodNamed B.named
  have hlocks := B.notSynchronized
  subst hsz
  have hD := hD0.self (sz := s.heap.size)
  generalize hAe : va_A [] s.heap.size = A at hD ⊢
  have hA : ∀ q : Nat, s.heap.size ≤ q → A q := fun q h => by rw [← hAe]; exact Or.inr h
  have hS : va_S A s.heap s.heap [] := va_S.rf
  have hl := lv_entry ([.int 7]) (n := 1) (Nat.le_of_ble_eq_true rfl)
  rw [lg_entry_eq]
  generalize (lg_sl ([.int 7]) ++ List.replicate (1 - (lg_sl ([.int 7])).length) Slot.unset).toArray = ls at hl ⊢
  have hl : lv_has ls 1 [(0, .int 7)] := hl
  refine lv_iload_n hx hb dX4_wordOf_0 rfl (lv_at hl 0 rfl) ?_
  refine lv_iconst (v := 3) hx hb dX4_wordOf_1 (by decide) ?_
  refine lv_icmp_ge (tgt := 68) hx hb dX4_wordOf_2 (by decide) (fun _ => ?_) (fun c_1 => absurd c_1 (by decide))
  refine lv_iload_n hx hb dX4_wordOf_68 rfl (lv_at hl 0 rfl) ?_
  refine lv_iconst (v := 5) hx hb dX4_wordOf_69 (by decide) ?_
  refine lv_icmp_ge (tgt := 112) hx hb dX4_wordOf_70 (by decide) (fun _ => ?_) (fun c_2 => absurd c_2 (by decide))
  refine lv_iload_n hx hb dX4_wordOf_112 rfl (lv_at hl 0 rfl) ?_
  refine lv_iconst (v := 5) hx hb dX4_wordOf_113 (by decide) ?_
  refine lv_icmp_ne (tgt := 137) hx hb dX4_wordOf_114 (by decide) (fun _ => ?_) (fun c_3 => absurd c_3 (by decide))
  refine lv_iload_n hx hb dX4_wordOf_137 rfl (lv_at hl 0 rfl) ?_
  refine lv_bipush (v := 6) hx hb dX4_wordOf_138 (by decide) ?_
  refine lv_icmp_ne (tgt := 162) hx hb dX4_wordOf_140 (by decide) (fun _ => ?_) (fun c_4 => absurd c_4 (by decide))
  refine lv_bipush (v := 108) hx hb dX4_wordOf_162 (by decide) ?_
  refine lv_bipush (v := 111) hx hb dX4_wordOf_164 (by decide) ?_
  refine lv_bipush (v := 111) hx hb dX4_wordOf_166 (by decide) ?_
  refine lv_bipush (v := 112) hx hb dX4_wordOf_168 (by decide) ?_
  refine lv_bipush (v := 101) hx hb dX4_wordOf_170 (by decide) ?_
  refine lv_bipush (v := 100) hx hb dX4_wordOf_172 (by decide) ?_
  refine lv_iconst (v := 0) hx hb dX4_wordOf_174 (by decide) ?_
  have hPc := hP.sub (ws' := []) [] rfl
  have hDc := hD.sub (ws' := []) [] (by decide) rfl
  have hFc := va_free (wc := []) hD hS hA [] rfl
  refine va_calll (va_runS (As := [.int 108, .int 111, .int 111, .int 112, .int 101, .int 100, .int 0]) (rest := []) ⟨hx, hb, hml, hown, hts⟩ (c_X4_word l D cA s.heap.size 108 111 111 112 101 100 0) (va_cwS 7 hts gX4_wordOf_X4_word rfl rfl rfl (by decide +kernel) ⟨Nat.le_of_ble_eq_true rfl, Nat.le_of_ble_eq_true rfl⟩) ⟨zU_blind, fun U hU hW => ⟨rfl, zU_call hU hPc hW.alike hK hDc⟩⟩ rfl rfl hl.1 rfl (lv_room (Nat.le_of_ble_eq_true rfl)) dX4_wordOf_175 ⟨(Nat.zero_le _), (Nat.zero_le _)⟩) hS (fun q _ h => hFc q h) hFc (fun zr u t H1 locs ht hvm hw hB hz1 hk1 hS => ?_)
  obtain ⟨hP1, hD1⟩ := hB
  rw [ht] at hP1
  obtain ⟨hP, hD⟩ := va_join (wr := []) (w1 := []) hP hD [] [] rfl rfl (by decide) (by decide) hk1 hFc hP1 hD1
  generalize H1 = H at hP hS ⊢
  have hP := hP.sub (ws' := []) [] rfl
  have hD := hD.sub (ws' := []) [] (by decide) rfl
  clear hPc hDc hFc hP1 hD1 hk1 hz1
  have hw_5 := hw
  obtain rfl := hw
  refine W.widen (k := 0) (n := 0) (by omega) (by omega) ?_
  exact W.lret (v := (lwd 108 111 111 112 101 100 0)) hx hb hr (fun t ht hW => ⟨⟨lwd 108 111 111 112 101 100 0, (), rfl, rfl, ⟨by rw [ht]; exact hP, by rw [hAe]; exact hD⟩⟩, hS.F ht⟩) hS.2.2 dX4_wordOf_178
set_option maxHeartbeats 4000000 in
set_option maxRecDepth 100000 in
theorem c_X4_wordOf (l : Launch) (D : va_G) (cA : Nat → ClassId) (sz : Nat) (k : Nat) (hk : k < 8) : Met l yX4_wordOf wsX4_wordOf ({ frames := 1, cells := 0, slots := 0, locals := 26 }) (va_Pc [.int (nI k)] (zU D cA sz [])) (va_Ql (fun (r : Int64) (_ : Unit) => r = zWd.getD k 0) (fun (_ : Unit) t => zB D [] sz [] t) (va_A [] sz)) 0 0 (va_A [] sz) := by
  match k, hk with
  | 0, _ => exact c_wordOf_0 l D cA sz
  | 1, _ => exact c_wordOf_1 l D cA sz
  | 2, _ => exact c_wordOf_2 l D cA sz
  | 3, _ => exact c_wordOf_3 l D cA sz
  | 4, _ => exact c_wordOf_4 l D cA sz
  | 5, _ => exact c_wordOf_5 l D cA sz
  | 6, _ => exact c_wordOf_6 l D cA sz
  | 7, _ => exact c_wordOf_7 l D cA sz
  | _ + 8, h => exact absurd h (by omega)
set_option maxHeartbeats 4000000 in
set_option maxRecDepth 100000 in
theorem c_X4_letters (l : Launch) (D : va_G) (cA : Nat → ClassId) (sz : Nat) (k : Nat) (hk : k < 8) : Met l yX4_letters wsX4_letters ({ frames := 0, cells := 0, slots := 0, locals := 0 }) (va_Pc [.long (zWd.getD k 0)] (zU D cA sz [])) (va_Qi (fun (r : Int32) (_ : Unit) => r = nI (zLen.getD k 0)) (fun (_ : Unit) t => zB D [] sz [] t) (va_A [] sz)) 0 0 (va_A [] sz) := by
  refine Met.ofW (cc := cX4_letters) (maxL := 3) (ret := (some .int)) (by decide) rfl ?_
  intro p e s m args below meth c s₁ B hml hv
  obtain ⟨rfl, hsz, hP, hK, hD0⟩ := hv
  have hx := B.exec
  have hb := B.bytes
  have hr := B.returns
  have hts := atoms_spec (ws := wsX4_letters) B.pre
  have hown : s.vm.findClass RX4 = some m.cls := findClass_of_methodNamed B.named
  have hlocks := B.notSynchronized
  subst hsz
  have hD := hD0.self (sz := s.heap.size)
  generalize hAe : va_A [] s.heap.size = A at hD ⊢
  have hA : ∀ q : Nat, s.heap.size ≤ q → A q := fun q h => by rw [← hAe]; exact Or.inr h
  have hS : va_S A s.heap s.heap [] := va_S.rf
  have hl := lv_entry ([.long (zWd.getD k 0)]) (n := 3) (Nat.le_of_ble_eq_true rfl)
  rw [lg_entry_eq]
  generalize (lg_sl ([.long (zWd.getD k 0)]) ++ List.replicate (3 - (lg_sl ([.long (zWd.getD k 0)])).length) Slot.unset).toArray = ls at hl ⊢
  have hl : lv_has ls 3 [(0, .long (zWd.getD k 0))] := hl
  refine lv_iconst (v := 0) hx hb dX4_letters_0 (by decide) ?_
  refine lv_istore_n (lv' := [(2, .int 0), (0, .long (zWd.getD k 0))]) hx hb dX4_letters_1 rfl hl (by decide) rfl (fun ls hl => ?_)
  refine z_loop (Inv := fun j H locs ls => va_P D vwCl [] H ∧ va_D A [] ∧ va_S A s.heap H locs ∧ lv_has ls 3 [(2, .int (nI j)), (0, .long (zWd.getD k 0))] ∧ j ≤ zLen.getD k 0) 7 (fun j hj_j ih_j H locs ls hI => ?_) ⟨hP, hD, hS, lv_sub hl [0, 1] rfl, (Nat.zero_le _)⟩
  obtain ⟨hP, hD, hS, hl, hjl⟩ := hI
  refine lv_iload_n hx hb dX4_letters_2 rfl (lv_at hl 0 rfl) ?_
  refine lv_bipush (v := 7) hx hb dX4_letters_3 (by decide) ?_
  refine lv_icmp_ge (tgt := 29) hx hb dX4_letters_5 (by decide) (fun c_1 => ?_) (fun c_1 => ?_)
  · have c_1 := (nI_leI (a := 7) (b := j) (by omega) (by omega)).mp c_1
    obtain rfl : j = (zLen.getD k 0) := (by have q9 := zlen7 hk; omega)
    refine lv_iload_n hx hb dX4_letters_29 rfl (lv_at hl 0 rfl) ?_
    refine W.widen (k := 0) (n := 0) (by omega) (by omega) ?_
    exact W.iret (v := (nI (zLen.getD k 0))) hx hb hr (fun t ht hW => ⟨⟨nI (zLen.getD k 0), (), rfl, rfl, ⟨by rw [ht]; exact hP, by rw [hAe]; exact hD⟩⟩, hS.F ht⟩) hS.2.2 dX4_letters_30
  · have c_1 := mt (nI_leI (a := 7) (b := j) (by omega) (by omega)).mpr c_1
    refine lv_lload_n hx hb dX4_letters_8 rfl (lv_at hl 1 rfl) ?_
    refine lv_bipush (v := 7) hx hb dX4_letters_9 (by decide) ?_
    refine lv_iload_n hx hb dX4_letters_11 rfl (lv_at hl 0 rfl) ?_
    refine lv_imul hx hb dX4_letters_12 ?_
    refine z_top (y := (nI (7 * j))) (z_mul 7 j) ?_
    refine lv_lshr (v := ((zWd.getD k 0) >>> ((nI (7 * j)).toInt64 &&& 63))) hx hb dX4_letters_13 rfl ?_
    refine lv_ldc2 (v := 127) hx hb hown (hts (.constantLong RX4 164 (127)) (List.mem_of_getElem? (i := 1) rfl)) dX4_letters_14 ?_
    refine lv_land hx hb dX4_letters_17 ?_
    refine lv_lconst (v := 0) hx hb dX4_letters_18 (by decide) ?_
    refine W.lcmp hx hb dX4_letters_19 ?_
    refine lv_if_le (tgt := 29) hx hb dX4_letters_20 (by decide) (fun c_2 => ?_) (fun c_2 => ?_)
    · skip
      have hz9 := (lch_le hk (by omega)).mp c_2
      obtain rfl : j = (zLen.getD k 0) := (by have q9 := zlen7 hk; omega)
      refine lv_iload_n hx hb dX4_letters_29 rfl (lv_at hl 0 rfl) ?_
      refine W.widen (k := 0) (n := 0) (by omega) (by omega) ?_
      exact W.iret (v := (nI (zLen.getD k 0))) hx hb hr (fun t ht hW => ⟨⟨nI (zLen.getD k 0), (), rfl, rfl, ⟨by rw [ht]; exact hP, by rw [hAe]; exact hD⟩⟩, hS.F ht⟩) hS.2.2 dX4_letters_30
    · skip
      have hz9 := mt (lch_le hk (by omega)).mpr c_2
      refine lv_iinc (v := nI (j + 1)) (lv' := [(2, .int (nI (j + 1))), (0, .long (zWd.getD k 0))]) hx hb dX4_letters_23 hl (k := 0) rfl (z_inc j 1) (by decide) rfl (fun ls hl => ?_)
      refine lv_goto (tgt := 2) hx hb dX4_letters_26 (by decide) ?_
      exact ih_j _ _ _ (by omega) ⟨hP, hD, hS, lv_sub hl [0, 1] rfl, (by omega)⟩
set_option maxHeartbeats 4000000 in
set_option maxRecDepth 100000 in
theorem c_dg_a (l : Launch) (D : va_G) (cA : Nat → ClassId) (sz : Nat) (v : Nat) (hv : v ≤ 9) : Met l yX4_digits wsX4_digits ({ frames := 0, cells := 0, slots := 0, locals := 0 }) (va_Pc [.int (nI v)] (zU D cA sz [])) (va_Qi (fun (r : Int32) (_ : Unit) => r = 1) (fun (_ : Unit) t => zB D [] sz [] t) (va_A [] sz)) 0 0 (va_A [] sz) := by
  refine Met.ofW (cc := cX4_digits) (maxL := 1) (ret := (some .int)) (by decide) rfl ?_
  intro p e s m args below meth c s₁ B hml hv
  obtain ⟨rfl, hsz, hP, hK, hD0⟩ := hv
  have hx := B.exec
  have hb := B.bytes
  have hr := B.returns
  have hts := atoms_spec (ws := wsX4_digits) B.pre
  have hown : s.vm.findClass RX4 = some m.cls := findClass_of_methodNamed B.named
  have hlocks := B.notSynchronized
  subst hsz
  have hD := hD0.self (sz := s.heap.size)
  generalize hAe : va_A [] s.heap.size = A at hD ⊢
  have hA : ∀ q : Nat, s.heap.size ≤ q → A q := fun q h => by rw [← hAe]; exact Or.inr h
  have hS : va_S A s.heap s.heap [] := va_S.rf
  have hl := lv_entry ([.int (nI v)]) (n := 1) (Nat.le_of_ble_eq_true rfl)
  rw [lg_entry_eq]
  generalize (lg_sl ([.int (nI v)]) ++ List.replicate (1 - (lg_sl ([.int (nI v)])).length) Slot.unset).toArray = ls at hl ⊢
  have hl : lv_has ls 1 [(0, .int (nI v))] := hl
  refine lv_iload_n hx hb dX4_digits_0 rfl (lv_at hl 0 rfl) ?_
  refine lv_bipush (v := 10) hx hb dX4_digits_1 (by decide) ?_
  refine lv_icmp_ge (tgt := 10) hx hb dX4_digits_3 (by decide) (fun c_1 => ?_) (fun c_1 => ?_)
  · have c_1 := (nI_leI (a := 10) (b := v) (by omega) (by omega)).mp c_1
    omega
  · have c_1 := mt (nI_leI (a := 10) (b := v) (by omega) (by omega)).mpr c_1
    refine lv_iconst (v := 1) hx hb dX4_digits_6 (by decide) ?_
    refine lv_goto (tgt := 21) hx hb dX4_digits_7 (by decide) ?_
    refine W.widen (k := 0) (n := 0) (by omega) (by omega) ?_
    exact W.iret (v := 1) hx hb hr (fun t ht hW => ⟨⟨1, (), rfl, rfl, ⟨by rw [ht]; exact hP, by rw [hAe]; exact hD⟩⟩, hS.F ht⟩) hS.2.2 dX4_digits_21
set_option maxHeartbeats 4000000 in
set_option maxRecDepth 100000 in
theorem c_dg_b (l : Launch) (D : va_G) (cA : Nat → ClassId) (sz : Nat) (v : Nat) (h1 : 10 ≤ v) (hv : v ≤ 99) : Met l yX4_digits wsX4_digits ({ frames := 0, cells := 0, slots := 0, locals := 0 }) (va_Pc [.int (nI v)] (zU D cA sz [])) (va_Qi (fun (r : Int32) (_ : Unit) => r = 2) (fun (_ : Unit) t => zB D [] sz [] t) (va_A [] sz)) 0 0 (va_A [] sz) := by
  refine Met.ofW (cc := cX4_digits) (maxL := 1) (ret := (some .int)) (by decide) rfl ?_
  intro p e s m args below meth c s₁ B hml hv
  obtain ⟨rfl, hsz, hP, hK, hD0⟩ := hv
  have hx := B.exec
  have hb := B.bytes
  have hr := B.returns
  have hts := atoms_spec (ws := wsX4_digits) B.pre
  have hown : s.vm.findClass RX4 = some m.cls := findClass_of_methodNamed B.named
  have hlocks := B.notSynchronized
  subst hsz
  have hD := hD0.self (sz := s.heap.size)
  generalize hAe : va_A [] s.heap.size = A at hD ⊢
  have hA : ∀ q : Nat, s.heap.size ≤ q → A q := fun q h => by rw [← hAe]; exact Or.inr h
  have hS : va_S A s.heap s.heap [] := va_S.rf
  have hl := lv_entry ([.int (nI v)]) (n := 1) (Nat.le_of_ble_eq_true rfl)
  rw [lg_entry_eq]
  generalize (lg_sl ([.int (nI v)]) ++ List.replicate (1 - (lg_sl ([.int (nI v)])).length) Slot.unset).toArray = ls at hl ⊢
  have hl : lv_has ls 1 [(0, .int (nI v))] := hl
  refine lv_iload_n hx hb dX4_digits_0 rfl (lv_at hl 0 rfl) ?_
  refine lv_bipush (v := 10) hx hb dX4_digits_1 (by decide) ?_
  refine lv_icmp_ge (tgt := 10) hx hb dX4_digits_3 (by decide) (fun c_1 => ?_) (fun c_1 => ?_)
  · have c_1 := (nI_leI (a := 10) (b := v) (by omega) (by omega)).mp c_1
    refine lv_iload_n hx hb dX4_digits_10 rfl (lv_at hl 0 rfl) ?_
    refine lv_bipush (v := 100) hx hb dX4_digits_11 (by decide) ?_
    refine lv_icmp_ge (tgt := 20) hx hb dX4_digits_13 (by decide) (fun c_2 => ?_) (fun c_2 => ?_)
    · have c_2 := (nI_leI (a := 100) (b := v) (by omega) (by omega)).mp c_2
      omega
    · have c_2 := mt (nI_leI (a := 100) (b := v) (by omega) (by omega)).mpr c_2
      refine lv_iconst (v := 2) hx hb dX4_digits_16 (by decide) ?_
      refine lv_goto (tgt := 21) hx hb dX4_digits_17 (by decide) ?_
      refine W.widen (k := 0) (n := 0) (by omega) (by omega) ?_
      exact W.iret (v := 2) hx hb hr (fun t ht hW => ⟨⟨2, (), rfl, rfl, ⟨by rw [ht]; exact hP, by rw [hAe]; exact hD⟩⟩, hS.F ht⟩) hS.2.2 dX4_digits_21
  · have c_1 := mt (nI_leI (a := 10) (b := v) (by omega) (by omega)).mpr c_1
    omega
set_option maxHeartbeats 4000000 in
set_option maxRecDepth 100000 in
theorem c_dg_c (l : Launch) (D : va_G) (cA : Nat → ClassId) (sz : Nat)   : Met l yX4_digits wsX4_digits ({ frames := 0, cells := 0, slots := 0, locals := 0 }) (va_Pc [.int 100] (zU D cA sz [])) (va_Qi (fun (r : Int32) (_ : Unit) => r = 3) (fun (_ : Unit) t => zB D [] sz [] t) (va_A [] sz)) 0 0 (va_A [] sz) := by
  refine Met.ofW (cc := cX4_digits) (maxL := 1) (ret := (some .int)) (by decide) rfl ?_
  intro p e s m args below meth c s₁ B hml hv
  obtain ⟨rfl, hsz, hP, hK, hD0⟩ := hv
  have hx := B.exec
  have hb := B.bytes
  have hr := B.returns
  have hts := atoms_spec (ws := wsX4_digits) B.pre
  have hown : s.vm.findClass RX4 = some m.cls := findClass_of_methodNamed B.named
  have hlocks := B.notSynchronized
  subst hsz
  have hD := hD0.self (sz := s.heap.size)
  generalize hAe : va_A [] s.heap.size = A at hD ⊢
  have hA : ∀ q : Nat, s.heap.size ≤ q → A q := fun q h => by rw [← hAe]; exact Or.inr h
  have hS : va_S A s.heap s.heap [] := va_S.rf
  have hl := lv_entry ([.int 100]) (n := 1) (Nat.le_of_ble_eq_true rfl)
  rw [lg_entry_eq]
  generalize (lg_sl ([.int 100]) ++ List.replicate (1 - (lg_sl ([.int 100])).length) Slot.unset).toArray = ls at hl ⊢
  have hl : lv_has ls 1 [(0, .int 100)] := hl
  refine lv_iload_n hx hb dX4_digits_0 rfl (lv_at hl 0 rfl) ?_
  refine lv_bipush (v := 10) hx hb dX4_digits_1 (by decide) ?_
  refine lv_icmp_ge (tgt := 10) hx hb dX4_digits_3 (by decide) (fun _ => ?_) (fun c_1 => absurd c_1 (by decide))
  refine lv_iload_n hx hb dX4_digits_10 rfl (lv_at hl 0 rfl) ?_
  refine lv_bipush (v := 100) hx hb dX4_digits_11 (by decide) ?_
  refine lv_icmp_ge (tgt := 20) hx hb dX4_digits_13 (by decide) (fun _ => ?_) (fun c_2 => absurd c_2 (by decide))
  refine lv_iconst (v := 3) hx hb dX4_digits_20 (by decide) ?_
  refine W.widen (k := 0) (n := 0) (by omega) (by omega) ?_
  exact W.iret (v := 3) hx hb hr (fun t ht hW => ⟨⟨3, (), rfl, rfl, ⟨by rw [ht]; exact hP, by rw [hAe]; exact hD⟩⟩, hS.F ht⟩) hS.2.2 dX4_digits_21
set_option maxHeartbeats 4000000 in
set_option maxRecDepth 100000 in
theorem c_X4_digits (l : Launch) (D : va_G) (cA : Nat → ClassId) (sz : Nat) (v : Nat) (hv : v ≤ 100) : Met l yX4_digits wsX4_digits ({ frames := 0, cells := 0, slots := 0, locals := 0 }) (va_Pc [.int (nI v)] (zU D cA sz [])) (va_Qi (fun (r : Int32) (_ : Unit) => r = nI (lnD v).length) (fun (_ : Unit) t => zB D [] sz [] t) (va_A [] sz)) 0 0 (va_A [] sz) := by
  refine Met.ofW (cc := cX4_digits) (maxL := 1) (ret := (some .int)) (by decide) rfl ?_
  intro p e s m args below meth c s₁ B hml hv
  obtain ⟨rfl, hsz, hP, hK, hD0⟩ := hv
  have hx := B.exec
  have hb := B.bytes
  have hr := B.returns
  have hts := atoms_spec (ws := wsX4_digits) B.pre
  have hown : s.vm.findClass RX4 = some m.cls := findClass_of_methodNamed B.named
  have hlocks := B.notSynchronized
  subst hsz
  have hD := hD0.self (sz := s.heap.size)
  generalize hAe : va_A [] s.heap.size = A at hD ⊢
  have hA : ∀ q : Nat, s.heap.size ≤ q → A q := fun q h => by rw [← hAe]; exact Or.inr h
  have hS : va_S A s.heap s.heap [] := va_S.rf
  have hl := lv_entry ([.int (nI v)]) (n := 1) (Nat.le_of_ble_eq_true rfl)
  rw [lg_entry_eq]
  generalize (lg_sl ([.int (nI v)]) ++ List.replicate (1 - (lg_sl ([.int (nI v)])).length) Slot.unset).toArray = ls at hl ⊢
  have hl : lv_has ls 1 [(0, .int (nI v))] := hl
  refine lv_iload_n hx hb dX4_digits_0 rfl (lv_at hl 0 rfl) ?_
  refine lv_bipush (v := 10) hx hb dX4_digits_1 (by decide) ?_
  refine lv_icmp_ge (tgt := 10) hx hb dX4_digits_3 (by decide) (fun c_1 => ?_) (fun c_1 => ?_)
  · have c_1 := (nI_leI (a := 10) (b := v) (by omega) (by omega)).mp c_1
    refine lv_iload_n hx hb dX4_digits_10 rfl (lv_at hl 0 rfl) ?_
    refine lv_bipush (v := 100) hx hb dX4_digits_11 (by decide) ?_
    refine lv_icmp_ge (tgt := 20) hx hb dX4_digits_13 (by decide) (fun c_2 => ?_) (fun c_2 => ?_)
    · have c_2 := (nI_leI (a := 100) (b := v) (by omega) (by omega)).mp c_2
      refine lv_iconst (v := 3) hx hb dX4_digits_20 (by decide) ?_
      refine W.widen (k := 0) (n := 0) (by omega) (by omega) ?_
      exact W.iret (v := 3) hx hb hr (fun t ht hW => ⟨⟨3, (), rfl, (by rw [lnD_c (by omega)]; rfl), ⟨by rw [ht]; exact hP, by rw [hAe]; exact hD⟩⟩, hS.F ht⟩) hS.2.2 dX4_digits_21
    · have c_2 := mt (nI_leI (a := 100) (b := v) (by omega) (by omega)).mpr c_2
      refine lv_iconst (v := 2) hx hb dX4_digits_16 (by decide) ?_
      refine lv_goto (tgt := 21) hx hb dX4_digits_17 (by decide) ?_
      refine W.widen (k := 0) (n := 0) (by omega) (by omega) ?_
      exact W.iret (v := 2) hx hb hr (fun t ht hW => ⟨⟨2, (), rfl, (by rw [lnD_b (by omega) (by omega)]; rfl), ⟨by rw [ht]; exact hP, by rw [hAe]; exact hD⟩⟩, hS.F ht⟩) hS.2.2 dX4_digits_21
  · have c_1 := mt (nI_leI (a := 10) (b := v) (by omega) (by omega)).mpr c_1
    refine lv_iconst (v := 1) hx hb dX4_digits_6 (by decide) ?_
    refine lv_goto (tgt := 21) hx hb dX4_digits_7 (by decide) ?_
    refine W.widen (k := 0) (n := 0) (by omega) (by omega) ?_
    exact W.iret (v := 1) hx hb hr (fun t ht hW => ⟨⟨1, (), rfl, (by rw [lnD_a (by omega)]; rfl), ⟨by rw [ht]; exact hP, by rw [hAe]; exact hD⟩⟩, hS.F ht⟩) hS.2.2 dX4_digits_21
set_option maxHeartbeats 4000000 in
set_option maxRecDepth 100000 in
theorem c_da_a (l : Launch) (D : va_G) (cA : Nat → ClassId) (sz : Nat) (v : Nat) (hv : v ≤ 9) : Met l yX4_digitAt wsX4_digitAt ({ frames := 1, cells := 0, slots := 0, locals := 20 }) (va_Pc [.int (nI v), .int 0] (zU D cA sz [])) (va_Qi (fun (r : Int32) (_ : Unit) => 48 + r = (lnD v).getD 0 0) (fun (_ : Unit) t => zB D [] sz [] t) (va_A [] sz)) 0 0 (va_A [] sz) := by
  refine Met.ofW (cc := cX4_digitAt) (maxL := 4) (ret := (some .int)) (by decide) rfl ?_
  intro p e s m args below meth c s₁ B hml hv
  obtain ⟨rfl, hsz, hP, hK, hD0⟩ := hv
  have hx := B.exec
  have hb := B.bytes
  have hr := B.returns
  have hts := atoms_spec (ws := wsX4_digitAt) B.pre
  have hown : s.vm.findClass RX4 = some m.cls := findClass_of_methodNamed B.named
  have hlocks := B.notSynchronized
  subst hsz
  have hD := hD0.self (sz := s.heap.size)
  generalize hAe : va_A [] s.heap.size = A at hD ⊢
  have hA : ∀ q : Nat, s.heap.size ≤ q → A q := fun q h => by rw [← hAe]; exact Or.inr h
  have hS : va_S A s.heap s.heap [] := va_S.rf
  have hl := lv_entry ([.int (nI v), .int 0]) (n := 4) (Nat.le_of_ble_eq_true rfl)
  rw [lg_entry_eq]
  generalize (lg_sl ([.int (nI v), .int 0]) ++ List.replicate (4 - (lg_sl ([.int (nI v), .int 0])).length) Slot.unset).toArray = ls at hl ⊢
  have hl : lv_has ls 4 [(0, .int (nI v)), (1, .int 0)] := hl
  refine lv_iload_n hx hb dX4_digitAt_0 rfl (lv_at hl 0 rfl) ?_
  refine lv_istore_n (lv' := [(2, .int (nI v)), (0, .int (nI v)), (1, .int 0)]) hx hb dX4_digitAt_1 rfl hl (by decide) rfl (fun ls hl => ?_)
  refine lv_iload_n hx hb dX4_digitAt_2 rfl (lv_at hl 1 rfl) ?_
  have hPc := hP.sub (ws' := []) [] rfl
  have hDc := hD.sub (ws' := []) [] (by decide) rfl
  have hFc := va_free (wc := []) hD hS hA [] rfl
  refine va_calli (va_runS (As := [.int (nI v)]) (rest := []) ⟨hx, hb, hml, hown, hts⟩ (c_dg_a l D cA s.heap.size v (by assumption)) (va_cwS 1 hts gX4_digitAt_X4_digits rfl rfl rfl (by decide +kernel) ⟨Nat.le_of_ble_eq_true rfl, Nat.le_of_ble_eq_true rfl⟩) ⟨zU_blind, fun U hU hW => ⟨rfl, zU_call hU hPc hW.alike hK hDc⟩⟩ rfl rfl hl.1 rfl (lv_room (Nat.le_of_ble_eq_true rfl)) dX4_digitAt_3 ⟨(Nat.zero_le _), (Nat.zero_le _)⟩) hS (fun q _ h => hFc q h) hFc (fun zr u t H1 locs ht hvm hw hB hz1 hk1 hS => ?_)
  obtain ⟨hP1, hD1⟩ := hB
  rw [ht] at hP1
  obtain ⟨hP, hD⟩ := va_join (wr := []) (w1 := []) hP hD [] [] rfl rfl (by decide) (by decide) hk1 hFc hP1 hD1
  generalize H1 = H at hP hS ⊢
  have hP := hP.sub (ws' := []) [] rfl
  have hD := hD.sub (ws' := []) [] (by decide) rfl
  clear hPc hDc hFc hP1 hD1 hk1 hz1
  have hw_1 := hw
  obtain rfl := hw
  refine lv_iconst (v := 1) hx hb dX4_digitAt_6 (by decide) ?_
  refine lv_isub hx hb dX4_digitAt_7 ?_
  refine z_top (y := 0) (by decide) ?_
  refine lv_istore_n (lv' := [(3, .int 0), (2, .int (nI v)), (0, .int (nI v)), (1, .int 0)]) hx hb dX4_digitAt_8 rfl hl (by decide) rfl (fun ls hl => ?_)
  refine lv_iload_n hx hb dX4_digitAt_9 rfl (lv_at hl 0 rfl) ?_
  refine lv_iload_n hx hb dX4_digitAt_10 rfl (lv_at hl 3 rfl) ?_
  refine lv_icmp_le (tgt := 25) hx hb dX4_digitAt_11 (by decide) (fun _ => ?_) (fun c_2 => absurd c_2 (by decide))
  refine lv_iload_n hx hb dX4_digitAt_25 rfl (lv_at hl 1 rfl) ?_
  refine lv_bipush (v := 10) hx hb dX4_digitAt_26 (by decide) ?_
  refine lv_irem hx hb dX4_digitAt_28 (by decide) ?_
  refine z_top (y := (nI (v % 10))) (z_rem (a := v) (d := 10) (by omega) (by omega) (by omega)) ?_
  refine W.widen (k := 0) (n := 0) (by omega) (by omega) ?_
  exact W.iret (v := (nI (v % 10))) hx hb hr (fun t ht hW => ⟨⟨nI (v % 10), (), rfl, (by rw [lnD_a hv]; exact z_add 48 _), ⟨by rw [ht]; exact hP, by rw [hAe]; exact hD⟩⟩, hS.F ht⟩) hS.2.2 dX4_digitAt_29
set_option maxHeartbeats 4000000 in
set_option maxRecDepth 100000 in
theorem c_da_b0 (l : Launch) (D : va_G) (cA : Nat → ClassId) (sz : Nat) (v : Nat) (h1 : 10 ≤ v) (hv : v ≤ 99) : Met l yX4_digitAt wsX4_digitAt ({ frames := 1, cells := 0, slots := 0, locals := 20 }) (va_Pc [.int (nI v), .int 0] (zU D cA sz [])) (va_Qi (fun (r : Int32) (_ : Unit) => 48 + r = (lnD v).getD 0 0) (fun (_ : Unit) t => zB D [] sz [] t) (va_A [] sz)) 0 0 (va_A [] sz) := by
  refine Met.ofW (cc := cX4_digitAt) (maxL := 4) (ret := (some .int)) (by decide) rfl ?_
  intro p e s m args below meth c s₁ B hml hv
  obtain ⟨rfl, hsz, hP, hK, hD0⟩ := hv
  have hx := B.exec
  have hb := B.bytes
  have hr := B.returns
  have hts := atoms_spec (ws := wsX4_digitAt) B.pre
  have hown : s.vm.findClass RX4 = some m.cls := findClass_of_methodNamed B.named
  have hlocks := B.notSynchronized
  subst hsz
  have hD := hD0.self (sz := s.heap.size)
  generalize hAe : va_A [] s.heap.size = A at hD ⊢
  have hA : ∀ q : Nat, s.heap.size ≤ q → A q := fun q h => by rw [← hAe]; exact Or.inr h
  have hS : va_S A s.heap s.heap [] := va_S.rf
  have hl := lv_entry ([.int (nI v), .int 0]) (n := 4) (Nat.le_of_ble_eq_true rfl)
  rw [lg_entry_eq]
  generalize (lg_sl ([.int (nI v), .int 0]) ++ List.replicate (4 - (lg_sl ([.int (nI v), .int 0])).length) Slot.unset).toArray = ls at hl ⊢
  have hl : lv_has ls 4 [(0, .int (nI v)), (1, .int 0)] := hl
  refine lv_iload_n hx hb dX4_digitAt_0 rfl (lv_at hl 0 rfl) ?_
  refine lv_istore_n (lv' := [(2, .int (nI v)), (0, .int (nI v)), (1, .int 0)]) hx hb dX4_digitAt_1 rfl hl (by decide) rfl (fun ls hl => ?_)
  refine lv_iload_n hx hb dX4_digitAt_2 rfl (lv_at hl 1 rfl) ?_
  have hPc := hP.sub (ws' := []) [] rfl
  have hDc := hD.sub (ws' := []) [] (by decide) rfl
  have hFc := va_free (wc := []) hD hS hA [] rfl
  refine va_calli (va_runS (As := [.int (nI v)]) (rest := []) ⟨hx, hb, hml, hown, hts⟩ (c_dg_b l D cA s.heap.size v (by assumption) (by assumption)) (va_cwS 1 hts gX4_digitAt_X4_digits rfl rfl rfl (by decide +kernel) ⟨Nat.le_of_ble_eq_true rfl, Nat.le_of_ble_eq_true rfl⟩) ⟨zU_blind, fun U hU hW => ⟨rfl, zU_call hU hPc hW.alike hK hDc⟩⟩ rfl rfl hl.1 rfl (lv_room (Nat.le_of_ble_eq_true rfl)) dX4_digitAt_3 ⟨(Nat.zero_le _), (Nat.zero_le _)⟩) hS (fun q _ h => hFc q h) hFc (fun zr u t H1 locs ht hvm hw hB hz1 hk1 hS => ?_)
  obtain ⟨hP1, hD1⟩ := hB
  rw [ht] at hP1
  obtain ⟨hP, hD⟩ := va_join (wr := []) (w1 := []) hP hD [] [] rfl rfl (by decide) (by decide) hk1 hFc hP1 hD1
  generalize H1 = H at hP hS ⊢
  have hP := hP.sub (ws' := []) [] rfl
  have hD := hD.sub (ws' := []) [] (by decide) rfl
  clear hPc hDc hFc hP1 hD1 hk1 hz1
  have hw_1 := hw
  obtain rfl := hw
  refine lv_iconst (v := 1) hx hb dX4_digitAt_6 (by decide) ?_
  refine lv_isub hx hb dX4_digitAt_7 ?_
  refine z_top (y := 1) (by decide) ?_
  refine lv_istore_n (lv' := [(3, .int 1), (2, .int (nI v)), (0, .int (nI v)), (1, .int 0)]) hx hb dX4_digitAt_8 rfl hl (by decide) rfl (fun ls hl => ?_)
  refine lv_iload_n hx hb dX4_digitAt_9 rfl (lv_at hl 0 rfl) ?_
  refine lv_iload_n hx hb dX4_digitAt_10 rfl (lv_at hl 3 rfl) ?_
  refine lv_icmp_le (tgt := 25) hx hb dX4_digitAt_11 (by decide) (fun c_2 => absurd c_2 (by decide)) (fun _ => ?_)
  refine lv_iload_n hx hb dX4_digitAt_14 rfl (lv_at hl 1 rfl) ?_
  refine lv_bipush (v := 10) hx hb dX4_digitAt_15 (by decide) ?_
  refine lv_idiv hx hb dX4_digitAt_17 (by decide) ?_
  refine z_top (y := (nI (v / 10))) (z_div (a := v) (d := 10) (by omega) (by omega) (by omega)) ?_
  refine lv_istore_n (lv' := [(2, .int (nI (v / 10))), (3, .int 1), (0, .int (nI v)), (1, .int 0)]) hx hb dX4_digitAt_18 rfl hl (by decide) rfl (fun ls hl => ?_)
  refine lv_iinc (v := 0) (lv' := [(3, .int 0), (2, .int (nI (v / 10))), (0, .int (nI v)), (1, .int 0)]) hx hb dX4_digitAt_19 hl (k := 1) rfl (by decide) (by decide) rfl (fun ls hl => ?_)
  refine lv_goto (tgt := 9) hx hb dX4_digitAt_22 (by decide) ?_
  refine lv_iload_n hx hb dX4_digitAt_9 rfl (lv_at hl 0 rfl) ?_
  refine lv_iload_n hx hb dX4_digitAt_10 rfl (lv_at hl 3 rfl) ?_
  refine lv_icmp_le (tgt := 25) hx hb dX4_digitAt_11 (by decide) (fun _ => ?_) (fun c_3 => absurd c_3 (by decide))
  refine lv_iload_n hx hb dX4_digitAt_25 rfl (lv_at hl 1 rfl) ?_
  refine lv_bipush (v := 10) hx hb dX4_digitAt_26 (by decide) ?_
  refine lv_irem hx hb dX4_digitAt_28 (by decide) ?_
  refine z_top (y := (nI ((v / 10) % 10))) (z_rem (a := (v / 10)) (d := 10) (by omega) (by omega) (by omega)) ?_
  refine W.widen (k := 0) (n := 0) (by omega) (by omega) ?_
  exact W.iret (v := (nI ((v / 10) % 10))) hx hb hr (fun t ht hW => ⟨⟨nI ((v / 10) % 10), (), rfl, (by rw [lnD_b h1 hv]; show 48 + nI (v / 10 % 10) = nI (48 + v / 10); rw [show v / 10 % 10 = v / 10 by omega]; exact z_add 48 _), ⟨by rw [ht]; exact hP, by rw [hAe]; exact hD⟩⟩, hS.F ht⟩) hS.2.2 dX4_digitAt_29
set_option maxHeartbeats 4000000 in
set_option maxRecDepth 100000 in
theorem c_da_b1 (l : Launch) (D : va_G) (cA : Nat → ClassId) (sz : Nat) (v : Nat) (h1 : 10 ≤ v) (hv : v ≤ 99) : Met l yX4_digitAt wsX4_digitAt ({ frames := 1, cells := 0, slots := 0, locals := 20 }) (va_Pc [.int (nI v), .int 1] (zU D cA sz [])) (va_Qi (fun (r : Int32) (_ : Unit) => 48 + r = (lnD v).getD 1 0) (fun (_ : Unit) t => zB D [] sz [] t) (va_A [] sz)) 0 0 (va_A [] sz) := by
  refine Met.ofW (cc := cX4_digitAt) (maxL := 4) (ret := (some .int)) (by decide) rfl ?_
  intro p e s m args below meth c s₁ B hml hv
  obtain ⟨rfl, hsz, hP, hK, hD0⟩ := hv
  have hx := B.exec
  have hb := B.bytes
  have hr := B.returns
  have hts := atoms_spec (ws := wsX4_digitAt) B.pre
  have hown : s.vm.findClass RX4 = some m.cls := findClass_of_methodNamed B.named
  have hlocks := B.notSynchronized
  subst hsz
  have hD := hD0.self (sz := s.heap.size)
  generalize hAe : va_A [] s.heap.size = A at hD ⊢
  have hA : ∀ q : Nat, s.heap.size ≤ q → A q := fun q h => by rw [← hAe]; exact Or.inr h
  have hS : va_S A s.heap s.heap [] := va_S.rf
  have hl := lv_entry ([.int (nI v), .int 1]) (n := 4) (Nat.le_of_ble_eq_true rfl)
  rw [lg_entry_eq]
  generalize (lg_sl ([.int (nI v), .int 1]) ++ List.replicate (4 - (lg_sl ([.int (nI v), .int 1])).length) Slot.unset).toArray = ls at hl ⊢
  have hl : lv_has ls 4 [(0, .int (nI v)), (1, .int 1)] := hl
  refine lv_iload_n hx hb dX4_digitAt_0 rfl (lv_at hl 0 rfl) ?_
  refine lv_istore_n (lv' := [(2, .int (nI v)), (0, .int (nI v)), (1, .int 1)]) hx hb dX4_digitAt_1 rfl hl (by decide) rfl (fun ls hl => ?_)
  refine lv_iload_n hx hb dX4_digitAt_2 rfl (lv_at hl 1 rfl) ?_
  have hPc := hP.sub (ws' := []) [] rfl
  have hDc := hD.sub (ws' := []) [] (by decide) rfl
  have hFc := va_free (wc := []) hD hS hA [] rfl
  refine va_calli (va_runS (As := [.int (nI v)]) (rest := []) ⟨hx, hb, hml, hown, hts⟩ (c_dg_b l D cA s.heap.size v (by assumption) (by assumption)) (va_cwS 1 hts gX4_digitAt_X4_digits rfl rfl rfl (by decide +kernel) ⟨Nat.le_of_ble_eq_true rfl, Nat.le_of_ble_eq_true rfl⟩) ⟨zU_blind, fun U hU hW => ⟨rfl, zU_call hU hPc hW.alike hK hDc⟩⟩ rfl rfl hl.1 rfl (lv_room (Nat.le_of_ble_eq_true rfl)) dX4_digitAt_3 ⟨(Nat.zero_le _), (Nat.zero_le _)⟩) hS (fun q _ h => hFc q h) hFc (fun zr u t H1 locs ht hvm hw hB hz1 hk1 hS => ?_)
  obtain ⟨hP1, hD1⟩ := hB
  rw [ht] at hP1
  obtain ⟨hP, hD⟩ := va_join (wr := []) (w1 := []) hP hD [] [] rfl rfl (by decide) (by decide) hk1 hFc hP1 hD1
  generalize H1 = H at hP hS ⊢
  have hP := hP.sub (ws' := []) [] rfl
  have hD := hD.sub (ws' := []) [] (by decide) rfl
  clear hPc hDc hFc hP1 hD1 hk1 hz1
  have hw_1 := hw
  obtain rfl := hw
  refine lv_iconst (v := 1) hx hb dX4_digitAt_6 (by decide) ?_
  refine lv_isub hx hb dX4_digitAt_7 ?_
  refine z_top (y := 1) (by decide) ?_
  refine lv_istore_n (lv' := [(3, .int 1), (2, .int (nI v)), (0, .int (nI v)), (1, .int 1)]) hx hb dX4_digitAt_8 rfl hl (by decide) rfl (fun ls hl => ?_)
  refine lv_iload_n hx hb dX4_digitAt_9 rfl (lv_at hl 0 rfl) ?_
  refine lv_iload_n hx hb dX4_digitAt_10 rfl (lv_at hl 3 rfl) ?_
  refine lv_icmp_le (tgt := 25) hx hb dX4_digitAt_11 (by decide) (fun _ => ?_) (fun c_2 => absurd c_2 (by decide))
  refine lv_iload_n hx hb dX4_digitAt_25 rfl (lv_at hl 1 rfl) ?_
  refine lv_bipush (v := 10) hx hb dX4_digitAt_26 (by decide) ?_
  refine lv_irem hx hb dX4_digitAt_28 (by decide) ?_
  refine z_top (y := (nI (v % 10))) (z_rem (a := v) (d := 10) (by omega) (by omega) (by omega)) ?_
  refine W.widen (k := 0) (n := 0) (by omega) (by omega) ?_
  exact W.iret (v := (nI (v % 10))) hx hb hr (fun t ht hW => ⟨⟨nI (v % 10), (), rfl, (by rw [lnD_b h1 hv]; exact z_add 48 _), ⟨by rw [ht]; exact hP, by rw [hAe]; exact hD⟩⟩, hS.F ht⟩) hS.2.2 dX4_digitAt_29
set_option maxHeartbeats 4000000 in
set_option maxRecDepth 100000 in
theorem c_da_c0 (l : Launch) (D : va_G) (cA : Nat → ClassId) (sz : Nat)   : Met l yX4_digitAt wsX4_digitAt ({ frames := 1, cells := 0, slots := 0, locals := 20 }) (va_Pc [.int 100, .int 0] (zU D cA sz [])) (va_Qi (fun (r : Int32) (_ : Unit) => 48 + r = (lnD 100).getD 0 0) (fun (_ : Unit) t => zB D [] sz [] t) (va_A [] sz)) 0 0 (va_A [] sz) := by
  refine Met.ofW (cc := cX4_digitAt) (maxL := 4) (ret := (some .int)) (by decide) rfl ?_
  intro p e s m args below meth c s₁ B hml hv
  obtain ⟨rfl, hsz, hP, hK, hD0⟩ := hv
  have hx := B.exec
  have hb := B.bytes
  have hr := B.returns
  have hts := atoms_spec (ws := wsX4_digitAt) B.pre
  have hown : s.vm.findClass RX4 = some m.cls := findClass_of_methodNamed B.named
  have hlocks := B.notSynchronized
  subst hsz
  have hD := hD0.self (sz := s.heap.size)
  generalize hAe : va_A [] s.heap.size = A at hD ⊢
  have hA : ∀ q : Nat, s.heap.size ≤ q → A q := fun q h => by rw [← hAe]; exact Or.inr h
  have hS : va_S A s.heap s.heap [] := va_S.rf
  have hl := lv_entry ([.int 100, .int 0]) (n := 4) (Nat.le_of_ble_eq_true rfl)
  rw [lg_entry_eq]
  generalize (lg_sl ([.int 100, .int 0]) ++ List.replicate (4 - (lg_sl ([.int 100, .int 0])).length) Slot.unset).toArray = ls at hl ⊢
  have hl : lv_has ls 4 [(0, .int 100), (1, .int 0)] := hl
  refine lv_iload_n hx hb dX4_digitAt_0 rfl (lv_at hl 0 rfl) ?_
  refine lv_istore_n (lv' := [(2, .int 100), (0, .int 100), (1, .int 0)]) hx hb dX4_digitAt_1 rfl hl (by decide) rfl (fun ls hl => ?_)
  refine lv_iload_n hx hb dX4_digitAt_2 rfl (lv_at hl 1 rfl) ?_
  have hPc := hP.sub (ws' := []) [] rfl
  have hDc := hD.sub (ws' := []) [] (by decide) rfl
  have hFc := va_free (wc := []) hD hS hA [] rfl
  refine va_calli (va_runS (As := [.int 100]) (rest := []) ⟨hx, hb, hml, hown, hts⟩ (c_dg_c l D cA s.heap.size ) (va_cwS 1 hts gX4_digitAt_X4_digits rfl rfl rfl (by decide +kernel) ⟨Nat.le_of_ble_eq_true rfl, Nat.le_of_ble_eq_true rfl⟩) ⟨zU_blind, fun U hU hW => ⟨rfl, zU_call hU hPc hW.alike hK hDc⟩⟩ rfl rfl hl.1 rfl (lv_room (Nat.le_of_ble_eq_true rfl)) dX4_digitAt_3 ⟨(Nat.zero_le _), (Nat.zero_le _)⟩) hS (fun q _ h => hFc q h) hFc (fun zr u t H1 locs ht hvm hw hB hz1 hk1 hS => ?_)
  obtain ⟨hP1, hD1⟩ := hB
  rw [ht] at hP1
  obtain ⟨hP, hD⟩ := va_join (wr := []) (w1 := []) hP hD [] [] rfl rfl (by decide) (by decide) hk1 hFc hP1 hD1
  generalize H1 = H at hP hS ⊢
  have hP := hP.sub (ws' := []) [] rfl
  have hD := hD.sub (ws' := []) [] (by decide) rfl
  clear hPc hDc hFc hP1 hD1 hk1 hz1
  have hw_1 := hw
  obtain rfl := hw
  refine lv_iconst (v := 1) hx hb dX4_digitAt_6 (by decide) ?_
  refine lv_isub hx hb dX4_digitAt_7 ?_
  refine z_top (y := 2) (by decide) ?_
  refine lv_istore_n (lv' := [(3, .int 2), (2, .int 100), (0, .int 100), (1, .int 0)]) hx hb dX4_digitAt_8 rfl hl (by decide) rfl (fun ls hl => ?_)
  refine lv_iload_n hx hb dX4_digitAt_9 rfl (lv_at hl 0 rfl) ?_
  refine lv_iload_n hx hb dX4_digitAt_10 rfl (lv_at hl 3 rfl) ?_
  refine lv_icmp_le (tgt := 25) hx hb dX4_digitAt_11 (by decide) (fun c_2 => absurd c_2 (by decide)) (fun _ => ?_)
  refine lv_iload_n hx hb dX4_digitAt_14 rfl (lv_at hl 1 rfl) ?_
  refine lv_bipush (v := 10) hx hb dX4_digitAt_15 (by decide) ?_
  refine lv_idiv hx hb dX4_digitAt_17 (by decide) ?_
  refine z_top (y := 10) (by decide) ?_
  refine lv_istore_n (lv' := [(2, .int 10), (3, .int 2), (0, .int 100), (1, .int 0)]) hx hb dX4_digitAt_18 rfl hl (by decide) rfl (fun ls hl => ?_)
  refine lv_iinc (v := 1) (lv' := [(3, .int 1), (2, .int 10), (0, .int 100), (1, .int 0)]) hx hb dX4_digitAt_19 hl (k := 1) rfl (by decide) (by decide) rfl (fun ls hl => ?_)
  refine lv_goto (tgt := 9) hx hb dX4_digitAt_22 (by decide) ?_
  refine lv_iload_n hx hb dX4_digitAt_9 rfl (lv_at hl 0 rfl) ?_
  refine lv_iload_n hx hb dX4_digitAt_10 rfl (lv_at hl 3 rfl) ?_
  refine lv_icmp_le (tgt := 25) hx hb dX4_digitAt_11 (by decide) (fun c_3 => absurd c_3 (by decide)) (fun _ => ?_)
  refine lv_iload_n hx hb dX4_digitAt_14 rfl (lv_at hl 1 rfl) ?_
  refine lv_bipush (v := 10) hx hb dX4_digitAt_15 (by decide) ?_
  refine lv_idiv hx hb dX4_digitAt_17 (by decide) ?_
  refine z_top (y := 1) (by decide) ?_
  refine lv_istore_n (lv' := [(2, .int 1), (3, .int 1), (0, .int 100), (1, .int 0)]) hx hb dX4_digitAt_18 rfl hl (by decide) rfl (fun ls hl => ?_)
  refine lv_iinc (v := 0) (lv' := [(3, .int 0), (2, .int 1), (0, .int 100), (1, .int 0)]) hx hb dX4_digitAt_19 hl (k := 1) rfl (by decide) (by decide) rfl (fun ls hl => ?_)
  refine lv_goto (tgt := 9) hx hb dX4_digitAt_22 (by decide) ?_
  refine lv_iload_n hx hb dX4_digitAt_9 rfl (lv_at hl 0 rfl) ?_
  refine lv_iload_n hx hb dX4_digitAt_10 rfl (lv_at hl 3 rfl) ?_
  refine lv_icmp_le (tgt := 25) hx hb dX4_digitAt_11 (by decide) (fun _ => ?_) (fun c_4 => absurd c_4 (by decide))
  refine lv_iload_n hx hb dX4_digitAt_25 rfl (lv_at hl 1 rfl) ?_
  refine lv_bipush (v := 10) hx hb dX4_digitAt_26 (by decide) ?_
  refine lv_irem hx hb dX4_digitAt_28 (by decide) ?_
  refine z_top (y := 1) (by decide) ?_
  refine W.widen (k := 0) (n := 0) (by omega) (by omega) ?_
  exact W.iret (v := 1) hx hb hr (fun t ht hW => ⟨⟨1, (), rfl, (by decide), ⟨by rw [ht]; exact hP, by rw [hAe]; exact hD⟩⟩, hS.F ht⟩) hS.2.2 dX4_digitAt_29
set_option maxHeartbeats 4000000 in
set_option maxRecDepth 100000 in
theorem c_da_c1 (l : Launch) (D : va_G) (cA : Nat → ClassId) (sz : Nat)   : Met l yX4_digitAt wsX4_digitAt ({ frames := 1, cells := 0, slots := 0, locals := 20 }) (va_Pc [.int 100, .int 1] (zU D cA sz [])) (va_Qi (fun (r : Int32) (_ : Unit) => 48 + r = (lnD 100).getD 1 0) (fun (_ : Unit) t => zB D [] sz [] t) (va_A [] sz)) 0 0 (va_A [] sz) := by
  refine Met.ofW (cc := cX4_digitAt) (maxL := 4) (ret := (some .int)) (by decide) rfl ?_
  intro p e s m args below meth c s₁ B hml hv
  obtain ⟨rfl, hsz, hP, hK, hD0⟩ := hv
  have hx := B.exec
  have hb := B.bytes
  have hr := B.returns
  have hts := atoms_spec (ws := wsX4_digitAt) B.pre
  have hown : s.vm.findClass RX4 = some m.cls := findClass_of_methodNamed B.named
  have hlocks := B.notSynchronized
  subst hsz
  have hD := hD0.self (sz := s.heap.size)
  generalize hAe : va_A [] s.heap.size = A at hD ⊢
  have hA : ∀ q : Nat, s.heap.size ≤ q → A q := fun q h => by rw [← hAe]; exact Or.inr h
  have hS : va_S A s.heap s.heap [] := va_S.rf
  have hl := lv_entry ([.int 100, .int 1]) (n := 4) (Nat.le_of_ble_eq_true rfl)
  rw [lg_entry_eq]
  generalize (lg_sl ([.int 100, .int 1]) ++ List.replicate (4 - (lg_sl ([.int 100, .int 1])).length) Slot.unset).toArray = ls at hl ⊢
  have hl : lv_has ls 4 [(0, .int 100), (1, .int 1)] := hl
  refine lv_iload_n hx hb dX4_digitAt_0 rfl (lv_at hl 0 rfl) ?_
  refine lv_istore_n (lv' := [(2, .int 100), (0, .int 100), (1, .int 1)]) hx hb dX4_digitAt_1 rfl hl (by decide) rfl (fun ls hl => ?_)
  refine lv_iload_n hx hb dX4_digitAt_2 rfl (lv_at hl 1 rfl) ?_
  have hPc := hP.sub (ws' := []) [] rfl
  have hDc := hD.sub (ws' := []) [] (by decide) rfl
  have hFc := va_free (wc := []) hD hS hA [] rfl
  refine va_calli (va_runS (As := [.int 100]) (rest := []) ⟨hx, hb, hml, hown, hts⟩ (c_dg_c l D cA s.heap.size ) (va_cwS 1 hts gX4_digitAt_X4_digits rfl rfl rfl (by decide +kernel) ⟨Nat.le_of_ble_eq_true rfl, Nat.le_of_ble_eq_true rfl⟩) ⟨zU_blind, fun U hU hW => ⟨rfl, zU_call hU hPc hW.alike hK hDc⟩⟩ rfl rfl hl.1 rfl (lv_room (Nat.le_of_ble_eq_true rfl)) dX4_digitAt_3 ⟨(Nat.zero_le _), (Nat.zero_le _)⟩) hS (fun q _ h => hFc q h) hFc (fun zr u t H1 locs ht hvm hw hB hz1 hk1 hS => ?_)
  obtain ⟨hP1, hD1⟩ := hB
  rw [ht] at hP1
  obtain ⟨hP, hD⟩ := va_join (wr := []) (w1 := []) hP hD [] [] rfl rfl (by decide) (by decide) hk1 hFc hP1 hD1
  generalize H1 = H at hP hS ⊢
  have hP := hP.sub (ws' := []) [] rfl
  have hD := hD.sub (ws' := []) [] (by decide) rfl
  clear hPc hDc hFc hP1 hD1 hk1 hz1
  have hw_1 := hw
  obtain rfl := hw
  refine lv_iconst (v := 1) hx hb dX4_digitAt_6 (by decide) ?_
  refine lv_isub hx hb dX4_digitAt_7 ?_
  refine z_top (y := 2) (by decide) ?_
  refine lv_istore_n (lv' := [(3, .int 2), (2, .int 100), (0, .int 100), (1, .int 1)]) hx hb dX4_digitAt_8 rfl hl (by decide) rfl (fun ls hl => ?_)
  refine lv_iload_n hx hb dX4_digitAt_9 rfl (lv_at hl 0 rfl) ?_
  refine lv_iload_n hx hb dX4_digitAt_10 rfl (lv_at hl 3 rfl) ?_
  refine lv_icmp_le (tgt := 25) hx hb dX4_digitAt_11 (by decide) (fun c_2 => absurd c_2 (by decide)) (fun _ => ?_)
  refine lv_iload_n hx hb dX4_digitAt_14 rfl (lv_at hl 1 rfl) ?_
  refine lv_bipush (v := 10) hx hb dX4_digitAt_15 (by decide) ?_
  refine lv_idiv hx hb dX4_digitAt_17 (by decide) ?_
  refine z_top (y := 10) (by decide) ?_
  refine lv_istore_n (lv' := [(2, .int 10), (3, .int 2), (0, .int 100), (1, .int 1)]) hx hb dX4_digitAt_18 rfl hl (by decide) rfl (fun ls hl => ?_)
  refine lv_iinc (v := 1) (lv' := [(3, .int 1), (2, .int 10), (0, .int 100), (1, .int 1)]) hx hb dX4_digitAt_19 hl (k := 1) rfl (by decide) (by decide) rfl (fun ls hl => ?_)
  refine lv_goto (tgt := 9) hx hb dX4_digitAt_22 (by decide) ?_
  refine lv_iload_n hx hb dX4_digitAt_9 rfl (lv_at hl 0 rfl) ?_
  refine lv_iload_n hx hb dX4_digitAt_10 rfl (lv_at hl 3 rfl) ?_
  refine lv_icmp_le (tgt := 25) hx hb dX4_digitAt_11 (by decide) (fun _ => ?_) (fun c_3 => absurd c_3 (by decide))
  refine lv_iload_n hx hb dX4_digitAt_25 rfl (lv_at hl 1 rfl) ?_
  refine lv_bipush (v := 10) hx hb dX4_digitAt_26 (by decide) ?_
  refine lv_irem hx hb dX4_digitAt_28 (by decide) ?_
  refine z_top (y := 0) (by decide) ?_
  refine W.widen (k := 0) (n := 0) (by omega) (by omega) ?_
  exact W.iret (v := 0) hx hb hr (fun t ht hW => ⟨⟨0, (), rfl, (by decide), ⟨by rw [ht]; exact hP, by rw [hAe]; exact hD⟩⟩, hS.F ht⟩) hS.2.2 dX4_digitAt_29
set_option maxHeartbeats 4000000 in
set_option maxRecDepth 100000 in
theorem c_da_c2 (l : Launch) (D : va_G) (cA : Nat → ClassId) (sz : Nat)   : Met l yX4_digitAt wsX4_digitAt ({ frames := 1, cells := 0, slots := 0, locals := 20 }) (va_Pc [.int 100, .int 2] (zU D cA sz [])) (va_Qi (fun (r : Int32) (_ : Unit) => 48 + r = (lnD 100).getD 2 0) (fun (_ : Unit) t => zB D [] sz [] t) (va_A [] sz)) 0 0 (va_A [] sz) := by
  refine Met.ofW (cc := cX4_digitAt) (maxL := 4) (ret := (some .int)) (by decide) rfl ?_
  intro p e s m args below meth c s₁ B hml hv
  obtain ⟨rfl, hsz, hP, hK, hD0⟩ := hv
  have hx := B.exec
  have hb := B.bytes
  have hr := B.returns
  have hts := atoms_spec (ws := wsX4_digitAt) B.pre
  have hown : s.vm.findClass RX4 = some m.cls := findClass_of_methodNamed B.named
  have hlocks := B.notSynchronized
  subst hsz
  have hD := hD0.self (sz := s.heap.size)
  generalize hAe : va_A [] s.heap.size = A at hD ⊢
  have hA : ∀ q : Nat, s.heap.size ≤ q → A q := fun q h => by rw [← hAe]; exact Or.inr h
  have hS : va_S A s.heap s.heap [] := va_S.rf
  have hl := lv_entry ([.int 100, .int 2]) (n := 4) (Nat.le_of_ble_eq_true rfl)
  rw [lg_entry_eq]
  generalize (lg_sl ([.int 100, .int 2]) ++ List.replicate (4 - (lg_sl ([.int 100, .int 2])).length) Slot.unset).toArray = ls at hl ⊢
  have hl : lv_has ls 4 [(0, .int 100), (1, .int 2)] := hl
  refine lv_iload_n hx hb dX4_digitAt_0 rfl (lv_at hl 0 rfl) ?_
  refine lv_istore_n (lv' := [(2, .int 100), (0, .int 100), (1, .int 2)]) hx hb dX4_digitAt_1 rfl hl (by decide) rfl (fun ls hl => ?_)
  refine lv_iload_n hx hb dX4_digitAt_2 rfl (lv_at hl 1 rfl) ?_
  have hPc := hP.sub (ws' := []) [] rfl
  have hDc := hD.sub (ws' := []) [] (by decide) rfl
  have hFc := va_free (wc := []) hD hS hA [] rfl
  refine va_calli (va_runS (As := [.int 100]) (rest := []) ⟨hx, hb, hml, hown, hts⟩ (c_dg_c l D cA s.heap.size ) (va_cwS 1 hts gX4_digitAt_X4_digits rfl rfl rfl (by decide +kernel) ⟨Nat.le_of_ble_eq_true rfl, Nat.le_of_ble_eq_true rfl⟩) ⟨zU_blind, fun U hU hW => ⟨rfl, zU_call hU hPc hW.alike hK hDc⟩⟩ rfl rfl hl.1 rfl (lv_room (Nat.le_of_ble_eq_true rfl)) dX4_digitAt_3 ⟨(Nat.zero_le _), (Nat.zero_le _)⟩) hS (fun q _ h => hFc q h) hFc (fun zr u t H1 locs ht hvm hw hB hz1 hk1 hS => ?_)
  obtain ⟨hP1, hD1⟩ := hB
  rw [ht] at hP1
  obtain ⟨hP, hD⟩ := va_join (wr := []) (w1 := []) hP hD [] [] rfl rfl (by decide) (by decide) hk1 hFc hP1 hD1
  generalize H1 = H at hP hS ⊢
  have hP := hP.sub (ws' := []) [] rfl
  have hD := hD.sub (ws' := []) [] (by decide) rfl
  clear hPc hDc hFc hP1 hD1 hk1 hz1
  have hw_1 := hw
  obtain rfl := hw
  refine lv_iconst (v := 1) hx hb dX4_digitAt_6 (by decide) ?_
  refine lv_isub hx hb dX4_digitAt_7 ?_
  refine z_top (y := 2) (by decide) ?_
  refine lv_istore_n (lv' := [(3, .int 2), (2, .int 100), (0, .int 100), (1, .int 2)]) hx hb dX4_digitAt_8 rfl hl (by decide) rfl (fun ls hl => ?_)
  refine lv_iload_n hx hb dX4_digitAt_9 rfl (lv_at hl 0 rfl) ?_
  refine lv_iload_n hx hb dX4_digitAt_10 rfl (lv_at hl 3 rfl) ?_
  refine lv_icmp_le (tgt := 25) hx hb dX4_digitAt_11 (by decide) (fun _ => ?_) (fun c_2 => absurd c_2 (by decide))
  refine lv_iload_n hx hb dX4_digitAt_25 rfl (lv_at hl 1 rfl) ?_
  refine lv_bipush (v := 10) hx hb dX4_digitAt_26 (by decide) ?_
  refine lv_irem hx hb dX4_digitAt_28 (by decide) ?_
  refine z_top (y := 0) (by decide) ?_
  refine W.widen (k := 0) (n := 0) (by omega) (by omega) ?_
  exact W.iret (v := 0) hx hb hr (fun t ht hW => ⟨⟨0, (), rfl, (by decide), ⟨by rw [ht]; exact hP, by rw [hAe]; exact hD⟩⟩, hS.F ht⟩) hS.2.2 dX4_digitAt_29
set_option maxHeartbeats 4000000 in
set_option maxRecDepth 100000 in
theorem c_X4_digitAt (l : Launch) (D : va_G) (cA : Nat → ClassId) (sz : Nat) (v i : Nat) (hv : v ≤ 100) (hi : i < (lnD v).length) : Met l yX4_digitAt wsX4_digitAt ({ frames := 1, cells := 0, slots := 0, locals := 20 }) (va_Pc [.int (nI v), .int (nI i)] (zU D cA sz [])) (va_Qi (fun (r : Int32) (_ : Unit) => 48 + r = (lnD v).getD i 0) (fun (_ : Unit) t => zB D [] sz [] t) (va_A [] sz)) 0 0 (va_A [] sz) := by
  rcases (show v ≤ 9 ∨ (10 ≤ v ∧ v ≤ 99) ∨ v = 100 by omega) with h | ⟨h1, h2⟩ | rfl
  · rw [lnD_a h] at hi; have hi : i < 1 := hi; obtain rfl : i = 0 := by omega
    exact c_da_a l D cA sz v h
  · rw [lnD_b h1 h2] at hi; have hi : i < 2 := hi; rcases (show i = 0 ∨ i = 1 by omega) with rfl | rfl
    · exact c_da_b0 l D cA sz v h1 h2
    · exact c_da_b1 l D cA sz v h1 h2
  · rw [lnD_c (Nat.le_refl 100)] at hi; have hi : i < 3 := hi; rcases (show i = 0 ∨ i = 1 ∨ i = 2 by omega) with rfl | rfl | rfl
    · exact c_da_c0 l D cA sz
    · exact c_da_c1 l D cA sz
    · exact c_da_c2 l D cA sz
set_option maxHeartbeats 4000000 in
set_option maxRecDepth 100000 in
theorem c_X4_lengthOf (l : Launch) (D : va_G) (cA : Nat → ClassId) (sz : Nat) (b : Nat → Nat) (mm : Nat → Int32) (ix : Nat) (c1 c2 : Int32) (k : Nat) (f fy : Nat → Int32) (hix : ix ≤ 1) (hk : k < 8) (hk0 : c1 = nI k) (hok : ∀ j, j < 4 → okv (f j)) : Met l yX4_lengthOf wsX4_lengthOf ({ frames := 2, cells := 0, slots := 0, locals := 46 }) (va_Pc [.ref (b 0), .int (nI ix)] (zU D cA sz [cM b mm, (b 9, .inl (cA 0, 2, .inl (t2 ix c1 c2))), (b 7, .inl (cA 0, 8, .inl (bk 4 ix f fy)))])) (va_Qi (fun (r : Int32) (_ : Unit) => r = nI (lnT k f 4).length) (fun (_ : Unit) t => zB D [cM b mm, (b 9, .inl (cA 0, 2, .inl (t2 ix c1 c2))), (b 7, .inl (cA 0, 8, .inl (bk 4 ix f fy)))] sz [cM b mm, (b 9, .inl (cA 0, 2, .inl (t2 ix c1 c2))), (b 7, .inl (cA 0, 8, .inl (bk 4 ix f fy)))] t) (va_A [cM b mm, (b 9, .inl (cA 0, 2, .inl (t2 ix c1 c2))), (b 7, .inl (cA 0, 8, .inl (bk 4 ix f fy)))] sz)) 0 0 (va_A [cM b mm, (b 9, .inl (cA 0, 2, .inl (t2 ix c1 c2))), (b 7, .inl (cA 0, 8, .inl (bk 4 ix f fy)))] sz) := by
  refine Met.ofW (cc := cX4_lengthOf) (maxL := 4) (ret := (some .int)) (by decide) rfl ?_
  intro p e s m args below meth c s₁ B hml hv
  obtain ⟨rfl, hsz, hP, hK, hD0⟩ := hv
  have hx := B.exec
  have hb := B.bytes
  have hr := B.returns
  have hts := atoms_spec (ws := wsX4_lengthOf) B.pre
  have hown : s.vm.findClass RX4 = some m.cls := findClass_of_methodNamed B.named
  have hlocks := B.notSynchronized
  subst hsz
  have hD := hD0.self (sz := s.heap.size)
  generalize hAe : va_A [cM b mm, (b 9, .inl (cA 0, 2, .inl (t2 ix c1 c2))), (b 7, .inl (cA 0, 8, .inl (bk 4 ix f fy)))] s.heap.size = A at hD ⊢
  have hA : ∀ q : Nat, s.heap.size ≤ q → A q := fun q h => by rw [← hAe]; exact Or.inr h
  have hS : va_S A s.heap s.heap [] := va_S.rf
  have hl := lv_entry ([.ref (b 0), .int (nI ix)]) (n := 4) (Nat.le_of_ble_eq_true rfl)
  rw [lg_entry_eq]
  generalize (lg_sl ([.ref (b 0), .int (nI ix)]) ++ List.replicate (4 - (lg_sl ([.ref (b 0), .int (nI ix)])).length) Slot.unset).toArray = ls at hl ⊢
  have hl : lv_has ls 4 [(0, .ref (b 0)), (1, .int (nI ix))] := hl
  refine lv_aload_n hx hb dX4_lengthOf_0 rfl (lv_at hl 0 rfl) ?_
  refine va_get (D := D) (ci := 6) (v := .ref (b 9)) (C := RX4) (T := TX4) (N := 29) hx hb hts (fun _ h => List.mem_cons_of_mem _ (List.mem_append_right _ (h))) hown hK hP 0 rfl rfl 10 (by decide) (hts (.fieldLink RX4 35 "OptionWireModel" "states" "[I") (List.mem_of_getElem? (i := 1) rfl)) (fun _ h9 => h9) rfl dX4_lengthOf_1 ?_
  refine lv_iload_n hx hb dX4_lengthOf_4 rfl (lv_at hl 1 rfl) ?_
  refine z_iald (k := ix) (v := c1) hx hb hK hP 1 0 rfl rfl rfl (by omega) (by decide) t2_x dX4_lengthOf_5 ?_
  refine z_top (y := (nI k)) hk0 ?_
  have hPc := hP.sub (ws' := []) [] rfl
  have hDc := hD.sub (ws' := []) [] (by decide) rfl
  have hFc := va_free (wc := []) hD hS hA [] rfl
  refine va_calll (va_runS (As := [.int (nI k)]) (rest := []) ⟨hx, hb, hml, hown, hts⟩ (c_X4_wordOf l D cA s.heap.size k (by assumption)) (va_cwS 1 hts gX4_lengthOf_X4_wordOf rfl rfl rfl (by decide +kernel) ⟨Nat.le_of_ble_eq_true rfl, Nat.le_of_ble_eq_true rfl⟩) ⟨zU_blind, fun U hU hW => ⟨rfl, zU_call hU hPc hW.alike hK hDc⟩⟩ rfl rfl hl.1 rfl (lv_room (Nat.le_of_ble_eq_true rfl)) dX4_lengthOf_6 ⟨(Nat.zero_le _), (Nat.zero_le _)⟩) hS (fun q _ h => hFc q h) hFc (fun zr u t H1 locs ht hvm hw hB hz1 hk1 hS => ?_)
  obtain ⟨hP1, hD1⟩ := hB
  rw [ht] at hP1
  obtain ⟨hP, hD⟩ := va_join (wr := [cM b mm, (b 9, .inl (cA 0, 2, .inl (t2 ix c1 c2))), (b 7, .inl (cA 0, 8, .inl (bk 4 ix f fy)))]) (w1 := []) hP hD [] [0, 1, 2] rfl rfl (by decide) (by decide) hk1 hFc hP1 hD1
  generalize H1 = H at hP hS ⊢
  have hP := hP.sub (ws' := [cM b mm, (b 9, .inl (cA 0, 2, .inl (t2 ix c1 c2))), (b 7, .inl (cA 0, 8, .inl (bk 4 ix f fy)))]) [0, 1, 2] rfl
  have hD := hD.sub (ws' := [cM b mm, (b 9, .inl (cA 0, 2, .inl (t2 ix c1 c2))), (b 7, .inl (cA 0, 8, .inl (bk 4 ix f fy)))]) [0, 1, 2] (by decide) rfl
  clear hPc hDc hFc hP1 hD1 hk1 hz1
  have hw_1 := hw
  obtain rfl := hw
  have hPc := hP.sub (ws' := []) [] rfl
  have hDc := hD.sub (ws' := []) [] (by decide) rfl
  have hFc := va_free (wc := []) hD hS hA [] rfl
  refine va_calli (va_runS (As := [.long (zWd.getD k 0)]) (rest := []) ⟨hx, hb, hml, hown, hts⟩ (c_X4_letters l D cA H.size k (by assumption)) (va_cwS 1 hts gX4_lengthOf_X4_letters rfl rfl rfl (by decide +kernel) ⟨Nat.le_of_ble_eq_true rfl, Nat.le_of_ble_eq_true rfl⟩) ⟨zU_blind, fun U hU hW => ⟨rfl, zU_call hU hPc hW.alike hK hDc⟩⟩ rfl rfl hl.1 rfl (lv_room (Nat.le_of_ble_eq_true rfl)) dX4_lengthOf_9 ⟨(Nat.zero_le _), (Nat.zero_le _)⟩) hS (fun q _ h => hFc q h) hFc (fun zr u t H1 locs ht hvm hw hB hz1 hk1 hS => ?_)
  obtain ⟨hP1, hD1⟩ := hB
  rw [ht] at hP1
  obtain ⟨hP, hD⟩ := va_join (wr := [cM b mm, (b 9, .inl (cA 0, 2, .inl (t2 ix c1 c2))), (b 7, .inl (cA 0, 8, .inl (bk 4 ix f fy)))]) (w1 := []) hP hD [] [0, 1, 2] rfl rfl (by decide) (by decide) hk1 hFc hP1 hD1
  generalize H1 = H at hP hS ⊢
  have hP := hP.sub (ws' := [cM b mm, (b 9, .inl (cA 0, 2, .inl (t2 ix c1 c2))), (b 7, .inl (cA 0, 8, .inl (bk 4 ix f fy)))]) [0, 1, 2] rfl
  have hD := hD.sub (ws' := [cM b mm, (b 9, .inl (cA 0, 2, .inl (t2 ix c1 c2))), (b 7, .inl (cA 0, 8, .inl (bk 4 ix f fy)))]) [0, 1, 2] (by decide) rfl
  clear hPc hDc hFc hP1 hD1 hk1 hz1
  have hw_2 := hw
  obtain rfl := hw
  refine z_top (y := (nI ((lnT k f 0).length))) (show nI (zLen.getD k 0) = nI (lnT k f 0).length from congrArg nI (zlen_ok hk).symm) ?_
  refine lv_istore_n (lv' := [(2, .int (nI ((lnT k f 0).length))), (0, .ref (b 0)), (1, .int (nI ix))]) hx hb dX4_lengthOf_12 rfl hl (by decide) rfl (fun ls hl => ?_)
  refine lv_iconst (v := 4) hx hb dX4_lengthOf_13 (by decide) ?_
  refine lv_iload_n hx hb dX4_lengthOf_14 rfl (lv_at hl 2 rfl) ?_
  refine lv_imul hx hb dX4_lengthOf_15 ?_
  refine z_top (y := (nI (4 * ix))) (z_mul 4 ix) ?_
  refine lv_istore_n (lv' := [(3, .int (nI (4 * ix))), (2, .int (nI ((lnT k f 0).length))), (0, .ref (b 0)), (1, .int (nI ix))]) hx hb dX4_lengthOf_16 rfl hl (by decide) rfl (fun ls hl => ?_)
  refine z_loop (Inv := fun j H locs ls => va_P D vwCl [cM b mm, (b 9, .inl (cA 0, 2, .inl (t2 ix c1 c2))), (b 7, .inl (cA 0, 8, .inl (bk 4 ix f fy)))] H ∧ va_D A [cM b mm, (b 9, .inl (cA 0, 2, .inl (t2 ix c1 c2))), (b 7, .inl (cA 0, 8, .inl (bk 4 ix f fy)))] ∧ va_S A s.heap H locs ∧ lv_has ls 4 [(3, .int (nI (4 * ix + j))), (2, .int (nI ((lnT k f j).length))), (0, .ref (b 0)), (1, .int (nI ix))]) 4 (fun j hj_j ih_j H locs ls hI => ?_) ⟨hP, hD, hS, lv_sub hl [0, 1, 2, 3] rfl⟩
  obtain ⟨hP, hD, hS, hl⟩ := hI
  refine lv_iload_n hx hb dX4_lengthOf_17 rfl (lv_at hl 0 rfl) ?_
  refine lv_iconst (v := 4) hx hb dX4_lengthOf_18 (by decide) ?_
  refine lv_iload_n hx hb dX4_lengthOf_19 rfl (lv_at hl 3 rfl) ?_
  refine lv_imul hx hb dX4_lengthOf_20 ?_
  refine z_top (y := (nI (4 * ix))) (z_mul 4 ix) ?_
  refine lv_iconst (v := 4) hx hb dX4_lengthOf_21 (by decide) ?_
  refine lv_iadd hx hb dX4_lengthOf_22 ?_
  refine z_top (y := (nI (4 * ix + 4))) (z_add (4 * ix) 4) ?_
  refine lv_icmp_ge (tgt := 60) hx hb dX4_lengthOf_23 (by decide) (fun c_3 => ?_) (fun c_3 => ?_)
  · have c_3 := (nI_leI (a := 4 * ix + 4) (b := 4 * ix + j) (by omega) (by omega)).mp c_3
    obtain rfl : j = 4 := by omega
    refine lv_iload_n hx hb dX4_lengthOf_60 rfl (lv_at hl 1 rfl) ?_
    refine W.widen (k := 0) (n := 0) (by omega) (by omega) ?_
    exact W.iret (v := (nI ((lnT k f 4).length))) hx hb hr (fun t ht hW => ⟨⟨nI ((lnT k f 4).length), (), rfl, rfl, ⟨by rw [ht]; exact hP, by rw [hAe]; exact hD⟩⟩, hS.F ht⟩) hS.2.2 dX4_lengthOf_61
  · have c_3 := mt (nI_leI (a := 4 * ix + 4) (b := 4 * ix + j) (by omega) (by omega)).mpr c_3
    refine lv_iload_n hx hb dX4_lengthOf_26 rfl (lv_at hl 1 rfl) ?_
    refine lv_aload_n hx hb dX4_lengthOf_27 rfl (lv_at hl 2 rfl) ?_
    refine va_get (D := D) (ci := 6) (v := .ref (b 7)) (C := RX4) (T := TX4) (N := 29) hx hb hts (fun _ h => List.mem_cons_of_mem _ (List.mem_append_right _ (h))) hown hK hP 0 rfl rfl 8 (by decide) (hts (.fieldLink RX4 29 "OptionWireModel" "asks" "[I") (List.mem_of_getElem? (i := 2) rfl)) (fun _ h9 => h9) rfl dX4_lengthOf_28 ?_
    refine lv_iload_n hx hb dX4_lengthOf_31 rfl (lv_at hl 0 rfl) ?_
    refine z_iald (k := (4 * ix + j)) (v := (f j)) hx hb hK hP 2 0 rfl rfl rfl (by omega) (by decide) (bk_x (by omega)) dX4_lengthOf_32 ?_
    refine lv_iconst (v := (-1)) hx hb dX4_lengthOf_33 (by decide) ?_
    refine lv_icmp_ne (tgt := 41) hx hb dX4_lengthOf_34 (by decide) (fun c_4 => ?_) (fun c_4 => ?_)
    · skip
      obtain ⟨vj, hvj, hfvj⟩ := (hok j (by omega)).resolve_left c_4
      have hd3 := lnD_3 vj
      refine lv_iconst (v := 2) hx hb dX4_lengthOf_41 (by decide) ?_
      refine lv_aload_n hx hb dX4_lengthOf_42 rfl (lv_at hl 2 rfl) ?_
      refine va_get (D := D) (ci := 6) (v := .ref (b 7)) (C := RX4) (T := TX4) (N := 29) hx hb hts (fun _ h => List.mem_cons_of_mem _ (List.mem_append_right _ (h))) hown hK hP 0 rfl rfl 8 (by decide) (hts (.fieldLink RX4 29 "OptionWireModel" "asks" "[I") (List.mem_of_getElem? (i := 2) rfl)) (fun _ h9 => h9) rfl dX4_lengthOf_43 ?_
      refine lv_iload_n hx hb dX4_lengthOf_46 rfl (lv_at hl 0 rfl) ?_
      refine z_iald (k := (4 * ix + j)) (v := (nI vj)) hx hb hK hP 2 0 rfl rfl rfl (by omega) (by decide) ((bk_x (by omega)).trans hfvj) dX4_lengthOf_47 ?_
      have hPc := hP.sub (ws' := []) [] rfl
      have hDc := hD.sub (ws' := []) [] (by decide) rfl
      have hFc := va_free (wc := []) hD hS hA [] rfl
      refine va_calli (va_runS (As := [.int (nI vj)]) (rest := [.int 2, .int (nI ((lnT k f j).length))]) ⟨hx, hb, hml, hown, hts⟩ (c_X4_digits l D cA H.size vj hvj) (va_cwS 1 hts gX4_lengthOf_X4_digits rfl rfl rfl (by decide +kernel) ⟨Nat.le_of_ble_eq_true rfl, Nat.le_of_ble_eq_true rfl⟩) ⟨zU_blind, fun U hU hW => ⟨rfl, zU_call hU hPc hW.alike hK hDc⟩⟩ rfl rfl hl.1 rfl (lv_room (Nat.le_of_ble_eq_true rfl)) dX4_lengthOf_48 ⟨(Nat.zero_le _), (Nat.zero_le _)⟩) hS (fun q _ h => hFc q h) hFc (fun zr u t H1 locs ht hvm hw hB hz1 hk1 hS => ?_)
      obtain ⟨hP1, hD1⟩ := hB
      rw [ht] at hP1
      obtain ⟨hP, hD⟩ := va_join (wr := [cM b mm, (b 9, .inl (cA 0, 2, .inl (t2 ix c1 c2))), (b 7, .inl (cA 0, 8, .inl (bk 4 ix f fy)))]) (w1 := []) hP hD [] [0, 1, 2] rfl rfl (by decide) (by decide) hk1 hFc hP1 hD1
      generalize H1 = H at hP hS ⊢
      have hP := hP.sub (ws' := [cM b mm, (b 9, .inl (cA 0, 2, .inl (t2 ix c1 c2))), (b 7, .inl (cA 0, 8, .inl (bk 4 ix f fy)))]) [0, 1, 2] rfl
      have hD := hD.sub (ws' := [cM b mm, (b 9, .inl (cA 0, 2, .inl (t2 ix c1 c2))), (b 7, .inl (cA 0, 8, .inl (bk 4 ix f fy)))]) [0, 1, 2] (by decide) rfl
      clear hPc hDc hFc hP1 hD1 hk1 hz1
      have hw_5 := hw
      obtain rfl := hw
      refine lv_iadd hx hb dX4_lengthOf_51 ?_
      refine z_top (y := (nI (2 + ((lnD vj).length)))) (z_add 2 ((lnD vj).length)) ?_
      refine lv_iadd hx hb dX4_lengthOf_52 ?_
      refine z_top (y := (nI ((lnT k f j).length + (2 + ((lnD vj).length))))) (z_add ((lnT k f j).length) (2 + ((lnD vj).length))) ?_
      refine lv_istore_n (lv' := [(2, .int (nI ((lnT k f j).length + (2 + ((lnD vj).length))))), (3, .int (nI (4 * ix + j))), (0, .ref (b 0)), (1, .int (nI ix))]) hx hb dX4_lengthOf_53 rfl hl (by decide) rfl (fun ls hl => ?_)
      refine lv_iinc (v := nI (4 * ix + j + 1)) (lv' := [(3, .int (nI (4 * ix + j + 1))), (2, .int (nI ((lnT k f j).length + (2 + ((lnD vj).length))))), (0, .ref (b 0)), (1, .int (nI ix))]) hx hb dX4_lengthOf_54 hl (k := 1) rfl (z_inc (4 * ix + j) 1) (by decide) rfl (fun ls hl => ?_)
      refine lv_goto (tgt := 17) hx hb dX4_lengthOf_57 (by decide) ?_
      exact ih_j _ _ _ (by omega) ⟨hP, hD, hS, (by rw [show nI ((lnT k f (j + 1)).length) = nI ((lnT k f j).length + (2 + ((lnD vj).length))) from (by rw [lnT_v hvj hfvj]; exact congrArg nI (by simp only [List.length_append, List.length_cons]; omega))]; exact lv_sub hl [0, 1, 2, 3] rfl)⟩
    · skip
      refine lv_iconst (v := 0) hx hb dX4_lengthOf_37 (by decide) ?_
      refine lv_goto (tgt := 52) hx hb dX4_lengthOf_38 (by decide) ?_
      refine lv_iadd hx hb dX4_lengthOf_52 ?_
      refine z_top (y := (nI ((lnT k f j).length))) (z_add ((lnT k f j).length) 0) ?_
      refine lv_istore_n (lv' := [(2, .int (nI ((lnT k f j).length))), (3, .int (nI (4 * ix + j))), (0, .ref (b 0)), (1, .int (nI ix))]) hx hb dX4_lengthOf_53 rfl hl (by decide) rfl (fun ls hl => ?_)
      refine lv_iinc (v := nI (4 * ix + j + 1)) (lv' := [(3, .int (nI (4 * ix + j + 1))), (2, .int (nI ((lnT k f j).length))), (0, .ref (b 0)), (1, .int (nI ix))]) hx hb dX4_lengthOf_54 hl (k := 1) rfl (z_inc (4 * ix + j) 1) (by decide) rfl (fun ls hl => ?_)
      refine lv_goto (tgt := 17) hx hb dX4_lengthOf_57 (by decide) ?_
      exact ih_j _ _ _ (by omega) ⟨hP, hD, hS, (by rw [show nI ((lnT k f (j + 1)).length) = nI ((lnT k f j).length) from congrArg (fun L => nI (List.length L)) (lnT_n c_4)]; exact lv_sub hl [0, 1, 2, 3] rfl)⟩
set_option maxHeartbeats 4000000 in
set_option maxRecDepth 100000 in
theorem c_X4_charOf (l : Launch) (D : va_G) (cA : Nat → ClassId) (sz : Nat) (b : Nat → Nat) (mm : Nat → Int32) (ix : Nat) (c1 c2 : Int32) (k : Nat) (f fy : Nat → Int32) (i : Nat) (hix : ix ≤ 1) (hk : k < 8) (hk0 : c1 = nI k) (hok : ∀ j, j < 4 → okv (f j)) (hi : i < (lnT k f 4).length) : Met l yX4_charOf wsX4_charOf ({ frames := 2, cells := 0, slots := 0, locals := 46 }) (va_Pc [.ref (b 0), .int (nI ix), .int (nI i)] (zU D cA sz [cM b mm, (b 9, .inl (cA 0, 2, .inl (t2 ix c1 c2))), (b 7, .inl (cA 0, 8, .inl (bk 4 ix f fy)))])) (va_Qi (fun (r : Int32) (_ : Unit) => r = (lnT k f 4).getD i 0) (fun (_ : Unit) t => zB D [cM b mm, (b 9, .inl (cA 0, 2, .inl (t2 ix c1 c2))), (b 7, .inl (cA 0, 8, .inl (bk 4 ix f fy)))] sz [cM b mm, (b 9, .inl (cA 0, 2, .inl (t2 ix c1 c2))), (b 7, .inl (cA 0, 8, .inl (bk 4 ix f fy)))] t) (va_A [cM b mm, (b 9, .inl (cA 0, 2, .inl (t2 ix c1 c2))), (b 7, .inl (cA 0, 8, .inl (bk 4 ix f fy)))] sz)) 0 0 (va_A [cM b mm, (b 9, .inl (cA 0, 2, .inl (t2 ix c1 c2))), (b 7, .inl (cA 0, 8, .inl (bk 4 ix f fy)))] sz) := by
  refine Met.ofW (cc := cX4_charOf) (maxL := 10) (ret := (some .char)) (by decide) rfl ?_
  intro p e s m args below meth c s₁ B hml hv
  obtain ⟨rfl, hsz, hP, hK, hD0⟩ := hv
  have hx := B.exec
  have hb := B.bytes
  have hr := B.returns
  have hts := atoms_spec (ws := wsX4_charOf) B.pre
  have hown : s.vm.findClass RX4 = some m.cls := findClass_of_methodNamed B.named
  have hlocks := B.notSynchronized
  subst hsz
  have hD := hD0.self (sz := s.heap.size)
  generalize hAe : va_A [cM b mm, (b 9, .inl (cA 0, 2, .inl (t2 ix c1 c2))), (b 7, .inl (cA 0, 8, .inl (bk 4 ix f fy)))] s.heap.size = A at hD ⊢
  have hA : ∀ q : Nat, s.heap.size ≤ q → A q := fun q h => by rw [← hAe]; exact Or.inr h
  have hS : va_S A s.heap s.heap [] := va_S.rf
  have hl := lv_entry ([.ref (b 0), .int (nI ix), .int (nI i)]) (n := 10) (Nat.le_of_ble_eq_true rfl)
  rw [lg_entry_eq]
  generalize (lg_sl ([.ref (b 0), .int (nI ix), .int (nI i)]) ++ List.replicate (10 - (lg_sl ([.ref (b 0), .int (nI ix), .int (nI i)])).length) Slot.unset).toArray = ls at hl ⊢
  have hl : lv_has ls 10 [(0, .ref (b 0)), (1, .int (nI ix)), (2, .int (nI i))] := hl
  have hi34 : i < 2 ^ 30 := by (have q9 := len34 (f := f) hk (Nat.le_refl 4); omega)
  have hk9 := okl_at (lnT_ok hk hok 4 (Nat.le_refl 4)) hi
  have hz7 := zlen7 hk
  refine lv_aload_n hx hb dX4_charOf_0 rfl (lv_at hl 0 rfl) ?_
  refine va_get (D := D) (ci := 6) (v := .ref (b 9)) (C := RX4) (T := TX4) (N := 29) hx hb hts (fun _ h => List.mem_cons_of_mem _ (List.mem_append_right _ (h))) hown hK hP 0 rfl rfl 10 (by decide) (hts (.fieldLink RX4 35 "OptionWireModel" "states" "[I") (List.mem_of_getElem? (i := 1) rfl)) (fun _ h9 => h9) rfl dX4_charOf_1 ?_
  refine lv_iload_n hx hb dX4_charOf_4 rfl (lv_at hl 1 rfl) ?_
  refine z_iald (k := ix) (v := c1) hx hb hK hP 1 0 rfl rfl rfl (by omega) (by decide) t2_x dX4_charOf_5 ?_
  refine z_top (y := (nI k)) hk0 ?_
  have hPc := hP.sub (ws' := []) [] rfl
  have hDc := hD.sub (ws' := []) [] (by decide) rfl
  have hFc := va_free (wc := []) hD hS hA [] rfl
  refine va_calll (va_runS (As := [.int (nI k)]) (rest := []) ⟨hx, hb, hml, hown, hts⟩ (c_X4_wordOf l D cA s.heap.size k (by assumption)) (va_cwS 1 hts gX4_charOf_X4_wordOf rfl rfl rfl (by decide +kernel) ⟨Nat.le_of_ble_eq_true rfl, Nat.le_of_ble_eq_true rfl⟩) ⟨zU_blind, fun U hU hW => ⟨rfl, zU_call hU hPc hW.alike hK hDc⟩⟩ rfl rfl hl.1 rfl (lv_room (Nat.le_of_ble_eq_true rfl)) dX4_charOf_6 ⟨(Nat.zero_le _), (Nat.zero_le _)⟩) hS (fun q _ h => hFc q h) hFc (fun zr u t H1 locs ht hvm hw hB hz1 hk1 hS => ?_)
  obtain ⟨hP1, hD1⟩ := hB
  rw [ht] at hP1
  obtain ⟨hP, hD⟩ := va_join (wr := [cM b mm, (b 9, .inl (cA 0, 2, .inl (t2 ix c1 c2))), (b 7, .inl (cA 0, 8, .inl (bk 4 ix f fy)))]) (w1 := []) hP hD [] [0, 1, 2] rfl rfl (by decide) (by decide) hk1 hFc hP1 hD1
  generalize H1 = H at hP hS ⊢
  have hP := hP.sub (ws' := [cM b mm, (b 9, .inl (cA 0, 2, .inl (t2 ix c1 c2))), (b 7, .inl (cA 0, 8, .inl (bk 4 ix f fy)))]) [0, 1, 2] rfl
  have hD := hD.sub (ws' := [cM b mm, (b 9, .inl (cA 0, 2, .inl (t2 ix c1 c2))), (b 7, .inl (cA 0, 8, .inl (bk 4 ix f fy)))]) [0, 1, 2] (by decide) rfl
  clear hPc hDc hFc hP1 hD1 hk1 hz1
  have hw_1 := hw
  obtain rfl := hw
  refine lv_lstore_n (lv' := [(3, .long (zWd.getD k 0)), (0, .ref (b 0)), (1, .int (nI ix)), (2, .int (nI i))]) hx hb dX4_charOf_9 rfl hl (by decide) rfl (fun ls hl => ?_)
  refine lv_iload_n hx hb dX4_charOf_10 rfl (lv_at hl 3 rfl) ?_
  refine lv_lload_n hx hb dX4_charOf_11 rfl (lv_at hl 0 rfl) ?_
  have hPc := hP.sub (ws' := []) [] rfl
  have hDc := hD.sub (ws' := []) [] (by decide) rfl
  have hFc := va_free (wc := []) hD hS hA [] rfl
  refine va_calli (va_runS (As := [.long (zWd.getD k 0)]) (rest := [.int (nI i)]) ⟨hx, hb, hml, hown, hts⟩ (c_X4_letters l D cA H.size k (by assumption)) (va_cwS 1 hts gX4_charOf_X4_letters rfl rfl rfl (by decide +kernel) ⟨Nat.le_of_ble_eq_true rfl, Nat.le_of_ble_eq_true rfl⟩) ⟨zU_blind, fun U hU hW => ⟨rfl, zU_call hU hPc hW.alike hK hDc⟩⟩ rfl rfl hl.1 rfl (lv_room (Nat.le_of_ble_eq_true rfl)) dX4_charOf_12 ⟨(Nat.zero_le _), (Nat.zero_le _)⟩) hS (fun q _ h => hFc q h) hFc (fun zr u t H1 locs ht hvm hw hB hz1 hk1 hS => ?_)
  obtain ⟨hP1, hD1⟩ := hB
  rw [ht] at hP1
  obtain ⟨hP, hD⟩ := va_join (wr := [cM b mm, (b 9, .inl (cA 0, 2, .inl (t2 ix c1 c2))), (b 7, .inl (cA 0, 8, .inl (bk 4 ix f fy)))]) (w1 := []) hP hD [] [0, 1, 2] rfl rfl (by decide) (by decide) hk1 hFc hP1 hD1
  generalize H1 = H at hP hS ⊢
  have hP := hP.sub (ws' := [cM b mm, (b 9, .inl (cA 0, 2, .inl (t2 ix c1 c2))), (b 7, .inl (cA 0, 8, .inl (bk 4 ix f fy)))]) [0, 1, 2] rfl
  have hD := hD.sub (ws' := [cM b mm, (b 9, .inl (cA 0, 2, .inl (t2 ix c1 c2))), (b 7, .inl (cA 0, 8, .inl (bk 4 ix f fy)))]) [0, 1, 2] (by decide) rfl
  clear hPc hDc hFc hP1 hD1 hk1 hz1
  have hw_2 := hw
  obtain rfl := hw
  refine lv_icmp_ge (tgt := 31) hx hb dX4_charOf_15 (by decide) (fun c_3 => ?_) (fun c_3 => ?_)
  · have c_3 := (nI_leI (a := zLen.getD k 0) (b := i) (by omega) (by omega)).mp c_3
    refine lv_iload_n hx hb dX4_charOf_31 rfl (lv_at hl 3 rfl) ?_
    refine lv_lload_n hx hb dX4_charOf_32 rfl (lv_at hl 0 rfl) ?_
    have hPc := hP.sub (ws' := []) [] rfl
    have hDc := hD.sub (ws' := []) [] (by decide) rfl
    have hFc := va_free (wc := []) hD hS hA [] rfl
    refine va_calli (va_runS (As := [.long (zWd.getD k 0)]) (rest := [.int (nI i)]) ⟨hx, hb, hml, hown, hts⟩ (c_X4_letters l D cA H.size k (by assumption)) (va_cwS 1 hts gX4_charOf_X4_letters rfl rfl rfl (by decide +kernel) ⟨Nat.le_of_ble_eq_true rfl, Nat.le_of_ble_eq_true rfl⟩) ⟨zU_blind, fun U hU hW => ⟨rfl, zU_call hU hPc hW.alike hK hDc⟩⟩ rfl rfl hl.1 rfl (lv_room (Nat.le_of_ble_eq_true rfl)) dX4_charOf_33 ⟨(Nat.zero_le _), (Nat.zero_le _)⟩) hS (fun q _ h => hFc q h) hFc (fun zr u t H1 locs ht hvm hw hB hz1 hk1 hS => ?_)
    obtain ⟨hP1, hD1⟩ := hB
    rw [ht] at hP1
    obtain ⟨hP, hD⟩ := va_join (wr := [cM b mm, (b 9, .inl (cA 0, 2, .inl (t2 ix c1 c2))), (b 7, .inl (cA 0, 8, .inl (bk 4 ix f fy)))]) (w1 := []) hP hD [] [0, 1, 2] rfl rfl (by decide) (by decide) hk1 hFc hP1 hD1
    generalize H1 = H at hP hS ⊢
    have hP := hP.sub (ws' := [cM b mm, (b 9, .inl (cA 0, 2, .inl (t2 ix c1 c2))), (b 7, .inl (cA 0, 8, .inl (bk 4 ix f fy)))]) [0, 1, 2] rfl
    have hD := hD.sub (ws' := [cM b mm, (b 9, .inl (cA 0, 2, .inl (t2 ix c1 c2))), (b 7, .inl (cA 0, 8, .inl (bk 4 ix f fy)))]) [0, 1, 2] (by decide) rfl
    clear hPc hDc hFc hP1 hD1 hk1 hz1
    have hw_4 := hw
    obtain rfl := hw
    refine lv_isub hx hb dX4_charOf_36 ?_
    refine z_top (y := ((nI i) - (nI (lnT k f 0).length))) (show nI i - nI (zLen.getD k 0) = nI i - nI (lnT k f 0).length from congrArg (fun n => nI i - nI n) (zlen_ok hk).symm) ?_
    refine lv_istore (lv' := [(5, .int ((nI i) - (nI (lnT k f 0).length))), (3, .long (zWd.getD k 0)), (0, .ref (b 0)), (1, .int (nI ix)), (2, .int (nI i))]) hx hb dX4_charOf_37 hl (by decide) rfl (fun ls hl => ?_)
    refine lv_bipush (v := 32) hx hb dX4_charOf_39 (by decide) ?_
    refine z_top (y := (fnd k f i 0)) (fnd_0 hk c_3).symm ?_
    refine lv_istore (lv' := [(6, .int (fnd k f i 0)), (5, .int ((nI i) - (nI (lnT k f 0).length))), (3, .long (zWd.getD k 0)), (0, .ref (b 0)), (1, .int (nI ix)), (2, .int (nI i))]) hx hb dX4_charOf_41 hl (by decide) rfl (fun ls hl => ?_)
    refine lv_iconst (v := 0) hx hb dX4_charOf_43 (by decide) ?_
    refine lv_istore (lv' := [(7, .int 0), (6, .int (fnd k f i 0)), (5, .int ((nI i) - (nI (lnT k f 0).length))), (3, .long (zWd.getD k 0)), (0, .ref (b 0)), (1, .int (nI ix)), (2, .int (nI i))]) hx hb dX4_charOf_44 hl (by decide) rfl (fun ls hl => ?_)
    refine z_loop (Inv := fun j H locs ls => va_P D vwCl [cM b mm, (b 9, .inl (cA 0, 2, .inl (t2 ix c1 c2))), (b 7, .inl (cA 0, 8, .inl (bk 4 ix f fy)))] H ∧ va_D A [cM b mm, (b 9, .inl (cA 0, 2, .inl (t2 ix c1 c2))), (b 7, .inl (cA 0, 8, .inl (bk 4 ix f fy)))] ∧ va_S A s.heap H locs ∧ lv_has ls 10 [(7, .int (nI j)), (6, .int (fnd k f i j)), (5, .int ((nI i) - (nI (lnT k f j).length))), (3, .long (zWd.getD k 0)), (0, .ref (b 0)), (1, .int (nI ix)), (2, .int (nI i))]) 4 (fun j hj_j ih_j H locs ls hI => ?_) ⟨hP, hD, hS, lv_sub hl [0, 1, 2, 3, 4, 5, 6] rfl⟩
    obtain ⟨hP, hD, hS, hl⟩ := hI
    have hl27 := len34 (f := f) hk hj_j
    refine lv_iload hx hb dX4_charOf_46 (lv_at hl 0 rfl) ?_
    refine lv_iconst (v := 4) hx hb dX4_charOf_48 (by decide) ?_
    refine lv_icmp_ge (tgt := 148) hx hb dX4_charOf_49 (by decide) (fun c_5 => ?_) (fun c_5 => ?_)
    · have c_5 := (nI_leI (a := 4) (b := j) (by omega) (by omega)).mp c_5
      obtain rfl : j = 4 := by omega
      refine lv_iload hx hb dX4_charOf_148 (lv_at hl 1 rfl) ?_
      refine z_top (y := ((lnT k f 4).getD i 0)) (fnd_4 hi) ?_
      refine W.widen (k := 0) (n := 0) (by omega) (by omega) ?_
      exact W.zret (v := ((lnT k f 4).getD i 0)) hx hb hr (narc hk9.1 hk9.2) (fun t ht hW => ⟨⟨(lnT k f 4).getD i 0, (), rfl, rfl, ⟨by rw [ht]; exact hP, by rw [hAe]; exact hD⟩⟩, hS.F ht⟩) hS.2.2 dX4_charOf_150
    · have c_5 := mt (nI_leI (a := 4) (b := j) (by omega) (by omega)).mpr c_5
      refine lv_aload_n hx hb dX4_charOf_52 rfl (lv_at hl 4 rfl) ?_
      refine va_get (D := D) (ci := 6) (v := .ref (b 7)) (C := RX4) (T := TX4) (N := 29) hx hb hts (fun _ h => List.mem_cons_of_mem _ (List.mem_append_right _ (h))) hown hK hP 0 rfl rfl 8 (by decide) (hts (.fieldLink RX4 29 "OptionWireModel" "asks" "[I") (List.mem_of_getElem? (i := 3) rfl)) (fun _ h9 => h9) rfl dX4_charOf_53 ?_
      refine lv_iconst (v := 4) hx hb dX4_charOf_56 (by decide) ?_
      refine lv_iload_n hx hb dX4_charOf_57 rfl (lv_at hl 5 rfl) ?_
      refine lv_imul hx hb dX4_charOf_58 ?_
      refine z_top (y := (nI (4 * ix))) (z_mul 4 ix) ?_
      refine lv_iload hx hb dX4_charOf_59 (lv_at hl 0 rfl) ?_
      refine lv_iadd hx hb dX4_charOf_61 ?_
      refine z_top (y := (nI (4 * ix + j))) (z_add (4 * ix) j) ?_
      refine z_iald (k := (4 * ix + j)) (v := (f j)) hx hb hK hP 2 0 rfl rfl rfl (by omega) (by decide) (bk_x (by omega)) dX4_charOf_62 ?_
      refine lv_istore (lv' := [(8, .int (f j)), (7, .int (nI j)), (6, .int (fnd k f i j)), (5, .int ((nI i) - (nI (lnT k f j).length))), (3, .long (zWd.getD k 0)), (0, .ref (b 0)), (1, .int (nI ix)), (2, .int (nI i))]) hx hb dX4_charOf_63 hl (by decide) rfl (fun ls hl => ?_)
      refine lv_iload hx hb dX4_charOf_65 (lv_at hl 0 rfl) ?_
      refine lv_iconst (v := (-1)) hx hb dX4_charOf_67 (by decide) ?_
      refine lv_icmp_ne (tgt := 75) hx hb dX4_charOf_68 (by decide) (fun c_6 => ?_) (fun c_6 => ?_)
      · skip
        obtain ⟨vj, hvj, hfvj⟩ := (hok j (by omega)).resolve_left c_6
        have hd3 := lnD_3 vj
        have hl : lv_has ls 10 [(8, .int (nI vj)), (7, .int (nI j)), (6, .int (fnd k f i j)), (5, .int ((nI i) - (nI (lnT k f j).length))), (3, .long (zWd.getD k 0)), (0, .ref (b 0)), (1, .int (nI ix)), (2, .int (nI i))] := by (have q9 := hl; rw [show f j = nI vj from hfvj] at q9; exact q9)
        refine lv_iconst (v := 2) hx hb dX4_charOf_75 (by decide) ?_
        refine lv_iload hx hb dX4_charOf_76 (lv_at hl 0 rfl) ?_
        have hPc := hP.sub (ws' := []) [] rfl
        have hDc := hD.sub (ws' := []) [] (by decide) rfl
        have hFc := va_free (wc := []) hD hS hA [] rfl
        refine va_calli (va_runS (As := [.int (nI vj)]) (rest := [.int 2]) ⟨hx, hb, hml, hown, hts⟩ (c_X4_digits l D cA H.size vj hvj) (va_cwS 1 hts gX4_charOf_X4_digits rfl rfl rfl (by decide +kernel) ⟨Nat.le_of_ble_eq_true rfl, Nat.le_of_ble_eq_true rfl⟩) ⟨zU_blind, fun U hU hW => ⟨rfl, zU_call hU hPc hW.alike hK hDc⟩⟩ rfl rfl hl.1 rfl (lv_room (Nat.le_of_ble_eq_true rfl)) dX4_charOf_78 ⟨(Nat.zero_le _), (Nat.zero_le _)⟩) hS (fun q _ h => hFc q h) hFc (fun zr u t H1 locs ht hvm hw hB hz1 hk1 hS => ?_)
        obtain ⟨hP1, hD1⟩ := hB
        rw [ht] at hP1
        obtain ⟨hP, hD⟩ := va_join (wr := [cM b mm, (b 9, .inl (cA 0, 2, .inl (t2 ix c1 c2))), (b 7, .inl (cA 0, 8, .inl (bk 4 ix f fy)))]) (w1 := []) hP hD [] [0, 1, 2] rfl rfl (by decide) (by decide) hk1 hFc hP1 hD1
        generalize H1 = H at hP hS ⊢
        have hP := hP.sub (ws' := [cM b mm, (b 9, .inl (cA 0, 2, .inl (t2 ix c1 c2))), (b 7, .inl (cA 0, 8, .inl (bk 4 ix f fy)))]) [0, 1, 2] rfl
        have hD := hD.sub (ws' := [cM b mm, (b 9, .inl (cA 0, 2, .inl (t2 ix c1 c2))), (b 7, .inl (cA 0, 8, .inl (bk 4 ix f fy)))]) [0, 1, 2] (by decide) rfl
        clear hPc hDc hFc hP1 hD1 hk1 hz1
        have hw_7 := hw
        obtain rfl := hw
        refine lv_iadd hx hb dX4_charOf_81 ?_
        refine z_top (y := (nI (2 + ((lnD vj).length)))) (z_add 2 ((lnD vj).length)) ?_
        refine lv_istore (lv' := [(9, .int (nI (2 + ((lnD vj).length)))), (8, .int (nI vj)), (7, .int (nI j)), (6, .int (fnd k f i j)), (5, .int ((nI i) - (nI (lnT k f j).length))), (3, .long (zWd.getD k 0)), (0, .ref (b 0)), (1, .int (nI ix)), (2, .int (nI i))]) hx hb dX4_charOf_82 hl (by decide) rfl (fun ls hl => ?_)
        refine lv_iload hx hb dX4_charOf_84 (lv_at hl 4 rfl) ?_
        refine lv_if_lt (tgt := 135) hx hb dX4_charOf_86 (by decide) (fun c_8 => ?_) (fun c_8 => ?_)
        · skip
          have hq9 := (sub_lt0 (by omega) (by omega)).mp c_8
          refine lv_iload hx hb dX4_charOf_135 (lv_at hl 4 rfl) ?_
          refine lv_iload hx hb dX4_charOf_137 (lv_at hl 0 rfl) ?_
          refine lv_isub hx hb dX4_charOf_139 ?_
          refine lv_istore (lv' := [(5, .int (((nI i) - (nI (lnT k f j).length)) - (nI (2 + ((lnD vj).length))))), (9, .int (nI (2 + ((lnD vj).length)))), (8, .int (nI vj)), (7, .int (nI j)), (6, .int (fnd k f i j)), (3, .long (zWd.getD k 0)), (0, .ref (b 0)), (1, .int (nI ix)), (2, .int (nI i))]) hx hb dX4_charOf_140 hl (by decide) rfl (fun ls hl => ?_)
          refine lv_iinc (v := nI (j + 1)) (lv' := [(7, .int (nI (j + 1))), (5, .int (((nI i) - (nI (lnT k f j).length)) - (nI (2 + ((lnD vj).length))))), (9, .int (nI (2 + ((lnD vj).length)))), (8, .int (nI vj)), (6, .int (fnd k f i j)), (3, .long (zWd.getD k 0)), (0, .ref (b 0)), (1, .int (nI ix)), (2, .int (nI i))]) hx hb dX4_charOf_142 hl (k := 3) rfl (z_inc j 1) (by decide) rfl (fun ls hl => ?_)
          refine lv_goto (tgt := 46) hx hb dX4_charOf_145 (by decide) ?_
          exact ih_j _ _ _ (by omega) ⟨hP, hD, hS, (by rw [show fnd k f i (j + 1) = fnd k f i j from (fnd_lt hq9), show (nI i) - (nI (lnT k f (j + 1)).length) = ((nI i) - (nI (lnT k f j).length)) - (nI (2 + ((lnD vj).length))) from (lft_v hvj hfvj)]; exact lv_sub hl [0, 4, 1, 5, 6, 7, 8] rfl)⟩
        · skip
          have hq9 := Nat.le_of_not_lt (mt (sub_lt0 (by omega) (by omega)).mpr c_8)
          have hl : lv_has ls 10 [(9, .int (nI (2 + ((lnD vj).length)))), (8, .int (nI vj)), (7, .int (nI j)), (6, .int (fnd k f i j)), (5, .int (nI (i - (lnT k f j).length))), (3, .long (zWd.getD k 0)), (0, .ref (b 0)), (1, .int (nI ix)), (2, .int (nI i))] := by (have q9 := hl; rw [show (nI i) - (nI (lnT k f j).length) = nI (i - (lnT k f j).length) from z_sub hq9] at q9; exact q9)
          refine lv_iload hx hb dX4_charOf_89 (lv_at hl 4 rfl) ?_
          refine lv_iload hx hb dX4_charOf_91 (lv_at hl 0 rfl) ?_
          refine lv_icmp_ge (tgt := 135) hx hb dX4_charOf_93 (by decide) (fun c_9 => ?_) (fun c_9 => ?_)
          · have c_9 := (nI_leI (a := 2 + ((lnD vj).length)) (b := i - (lnT k f j).length) (by omega) (by omega)).mp c_9
            have hl : lv_has ls 10 [(9, .int (nI (2 + ((lnD vj).length)))), (8, .int (nI vj)), (7, .int (nI j)), (6, .int (fnd k f i j)), (5, .int ((nI i) - (nI (lnT k f j).length))), (3, .long (zWd.getD k 0)), (0, .ref (b 0)), (1, .int (nI ix)), (2, .int (nI i))] := by (have q9 := hl; rw [show nI (i - (lnT k f j).length) = (nI i) - (nI (lnT k f j).length) from (z_sub hq9).symm] at q9; exact q9)
            refine lv_iload hx hb dX4_charOf_135 (lv_at hl 4 rfl) ?_
            refine lv_iload hx hb dX4_charOf_137 (lv_at hl 0 rfl) ?_
            refine lv_isub hx hb dX4_charOf_139 ?_
            refine lv_istore (lv' := [(5, .int (((nI i) - (nI (lnT k f j).length)) - (nI (2 + ((lnD vj).length))))), (9, .int (nI (2 + ((lnD vj).length)))), (8, .int (nI vj)), (7, .int (nI j)), (6, .int (fnd k f i j)), (3, .long (zWd.getD k 0)), (0, .ref (b 0)), (1, .int (nI ix)), (2, .int (nI i))]) hx hb dX4_charOf_140 hl (by decide) rfl (fun ls hl => ?_)
            refine lv_iinc (v := nI (j + 1)) (lv' := [(7, .int (nI (j + 1))), (5, .int (((nI i) - (nI (lnT k f j).length)) - (nI (2 + ((lnD vj).length))))), (9, .int (nI (2 + ((lnD vj).length)))), (8, .int (nI vj)), (6, .int (fnd k f i j)), (3, .long (zWd.getD k 0)), (0, .ref (b 0)), (1, .int (nI ix)), (2, .int (nI i))]) hx hb dX4_charOf_142 hl (k := 3) rfl (z_inc j 1) (by decide) rfl (fun ls hl => ?_)
            refine lv_goto (tgt := 46) hx hb dX4_charOf_145 (by decide) ?_
            exact ih_j _ _ _ (by omega) ⟨hP, hD, hS, (by rw [show fnd k f i (j + 1) = fnd k f i j from (fnd_ge hvj hfvj c_9), show (nI i) - (nI (lnT k f (j + 1)).length) = ((nI i) - (nI (lnT k f j).length)) - (nI (2 + ((lnD vj).length))) from (lft_v hvj hfvj)]; exact lv_sub hl [0, 4, 1, 5, 6, 7, 8] rfl)⟩
          · have c_9 := mt (nI_leI (a := 2 + ((lnD vj).length)) (b := i - (lnT k f j).length) (by omega) (by omega)).mpr c_9
            refine lv_iload hx hb dX4_charOf_96 (lv_at hl 4 rfl) ?_
            refine lv_if_ne (tgt := 106) hx hb dX4_charOf_98 (by decide) (fun c_10 => ?_) (fun c_10 => ?_)
            · have c_10 := mt (nI_eq (a := i - (lnT k f j).length) (b := 0) (by omega) (by omega)).mpr c_10
              refine lv_iload hx hb dX4_charOf_106 (lv_at hl 4 rfl) ?_
              refine lv_iconst (v := 1) hx hb dX4_charOf_108 (by decide) ?_
              refine lv_icmp_ne (tgt := 120) hx hb dX4_charOf_109 (by decide) (fun c_11 => ?_) (fun c_11 => ?_)
              · have c_11 := mt (nI_eq (a := i - (lnT k f j).length) (b := 1) (by omega) (by omega)).mpr c_11
                refine lv_bipush (v := 48) hx hb dX4_charOf_120 (by decide) ?_
                refine lv_iload hx hb dX4_charOf_122 (lv_at hl 1 rfl) ?_
                refine lv_iload hx hb dX4_charOf_124 (lv_at hl 4 rfl) ?_
                refine lv_iconst (v := 2) hx hb dX4_charOf_126 (by decide) ?_
                refine lv_isub hx hb dX4_charOf_127 ?_
                refine z_top (y := (nI (i - (lnT k f j).length - 2))) (z_sub (b := 2) (by omega)) ?_
                have hPc := hP.sub (ws' := []) [] rfl
                have hDc := hD.sub (ws' := []) [] (by decide) rfl
                have hFc := va_free (wc := []) hD hS hA [] rfl
                refine va_calli (va_runS (As := [.int (nI vj), .int (nI (i - (lnT k f j).length - 2))]) (rest := [.int 48]) ⟨hx, hb, hml, hown, hts⟩ (c_X4_digitAt l D cA H.size vj (i - (lnT k f j).length - 2) hvj (by omega)) (va_cwS 2 hts gX4_charOf_X4_digitAt rfl rfl rfl (by decide +kernel) ⟨Nat.le_of_ble_eq_true rfl, Nat.le_of_ble_eq_true rfl⟩) ⟨zU_blind, fun U hU hW => ⟨rfl, zU_call hU hPc hW.alike hK hDc⟩⟩ rfl rfl hl.1 rfl (lv_room (Nat.le_of_ble_eq_true rfl)) dX4_charOf_128 ⟨(Nat.zero_le _), (Nat.zero_le _)⟩) hS (fun q _ h => hFc q h) hFc (fun zr u t H1 locs ht hvm hw hB hz1 hk1 hS => ?_)
                obtain ⟨hP1, hD1⟩ := hB
                rw [ht] at hP1
                obtain ⟨hP, hD⟩ := va_join (wr := [cM b mm, (b 9, .inl (cA 0, 2, .inl (t2 ix c1 c2))), (b 7, .inl (cA 0, 8, .inl (bk 4 ix f fy)))]) (w1 := []) hP hD [] [0, 1, 2] rfl rfl (by decide) (by decide) hk1 hFc hP1 hD1
                generalize H1 = H at hP hS ⊢
                have hP := hP.sub (ws' := [cM b mm, (b 9, .inl (cA 0, 2, .inl (t2 ix c1 c2))), (b 7, .inl (cA 0, 8, .inl (bk 4 ix f fy)))]) [0, 1, 2] rfl
                have hD := hD.sub (ws' := [cM b mm, (b 9, .inl (cA 0, 2, .inl (t2 ix c1 c2))), (b 7, .inl (cA 0, 8, .inl (bk 4 ix f fy)))]) [0, 1, 2] (by decide) rfl
                clear hPc hDc hFc hP1 hD1 hk1 hz1
                have hw_12 := hw
                obtain ⟨r_12, rfl⟩ : ∃ z, z = zr := ⟨_, rfl⟩
                refine lv_iadd hx hb dX4_charOf_131 ?_
                refine z_top (y := ((lnD vj).getD (i - (lnT k f j).length - 2) 0)) hw_12 ?_
                have hd9 := okl_at (okl_D vj hvj) (show i - (lnT k f j).length - 2 < (lnD vj).length by omega)
                refine lv_i2c (v := ((lnD vj).getD (i - (lnT k f j).length - 2) 0)) hx hb dX4_charOf_132 (chr7 hd9.1 hd9.2) ?_
                refine lv_istore (lv' := [(6, .int ((lnD vj).getD (i - (lnT k f j).length - 2) 0)), (9, .int (nI (2 + ((lnD vj).length)))), (8, .int (nI vj)), (7, .int (nI j)), (5, .int (nI (i - (lnT k f j).length))), (3, .long (zWd.getD k 0)), (0, .ref (b 0)), (1, .int (nI ix)), (2, .int (nI i))]) hx hb dX4_charOf_133 hl (by decide) rfl (fun ls hl => ?_)
                have hl : lv_has ls 10 [(6, .int ((lnD vj).getD (i - (lnT k f j).length - 2) 0)), (9, .int (nI (2 + ((lnD vj).length)))), (8, .int (nI vj)), (7, .int (nI j)), (5, .int ((nI i) - (nI (lnT k f j).length))), (3, .long (zWd.getD k 0)), (0, .ref (b 0)), (1, .int (nI ix)), (2, .int (nI i))] := by (have q9 := hl; rw [show nI (i - (lnT k f j).length) = (nI i) - (nI (lnT k f j).length) from (z_sub hq9).symm] at q9; exact q9)
                refine lv_iload hx hb dX4_charOf_135 (lv_at hl 4 rfl) ?_
                refine lv_iload hx hb dX4_charOf_137 (lv_at hl 1 rfl) ?_
                refine lv_isub hx hb dX4_charOf_139 ?_
                refine lv_istore (lv' := [(5, .int (((nI i) - (nI (lnT k f j).length)) - (nI (2 + ((lnD vj).length))))), (6, .int ((lnD vj).getD (i - (lnT k f j).length - 2) 0)), (9, .int (nI (2 + ((lnD vj).length)))), (8, .int (nI vj)), (7, .int (nI j)), (3, .long (zWd.getD k 0)), (0, .ref (b 0)), (1, .int (nI ix)), (2, .int (nI i))]) hx hb dX4_charOf_140 hl (by decide) rfl (fun ls hl => ?_)
                refine lv_iinc (v := nI (j + 1)) (lv' := [(7, .int (nI (j + 1))), (5, .int (((nI i) - (nI (lnT k f j).length)) - (nI (2 + ((lnD vj).length))))), (6, .int ((lnD vj).getD (i - (lnT k f j).length - 2) 0)), (9, .int (nI (2 + ((lnD vj).length)))), (8, .int (nI vj)), (3, .long (zWd.getD k 0)), (0, .ref (b 0)), (1, .int (nI ix)), (2, .int (nI i))]) hx hb dX4_charOf_142 hl (k := 4) rfl (z_inc j 1) (by decide) rfl (fun ls hl => ?_)
                refine lv_goto (tgt := 46) hx hb dX4_charOf_145 (by decide) ?_
                exact ih_j _ _ _ (by omega) ⟨hP, hD, hS, (by rw [show fnd k f i (j + 1) = (lnD vj).getD (i - (lnT k f j).length - 2) 0 from (fnd_in2 hvj hfvj hq9 (Nat.lt_of_not_le c_9) c_10 c_11), show (nI i) - (nI (lnT k f (j + 1)).length) = ((nI i) - (nI (lnT k f j).length)) - (nI (2 + ((lnD vj).length))) from (lft_v hvj hfvj)]; exact lv_sub hl [0, 2, 1, 5, 6, 7, 8] rfl)⟩
              · have c_11 := (nI_eq (a := i - (lnT k f j).length) (b := 1) (by omega) (by omega)).mp c_11
                refine lv_bipush (v := 97) hx hb dX4_charOf_112 (by decide) ?_
                refine lv_iload hx hb dX4_charOf_114 (lv_at hl 2 rfl) ?_
                refine lv_iadd hx hb dX4_charOf_116 ?_
                refine z_top (y := (nI (97 + j))) (z_add 97 j) ?_
                refine lv_goto (tgt := 132) hx hb dX4_charOf_117 (by decide) ?_
                refine lv_i2c (v := (nI (97 + j))) hx hb dX4_charOf_132 (chr7 (okc_n (by omega)).1 (okc_n (by omega)).2) ?_
                refine lv_istore (lv' := [(6, .int (nI (97 + j))), (9, .int (nI (2 + ((lnD vj).length)))), (8, .int (nI vj)), (7, .int (nI j)), (5, .int (nI (i - (lnT k f j).length))), (3, .long (zWd.getD k 0)), (0, .ref (b 0)), (1, .int (nI ix)), (2, .int (nI i))]) hx hb dX4_charOf_133 hl (by decide) rfl (fun ls hl => ?_)
                have hl : lv_has ls 10 [(6, .int (nI (97 + j))), (9, .int (nI (2 + ((lnD vj).length)))), (8, .int (nI vj)), (7, .int (nI j)), (5, .int ((nI i) - (nI (lnT k f j).length))), (3, .long (zWd.getD k 0)), (0, .ref (b 0)), (1, .int (nI ix)), (2, .int (nI i))] := by (have q9 := hl; rw [show nI (i - (lnT k f j).length) = (nI i) - (nI (lnT k f j).length) from (z_sub hq9).symm] at q9; exact q9)
                refine lv_iload hx hb dX4_charOf_135 (lv_at hl 4 rfl) ?_
                refine lv_iload hx hb dX4_charOf_137 (lv_at hl 1 rfl) ?_
                refine lv_isub hx hb dX4_charOf_139 ?_
                refine lv_istore (lv' := [(5, .int (((nI i) - (nI (lnT k f j).length)) - (nI (2 + ((lnD vj).length))))), (6, .int (nI (97 + j))), (9, .int (nI (2 + ((lnD vj).length)))), (8, .int (nI vj)), (7, .int (nI j)), (3, .long (zWd.getD k 0)), (0, .ref (b 0)), (1, .int (nI ix)), (2, .int (nI i))]) hx hb dX4_charOf_140 hl (by decide) rfl (fun ls hl => ?_)
                refine lv_iinc (v := nI (j + 1)) (lv' := [(7, .int (nI (j + 1))), (5, .int (((nI i) - (nI (lnT k f j).length)) - (nI (2 + ((lnD vj).length))))), (6, .int (nI (97 + j))), (9, .int (nI (2 + ((lnD vj).length)))), (8, .int (nI vj)), (3, .long (zWd.getD k 0)), (0, .ref (b 0)), (1, .int (nI ix)), (2, .int (nI i))]) hx hb dX4_charOf_142 hl (k := 4) rfl (z_inc j 1) (by decide) rfl (fun ls hl => ?_)
                refine lv_goto (tgt := 46) hx hb dX4_charOf_145 (by decide) ?_
                exact ih_j _ _ _ (by omega) ⟨hP, hD, hS, (by rw [show fnd k f i (j + 1) = nI (97 + j) from (fnd_in1 hvj hfvj hq9 (Nat.lt_of_not_le c_9) c_11), show (nI i) - (nI (lnT k f (j + 1)).length) = ((nI i) - (nI (lnT k f j).length)) - (nI (2 + ((lnD vj).length))) from (lft_v hvj hfvj)]; exact lv_sub hl [0, 2, 1, 5, 6, 7, 8] rfl)⟩
            · have c_10 := (nI_eq (a := i - (lnT k f j).length) (b := 0) (by omega) (by omega)).mp c_10
              refine lv_bipush (v := 32) hx hb dX4_charOf_101 (by decide) ?_
              refine lv_goto (tgt := 133) hx hb dX4_charOf_103 (by decide) ?_
              refine lv_istore (lv' := [(6, .int 32), (9, .int (nI (2 + ((lnD vj).length)))), (8, .int (nI vj)), (7, .int (nI j)), (5, .int (nI (i - (lnT k f j).length))), (3, .long (zWd.getD k 0)), (0, .ref (b 0)), (1, .int (nI ix)), (2, .int (nI i))]) hx hb dX4_charOf_133 hl (by decide) rfl (fun ls hl => ?_)
              have hl : lv_has ls 10 [(6, .int 32), (9, .int (nI (2 + ((lnD vj).length)))), (8, .int (nI vj)), (7, .int (nI j)), (5, .int ((nI i) - (nI (lnT k f j).length))), (3, .long (zWd.getD k 0)), (0, .ref (b 0)), (1, .int (nI ix)), (2, .int (nI i))] := by (have q9 := hl; rw [show nI (i - (lnT k f j).length) = (nI i) - (nI (lnT k f j).length) from (z_sub hq9).symm] at q9; exact q9)
              refine lv_iload hx hb dX4_charOf_135 (lv_at hl 4 rfl) ?_
              refine lv_iload hx hb dX4_charOf_137 (lv_at hl 1 rfl) ?_
              refine lv_isub hx hb dX4_charOf_139 ?_
              refine lv_istore (lv' := [(5, .int (((nI i) - (nI (lnT k f j).length)) - (nI (2 + ((lnD vj).length))))), (6, .int 32), (9, .int (nI (2 + ((lnD vj).length)))), (8, .int (nI vj)), (7, .int (nI j)), (3, .long (zWd.getD k 0)), (0, .ref (b 0)), (1, .int (nI ix)), (2, .int (nI i))]) hx hb dX4_charOf_140 hl (by decide) rfl (fun ls hl => ?_)
              refine lv_iinc (v := nI (j + 1)) (lv' := [(7, .int (nI (j + 1))), (5, .int (((nI i) - (nI (lnT k f j).length)) - (nI (2 + ((lnD vj).length))))), (6, .int 32), (9, .int (nI (2 + ((lnD vj).length)))), (8, .int (nI vj)), (3, .long (zWd.getD k 0)), (0, .ref (b 0)), (1, .int (nI ix)), (2, .int (nI i))]) hx hb dX4_charOf_142 hl (k := 4) rfl (z_inc j 1) (by decide) rfl (fun ls hl => ?_)
              refine lv_goto (tgt := 46) hx hb dX4_charOf_145 (by decide) ?_
              exact ih_j _ _ _ (by omega) ⟨hP, hD, hS, (by rw [show fnd k f i (j + 1) = 32 from (fnd_in0 hvj hfvj hq9 (Nat.lt_of_not_le c_9) c_10), show (nI i) - (nI (lnT k f (j + 1)).length) = ((nI i) - (nI (lnT k f j).length)) - (nI (2 + ((lnD vj).length))) from (lft_v hvj hfvj)]; exact lv_sub hl [0, 2, 1, 5, 6, 7, 8] rfl)⟩
      · skip
        refine lv_iconst (v := 0) hx hb dX4_charOf_71 (by decide) ?_
        refine lv_goto (tgt := 82) hx hb dX4_charOf_72 (by decide) ?_
        refine lv_istore (lv' := [(9, .int 0), (8, .int (f j)), (7, .int (nI j)), (6, .int (fnd k f i j)), (5, .int ((nI i) - (nI (lnT k f j).length))), (3, .long (zWd.getD k 0)), (0, .ref (b 0)), (1, .int (nI ix)), (2, .int (nI i))]) hx hb dX4_charOf_82 hl (by decide) rfl (fun ls hl => ?_)
        refine lv_iload hx hb dX4_charOf_84 (lv_at hl 4 rfl) ?_
        refine lv_if_lt (tgt := 135) hx hb dX4_charOf_86 (by decide) (fun c_13 => ?_) (fun c_13 => ?_)
        · skip
          have hq9 := (sub_lt0 (by omega) (by omega)).mp c_13
          refine lv_iload hx hb dX4_charOf_135 (lv_at hl 4 rfl) ?_
          refine lv_iload hx hb dX4_charOf_137 (lv_at hl 0 rfl) ?_
          refine lv_isub hx hb dX4_charOf_139 ?_
          refine lv_istore (lv' := [(5, .int (((nI i) - (nI (lnT k f j).length)) - 0)), (9, .int 0), (8, .int (f j)), (7, .int (nI j)), (6, .int (fnd k f i j)), (3, .long (zWd.getD k 0)), (0, .ref (b 0)), (1, .int (nI ix)), (2, .int (nI i))]) hx hb dX4_charOf_140 hl (by decide) rfl (fun ls hl => ?_)
          refine lv_iinc (v := nI (j + 1)) (lv' := [(7, .int (nI (j + 1))), (5, .int (((nI i) - (nI (lnT k f j).length)) - 0)), (9, .int 0), (8, .int (f j)), (6, .int (fnd k f i j)), (3, .long (zWd.getD k 0)), (0, .ref (b 0)), (1, .int (nI ix)), (2, .int (nI i))]) hx hb dX4_charOf_142 hl (k := 3) rfl (z_inc j 1) (by decide) rfl (fun ls hl => ?_)
          refine lv_goto (tgt := 46) hx hb dX4_charOf_145 (by decide) ?_
          exact ih_j _ _ _ (by omega) ⟨hP, hD, hS, (by rw [show fnd k f i (j + 1) = fnd k f i j from (fnd_n c_6), show (nI i) - (nI (lnT k f (j + 1)).length) = ((nI i) - (nI (lnT k f j).length)) - 0 from (lft_n c_6)]; exact lv_sub hl [0, 4, 1, 5, 6, 7, 8] rfl)⟩
        · skip
          have hq9 := Nat.le_of_not_lt (mt (sub_lt0 (by omega) (by omega)).mpr c_13)
          have hl : lv_has ls 10 [(9, .int 0), (8, .int (f j)), (7, .int (nI j)), (6, .int (fnd k f i j)), (5, .int (nI (i - (lnT k f j).length))), (3, .long (zWd.getD k 0)), (0, .ref (b 0)), (1, .int (nI ix)), (2, .int (nI i))] := by (have q9 := hl; rw [show (nI i) - (nI (lnT k f j).length) = nI (i - (lnT k f j).length) from z_sub hq9] at q9; exact q9)
          refine lv_iload hx hb dX4_charOf_89 (lv_at hl 4 rfl) ?_
          refine lv_iload hx hb dX4_charOf_91 (lv_at hl 0 rfl) ?_
          refine lv_icmp_ge (tgt := 135) hx hb dX4_charOf_93 (by decide) (fun c_14 => ?_) (fun c_14 => ?_)
          · have c_14 := (nI_leI (a := 0) (b := i - (lnT k f j).length) (by omega) (by omega)).mp c_14
            have hl : lv_has ls 10 [(9, .int 0), (8, .int (f j)), (7, .int (nI j)), (6, .int (fnd k f i j)), (5, .int ((nI i) - (nI (lnT k f j).length))), (3, .long (zWd.getD k 0)), (0, .ref (b 0)), (1, .int (nI ix)), (2, .int (nI i))] := by (have q9 := hl; rw [show nI (i - (lnT k f j).length) = (nI i) - (nI (lnT k f j).length) from (z_sub hq9).symm] at q9; exact q9)
            refine lv_iload hx hb dX4_charOf_135 (lv_at hl 4 rfl) ?_
            refine lv_iload hx hb dX4_charOf_137 (lv_at hl 0 rfl) ?_
            refine lv_isub hx hb dX4_charOf_139 ?_
            refine lv_istore (lv' := [(5, .int (((nI i) - (nI (lnT k f j).length)) - 0)), (9, .int 0), (8, .int (f j)), (7, .int (nI j)), (6, .int (fnd k f i j)), (3, .long (zWd.getD k 0)), (0, .ref (b 0)), (1, .int (nI ix)), (2, .int (nI i))]) hx hb dX4_charOf_140 hl (by decide) rfl (fun ls hl => ?_)
            refine lv_iinc (v := nI (j + 1)) (lv' := [(7, .int (nI (j + 1))), (5, .int (((nI i) - (nI (lnT k f j).length)) - 0)), (9, .int 0), (8, .int (f j)), (6, .int (fnd k f i j)), (3, .long (zWd.getD k 0)), (0, .ref (b 0)), (1, .int (nI ix)), (2, .int (nI i))]) hx hb dX4_charOf_142 hl (k := 3) rfl (z_inc j 1) (by decide) rfl (fun ls hl => ?_)
            refine lv_goto (tgt := 46) hx hb dX4_charOf_145 (by decide) ?_
            exact ih_j _ _ _ (by omega) ⟨hP, hD, hS, (by rw [show fnd k f i (j + 1) = fnd k f i j from (fnd_n c_6), show (nI i) - (nI (lnT k f (j + 1)).length) = ((nI i) - (nI (lnT k f j).length)) - 0 from (lft_n c_6)]; exact lv_sub hl [0, 4, 1, 5, 6, 7, 8] rfl)⟩
          · have c_14 := mt (nI_leI (a := 0) (b := i - (lnT k f j).length) (by omega) (by omega)).mpr c_14
            omega
  · have c_3 := mt (nI_leI (a := zLen.getD k 0) (b := i) (by omega) (by omega)).mpr c_3
    refine lv_lload_n hx hb dX4_charOf_18 rfl (lv_at hl 0 rfl) ?_
    refine lv_bipush (v := 7) hx hb dX4_charOf_19 (by decide) ?_
    refine lv_iload_n hx hb dX4_charOf_21 rfl (lv_at hl 3 rfl) ?_
    refine lv_imul hx hb dX4_charOf_22 ?_
    refine z_top (y := (nI (7 * i))) (z_mul 7 i) ?_
    refine lv_lshr (v := ((zWd.getD k 0) >>> ((nI (7 * i)).toInt64 &&& 63))) hx hb dX4_charOf_23 rfl ?_
    refine lv_ldc2 (v := 127) hx hb hown (hts (.constantLong RX4 164 (127)) (List.mem_of_getElem? (i := 2) rfl)) dX4_charOf_24 ?_
    refine lv_land hx hb dX4_charOf_27 ?_
    refine lv_l2i (v := (((zWd.getD k 0) >>> ((nI (7 * i)).toInt64 &&& 63)) &&& 127).toInt32) hx hb dX4_charOf_28 rfl ?_
    refine lv_i2c (v := ((lnT k f 4).getD i 0)) hx hb dX4_charOf_29 ((lch_c hk (by omega)).trans (lnT_0 hk (by omega)).symm) ?_
    refine W.widen (k := 0) (n := 0) (by omega) (by omega) ?_
    exact W.zret (v := ((lnT k f 4).getD i 0)) hx hb hr (narc hk9.1 hk9.2) (fun t ht hW => ⟨⟨(lnT k f 4).getD i 0, (), rfl, rfl, ⟨by rw [ht]; exact hP, by rw [hAe]; exact hD⟩⟩, hS.F ht⟩) hS.2.2 dX4_charOf_30
set_option maxHeartbeats 4000000 in
set_option maxRecDepth 100000 in
theorem c_X4_lineLength_k (l : Launch) (D : va_G) (cA : Nat → ClassId) (sz : Nat) (b : Nat → Nat) (mm : Nat → Int32) (ix : Nat) (c1 c2 : Int32) (k : Nat) (f fy : Nat → Int32) (hix : ix ≤ 1) (hk : k < 8) (hk0 : c1 = nI k) (hok : ∀ j, j < 4 → okv (f j)) : Met l yX4_lineLength wsX4_lineLength ({ frames := 3, cells := 0, slots := 0, locals := 69 }) (va_Pc [.ref (b 0), .int (nI ix)] (zU D cA sz [cM b mm, (b 9, .inl (cA 0, 2, .inl (t2 ix c1 c2))), (b 7, .inl (cA 0, 8, .inl (bk 4 ix f fy)))])) (va_Qi (fun (r : Int32) (u : (Nat → Int32)) => u = upd mm 6 0 ∧ r = nI (lnT k f 4).length) (fun (u : (Nat → Int32)) t => zB D [cM b mm, (b 9, .inl (cA 0, 2, .inl (t2 ix c1 c2))), (b 7, .inl (cA 0, 8, .inl (bk 4 ix f fy)))] sz [cM b u, (b 9, .inl (cA 0, 2, .inl (t2 ix c1 c2))), (b 7, .inl (cA 0, 8, .inl (bk 4 ix f fy)))] t) (va_A [cM b mm, (b 9, .inl (cA 0, 2, .inl (t2 ix c1 c2))), (b 7, .inl (cA 0, 8, .inl (bk 4 ix f fy)))] sz)) 0 0 (va_A [cM b mm, (b 9, .inl (cA 0, 2, .inl (t2 ix c1 c2))), (b 7, .inl (cA 0, 8, .inl (bk 4 ix f fy)))] sz) := by
  refine Met.ofW (cc := cX4_lineLength) (maxL := 2) (ret := (some .int)) (by decide) rfl ?_
  intro p e s m args below meth c s₁ B hml hv
  obtain ⟨rfl, hsz, hP, hK, hD0⟩ := hv
  have hx := B.exec
  have hb := B.bytes
  have hr := B.returns
  have hts := atoms_spec (ws := wsX4_lineLength) B.pre
  have hown : s.vm.findClass RX4 = some m.cls := findClass_of_methodNamed B.named
  have hlocks := B.notSynchronized
  subst hsz
  have hD := hD0.self (sz := s.heap.size)
  generalize hAe : va_A [cM b mm, (b 9, .inl (cA 0, 2, .inl (t2 ix c1 c2))), (b 7, .inl (cA 0, 8, .inl (bk 4 ix f fy)))] s.heap.size = A at hD ⊢
  have hA : ∀ q : Nat, s.heap.size ≤ q → A q := fun q h => by rw [← hAe]; exact Or.inr h
  have hS : va_S A s.heap s.heap [] := va_S.rf
  have hl := lv_entry ([.ref (b 0), .int (nI ix)]) (n := 2) (Nat.le_of_ble_eq_true rfl)
  rw [lg_entry_eq]
  generalize (lg_sl ([.ref (b 0), .int (nI ix)]) ++ List.replicate (2 - (lg_sl ([.ref (b 0), .int (nI ix)])).length) Slot.unset).toArray = ls at hl ⊢
  have hl : lv_has ls 2 [(0, .ref (b 0)), (1, .int (nI ix))] := hl
  refine lv_aload_n hx hb dX4_lineLength_0 rfl (lv_at hl 0 rfl) ?_
  refine lv_iload_n hx hb dX4_lineLength_1 rfl (lv_at hl 1 rfl) ?_
  have hPc := hP.sub (ws' := []) [] rfl
  have hDc := hD.sub (ws' := []) [] (by decide) rfl
  have hFc := va_free (wc := []) hD hS hA [] rfl
  refine va_calli (va_runS (As := [.int (nI ix)]) (rest := [.ref (b 0)]) ⟨hx, hb, hml, hown, hts⟩ (c_X4_isEnd l D cA s.heap.size (nI ix)) (va_cwS 1 hts gX4_lineLength_X4_isEnd rfl rfl rfl (by decide +kernel) ⟨Nat.le_of_ble_eq_true rfl, Nat.le_of_ble_eq_true rfl⟩) ⟨zU_blind, fun U hU hW => ⟨rfl, zU_call hU hPc hW.alike hK hDc⟩⟩ rfl rfl hl.1 rfl (lv_room (Nat.le_of_ble_eq_true rfl)) dX4_lineLength_2 ⟨(Nat.zero_le _), (Nat.zero_le _)⟩) hS (fun q _ h => hFc q h) hFc (fun zr u t H1 locs ht hvm hw hB hz1 hk1 hS => ?_)
  obtain ⟨hP1, hD1⟩ := hB
  rw [ht] at hP1
  obtain ⟨hP, hD⟩ := va_join (wr := [cM b mm, (b 9, .inl (cA 0, 2, .inl (t2 ix c1 c2))), (b 7, .inl (cA 0, 8, .inl (bk 4 ix f fy)))]) (w1 := []) hP hD [] [0, 1, 2] rfl rfl (by decide) (by decide) hk1 hFc hP1 hD1
  generalize H1 = H at hP hS ⊢
  have hP := hP.sub (ws' := [cM b mm, (b 9, .inl (cA 0, 2, .inl (t2 ix c1 c2))), (b 7, .inl (cA 0, 8, .inl (bk 4 ix f fy)))]) [0, 1, 2] rfl
  have hD := hD.sub (ws' := [cM b mm, (b 9, .inl (cA 0, 2, .inl (t2 ix c1 c2))), (b 7, .inl (cA 0, 8, .inl (bk 4 ix f fy)))]) [0, 1, 2] (by decide) rfl
  clear hPc hDc hFc hP1 hD1 hk1 hz1
  have hw_1 := hw
  rcases z_bool hw with ⟨h_1, rfl⟩ | ⟨h_1, rfl⟩
  · skip
    refine lv_if_eq (tgt := 12) hx hb dX4_lineLength_5 (by decide) (fun c_2 => absurd c_2 (by decide)) (fun _ => ?_)
    refine lv_iconst (v := 0) hx hb dX4_lineLength_8 (by decide) ?_
    refine lv_goto (tgt := 13) hx hb dX4_lineLength_9 (by decide) ?_
    have hPc := hP.sub (ws' := [cM b mm]) [0] rfl
    have hDc := hD.sub (ws' := [cM b mm]) [0] (by decide) rfl
    have hFc := va_free (wc := [cM b mm]) hD hS hA [0] rfl
    refine va_calli (va_runV (As := [.int 0]) (rest := []) ⟨hx, hb, hml, hown, hts⟩ (c_X4_can l D cA H.size b mm 0) (cwV 1 hts gX4_lineLength_X4_can rfl rfl rfl (by decide +kernel) ⟨Nat.le_of_ble_eq_true rfl, Nat.le_of_ble_eq_true rfl⟩) ⟨zU_blind, va_recv hK hPc (ci := 6) (q0 := 0) rfl rfl, fun U hU hW => ⟨rfl, zU_call hU hPc hW.alike hK hDc⟩⟩ rfl rfl hl.1 rfl (lv_room (Nat.le_of_ble_eq_true rfl)) dX4_lineLength_13 ⟨(Nat.zero_le _), (Nat.zero_le _)⟩) hS (fun q _ h => hFc q h) hFc (fun zr u t H1 locs ht hvm hw hB hz1 hk1 hS => ?_)
    obtain ⟨mm'_3, rfl⟩ : ∃ z, z = u := ⟨_, rfl⟩
    obtain ⟨hP1, hD1⟩ := hB
    rw [ht] at hP1
    try dsimp only at hw hP1 hD1
    obtain ⟨hP, hD⟩ := va_join (wr := [(b 9, .inl (cA 0, 2, .inl (t2 ix c1 c2))), (b 7, .inl (cA 0, 8, .inl (bk 4 ix f fy)))]) (w1 := [cM b mm'_3]) hP hD [0] [1, 2] rfl rfl (by decide) (by decide) hk1 hFc hP1 hD1
    generalize H1 = H at hP hS ⊢
    have hP := hP.sub (ws' := [cM b mm'_3, (b 9, .inl (cA 0, 2, .inl (t2 ix c1 c2))), (b 7, .inl (cA 0, 8, .inl (bk 4 ix f fy)))]) [2, 0, 1] rfl
    have hD := hD.sub (ws' := [cM b mm'_3, (b 9, .inl (cA 0, 2, .inl (t2 ix c1 c2))), (b 7, .inl (cA 0, 8, .inl (bk 4 ix f fy)))]) [2, 0, 1] (by decide) rfl
    clear hPc hDc hFc hP1 hD1 hk1 hz1
    obtain ⟨rfl, hw⟩ := hw
    have hw_3 := hw
    rcases z_bool hw with ⟨h_3, rfl⟩ | ⟨h_3, rfl⟩
    · skip
      refine lv_if_eq (tgt := 27) hx hb dX4_lineLength_16 (by decide) (fun c_4 => absurd c_4 (by decide)) (fun _ => ?_)
      refine lv_aload_n hx hb dX4_lineLength_19 rfl (lv_at hl 0 rfl) ?_
      refine lv_iload_n hx hb dX4_lineLength_20 rfl (lv_at hl 1 rfl) ?_
      have hPc := hP.sub (ws' := [cM b (upd mm 6 0), (b 9, .inl (cA 0, 2, .inl (t2 ix c1 c2))), (b 7, .inl (cA 0, 8, .inl (bk 4 ix f fy)))]) [0, 1, 2] rfl
      have hDc := hD.sub (ws' := [cM b (upd mm 6 0), (b 9, .inl (cA 0, 2, .inl (t2 ix c1 c2))), (b 7, .inl (cA 0, 8, .inl (bk 4 ix f fy)))]) [0, 1, 2] (by decide) rfl
      have hFc := va_free (wc := [cM b (upd mm 6 0), (b 9, .inl (cA 0, 2, .inl (t2 ix c1 c2))), (b 7, .inl (cA 0, 8, .inl (bk 4 ix f fy)))]) hD hS hA [0, 1, 2] rfl
      refine va_calli (va_runV (As := [.int (nI ix)]) (rest := []) ⟨hx, hb, hml, hown, hts⟩ (c_X4_lengthOf l D cA H.size b (upd mm 6 0) ix c1 c2 k f fy (by assumption) (by assumption) (by assumption) (by assumption)) (cwV 1 hts gX4_lineLength_X4_lengthOf rfl rfl rfl (by decide +kernel) ⟨Nat.le_of_ble_eq_true rfl, Nat.le_of_ble_eq_true rfl⟩) ⟨zU_blind, va_recv hK hPc (ci := 6) (q0 := 0) rfl rfl, fun U hU hW => ⟨rfl, zU_call hU hPc hW.alike hK hDc⟩⟩ rfl rfl hl.1 rfl (lv_room (Nat.le_of_ble_eq_true rfl)) dX4_lineLength_21 ⟨(Nat.zero_le _), (Nat.zero_le _)⟩) hS (fun q _ h => hFc q h) hFc (fun zr u t H1 locs ht hvm hw hB hz1 hk1 hS => ?_)
      obtain ⟨hP1, hD1⟩ := hB
      rw [ht] at hP1
      obtain ⟨hP, hD⟩ := va_join (wr := []) (w1 := [cM b (upd mm 6 0), (b 9, .inl (cA 0, 2, .inl (t2 ix c1 c2))), (b 7, .inl (cA 0, 8, .inl (bk 4 ix f fy)))]) hP hD [0, 1, 2] [] rfl rfl (by decide) (by decide) hk1 hFc hP1 hD1
      generalize H1 = H at hP hS ⊢
      have hP := hP.sub (ws' := [cM b (upd mm 6 0), (b 9, .inl (cA 0, 2, .inl (t2 ix c1 c2))), (b 7, .inl (cA 0, 8, .inl (bk 4 ix f fy)))]) [0, 1, 2] rfl
      have hD := hD.sub (ws' := [cM b (upd mm 6 0), (b 9, .inl (cA 0, 2, .inl (t2 ix c1 c2))), (b 7, .inl (cA 0, 8, .inl (bk 4 ix f fy)))]) [0, 1, 2] (by decide) rfl
      clear hPc hDc hFc hP1 hD1 hk1 hz1
      have hw_5 := hw
      obtain rfl := hw
      refine lv_goto (tgt := 28) hx hb dX4_lineLength_24 (by decide) ?_
      refine W.widen (k := 0) (n := 0) (by omega) (by omega) ?_
      exact W.iret (v := (nI ((lnT k f 4).length))) hx hb hr (fun t ht hW => ⟨⟨nI ((lnT k f 4).length), ((upd mm 6 0)), rfl, ⟨rfl, rfl⟩, ⟨by rw [ht]; exact hP, by rw [hAe]; exact hD⟩⟩, hS.F ht⟩) hS.2.2 dX4_lineLength_28
    · exact absurd rfl h_3
  · exact absurd (inr_ix hix) h_1
set_option maxHeartbeats 4000000 in
set_option maxRecDepth 100000 in
theorem c_X4_lineLength_b (l : Launch) (D : va_G) (cA : Nat → ClassId) (sz : Nat) (b : Nat → Nat) (mm : Nat → Int32) (n : Int32) (hn : ¬ inr n 0 1) : Met l yX4_lineLength wsX4_lineLength ({ frames := 2, cells := 0, slots := 0, locals := 42 }) (va_Pc [.ref (b 0), .int n] (zU D cA sz [cM b mm])) (va_Qi (fun (r : Int32) (u : (Nat → Int32)) => u = upd mm 6 1) (fun (u : (Nat → Int32)) t => zB D [cM b mm] sz [cM b u] t) (va_A [cM b mm] sz)) 0 0 (va_A [cM b mm] sz) := by
  refine Met.ofW (cc := cX4_lineLength) (maxL := 2) (ret := (some .int)) (by decide) rfl ?_
  intro p e s m args below meth c s₁ B hml hv
  obtain ⟨rfl, hsz, hP, hK, hD0⟩ := hv
  have hx := B.exec
  have hb := B.bytes
  have hr := B.returns
  have hts := atoms_spec (ws := wsX4_lineLength) B.pre
  have hown : s.vm.findClass RX4 = some m.cls := findClass_of_methodNamed B.named
  have hlocks := B.notSynchronized
  subst hsz
  have hD := hD0.self (sz := s.heap.size)
  generalize hAe : va_A [cM b mm] s.heap.size = A at hD ⊢
  have hA : ∀ q : Nat, s.heap.size ≤ q → A q := fun q h => by rw [← hAe]; exact Or.inr h
  have hS : va_S A s.heap s.heap [] := va_S.rf
  have hl := lv_entry ([.ref (b 0), .int n]) (n := 2) (Nat.le_of_ble_eq_true rfl)
  rw [lg_entry_eq]
  generalize (lg_sl ([.ref (b 0), .int n]) ++ List.replicate (2 - (lg_sl ([.ref (b 0), .int n])).length) Slot.unset).toArray = ls at hl ⊢
  have hl : lv_has ls 2 [(0, .ref (b 0)), (1, .int n)] := hl
  refine lv_aload_n hx hb dX4_lineLength_0 rfl (lv_at hl 0 rfl) ?_
  refine lv_iload_n hx hb dX4_lineLength_1 rfl (lv_at hl 1 rfl) ?_
  have hPc := hP.sub (ws' := []) [] rfl
  have hDc := hD.sub (ws' := []) [] (by decide) rfl
  have hFc := va_free (wc := []) hD hS hA [] rfl
  refine va_calli (va_runS (As := [.int n]) (rest := [.ref (b 0)]) ⟨hx, hb, hml, hown, hts⟩ (c_X4_isEnd l D cA s.heap.size n) (va_cwS 1 hts gX4_lineLength_X4_isEnd rfl rfl rfl (by decide +kernel) ⟨Nat.le_of_ble_eq_true rfl, Nat.le_of_ble_eq_true rfl⟩) ⟨zU_blind, fun U hU hW => ⟨rfl, zU_call hU hPc hW.alike hK hDc⟩⟩ rfl rfl hl.1 rfl (lv_room (Nat.le_of_ble_eq_true rfl)) dX4_lineLength_2 ⟨(Nat.zero_le _), (Nat.zero_le _)⟩) hS (fun q _ h => hFc q h) hFc (fun zr u t H1 locs ht hvm hw hB hz1 hk1 hS => ?_)
  obtain ⟨hP1, hD1⟩ := hB
  rw [ht] at hP1
  obtain ⟨hP, hD⟩ := va_join (wr := [cM b mm]) (w1 := []) hP hD [] [0] rfl rfl (by decide) (by decide) hk1 hFc hP1 hD1
  generalize H1 = H at hP hS ⊢
  have hP := hP.sub (ws' := [cM b mm]) [0] rfl
  have hD := hD.sub (ws' := [cM b mm]) [0] (by decide) rfl
  clear hPc hDc hFc hP1 hD1 hk1 hz1
  have hw_1 := hw
  rcases z_bool hw with ⟨h_1, rfl⟩ | ⟨h_1, rfl⟩
  · exact absurd h_1 hn
  · skip
    refine lv_if_eq (tgt := 12) hx hb dX4_lineLength_5 (by decide) (fun _ => ?_) (fun c_2 => absurd c_2 (by decide))
    refine lv_iconst (v := 1) hx hb dX4_lineLength_12 (by decide) ?_
    have hPc := hP.sub (ws' := [cM b mm]) [0] rfl
    have hDc := hD.sub (ws' := [cM b mm]) [0] (by decide) rfl
    have hFc := va_free (wc := [cM b mm]) hD hS hA [0] rfl
    refine va_calli (va_runV (As := [.int 1]) (rest := []) ⟨hx, hb, hml, hown, hts⟩ (c_X4_can l D cA H.size b mm 1) (cwV 1 hts gX4_lineLength_X4_can rfl rfl rfl (by decide +kernel) ⟨Nat.le_of_ble_eq_true rfl, Nat.le_of_ble_eq_true rfl⟩) ⟨zU_blind, va_recv hK hPc (ci := 6) (q0 := 0) rfl rfl, fun U hU hW => ⟨rfl, zU_call hU hPc hW.alike hK hDc⟩⟩ rfl rfl hl.1 rfl (lv_room (Nat.le_of_ble_eq_true rfl)) dX4_lineLength_13 ⟨(Nat.zero_le _), (Nat.zero_le _)⟩) hS (fun q _ h => hFc q h) hFc (fun zr u t H1 locs ht hvm hw hB hz1 hk1 hS => ?_)
    obtain ⟨mm'_3, rfl⟩ : ∃ z, z = u := ⟨_, rfl⟩
    obtain ⟨hP1, hD1⟩ := hB
    rw [ht] at hP1
    try dsimp only at hw hP1 hD1
    obtain ⟨hP, hD⟩ := va_join (wr := []) (w1 := [cM b mm'_3]) hP hD [0] [] rfl rfl (by decide) (by decide) hk1 hFc hP1 hD1
    generalize H1 = H at hP hS ⊢
    have hP := hP.sub (ws' := [cM b mm'_3]) [0] rfl
    have hD := hD.sub (ws' := [cM b mm'_3]) [0] (by decide) rfl
    clear hPc hDc hFc hP1 hD1 hk1 hz1
    obtain ⟨rfl, hw⟩ := hw
    have hw_3 := hw
    rcases z_bool hw with ⟨h_3, rfl⟩ | ⟨h_3, rfl⟩
    · exact absurd h_3 (by decide)
    · skip
      refine lv_if_eq (tgt := 27) hx hb dX4_lineLength_16 (by decide) (fun _ => ?_) (fun c_4 => absurd c_4 (by decide))
      refine lv_iconst (v := 0) hx hb dX4_lineLength_27 (by decide) ?_
      refine W.widen (k := 0) (n := 0) (by omega) (by omega) ?_
      exact W.iret (v := 0) hx hb hr (fun t ht hW => ⟨⟨0, ((upd mm 6 1)), rfl, rfl, ⟨by rw [ht]; exact hP, by rw [hAe]; exact hD⟩⟩, hS.F ht⟩) hS.2.2 dX4_lineLength_28
set_option maxHeartbeats 4000000 in
set_option maxRecDepth 100000 in
theorem c_X4_lineChar_k (l : Launch) (D : va_G) (cA : Nat → ClassId) (sz : Nat) (b : Nat → Nat) (mm : Nat → Int32) (ix : Nat) (c1 c2 : Int32) (k : Nat) (f fy : Nat → Int32) (i : Nat) (hix : ix ≤ 1) (hk : k < 8) (hk0 : c1 = nI k) (hok : ∀ j, j < 4 → okv (f j)) (hi : i < (lnT k f 4).length) : Met l yX4_lineChar wsX4_lineChar ({ frames := 3, cells := 0, slots := 0, locals := 75 }) (va_Pc [.ref (b 0), .int (nI ix), .int (nI i)] (zU D cA sz [cM b mm, (b 9, .inl (cA 0, 2, .inl (t2 ix c1 c2))), (b 7, .inl (cA 0, 8, .inl (bk 4 ix f fy)))])) (va_Qi (fun (r : Int32) (u : (Nat → Int32)) => u = upd mm 6 0 ∧ r = (lnT k f 4).getD i 0) (fun (u : (Nat → Int32)) t => zB D [cM b mm, (b 9, .inl (cA 0, 2, .inl (t2 ix c1 c2))), (b 7, .inl (cA 0, 8, .inl (bk 4 ix f fy)))] sz [cM b u, (b 9, .inl (cA 0, 2, .inl (t2 ix c1 c2))), (b 7, .inl (cA 0, 8, .inl (bk 4 ix f fy)))] t) (va_A [cM b mm, (b 9, .inl (cA 0, 2, .inl (t2 ix c1 c2))), (b 7, .inl (cA 0, 8, .inl (bk 4 ix f fy)))] sz)) 0 0 (va_A [cM b mm, (b 9, .inl (cA 0, 2, .inl (t2 ix c1 c2))), (b 7, .inl (cA 0, 8, .inl (bk 4 ix f fy)))] sz) := by
  refine Met.ofW (cc := cX4_lineChar) (maxL := 3) (ret := (some .char)) (by decide) rfl ?_
  intro p e s m args below meth c s₁ B hml hv
  obtain ⟨rfl, hsz, hP, hK, hD0⟩ := hv
  have hx := B.exec
  have hb := B.bytes
  have hr := B.returns
  have hts := atoms_spec (ws := wsX4_lineChar) B.pre
  have hown : s.vm.findClass RX4 = some m.cls := findClass_of_methodNamed B.named
  have hlocks := B.notSynchronized
  subst hsz
  have hD := hD0.self (sz := s.heap.size)
  generalize hAe : va_A [cM b mm, (b 9, .inl (cA 0, 2, .inl (t2 ix c1 c2))), (b 7, .inl (cA 0, 8, .inl (bk 4 ix f fy)))] s.heap.size = A at hD ⊢
  have hA : ∀ q : Nat, s.heap.size ≤ q → A q := fun q h => by rw [← hAe]; exact Or.inr h
  have hS : va_S A s.heap s.heap [] := va_S.rf
  have hl := lv_entry ([.ref (b 0), .int (nI ix), .int (nI i)]) (n := 3) (Nat.le_of_ble_eq_true rfl)
  rw [lg_entry_eq]
  generalize (lg_sl ([.ref (b 0), .int (nI ix), .int (nI i)]) ++ List.replicate (3 - (lg_sl ([.ref (b 0), .int (nI ix), .int (nI i)])).length) Slot.unset).toArray = ls at hl ⊢
  have hl : lv_has ls 3 [(0, .ref (b 0)), (1, .int (nI ix)), (2, .int (nI i))] := hl
  have hk9 := okl_at (lnT_ok hk hok 4 (Nat.le_refl 4)) hi
  refine lv_aload_n hx hb dX4_lineChar_0 rfl (lv_at hl 0 rfl) ?_
  refine lv_iload_n hx hb dX4_lineChar_1 rfl (lv_at hl 1 rfl) ?_
  have hPc := hP.sub (ws' := []) [] rfl
  have hDc := hD.sub (ws' := []) [] (by decide) rfl
  have hFc := va_free (wc := []) hD hS hA [] rfl
  refine va_calli (va_runS (As := [.int (nI ix)]) (rest := [.ref (b 0)]) ⟨hx, hb, hml, hown, hts⟩ (c_X4_isEnd l D cA s.heap.size (nI ix)) (va_cwS 1 hts gX4_lineChar_X4_isEnd rfl rfl rfl (by decide +kernel) ⟨Nat.le_of_ble_eq_true rfl, Nat.le_of_ble_eq_true rfl⟩) ⟨zU_blind, fun U hU hW => ⟨rfl, zU_call hU hPc hW.alike hK hDc⟩⟩ rfl rfl hl.1 rfl (lv_room (Nat.le_of_ble_eq_true rfl)) dX4_lineChar_2 ⟨(Nat.zero_le _), (Nat.zero_le _)⟩) hS (fun q _ h => hFc q h) hFc (fun zr u t H1 locs ht hvm hw hB hz1 hk1 hS => ?_)
  obtain ⟨hP1, hD1⟩ := hB
  rw [ht] at hP1
  obtain ⟨hP, hD⟩ := va_join (wr := [cM b mm, (b 9, .inl (cA 0, 2, .inl (t2 ix c1 c2))), (b 7, .inl (cA 0, 8, .inl (bk 4 ix f fy)))]) (w1 := []) hP hD [] [0, 1, 2] rfl rfl (by decide) (by decide) hk1 hFc hP1 hD1
  generalize H1 = H at hP hS ⊢
  have hP := hP.sub (ws' := [cM b mm, (b 9, .inl (cA 0, 2, .inl (t2 ix c1 c2))), (b 7, .inl (cA 0, 8, .inl (bk 4 ix f fy)))]) [0, 1, 2] rfl
  have hD := hD.sub (ws' := [cM b mm, (b 9, .inl (cA 0, 2, .inl (t2 ix c1 c2))), (b 7, .inl (cA 0, 8, .inl (bk 4 ix f fy)))]) [0, 1, 2] (by decide) rfl
  clear hPc hDc hFc hP1 hD1 hk1 hz1
  have hw_1 := hw
  rcases z_bool hw with ⟨h_1, rfl⟩ | ⟨h_1, rfl⟩
  · skip
    refine lv_if_ne (tgt := 12) hx hb dX4_lineChar_5 (by decide) (fun _ => ?_) (fun c_2 => absurd c_2 (by decide))
    refine lv_iload_n hx hb dX4_lineChar_12 rfl (lv_at hl 2 rfl) ?_
    refine lv_iconst (v := 0) hx hb dX4_lineChar_13 (by decide) ?_
    refine lv_aload_n hx hb dX4_lineChar_14 rfl (lv_at hl 0 rfl) ?_
    refine lv_iload_n hx hb dX4_lineChar_15 rfl (lv_at hl 1 rfl) ?_
    have hPc := hP.sub (ws' := [cM b mm, (b 9, .inl (cA 0, 2, .inl (t2 ix c1 c2))), (b 7, .inl (cA 0, 8, .inl (bk 4 ix f fy)))]) [0, 1, 2] rfl
    have hDc := hD.sub (ws' := [cM b mm, (b 9, .inl (cA 0, 2, .inl (t2 ix c1 c2))), (b 7, .inl (cA 0, 8, .inl (bk 4 ix f fy)))]) [0, 1, 2] (by decide) rfl
    have hFc := va_free (wc := [cM b mm, (b 9, .inl (cA 0, 2, .inl (t2 ix c1 c2))), (b 7, .inl (cA 0, 8, .inl (bk 4 ix f fy)))]) hD hS hA [0, 1, 2] rfl
    refine va_calli (va_runV (As := [.int (nI ix)]) (rest := [.int 0, .int (nI i), .ref (b 0)]) ⟨hx, hb, hml, hown, hts⟩ (c_X4_lengthOf l D cA H.size b mm ix c1 c2 k f fy (by assumption) (by assumption) (by assumption) (by assumption)) (cwV 1 hts gX4_lineChar_X4_lengthOf rfl rfl rfl (by decide +kernel) ⟨Nat.le_of_ble_eq_true rfl, Nat.le_of_ble_eq_true rfl⟩) ⟨zU_blind, va_recv hK hPc (ci := 6) (q0 := 0) rfl rfl, fun U hU hW => ⟨rfl, zU_call hU hPc hW.alike hK hDc⟩⟩ rfl rfl hl.1 rfl (lv_room (Nat.le_of_ble_eq_true rfl)) dX4_lineChar_16 ⟨(Nat.zero_le _), (Nat.zero_le _)⟩) hS (fun q _ h => hFc q h) hFc (fun zr u t H1 locs ht hvm hw hB hz1 hk1 hS => ?_)
    obtain ⟨hP1, hD1⟩ := hB
    rw [ht] at hP1
    obtain ⟨hP, hD⟩ := va_join (wr := []) (w1 := [cM b mm, (b 9, .inl (cA 0, 2, .inl (t2 ix c1 c2))), (b 7, .inl (cA 0, 8, .inl (bk 4 ix f fy)))]) hP hD [0, 1, 2] [] rfl rfl (by decide) (by decide) hk1 hFc hP1 hD1
    generalize H1 = H at hP hS ⊢
    have hP := hP.sub (ws' := [cM b mm, (b 9, .inl (cA 0, 2, .inl (t2 ix c1 c2))), (b 7, .inl (cA 0, 8, .inl (bk 4 ix f fy)))]) [0, 1, 2] rfl
    have hD := hD.sub (ws' := [cM b mm, (b 9, .inl (cA 0, 2, .inl (t2 ix c1 c2))), (b 7, .inl (cA 0, 8, .inl (bk 4 ix f fy)))]) [0, 1, 2] (by decide) rfl
    clear hPc hDc hFc hP1 hD1 hk1 hz1
    have hw_3 := hw
    obtain rfl := hw
    refine lv_iconst (v := 1) hx hb dX4_lineChar_19 (by decide) ?_
    refine lv_isub hx hb dX4_lineChar_20 ?_
    have hPc := hP.sub (ws' := []) [] rfl
    have hDc := hD.sub (ws' := []) [] (by decide) rfl
    have hFc := va_free (wc := []) hD hS hA [] rfl
    refine va_calli (va_runS (As := [.int (nI i), .int 0, .int ((nI ((lnT k f 4).length)) - 1)]) (rest := [.ref (b 0)]) ⟨hx, hb, hml, hown, hts⟩ (c_X4_isIn l D cA H.size (nI i) 0 ((nI ((lnT k f 4).length)) - 1)) (va_cwS 3 hts gX4_lineChar_X4_isIn rfl rfl rfl (by decide +kernel) ⟨Nat.le_of_ble_eq_true rfl, Nat.le_of_ble_eq_true rfl⟩) ⟨zU_blind, fun U hU hW => ⟨rfl, zU_call hU hPc hW.alike hK hDc⟩⟩ rfl rfl hl.1 rfl (lv_room (Nat.le_of_ble_eq_true rfl)) dX4_lineChar_21 ⟨(Nat.zero_le _), (Nat.zero_le _)⟩) hS (fun q _ h => hFc q h) hFc (fun zr u t H1 locs ht hvm hw hB hz1 hk1 hS => ?_)
    obtain ⟨hP1, hD1⟩ := hB
    rw [ht] at hP1
    obtain ⟨hP, hD⟩ := va_join (wr := [cM b mm, (b 9, .inl (cA 0, 2, .inl (t2 ix c1 c2))), (b 7, .inl (cA 0, 8, .inl (bk 4 ix f fy)))]) (w1 := []) hP hD [] [0, 1, 2] rfl rfl (by decide) (by decide) hk1 hFc hP1 hD1
    generalize H1 = H at hP hS ⊢
    have hP := hP.sub (ws' := [cM b mm, (b 9, .inl (cA 0, 2, .inl (t2 ix c1 c2))), (b 7, .inl (cA 0, 8, .inl (bk 4 ix f fy)))]) [0, 1, 2] rfl
    have hD := hD.sub (ws' := [cM b mm, (b 9, .inl (cA 0, 2, .inl (t2 ix c1 c2))), (b 7, .inl (cA 0, 8, .inl (bk 4 ix f fy)))]) [0, 1, 2] (by decide) rfl
    clear hPc hDc hFc hP1 hD1 hk1 hz1
    have hw_4 := hw
    rcases z_bool hw with ⟨h_4, rfl⟩ | ⟨h_4, rfl⟩
    · skip
      refine lv_if_eq (tgt := 31) hx hb dX4_lineChar_24 (by decide) (fun c_5 => absurd c_5 (by decide)) (fun _ => ?_)
      refine lv_iconst (v := 0) hx hb dX4_lineChar_27 (by decide) ?_
      refine lv_goto (tgt := 32) hx hb dX4_lineChar_28 (by decide) ?_
      have hPc := hP.sub (ws' := [cM b mm]) [0] rfl
      have hDc := hD.sub (ws' := [cM b mm]) [0] (by decide) rfl
      have hFc := va_free (wc := [cM b mm]) hD hS hA [0] rfl
      refine va_calli (va_runV (As := [.int 0]) (rest := []) ⟨hx, hb, hml, hown, hts⟩ (c_X4_can l D cA H.size b mm 0) (cwV 1 hts gX4_lineChar_X4_can rfl rfl rfl (by decide +kernel) ⟨Nat.le_of_ble_eq_true rfl, Nat.le_of_ble_eq_true rfl⟩) ⟨zU_blind, va_recv hK hPc (ci := 6) (q0 := 0) rfl rfl, fun U hU hW => ⟨rfl, zU_call hU hPc hW.alike hK hDc⟩⟩ rfl rfl hl.1 rfl (lv_room (Nat.le_of_ble_eq_true rfl)) dX4_lineChar_32 ⟨(Nat.zero_le _), (Nat.zero_le _)⟩) hS (fun q _ h => hFc q h) hFc (fun zr u t H1 locs ht hvm hw hB hz1 hk1 hS => ?_)
      obtain ⟨mm'_6, rfl⟩ : ∃ z, z = u := ⟨_, rfl⟩
      obtain ⟨hP1, hD1⟩ := hB
      rw [ht] at hP1
      try dsimp only at hw hP1 hD1
      obtain ⟨hP, hD⟩ := va_join (wr := [(b 9, .inl (cA 0, 2, .inl (t2 ix c1 c2))), (b 7, .inl (cA 0, 8, .inl (bk 4 ix f fy)))]) (w1 := [cM b mm'_6]) hP hD [0] [1, 2] rfl rfl (by decide) (by decide) hk1 hFc hP1 hD1
      generalize H1 = H at hP hS ⊢
      have hP := hP.sub (ws' := [cM b mm'_6, (b 9, .inl (cA 0, 2, .inl (t2 ix c1 c2))), (b 7, .inl (cA 0, 8, .inl (bk 4 ix f fy)))]) [2, 0, 1] rfl
      have hD := hD.sub (ws' := [cM b mm'_6, (b 9, .inl (cA 0, 2, .inl (t2 ix c1 c2))), (b 7, .inl (cA 0, 8, .inl (bk 4 ix f fy)))]) [2, 0, 1] (by decide) rfl
      clear hPc hDc hFc hP1 hD1 hk1 hz1
      obtain ⟨rfl, hw⟩ := hw
      have hw_6 := hw
      rcases z_bool hw with ⟨h_6, rfl⟩ | ⟨h_6, rfl⟩
      · skip
        refine lv_if_eq (tgt := 47) hx hb dX4_lineChar_35 (by decide) (fun c_7 => absurd c_7 (by decide)) (fun _ => ?_)
        refine lv_aload_n hx hb dX4_lineChar_38 rfl (lv_at hl 0 rfl) ?_
        refine lv_iload_n hx hb dX4_lineChar_39 rfl (lv_at hl 1 rfl) ?_
        refine lv_iload_n hx hb dX4_lineChar_40 rfl (lv_at hl 2 rfl) ?_
        have hPc := hP.sub (ws' := [cM b (upd mm 6 0), (b 9, .inl (cA 0, 2, .inl (t2 ix c1 c2))), (b 7, .inl (cA 0, 8, .inl (bk 4 ix f fy)))]) [0, 1, 2] rfl
        have hDc := hD.sub (ws' := [cM b (upd mm 6 0), (b 9, .inl (cA 0, 2, .inl (t2 ix c1 c2))), (b 7, .inl (cA 0, 8, .inl (bk 4 ix f fy)))]) [0, 1, 2] (by decide) rfl
        have hFc := va_free (wc := [cM b (upd mm 6 0), (b 9, .inl (cA 0, 2, .inl (t2 ix c1 c2))), (b 7, .inl (cA 0, 8, .inl (bk 4 ix f fy)))]) hD hS hA [0, 1, 2] rfl
        refine va_calli (va_runV (As := [.int (nI ix), .int (nI i)]) (rest := []) ⟨hx, hb, hml, hown, hts⟩ (c_X4_charOf l D cA H.size b (upd mm 6 0) ix c1 c2 k f fy i (by assumption) (by assumption) (by assumption) (by assumption) (by assumption)) (cwV 2 hts gX4_lineChar_X4_charOf rfl rfl rfl (by decide +kernel) ⟨Nat.le_of_ble_eq_true rfl, Nat.le_of_ble_eq_true rfl⟩) ⟨zU_blind, va_recv hK hPc (ci := 6) (q0 := 0) rfl rfl, fun U hU hW => ⟨rfl, zU_call hU hPc hW.alike hK hDc⟩⟩ rfl rfl hl.1 rfl (lv_room (Nat.le_of_ble_eq_true rfl)) dX4_lineChar_41 ⟨(Nat.zero_le _), (Nat.zero_le _)⟩) hS (fun q _ h => hFc q h) hFc (fun zr u t H1 locs ht hvm hw hB hz1 hk1 hS => ?_)
        obtain ⟨hP1, hD1⟩ := hB
        rw [ht] at hP1
        obtain ⟨hP, hD⟩ := va_join (wr := []) (w1 := [cM b (upd mm 6 0), (b 9, .inl (cA 0, 2, .inl (t2 ix c1 c2))), (b 7, .inl (cA 0, 8, .inl (bk 4 ix f fy)))]) hP hD [0, 1, 2] [] rfl rfl (by decide) (by decide) hk1 hFc hP1 hD1
        generalize H1 = H at hP hS ⊢
        have hP := hP.sub (ws' := [cM b (upd mm 6 0), (b 9, .inl (cA 0, 2, .inl (t2 ix c1 c2))), (b 7, .inl (cA 0, 8, .inl (bk 4 ix f fy)))]) [0, 1, 2] rfl
        have hD := hD.sub (ws' := [cM b (upd mm 6 0), (b 9, .inl (cA 0, 2, .inl (t2 ix c1 c2))), (b 7, .inl (cA 0, 8, .inl (bk 4 ix f fy)))]) [0, 1, 2] (by decide) rfl
        clear hPc hDc hFc hP1 hD1 hk1 hz1
        have hw_8 := hw
        obtain rfl := hw
        refine lv_goto (tgt := 49) hx hb dX4_lineChar_44 (by decide) ?_
        refine W.widen (k := 0) (n := 0) (by omega) (by omega) ?_
        exact W.zret (v := ((lnT k f 4).getD i 0)) hx hb hr (narc hk9.1 hk9.2) (fun t ht hW => ⟨⟨(lnT k f 4).getD i 0, ((upd mm 6 0)), rfl, ⟨rfl, rfl⟩, ⟨by rw [ht]; exact hP, by rw [hAe]; exact hD⟩⟩, hS.F ht⟩) hS.2.2 dX4_lineChar_49
      · exact absurd rfl h_6
    · exact absurd (inr_L hi (by have q9 := len34 (f := f) hk (Nat.le_refl 4); omega)) h_4
  · exact absurd (inr_ix hix) h_1
set_option maxHeartbeats 4000000 in
set_option maxRecDepth 100000 in
theorem c_X4_lineChar_p (l : Launch) (D : va_G) (cA : Nat → ClassId) (sz : Nat) (b : Nat → Nat) (mm : Nat → Int32) (ix : Nat) (c1 c2 : Int32) (k : Nat) (f fy : Nat → Int32) (o : Int32) (hix : ix ≤ 1) (hk : k < 8) (hk0 : c1 = nI k) (hok : ∀ j, j < 4 → okv (f j)) (hp : ¬ inr o 0 (nI (lnT k f 4).length - 1)) : Met l yX4_lineChar wsX4_lineChar ({ frames := 3, cells := 0, slots := 0, locals := 69 }) (va_Pc [.ref (b 0), .int (nI ix), .int o] (zU D cA sz [cM b mm, (b 9, .inl (cA 0, 2, .inl (t2 ix c1 c2))), (b 7, .inl (cA 0, 8, .inl (bk 4 ix f fy)))])) (va_Qi (fun (r : Int32) (u : (Nat → Int32)) => u = upd mm 6 2) (fun (u : (Nat → Int32)) t => zB D [cM b mm, (b 9, .inl (cA 0, 2, .inl (t2 ix c1 c2))), (b 7, .inl (cA 0, 8, .inl (bk 4 ix f fy)))] sz [cM b u, (b 9, .inl (cA 0, 2, .inl (t2 ix c1 c2))), (b 7, .inl (cA 0, 8, .inl (bk 4 ix f fy)))] t) (va_A [cM b mm, (b 9, .inl (cA 0, 2, .inl (t2 ix c1 c2))), (b 7, .inl (cA 0, 8, .inl (bk 4 ix f fy)))] sz)) 0 0 (va_A [cM b mm, (b 9, .inl (cA 0, 2, .inl (t2 ix c1 c2))), (b 7, .inl (cA 0, 8, .inl (bk 4 ix f fy)))] sz) := by
  refine Met.ofW (cc := cX4_lineChar) (maxL := 3) (ret := (some .char)) (by decide) rfl ?_
  intro p e s m args below meth c s₁ B hml hv
  obtain ⟨rfl, hsz, hP, hK, hD0⟩ := hv
  have hx := B.exec
  have hb := B.bytes
  have hr := B.returns
  have hts := atoms_spec (ws := wsX4_lineChar) B.pre
  have hown : s.vm.findClass RX4 = some m.cls := findClass_of_methodNamed B.named
  have hlocks := B.notSynchronized
  subst hsz
  have hD := hD0.self (sz := s.heap.size)
  generalize hAe : va_A [cM b mm, (b 9, .inl (cA 0, 2, .inl (t2 ix c1 c2))), (b 7, .inl (cA 0, 8, .inl (bk 4 ix f fy)))] s.heap.size = A at hD ⊢
  have hA : ∀ q : Nat, s.heap.size ≤ q → A q := fun q h => by rw [← hAe]; exact Or.inr h
  have hS : va_S A s.heap s.heap [] := va_S.rf
  have hl := lv_entry ([.ref (b 0), .int (nI ix), .int o]) (n := 3) (Nat.le_of_ble_eq_true rfl)
  rw [lg_entry_eq]
  generalize (lg_sl ([.ref (b 0), .int (nI ix), .int o]) ++ List.replicate (3 - (lg_sl ([.ref (b 0), .int (nI ix), .int o])).length) Slot.unset).toArray = ls at hl ⊢
  have hl : lv_has ls 3 [(0, .ref (b 0)), (1, .int (nI ix)), (2, .int o)] := hl
  refine lv_aload_n hx hb dX4_lineChar_0 rfl (lv_at hl 0 rfl) ?_
  refine lv_iload_n hx hb dX4_lineChar_1 rfl (lv_at hl 1 rfl) ?_
  have hPc := hP.sub (ws' := []) [] rfl
  have hDc := hD.sub (ws' := []) [] (by decide) rfl
  have hFc := va_free (wc := []) hD hS hA [] rfl
  refine va_calli (va_runS (As := [.int (nI ix)]) (rest := [.ref (b 0)]) ⟨hx, hb, hml, hown, hts⟩ (c_X4_isEnd l D cA s.heap.size (nI ix)) (va_cwS 1 hts gX4_lineChar_X4_isEnd rfl rfl rfl (by decide +kernel) ⟨Nat.le_of_ble_eq_true rfl, Nat.le_of_ble_eq_true rfl⟩) ⟨zU_blind, fun U hU hW => ⟨rfl, zU_call hU hPc hW.alike hK hDc⟩⟩ rfl rfl hl.1 rfl (lv_room (Nat.le_of_ble_eq_true rfl)) dX4_lineChar_2 ⟨(Nat.zero_le _), (Nat.zero_le _)⟩) hS (fun q _ h => hFc q h) hFc (fun zr u t H1 locs ht hvm hw hB hz1 hk1 hS => ?_)
  obtain ⟨hP1, hD1⟩ := hB
  rw [ht] at hP1
  obtain ⟨hP, hD⟩ := va_join (wr := [cM b mm, (b 9, .inl (cA 0, 2, .inl (t2 ix c1 c2))), (b 7, .inl (cA 0, 8, .inl (bk 4 ix f fy)))]) (w1 := []) hP hD [] [0, 1, 2] rfl rfl (by decide) (by decide) hk1 hFc hP1 hD1
  generalize H1 = H at hP hS ⊢
  have hP := hP.sub (ws' := [cM b mm, (b 9, .inl (cA 0, 2, .inl (t2 ix c1 c2))), (b 7, .inl (cA 0, 8, .inl (bk 4 ix f fy)))]) [0, 1, 2] rfl
  have hD := hD.sub (ws' := [cM b mm, (b 9, .inl (cA 0, 2, .inl (t2 ix c1 c2))), (b 7, .inl (cA 0, 8, .inl (bk 4 ix f fy)))]) [0, 1, 2] (by decide) rfl
  clear hPc hDc hFc hP1 hD1 hk1 hz1
  have hw_1 := hw
  rcases z_bool hw with ⟨h_1, rfl⟩ | ⟨h_1, rfl⟩
  · skip
    refine lv_if_ne (tgt := 12) hx hb dX4_lineChar_5 (by decide) (fun _ => ?_) (fun c_2 => absurd c_2 (by decide))
    refine lv_iload_n hx hb dX4_lineChar_12 rfl (lv_at hl 2 rfl) ?_
    refine lv_iconst (v := 0) hx hb dX4_lineChar_13 (by decide) ?_
    refine lv_aload_n hx hb dX4_lineChar_14 rfl (lv_at hl 0 rfl) ?_
    refine lv_iload_n hx hb dX4_lineChar_15 rfl (lv_at hl 1 rfl) ?_
    have hPc := hP.sub (ws' := [cM b mm, (b 9, .inl (cA 0, 2, .inl (t2 ix c1 c2))), (b 7, .inl (cA 0, 8, .inl (bk 4 ix f fy)))]) [0, 1, 2] rfl
    have hDc := hD.sub (ws' := [cM b mm, (b 9, .inl (cA 0, 2, .inl (t2 ix c1 c2))), (b 7, .inl (cA 0, 8, .inl (bk 4 ix f fy)))]) [0, 1, 2] (by decide) rfl
    have hFc := va_free (wc := [cM b mm, (b 9, .inl (cA 0, 2, .inl (t2 ix c1 c2))), (b 7, .inl (cA 0, 8, .inl (bk 4 ix f fy)))]) hD hS hA [0, 1, 2] rfl
    refine va_calli (va_runV (As := [.int (nI ix)]) (rest := [.int 0, .int o, .ref (b 0)]) ⟨hx, hb, hml, hown, hts⟩ (c_X4_lengthOf l D cA H.size b mm ix c1 c2 k f fy (by assumption) (by assumption) (by assumption) (by assumption)) (cwV 1 hts gX4_lineChar_X4_lengthOf rfl rfl rfl (by decide +kernel) ⟨Nat.le_of_ble_eq_true rfl, Nat.le_of_ble_eq_true rfl⟩) ⟨zU_blind, va_recv hK hPc (ci := 6) (q0 := 0) rfl rfl, fun U hU hW => ⟨rfl, zU_call hU hPc hW.alike hK hDc⟩⟩ rfl rfl hl.1 rfl (lv_room (Nat.le_of_ble_eq_true rfl)) dX4_lineChar_16 ⟨(Nat.zero_le _), (Nat.zero_le _)⟩) hS (fun q _ h => hFc q h) hFc (fun zr u t H1 locs ht hvm hw hB hz1 hk1 hS => ?_)
    obtain ⟨hP1, hD1⟩ := hB
    rw [ht] at hP1
    obtain ⟨hP, hD⟩ := va_join (wr := []) (w1 := [cM b mm, (b 9, .inl (cA 0, 2, .inl (t2 ix c1 c2))), (b 7, .inl (cA 0, 8, .inl (bk 4 ix f fy)))]) hP hD [0, 1, 2] [] rfl rfl (by decide) (by decide) hk1 hFc hP1 hD1
    generalize H1 = H at hP hS ⊢
    have hP := hP.sub (ws' := [cM b mm, (b 9, .inl (cA 0, 2, .inl (t2 ix c1 c2))), (b 7, .inl (cA 0, 8, .inl (bk 4 ix f fy)))]) [0, 1, 2] rfl
    have hD := hD.sub (ws' := [cM b mm, (b 9, .inl (cA 0, 2, .inl (t2 ix c1 c2))), (b 7, .inl (cA 0, 8, .inl (bk 4 ix f fy)))]) [0, 1, 2] (by decide) rfl
    clear hPc hDc hFc hP1 hD1 hk1 hz1
    have hw_3 := hw
    obtain rfl := hw
    refine lv_iconst (v := 1) hx hb dX4_lineChar_19 (by decide) ?_
    refine lv_isub hx hb dX4_lineChar_20 ?_
    have hPc := hP.sub (ws' := []) [] rfl
    have hDc := hD.sub (ws' := []) [] (by decide) rfl
    have hFc := va_free (wc := []) hD hS hA [] rfl
    refine va_calli (va_runS (As := [.int o, .int 0, .int ((nI ((lnT k f 4).length)) - 1)]) (rest := [.ref (b 0)]) ⟨hx, hb, hml, hown, hts⟩ (c_X4_isIn l D cA H.size o 0 ((nI ((lnT k f 4).length)) - 1)) (va_cwS 3 hts gX4_lineChar_X4_isIn rfl rfl rfl (by decide +kernel) ⟨Nat.le_of_ble_eq_true rfl, Nat.le_of_ble_eq_true rfl⟩) ⟨zU_blind, fun U hU hW => ⟨rfl, zU_call hU hPc hW.alike hK hDc⟩⟩ rfl rfl hl.1 rfl (lv_room (Nat.le_of_ble_eq_true rfl)) dX4_lineChar_21 ⟨(Nat.zero_le _), (Nat.zero_le _)⟩) hS (fun q _ h => hFc q h) hFc (fun zr u t H1 locs ht hvm hw hB hz1 hk1 hS => ?_)
    obtain ⟨hP1, hD1⟩ := hB
    rw [ht] at hP1
    obtain ⟨hP, hD⟩ := va_join (wr := [cM b mm, (b 9, .inl (cA 0, 2, .inl (t2 ix c1 c2))), (b 7, .inl (cA 0, 8, .inl (bk 4 ix f fy)))]) (w1 := []) hP hD [] [0, 1, 2] rfl rfl (by decide) (by decide) hk1 hFc hP1 hD1
    generalize H1 = H at hP hS ⊢
    have hP := hP.sub (ws' := [cM b mm, (b 9, .inl (cA 0, 2, .inl (t2 ix c1 c2))), (b 7, .inl (cA 0, 8, .inl (bk 4 ix f fy)))]) [0, 1, 2] rfl
    have hD := hD.sub (ws' := [cM b mm, (b 9, .inl (cA 0, 2, .inl (t2 ix c1 c2))), (b 7, .inl (cA 0, 8, .inl (bk 4 ix f fy)))]) [0, 1, 2] (by decide) rfl
    clear hPc hDc hFc hP1 hD1 hk1 hz1
    have hw_4 := hw
    rcases z_bool hw with ⟨h_4, rfl⟩ | ⟨h_4, rfl⟩
    · exact absurd h_4 hp
    · skip
      refine lv_if_eq (tgt := 31) hx hb dX4_lineChar_24 (by decide) (fun _ => ?_) (fun c_5 => absurd c_5 (by decide))
      refine lv_iconst (v := 2) hx hb dX4_lineChar_31 (by decide) ?_
      have hPc := hP.sub (ws' := [cM b mm]) [0] rfl
      have hDc := hD.sub (ws' := [cM b mm]) [0] (by decide) rfl
      have hFc := va_free (wc := [cM b mm]) hD hS hA [0] rfl
      refine va_calli (va_runV (As := [.int 2]) (rest := []) ⟨hx, hb, hml, hown, hts⟩ (c_X4_can l D cA H.size b mm 2) (cwV 1 hts gX4_lineChar_X4_can rfl rfl rfl (by decide +kernel) ⟨Nat.le_of_ble_eq_true rfl, Nat.le_of_ble_eq_true rfl⟩) ⟨zU_blind, va_recv hK hPc (ci := 6) (q0 := 0) rfl rfl, fun U hU hW => ⟨rfl, zU_call hU hPc hW.alike hK hDc⟩⟩ rfl rfl hl.1 rfl (lv_room (Nat.le_of_ble_eq_true rfl)) dX4_lineChar_32 ⟨(Nat.zero_le _), (Nat.zero_le _)⟩) hS (fun q _ h => hFc q h) hFc (fun zr u t H1 locs ht hvm hw hB hz1 hk1 hS => ?_)
      obtain ⟨mm'_6, rfl⟩ : ∃ z, z = u := ⟨_, rfl⟩
      obtain ⟨hP1, hD1⟩ := hB
      rw [ht] at hP1
      try dsimp only at hw hP1 hD1
      obtain ⟨hP, hD⟩ := va_join (wr := [(b 9, .inl (cA 0, 2, .inl (t2 ix c1 c2))), (b 7, .inl (cA 0, 8, .inl (bk 4 ix f fy)))]) (w1 := [cM b mm'_6]) hP hD [0] [1, 2] rfl rfl (by decide) (by decide) hk1 hFc hP1 hD1
      generalize H1 = H at hP hS ⊢
      have hP := hP.sub (ws' := [cM b mm'_6, (b 9, .inl (cA 0, 2, .inl (t2 ix c1 c2))), (b 7, .inl (cA 0, 8, .inl (bk 4 ix f fy)))]) [2, 0, 1] rfl
      have hD := hD.sub (ws' := [cM b mm'_6, (b 9, .inl (cA 0, 2, .inl (t2 ix c1 c2))), (b 7, .inl (cA 0, 8, .inl (bk 4 ix f fy)))]) [2, 0, 1] (by decide) rfl
      clear hPc hDc hFc hP1 hD1 hk1 hz1
      obtain ⟨rfl, hw⟩ := hw
      have hw_6 := hw
      rcases z_bool hw with ⟨h_6, rfl⟩ | ⟨h_6, rfl⟩
      · exact absurd h_6 (by decide)
      · skip
        refine lv_if_eq (tgt := 47) hx hb dX4_lineChar_35 (by decide) (fun _ => ?_) (fun c_7 => absurd c_7 (by decide))
        refine lv_bipush (v := 32) hx hb dX4_lineChar_47 (by decide) ?_
        refine W.widen (k := 0) (n := 0) (by omega) (by omega) ?_
        exact W.zret (v := 32) hx hb hr rfl (fun t ht hW => ⟨⟨32, ((upd mm 6 2)), rfl, rfl, ⟨by rw [ht]; exact hP, by rw [hAe]; exact hD⟩⟩, hS.F ht⟩) hS.2.2 dX4_lineChar_49
  · exact absurd (inr_ix hix) h_1
set_option maxHeartbeats 4000000 in
set_option maxRecDepth 100000 in
theorem c_X4_lineChar_b (l : Launch) (D : va_G) (cA : Nat → ClassId) (sz : Nat) (b : Nat → Nat) (mm : Nat → Int32) (n : Int32) (o : Int32) (hn : ¬ inr n 0 1) : Met l yX4_lineChar wsX4_lineChar ({ frames := 2, cells := 0, slots := 0, locals := 42 }) (va_Pc [.ref (b 0), .int n, .int o] (zU D cA sz [cM b mm])) (va_Qi (fun (r : Int32) (u : (Nat → Int32)) => u = upd mm 6 1) (fun (u : (Nat → Int32)) t => zB D [cM b mm] sz [cM b u] t) (va_A [cM b mm] sz)) 0 0 (va_A [cM b mm] sz) := by
  refine Met.ofW (cc := cX4_lineChar) (maxL := 3) (ret := (some .char)) (by decide) rfl ?_
  intro p e s m args below meth c s₁ B hml hv
  obtain ⟨rfl, hsz, hP, hK, hD0⟩ := hv
  have hx := B.exec
  have hb := B.bytes
  have hr := B.returns
  have hts := atoms_spec (ws := wsX4_lineChar) B.pre
  have hown : s.vm.findClass RX4 = some m.cls := findClass_of_methodNamed B.named
  have hlocks := B.notSynchronized
  subst hsz
  have hD := hD0.self (sz := s.heap.size)
  generalize hAe : va_A [cM b mm] s.heap.size = A at hD ⊢
  have hA : ∀ q : Nat, s.heap.size ≤ q → A q := fun q h => by rw [← hAe]; exact Or.inr h
  have hS : va_S A s.heap s.heap [] := va_S.rf
  have hl := lv_entry ([.ref (b 0), .int n, .int o]) (n := 3) (Nat.le_of_ble_eq_true rfl)
  rw [lg_entry_eq]
  generalize (lg_sl ([.ref (b 0), .int n, .int o]) ++ List.replicate (3 - (lg_sl ([.ref (b 0), .int n, .int o])).length) Slot.unset).toArray = ls at hl ⊢
  have hl : lv_has ls 3 [(0, .ref (b 0)), (1, .int n), (2, .int o)] := hl
  refine lv_aload_n hx hb dX4_lineChar_0 rfl (lv_at hl 0 rfl) ?_
  refine lv_iload_n hx hb dX4_lineChar_1 rfl (lv_at hl 1 rfl) ?_
  have hPc := hP.sub (ws' := []) [] rfl
  have hDc := hD.sub (ws' := []) [] (by decide) rfl
  have hFc := va_free (wc := []) hD hS hA [] rfl
  refine va_calli (va_runS (As := [.int n]) (rest := [.ref (b 0)]) ⟨hx, hb, hml, hown, hts⟩ (c_X4_isEnd l D cA s.heap.size n) (va_cwS 1 hts gX4_lineChar_X4_isEnd rfl rfl rfl (by decide +kernel) ⟨Nat.le_of_ble_eq_true rfl, Nat.le_of_ble_eq_true rfl⟩) ⟨zU_blind, fun U hU hW => ⟨rfl, zU_call hU hPc hW.alike hK hDc⟩⟩ rfl rfl hl.1 rfl (lv_room (Nat.le_of_ble_eq_true rfl)) dX4_lineChar_2 ⟨(Nat.zero_le _), (Nat.zero_le _)⟩) hS (fun q _ h => hFc q h) hFc (fun zr u t H1 locs ht hvm hw hB hz1 hk1 hS => ?_)
  obtain ⟨hP1, hD1⟩ := hB
  rw [ht] at hP1
  obtain ⟨hP, hD⟩ := va_join (wr := [cM b mm]) (w1 := []) hP hD [] [0] rfl rfl (by decide) (by decide) hk1 hFc hP1 hD1
  generalize H1 = H at hP hS ⊢
  have hP := hP.sub (ws' := [cM b mm]) [0] rfl
  have hD := hD.sub (ws' := [cM b mm]) [0] (by decide) rfl
  clear hPc hDc hFc hP1 hD1 hk1 hz1
  have hw_1 := hw
  rcases z_bool hw with ⟨h_1, rfl⟩ | ⟨h_1, rfl⟩
  · exact absurd h_1 hn
  · skip
    refine lv_if_ne (tgt := 12) hx hb dX4_lineChar_5 (by decide) (fun c_2 => absurd c_2 (by decide)) (fun _ => ?_)
    refine lv_iconst (v := 1) hx hb dX4_lineChar_8 (by decide) ?_
    refine lv_goto (tgt := 32) hx hb dX4_lineChar_9 (by decide) ?_
    have hPc := hP.sub (ws' := [cM b mm]) [0] rfl
    have hDc := hD.sub (ws' := [cM b mm]) [0] (by decide) rfl
    have hFc := va_free (wc := [cM b mm]) hD hS hA [0] rfl
    refine va_calli (va_runV (As := [.int 1]) (rest := []) ⟨hx, hb, hml, hown, hts⟩ (c_X4_can l D cA H.size b mm 1) (cwV 1 hts gX4_lineChar_X4_can rfl rfl rfl (by decide +kernel) ⟨Nat.le_of_ble_eq_true rfl, Nat.le_of_ble_eq_true rfl⟩) ⟨zU_blind, va_recv hK hPc (ci := 6) (q0 := 0) rfl rfl, fun U hU hW => ⟨rfl, zU_call hU hPc hW.alike hK hDc⟩⟩ rfl rfl hl.1 rfl (lv_room (Nat.le_of_ble_eq_true rfl)) dX4_lineChar_32 ⟨(Nat.zero_le _), (Nat.zero_le _)⟩) hS (fun q _ h => hFc q h) hFc (fun zr u t H1 locs ht hvm hw hB hz1 hk1 hS => ?_)
    obtain ⟨mm'_3, rfl⟩ : ∃ z, z = u := ⟨_, rfl⟩
    obtain ⟨hP1, hD1⟩ := hB
    rw [ht] at hP1
    try dsimp only at hw hP1 hD1
    obtain ⟨hP, hD⟩ := va_join (wr := []) (w1 := [cM b mm'_3]) hP hD [0] [] rfl rfl (by decide) (by decide) hk1 hFc hP1 hD1
    generalize H1 = H at hP hS ⊢
    have hP := hP.sub (ws' := [cM b mm'_3]) [0] rfl
    have hD := hD.sub (ws' := [cM b mm'_3]) [0] (by decide) rfl
    clear hPc hDc hFc hP1 hD1 hk1 hz1
    obtain ⟨rfl, hw⟩ := hw
    have hw_3 := hw
    rcases z_bool hw with ⟨h_3, rfl⟩ | ⟨h_3, rfl⟩
    · exact absurd h_3 (by decide)
    · skip
      refine lv_if_eq (tgt := 47) hx hb dX4_lineChar_35 (by decide) (fun _ => ?_) (fun c_4 => absurd c_4 (by decide))
      refine lv_bipush (v := 32) hx hb dX4_lineChar_47 (by decide) ?_
      refine W.widen (k := 0) (n := 0) (by omega) (by omega) ?_
      exact W.zret (v := 32) hx hb hr rfl (fun t ht hW => ⟨⟨32, ((upd mm 6 1)), rfl, rfl, ⟨by rw [ht]; exact hP, by rw [hAe]; exact hD⟩⟩, hS.F ht⟩) hS.2.2 dX4_lineChar_49
