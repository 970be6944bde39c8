set_option maxHeartbeats 4000000 in
set_option maxRecDepth 100000 in
/-- PacketQueue.slotOf(place) -/
theorem c_X2_slotOf (l : Launch) (D : va_G) (cA : Nat → ClassId) (sz : Nat) (a : Nat → Nat) (fi : Nat) (Q : Qt) (k : Nat) (hf : fi < 12) (hk : k ≤ 12) : Met l yX2_slotOf wsX2_slotOf ({ frames := 0, cells := 0, slots := 0, locals := 0 }) (va_Pc [.ref (a 9), .int (nI k)] (zU D cA sz [(a 9, .inr (3, [.ref (a 10), .ref (a 11), .ref (a 12), .ref (a 13), .int (nI fi), .int (nI Q.1)]))])) (va_Qi (fun (r : Int32) (_ : Unit) => r = nI ((fi + k) % 12)) (fun (_ : Unit) t => zB D [(a 9, .inr (3, [.ref (a 10), .ref (a 11), .ref (a 12), .ref (a 13), .int (nI fi), .int (nI Q.1)]))] sz [(a 9, .inr (3, [.ref (a 10), .ref (a 11), .ref (a 12), .ref (a 13), .int (nI fi), .int (nI Q.1)]))] t) (va_A [(a 9, .inr (3, [.ref (a 10), .ref (a 11), .ref (a 12), .ref (a 13), .int (nI fi), .int (nI Q.1)]))] sz)) 0 0 (va_A [(a 9, .inr (3, [.ref (a 10), .ref (a 11), .ref (a 12), .ref (a 13), .int (nI fi), .int (nI Q.1)]))] sz) := by
  refine Met.ofW (cc := cX2_slotOf) (maxL := 2) (ret := (some .int)) (by decide) rfl ?_
  intro p e s m args below meth c s₁ B hml hv
  obtain ⟨rfl, hsz, hP, hK, hD0⟩ := hv
  have hx := B.exec
  have hb := B.bytes
  have hr := B.returns
  have hts := atoms_spec (ws := wsX2_slotOf) B.pre
  have hown : s.vm.findClass RX2 = some m.cls := findClass_of_methodNamed B.named
  have hlocks := B.notSynchronized
  subst hsz
  have hD := hD0.self (sz := s.heap.size)
  generalize hAe : va_A [(a 9, .inr (3, [.ref (a 10), .ref (a 11), .ref (a 12), .ref (a 13), .int (nI fi), .int (nI Q.1)]))] s.heap.size = A at hD ⊢
  have hA : ∀ q : Nat, s.heap.size ≤ q → A q := fun q h => by rw [← hAe]; exact Or.inr h
  have hS : va_S A s.heap s.heap [] := va_S.rf
  have hl := lv_entry ([.ref (a 9), .int (nI k)]) (n := 2) (Nat.le_of_ble_eq_true rfl)
  rw [lg_entry_eq]
  generalize (lg_sl ([.ref (a 9), .int (nI k)]) ++ List.replicate (2 - (lg_sl ([.ref (a 9), .int (nI k)])).length) Slot.unset).toArray = ls at hl ⊢
  have hl : lv_has ls 2 [(0, .ref (a 9)), (1, .int (nI k))] := hl
  refine lv_aload_n hx hb dX2_slotOf_0 rfl (lv_at hl 0 rfl) ?_
  refine va_get (D := D) (ci := 3) (v := .int (nI fi)) (C := RX2) (T := TX2) (N := 6) hx hb hts (fun _ h => List.mem_cons_of_mem _ (List.mem_append_right _ (h))) hown hK hP 0 rfl rfl 4 (by decide) (hts (.fieldLink RX2 24 "OptionWire$PacketQueue" "first" "I") (List.mem_of_getElem? (i := 1) rfl)) (fun _ h9 => h9) rfl dX2_slotOf_1 ?_
  refine lv_iload_n hx hb dX2_slotOf_4 rfl (lv_at hl 1 rfl) ?_
  refine lv_iadd hx hb dX2_slotOf_5 ?_
  refine z_top (y := (nI (fi + k))) (z_add fi k) ?_
  refine lv_bipush (v := 12) hx hb dX2_slotOf_6 (by decide) ?_
  refine lv_irem hx hb dX2_slotOf_8 (by decide) ?_
  refine z_top (y := (nI ((fi + k) % 12))) (z_rem (a := (fi + k)) (d := 12) (by omega) (by omega) (by omega)) ?_
  refine W.widen (k := 0) (n := 0) (by omega) (by omega) ?_
  exact W.iret (v := (nI ((fi + k) % 12))) hx hb hr (fun t ht hW => ⟨⟨nI ((fi + k) % 12), (), rfl, rfl, ⟨by rw [ht]; exact hP, by rw [hAe]; exact hD⟩⟩, hS.F ht⟩) hS.2.2 dX2_slotOf_9
set_option maxHeartbeats 4000000 in
set_option maxRecDepth 100000 in
/-- PacketQueue.add(kind, number, mark, values) -/
theorem c_X2_add (l : Launch) (D : va_G) (cA : Nat → ClassId) (sz : Nat) (a : Nat → Nat) (fi : Nat) (Q : Qt) (r : Nat → Nat → Int32) (kd nb mk : Int32) (b : Nat) (f : Nat → Int32) (hq : rg r fi Q) : Met l yX2_add wsX2_add ({ frames := 1, cells := 0, slots := 0, locals := 21 }) (va_Pc [.ref (a 9), .int kd, .int nb, .int mk, .ref b] (zU D cA sz [(a 9, .inr (3, [.ref (a 10), .ref (a 11), .ref (a 12), .ref (a 13), .int (nI fi), .int (nI Q.1)])), (a 10, .inl (cA 0, 12, .inl (r 0))), (a 11, .inl (cA 0, 12, .inl (r 1))), (a 12, .inl (cA 0, 12, .inl (r 2))), (a 13, .inl (cA 0, 48, .inl (r 3))), (b, .inl (cA 0, 4, .inl f))])) (va_Qv (fun (u : ((Nat → Nat → Int32) × Nat)) => u.2 = (push (pk kd nb mk f) Q).1 ∧ rg u.1 fi (push (pk kd nb mk f) Q)) (fun (u : ((Nat → Nat → Int32) × Nat)) t => zB D [(a 9, .inr (3, [.ref (a 10), .ref (a 11), .ref (a 12), .ref (a 13), .int (nI fi), .int (nI Q.1)])), (a 10, .inl (cA 0, 12, .inl (r 0))), (a 11, .inl (cA 0, 12, .inl (r 1))), (a 12, .inl (cA 0, 12, .inl (r 2))), (a 13, .inl (cA 0, 48, .inl (r 3))), (b, .inl (cA 0, 4, .inl f))] sz [(a 9, .inr (3, [.ref (a 10), .ref (a 11), .ref (a 12), .ref (a 13), .int (nI fi), .int (nI u.2)])), (a 10, .inl (cA 0, 12, .inl (u.1 0))), (a 11, .inl (cA 0, 12, .inl (u.1 1))), (a 12, .inl (cA 0, 12, .inl (u.1 2))), (a 13, .inl (cA 0, 48, .inl (u.1 3))), (b, .inl (cA 0, 4, .inl f))] t) (va_A [(a 9, .inr (3, [.ref (a 10), .ref (a 11), .ref (a 12), .ref (a 13), .int (nI fi), .int (nI Q.1)])), (a 10, .inl (cA 0, 12, .inl (r 0))), (a 11, .inl (cA 0, 12, .inl (r 1))), (a 12, .inl (cA 0, 12, .inl (r 2))), (a 13, .inl (cA 0, 48, .inl (r 3))), (b, .inl (cA 0, 4, .inl f))] sz)) 0 0 (va_A [(a 9, .inr (3, [.ref (a 10), .ref (a 11), .ref (a 12), .ref (a 13), .int (nI fi), .int (nI Q.1)])), (a 10, .inl (cA 0, 12, .inl (r 0))), (a 11, .inl (cA 0, 12, .inl (r 1))), (a 12, .inl (cA 0, 12, .inl (r 2))), (a 13, .inl (cA 0, 48, .inl (r 3))), (b, .inl (cA 0, 4, .inl f))] sz) := by
  refine Met.ofW (cc := cX2_add) (maxL := 7) (ret := none) (by decide) rfl ?_
  intro p e s m args below meth c s₁ B hml hv
  obtain ⟨rfl, hsz, hP, hK, hD0⟩ := hv
  have hx := B.exec
  have hb := B.bytes
  have hr := B.returns
  have hts := atoms_spec (ws := wsX2_add) B.pre
  have hown : s.vm.findClass RX2 = some m.cls := findClass_of_methodNamed B.named
  have hlocks := B.notSynchronized
  subst hsz
  have hD := hD0.self (sz := s.heap.size)
  generalize hAe : va_A [(a 9, .inr (3, [.ref (a 10), .ref (a 11), .ref (a 12), .ref (a 13), .int (nI fi), .int (nI Q.1)])), (a 10, .inl (cA 0, 12, .inl (r 0))), (a 11, .inl (cA 0, 12, .inl (r 1))), (a 12, .inl (cA 0, 12, .inl (r 2))), (a 13, .inl (cA 0, 48, .inl (r 3))), (b, .inl (cA 0, 4, .inl f))] s.heap.size = A at hD ⊢
  have hA : ∀ q : Nat, s.heap.size ≤ q → A q := fun q h => by rw [← hAe]; exact Or.inr h
  have hS : va_S A s.heap s.heap [] := va_S.rf
  have hl := lv_entry ([.ref (a 9), .int kd, .int nb, .int mk, .ref b]) (n := 7) (Nat.le_of_ble_eq_true rfl)
  rw [lg_entry_eq]
  generalize (lg_sl ([.ref (a 9), .int kd, .int nb, .int mk, .ref b]) ++ List.replicate (7 - (lg_sl ([.ref (a 9), .int kd, .int nb, .int mk, .ref b])).length) Slot.unset).toArray = ls at hl ⊢
  have hl : lv_has ls 7 [(0, .ref (a 9)), (1, .int kd), (2, .int nb), (3, .int mk), (4, .ref b)] := hl
  have hq12 := hq.2.1
  have hqf := hq.1
  refine lv_aload_n hx hb dX2_add_0 rfl (lv_at hl 0 rfl) ?_
  refine va_get (D := D) (ci := 3) (v := .int (nI Q.1)) (C := RX2) (T := TX2) (N := 6) hx hb hts (fun _ h => List.mem_cons_of_mem _ (List.mem_append_right _ (h))) hown hK hP 0 rfl rfl 5 (by decide) (hts (.fieldLink RX2 28 "OptionWire$PacketQueue" "count" "I") (List.mem_of_getElem? (i := 1) rfl)) (fun _ h9 => h9) rfl dX2_add_1 ?_
  refine lv_bipush (v := 12) hx hb dX2_add_4 (by decide) ?_
  refine lv_icmp_lt (tgt := 10) hx hb dX2_add_6 (by decide) (fun c_1 => ?_) (fun c_1 => ?_)
  · have c_1 := (nI_ltI (a := Q.1) (b := 12) (by omega) (by omega)).mp c_1
    refine lv_aload_n hx hb dX2_add_10 rfl (lv_at hl 0 rfl) ?_
    refine lv_aload_n hx hb dX2_add_11 rfl (lv_at hl 0 rfl) ?_
    refine va_get (D := D) (ci := 3) (v := .int (nI Q.1)) (C := RX2) (T := TX2) (N := 6) hx hb hts (fun _ h => List.mem_cons_of_mem _ (List.mem_append_right _ (h))) hown hK hP 0 rfl rfl 5 (by decide) (hts (.fieldLink RX2 28 "OptionWire$PacketQueue" "count" "I") (List.mem_of_getElem? (i := 1) rfl)) (fun _ h9 => h9) rfl dX2_add_12 ?_
    have hPc := hP.sub (ws' := [(a 9, .inr (3, [.ref (a 10), .ref (a 11), .ref (a 12), .ref (a 13), .int (nI fi), .int (nI Q.1)]))]) [0] rfl
    have hDc := hD.sub (ws' := [(a 9, .inr (3, [.ref (a 10), .ref (a 11), .ref (a 12), .ref (a 13), .int (nI fi), .int (nI Q.1)]))]) [0] (by decide) rfl
    have hFc := va_free (wc := [(a 9, .inr (3, [.ref (a 10), .ref (a 11), .ref (a 12), .ref (a 13), .int (nI fi), .int (nI Q.1)]))]) hD hS hA [0] rfl
    refine va_calli (va_runV (As := [.int (nI Q.1)]) (rest := []) ⟨hx, hb, hml, hown, hts⟩ (c_X2_slotOf l D cA s.heap.size a fi Q Q.1 hq.1 (by omega)) (cwV 1 hts gX2_add_X2_slotOf rfl rfl rfl (by decide +kernel) ⟨Nat.le_of_ble_eq_true rfl, Nat.le_of_ble_eq_true rfl⟩) ⟨zU_blind, va_recv hK hPc (ci := 3) (q0 := 0) rfl rfl, fun U hU hW => ⟨rfl, zU_call hU hPc hW.alike hK hDc⟩⟩ rfl rfl hl.1 rfl (lv_room (Nat.le_of_ble_eq_true rfl)) dX2_add_15 ⟨(Nat.zero_le _), (Nat.zero_le _)⟩) hS (fun q _ h => hFc q h) hFc (fun zr u t H1 locs ht hvm hw hB hz1 hk1 hS => ?_)
    obtain ⟨hP1, hD1⟩ := hB
    rw [ht] at hP1
    obtain ⟨hP, hD⟩ := va_join (wr := [(a 10, .inl (cA 0, 12, .inl (r 0))), (a 11, .inl (cA 0, 12, .inl (r 1))), (a 12, .inl (cA 0, 12, .inl (r 2))), (a 13, .inl (cA 0, 48, .inl (r 3))), (b, .inl (cA 0, 4, .inl f))]) (w1 := [(a 9, .inr (3, [.ref (a 10), .ref (a 11), .ref (a 12), .ref (a 13), .int (nI fi), .int (nI Q.1)]))]) hP hD [0] [1, 2, 3, 4, 5] rfl rfl (by decide) (by decide) hk1 hFc hP1 hD1
    generalize H1 = H at hP hS ⊢
    have hP := hP.sub (ws' := [(a 9, .inr (3, [.ref (a 10), .ref (a 11), .ref (a 12), .ref (a 13), .int (nI fi), .int (nI Q.1)])), (a 10, .inl (cA 0, 12, .inl (r 0))), (a 11, .inl (cA 0, 12, .inl (r 1))), (a 12, .inl (cA 0, 12, .inl (r 2))), (a 13, .inl (cA 0, 48, .inl (r 3))), (b, .inl (cA 0, 4, .inl f))]) [5, 0, 1, 2, 3, 4] rfl
    have hD := hD.sub (ws' := [(a 9, .inr (3, [.ref (a 10), .ref (a 11), .ref (a 12), .ref (a 13), .int (nI fi), .int (nI Q.1)])), (a 10, .inl (cA 0, 12, .inl (r 0))), (a 11, .inl (cA 0, 12, .inl (r 1))), (a 12, .inl (cA 0, 12, .inl (r 2))), (a 13, .inl (cA 0, 48, .inl (r 3))), (b, .inl (cA 0, 4, .inl f))]) [5, 0, 1, 2, 3, 4] (by decide) rfl
    clear hPc hDc hFc hP1 hD1 hk1 hz1
    have hw_2 := hw
    obtain rfl := hw
    refine lv_istore (lv' := [(5, .int (nI ((fi + Q.1) % 12))), (0, .ref (a 9)), (1, .int kd), (2, .int nb), (3, .int mk), (4, .ref b)]) hx hb dX2_add_18 hl (by decide) rfl (fun ls hl => ?_)
    refine lv_aload_n hx hb dX2_add_20 rfl (lv_at hl 1 rfl) ?_
    refine va_get (D := D) (ci := 3) (v := .ref (a 10)) (C := RX2) (T := TX2) (N := 6) hx hb hts (fun _ h => List.mem_cons_of_mem _ (List.mem_append_right _ (h))) hown hK hP 0 rfl rfl 0 (by decide) (hts (.fieldLink RX2 9 "OptionWire$PacketQueue" "kinds" "[I") (List.mem_of_getElem? (i := 2) rfl)) (fun _ h9 => h9) rfl dX2_add_21 ?_
    refine lv_iload hx hb dX2_add_24 (lv_at hl 0 rfl) ?_
    refine lv_iload_n hx hb dX2_add_26 rfl (lv_at hl 2 rfl) ?_
    refine z_iast (k := ((fi + Q.1) % 12)) hx hb hK hP hD hS 1 0 rfl rfl rfl (by omega) (by decide) dX2_add_27 (fun H locs hP hD hS => ?_)
    have hP : va_P D vwCl [(a 9, .inr (3, [.ref (a 10), .ref (a 11), .ref (a 12), .ref (a 13), .int (nI fi), .int (nI Q.1)])), (a 10, .inl (cA 0, 12, .inl (upd (r 0) ((fi + Q.1) % 12) kd))), (a 11, .inl (cA 0, 12, .inl (r 1))), (a 12, .inl (cA 0, 12, .inl (r 2))), (a 13, .inl (cA 0, 48, .inl (r 3))), (b, .inl (cA 0, 4, .inl f))] H := hP
    have hD : va_D A [(a 9, .inr (3, [.ref (a 10), .ref (a 11), .ref (a 12), .ref (a 13), .int (nI fi), .int (nI Q.1)])), (a 10, .inl (cA 0, 12, .inl (upd (r 0) ((fi + Q.1) % 12) kd))), (a 11, .inl (cA 0, 12, .inl (r 1))), (a 12, .inl (cA 0, 12, .inl (r 2))), (a 13, .inl (cA 0, 48, .inl (r 3))), (b, .inl (cA 0, 4, .inl f))] := hD
    refine lv_aload_n hx hb dX2_add_28 rfl (lv_at hl 1 rfl) ?_
    refine va_get (D := D) (ci := 3) (v := .ref (a 11)) (C := RX2) (T := TX2) (N := 6) hx hb hts (fun _ h => List.mem_cons_of_mem _ (List.mem_append_right _ (h))) hown hK hP 0 rfl rfl 1 (by decide) (hts (.fieldLink RX2 15 "OptionWire$PacketQueue" "numbers" "[I") (List.mem_of_getElem? (i := 3) rfl)) (fun _ h9 => h9) rfl dX2_add_29 ?_
    refine lv_iload hx hb dX2_add_32 (lv_at hl 0 rfl) ?_
    refine lv_iload_n hx hb dX2_add_34 rfl (lv_at hl 3 rfl) ?_
    refine z_iast (k := ((fi + Q.1) % 12)) hx hb hK hP hD hS 2 0 rfl rfl rfl (by omega) (by decide) dX2_add_35 (fun H locs hP hD hS => ?_)
    have hP : va_P D vwCl [(a 9, .inr (3, [.ref (a 10), .ref (a 11), .ref (a 12), .ref (a 13), .int (nI fi), .int (nI Q.1)])), (a 10, .inl (cA 0, 12, .inl (upd (r 0) ((fi + Q.1) % 12) kd))), (a 11, .inl (cA 0, 12, .inl (upd (r 1) ((fi + Q.1) % 12) nb))), (a 12, .inl (cA 0, 12, .inl (r 2))), (a 13, .inl (cA 0, 48, .inl (r 3))), (b, .inl (cA 0, 4, .inl f))] H := hP
    have hD : va_D A [(a 9, .inr (3, [.ref (a 10), .ref (a 11), .ref (a 12), .ref (a 13), .int (nI fi), .int (nI Q.1)])), (a 10, .inl (cA 0, 12, .inl (upd (r 0) ((fi + Q.1) % 12) kd))), (a 11, .inl (cA 0, 12, .inl (upd (r 1) ((fi + Q.1) % 12) nb))), (a 12, .inl (cA 0, 12, .inl (r 2))), (a 13, .inl (cA 0, 48, .inl (r 3))), (b, .inl (cA 0, 4, .inl f))] := hD
    refine lv_aload_n hx hb dX2_add_36 rfl (lv_at hl 1 rfl) ?_
    refine va_get (D := D) (ci := 3) (v := .ref (a 12)) (C := RX2) (T := TX2) (N := 6) hx hb hts (fun _ h => List.mem_cons_of_mem _ (List.mem_append_right _ (h))) hown hK hP 0 rfl rfl 2 (by decide) (hts (.fieldLink RX2 18 "OptionWire$PacketQueue" "marks" "[I") (List.mem_of_getElem? (i := 4) rfl)) (fun _ h9 => h9) rfl dX2_add_37 ?_
    refine lv_iload hx hb dX2_add_40 (lv_at hl 0 rfl) ?_
    refine lv_iload_n hx hb dX2_add_42 rfl (lv_at hl 4 rfl) ?_
    refine z_iast (k := ((fi + Q.1) % 12)) hx hb hK hP hD hS 3 0 rfl rfl rfl (by omega) (by decide) dX2_add_43 (fun H locs hP hD hS => ?_)
    have hP : va_P D vwCl [(a 9, .inr (3, [.ref (a 10), .ref (a 11), .ref (a 12), .ref (a 13), .int (nI fi), .int (nI Q.1)])), (a 10, .inl (cA 0, 12, .inl (upd (r 0) ((fi + Q.1) % 12) kd))), (a 11, .inl (cA 0, 12, .inl (upd (r 1) ((fi + Q.1) % 12) nb))), (a 12, .inl (cA 0, 12, .inl (upd (r 2) ((fi + Q.1) % 12) mk))), (a 13, .inl (cA 0, 48, .inl (r 3))), (b, .inl (cA 0, 4, .inl f))] H := hP
    have hD : va_D A [(a 9, .inr (3, [.ref (a 10), .ref (a 11), .ref (a 12), .ref (a 13), .int (nI fi), .int (nI Q.1)])), (a 10, .inl (cA 0, 12, .inl (upd (r 0) ((fi + Q.1) % 12) kd))), (a 11, .inl (cA 0, 12, .inl (upd (r 1) ((fi + Q.1) % 12) nb))), (a 12, .inl (cA 0, 12, .inl (upd (r 2) ((fi + Q.1) % 12) mk))), (a 13, .inl (cA 0, 48, .inl (r 3))), (b, .inl (cA 0, 4, .inl f))] := hD
    refine lv_iconst (v := 0) hx hb dX2_add_44 (by decide) ?_
    refine lv_istore (lv' := [(6, .int 0), (5, .int (nI ((fi + Q.1) % 12))), (0, .ref (a 9)), (1, .int kd), (2, .int nb), (3, .int mk), (4, .ref b)]) hx hb dX2_add_45 hl (by decide) rfl (fun ls hl => ?_)
    -- the loop at 47
    have hP : va_P D vwCl [(a 9, .inr (3, [.ref (a 10), .ref (a 11), .ref (a 12), .ref (a 13), .int (nI fi), .int (nI Q.1)])), (a 10, .inl (cA 0, 12, .inl (upd (r 0) ((fi + Q.1) % 12) kd))), (a 11, .inl (cA 0, 12, .inl (upd (r 1) ((fi + Q.1) % 12) nb))), (a 12, .inl (cA 0, 12, .inl (upd (r 2) ((fi + Q.1) % 12) mk))), (a 13, .inl (cA 0, 48, .inl (bput 0 (r 3) ((fi + Q.1) % 12) f))), (b, .inl (cA 0, 4, .inl f))] H := z_row hP 4 rfl (fun k _ => congrFun (show r 3 = bput 0 (r 3) ((fi + Q.1) % 12) f from bput_0) k)
    have hD : va_D A [(a 9, .inr (3, [.ref (a 10), .ref (a 11), .ref (a 12), .ref (a 13), .int (nI fi), .int (nI Q.1)])), (a 10, .inl (cA 0, 12, .inl (upd (r 0) ((fi + Q.1) % 12) kd))), (a 11, .inl (cA 0, 12, .inl (upd (r 1) ((fi + Q.1) % 12) nb))), (a 12, .inl (cA 0, 12, .inl (upd (r 2) ((fi + Q.1) % 12) mk))), (a 13, .inl (cA 0, 48, .inl (bput 0 (r 3) ((fi + Q.1) % 12) f))), (b, .inl (cA 0, 4, .inl f))] := hD.set (p := 4) rfl
    refine z_loop (Inv := fun j H locs ls => va_P D vwCl [(a 9, .inr (3, [.ref (a 10), .ref (a 11), .ref (a 12), .ref (a 13), .int (nI fi), .int (nI Q.1)])), (a 10, .inl (cA 0, 12, .inl (upd (r 0) ((fi + Q.1) % 12) kd))), (a 11, .inl (cA 0, 12, .inl (upd (r 1) ((fi + Q.1) % 12) nb))), (a 12, .inl (cA 0, 12, .inl (upd (r 2) ((fi + Q.1) % 12) mk))), (a 13, .inl (cA 0, 48, .inl (bput j (r 3) ((fi + Q.1) % 12) f))), (b, .inl (cA 0, 4, .inl f))] H ∧ va_D A [(a 9, .inr (3, [.ref (a 10), .ref (a 11), .ref (a 12), .ref (a 13), .int (nI fi), .int (nI Q.1)])), (a 10, .inl (cA 0, 12, .inl (upd (r 0) ((fi + Q.1) % 12) kd))), (a 11, .inl (cA 0, 12, .inl (upd (r 1) ((fi + Q.1) % 12) nb))), (a 12, .inl (cA 0, 12, .inl (upd (r 2) ((fi + Q.1) % 12) mk))), (a 13, .inl (cA 0, 48, .inl (bput j (r 3) ((fi + Q.1) % 12) f))), (b, .inl (cA 0, 4, .inl f))] ∧ va_S A s.heap H locs ∧ lv_has ls 7 [(6, .int (nI j)), (5, .int (nI ((fi + Q.1) % 12))), (0, .ref (a 9)), (1, .int kd), (2, .int nb), (3, .int mk), (4, .ref b)]) 4 (fun j hj_j ih_j H locs ls hI => ?_) ⟨hP, hD, hS, lv_sub hl [0, 1, 2, 3, 4, 5, 6] rfl⟩
    obtain ⟨hP, hD, hS, hl⟩ := hI
    refine lv_iload hx hb dX2_add_47 (lv_at hl 0 rfl) ?_
    refine lv_iconst (v := 4) hx hb dX2_add_49 (by decide) ?_
    refine lv_icmp_ge (tgt := 76) hx hb dX2_add_50 (by decide) (fun c_3 => ?_) (fun c_3 => ?_)
    · have c_3 := (nI_leI (a := 4) (b := j) (by omega) (by omega)).mp c_3
      obtain rfl : j = 4 := by omega
      refine lv_aload_n hx hb dX2_add_76 rfl (lv_at hl 2 rfl) ?_
      refine lv_dup hx hb dX2_add_77 rfl ?_
      refine va_get (D := D) (ci := 3) (v := .int (nI Q.1)) (C := RX2) (T := TX2) (N := 6) hx hb hts (fun _ h => List.mem_cons_of_mem _ (List.mem_append_right _ (h))) hown hK hP 0 rfl rfl 5 (by decide) (hts (.fieldLink RX2 28 "OptionWire$PacketQueue" "count" "I") (List.mem_of_getElem? (i := 1) rfl)) (fun _ h9 => h9) rfl dX2_add_78 ?_
      refine lv_iconst (v := 1) hx hb dX2_add_81 (by decide) ?_
      refine lv_iadd hx hb dX2_add_82 ?_
      refine z_top (y := (nI (Q.1 + 1))) (z_add Q.1 1) ?_
      refine va_put (D := D) (ci := 3) (v := .int (nI (Q.1 + 1))) (ty := .int) (C := RX2) (T := TX2) (N := 6) hx hb hts (fun _ h => List.mem_cons_of_mem _ (List.mem_append_right _ (h))) tyX2 tyX2_ok nmX2 hown hK hP hD hS 0 rfl rfl 5 (by decide) (hts (.fieldLink RX2 28 "OptionWire$PacketQueue" "count" "I") (List.mem_of_getElem? (i := 1) rfl)) (fun _ h9 => h9) rfl (by decide +kernel) rfl rfl (Nat.le_of_ble_eq_true rfl) dX2_add_83 (fun H locs hP hD hS => ?_)
      have hP : va_P D vwCl [(a 9, .inr (3, [.ref (a 10), .ref (a 11), .ref (a 12), .ref (a 13), .int (nI fi), .int (nI (Q.1 + 1))])), (a 10, .inl (cA 0, 12, .inl (upd (r 0) ((fi + Q.1) % 12) kd))), (a 11, .inl (cA 0, 12, .inl (upd (r 1) ((fi + Q.1) % 12) nb))), (a 12, .inl (cA 0, 12, .inl (upd (r 2) ((fi + Q.1) % 12) mk))), (a 13, .inl (cA 0, 48, .inl (bput 4 (r 3) ((fi + Q.1) % 12) f))), (b, .inl (cA 0, 4, .inl f))] H := hP
      have hD : va_D A [(a 9, .inr (3, [.ref (a 10), .ref (a 11), .ref (a 12), .ref (a 13), .int (nI fi), .int (nI (Q.1 + 1))])), (a 10, .inl (cA 0, 12, .inl (upd (r 0) ((fi + Q.1) % 12) kd))), (a 11, .inl (cA 0, 12, .inl (upd (r 1) ((fi + Q.1) % 12) nb))), (a 12, .inl (cA 0, 12, .inl (upd (r 2) ((fi + Q.1) % 12) mk))), (a 13, .inl (cA 0, 48, .inl (bput 4 (r 3) ((fi + Q.1) % 12) f))), (b, .inl (cA 0, 4, .inl f))] := hD
      refine W.widen (k := 0) (n := 0) (by omega) (by omega) ?_
      exact W.vret hx hb hr (fun t ht hW => ⟨⟨((va_up (va_up (va_up (va_up r 0 (upd (r 0) ((fi + Q.1) % 12) kd)) 1 (upd (r 1) ((fi + Q.1) % 12) nb)) 2 (upd (r 2) ((fi + Q.1) % 12) mk)) 3 (bput 4 (r 3) ((fi + Q.1) % 12) f)), Q.1 + 1), rfl, ⟨by rw [push_y (by omega)], rg_push hq (by omega) rfl rfl rfl rfl rfl⟩, ⟨by rw [ht]; exact hP, by rw [hAe]; exact hD⟩⟩, hS.F ht⟩) hS.2.2 dX2_add_86
    · have c_3 := mt (nI_leI (a := 4) (b := j) (by omega) (by omega)).mpr c_3
      refine lv_aload_n hx hb dX2_add_53 rfl (lv_at hl 2 rfl) ?_
      refine va_get (D := D) (ci := 3) (v := .ref (a 13)) (C := RX2) (T := TX2) (N := 6) hx hb hts (fun _ h => List.mem_cons_of_mem _ (List.mem_append_right _ (h))) hown hK hP 0 rfl rfl 3 (by decide) (hts (.fieldLink RX2 21 "OptionWire$PacketQueue" "values" "[I") (List.mem_of_getElem? (i := 5) rfl)) (fun _ h9 => h9) rfl dX2_add_54 ?_
      refine lv_iload hx hb dX2_add_57 (lv_at hl 1 rfl) ?_
      refine lv_iconst (v := 4) hx hb dX2_add_59 (by decide) ?_
      refine lv_imul hx hb dX2_add_60 ?_
      refine z_top (y := (nI (((fi + Q.1) % 12) * 4))) (z_mul ((fi + Q.1) % 12) 4) ?_
      refine lv_iload hx hb dX2_add_61 (lv_at hl 0 rfl) ?_
      refine lv_iadd hx hb dX2_add_63 ?_
      refine z_top (y := (nI (((fi + Q.1) % 12) * 4 + j))) (z_add (((fi + Q.1) % 12) * 4) j) ?_
      refine lv_aload hx hb dX2_add_64 (lv_at hl 6 rfl) ?_
      refine lv_iload hx hb dX2_add_66 (lv_at hl 0 rfl) ?_
      refine z_iald (k := j) (v := (f j)) hx hb hK hP 5 0 rfl rfl rfl (by omega) (by decide) rfl dX2_add_68 ?_
      refine z_iast (k := (((fi + Q.1) % 12) * 4 + j)) hx hb hK hP hD hS 4 0 rfl rfl rfl (by omega) (by decide) dX2_add_69 (fun H locs hP hD hS => ?_)
      have hP : va_P D vwCl [(a 9, .inr (3, [.ref (a 10), .ref (a 11), .ref (a 12), .ref (a 13), .int (nI fi), .int (nI Q.1)])), (a 10, .inl (cA 0, 12, .inl (upd (r 0) ((fi + Q.1) % 12) kd))), (a 11, .inl (cA 0, 12, .inl (upd (r 1) ((fi + Q.1) % 12) nb))), (a 12, .inl (cA 0, 12, .inl (upd (r 2) ((fi + Q.1) % 12) mk))), (a 13, .inl (cA 0, 48, .inl (upd (bput j (r 3) ((fi + Q.1) % 12) f) (((fi + Q.1) % 12) * 4 + j) (f j)))), (b, .inl (cA 0, 4, .inl f))] H := hP
      have hD : va_D A [(a 9, .inr (3, [.ref (a 10), .ref (a 11), .ref (a 12), .ref (a 13), .int (nI fi), .int (nI Q.1)])), (a 10, .inl (cA 0, 12, .inl (upd (r 0) ((fi + Q.1) % 12) kd))), (a 11, .inl (cA 0, 12, .inl (upd (r 1) ((fi + Q.1) % 12) nb))), (a 12, .inl (cA 0, 12, .inl (upd (r 2) ((fi + Q.1) % 12) mk))), (a 13, .inl (cA 0, 48, .inl (upd (bput j (r 3) ((fi + Q.1) % 12) f) (((fi + Q.1) % 12) * 4 + j) (f j)))), (b, .inl (cA 0, 4, .inl f))] := hD
      refine lv_iinc (v := nI (j + 1)) (lv' := [(6, .int (nI (j + 1))), (5, .int (nI ((fi + Q.1) % 12))), (0, .ref (a 9)), (1, .int kd), (2, .int nb), (3, .int mk), (4, .ref b)]) hx hb dX2_add_70 hl (k := 0) rfl (z_inc j 1) (by decide) rfl (fun ls hl => ?_)
      refine lv_goto (tgt := 47) hx hb dX2_add_73 (by decide) ?_
      have hP : va_P D vwCl [(a 9, .inr (3, [.ref (a 10), .ref (a 11), .ref (a 12), .ref (a 13), .int (nI fi), .int (nI Q.1)])), (a 10, .inl (cA 0, 12, .inl (upd (r 0) ((fi + Q.1) % 12) kd))), (a 11, .inl (cA 0, 12, .inl (upd (r 1) ((fi + Q.1) % 12) nb))), (a 12, .inl (cA 0, 12, .inl (upd (r 2) ((fi + Q.1) % 12) mk))), (a 13, .inl (cA 0, 48, .inl (bput (j + 1) (r 3) ((fi + Q.1) % 12) f))), (b, .inl (cA 0, 4, .inl f))] H := z_row hP 4 rfl (fun k _ => congrFun (show upd (bput j (r 3) ((fi + Q.1) % 12) f) (((fi + Q.1) % 12) * 4 + j) (f j) = bput (j + 1) (r 3) ((fi + Q.1) % 12) f from bput_s rfl) k)
      have hD : va_D A [(a 9, .inr (3, [.ref (a 10), .ref (a 11), .ref (a 12), .ref (a 13), .int (nI fi), .int (nI Q.1)])), (a 10, .inl (cA 0, 12, .inl (upd (r 0) ((fi + Q.1) % 12) kd))), (a 11, .inl (cA 0, 12, .inl (upd (r 1) ((fi + Q.1) % 12) nb))), (a 12, .inl (cA 0, 12, .inl (upd (r 2) ((fi + Q.1) % 12) mk))), (a 13, .inl (cA 0, 48, .inl (bput (j + 1) (r 3) ((fi + Q.1) % 12) f))), (b, .inl (cA 0, 4, .inl f))] := hD.set (p := 4) rfl
      exact ih_j _ _ _ (by omega) ⟨hP, hD, hS, lv_sub hl [0, 1, 2, 3, 4, 5, 6] rfl⟩
  · have c_1 := mt (nI_ltI (a := Q.1) (b := 12) (by omega) (by omega)).mpr c_1
    refine W.widen (k := 0) (n := 0) (by omega) (by omega) ?_
    exact W.vret hx hb hr (fun t ht hW => ⟨⟨(r, Q.1), rfl, ⟨by rw [push_n (by omega)], by rw [push_n (by omega)]; exact hq⟩, ⟨by rw [ht]; exact hP, by rw [hAe]; exact hD⟩⟩, hS.F ht⟩) hS.2.2 dX2_add_9
set_option maxHeartbeats 4000000 in
set_option maxRecDepth 100000 in
/-- PacketQueue.add(kind, number, mark, values) of NO_VALUES -/
theorem c_X2_add_s (l : Launch) (D : va_G) (cA : Nat → ClassId) (zv : Nat → Nat) (sz : Nat) (a : Nat → Nat) (fi : Nat) (Q : Qt) (r : Nat → Nat → Int32) (kd nb mk : Int32) (hq : rg r fi Q) : Met l yX2_add wsX2_add ({ frames := 1, cells := 0, slots := 0, locals := 21 }) (va_Pc [.ref (a 9), .int kd, .int nb, .int mk, .ref (zv 0)] (zUE D cA zv sz [(a 9, .inr (3, [.ref (a 10), .ref (a 11), .ref (a 12), .ref (a 13), .int (nI fi), .int (nI Q.1)])), (a 10, .inl (cA 0, 12, .inl (r 0))), (a 11, .inl (cA 0, 12, .inl (r 1))), (a 12, .inl (cA 0, 12, .inl (r 2))), (a 13, .inl (cA 0, 48, .inl (r 3)))])) (va_Qv (fun (u : ((Nat → Nat → Int32) × Nat)) => u.2 = (push (pk kd nb mk (fun _ => -1)) Q).1 ∧ rg u.1 fi (push (pk kd nb mk (fun _ => -1)) Q)) (fun (u : ((Nat → Nat → Int32) × Nat)) t => zB D [(a 9, .inr (3, [.ref (a 10), .ref (a 11), .ref (a 12), .ref (a 13), .int (nI fi), .int (nI Q.1)])), (a 10, .inl (cA 0, 12, .inl (r 0))), (a 11, .inl (cA 0, 12, .inl (r 1))), (a 12, .inl (cA 0, 12, .inl (r 2))), (a 13, .inl (cA 0, 48, .inl (r 3)))] sz [(a 9, .inr (3, [.ref (a 10), .ref (a 11), .ref (a 12), .ref (a 13), .int (nI fi), .int (nI u.2)])), (a 10, .inl (cA 0, 12, .inl (u.1 0))), (a 11, .inl (cA 0, 12, .inl (u.1 1))), (a 12, .inl (cA 0, 12, .inl (u.1 2))), (a 13, .inl (cA 0, 48, .inl (u.1 3)))] t) (va_A [(a 9, .inr (3, [.ref (a 10), .ref (a 11), .ref (a 12), .ref (a 13), .int (nI fi), .int (nI Q.1)])), (a 10, .inl (cA 0, 12, .inl (r 0))), (a 11, .inl (cA 0, 12, .inl (r 1))), (a 12, .inl (cA 0, 12, .inl (r 2))), (a 13, .inl (cA 0, 48, .inl (r 3)))] sz)) 0 0 (va_A [(a 9, .inr (3, [.ref (a 10), .ref (a 11), .ref (a 12), .ref (a 13), .int (nI fi), .int (nI Q.1)])), (a 10, .inl (cA 0, 12, .inl (r 0))), (a 11, .inl (cA 0, 12, .inl (r 1))), (a 12, .inl (cA 0, 12, .inl (r 2))), (a 13, .inl (cA 0, 48, .inl (r 3)))] sz) := by
  refine Met.ofW (cc := cX2_add) (maxL := 7) (ret := none) (by decide) rfl ?_
  intro p e s m args below meth c s₁ B hml hv
  obtain ⟨rfl, hsz, hP, hK, hD0, hE0⟩ := hv
  have hx := B.exec
  have hb := B.bytes
  have hr := B.returns
  have hts := atoms_spec (ws := wsX2_add) B.pre
  have hown : s.vm.findClass RX2 = some m.cls := findClass_of_methodNamed B.named
  have hlocks := B.notSynchronized
  subst hsz
  have hD := hD0.self (sz := s.heap.size)
  generalize hAe : va_A [(a 9, .inr (3, [.ref (a 10), .ref (a 11), .ref (a 12), .ref (a 13), .int (nI fi), .int (nI Q.1)])), (a 10, .inl (cA 0, 12, .inl (r 0))), (a 11, .inl (cA 0, 12, .inl (r 1))), (a 12, .inl (cA 0, 12, .inl (r 2))), (a 13, .inl (cA 0, 48, .inl (r 3)))] s.heap.size = A at hD hE0 ⊢
  have hA : ∀ q : Nat, s.heap.size ≤ q → A q := fun q h => by rw [← hAe]; exact Or.inr h
  have hS : va_S A s.heap s.heap [] := va_S.rf
  have hl := lv_entry ([.ref (a 9), .int kd, .int nb, .int mk, .ref (zv 0)]) (n := 7) (Nat.le_of_ble_eq_true rfl)
  rw [lg_entry_eq]
  generalize (lg_sl ([.ref (a 9), .int kd, .int nb, .int mk, .ref (zv 0)]) ++ List.replicate (7 - (lg_sl ([.ref (a 9), .int kd, .int nb, .int mk, .ref (zv 0)])).length) Slot.unset).toArray = ls at hl ⊢
  have hl : lv_has ls 7 [(0, .ref (a 9)), (1, .int kd), (2, .int nb), (3, .int mk), (4, .ref (zv 0))] := hl
  have hq12 := hq.2.1
  have hqf := hq.1
  refine lv_aload_n hx hb dX2_add_0 rfl (lv_at hl 0 rfl) ?_
  refine va_get (D := D) (ci := 3) (v := .int (nI Q.1)) (C := RX2) (T := TX2) (N := 6) hx hb hts (fun _ h => List.mem_cons_of_mem _ (List.mem_append_right _ (h))) hown hK hP 0 rfl rfl 5 (by decide) (hts (.fieldLink RX2 28 "OptionWire$PacketQueue" "count" "I") (List.mem_of_getElem? (i := 1) rfl)) (fun _ h9 => h9) rfl dX2_add_1 ?_
  refine lv_bipush (v := 12) hx hb dX2_add_4 (by decide) ?_
  refine lv_icmp_lt (tgt := 10) hx hb dX2_add_6 (by decide) (fun c_1 => ?_) (fun c_1 => ?_)
  · have c_1 := (nI_ltI (a := Q.1) (b := 12) (by omega) (by omega)).mp c_1
    refine lv_aload_n hx hb dX2_add_10 rfl (lv_at hl 0 rfl) ?_
    refine lv_aload_n hx hb dX2_add_11 rfl (lv_at hl 0 rfl) ?_
    refine va_get (D := D) (ci := 3) (v := .int (nI Q.1)) (C := RX2) (T := TX2) (N := 6) hx hb hts (fun _ h => List.mem_cons_of_mem _ (List.mem_append_right _ (h))) hown hK hP 0 rfl rfl 5 (by decide) (hts (.fieldLink RX2 28 "OptionWire$PacketQueue" "count" "I") (List.mem_of_getElem? (i := 1) rfl)) (fun _ h9 => h9) rfl dX2_add_12 ?_
    have hPc := hP.sub (ws' := [(a 9, .inr (3, [.ref (a 10), .ref (a 11), .ref (a 12), .ref (a 13), .int (nI fi), .int (nI Q.1)]))]) [0] rfl
    have hDc := hD.sub (ws' := [(a 9, .inr (3, [.ref (a 10), .ref (a 11), .ref (a 12), .ref (a 13), .int (nI fi), .int (nI Q.1)]))]) [0] (by decide) rfl
    have hFc := va_free (wc := [(a 9, .inr (3, [.ref (a 10), .ref (a 11), .ref (a 12), .ref (a 13), .int (nI fi), .int (nI Q.1)]))]) hD hS hA [0] rfl
    refine va_calli (va_runV (As := [.int (nI Q.1)]) (rest := []) ⟨hx, hb, hml, hown, hts⟩ (c_X2_slotOf l D cA s.heap.size a fi Q Q.1 hq.1 (by omega)) (cwV 1 hts gX2_add_X2_slotOf rfl rfl rfl (by decide +kernel) ⟨Nat.le_of_ble_eq_true rfl, Nat.le_of_ble_eq_true rfl⟩) ⟨zU_blind, va_recv hK hPc (ci := 3) (q0 := 0) rfl rfl, fun U hU hW => ⟨rfl, zU_call hU hPc hW.alike hK hDc⟩⟩ rfl rfl hl.1 rfl (lv_room (Nat.le_of_ble_eq_true rfl)) dX2_add_15 ⟨(Nat.zero_le _), (Nat.zero_le _)⟩) hS (fun q _ h => hFc q h) hFc (fun zr u t H1 locs ht hvm hw hB hz1 hk1 hS => ?_)
    obtain ⟨hP1, hD1⟩ := hB
    rw [ht] at hP1
    obtain ⟨hP, hD⟩ := va_join (wr := [(a 10, .inl (cA 0, 12, .inl (r 0))), (a 11, .inl (cA 0, 12, .inl (r 1))), (a 12, .inl (cA 0, 12, .inl (r 2))), (a 13, .inl (cA 0, 48, .inl (r 3)))]) (w1 := [(a 9, .inr (3, [.ref (a 10), .ref (a 11), .ref (a 12), .ref (a 13), .int (nI fi), .int (nI Q.1)]))]) hP hD [0] [1, 2, 3, 4] rfl rfl (by decide) (by decide) hk1 hFc hP1 hD1
    generalize H1 = H at hP hS ⊢
    have hP := hP.sub (ws' := [(a 9, .inr (3, [.ref (a 10), .ref (a 11), .ref (a 12), .ref (a 13), .int (nI fi), .int (nI Q.1)])), (a 10, .inl (cA 0, 12, .inl (r 0))), (a 11, .inl (cA 0, 12, .inl (r 1))), (a 12, .inl (cA 0, 12, .inl (r 2))), (a 13, .inl (cA 0, 48, .inl (r 3)))]) [4, 0, 1, 2, 3] rfl
    have hD := hD.sub (ws' := [(a 9, .inr (3, [.ref (a 10), .ref (a 11), .ref (a 12), .ref (a 13), .int (nI fi), .int (nI Q.1)])), (a 10, .inl (cA 0, 12, .inl (r 0))), (a 11, .inl (cA 0, 12, .inl (r 1))), (a 12, .inl (cA 0, 12, .inl (r 2))), (a 13, .inl (cA 0, 48, .inl (r 3)))]) [4, 0, 1, 2, 3] (by decide) rfl
    clear hPc hDc hFc hP1 hD1 hk1 hz1
    have hw_2 := hw
    obtain rfl := hw
    refine lv_istore (lv' := [(5, .int (nI ((fi + Q.1) % 12))), (0, .ref (a 9)), (1, .int kd), (2, .int nb), (3, .int mk), (4, .ref (zv 0))]) hx hb dX2_add_18 hl (by decide) rfl (fun ls hl => ?_)
    refine lv_aload_n hx hb dX2_add_20 rfl (lv_at hl 1 rfl) ?_
    refine va_get (D := D) (ci := 3) (v := .ref (a 10)) (C := RX2) (T := TX2) (N := 6) hx hb hts (fun _ h => List.mem_cons_of_mem _ (List.mem_append_right _ (h))) hown hK hP 0 rfl rfl 0 (by decide) (hts (.fieldLink RX2 9 "OptionWire$PacketQueue" "kinds" "[I") (List.mem_of_getElem? (i := 2) rfl)) (fun _ h9 => h9) rfl dX2_add_21 ?_
    refine lv_iload hx hb dX2_add_24 (lv_at hl 0 rfl) ?_
    refine lv_iload_n hx hb dX2_add_26 rfl (lv_at hl 2 rfl) ?_
    refine z_iast (k := ((fi + Q.1) % 12)) hx hb hK hP hD hS 1 0 rfl rfl rfl (by omega) (by decide) dX2_add_27 (fun H locs hP hD hS => ?_)
    have hP : va_P D vwCl [(a 9, .inr (3, [.ref (a 10), .ref (a 11), .ref (a 12), .ref (a 13), .int (nI fi), .int (nI Q.1)])), (a 10, .inl (cA 0, 12, .inl (upd (r 0) ((fi + Q.1) % 12) kd))), (a 11, .inl (cA 0, 12, .inl (r 1))), (a 12, .inl (cA 0, 12, .inl (r 2))), (a 13, .inl (cA 0, 48, .inl (r 3)))] H := hP
    have hD : va_D A [(a 9, .inr (3, [.ref (a 10), .ref (a 11), .ref (a 12), .ref (a 13), .int (nI fi), .int (nI Q.1)])), (a 10, .inl (cA 0, 12, .inl (upd (r 0) ((fi + Q.1) % 12) kd))), (a 11, .inl (cA 0, 12, .inl (r 1))), (a 12, .inl (cA 0, 12, .inl (r 2))), (a 13, .inl (cA 0, 48, .inl (r 3)))] := hD
    refine lv_aload_n hx hb dX2_add_28 rfl (lv_at hl 1 rfl) ?_
    refine va_get (D := D) (ci := 3) (v := .ref (a 11)) (C := RX2) (T := TX2) (N := 6) hx hb hts (fun _ h => List.mem_cons_of_mem _ (List.mem_append_right _ (h))) hown hK hP 0 rfl rfl 1 (by decide) (hts (.fieldLink RX2 15 "OptionWire$PacketQueue" "numbers" "[I") (List.mem_of_getElem? (i := 3) rfl)) (fun _ h9 => h9) rfl dX2_add_29 ?_
    refine lv_iload hx hb dX2_add_32 (lv_at hl 0 rfl) ?_
    refine lv_iload_n hx hb dX2_add_34 rfl (lv_at hl 3 rfl) ?_
    refine z_iast (k := ((fi + Q.1) % 12)) hx hb hK hP hD hS 2 0 rfl rfl rfl (by omega) (by decide) dX2_add_35 (fun H locs hP hD hS => ?_)
    have hP : va_P D vwCl [(a 9, .inr (3, [.ref (a 10), .ref (a 11), .ref (a 12), .ref (a 13), .int (nI fi), .int (nI Q.1)])), (a 10, .inl (cA 0, 12, .inl (upd (r 0) ((fi + Q.1) % 12) kd))), (a 11, .inl (cA 0, 12, .inl (upd (r 1) ((fi + Q.1) % 12) nb))), (a 12, .inl (cA 0, 12, .inl (r 2))), (a 13, .inl (cA 0, 48, .inl (r 3)))] H := hP
    have hD : va_D A [(a 9, .inr (3, [.ref (a 10), .ref (a 11), .ref (a 12), .ref (a 13), .int (nI fi), .int (nI Q.1)])), (a 10, .inl (cA 0, 12, .inl (upd (r 0) ((fi + Q.1) % 12) kd))), (a 11, .inl (cA 0, 12, .inl (upd (r 1) ((fi + Q.1) % 12) nb))), (a 12, .inl (cA 0, 12, .inl (r 2))), (a 13, .inl (cA 0, 48, .inl (r 3)))] := hD
    refine lv_aload_n hx hb dX2_add_36 rfl (lv_at hl 1 rfl) ?_
    refine va_get (D := D) (ci := 3) (v := .ref (a 12)) (C := RX2) (T := TX2) (N := 6) hx hb hts (fun _ h => List.mem_cons_of_mem _ (List.mem_append_right _ (h))) hown hK hP 0 rfl rfl 2 (by decide) (hts (.fieldLink RX2 18 "OptionWire$PacketQueue" "marks" "[I") (List.mem_of_getElem? (i := 4) rfl)) (fun _ h9 => h9) rfl dX2_add_37 ?_
    refine lv_iload hx hb dX2_add_40 (lv_at hl 0 rfl) ?_
    refine lv_iload_n hx hb dX2_add_42 rfl (lv_at hl 4 rfl) ?_
    refine z_iast (k := ((fi + Q.1) % 12)) hx hb hK hP hD hS 3 0 rfl rfl rfl (by omega) (by decide) dX2_add_43 (fun H locs hP hD hS => ?_)
    have hP : va_P D vwCl [(a 9, .inr (3, [.ref (a 10), .ref (a 11), .ref (a 12), .ref (a 13), .int (nI fi), .int (nI Q.1)])), (a 10, .inl (cA 0, 12, .inl (upd (r 0) ((fi + Q.1) % 12) kd))), (a 11, .inl (cA 0, 12, .inl (upd (r 1) ((fi + Q.1) % 12) nb))), (a 12, .inl (cA 0, 12, .inl (upd (r 2) ((fi + Q.1) % 12) mk))), (a 13, .inl (cA 0, 48, .inl (r 3)))] H := hP
    have hD : va_D A [(a 9, .inr (3, [.ref (a 10), .ref (a 11), .ref (a 12), .ref (a 13), .int (nI fi), .int (nI Q.1)])), (a 10, .inl (cA 0, 12, .inl (upd (r 0) ((fi + Q.1) % 12) kd))), (a 11, .inl (cA 0, 12, .inl (upd (r 1) ((fi + Q.1) % 12) nb))), (a 12, .inl (cA 0, 12, .inl (upd (r 2) ((fi + Q.1) % 12) mk))), (a 13, .inl (cA 0, 48, .inl (r 3)))] := hD
    refine lv_iconst (v := 0) hx hb dX2_add_44 (by decide) ?_
    refine lv_istore (lv' := [(6, .int 0), (5, .int (nI ((fi + Q.1) % 12))), (0, .ref (a 9)), (1, .int kd), (2, .int nb), (3, .int mk), (4, .ref (zv 0))]) hx hb dX2_add_45 hl (by decide) rfl (fun ls hl => ?_)
    -- the loop at 47
    have hP : va_P D vwCl [(a 9, .inr (3, [.ref (a 10), .ref (a 11), .ref (a 12), .ref (a 13), .int (nI fi), .int (nI Q.1)])), (a 10, .inl (cA 0, 12, .inl (upd (r 0) ((fi + Q.1) % 12) kd))), (a 11, .inl (cA 0, 12, .inl (upd (r 1) ((fi + Q.1) % 12) nb))), (a 12, .inl (cA 0, 12, .inl (upd (r 2) ((fi + Q.1) % 12) mk))), (a 13, .inl (cA 0, 48, .inl (bput 0 (r 3) ((fi + Q.1) % 12) (fun _ => -1))))] H := z_row hP 4 rfl (fun k _ => congrFun (show r 3 = bput 0 (r 3) ((fi + Q.1) % 12) (fun _ => -1) from bput_0) k)
    have hD : va_D A [(a 9, .inr (3, [.ref (a 10), .ref (a 11), .ref (a 12), .ref (a 13), .int (nI fi), .int (nI Q.1)])), (a 10, .inl (cA 0, 12, .inl (upd (r 0) ((fi + Q.1) % 12) kd))), (a 11, .inl (cA 0, 12, .inl (upd (r 1) ((fi + Q.1) % 12) nb))), (a 12, .inl (cA 0, 12, .inl (upd (r 2) ((fi + Q.1) % 12) mk))), (a 13, .inl (cA 0, 48, .inl (bput 0 (r 3) ((fi + Q.1) % 12) (fun _ => -1))))] := hD.set (p := 4) rfl
    refine z_loop (Inv := fun j H locs ls => va_P D vwCl [(a 9, .inr (3, [.ref (a 10), .ref (a 11), .ref (a 12), .ref (a 13), .int (nI fi), .int (nI Q.1)])), (a 10, .inl (cA 0, 12, .inl (upd (r 0) ((fi + Q.1) % 12) kd))), (a 11, .inl (cA 0, 12, .inl (upd (r 1) ((fi + Q.1) % 12) nb))), (a 12, .inl (cA 0, 12, .inl (upd (r 2) ((fi + Q.1) % 12) mk))), (a 13, .inl (cA 0, 48, .inl (bput j (r 3) ((fi + Q.1) % 12) (fun _ => -1))))] H ∧ va_D A [(a 9, .inr (3, [.ref (a 10), .ref (a 11), .ref (a 12), .ref (a 13), .int (nI fi), .int (nI Q.1)])), (a 10, .inl (cA 0, 12, .inl (upd (r 0) ((fi + Q.1) % 12) kd))), (a 11, .inl (cA 0, 12, .inl (upd (r 1) ((fi + Q.1) % 12) nb))), (a 12, .inl (cA 0, 12, .inl (upd (r 2) ((fi + Q.1) % 12) mk))), (a 13, .inl (cA 0, 48, .inl (bput j (r 3) ((fi + Q.1) % 12) (fun _ => -1))))] ∧ va_S A s.heap H locs ∧ lv_has ls 7 [(6, .int (nI j)), (5, .int (nI ((fi + Q.1) % 12))), (0, .ref (a 9)), (1, .int kd), (2, .int nb), (3, .int mk), (4, .ref (zv 0))]) 4 (fun j hj_j ih_j H locs ls hI => ?_) ⟨hP, hD, hS, lv_sub hl [0, 1, 2, 3, 4, 5, 6] rfl⟩
    obtain ⟨hP, hD, hS, hl⟩ := hI
    refine lv_iload hx hb dX2_add_47 (lv_at hl 0 rfl) ?_
    refine lv_iconst (v := 4) hx hb dX2_add_49 (by decide) ?_
    refine lv_icmp_ge (tgt := 76) hx hb dX2_add_50 (by decide) (fun c_3 => ?_) (fun c_3 => ?_)
    · have c_3 := (nI_leI (a := 4) (b := j) (by omega) (by omega)).mp c_3
      obtain rfl : j = 4 := by omega
      refine lv_aload_n hx hb dX2_add_76 rfl (lv_at hl 2 rfl) ?_
      refine lv_dup hx hb dX2_add_77 rfl ?_
      refine va_get (D := D) (ci := 3) (v := .int (nI Q.1)) (C := RX2) (T := TX2) (N := 6) hx hb hts (fun _ h => List.mem_cons_of_mem _ (List.mem_append_right _ (h))) hown hK hP 0 rfl rfl 5 (by decide) (hts (.fieldLink RX2 28 "OptionWire$PacketQueue" "count" "I") (List.mem_of_getElem? (i := 1) rfl)) (fun _ h9 => h9) rfl dX2_add_78 ?_
      refine lv_iconst (v := 1) hx hb dX2_add_81 (by decide) ?_
      refine lv_iadd hx hb dX2_add_82 ?_
      refine z_top (y := (nI (Q.1 + 1))) (z_add Q.1 1) ?_
      refine va_put (D := D) (ci := 3) (v := .int (nI (Q.1 + 1))) (ty := .int) (C := RX2) (T := TX2) (N := 6) hx hb hts (fun _ h => List.mem_cons_of_mem _ (List.mem_append_right _ (h))) tyX2 tyX2_ok nmX2 hown hK hP hD hS 0 rfl rfl 5 (by decide) (hts (.fieldLink RX2 28 "OptionWire$PacketQueue" "count" "I") (List.mem_of_getElem? (i := 1) rfl)) (fun _ h9 => h9) rfl (by decide +kernel) rfl rfl (Nat.le_of_ble_eq_true rfl) dX2_add_83 (fun H locs hP hD hS => ?_)
      have hP : va_P D vwCl [(a 9, .inr (3, [.ref (a 10), .ref (a 11), .ref (a 12), .ref (a 13), .int (nI fi), .int (nI (Q.1 + 1))])), (a 10, .inl (cA 0, 12, .inl (upd (r 0) ((fi + Q.1) % 12) kd))), (a 11, .inl (cA 0, 12, .inl (upd (r 1) ((fi + Q.1) % 12) nb))), (a 12, .inl (cA 0, 12, .inl (upd (r 2) ((fi + Q.1) % 12) mk))), (a 13, .inl (cA 0, 48, .inl (bput 4 (r 3) ((fi + Q.1) % 12) (fun _ => -1))))] H := hP
      have hD : va_D A [(a 9, .inr (3, [.ref (a 10), .ref (a 11), .ref (a 12), .ref (a 13), .int (nI fi), .int (nI (Q.1 + 1))])), (a 10, .inl (cA 0, 12, .inl (upd (r 0) ((fi + Q.1) % 12) kd))), (a 11, .inl (cA 0, 12, .inl (upd (r 1) ((fi + Q.1) % 12) nb))), (a 12, .inl (cA 0, 12, .inl (upd (r 2) ((fi + Q.1) % 12) mk))), (a 13, .inl (cA 0, 48, .inl (bput 4 (r 3) ((fi + Q.1) % 12) (fun _ => -1))))] := hD
      refine W.widen (k := 0) (n := 0) (by omega) (by omega) ?_
      exact W.vret hx hb hr (fun t ht hW => ⟨⟨((va_up (va_up (va_up (va_up r 0 (upd (r 0) ((fi + Q.1) % 12) kd)) 1 (upd (r 1) ((fi + Q.1) % 12) nb)) 2 (upd (r 2) ((fi + Q.1) % 12) mk)) 3 (bput 4 (r 3) ((fi + Q.1) % 12) (fun _ => -1))), Q.1 + 1), rfl, ⟨by rw [push_y (by omega)], rg_push hq (by omega) rfl rfl rfl rfl rfl⟩, ⟨by rw [ht]; exact hP, by rw [hAe]; exact hD⟩⟩, hS.F ht⟩) hS.2.2 dX2_add_86
    · have c_3 := mt (nI_leI (a := 4) (b := j) (by omega) (by omega)).mpr c_3
      refine lv_aload_n hx hb dX2_add_53 rfl (lv_at hl 2 rfl) ?_
      refine va_get (D := D) (ci := 3) (v := .ref (a 13)) (C := RX2) (T := TX2) (N := 6) hx hb hts (fun _ h => List.mem_cons_of_mem _ (List.mem_append_right _ (h))) hown hK hP 0 rfl rfl 3 (by decide) (hts (.fieldLink RX2 21 "OptionWire$PacketQueue" "values" "[I") (List.mem_of_getElem? (i := 5) rfl)) (fun _ h9 => h9) rfl dX2_add_54 ?_
      refine lv_iload hx hb dX2_add_57 (lv_at hl 1 rfl) ?_
      refine lv_iconst (v := 4) hx hb dX2_add_59 (by decide) ?_
      refine lv_imul hx hb dX2_add_60 ?_
      refine z_top (y := (nI (((fi + Q.1) % 12) * 4))) (z_mul ((fi + Q.1) % 12) 4) ?_
      refine lv_iload hx hb dX2_add_61 (lv_at hl 0 rfl) ?_
      refine lv_iadd hx hb dX2_add_63 ?_
      refine z_top (y := (nI (((fi + Q.1) % 12) * 4 + j))) (z_add (((fi + Q.1) % 12) * 4) j) ?_
      refine lv_aload hx hb dX2_add_64 (lv_at hl 6 rfl) ?_
      refine lv_iload hx hb dX2_add_66 (lv_at hl 0 rfl) ?_
      refine z_nv (k := j) hx hb hE0 hS rfl (by omega) dX2_add_68 ?_
      refine z_iast (k := (((fi + Q.1) % 12) * 4 + j)) hx hb hK hP hD hS 4 0 rfl rfl rfl (by omega) (by decide) dX2_add_69 (fun H locs hP hD hS => ?_)
      have hP : va_P D vwCl [(a 9, .inr (3, [.ref (a 10), .ref (a 11), .ref (a 12), .ref (a 13), .int (nI fi), .int (nI Q.1)])), (a 10, .inl (cA 0, 12, .inl (upd (r 0) ((fi + Q.1) % 12) kd))), (a 11, .inl (cA 0, 12, .inl (upd (r 1) ((fi + Q.1) % 12) nb))), (a 12, .inl (cA 0, 12, .inl (upd (r 2) ((fi + Q.1) % 12) mk))), (a 13, .inl (cA 0, 48, .inl (upd (bput j (r 3) ((fi + Q.1) % 12) (fun _ => -1)) (((fi + Q.1) % 12) * 4 + j) (-1))))] H := hP
      have hD : va_D A [(a 9, .inr (3, [.ref (a 10), .ref (a 11), .ref (a 12), .ref (a 13), .int (nI fi), .int (nI Q.1)])), (a 10, .inl (cA 0, 12, .inl (upd (r 0) ((fi + Q.1) % 12) kd))), (a 11, .inl (cA 0, 12, .inl (upd (r 1) ((fi + Q.1) % 12) nb))), (a 12, .inl (cA 0, 12, .inl (upd (r 2) ((fi + Q.1) % 12) mk))), (a 13, .inl (cA 0, 48, .inl (upd (bput j (r 3) ((fi + Q.1) % 12) (fun _ => -1)) (((fi + Q.1) % 12) * 4 + j) (-1))))] := hD
      refine lv_iinc (v := nI (j + 1)) (lv' := [(6, .int (nI (j + 1))), (5, .int (nI ((fi + Q.1) % 12))), (0, .ref (a 9)), (1, .int kd), (2, .int nb), (3, .int mk), (4, .ref (zv 0))]) hx hb dX2_add_70 hl (k := 0) rfl (z_inc j 1) (by decide) rfl (fun ls hl => ?_)
      refine lv_goto (tgt := 47) hx hb dX2_add_73 (by decide) ?_
      have hP : va_P D vwCl [(a 9, .inr (3, [.ref (a 10), .ref (a 11), .ref (a 12), .ref (a 13), .int (nI fi), .int (nI Q.1)])), (a 10, .inl (cA 0, 12, .inl (upd (r 0) ((fi + Q.1) % 12) kd))), (a 11, .inl (cA 0, 12, .inl (upd (r 1) ((fi + Q.1) % 12) nb))), (a 12, .inl (cA 0, 12, .inl (upd (r 2) ((fi + Q.1) % 12) mk))), (a 13, .inl (cA 0, 48, .inl (bput (j + 1) (r 3) ((fi + Q.1) % 12) (fun _ => -1))))] H := z_row hP 4 rfl (fun k _ => congrFun (show upd (bput j (r 3) ((fi + Q.1) % 12) (fun _ => -1)) (((fi + Q.1) % 12) * 4 + j) (-1) = bput (j + 1) (r 3) ((fi + Q.1) % 12) (fun _ => -1) from bput_s rfl) k)
      have hD : va_D A [(a 9, .inr (3, [.ref (a 10), .ref (a 11), .ref (a 12), .ref (a 13), .int (nI fi), .int (nI Q.1)])), (a 10, .inl (cA 0, 12, .inl (upd (r 0) ((fi + Q.1) % 12) kd))), (a 11, .inl (cA 0, 12, .inl (upd (r 1) ((fi + Q.1) % 12) nb))), (a 12, .inl (cA 0, 12, .inl (upd (r 2) ((fi + Q.1) % 12) mk))), (a 13, .inl (cA 0, 48, .inl (bput (j + 1) (r 3) ((fi + Q.1) % 12) (fun _ => -1))))] := hD.set (p := 4) rfl
      exact ih_j _ _ _ (by omega) ⟨hP, hD, hS, lv_sub hl [0, 1, 2, 3, 4, 5, 6] rfl⟩
  · have c_1 := mt (nI_ltI (a := Q.1) (b := 12) (by omega) (by omega)).mpr c_1
    refine W.widen (k := 0) (n := 0) (by omega) (by omega) ?_
    exact W.vret hx hb hr (fun t ht hW => ⟨⟨(r, Q.1), rfl, ⟨by rw [push_n (by omega)], by rw [push_n (by omega)]; exact hq⟩, ⟨by rw [ht]; exact hP, by rw [hAe]; exact hD⟩⟩, hS.F ht⟩) hS.2.2 dX2_add_9
set_option maxHeartbeats 4000000 in
set_option maxRecDepth 100000 in
/-- PacketQueue.dropFirst() -/
theorem c_X2_dropFirst (l : Launch) (D : va_G) (cA : Nat → ClassId) (sz : Nat) (a : Nat → Nat) (fi : Nat) (Q : Qt) (r : Nat → Nat → Int32) (hq : rg r fi Q) (h0 : 0 < Q.1) : Met l yX2_dropFirst wsX2_dropFirst ({ frames := 1, cells := 0, slots := 0, locals := 21 }) (va_Pc [.ref (a 9)] (zU D cA sz [(a 9, .inr (3, [.ref (a 10), .ref (a 11), .ref (a 12), .ref (a 13), .int (nI fi), .int (nI Q.1)])), (a 10, .inl (cA 0, 12, .inl (r 0))), (a 11, .inl (cA 0, 12, .inl (r 1))), (a 12, .inl (cA 0, 12, .inl (r 2))), (a 13, .inl (cA 0, 48, .inl (r 3)))])) (va_Qv (fun (u : Nat) => rg r u (pop Q)) (fun (u : Nat) t => zB D [(a 9, .inr (3, [.ref (a 10), .ref (a 11), .ref (a 12), .ref (a 13), .int (nI fi), .int (nI Q.1)])), (a 10, .inl (cA 0, 12, .inl (r 0))), (a 11, .inl (cA 0, 12, .inl (r 1))), (a 12, .inl (cA 0, 12, .inl (r 2))), (a 13, .inl (cA 0, 48, .inl (r 3)))] sz [(a 9, .inr (3, [.ref (a 10), .ref (a 11), .ref (a 12), .ref (a 13), .int (nI u), .int (nI ((pop Q).1))])), (a 10, .inl (cA 0, 12, .inl (r 0))), (a 11, .inl (cA 0, 12, .inl (r 1))), (a 12, .inl (cA 0, 12, .inl (r 2))), (a 13, .inl (cA 0, 48, .inl (r 3)))] t) (va_A [(a 9, .inr (3, [.ref (a 10), .ref (a 11), .ref (a 12), .ref (a 13), .int (nI fi), .int (nI Q.1)])), (a 10, .inl (cA 0, 12, .inl (r 0))), (a 11, .inl (cA 0, 12, .inl (r 1))), (a 12, .inl (cA 0, 12, .inl (r 2))), (a 13, .inl (cA 0, 48, .inl (r 3)))] sz)) 0 0 (va_A [(a 9, .inr (3, [.ref (a 10), .ref (a 11), .ref (a 12), .ref (a 13), .int (nI fi), .int (nI Q.1)])), (a 10, .inl (cA 0, 12, .inl (r 0))), (a 11, .inl (cA 0, 12, .inl (r 1))), (a 12, .inl (cA 0, 12, .inl (r 2))), (a 13, .inl (cA 0, 48, .inl (r 3)))] sz) := by
  refine Met.ofW (cc := cX2_dropFirst) (maxL := 1) (ret := none) (by decide) rfl ?_
  intro p e s m args below meth c s₁ B hml hv
  obtain ⟨rfl, hsz, hP, hK, hD0⟩ := hv
  have hx := B.exec
  have hb := B.bytes
  have hr := B.returns
  have hts := atoms_spec (ws := wsX2_dropFirst) B.pre
  have hown : s.vm.findClass RX2 = some m.cls := findClass_of_methodNamed B.named
  have hlocks := B.notSynchronized
  subst hsz
  have hD := hD0.self (sz := s.heap.size)
  generalize hAe : va_A [(a 9, .inr (3, [.ref (a 10), .ref (a 11), .ref (a 12), .ref (a 13), .int (nI fi), .int (nI Q.1)])), (a 10, .inl (cA 0, 12, .inl (r 0))), (a 11, .inl (cA 0, 12, .inl (r 1))), (a 12, .inl (cA 0, 12, .inl (r 2))), (a 13, .inl (cA 0, 48, .inl (r 3)))] s.heap.size = A at hD ⊢
  have hA : ∀ q : Nat, s.heap.size ≤ q → A q := fun q h => by rw [← hAe]; exact Or.inr h
  have hS : va_S A s.heap s.heap [] := va_S.rf
  have hl := lv_entry ([.ref (a 9)]) (n := 1) (Nat.le_of_ble_eq_true rfl)
  rw [lg_entry_eq]
  generalize (lg_sl ([.ref (a 9)]) ++ List.replicate (1 - (lg_sl ([.ref (a 9)])).length) Slot.unset).toArray = ls at hl ⊢
  have hl : lv_has ls 1 [(0, .ref (a 9))] := hl
  have hq12 := hq.2.1
  have hqf := hq.1
  refine lv_aload_n hx hb dX2_dropFirst_0 rfl (lv_at hl 0 rfl) ?_
  refine lv_aload_n hx hb dX2_dropFirst_1 rfl (lv_at hl 0 rfl) ?_
  refine lv_iconst (v := 1) hx hb dX2_dropFirst_2 (by decide) ?_
  have hPc := hP.sub (ws' := [(a 9, .inr (3, [.ref (a 10), .ref (a 11), .ref (a 12), .ref (a 13), .int (nI fi), .int (nI Q.1)]))]) [0] rfl
  have hDc := hD.sub (ws' := [(a 9, .inr (3, [.ref (a 10), .ref (a 11), .ref (a 12), .ref (a 13), .int (nI fi), .int (nI Q.1)]))]) [0] (by decide) rfl
  have hFc := va_free (wc := [(a 9, .inr (3, [.ref (a 10), .ref (a 11), .ref (a 12), .ref (a 13), .int (nI fi), .int (nI Q.1)]))]) hD hS hA [0] rfl
  refine va_calli (va_runV (As := [.int 1]) (rest := [.ref (a 9)]) ⟨hx, hb, hml, hown, hts⟩ (c_X2_slotOf l D cA s.heap.size a fi Q 1 hq.1 (by decide)) (cwV 1 hts gX2_dropFirst_X2_slotOf rfl rfl rfl (by decide +kernel) ⟨Nat.le_of_ble_eq_true rfl, Nat.le_of_ble_eq_true rfl⟩) ⟨zU_blind, va_recv hK hPc (ci := 3) (q0 := 0) rfl rfl, fun U hU hW => ⟨rfl, zU_call hU hPc hW.alike hK hDc⟩⟩ rfl rfl hl.1 rfl (lv_room (Nat.le_of_ble_eq_true rfl)) dX2_dropFirst_3 ⟨(Nat.zero_le _), (Nat.zero_le _)⟩) hS (fun q _ h => hFc q h) hFc (fun zr u t H1 locs ht hvm hw hB hz1 hk1 hS => ?_)
  obtain ⟨hP1, hD1⟩ := hB
  rw [ht] at hP1
  obtain ⟨hP, hD⟩ := va_join (wr := [(a 10, .inl (cA 0, 12, .inl (r 0))), (a 11, .inl (cA 0, 12, .inl (r 1))), (a 12, .inl (cA 0, 12, .inl (r 2))), (a 13, .inl (cA 0, 48, .inl (r 3)))]) (w1 := [(a 9, .inr (3, [.ref (a 10), .ref (a 11), .ref (a 12), .ref (a 13), .int (nI fi), .int (nI Q.1)]))]) hP hD [0] [1, 2, 3, 4] rfl rfl (by decide) (by decide) hk1 hFc hP1 hD1
  generalize H1 = H at hP hS ⊢
  have hP := hP.sub (ws' := [(a 9, .inr (3, [.ref (a 10), .ref (a 11), .ref (a 12), .ref (a 13), .int (nI fi), .int (nI Q.1)])), (a 10, .inl (cA 0, 12, .inl (r 0))), (a 11, .inl (cA 0, 12, .inl (r 1))), (a 12, .inl (cA 0, 12, .inl (r 2))), (a 13, .inl (cA 0, 48, .inl (r 3)))]) [4, 0, 1, 2, 3] rfl
  have hD := hD.sub (ws' := [(a 9, .inr (3, [.ref (a 10), .ref (a 11), .ref (a 12), .ref (a 13), .int (nI fi), .int (nI Q.1)])), (a 10, .inl (cA 0, 12, .inl (r 0))), (a 11, .inl (cA 0, 12, .inl (r 1))), (a 12, .inl (cA 0, 12, .inl (r 2))), (a 13, .inl (cA 0, 48, .inl (r 3)))]) [4, 0, 1, 2, 3] (by decide) rfl
  clear hPc hDc hFc hP1 hD1 hk1 hz1
  have hw_1 := hw
  obtain rfl := hw
  refine va_put (D := D) (ci := 3) (v := .int (nI ((fi + 1) % 12))) (ty := .int) (C := RX2) (T := TX2) (N := 6) hx hb hts (fun _ h => List.mem_cons_of_mem _ (List.mem_append_right _ (h))) tyX2 tyX2_ok nmX2 hown hK hP hD hS 0 rfl rfl 4 (by decide) (hts (.fieldLink RX2 24 "OptionWire$PacketQueue" "first" "I") (List.mem_of_getElem? (i := 1) rfl)) (fun _ h9 => h9) rfl (by decide +kernel) rfl rfl (Nat.le_of_ble_eq_true rfl) dX2_dropFirst_6 (fun H locs hP hD hS => ?_)
  have hP : va_P D vwCl [(a 9, .inr (3, [.ref (a 10), .ref (a 11), .ref (a 12), .ref (a 13), .int (nI ((fi + 1) % 12)), .int (nI Q.1)])), (a 10, .inl (cA 0, 12, .inl (r 0))), (a 11, .inl (cA 0, 12, .inl (r 1))), (a 12, .inl (cA 0, 12, .inl (r 2))), (a 13, .inl (cA 0, 48, .inl (r 3)))] H := hP
  have hD : va_D A [(a 9, .inr (3, [.ref (a 10), .ref (a 11), .ref (a 12), .ref (a 13), .int (nI ((fi + 1) % 12)), .int (nI Q.1)])), (a 10, .inl (cA 0, 12, .inl (r 0))), (a 11, .inl (cA 0, 12, .inl (r 1))), (a 12, .inl (cA 0, 12, .inl (r 2))), (a 13, .inl (cA 0, 48, .inl (r 3)))] := hD
  refine lv_aload_n hx hb dX2_dropFirst_9 rfl (lv_at hl 0 rfl) ?_
  refine lv_dup hx hb dX2_dropFirst_10 rfl ?_
  refine va_get (D := D) (ci := 3) (v := .int (nI Q.1)) (C := RX2) (T := TX2) (N := 6) hx hb hts (fun _ h => List.mem_cons_of_mem _ (List.mem_append_right _ (h))) hown hK hP 0 rfl rfl 5 (by decide) (hts (.fieldLink RX2 28 "OptionWire$PacketQueue" "count" "I") (List.mem_of_getElem? (i := 2) rfl)) (fun _ h9 => h9) rfl dX2_dropFirst_11 ?_
  refine lv_iconst (v := 1) hx hb dX2_dropFirst_14 (by decide) ?_
  refine lv_isub hx hb dX2_dropFirst_15 ?_
  refine z_top (y := (nI (Q.1 - 1))) (nI_sub1 h0) ?_
  refine va_put (D := D) (ci := 3) (v := .int (nI (Q.1 - 1))) (ty := .int) (C := RX2) (T := TX2) (N := 6) hx hb hts (fun _ h => List.mem_cons_of_mem _ (List.mem_append_right _ (h))) tyX2 tyX2_ok nmX2 hown hK hP hD hS 0 rfl rfl 5 (by decide) (hts (.fieldLink RX2 28 "OptionWire$PacketQueue" "count" "I") (List.mem_of_getElem? (i := 2) rfl)) (fun _ h9 => h9) rfl (by decide +kernel) rfl rfl (Nat.le_of_ble_eq_true rfl) dX2_dropFirst_16 (fun H locs hP hD hS => ?_)
  have hP : va_P D vwCl [(a 9, .inr (3, [.ref (a 10), .ref (a 11), .ref (a 12), .ref (a 13), .int (nI ((fi + 1) % 12)), .int (nI (Q.1 - 1))])), (a 10, .inl (cA 0, 12, .inl (r 0))), (a 11, .inl (cA 0, 12, .inl (r 1))), (a 12, .inl (cA 0, 12, .inl (r 2))), (a 13, .inl (cA 0, 48, .inl (r 3)))] H := hP
  have hD : va_D A [(a 9, .inr (3, [.ref (a 10), .ref (a 11), .ref (a 12), .ref (a 13), .int (nI ((fi + 1) % 12)), .int (nI (Q.1 - 1))])), (a 10, .inl (cA 0, 12, .inl (r 0))), (a 11, .inl (cA 0, 12, .inl (r 1))), (a 12, .inl (cA 0, 12, .inl (r 2))), (a 13, .inl (cA 0, 48, .inl (r 3)))] := hD
  refine W.widen (k := 0) (n := 0) (by omega) (by omega) ?_
  exact W.vret hx hb hr (fun t ht hW => ⟨⟨((fi + 1) % 12), rfl, rg_pop hq h0 rfl, ⟨by rw [ht]; exact hP, by rw [hAe]; exact hD⟩⟩, hS.F ht⟩) hS.2.2 dX2_dropFirst_19
set_option maxHeartbeats 4000000 in
set_option maxRecDepth 100000 in
/-- PacketQueue.takeFirst(packet) -/
theorem c_X2_takeFirst (l : Launch) (D : va_G) (cA : Nat → ClassId) (sz : Nat) (a : Nat → Nat) (fi : Nat) (Q : Qt) (r : Nat → Nat → Int32) (b : Nat → Nat) (kd nb mk : Int32) (w : Nat → Int32) (hq : rg r fi Q) (h0 : 0 < Q.1) : Met l yX2_takeFirst wsX2_takeFirst ({ frames := 2, cells := 0, slots := 0, locals := 41 }) (va_Pc [.ref (a 9), .ref (b 0)] (zU D cA sz [(a 9, .inr (3, [.ref (a 10), .ref (a 11), .ref (a 12), .ref (a 13), .int (nI fi), .int (nI Q.1)])), (a 10, .inl (cA 0, 12, .inl (r 0))), (a 11, .inl (cA 0, 12, .inl (r 1))), (a 12, .inl (cA 0, 12, .inl (r 2))), (a 13, .inl (cA 0, 48, .inl (r 3))), (b 0, .inr (2, [.ref (b 1), .int kd, .int nb, .int mk])), (b 1, .inl (cA 0, 4, .inl w))])) (va_Qv (fun (u : Nat) => rg r u (pop Q)) (fun (u : Nat) t => zB D [(a 9, .inr (3, [.ref (a 10), .ref (a 11), .ref (a 12), .ref (a 13), .int (nI fi), .int (nI Q.1)])), (a 10, .inl (cA 0, 12, .inl (r 0))), (a 11, .inl (cA 0, 12, .inl (r 1))), (a 12, .inl (cA 0, 12, .inl (r 2))), (a 13, .inl (cA 0, 48, .inl (r 3))), (b 0, .inr (2, [.ref (b 1), .int kd, .int nb, .int mk])), (b 1, .inl (cA 0, 4, .inl w))] sz [(a 9, .inr (3, [.ref (a 10), .ref (a 11), .ref (a 12), .ref (a 13), .int (nI u), .int (nI ((pop Q).1))])), (a 10, .inl (cA 0, 12, .inl (r 0))), (a 11, .inl (cA 0, 12, .inl (r 1))), (a 12, .inl (cA 0, 12, .inl (r 2))), (a 13, .inl (cA 0, 48, .inl (r 3))), (b 0, .inr (2, [.ref (b 1), .int (Q.2 0 0), .int (Q.2 0 1), .int (Q.2 0 2)])), (b 1, .inl (cA 0, 4, .inl (fun k => Q.2 0 (3 + k))))] t) (va_A [(a 9, .inr (3, [.ref (a 10), .ref (a 11), .ref (a 12), .ref (a 13), .int (nI fi), .int (nI Q.1)])), (a 10, .inl (cA 0, 12, .inl (r 0))), (a 11, .inl (cA 0, 12, .inl (r 1))), (a 12, .inl (cA 0, 12, .inl (r 2))), (a 13, .inl (cA 0, 48, .inl (r 3))), (b 0, .inr (2, [.ref (b 1), .int kd, .int nb, .int mk])), (b 1, .inl (cA 0, 4, .inl w))] sz)) 0 0 (va_A [(a 9, .inr (3, [.ref (a 10), .ref (a 11), .ref (a 12), .ref (a 13), .int (nI fi), .int (nI Q.1)])), (a 10, .inl (cA 0, 12, .inl (r 0))), (a 11, .inl (cA 0, 12, .inl (r 1))), (a 12, .inl (cA 0, 12, .inl (r 2))), (a 13, .inl (cA 0, 48, .inl (r 3))), (b 0, .inr (2, [.ref (b 1), .int kd, .int nb, .int mk])), (b 1, .inl (cA 0, 4, .inl w))] sz) := by
  refine Met.ofW (cc := cX2_takeFirst) (maxL := 3) (ret := none) (by decide) rfl ?_
  intro p e s m args below meth c s₁ B hml hv
  obtain ⟨rfl, hsz, hP, hK, hD0⟩ := hv
  have hx := B.exec
  have hb := B.bytes
  have hr := B.returns
  have hts := atoms_spec (ws := wsX2_takeFirst) B.pre
  have hown : s.vm.findClass RX2 = some m.cls := findClass_of_methodNamed B.named
  have hlocks := B.notSynchronized
  subst hsz
  have hD := hD0.self (sz := s.heap.size)
  generalize hAe : va_A [(a 9, .inr (3, [.ref (a 10), .ref (a 11), .ref (a 12), .ref (a 13), .int (nI fi), .int (nI Q.1)])), (a 10, .inl (cA 0, 12, .inl (r 0))), (a 11, .inl (cA 0, 12, .inl (r 1))), (a 12, .inl (cA 0, 12, .inl (r 2))), (a 13, .inl (cA 0, 48, .inl (r 3))), (b 0, .inr (2, [.ref (b 1), .int kd, .int nb, .int mk])), (b 1, .inl (cA 0, 4, .inl w))] s.heap.size = A at hD ⊢
  have hA : ∀ q : Nat, s.heap.size ≤ q → A q := fun q h => by rw [← hAe]; exact Or.inr h
  have hS : va_S A s.heap s.heap [] := va_S.rf
  have hl := lv_entry ([.ref (a 9), .ref (b 0)]) (n := 3) (Nat.le_of_ble_eq_true rfl)
  rw [lg_entry_eq]
  generalize (lg_sl ([.ref (a 9), .ref (b 0)]) ++ List.replicate (3 - (lg_sl ([.ref (a 9), .ref (b 0)])).length) Slot.unset).toArray = ls at hl ⊢
  have hl : lv_has ls 3 [(0, .ref (a 9)), (1, .ref (b 0))] := hl
  have hq12 := hq.2.1
  have hqf := hq.1
  obtain ⟨hq0, hq1, hq2, hq3⟩ := rg_hd hq h0
  refine lv_aload_n hx hb dX2_takeFirst_0 rfl (lv_at hl 1 rfl) ?_
  refine lv_aload_n hx hb dX2_takeFirst_1 rfl (lv_at hl 0 rfl) ?_
  refine va_get (D := D) (ci := 3) (v := .ref (a 10)) (C := RX2) (T := TX2) (N := 6) hx hb hts (fun _ h => List.mem_cons_of_mem _ (List.mem_append_left _ (List.mem_append_right _ (h)))) hown hK hP 0 rfl rfl 0 (by decide) (hts (.fieldLink RX2 9 "OptionWire$PacketQueue" "kinds" "[I") (List.mem_of_getElem? (i := 1) rfl)) (fun _ h9 => h9) rfl dX2_takeFirst_2 ?_
  refine lv_aload_n hx hb dX2_takeFirst_5 rfl (lv_at hl 0 rfl) ?_
  refine va_get (D := D) (ci := 3) (v := .int (nI fi)) (C := RX2) (T := TX2) (N := 6) hx hb hts (fun _ h => List.mem_cons_of_mem _ (List.mem_append_left _ (List.mem_append_right _ (h)))) hown hK hP 0 rfl rfl 4 (by decide) (hts (.fieldLink RX2 24 "OptionWire$PacketQueue" "first" "I") (List.mem_of_getElem? (i := 2) rfl)) (fun _ h9 => h9) rfl dX2_takeFirst_6 ?_
  refine z_iald (k := fi) (v := (Q.2 0 0)) hx hb hK hP 1 0 rfl rfl rfl (by omega) (by decide) hq0 dX2_takeFirst_9 ?_
  refine va_put (D := D) (ci := 2) (v := .int (Q.2 0 0)) (ty := .int) (C := RX1) (T := TX1) (N := 4) hx hb hts (fun _ h => List.mem_cons_of_mem _ (List.mem_append_right _ (h))) tyX1 tyX1_ok nmX1 hown hK hP hD hS 5 rfl rfl 1 (by decide) (hts (.fieldLink RX2 35 "OptionWire$Packet" "kind" "I") (List.mem_of_getElem? (i := 3) rfl)) (fun _ h9 => h9) rfl (by decide +kernel) rfl rfl (Nat.le_of_ble_eq_true rfl) dX2_takeFirst_10 (fun H locs hP hD hS => ?_)
  have hP : va_P D vwCl [(a 9, .inr (3, [.ref (a 10), .ref (a 11), .ref (a 12), .ref (a 13), .int (nI fi), .int (nI Q.1)])), (a 10, .inl (cA 0, 12, .inl (r 0))), (a 11, .inl (cA 0, 12, .inl (r 1))), (a 12, .inl (cA 0, 12, .inl (r 2))), (a 13, .inl (cA 0, 48, .inl (r 3))), (b 0, .inr (2, [.ref (b 1), .int (Q.2 0 0), .int nb, .int mk])), (b 1, .inl (cA 0, 4, .inl w))] H := hP
  have hD : va_D A [(a 9, .inr (3, [.ref (a 10), .ref (a 11), .ref (a 12), .ref (a 13), .int (nI fi), .int (nI Q.1)])), (a 10, .inl (cA 0, 12, .inl (r 0))), (a 11, .inl (cA 0, 12, .inl (r 1))), (a 12, .inl (cA 0, 12, .inl (r 2))), (a 13, .inl (cA 0, 48, .inl (r 3))), (b 0, .inr (2, [.ref (b 1), .int (Q.2 0 0), .int nb, .int mk])), (b 1, .inl (cA 0, 4, .inl w))] := hD
  refine lv_aload_n hx hb dX2_takeFirst_13 rfl (lv_at hl 1 rfl) ?_
  refine lv_aload_n hx hb dX2_takeFirst_14 rfl (lv_at hl 0 rfl) ?_
  refine va_get (D := D) (ci := 3) (v := .ref (a 11)) (C := RX2) (T := TX2) (N := 6) hx hb hts (fun _ h => List.mem_cons_of_mem _ (List.mem_append_left _ (List.mem_append_right _ (h)))) hown hK hP 0 rfl rfl 1 (by decide) (hts (.fieldLink RX2 15 "OptionWire$PacketQueue" "numbers" "[I") (List.mem_of_getElem? (i := 4) rfl)) (fun _ h9 => h9) rfl dX2_takeFirst_15 ?_
  refine lv_aload_n hx hb dX2_takeFirst_18 rfl (lv_at hl 0 rfl) ?_
  refine va_get (D := D) (ci := 3) (v := .int (nI fi)) (C := RX2) (T := TX2) (N := 6) hx hb hts (fun _ h => List.mem_cons_of_mem _ (List.mem_append_left _ (List.mem_append_right _ (h)))) hown hK hP 0 rfl rfl 4 (by decide) (hts (.fieldLink RX2 24 "OptionWire$PacketQueue" "first" "I") (List.mem_of_getElem? (i := 2) rfl)) (fun _ h9 => h9) rfl dX2_takeFirst_19 ?_
  refine z_iald (k := fi) (v := (Q.2 0 1)) hx hb hK hP 2 0 rfl rfl rfl (by omega) (by decide) hq1 dX2_takeFirst_22 ?_
  refine va_put (D := D) (ci := 2) (v := .int (Q.2 0 1)) (ty := .int) (C := RX1) (T := TX1) (N := 4) hx hb hts (fun _ h => List.mem_cons_of_mem _ (List.mem_append_right _ (h))) tyX1 tyX1_ok nmX1 hown hK hP hD hS 5 rfl rfl 2 (by decide) (hts (.fieldLink RX2 40 "OptionWire$Packet" "number" "I") (List.mem_of_getElem? (i := 5) rfl)) (fun _ h9 => h9) rfl (by decide +kernel) rfl rfl (Nat.le_of_ble_eq_true rfl) dX2_takeFirst_23 (fun H locs hP hD hS => ?_)
  have hP : va_P D vwCl [(a 9, .inr (3, [.ref (a 10), .ref (a 11), .ref (a 12), .ref (a 13), .int (nI fi), .int (nI Q.1)])), (a 10, .inl (cA 0, 12, .inl (r 0))), (a 11, .inl (cA 0, 12, .inl (r 1))), (a 12, .inl (cA 0, 12, .inl (r 2))), (a 13, .inl (cA 0, 48, .inl (r 3))), (b 0, .inr (2, [.ref (b 1), .int (Q.2 0 0), .int (Q.2 0 1), .int mk])), (b 1, .inl (cA 0, 4, .inl w))] H := hP
  have hD : va_D A [(a 9, .inr (3, [.ref (a 10), .ref (a 11), .ref (a 12), .ref (a 13), .int (nI fi), .int (nI Q.1)])), (a 10, .inl (cA 0, 12, .inl (r 0))), (a 11, .inl (cA 0, 12, .inl (r 1))), (a 12, .inl (cA 0, 12, .inl (r 2))), (a 13, .inl (cA 0, 48, .inl (r 3))), (b 0, .inr (2, [.ref (b 1), .int (Q.2 0 0), .int (Q.2 0 1), .int mk])), (b 1, .inl (cA 0, 4, .inl w))] := hD
  refine lv_aload_n hx hb dX2_takeFirst_26 rfl (lv_at hl 1 rfl) ?_
  refine lv_aload_n hx hb dX2_takeFirst_27 rfl (lv_at hl 0 rfl) ?_
  refine va_get (D := D) (ci := 3) (v := .ref (a 12)) (C := RX2) (T := TX2) (N := 6) hx hb hts (fun _ h => List.mem_cons_of_mem _ (List.mem_append_left _ (List.mem_append_right _ (h)))) hown hK hP 0 rfl rfl 2 (by decide) (hts (.fieldLink RX2 18 "OptionWire$PacketQueue" "marks" "[I") (List.mem_of_getElem? (i := 6) rfl)) (fun _ h9 => h9) rfl dX2_takeFirst_28 ?_
  refine lv_aload_n hx hb dX2_takeFirst_31 rfl (lv_at hl 0 rfl) ?_
  refine va_get (D := D) (ci := 3) (v := .int (nI fi)) (C := RX2) (T := TX2) (N := 6) hx hb hts (fun _ h => List.mem_cons_of_mem _ (List.mem_append_left _ (List.mem_append_right _ (h)))) hown hK hP 0 rfl rfl 4 (by decide) (hts (.fieldLink RX2 24 "OptionWire$PacketQueue" "first" "I") (List.mem_of_getElem? (i := 2) rfl)) (fun _ h9 => h9) rfl dX2_takeFirst_32 ?_
  refine z_iald (k := fi) (v := (Q.2 0 2)) hx hb hK hP 3 0 rfl rfl rfl (by omega) (by decide) hq2 dX2_takeFirst_35 ?_
  refine va_put (D := D) (ci := 2) (v := .int (Q.2 0 2)) (ty := .int) (C := RX1) (T := TX1) (N := 4) hx hb hts (fun _ h => List.mem_cons_of_mem _ (List.mem_append_right _ (h))) tyX1 tyX1_ok nmX1 hown hK hP hD hS 5 rfl rfl 3 (by decide) (hts (.fieldLink RX2 43 "OptionWire$Packet" "mark" "I") (List.mem_of_getElem? (i := 7) rfl)) (fun _ h9 => h9) rfl (by decide +kernel) rfl rfl (Nat.le_of_ble_eq_true rfl) dX2_takeFirst_36 (fun H locs hP hD hS => ?_)
  have hP : va_P D vwCl [(a 9, .inr (3, [.ref (a 10), .ref (a 11), .ref (a 12), .ref (a 13), .int (nI fi), .int (nI Q.1)])), (a 10, .inl (cA 0, 12, .inl (r 0))), (a 11, .inl (cA 0, 12, .inl (r 1))), (a 12, .inl (cA 0, 12, .inl (r 2))), (a 13, .inl (cA 0, 48, .inl (r 3))), (b 0, .inr (2, [.ref (b 1), .int (Q.2 0 0), .int (Q.2 0 1), .int (Q.2 0 2)])), (b 1, .inl (cA 0, 4, .inl w))] H := hP
  have hD : va_D A [(a 9, .inr (3, [.ref (a 10), .ref (a 11), .ref (a 12), .ref (a 13), .int (nI fi), .int (nI Q.1)])), (a 10, .inl (cA 0, 12, .inl (r 0))), (a 11, .inl (cA 0, 12, .inl (r 1))), (a 12, .inl (cA 0, 12, .inl (r 2))), (a 13, .inl (cA 0, 48, .inl (r 3))), (b 0, .inr (2, [.ref (b 1), .int (Q.2 0 0), .int (Q.2 0 1), .int (Q.2 0 2)])), (b 1, .inl (cA 0, 4, .inl w))] := hD
  refine lv_iconst (v := 0) hx hb dX2_takeFirst_39 (by decide) ?_
  refine lv_istore_n (lv' := [(2, .int 0), (0, .ref (a 9)), (1, .ref (b 0))]) hx hb dX2_takeFirst_40 rfl hl (by decide) rfl (fun ls hl => ?_)
  -- the loop at 41
  have hP : va_P D vwCl [(a 9, .inr (3, [.ref (a 10), .ref (a 11), .ref (a 12), .ref (a 13), .int (nI fi), .int (nI Q.1)])), (a 10, .inl (cA 0, 12, .inl (r 0))), (a 11, .inl (cA 0, 12, .inl (r 1))), (a 12, .inl (cA 0, 12, .inl (r 2))), (a 13, .inl (cA 0, 48, .inl (r 3))), (b 0, .inr (2, [.ref (b 1), .int (Q.2 0 0), .int (Q.2 0 1), .int (Q.2 0 2)])), (b 1, .inl (cA 0, 4, .inl (mix 0 (fun k => Q.2 0 (3 + k)) w)))] H := z_row hP 6 rfl (fun k _ => congrFun (show w = mix 0 (fun k => Q.2 0 (3 + k)) w from mix_0 _ w) k)
  have hD : va_D A [(a 9, .inr (3, [.ref (a 10), .ref (a 11), .ref (a 12), .ref (a 13), .int (nI fi), .int (nI Q.1)])), (a 10, .inl (cA 0, 12, .inl (r 0))), (a 11, .inl (cA 0, 12, .inl (r 1))), (a 12, .inl (cA 0, 12, .inl (r 2))), (a 13, .inl (cA 0, 48, .inl (r 3))), (b 0, .inr (2, [.ref (b 1), .int (Q.2 0 0), .int (Q.2 0 1), .int (Q.2 0 2)])), (b 1, .inl (cA 0, 4, .inl (mix 0 (fun k => Q.2 0 (3 + k)) w)))] := hD.set (p := 6) rfl
  refine z_loop (Inv := fun j H locs ls => va_P D vwCl [(a 9, .inr (3, [.ref (a 10), .ref (a 11), .ref (a 12), .ref (a 13), .int (nI fi), .int (nI Q.1)])), (a 10, .inl (cA 0, 12, .inl (r 0))), (a 11, .inl (cA 0, 12, .inl (r 1))), (a 12, .inl (cA 0, 12, .inl (r 2))), (a 13, .inl (cA 0, 48, .inl (r 3))), (b 0, .inr (2, [.ref (b 1), .int (Q.2 0 0), .int (Q.2 0 1), .int (Q.2 0 2)])), (b 1, .inl (cA 0, 4, .inl (mix j (fun k => Q.2 0 (3 + k)) w)))] H ∧ va_D A [(a 9, .inr (3, [.ref (a 10), .ref (a 11), .ref (a 12), .ref (a 13), .int (nI fi), .int (nI Q.1)])), (a 10, .inl (cA 0, 12, .inl (r 0))), (a 11, .inl (cA 0, 12, .inl (r 1))), (a 12, .inl (cA 0, 12, .inl (r 2))), (a 13, .inl (cA 0, 48, .inl (r 3))), (b 0, .inr (2, [.ref (b 1), .int (Q.2 0 0), .int (Q.2 0 1), .int (Q.2 0 2)])), (b 1, .inl (cA 0, 4, .inl (mix j (fun k => Q.2 0 (3 + k)) w)))] ∧ va_S A s.heap H locs ∧ lv_has ls 3 [(2, .int (nI j)), (0, .ref (a 9)), (1, .ref (b 0))]) 4 (fun j hj_j ih_j H locs ls hI => ?_) ⟨hP, hD, hS, lv_sub hl [0, 1, 2] rfl⟩
  obtain ⟨hP, hD, hS, hl⟩ := hI
  refine lv_iload_n hx hb dX2_takeFirst_41 rfl (lv_at hl 0 rfl) ?_
  refine lv_iconst (v := 4) hx hb dX2_takeFirst_42 (by decide) ?_
  refine lv_icmp_ge (tgt := 71) hx hb dX2_takeFirst_43 (by decide) (fun c_1 => ?_) (fun c_1 => ?_)
  · have c_1 := (nI_leI (a := 4) (b := j) (by omega) (by omega)).mp c_1
    obtain rfl : j = 4 := by omega
    have hP : va_P D vwCl [(a 9, .inr (3, [.ref (a 10), .ref (a 11), .ref (a 12), .ref (a 13), .int (nI fi), .int (nI Q.1)])), (a 10, .inl (cA 0, 12, .inl (r 0))), (a 11, .inl (cA 0, 12, .inl (r 1))), (a 12, .inl (cA 0, 12, .inl (r 2))), (a 13, .inl (cA 0, 48, .inl (r 3))), (b 0, .inr (2, [.ref (b 1), .int (Q.2 0 0), .int (Q.2 0 1), .int (Q.2 0 2)])), (b 1, .inl (cA 0, 4, .inl (fun k => Q.2 0 (3 + k))))] H := z_row hP 6 rfl mix_all
    have hD : va_D A [(a 9, .inr (3, [.ref (a 10), .ref (a 11), .ref (a 12), .ref (a 13), .int (nI fi), .int (nI Q.1)])), (a 10, .inl (cA 0, 12, .inl (r 0))), (a 11, .inl (cA 0, 12, .inl (r 1))), (a 12, .inl (cA 0, 12, .inl (r 2))), (a 13, .inl (cA 0, 48, .inl (r 3))), (b 0, .inr (2, [.ref (b 1), .int (Q.2 0 0), .int (Q.2 0 1), .int (Q.2 0 2)])), (b 1, .inl (cA 0, 4, .inl (fun k => Q.2 0 (3 + k))))] := hD.set (p := 6) rfl
    refine lv_aload_n hx hb dX2_takeFirst_71 rfl (lv_at hl 1 rfl) ?_
    have hPc := hP.sub (ws' := [(a 9, .inr (3, [.ref (a 10), .ref (a 11), .ref (a 12), .ref (a 13), .int (nI fi), .int (nI Q.1)])), (a 10, .inl (cA 0, 12, .inl (r 0))), (a 11, .inl (cA 0, 12, .inl (r 1))), (a 12, .inl (cA 0, 12, .inl (r 2))), (a 13, .inl (cA 0, 48, .inl (r 3)))]) [0, 1, 2, 3, 4] rfl
    have hDc := hD.sub (ws' := [(a 9, .inr (3, [.ref (a 10), .ref (a 11), .ref (a 12), .ref (a 13), .int (nI fi), .int (nI Q.1)])), (a 10, .inl (cA 0, 12, .inl (r 0))), (a 11, .inl (cA 0, 12, .inl (r 1))), (a 12, .inl (cA 0, 12, .inl (r 2))), (a 13, .inl (cA 0, 48, .inl (r 3)))]) [0, 1, 2, 3, 4] (by decide) rfl
    have hFc := va_free (wc := [(a 9, .inr (3, [.ref (a 10), .ref (a 11), .ref (a 12), .ref (a 13), .int (nI fi), .int (nI Q.1)])), (a 10, .inl (cA 0, 12, .inl (r 0))), (a 11, .inl (cA 0, 12, .inl (r 1))), (a 12, .inl (cA 0, 12, .inl (r 2))), (a 13, .inl (cA 0, 48, .inl (r 3)))]) hD hS hA [0, 1, 2, 3, 4] rfl
    refine va_callv (va_runV (As := []) (rest := []) ⟨hx, hb, hml, hown, hts⟩ (c_X2_dropFirst l D cA H.size a fi Q r hq h0) (cwV 0 hts gX2_takeFirst_X2_dropFirst rfl rfl rfl (by decide +kernel) ⟨Nat.le_of_ble_eq_true rfl, Nat.le_of_ble_eq_true rfl⟩) ⟨zU_blind, va_recv hK hPc (ci := 3) (q0 := 0) rfl rfl, fun U hU hW => ⟨rfl, zU_call hU hPc hW.alike hK hDc⟩⟩ rfl rfl hl.1 rfl (lv_room (Nat.le_of_ble_eq_true rfl)) dX2_takeFirst_72 ⟨(Nat.zero_le _), (Nat.zero_le _)⟩) hS (fun q _ h => hFc q h) hFc (fun u t H1 locs ht hvm hw hB hz1 hk1 hS => ?_)
    obtain ⟨fi'_2, rfl⟩ : ∃ z, z = u := ⟨_, rfl⟩
    obtain ⟨hP1, hD1⟩ := hB
    rw [ht] at hP1
    try dsimp only at hw hP1 hD1
    obtain ⟨hP, hD⟩ := va_join (wr := [(b 0, .inr (2, [.ref (b 1), .int (Q.2 0 0), .int (Q.2 0 1), .int (Q.2 0 2)])), (b 1, .inl (cA 0, 4, .inl (fun k => Q.2 0 (3 + k))))]) (w1 := [(a 9, .inr (3, [.ref (a 10), .ref (a 11), .ref (a 12), .ref (a 13), .int (nI fi'_2), .int (nI ((pop Q).1))])), (a 10, .inl (cA 0, 12, .inl (r 0))), (a 11, .inl (cA 0, 12, .inl (r 1))), (a 12, .inl (cA 0, 12, .inl (r 2))), (a 13, .inl (cA 0, 48, .inl (r 3)))]) hP hD [0, 1, 2, 3, 4] [5, 6] rfl rfl (by decide) (by decide) hk1 hFc hP1 hD1
    generalize H1 = H at hP hS ⊢
    have hP := hP.sub (ws' := [(a 9, .inr (3, [.ref (a 10), .ref (a 11), .ref (a 12), .ref (a 13), .int (nI fi'_2), .int (nI ((pop Q).1))])), (a 10, .inl (cA 0, 12, .inl (r 0))), (a 11, .inl (cA 0, 12, .inl (r 1))), (a 12, .inl (cA 0, 12, .inl (r 2))), (a 13, .inl (cA 0, 48, .inl (r 3))), (b 0, .inr (2, [.ref (b 1), .int (Q.2 0 0), .int (Q.2 0 1), .int (Q.2 0 2)])), (b 1, .inl (cA 0, 4, .inl (fun k => Q.2 0 (3 + k))))]) [2, 3, 4, 5, 6, 0, 1] rfl
    have hD := hD.sub (ws' := [(a 9, .inr (3, [.ref (a 10), .ref (a 11), .ref (a 12), .ref (a 13), .int (nI fi'_2), .int (nI ((pop Q).1))])), (a 10, .inl (cA 0, 12, .inl (r 0))), (a 11, .inl (cA 0, 12, .inl (r 1))), (a 12, .inl (cA 0, 12, .inl (r 2))), (a 13, .inl (cA 0, 48, .inl (r 3))), (b 0, .inr (2, [.ref (b 1), .int (Q.2 0 0), .int (Q.2 0 1), .int (Q.2 0 2)])), (b 1, .inl (cA 0, 4, .inl (fun k => Q.2 0 (3 + k))))]) [2, 3, 4, 5, 6, 0, 1] (by decide) rfl
    clear hPc hDc hFc hP1 hD1 hk1 hz1
    have hw_2 := hw
    refine W.widen (k := 0) (n := 0) (by omega) (by omega) ?_
    exact W.vret hx hb hr (fun t ht hW => ⟨⟨(fi'_2), rfl, hw_2, ⟨by rw [ht]; exact hP, by rw [hAe]; exact hD⟩⟩, hS.F ht⟩) hS.2.2 dX2_takeFirst_75
  · have c_1 := mt (nI_leI (a := 4) (b := j) (by omega) (by omega)).mpr c_1
    refine lv_aload_n hx hb dX2_takeFirst_46 rfl (lv_at hl 2 rfl) ?_
    refine va_get (D := D) (ci := 2) (v := .ref (b 1)) (C := RX1) (T := TX1) (N := 4) hx hb hts (fun _ h => List.mem_cons_of_mem _ (List.mem_append_right _ (h))) hown hK hP 5 rfl rfl 0 (by decide) (hts (.fieldLink RX2 46 "OptionWire$Packet" "values" "[I") (List.mem_of_getElem? (i := 8) rfl)) (fun _ h9 => h9) rfl dX2_takeFirst_47 ?_
    refine lv_iload_n hx hb dX2_takeFirst_50 rfl (lv_at hl 0 rfl) ?_
    refine lv_aload_n hx hb dX2_takeFirst_51 rfl (lv_at hl 1 rfl) ?_
    refine va_get (D := D) (ci := 3) (v := .ref (a 13)) (C := RX2) (T := TX2) (N := 6) hx hb hts (fun _ h => List.mem_cons_of_mem _ (List.mem_append_left _ (List.mem_append_right _ (h)))) hown hK hP 0 rfl rfl 3 (by decide) (hts (.fieldLink RX2 21 "OptionWire$PacketQueue" "values" "[I") (List.mem_of_getElem? (i := 9) rfl)) (fun _ h9 => h9) rfl dX2_takeFirst_52 ?_
    refine lv_aload_n hx hb dX2_takeFirst_55 rfl (lv_at hl 1 rfl) ?_
    refine va_get (D := D) (ci := 3) (v := .int (nI fi)) (C := RX2) (T := TX2) (N := 6) hx hb hts (fun _ h => List.mem_cons_of_mem _ (List.mem_append_left _ (List.mem_append_right _ (h)))) hown hK hP 0 rfl rfl 4 (by decide) (hts (.fieldLink RX2 24 "OptionWire$PacketQueue" "first" "I") (List.mem_of_getElem? (i := 2) rfl)) (fun _ h9 => h9) rfl dX2_takeFirst_56 ?_
    refine lv_iconst (v := 4) hx hb dX2_takeFirst_59 (by decide) ?_
    refine lv_imul hx hb dX2_takeFirst_60 ?_
    refine z_top (y := (nI (fi * 4))) (z_mul fi 4) ?_
    refine lv_iload_n hx hb dX2_takeFirst_61 rfl (lv_at hl 0 rfl) ?_
    refine lv_iadd hx hb dX2_takeFirst_62 ?_
    refine z_top (y := (nI (fi * 4 + j))) (z_add (fi * 4) j) ?_
    refine z_iald (k := (fi * 4 + j)) (v := (Q.2 0 (3 + j))) hx hb hK hP 4 0 rfl rfl rfl (by omega) (by decide) (hq3 j (by omega)) dX2_takeFirst_63 ?_
    refine z_iast (k := j) hx hb hK hP hD hS 6 0 rfl rfl rfl (by omega) (by decide) dX2_takeFirst_64 (fun H locs hP hD hS => ?_)
    have hP : va_P D vwCl [(a 9, .inr (3, [.ref (a 10), .ref (a 11), .ref (a 12), .ref (a 13), .int (nI fi), .int (nI Q.1)])), (a 10, .inl (cA 0, 12, .inl (r 0))), (a 11, .inl (cA 0, 12, .inl (r 1))), (a 12, .inl (cA 0, 12, .inl (r 2))), (a 13, .inl (cA 0, 48, .inl (r 3))), (b 0, .inr (2, [.ref (b 1), .int (Q.2 0 0), .int (Q.2 0 1), .int (Q.2 0 2)])), (b 1, .inl (cA 0, 4, .inl (upd (mix j (fun k => Q.2 0 (3 + k)) w) j (Q.2 0 (3 + j)))))] H := hP
    have hD : va_D A [(a 9, .inr (3, [.ref (a 10), .ref (a 11), .ref (a 12), .ref (a 13), .int (nI fi), .int (nI Q.1)])), (a 10, .inl (cA 0, 12, .inl (r 0))), (a 11, .inl (cA 0, 12, .inl (r 1))), (a 12, .inl (cA 0, 12, .inl (r 2))), (a 13, .inl (cA 0, 48, .inl (r 3))), (b 0, .inr (2, [.ref (b 1), .int (Q.2 0 0), .int (Q.2 0 1), .int (Q.2 0 2)])), (b 1, .inl (cA 0, 4, .inl (upd (mix j (fun k => Q.2 0 (3 + k)) w) j (Q.2 0 (3 + j)))))] := hD
    refine lv_iinc (v := nI (j + 1)) (lv' := [(2, .int (nI (j + 1))), (0, .ref (a 9)), (1, .ref (b 0))]) hx hb dX2_takeFirst_65 hl (k := 0) rfl (z_inc j 1) (by decide) rfl (fun ls hl => ?_)
    refine lv_goto (tgt := 41) hx hb dX2_takeFirst_68 (by decide) ?_
    have hP : va_P D vwCl [(a 9, .inr (3, [.ref (a 10), .ref (a 11), .ref (a 12), .ref (a 13), .int (nI fi), .int (nI Q.1)])), (a 10, .inl (cA 0, 12, .inl (r 0))), (a 11, .inl (cA 0, 12, .inl (r 1))), (a 12, .inl (cA 0, 12, .inl (r 2))), (a 13, .inl (cA 0, 48, .inl (r 3))), (b 0, .inr (2, [.ref (b 1), .int (Q.2 0 0), .int (Q.2 0 1), .int (Q.2 0 2)])), (b 1, .inl (cA 0, 4, .inl (mix (j + 1) (fun k => Q.2 0 (3 + k)) w)))] H := z_row hP 6 rfl (fun k _ => congrFun (show upd (mix j (fun k => Q.2 0 (3 + k)) w) j (Q.2 0 (3 + j)) = mix (j + 1) (fun k => Q.2 0 (3 + k)) w from mix_put rfl) k)
    have hD : va_D A [(a 9, .inr (3, [.ref (a 10), .ref (a 11), .ref (a 12), .ref (a 13), .int (nI fi), .int (nI Q.1)])), (a 10, .inl (cA 0, 12, .inl (r 0))), (a 11, .inl (cA 0, 12, .inl (r 1))), (a 12, .inl (cA 0, 12, .inl (r 2))), (a 13, .inl (cA 0, 48, .inl (r 3))), (b 0, .inr (2, [.ref (b 1), .int (Q.2 0 0), .int (Q.2 0 1), .int (Q.2 0 2)])), (b 1, .inl (cA 0, 4, .inl (mix (j + 1) (fun k => Q.2 0 (3 + k)) w)))] := hD.set (p := 6) rfl
    exact ih_j _ _ _ (by omega) ⟨hP, hD, hS, lv_sub hl [0, 1, 2] rfl⟩
set_option maxHeartbeats 4000000 in
set_option maxRecDepth 100000 in
/-- PacketQueue.kindOf(place) -/
theorem c_X2_kindOf (l : Launch) (D : va_G) (cA : Nat → ClassId) (sz : Nat) (a : Nat → Nat) (fi : Nat) (Q : Qt) (r : Nat → Nat → Int32) (k : Nat) (hq : rg r fi Q) (hk2 : k < Q.1) : Met l yX2_kindOf wsX2_kindOf ({ frames := 1, cells := 0, slots := 0, locals := 21 }) (va_Pc [.ref (a 9), .int (nI k)] (zU D cA sz [(a 9, .inr (3, [.ref (a 10), .ref (a 11), .ref (a 12), .ref (a 13), .int (nI fi), .int (nI Q.1)])), (a 10, .inl (cA 0, 12, .inl (r 0))), (a 11, .inl (cA 0, 12, .inl (r 1))), (a 12, .inl (cA 0, 12, .inl (r 2))), (a 13, .inl (cA 0, 48, .inl (r 3)))])) (va_Qi (fun (r : Int32) (_ : Unit) => r = Q.2 k 0) (fun (_ : Unit) t => zB D [(a 9, .inr (3, [.ref (a 10), .ref (a 11), .ref (a 12), .ref (a 13), .int (nI fi), .int (nI Q.1)])), (a 10, .inl (cA 0, 12, .inl (r 0))), (a 11, .inl (cA 0, 12, .inl (r 1))), (a 12, .inl (cA 0, 12, .inl (r 2))), (a 13, .inl (cA 0, 48, .inl (r 3)))] sz [(a 9, .inr (3, [.ref (a 10), .ref (a 11), .ref (a 12), .ref (a 13), .int (nI fi), .int (nI Q.1)])), (a 10, .inl (cA 0, 12, .inl (r 0))), (a 11, .inl (cA 0, 12, .inl (r 1))), (a 12, .inl (cA 0, 12, .inl (r 2))), (a 13, .inl (cA 0, 48, .inl (r 3)))] t) (va_A [(a 9, .inr (3, [.ref (a 10), .ref (a 11), .ref (a 12), .ref (a 13), .int (nI fi), .int (nI Q.1)])), (a 10, .inl (cA 0, 12, .inl (r 0))), (a 11, .inl (cA 0, 12, .inl (r 1))), (a 12, .inl (cA 0, 12, .inl (r 2))), (a 13, .inl (cA 0, 48, .inl (r 3)))] sz)) 0 0 (va_A [(a 9, .inr (3, [.ref (a 10), .ref (a 11), .ref (a 12), .ref (a 13), .int (nI fi), .int (nI Q.1)])), (a 10, .inl (cA 0, 12, .inl (r 0))), (a 11, .inl (cA 0, 12, .inl (r 1))), (a 12, .inl (cA 0, 12, .inl (r 2))), (a 13, .inl (cA 0, 48, .inl (r 3)))] sz) := by
  refine Met.ofW (cc := cX2_kindOf) (maxL := 2) (ret := (some .int)) (by decide) rfl ?_
  intro p e s m args below meth c s₁ B hml hv
  obtain ⟨rfl, hsz, hP, hK, hD0⟩ := hv
  have hx := B.exec
  have hb := B.bytes
  have hr := B.returns
  have hts := atoms_spec (ws := wsX2_kindOf) B.pre
  have hown : s.vm.findClass RX2 = some m.cls := findClass_of_methodNamed B.named
  have hlocks := B.notSynchronized
  subst hsz
  have hD := hD0.self (sz := s.heap.size)
  generalize hAe : va_A [(a 9, .inr (3, [.ref (a 10), .ref (a 11), .ref (a 12), .ref (a 13), .int (nI fi), .int (nI Q.1)])), (a 10, .inl (cA 0, 12, .inl (r 0))), (a 11, .inl (cA 0, 12, .inl (r 1))), (a 12, .inl (cA 0, 12, .inl (r 2))), (a 13, .inl (cA 0, 48, .inl (r 3)))] s.heap.size = A at hD ⊢
  have hA : ∀ q : Nat, s.heap.size ≤ q → A q := fun q h => by rw [← hAe]; exact Or.inr h
  have hS : va_S A s.heap s.heap [] := va_S.rf
  have hl := lv_entry ([.ref (a 9), .int (nI k)]) (n := 2) (Nat.le_of_ble_eq_true rfl)
  rw [lg_entry_eq]
  generalize (lg_sl ([.ref (a 9), .int (nI k)]) ++ List.replicate (2 - (lg_sl ([.ref (a 9), .int (nI k)])).length) Slot.unset).toArray = ls at hl ⊢
  have hl : lv_has ls 2 [(0, .ref (a 9)), (1, .int (nI k))] := hl
  have hq12 := hq.2.1
  have hqf := hq.1
  refine lv_aload_n hx hb dX2_kindOf_0 rfl (lv_at hl 0 rfl) ?_
  refine va_get (D := D) (ci := 3) (v := .ref (a 10)) (C := RX2) (T := TX2) (N := 6) hx hb hts (fun _ h => List.mem_cons_of_mem _ (List.mem_append_right _ (h))) hown hK hP 0 rfl rfl 0 (by decide) (hts (.fieldLink RX2 9 "OptionWire$PacketQueue" "kinds" "[I") (List.mem_of_getElem? (i := 1) rfl)) (fun _ h9 => h9) rfl dX2_kindOf_1 ?_
  refine lv_aload_n hx hb dX2_kindOf_4 rfl (lv_at hl 0 rfl) ?_
  refine lv_iload_n hx hb dX2_kindOf_5 rfl (lv_at hl 1 rfl) ?_
  have hPc := hP.sub (ws' := [(a 9, .inr (3, [.ref (a 10), .ref (a 11), .ref (a 12), .ref (a 13), .int (nI fi), .int (nI Q.1)]))]) [0] rfl
  have hDc := hD.sub (ws' := [(a 9, .inr (3, [.ref (a 10), .ref (a 11), .ref (a 12), .ref (a 13), .int (nI fi), .int (nI Q.1)]))]) [0] (by decide) rfl
  have hFc := va_free (wc := [(a 9, .inr (3, [.ref (a 10), .ref (a 11), .ref (a 12), .ref (a 13), .int (nI fi), .int (nI Q.1)]))]) hD hS hA [0] rfl
  refine va_calli (va_runV (As := [.int (nI k)]) (rest := [.ref (a 10)]) ⟨hx, hb, hml, hown, hts⟩ (c_X2_slotOf l D cA s.heap.size a fi Q k hq.1 (by have := hq.2.1; omega)) (cwV 1 hts gX2_kindOf_X2_slotOf rfl rfl rfl (by decide +kernel) ⟨Nat.le_of_ble_eq_true rfl, Nat.le_of_ble_eq_true rfl⟩) ⟨zU_blind, va_recv hK hPc (ci := 3) (q0 := 0) rfl rfl, fun U hU hW => ⟨rfl, zU_call hU hPc hW.alike hK hDc⟩⟩ rfl rfl hl.1 rfl (lv_room (Nat.le_of_ble_eq_true rfl)) dX2_kindOf_6 ⟨(Nat.zero_le _), (Nat.zero_le _)⟩) hS (fun q _ h => hFc q h) hFc (fun zr u t H1 locs ht hvm hw hB hz1 hk1 hS => ?_)
  obtain ⟨hP1, hD1⟩ := hB
  rw [ht] at hP1
  obtain ⟨hP, hD⟩ := va_join (wr := [(a 10, .inl (cA 0, 12, .inl (r 0))), (a 11, .inl (cA 0, 12, .inl (r 1))), (a 12, .inl (cA 0, 12, .inl (r 2))), (a 13, .inl (cA 0, 48, .inl (r 3)))]) (w1 := [(a 9, .inr (3, [.ref (a 10), .ref (a 11), .ref (a 12), .ref (a 13), .int (nI fi), .int (nI Q.1)]))]) hP hD [0] [1, 2, 3, 4] rfl rfl (by decide) (by decide) hk1 hFc hP1 hD1
  generalize H1 = H at hP hS ⊢
  have hP := hP.sub (ws' := [(a 9, .inr (3, [.ref (a 10), .ref (a 11), .ref (a 12), .ref (a 13), .int (nI fi), .int (nI Q.1)])), (a 10, .inl (cA 0, 12, .inl (r 0))), (a 11, .inl (cA 0, 12, .inl (r 1))), (a 12, .inl (cA 0, 12, .inl (r 2))), (a 13, .inl (cA 0, 48, .inl (r 3)))]) [4, 0, 1, 2, 3] rfl
  have hD := hD.sub (ws' := [(a 9, .inr (3, [.ref (a 10), .ref (a 11), .ref (a 12), .ref (a 13), .int (nI fi), .int (nI Q.1)])), (a 10, .inl (cA 0, 12, .inl (r 0))), (a 11, .inl (cA 0, 12, .inl (r 1))), (a 12, .inl (cA 0, 12, .inl (r 2))), (a 13, .inl (cA 0, 48, .inl (r 3)))]) [4, 0, 1, 2, 3] (by decide) rfl
  clear hPc hDc hFc hP1 hD1 hk1 hz1
  have hw_1 := hw
  obtain rfl := hw
  refine z_iald (k := ((fi + k) % 12)) (v := (Q.2 k 0)) hx hb hK hP 1 0 rfl rfl rfl (by omega) (by decide) (rg_at hq hk2) dX2_kindOf_9 ?_
  refine W.widen (k := 0) (n := 0) (by omega) (by omega) ?_
  exact W.iret (v := (Q.2 k 0)) hx hb hr (fun t ht hW => ⟨⟨Q.2 k 0, (), rfl, rfl, ⟨by rw [ht]; exact hP, by rw [hAe]; exact hD⟩⟩, hS.F ht⟩) hS.2.2 dX2_kindOf_10
set_option maxHeartbeats 4000000 in
set_option maxRecDepth 100000 in
/-- End.judge(values, answer) -/
theorem c_X0_judge (l : Launch) (D : va_G) (cA : Nat → ClassId) (zv : Nat → Nat) (sz : Nat) (a : Nat → Nat) (v : Nat → Int32) (b b2 : Nat) (lo hi rf f g : Nat → Int32)  : Met l yX0_judge wsX0_judge ({ frames := 2, cells := 0, slots := 0, locals := 48 }) (va_Pc [.ref (a 0), .ref b, .ref b2] (zUE D cA zv sz [cE a v, (a 4, .inl (cA 0, 4, .inl lo)), (a 5, .inl (cA 0, 4, .inl hi)), (a 6, .inl (cA 1, 4, .inl rf)), (b, .inl (cA 0, 4, .inl f)), (b2, .inl (cA 0, 4, .inl g))])) (va_Qi (fun (r : Int32) (u : (Nat → Int32)) => u = jAn f rf lo hi ∧ r = jKd f rf lo hi) (fun (u : (Nat → Int32)) t => zB D [cE a v, (a 4, .inl (cA 0, 4, .inl lo)), (a 5, .inl (cA 0, 4, .inl hi)), (a 6, .inl (cA 1, 4, .inl rf)), (b, .inl (cA 0, 4, .inl f)), (b2, .inl (cA 0, 4, .inl g))] sz [cE a v, (a 4, .inl (cA 0, 4, .inl lo)), (a 5, .inl (cA 0, 4, .inl hi)), (a 6, .inl (cA 1, 4, .inl rf)), (b, .inl (cA 0, 4, .inl f)), (b2, .inl (cA 0, 4, .inl u))] t) (va_A [cE a v, (a 4, .inl (cA 0, 4, .inl lo)), (a 5, .inl (cA 0, 4, .inl hi)), (a 6, .inl (cA 1, 4, .inl rf)), (b, .inl (cA 0, 4, .inl f)), (b2, .inl (cA 0, 4, .inl g))] sz)) 0 0 (va_A [cE a v, (a 4, .inl (cA 0, 4, .inl lo)), (a 5, .inl (cA 0, 4, .inl hi)), (a 6, .inl (cA 1, 4, .inl rf)), (b, .inl (cA 0, 4, .inl f)), (b2, .inl (cA 0, 4, .inl g))] sz) := by
  refine Met.ofW (cc := cX0_judge) (maxL := 3) (ret := (some .int)) (by decide) rfl ?_
  intro p e s m args below meth c s₁ B hml hv
  obtain ⟨rfl, hsz, hP, hK, hD0, hE0⟩ := hv
  have hx := B.exec
  have hb := B.bytes
  have hr := B.returns
  have hts := atoms_spec (ws := wsX0_judge) B.pre
  have hown : s.vm.findClass RX0 = some m.cls := findClass_of_methodNamed B.named
  have hlocks := B.notSynchronized
  subst hsz
  have hD := hD0.self (sz := s.heap.size)
  generalize hAe : va_A [cE a v, (a 4, .inl (cA 0, 4, .inl lo)), (a 5, .inl (cA 0, 4, .inl hi)), (a 6, .inl (cA 1, 4, .inl rf)), (b, .inl (cA 0, 4, .inl f)), (b2, .inl (cA 0, 4, .inl g))] s.heap.size = A at hD hE0 ⊢
  have hA : ∀ q : Nat, s.heap.size ≤ q → A q := fun q h => by rw [← hAe]; exact Or.inr h
  have hS : va_S A s.heap s.heap [] := va_S.rf
  have hl := lv_entry ([.ref (a 0), .ref b, .ref b2]) (n := 3) (Nat.le_of_ble_eq_true rfl)
  rw [lg_entry_eq]
  generalize (lg_sl ([.ref (a 0), .ref b, .ref b2]) ++ List.replicate (3 - (lg_sl ([.ref (a 0), .ref b, .ref b2])).length) Slot.unset).toArray = ls at hl ⊢
  have hl : lv_has ls 3 [(0, .ref (a 0)), (1, .ref b), (2, .ref b2)] := hl
  refine lv_aload_n hx hb dX0_judge_0 rfl (lv_at hl 0 rfl) ?_
  refine lv_aload_n hx hb dX0_judge_1 rfl (lv_at hl 1 rfl) ?_
  refine lv_aload_n hx hb dX0_judge_2 rfl (lv_at hl 2 rfl) ?_
  have hPc := hP.sub (ws' := [cE a v, (a 6, .inl (cA 1, 4, .inl rf)), (b, .inl (cA 0, 4, .inl f)), (b2, .inl (cA 0, 4, .inl g))]) [0, 3, 4, 5] rfl
  have hDc := hD.sub (ws' := [cE a v, (a 6, .inl (cA 1, 4, .inl rf)), (b, .inl (cA 0, 4, .inl f)), (b2, .inl (cA 0, 4, .inl g))]) [0, 3, 4, 5] (by decide) rfl
  have hFc := va_free (wc := [cE a v, (a 6, .inl (cA 1, 4, .inl rf)), (b, .inl (cA 0, 4, .inl f)), (b2, .inl (cA 0, 4, .inl g))]) hD hS hA [0, 3, 4, 5] rfl
  refine va_calli (va_runV (As := [.ref b, .ref b2]) (rest := []) ⟨hx, hb, hml, hown, hts⟩ (c_X0_putRefused l D cA s.heap.size a v b b2 rf f g) (cwV 2 hts gX0_judge_X0_putRefused rfl rfl rfl (by decide +kernel) ⟨Nat.le_of_ble_eq_true rfl, Nat.le_of_ble_eq_true rfl⟩) ⟨zU_blind, va_recv hK hPc (ci := 1) (q0 := 0) rfl rfl, fun U hU hW => ⟨rfl, zU_call hU hPc hW.alike hK hDc⟩⟩ rfl rfl hl.1 rfl (lv_room (Nat.le_of_ble_eq_true rfl)) dX0_judge_3 ⟨(Nat.zero_le _), (Nat.zero_le _)⟩) hS (fun q _ h => hFc q h) hFc (fun zr u t H1 locs ht hvm hw hB hz1 hk1 hS => ?_)
  obtain ⟨hP1, hD1⟩ := hB
  rw [ht] at hP1
  obtain ⟨hP, hD⟩ := va_join (wr := [(a 4, .inl (cA 0, 4, .inl lo)), (a 5, .inl (cA 0, 4, .inl hi))]) (w1 := [cE a v, (a 6, .inl (cA 1, 4, .inl rf)), (b, .inl (cA 0, 4, .inl f)), (b2, .inl (cA 0, 4, .inl (rfd f rf)))]) hP hD [0, 3, 4, 5] [1, 2] rfl rfl (by decide) (by decide) hk1 hFc hP1 hD1
  generalize H1 = H at hP hS ⊢
  have hP := hP.sub (ws' := [cE a v, (a 4, .inl (cA 0, 4, .inl lo)), (a 5, .inl (cA 0, 4, .inl hi)), (a 6, .inl (cA 1, 4, .inl rf)), (b, .inl (cA 0, 4, .inl f)), (b2, .inl (cA 0, 4, .inl (rfd f rf)))]) [2, 0, 1, 3, 4, 5] rfl
  have hD := hD.sub (ws' := [cE a v, (a 4, .inl (cA 0, 4, .inl lo)), (a 5, .inl (cA 0, 4, .inl hi)), (a 6, .inl (cA 1, 4, .inl rf)), (b, .inl (cA 0, 4, .inl f)), (b2, .inl (cA 0, 4, .inl (rfd f rf)))]) [2, 0, 1, 3, 4, 5] (by decide) rfl
  clear hPc hDc hFc hP1 hD1 hk1 hz1
  have hw_1 := hw
  rcases z_bool hw with ⟨h_1, rfl⟩ | ⟨h_1, rfl⟩
  · skip
    refine lv_if_eq (tgt := 11) hx hb dX0_judge_6 (by decide) (fun c_2 => absurd c_2 (by decide)) (fun _ => ?_)
    refine lv_iconst (v := 3) hx hb dX0_judge_9 (by decide) ?_
    refine W.widen (k := 0) (n := 0) (by omega) (by omega) ?_
    exact W.iret (v := 3) hx hb hr (fun t ht hW => ⟨⟨3, (rfd f rf), rfl, ⟨by simp [jAn, h_1], by simp [jKd, h_1]⟩, ⟨by rw [ht]; exact hP, by rw [hAe]; exact hD⟩⟩, hS.F ht⟩) hS.2.2 dX0_judge_10
  · skip
    refine lv_if_eq (tgt := 11) hx hb dX0_judge_6 (by decide) (fun _ => ?_) (fun c_3 => absurd c_3 (by decide))
    refine lv_aload_n hx hb dX0_judge_11 rfl (lv_at hl 0 rfl) ?_
    refine lv_aload_n hx hb dX0_judge_12 rfl (lv_at hl 1 rfl) ?_
    refine lv_aload_n hx hb dX0_judge_13 rfl (lv_at hl 2 rfl) ?_
    have hPc := hP.sub (ws' := [cE a v, (a 4, .inl (cA 0, 4, .inl lo)), (a 5, .inl (cA 0, 4, .inl hi)), (b, .inl (cA 0, 4, .inl f)), (b2, .inl (cA 0, 4, .inl (rfd f rf)))]) [0, 1, 2, 4, 5] rfl
    have hDc := hD.sub (ws' := [cE a v, (a 4, .inl (cA 0, 4, .inl lo)), (a 5, .inl (cA 0, 4, .inl hi)), (b, .inl (cA 0, 4, .inl f)), (b2, .inl (cA 0, 4, .inl (rfd f rf)))]) [0, 1, 2, 4, 5] (by decide) rfl
    have hFc := va_free (wc := [cE a v, (a 4, .inl (cA 0, 4, .inl lo)), (a 5, .inl (cA 0, 4, .inl hi)), (b, .inl (cA 0, 4, .inl f)), (b2, .inl (cA 0, 4, .inl (rfd f rf)))]) hD hS hA [0, 1, 2, 4, 5] rfl
    refine va_calli (va_runV (As := [.ref b, .ref b2]) (rest := []) ⟨hx, hb, hml, hown, hts⟩ (c_X0_putNearest l D cA H.size a v b b2 lo hi f (rfd f rf)) (cwV 2 hts gX0_judge_X0_putNearest rfl rfl rfl (by decide +kernel) ⟨Nat.le_of_ble_eq_true rfl, Nat.le_of_ble_eq_true rfl⟩) ⟨zU_blind, va_recv hK hPc (ci := 1) (q0 := 0) rfl rfl, fun U hU hW => ⟨rfl, zU_call hU hPc hW.alike hK hDc⟩⟩ rfl rfl hl.1 rfl (lv_room (Nat.le_of_ble_eq_true rfl)) dX0_judge_14 ⟨(Nat.zero_le _), (Nat.zero_le _)⟩) hS (fun q _ h => hFc q h) hFc (fun zr u t H1 locs ht hvm hw hB hz1 hk1 hS => ?_)
    obtain ⟨hP1, hD1⟩ := hB
    rw [ht] at hP1
    obtain ⟨hP, hD⟩ := va_join (wr := [(a 6, .inl (cA 1, 4, .inl rf))]) (w1 := [cE a v, (a 4, .inl (cA 0, 4, .inl lo)), (a 5, .inl (cA 0, 4, .inl hi)), (b, .inl (cA 0, 4, .inl f)), (b2, .inl (cA 0, 4, .inl (ofd f lo hi)))]) hP hD [0, 1, 2, 4, 5] [3] rfl rfl (by decide) (by decide) hk1 hFc hP1 hD1
    generalize H1 = H at hP hS ⊢
    have hP := hP.sub (ws' := [cE a v, (a 4, .inl (cA 0, 4, .inl lo)), (a 5, .inl (cA 0, 4, .inl hi)), (a 6, .inl (cA 1, 4, .inl rf)), (b, .inl (cA 0, 4, .inl f)), (b2, .inl (cA 0, 4, .inl (ofd f lo hi)))]) [1, 2, 3, 0, 4, 5] rfl
    have hD := hD.sub (ws' := [cE a v, (a 4, .inl (cA 0, 4, .inl lo)), (a 5, .inl (cA 0, 4, .inl hi)), (a 6, .inl (cA 1, 4, .inl rf)), (b, .inl (cA 0, 4, .inl f)), (b2, .inl (cA 0, 4, .inl (ofd f lo hi)))]) [1, 2, 3, 0, 4, 5] (by decide) rfl
    clear hPc hDc hFc hP1 hD1 hk1 hz1
    have hw_4 := hw
    rcases z_bool hw with ⟨h_4, rfl⟩ | ⟨h_4, rfl⟩
    · skip
      refine lv_if_eq (tgt := 22) hx hb dX0_judge_17 (by decide) (fun c_5 => absurd c_5 (by decide)) (fun _ => ?_)
      refine lv_iconst (v := 2) hx hb dX0_judge_20 (by decide) ?_
      refine W.widen (k := 0) (n := 0) (by omega) (by omega) ?_
      exact W.iret (v := 2) hx hb hr (fun t ht hW => ⟨⟨2, (ofd f lo hi), rfl, ⟨by simp [jAn, h_1, h_4], by simp [jKd, h_1, h_4]⟩, ⟨by rw [ht]; exact hP, by rw [hAe]; exact hD⟩⟩, hS.F ht⟩) hS.2.2 dX0_judge_21
    · skip
      refine lv_if_eq (tgt := 22) hx hb dX0_judge_17 (by decide) (fun _ => ?_) (fun c_6 => absurd c_6 (by decide))
      refine lv_aload_n hx hb dX0_judge_22 rfl (lv_at hl 1 rfl) ?_
      refine lv_aload_n hx hb dX0_judge_23 rfl (lv_at hl 2 rfl) ?_
      have hPc := hP.sub (ws' := [(b, .inl (cA 0, 4, .inl f)), (b2, .inl (cA 0, 4, .inl (ofd f lo hi)))]) [4, 5] rfl
      have hDc := hD.sub (ws' := [(b, .inl (cA 0, 4, .inl f)), (b2, .inl (cA 0, 4, .inl (ofd f lo hi)))]) [4, 5] (by decide) rfl
      have hFc := va_free (wc := [(b, .inl (cA 0, 4, .inl f)), (b2, .inl (cA 0, 4, .inl (ofd f lo hi)))]) hD hS hA [4, 5] rfl
      refine va_callv (va_runSN (As := [.ref b, .ref b2]) (rest := []) ⟨hx, hb, hml, hown, hts⟩ (c_X3_copyValues l D cA H.size b b2 f (ofd f lo hi)) ⟨va_cnB 2 hts gX0_judge_X3_copyValues_n80 rfl rfl rfl hE0.2.2.1.2.2 (hts (.initialized RX3) (List.mem_of_getElem? (i := 21) rfl)) (by decide +kernel) ⟨Nat.le_of_ble_eq_true rfl, Nat.le_of_ble_eq_true rfl⟩, (hts (.static yX3_copyValues) (List.mem_of_getElem? (i := 20) rfl)), trivial⟩ ⟨zU_blind, fun U hU hW => ⟨rfl, zU_call hU hPc hW.alike hK hDc⟩⟩ rfl rfl hl.1 rfl (lv_room (Nat.le_of_ble_eq_true rfl)) dX0_judge_24 ⟨(Nat.zero_le _), (Nat.zero_le _)⟩) hS (fun q _ h => hFc q h) hFc (fun u t H1 locs ht hvm hw hB hz1 hk1 hS => ?_)
      obtain ⟨hP1, hD1⟩ := hB
      rw [ht] at hP1
      obtain ⟨hP, hD⟩ := va_join (wr := [cE a v, (a 4, .inl (cA 0, 4, .inl lo)), (a 5, .inl (cA 0, 4, .inl hi)), (a 6, .inl (cA 1, 4, .inl rf))]) (w1 := [(b, .inl (cA 0, 4, .inl f)), (b2, .inl (cA 0, 4, .inl f))]) hP hD [4, 5] [0, 1, 2, 3] rfl rfl (by decide) (by decide) hk1 hFc hP1 hD1
      generalize H1 = H at hP hS ⊢
      have hP := hP.sub (ws' := [cE a v, (a 4, .inl (cA 0, 4, .inl lo)), (a 5, .inl (cA 0, 4, .inl hi)), (a 6, .inl (cA 1, 4, .inl rf)), (b, .inl (cA 0, 4, .inl f)), (b2, .inl (cA 0, 4, .inl f))]) [0, 1, 2, 3, 4, 5] rfl
      have hD := hD.sub (ws' := [cE a v, (a 4, .inl (cA 0, 4, .inl lo)), (a 5, .inl (cA 0, 4, .inl hi)), (a 6, .inl (cA 1, 4, .inl rf)), (b, .inl (cA 0, 4, .inl f)), (b2, .inl (cA 0, 4, .inl f))]) [0, 1, 2, 3, 4, 5] (by decide) rfl
      clear hPc hDc hFc hP1 hD1 hk1 hz1
      have hw_7 := hw
      refine lv_iconst (v := 1) hx hb dX0_judge_27 (by decide) ?_
      refine W.widen (k := 0) (n := 0) (by omega) (by omega) ?_
      exact W.iret (v := 1) hx hb hr (fun t ht hW => ⟨⟨1, (f), rfl, ⟨by simp [jAn, h_1, h_4], by simp [jKd, h_1, h_4]⟩, ⟨by rw [ht]; exact hP, by rw [hAe]; exact hD⟩⟩, hS.F ht⟩) hS.2.2 dX0_judge_28
