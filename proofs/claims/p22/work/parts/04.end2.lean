set_option maxHeartbeats 4000000 in
set_option maxRecDepth 100000 in
/-- OptionWire.copyValues(from, to) -/
theorem c_X3_copyValues (l : Launch) (D : va_G) (cA : Nat → ClassId) (sz : Nat) (a b : Nat) (f g : Nat → Int32)  : Met l yX3_copyValues wsX3_copyValues ({ frames := 0, cells := 0, slots := 0, locals := 0 }) (va_Pc [.ref a, .ref b] (zU D cA sz [(a, .inl (cA 0, 4, .inl f)), (b, .inl (cA 0, 4, .inl g))])) (va_Qv (fun (_ : Unit) => True) (fun (_ : Unit) t => zB D [(a, .inl (cA 0, 4, .inl f)), (b, .inl (cA 0, 4, .inl g))] sz [(a, .inl (cA 0, 4, .inl f)), (b, .inl (cA 0, 4, .inl f))] t) (va_A [(a, .inl (cA 0, 4, .inl f)), (b, .inl (cA 0, 4, .inl g))] sz)) 0 0 (va_A [(a, .inl (cA 0, 4, .inl f)), (b, .inl (cA 0, 4, .inl g))] sz) := by
  refine Met.ofW (cc := cX3_copyValues) (maxL := 3) (ret := none) (by decide) rfl ?_
  intro p e s m args below meth c s₁ B hml hv
  obtain ⟨rfl, hsz, hP, hK, hD0⟩ := hv
  have hx := B.exec
  have hb := B.bytes
  have hr := B.returns
  have hts := atoms_spec (ws := wsX3_copyValues) B.pre
  have hown : s.vm.findClass RX3 = some m.cls := findClass_of_methodNamed B.named
  have hlocks := B.notSynchronized
  subst hsz
  have hD := hD0.self (sz := s.heap.size)
  generalize hAe : va_A [(a, .inl (cA 0, 4, .inl f)), (b, .inl (cA 0, 4, .inl g))] s.heap.size = A at hD ⊢
  have hA : ∀ q : Nat, s.heap.size ≤ q → A q := fun q h => by rw [← hAe]; exact Or.inr h
  have hS : va_S A s.heap s.heap [] := va_S.rf
  have hl := lv_entry ([.ref a, .ref b]) (n := 3) (Nat.le_of_ble_eq_true rfl)
  rw [lg_entry_eq]
  generalize (lg_sl ([.ref a, .ref b]) ++ List.replicate (3 - (lg_sl ([.ref a, .ref b])).length) Slot.unset).toArray = ls at hl ⊢
  have hl : lv_has ls 3 [(0, .ref a), (1, .ref b)] := hl
  refine lv_iconst (v := 0) hx hb dX3_copyValues_0 (by decide) ?_
  refine lv_istore_n (lv' := [(2, .int 0), (0, .ref a), (1, .ref b)]) hx hb dX3_copyValues_1 rfl hl (by decide) rfl (fun ls hl => ?_)
  -- the loop at 2
  have hP : va_P D vwCl [(a, .inl (cA 0, 4, .inl f)), (b, .inl (cA 0, 4, .inl (mix 0 f g)))] s.heap := z_row hP 1 rfl (fun k _ => congrFun (show g = mix 0 f g from mix_0 f g) k)
  have hD : va_D A [(a, .inl (cA 0, 4, .inl f)), (b, .inl (cA 0, 4, .inl (mix 0 f g)))] := hD.set (p := 1) rfl
  refine z_loop (Inv := fun j H locs ls => va_P D vwCl [(a, .inl (cA 0, 4, .inl f)), (b, .inl (cA 0, 4, .inl (mix j f g)))] H ∧ va_D A [(a, .inl (cA 0, 4, .inl f)), (b, .inl (cA 0, 4, .inl (mix j f g)))] ∧ va_S A s.heap H locs ∧ lv_has ls 3 [(2, .int (nI j)), (0, .ref a), (1, .ref b)]) 4 (fun j hj_j ih_j H locs ls hI => ?_) ⟨hP, hD, hS, lv_sub hl [0, 1, 2] rfl⟩
  obtain ⟨hP, hD, hS, hl⟩ := hI
  refine lv_iload_n hx hb dX3_copyValues_2 rfl (lv_at hl 0 rfl) ?_
  refine lv_iconst (v := 4) hx hb dX3_copyValues_3 (by decide) ?_
  refine lv_icmp_ge (tgt := 19) hx hb dX3_copyValues_4 (by decide) (fun c_1 => ?_) (fun c_1 => ?_)
  · have c_1 := (nI_leI (a := 4) (b := j) (by omega) (by omega)).mp c_1
    obtain rfl : j = 4 := by omega
    have hP : va_P D vwCl [(a, .inl (cA 0, 4, .inl f)), (b, .inl (cA 0, 4, .inl f))] H := z_row hP 1 rfl mix_all
    have hD : va_D A [(a, .inl (cA 0, 4, .inl f)), (b, .inl (cA 0, 4, .inl f))] := hD.set (p := 1) rfl
    refine W.widen (k := 0) (n := 0) (by omega) (by omega) ?_
    exact W.vret hx hb hr (fun t ht hW => ⟨⟨(), rfl, trivial, ⟨by rw [ht]; exact hP, by rw [hAe]; exact hD⟩⟩, hS.F ht⟩) hS.2.2 dX3_copyValues_19
  · have c_1 := mt (nI_leI (a := 4) (b := j) (by omega) (by omega)).mpr c_1
    refine lv_aload_n hx hb dX3_copyValues_7 rfl (lv_at hl 2 rfl) ?_
    refine lv_iload_n hx hb dX3_copyValues_8 rfl (lv_at hl 0 rfl) ?_
    refine lv_aload_n hx hb dX3_copyValues_9 rfl (lv_at hl 1 rfl) ?_
    refine lv_iload_n hx hb dX3_copyValues_10 rfl (lv_at hl 0 rfl) ?_
    refine z_iald (k := j) (v := (f j)) hx hb hK hP 0 0 rfl rfl rfl (by omega) (by decide) rfl dX3_copyValues_11 ?_
    refine z_iast (k := j) hx hb hK hP hD hS 1 0 rfl rfl rfl (by omega) (by decide) dX3_copyValues_12 (fun H locs hP hD hS => ?_)
    have hP : va_P D vwCl [(a, .inl (cA 0, 4, .inl f)), (b, .inl (cA 0, 4, .inl (upd (mix j f g) j (f j))))] H := hP
    have hD : va_D A [(a, .inl (cA 0, 4, .inl f)), (b, .inl (cA 0, 4, .inl (upd (mix j f g) j (f j))))] := hD
    refine lv_iinc (v := nI (j + 1)) (lv' := [(2, .int (nI (j + 1))), (0, .ref a), (1, .ref b)]) hx hb dX3_copyValues_13 hl (k := 0) rfl (z_inc j 1) (by decide) rfl (fun ls hl => ?_)
    refine lv_goto (tgt := 2) hx hb dX3_copyValues_16 (by decide) ?_
    have hP : va_P D vwCl [(a, .inl (cA 0, 4, .inl f)), (b, .inl (cA 0, 4, .inl (mix (j + 1) f g)))] H := z_row hP 1 rfl (fun k _ => congrFun (show upd (mix j f g) j (f j) = mix (j + 1) f g from mix_put rfl) k)
    have hD : va_D A [(a, .inl (cA 0, 4, .inl f)), (b, .inl (cA 0, 4, .inl (mix (j + 1) f g)))] := hD.set (p := 1) rfl
    exact ih_j _ _ _ (by omega) ⟨hP, hD, hS, lv_sub hl [0, 1, 2] rfl⟩
set_option maxHeartbeats 4000000 in
set_option maxRecDepth 100000 in
/-- End.takeCounter(values) -/
theorem c_X0_takeCounter (l : Launch) (D : va_G) (cA : Nat → ClassId) (sz : Nat) (a : Nat → Nat) (v : Nat → Int32) (b : Nat) (lo hi g f : Nat → Int32)  : Met l yX0_takeCounter wsX0_takeCounter ({ frames := 0, cells := 0, slots := 0, locals := 0 }) (va_Pc [.ref (a 0), .ref b] (zU D cA sz [cE a v, (a 2, .inl (cA 0, 4, .inl lo)), (a 3, .inl (cA 0, 4, .inl hi)), (a 7, .inl (cA 0, 4, .inl g)), (b, .inl (cA 0, 4, .inl f))])) (va_Qv (fun (_ : Unit) => True) (fun (_ : Unit) t => zB D [cE a v, (a 2, .inl (cA 0, 4, .inl lo)), (a 3, .inl (cA 0, 4, .inl hi)), (a 7, .inl (cA 0, 4, .inl g)), (b, .inl (cA 0, 4, .inl f))] sz [cE a v, (a 2, .inl (cA 0, 4, .inl lo)), (a 3, .inl (cA 0, 4, .inl hi)), (a 7, .inl (cA 0, 4, .inl (ctr lo hi f g))), (b, .inl (cA 0, 4, .inl f))] t) (va_A [cE a v, (a 2, .inl (cA 0, 4, .inl lo)), (a 3, .inl (cA 0, 4, .inl hi)), (a 7, .inl (cA 0, 4, .inl g)), (b, .inl (cA 0, 4, .inl f))] sz)) 0 0 (va_A [cE a v, (a 2, .inl (cA 0, 4, .inl lo)), (a 3, .inl (cA 0, 4, .inl hi)), (a 7, .inl (cA 0, 4, .inl g)), (b, .inl (cA 0, 4, .inl f))] sz) := by
  refine Met.ofW (cc := cX0_takeCounter) (maxL := 5) (ret := none) (by decide) rfl ?_
  intro p e s m args below meth c s₁ B hml hv
  obtain ⟨rfl, hsz, hP, hK, hD0⟩ := hv
  have hx := B.exec
  have hb := B.bytes
  have hr := B.returns
  have hts := atoms_spec (ws := wsX0_takeCounter) B.pre
  have hown : s.vm.findClass RX0 = some m.cls := findClass_of_methodNamed B.named
  have hlocks := B.notSynchronized
  subst hsz
  have hD := hD0.self (sz := s.heap.size)
  generalize hAe : va_A [cE a v, (a 2, .inl (cA 0, 4, .inl lo)), (a 3, .inl (cA 0, 4, .inl hi)), (a 7, .inl (cA 0, 4, .inl g)), (b, .inl (cA 0, 4, .inl f))] s.heap.size = A at hD ⊢
  have hA : ∀ q : Nat, s.heap.size ≤ q → A q := fun q h => by rw [← hAe]; exact Or.inr h
  have hS : va_S A s.heap s.heap [] := va_S.rf
  have hl := lv_entry ([.ref (a 0), .ref b]) (n := 5) (Nat.le_of_ble_eq_true rfl)
  rw [lg_entry_eq]
  generalize (lg_sl ([.ref (a 0), .ref b]) ++ List.replicate (5 - (lg_sl ([.ref (a 0), .ref b])).length) Slot.unset).toArray = ls at hl ⊢
  have hl : lv_has ls 5 [(0, .ref (a 0)), (1, .ref b)] := hl
  refine lv_iconst (v := 0) hx hb dX0_takeCounter_0 (by decide) ?_
  refine lv_istore_n (lv' := [(2, .int 0), (0, .ref (a 0)), (1, .ref b)]) hx hb dX0_takeCounter_1 rfl hl (by decide) rfl (fun ls hl => ?_)
  -- the loop at 2
  have hP : va_P D vwCl [cE a v, (a 2, .inl (cA 0, 4, .inl lo)), (a 3, .inl (cA 0, 4, .inl hi)), (a 7, .inl (cA 0, 4, .inl (mix 0 (ctr lo hi f g) g))), (b, .inl (cA 0, 4, .inl f))] s.heap := z_row hP 3 rfl (fun k _ => congrFun (show g = mix 0 (ctr lo hi f g) g from mix_0 _ g) k)
  have hD : va_D A [cE a v, (a 2, .inl (cA 0, 4, .inl lo)), (a 3, .inl (cA 0, 4, .inl hi)), (a 7, .inl (cA 0, 4, .inl (mix 0 (ctr lo hi f g) g))), (b, .inl (cA 0, 4, .inl f))] := hD.set (p := 3) rfl
  refine z_loop (Inv := fun j H locs ls => va_P D vwCl [cE a v, (a 2, .inl (cA 0, 4, .inl lo)), (a 3, .inl (cA 0, 4, .inl hi)), (a 7, .inl (cA 0, 4, .inl (mix j (ctr lo hi f g) g))), (b, .inl (cA 0, 4, .inl f))] H ∧ va_D A [cE a v, (a 2, .inl (cA 0, 4, .inl lo)), (a 3, .inl (cA 0, 4, .inl hi)), (a 7, .inl (cA 0, 4, .inl (mix j (ctr lo hi f g) g))), (b, .inl (cA 0, 4, .inl f))] ∧ va_S A s.heap H locs ∧ lv_has ls 5 [(2, .int (nI j)), (0, .ref (a 0)), (1, .ref b)]) 4 (fun j hj_j ih_j H locs ls hI => ?_) ⟨hP, hD, hS, lv_sub hl [0, 1, 2] rfl⟩
  obtain ⟨hP, hD, hS, hl⟩ := hI
  refine lv_iload_n hx hb dX0_takeCounter_2 rfl (lv_at hl 0 rfl) ?_
  refine lv_iconst (v := 4) hx hb dX0_takeCounter_3 (by decide) ?_
  refine lv_icmp_ge (tgt := 65) hx hb dX0_takeCounter_4 (by decide) (fun c_1 => ?_) (fun c_1 => ?_)
  · have c_1 := (nI_leI (a := 4) (b := j) (by omega) (by omega)).mp c_1
    obtain rfl : j = 4 := by omega
    have hP : va_P D vwCl [cE a v, (a 2, .inl (cA 0, 4, .inl lo)), (a 3, .inl (cA 0, 4, .inl hi)), (a 7, .inl (cA 0, 4, .inl (ctr lo hi f g))), (b, .inl (cA 0, 4, .inl f))] H := z_row hP 3 rfl mix_all
    have hD : va_D A [cE a v, (a 2, .inl (cA 0, 4, .inl lo)), (a 3, .inl (cA 0, 4, .inl hi)), (a 7, .inl (cA 0, 4, .inl (ctr lo hi f g))), (b, .inl (cA 0, 4, .inl f))] := hD.set (p := 3) rfl
    refine W.widen (k := 0) (n := 0) (by omega) (by omega) ?_
    exact W.vret hx hb hr (fun t ht hW => ⟨⟨(), rfl, trivial, ⟨by rw [ht]; exact hP, by rw [hAe]; exact hD⟩⟩, hS.F ht⟩) hS.2.2 dX0_takeCounter_65
  · have c_1 := mt (nI_leI (a := 4) (b := j) (by omega) (by omega)).mpr c_1
    refine lv_aload_n hx hb dX0_takeCounter_7 rfl (lv_at hl 2 rfl) ?_
    refine lv_iload_n hx hb dX0_takeCounter_8 rfl (lv_at hl 0 rfl) ?_
    refine z_iald (k := j) (v := (f j)) hx hb hK hP 4 0 rfl rfl rfl (by omega) (by decide) rfl dX0_takeCounter_9 ?_
    refine lv_istore_n (lv' := [(3, .int (f j)), (2, .int (nI j)), (0, .ref (a 0)), (1, .ref b)]) hx hb dX0_takeCounter_10 rfl hl (by decide) rfl (fun ls hl => ?_)
    refine lv_iload_n hx hb dX0_takeCounter_11 rfl (lv_at hl 0 rfl) ?_
    refine lv_iconst (v := (-1)) hx hb dX0_takeCounter_12 (by decide) ?_
    refine lv_icmp_eq (tgt := 59) hx hb dX0_takeCounter_13 (by decide) (fun c_2 => ?_) (fun c_2 => ?_)
    · skip
      refine lv_iinc (v := nI (j + 1)) (lv' := [(2, .int (nI (j + 1))), (3, .int (f j)), (0, .ref (a 0)), (1, .ref b)]) hx hb dX0_takeCounter_59 hl (k := 1) rfl (z_inc j 1) (by decide) rfl (fun ls hl => ?_)
      refine lv_goto (tgt := 2) hx hb dX0_takeCounter_62 (by decide) ?_
      have hP : va_P D vwCl [cE a v, (a 2, .inl (cA 0, 4, .inl lo)), (a 3, .inl (cA 0, 4, .inl hi)), (a 7, .inl (cA 0, 4, .inl (mix (j + 1) (ctr lo hi f g) g))), (b, .inl (cA 0, 4, .inl f))] H := z_row hP 3 rfl (fun k _ => congrFun (show mix j (ctr lo hi f g) g = mix (j + 1) (ctr lo hi f g) g from mix_keep (by simp [ctr, c_1, c_2])) k)
      have hD : va_D A [cE a v, (a 2, .inl (cA 0, 4, .inl lo)), (a 3, .inl (cA 0, 4, .inl hi)), (a 7, .inl (cA 0, 4, .inl (mix (j + 1) (ctr lo hi f g) g))), (b, .inl (cA 0, 4, .inl f))] := hD.set (p := 3) rfl
      exact ih_j _ _ _ (by omega) ⟨hP, hD, hS, lv_sub hl [0, 2, 3] rfl⟩
    · skip
      refine lv_iload_n hx hb dX0_takeCounter_16 rfl (lv_at hl 0 rfl) ?_
      refine lv_aload_n hx hb dX0_takeCounter_17 rfl (lv_at hl 2 rfl) ?_
      refine va_get (D := D) (ci := 1) (v := .ref (a 2)) (C := RX0) (T := TX0) (N := 16) hx hb hts (fun _ h => List.mem_cons_of_mem _ (List.mem_append_right _ (h))) hown hK hP 0 rfl rfl 1 (by decide) (hts (.fieldLink RX0 15 "OptionWire$End" "leastAsked" "[I") (List.mem_of_getElem? (i := 1) rfl)) (fun _ h9 => h9) rfl dX0_takeCounter_18 ?_
      refine lv_iload_n hx hb dX0_takeCounter_21 rfl (lv_at hl 1 rfl) ?_
      refine z_iald (k := j) (v := (lo j)) hx hb hK hP 1 0 rfl rfl rfl (by omega) (by decide) rfl dX0_takeCounter_22 ?_
      refine lv_icmp_lt (tgt := 40) hx hb dX0_takeCounter_23 (by decide) (fun c_3 => ?_) (fun c_3 => ?_)
      · skip
        refine lv_iconst (v := 0) hx hb dX0_takeCounter_40 (by decide) ?_
        refine lv_istore (lv' := [(4, .int 0), (3, .int (f j)), (2, .int (nI j)), (0, .ref (a 0)), (1, .ref b)]) hx hb dX0_takeCounter_41 hl (by decide) rfl (fun ls hl => ?_)
        refine lv_aload_n hx hb dX0_takeCounter_43 rfl (lv_at hl 3 rfl) ?_
        refine va_get (D := D) (ci := 1) (v := .ref (a 7)) (C := RX0) (T := TX0) (N := 16) hx hb hts (fun _ h => List.mem_cons_of_mem _ (List.mem_append_right _ (h))) hown hK hP 0 rfl rfl 6 (by decide) (hts (.fieldLink RX0 31 "OptionWire$End" "asked" "[I") (List.mem_of_getElem? (i := 3) rfl)) (fun _ h9 => h9) rfl dX0_takeCounter_44 ?_
        refine lv_iload_n hx hb dX0_takeCounter_47 rfl (lv_at hl 2 rfl) ?_
        refine lv_iload hx hb dX0_takeCounter_48 (lv_at hl 0 rfl) ?_
        refine lv_if_eq (tgt := 57) hx hb dX0_takeCounter_50 (by decide) (fun _ => ?_) (fun c_4 => absurd c_4 (by decide))
        refine lv_iconst (v := (-1)) hx hb dX0_takeCounter_57 (by decide) ?_
        refine z_iast (k := j) hx hb hK hP hD hS 3 0 rfl rfl rfl (by omega) (by decide) dX0_takeCounter_58 (fun H locs hP hD hS => ?_)
        have hP : va_P D vwCl [cE a v, (a 2, .inl (cA 0, 4, .inl lo)), (a 3, .inl (cA 0, 4, .inl hi)), (a 7, .inl (cA 0, 4, .inl (upd (mix j (ctr lo hi f g) g) j (-1)))), (b, .inl (cA 0, 4, .inl f))] H := hP
        have hD : va_D A [cE a v, (a 2, .inl (cA 0, 4, .inl lo)), (a 3, .inl (cA 0, 4, .inl hi)), (a 7, .inl (cA 0, 4, .inl (upd (mix j (ctr lo hi f g) g) j (-1)))), (b, .inl (cA 0, 4, .inl f))] := hD
        refine lv_iinc (v := nI (j + 1)) (lv' := [(2, .int (nI (j + 1))), (4, .int 0), (3, .int (f j)), (0, .ref (a 0)), (1, .ref b)]) hx hb dX0_takeCounter_59 hl (k := 2) rfl (z_inc j 1) (by decide) rfl (fun ls hl => ?_)
        refine lv_goto (tgt := 2) hx hb dX0_takeCounter_62 (by decide) ?_
        have hP : va_P D vwCl [cE a v, (a 2, .inl (cA 0, 4, .inl lo)), (a 3, .inl (cA 0, 4, .inl hi)), (a 7, .inl (cA 0, 4, .inl (mix (j + 1) (ctr lo hi f g) g))), (b, .inl (cA 0, 4, .inl f))] H := z_row hP 3 rfl (fun k _ => congrFun (show upd (mix j (ctr lo hi f g) g) j (-1) = mix (j + 1) (ctr lo hi f g) g from mix_put (by simp [ctr, c_1, c_2, c_3])) k)
        have hD : va_D A [cE a v, (a 2, .inl (cA 0, 4, .inl lo)), (a 3, .inl (cA 0, 4, .inl hi)), (a 7, .inl (cA 0, 4, .inl (mix (j + 1) (ctr lo hi f g) g))), (b, .inl (cA 0, 4, .inl f))] := hD.set (p := 3) rfl
        exact ih_j _ _ _ (by omega) ⟨hP, hD, hS, lv_sub hl [0, 3, 4] rfl⟩
      · skip
        refine lv_iload_n hx hb dX0_takeCounter_26 rfl (lv_at hl 0 rfl) ?_
        refine lv_aload_n hx hb dX0_takeCounter_27 rfl (lv_at hl 2 rfl) ?_
        refine va_get (D := D) (ci := 1) (v := .ref (a 3)) (C := RX0) (T := TX0) (N := 16) hx hb hts (fun _ h => List.mem_cons_of_mem _ (List.mem_append_right _ (h))) hown hK hP 0 rfl rfl 2 (by decide) (hts (.fieldLink RX0 18 "OptionWire$End" "mostAsked" "[I") (List.mem_of_getElem? (i := 2) rfl)) (fun _ h9 => h9) rfl dX0_takeCounter_28 ?_
        refine lv_iload_n hx hb dX0_takeCounter_31 rfl (lv_at hl 1 rfl) ?_
        refine z_iald (k := j) (v := (hi j)) hx hb hK hP 2 0 rfl rfl rfl (by omega) (by decide) rfl dX0_takeCounter_32 ?_
        refine lv_icmp_gt (tgt := 40) hx hb dX0_takeCounter_33 (by decide) (fun c_5 => ?_) (fun c_5 => ?_)
        · skip
          refine lv_iconst (v := 0) hx hb dX0_takeCounter_40 (by decide) ?_
          refine lv_istore (lv' := [(4, .int 0), (3, .int (f j)), (2, .int (nI j)), (0, .ref (a 0)), (1, .ref b)]) hx hb dX0_takeCounter_41 hl (by decide) rfl (fun ls hl => ?_)
          refine lv_aload_n hx hb dX0_takeCounter_43 rfl (lv_at hl 3 rfl) ?_
          refine va_get (D := D) (ci := 1) (v := .ref (a 7)) (C := RX0) (T := TX0) (N := 16) hx hb hts (fun _ h => List.mem_cons_of_mem _ (List.mem_append_right _ (h))) hown hK hP 0 rfl rfl 6 (by decide) (hts (.fieldLink RX0 31 "OptionWire$End" "asked" "[I") (List.mem_of_getElem? (i := 3) rfl)) (fun _ h9 => h9) rfl dX0_takeCounter_44 ?_
          refine lv_iload_n hx hb dX0_takeCounter_47 rfl (lv_at hl 2 rfl) ?_
          refine lv_iload hx hb dX0_takeCounter_48 (lv_at hl 0 rfl) ?_
          refine lv_if_eq (tgt := 57) hx hb dX0_takeCounter_50 (by decide) (fun _ => ?_) (fun c_6 => absurd c_6 (by decide))
          refine lv_iconst (v := (-1)) hx hb dX0_takeCounter_57 (by decide) ?_
          refine z_iast (k := j) hx hb hK hP hD hS 3 0 rfl rfl rfl (by omega) (by decide) dX0_takeCounter_58 (fun H locs hP hD hS => ?_)
          have hP : va_P D vwCl [cE a v, (a 2, .inl (cA 0, 4, .inl lo)), (a 3, .inl (cA 0, 4, .inl hi)), (a 7, .inl (cA 0, 4, .inl (upd (mix j (ctr lo hi f g) g) j (-1)))), (b, .inl (cA 0, 4, .inl f))] H := hP
          have hD : va_D A [cE a v, (a 2, .inl (cA 0, 4, .inl lo)), (a 3, .inl (cA 0, 4, .inl hi)), (a 7, .inl (cA 0, 4, .inl (upd (mix j (ctr lo hi f g) g) j (-1)))), (b, .inl (cA 0, 4, .inl f))] := hD
          refine lv_iinc (v := nI (j + 1)) (lv' := [(2, .int (nI (j + 1))), (4, .int 0), (3, .int (f j)), (0, .ref (a 0)), (1, .ref b)]) hx hb dX0_takeCounter_59 hl (k := 2) rfl (z_inc j 1) (by decide) rfl (fun ls hl => ?_)
          refine lv_goto (tgt := 2) hx hb dX0_takeCounter_62 (by decide) ?_
          have hP : va_P D vwCl [cE a v, (a 2, .inl (cA 0, 4, .inl lo)), (a 3, .inl (cA 0, 4, .inl hi)), (a 7, .inl (cA 0, 4, .inl (mix (j + 1) (ctr lo hi f g) g))), (b, .inl (cA 0, 4, .inl f))] H := z_row hP 3 rfl (fun k _ => congrFun (show upd (mix j (ctr lo hi f g) g) j (-1) = mix (j + 1) (ctr lo hi f g) g from mix_put (by simp [ctr, c_1, c_2, c_3, c_5])) k)
          have hD : va_D A [cE a v, (a 2, .inl (cA 0, 4, .inl lo)), (a 3, .inl (cA 0, 4, .inl hi)), (a 7, .inl (cA 0, 4, .inl (mix (j + 1) (ctr lo hi f g) g))), (b, .inl (cA 0, 4, .inl f))] := hD.set (p := 3) rfl
          exact ih_j _ _ _ (by omega) ⟨hP, hD, hS, lv_sub hl [0, 3, 4] rfl⟩
        · skip
          refine lv_iconst (v := 1) hx hb dX0_takeCounter_36 (by decide) ?_
          refine lv_goto (tgt := 41) hx hb dX0_takeCounter_37 (by decide) ?_
          refine lv_istore (lv' := [(4, .int 1), (3, .int (f j)), (2, .int (nI j)), (0, .ref (a 0)), (1, .ref b)]) hx hb dX0_takeCounter_41 hl (by decide) rfl (fun ls hl => ?_)
          refine lv_aload_n hx hb dX0_takeCounter_43 rfl (lv_at hl 3 rfl) ?_
          refine va_get (D := D) (ci := 1) (v := .ref (a 7)) (C := RX0) (T := TX0) (N := 16) hx hb hts (fun _ h => List.mem_cons_of_mem _ (List.mem_append_right _ (h))) hown hK hP 0 rfl rfl 6 (by decide) (hts (.fieldLink RX0 31 "OptionWire$End" "asked" "[I") (List.mem_of_getElem? (i := 3) rfl)) (fun _ h9 => h9) rfl dX0_takeCounter_44 ?_
          refine lv_iload_n hx hb dX0_takeCounter_47 rfl (lv_at hl 2 rfl) ?_
          refine lv_iload hx hb dX0_takeCounter_48 (lv_at hl 0 rfl) ?_
          refine lv_if_eq (tgt := 57) hx hb dX0_takeCounter_50 (by decide) (fun c_7 => absurd c_7 (by decide)) (fun _ => ?_)
          refine lv_iload_n hx hb dX0_takeCounter_53 rfl (lv_at hl 1 rfl) ?_
          refine lv_goto (tgt := 58) hx hb dX0_takeCounter_54 (by decide) ?_
          refine z_iast (k := j) hx hb hK hP hD hS 3 0 rfl rfl rfl (by omega) (by decide) dX0_takeCounter_58 (fun H locs hP hD hS => ?_)
          have hP : va_P D vwCl [cE a v, (a 2, .inl (cA 0, 4, .inl lo)), (a 3, .inl (cA 0, 4, .inl hi)), (a 7, .inl (cA 0, 4, .inl (upd (mix j (ctr lo hi f g) g) j (f j)))), (b, .inl (cA 0, 4, .inl f))] H := hP
          have hD : va_D A [cE a v, (a 2, .inl (cA 0, 4, .inl lo)), (a 3, .inl (cA 0, 4, .inl hi)), (a 7, .inl (cA 0, 4, .inl (upd (mix j (ctr lo hi f g) g) j (f j)))), (b, .inl (cA 0, 4, .inl f))] := hD
          refine lv_iinc (v := nI (j + 1)) (lv' := [(2, .int (nI (j + 1))), (4, .int 1), (3, .int (f j)), (0, .ref (a 0)), (1, .ref b)]) hx hb dX0_takeCounter_59 hl (k := 2) rfl (z_inc j 1) (by decide) rfl (fun ls hl => ?_)
          refine lv_goto (tgt := 2) hx hb dX0_takeCounter_62 (by decide) ?_
          have hP : va_P D vwCl [cE a v, (a 2, .inl (cA 0, 4, .inl lo)), (a 3, .inl (cA 0, 4, .inl hi)), (a 7, .inl (cA 0, 4, .inl (mix (j + 1) (ctr lo hi f g) g))), (b, .inl (cA 0, 4, .inl f))] H := z_row hP 3 rfl (fun k _ => congrFun (show upd (mix j (ctr lo hi f g) g) j (f j) = mix (j + 1) (ctr lo hi f g) g from mix_put (by simp [ctr, c_1, c_2, c_3, c_5])) k)
          have hD : va_D A [cE a v, (a 2, .inl (cA 0, 4, .inl lo)), (a 3, .inl (cA 0, 4, .inl hi)), (a 7, .inl (cA 0, 4, .inl (mix (j + 1) (ctr lo hi f g) g))), (b, .inl (cA 0, 4, .inl f))] := hD.set (p := 3) rfl
          exact ih_j _ _ _ (by omega) ⟨hP, hD, hS, lv_sub hl [0, 3, 4] rfl⟩
set_option maxHeartbeats 4000000 in
set_option maxRecDepth 100000 in
/-- End.takeRefusal(values) -/
theorem c_X0_takeRefusal (l : Launch) (D : va_G) (cA : Nat → ClassId) (sz : Nat) (a : Nat → Nat) (v : Nat → Int32) (b : Nat) (g f : Nat → Int32)  : Met l yX0_takeRefusal wsX0_takeRefusal ({ frames := 0, cells := 0, slots := 0, locals := 0 }) (va_Pc [.ref (a 0), .ref b] (zU D cA sz [cE a v, (a 7, .inl (cA 0, 4, .inl g)), (b, .inl (cA 0, 4, .inl f))])) (va_Qv (fun (_ : Unit) => True) (fun (_ : Unit) t => zB D [cE a v, (a 7, .inl (cA 0, 4, .inl g)), (b, .inl (cA 0, 4, .inl f))] sz [cE a v, (a 7, .inl (cA 0, 4, .inl (rfl4 f g))), (b, .inl (cA 0, 4, .inl f))] t) (va_A [cE a v, (a 7, .inl (cA 0, 4, .inl g)), (b, .inl (cA 0, 4, .inl f))] sz)) 0 0 (va_A [cE a v, (a 7, .inl (cA 0, 4, .inl g)), (b, .inl (cA 0, 4, .inl f))] sz) := by
  refine Met.ofW (cc := cX0_takeRefusal) (maxL := 3) (ret := none) (by decide) rfl ?_
  intro p e s m args below meth c s₁ B hml hv
  obtain ⟨rfl, hsz, hP, hK, hD0⟩ := hv
  have hx := B.exec
  have hb := B.bytes
  have hr := B.returns
  have hts := atoms_spec (ws := wsX0_takeRefusal) B.pre
  have hown : s.vm.findClass RX0 = some m.cls := findClass_of_methodNamed B.named
  have hlocks := B.notSynchronized
  subst hsz
  have hD := hD0.self (sz := s.heap.size)
  generalize hAe : va_A [cE a v, (a 7, .inl (cA 0, 4, .inl g)), (b, .inl (cA 0, 4, .inl f))] s.heap.size = A at hD ⊢
  have hA : ∀ q : Nat, s.heap.size ≤ q → A q := fun q h => by rw [← hAe]; exact Or.inr h
  have hS : va_S A s.heap s.heap [] := va_S.rf
  have hl := lv_entry ([.ref (a 0), .ref b]) (n := 3) (Nat.le_of_ble_eq_true rfl)
  rw [lg_entry_eq]
  generalize (lg_sl ([.ref (a 0), .ref b]) ++ List.replicate (3 - (lg_sl ([.ref (a 0), .ref b])).length) Slot.unset).toArray = ls at hl ⊢
  have hl : lv_has ls 3 [(0, .ref (a 0)), (1, .ref b)] := hl
  refine lv_iconst (v := 0) hx hb dX0_takeRefusal_0 (by decide) ?_
  refine lv_istore_n (lv' := [(2, .int 0), (0, .ref (a 0)), (1, .ref b)]) hx hb dX0_takeRefusal_1 rfl hl (by decide) rfl (fun ls hl => ?_)
  -- the loop at 2
  have hP : va_P D vwCl [cE a v, (a 7, .inl (cA 0, 4, .inl (mix 0 (rfl4 f g) g))), (b, .inl (cA 0, 4, .inl f))] s.heap := z_row hP 1 rfl (fun k _ => congrFun (show g = mix 0 (rfl4 f g) g from mix_0 _ g) k)
  have hD : va_D A [cE a v, (a 7, .inl (cA 0, 4, .inl (mix 0 (rfl4 f g) g))), (b, .inl (cA 0, 4, .inl f))] := hD.set (p := 1) rfl
  refine z_loop (Inv := fun j H locs ls => va_P D vwCl [cE a v, (a 7, .inl (cA 0, 4, .inl (mix j (rfl4 f g) g))), (b, .inl (cA 0, 4, .inl f))] H ∧ va_D A [cE a v, (a 7, .inl (cA 0, 4, .inl (mix j (rfl4 f g) g))), (b, .inl (cA 0, 4, .inl f))] ∧ va_S A s.heap H locs ∧ lv_has ls 3 [(2, .int (nI j)), (0, .ref (a 0)), (1, .ref b)]) 4 (fun j hj_j ih_j H locs ls hI => ?_) ⟨hP, hD, hS, lv_sub hl [0, 1, 2] rfl⟩
  obtain ⟨hP, hD, hS, hl⟩ := hI
  refine lv_iload_n hx hb dX0_takeRefusal_2 rfl (lv_at hl 0 rfl) ?_
  refine lv_iconst (v := 4) hx hb dX0_takeRefusal_3 (by decide) ?_
  refine lv_icmp_ge (tgt := 27) hx hb dX0_takeRefusal_4 (by decide) (fun c_1 => ?_) (fun c_1 => ?_)
  · have c_1 := (nI_leI (a := 4) (b := j) (by omega) (by omega)).mp c_1
    obtain rfl : j = 4 := by omega
    have hP : va_P D vwCl [cE a v, (a 7, .inl (cA 0, 4, .inl (rfl4 f g))), (b, .inl (cA 0, 4, .inl f))] H := z_row hP 1 rfl mix_all
    have hD : va_D A [cE a v, (a 7, .inl (cA 0, 4, .inl (rfl4 f g))), (b, .inl (cA 0, 4, .inl f))] := hD.set (p := 1) rfl
    refine W.widen (k := 0) (n := 0) (by omega) (by omega) ?_
    exact W.vret hx hb hr (fun t ht hW => ⟨⟨(), rfl, trivial, ⟨by rw [ht]; exact hP, by rw [hAe]; exact hD⟩⟩, hS.F ht⟩) hS.2.2 dX0_takeRefusal_27
  · have c_1 := mt (nI_leI (a := 4) (b := j) (by omega) (by omega)).mpr c_1
    refine lv_aload_n hx hb dX0_takeRefusal_7 rfl (lv_at hl 2 rfl) ?_
    refine lv_iload_n hx hb dX0_takeRefusal_8 rfl (lv_at hl 0 rfl) ?_
    refine z_iald (k := j) (v := (f j)) hx hb hK hP 2 0 rfl rfl rfl (by omega) (by decide) rfl dX0_takeRefusal_9 ?_
    refine lv_iconst (v := (-1)) hx hb dX0_takeRefusal_10 (by decide) ?_
    refine lv_icmp_eq (tgt := 21) hx hb dX0_takeRefusal_11 (by decide) (fun c_2 => ?_) (fun c_2 => ?_)
    · skip
      refine lv_iinc (v := nI (j + 1)) (lv' := [(2, .int (nI (j + 1))), (0, .ref (a 0)), (1, .ref b)]) hx hb dX0_takeRefusal_21 hl (k := 0) rfl (z_inc j 1) (by decide) rfl (fun ls hl => ?_)
      refine lv_goto (tgt := 2) hx hb dX0_takeRefusal_24 (by decide) ?_
      have hP : va_P D vwCl [cE a v, (a 7, .inl (cA 0, 4, .inl (mix (j + 1) (rfl4 f g) g))), (b, .inl (cA 0, 4, .inl f))] H := z_row hP 1 rfl (fun k _ => congrFun (show mix j (rfl4 f g) g = mix (j + 1) (rfl4 f g) g from mix_keep (by simp [rfl4, c_1, c_2])) k)
      have hD : va_D A [cE a v, (a 7, .inl (cA 0, 4, .inl (mix (j + 1) (rfl4 f g) g))), (b, .inl (cA 0, 4, .inl f))] := hD.set (p := 1) rfl
      exact ih_j _ _ _ (by omega) ⟨hP, hD, hS, lv_sub hl [0, 1, 2] rfl⟩
    · skip
      refine lv_aload_n hx hb dX0_takeRefusal_14 rfl (lv_at hl 1 rfl) ?_
      refine va_get (D := D) (ci := 1) (v := .ref (a 7)) (C := RX0) (T := TX0) (N := 16) hx hb hts (fun _ h => List.mem_cons_of_mem _ (List.mem_append_right _ (h))) hown hK hP 0 rfl rfl 6 (by decide) (hts (.fieldLink RX0 31 "OptionWire$End" "asked" "[I") (List.mem_of_getElem? (i := 1) rfl)) (fun _ h9 => h9) rfl dX0_takeRefusal_15 ?_
      refine lv_iload_n hx hb dX0_takeRefusal_18 rfl (lv_at hl 0 rfl) ?_
      refine lv_iconst (v := (-1)) hx hb dX0_takeRefusal_19 (by decide) ?_
      refine z_iast (k := j) hx hb hK hP hD hS 1 0 rfl rfl rfl (by omega) (by decide) dX0_takeRefusal_20 (fun H locs hP hD hS => ?_)
      have hP : va_P D vwCl [cE a v, (a 7, .inl (cA 0, 4, .inl (upd (mix j (rfl4 f g) g) j (-1)))), (b, .inl (cA 0, 4, .inl f))] H := hP
      have hD : va_D A [cE a v, (a 7, .inl (cA 0, 4, .inl (upd (mix j (rfl4 f g) g) j (-1)))), (b, .inl (cA 0, 4, .inl f))] := hD
      refine lv_iinc (v := nI (j + 1)) (lv' := [(2, .int (nI (j + 1))), (0, .ref (a 0)), (1, .ref b)]) hx hb dX0_takeRefusal_21 hl (k := 0) rfl (z_inc j 1) (by decide) rfl (fun ls hl => ?_)
      refine lv_goto (tgt := 2) hx hb dX0_takeRefusal_24 (by decide) ?_
      have hP : va_P D vwCl [cE a v, (a 7, .inl (cA 0, 4, .inl (mix (j + 1) (rfl4 f g) g))), (b, .inl (cA 0, 4, .inl f))] H := z_row hP 1 rfl (fun k _ => congrFun (show upd (mix j (rfl4 f g) g) j (-1) = mix (j + 1) (rfl4 f g) g from mix_put (by simp [rfl4, c_1, c_2])) k)
      have hD : va_D A [cE a v, (a 7, .inl (cA 0, 4, .inl (mix (j + 1) (rfl4 f g) g))), (b, .inl (cA 0, 4, .inl f))] := hD.set (p := 1) rfl
      exact ih_j _ _ _ (by omega) ⟨hP, hD, hS, lv_sub hl [0, 1, 2] rfl⟩
set_option maxHeartbeats 4000000 in
set_option maxRecDepth 100000 in
/-- End.putRefused(values, answer) -/
theorem c_X0_putRefused (l : Launch) (D : va_G) (cA : Nat → ClassId) (sz : Nat) (a : Nat → Nat) (v : Nat → Int32) (b b2 : Nat) (rf f g : Nat → Int32)  : Met l yX0_putRefused wsX0_putRefused ({ frames := 0, cells := 0, slots := 0, locals := 0 }) (va_Pc [.ref (a 0), .ref b, .ref b2] (zU D cA sz [cE a v, (a 6, .inl (cA 1, 4, .inl rf)), (b, .inl (cA 0, 4, .inl f)), (b2, .inl (cA 0, 4, .inl g))])) (va_Qi (fun (r : Int32) (_ : Unit) => r = bI (anB (isR f rf) 4 = true)) (fun (_ : Unit) t => zB D [cE a v, (a 6, .inl (cA 1, 4, .inl rf)), (b, .inl (cA 0, 4, .inl f)), (b2, .inl (cA 0, 4, .inl g))] sz [cE a v, (a 6, .inl (cA 1, 4, .inl rf)), (b, .inl (cA 0, 4, .inl f)), (b2, .inl (cA 0, 4, .inl (rfd f rf)))] t) (va_A [cE a v, (a 6, .inl (cA 1, 4, .inl rf)), (b, .inl (cA 0, 4, .inl f)), (b2, .inl (cA 0, 4, .inl g))] sz)) 0 0 (va_A [cE a v, (a 6, .inl (cA 1, 4, .inl rf)), (b, .inl (cA 0, 4, .inl f)), (b2, .inl (cA 0, 4, .inl g))] sz) := by
  refine Met.ofW (cc := cX0_putRefused) (maxL := 6) (ret := (some .boolean)) (by decide) rfl ?_
  intro p e s m args below meth c s₁ B hml hv
  obtain ⟨rfl, hsz, hP, hK, hD0⟩ := hv
  have hx := B.exec
  have hb := B.bytes
  have hr := B.returns
  have hts := atoms_spec (ws := wsX0_putRefused) B.pre
  have hown : s.vm.findClass RX0 = some m.cls := findClass_of_methodNamed B.named
  have hlocks := B.notSynchronized
  subst hsz
  have hD := hD0.self (sz := s.heap.size)
  generalize hAe : va_A [cE a v, (a 6, .inl (cA 1, 4, .inl rf)), (b, .inl (cA 0, 4, .inl f)), (b2, .inl (cA 0, 4, .inl g))] s.heap.size = A at hD ⊢
  have hA : ∀ q : Nat, s.heap.size ≤ q → A q := fun q h => by rw [← hAe]; exact Or.inr h
  have hS : va_S A s.heap s.heap [] := va_S.rf
  have hl := lv_entry ([.ref (a 0), .ref b, .ref b2]) (n := 6) (Nat.le_of_ble_eq_true rfl)
  rw [lg_entry_eq]
  generalize (lg_sl ([.ref (a 0), .ref b, .ref b2]) ++ List.replicate (6 - (lg_sl ([.ref (a 0), .ref b, .ref b2])).length) Slot.unset).toArray = ls at hl ⊢
  have hl : lv_has ls 6 [(0, .ref (a 0)), (1, .ref b), (2, .ref b2)] := hl
  refine lv_iconst (v := 0) hx hb dX0_putRefused_0 (by decide) ?_
  refine lv_istore_n (lv' := [(3, .int 0), (0, .ref (a 0)), (1, .ref b), (2, .ref b2)]) hx hb dX0_putRefused_1 rfl hl (by decide) rfl (fun ls hl => ?_)
  refine lv_iconst (v := 0) hx hb dX0_putRefused_2 (by decide) ?_
  refine lv_istore (lv' := [(4, .int 0), (3, .int 0), (0, .ref (a 0)), (1, .ref b), (2, .ref b2)]) hx hb dX0_putRefused_3 hl (by decide) rfl (fun ls hl => ?_)
  -- the loop at 5
  have hP : va_P D vwCl [cE a v, (a 6, .inl (cA 1, 4, .inl rf)), (b, .inl (cA 0, 4, .inl f)), (b2, .inl (cA 0, 4, .inl (mix 0 (rfd f rf) g)))] s.heap := z_row hP 3 rfl (fun k _ => congrFun (show g = mix 0 (rfd f rf) g from mix_0 _ g) k)
  have hD : va_D A [cE a v, (a 6, .inl (cA 1, 4, .inl rf)), (b, .inl (cA 0, 4, .inl f)), (b2, .inl (cA 0, 4, .inl (mix 0 (rfd f rf) g)))] := hD.set (p := 3) rfl
  refine z_loop (Inv := fun j H locs ls => va_P D vwCl [cE a v, (a 6, .inl (cA 1, 4, .inl rf)), (b, .inl (cA 0, 4, .inl f)), (b2, .inl (cA 0, 4, .inl (mix j (rfd f rf) g)))] H ∧ va_D A [cE a v, (a 6, .inl (cA 1, 4, .inl rf)), (b, .inl (cA 0, 4, .inl f)), (b2, .inl (cA 0, 4, .inl (mix j (rfd f rf) g)))] ∧ va_S A s.heap H locs ∧ lv_has ls 6 [(4, .int (nI j)), (3, .int (bB (anB (isR f rf) j))), (0, .ref (a 0)), (1, .ref b), (2, .ref b2)]) 4 (fun j hj_j ih_j H locs ls hI => ?_) ⟨hP, hD, hS, lv_sub hl [0, 1, 2, 3, 4] rfl⟩
  obtain ⟨hP, hD, hS, hl⟩ := hI
  refine lv_iload hx hb dX0_putRefused_5 (lv_at hl 0 rfl) ?_
  refine lv_iconst (v := 4) hx hb dX0_putRefused_7 (by decide) ?_
  refine lv_icmp_ge (tgt := 74) hx hb dX0_putRefused_8 (by decide) (fun c_1 => ?_) (fun c_1 => ?_)
  · have c_1 := (nI_leI (a := 4) (b := j) (by omega) (by omega)).mp c_1
    obtain rfl : j = 4 := by omega
    have hP : va_P D vwCl [cE a v, (a 6, .inl (cA 1, 4, .inl rf)), (b, .inl (cA 0, 4, .inl f)), (b2, .inl (cA 0, 4, .inl (rfd f rf)))] H := z_row hP 3 rfl mix_all
    have hD : va_D A [cE a v, (a 6, .inl (cA 1, 4, .inl rf)), (b, .inl (cA 0, 4, .inl f)), (b2, .inl (cA 0, 4, .inl (rfd f rf)))] := hD.set (p := 3) rfl
    refine lv_iload_n hx hb dX0_putRefused_74 rfl (lv_at hl 1 rfl) ?_
    refine W.widen (k := 0) (n := 0) (by omega) (by omega) ?_
    exact W.zret (v := (bB (anB (isR f rf) 4))) hx hb hr (by cases anB (isR f rf) 4 <;> rfl) (fun t ht hW => ⟨⟨bB (anB (isR f rf) 4), (), rfl, by simp [bB, bI], ⟨by rw [ht]; exact hP, by rw [hAe]; exact hD⟩⟩, hS.F ht⟩) hS.2.2 dX0_putRefused_75
  · have c_1 := mt (nI_leI (a := 4) (b := j) (by omega) (by omega)).mpr c_1
    refine lv_aload_n hx hb dX0_putRefused_11 rfl (lv_at hl 3 rfl) ?_
    refine lv_iload hx hb dX0_putRefused_12 (lv_at hl 0 rfl) ?_
    refine z_iald (k := j) (v := (f j)) hx hb hK hP 2 0 rfl rfl rfl (by omega) (by decide) rfl dX0_putRefused_14 ?_
    refine lv_iconst (v := (-1)) hx hb dX0_putRefused_15 (by decide) ?_
    refine lv_icmp_eq (tgt := 33) hx hb dX0_putRefused_16 (by decide) (fun c_2 => ?_) (fun c_2 => ?_)
    · skip
      refine lv_iconst (v := 0) hx hb dX0_putRefused_33 (by decide) ?_
      refine lv_istore (lv' := [(5, .int 0), (4, .int (nI j)), (3, .int (bB (anB (isR f rf) j))), (0, .ref (a 0)), (1, .ref b), (2, .ref b2)]) hx hb dX0_putRefused_34 hl (by decide) rfl (fun ls hl => ?_)
      refine lv_aload_n hx hb dX0_putRefused_36 rfl (lv_at hl 5 rfl) ?_
      refine lv_iload hx hb dX0_putRefused_37 (lv_at hl 1 rfl) ?_
      refine lv_iload hx hb dX0_putRefused_39 (lv_at hl 0 rfl) ?_
      refine lv_if_eq (tgt := 51) hx hb dX0_putRefused_41 (by decide) (fun _ => ?_) (fun c_3 => absurd c_3 (by decide))
      refine lv_iconst (v := (-1)) hx hb dX0_putRefused_51 (by decide) ?_
      refine z_iast (k := j) hx hb hK hP hD hS 3 0 rfl rfl rfl (by omega) (by decide) dX0_putRefused_52 (fun H locs hP hD hS => ?_)
      have hP : va_P D vwCl [cE a v, (a 6, .inl (cA 1, 4, .inl rf)), (b, .inl (cA 0, 4, .inl f)), (b2, .inl (cA 0, 4, .inl (upd (mix j (rfd f rf) g) j (-1))))] H := hP
      have hD : va_D A [cE a v, (a 6, .inl (cA 1, 4, .inl rf)), (b, .inl (cA 0, 4, .inl f)), (b2, .inl (cA 0, 4, .inl (upd (mix j (rfd f rf) g) j (-1))))] := hD
      refine lv_iload_n hx hb dX0_putRefused_53 rfl (lv_at hl 2 rfl) ?_
      refine lv_if_ne (tgt := 62) hx hb dX0_putRefused_54 (by decide) (fun c_4 => ?_) (fun c_4 => ?_)
      · skip
        have c_4 : anB (isR f rf) j = true := by simpa [bB] using c_4
        refine lv_iconst (v := 1) hx hb dX0_putRefused_62 (by decide) ?_
        refine lv_goto (tgt := 67) hx hb dX0_putRefused_63 (by decide) ?_
        refine lv_istore_n (lv' := [(3, .int 1), (5, .int 0), (4, .int (nI j)), (0, .ref (a 0)), (1, .ref b), (2, .ref b2)]) hx hb dX0_putRefused_67 rfl hl (by decide) rfl (fun ls hl => ?_)
        refine lv_iinc (v := nI (j + 1)) (lv' := [(4, .int (nI (j + 1))), (3, .int 1), (5, .int 0), (0, .ref (a 0)), (1, .ref b), (2, .ref b2)]) hx hb dX0_putRefused_68 hl (k := 2) rfl (z_inc j 1) (by decide) rfl (fun ls hl => ?_)
        refine lv_goto (tgt := 5) hx hb dX0_putRefused_71 (by decide) ?_
        have hP : va_P D vwCl [cE a v, (a 6, .inl (cA 1, 4, .inl rf)), (b, .inl (cA 0, 4, .inl f)), (b2, .inl (cA 0, 4, .inl (mix (j + 1) (rfd f rf) g)))] H := z_row hP 3 rfl (fun k _ => congrFun (show upd (mix j (rfd f rf) g) j (-1) = mix (j + 1) (rfd f rf) g from mix_put (by simp [rfd, c_1, c_2, c_4])) k)
        have hD : va_D A [cE a v, (a 6, .inl (cA 1, 4, .inl rf)), (b, .inl (cA 0, 4, .inl f)), (b2, .inl (cA 0, 4, .inl (mix (j + 1) (rfd f rf) g)))] := hD.set (p := 3) rfl
        exact ih_j _ _ _ (by omega) ⟨hP, hD, hS, (by rw [show bB (anB (isR f rf) (j + 1)) = 1 from by simp [anB, bB, c_1, c_2, c_4]]; exact lv_sub hl [0, 1, 3, 4, 5] rfl)⟩
      · skip
        have c_4 : anB (isR f rf) j = false := by simpa [bB] using c_4
        refine lv_iload hx hb dX0_putRefused_57 (lv_at hl 0 rfl) ?_
        refine lv_if_eq (tgt := 66) hx hb dX0_putRefused_59 (by decide) (fun _ => ?_) (fun c_5 => absurd c_5 (by decide))
        refine lv_iconst (v := 0) hx hb dX0_putRefused_66 (by decide) ?_
        refine lv_istore_n (lv' := [(3, .int 0), (5, .int 0), (4, .int (nI j)), (0, .ref (a 0)), (1, .ref b), (2, .ref b2)]) hx hb dX0_putRefused_67 rfl hl (by decide) rfl (fun ls hl => ?_)
        refine lv_iinc (v := nI (j + 1)) (lv' := [(4, .int (nI (j + 1))), (3, .int 0), (5, .int 0), (0, .ref (a 0)), (1, .ref b), (2, .ref b2)]) hx hb dX0_putRefused_68 hl (k := 2) rfl (z_inc j 1) (by decide) rfl (fun ls hl => ?_)
        refine lv_goto (tgt := 5) hx hb dX0_putRefused_71 (by decide) ?_
        have hP : va_P D vwCl [cE a v, (a 6, .inl (cA 1, 4, .inl rf)), (b, .inl (cA 0, 4, .inl f)), (b2, .inl (cA 0, 4, .inl (mix (j + 1) (rfd f rf) g)))] H := z_row hP 3 rfl (fun k _ => congrFun (show upd (mix j (rfd f rf) g) j (-1) = mix (j + 1) (rfd f rf) g from mix_put (by simp [rfd, c_1, c_2, c_4])) k)
        have hD : va_D A [cE a v, (a 6, .inl (cA 1, 4, .inl rf)), (b, .inl (cA 0, 4, .inl f)), (b2, .inl (cA 0, 4, .inl (mix (j + 1) (rfd f rf) g)))] := hD.set (p := 3) rfl
        exact ih_j _ _ _ (by omega) ⟨hP, hD, hS, (by rw [show bB (anB (isR f rf) (j + 1)) = 0 from by simp [anB, bB, c_1, c_2, c_4]]; exact lv_sub hl [0, 1, 3, 4, 5] rfl)⟩
    · skip
      refine lv_aload_n hx hb dX0_putRefused_19 rfl (lv_at hl 2 rfl) ?_
      refine va_get (D := D) (ci := 1) (v := .ref (a 6)) (C := RX0) (T := TX0) (N := 16) hx hb hts (fun _ h => List.mem_cons_of_mem _ (List.mem_append_right _ (h))) hown hK hP 0 rfl rfl 5 (by decide) (hts (.fieldLink RX0 27 "OptionWire$End" "refused" "[Z") (List.mem_of_getElem? (i := 1) rfl)) (fun _ h9 => h9) rfl dX0_putRefused_20 ?_
      refine lv_iload hx hb dX0_putRefused_23 (lv_at hl 0 rfl) ?_
      refine z_zald (k := j) (v := (rf j)) hx hb hK hP 1 1 rfl rfl rfl (by omega) (by decide) rfl dX0_putRefused_25 ?_
      refine lv_if_eq (tgt := 33) hx hb dX0_putRefused_26 (by decide) (fun c_6 => ?_) (fun c_6 => ?_)
      · skip
        refine lv_iconst (v := 0) hx hb dX0_putRefused_33 (by decide) ?_
        refine lv_istore (lv' := [(5, .int 0), (4, .int (nI j)), (3, .int (bB (anB (isR f rf) j))), (0, .ref (a 0)), (1, .ref b), (2, .ref b2)]) hx hb dX0_putRefused_34 hl (by decide) rfl (fun ls hl => ?_)
        refine lv_aload_n hx hb dX0_putRefused_36 rfl (lv_at hl 5 rfl) ?_
        refine lv_iload hx hb dX0_putRefused_37 (lv_at hl 1 rfl) ?_
        refine lv_iload hx hb dX0_putRefused_39 (lv_at hl 0 rfl) ?_
        refine lv_if_eq (tgt := 51) hx hb dX0_putRefused_41 (by decide) (fun _ => ?_) (fun c_7 => absurd c_7 (by decide))
        refine lv_iconst (v := (-1)) hx hb dX0_putRefused_51 (by decide) ?_
        refine z_iast (k := j) hx hb hK hP hD hS 3 0 rfl rfl rfl (by omega) (by decide) dX0_putRefused_52 (fun H locs hP hD hS => ?_)
        have hP : va_P D vwCl [cE a v, (a 6, .inl (cA 1, 4, .inl rf)), (b, .inl (cA 0, 4, .inl f)), (b2, .inl (cA 0, 4, .inl (upd (mix j (rfd f rf) g) j (-1))))] H := hP
        have hD : va_D A [cE a v, (a 6, .inl (cA 1, 4, .inl rf)), (b, .inl (cA 0, 4, .inl f)), (b2, .inl (cA 0, 4, .inl (upd (mix j (rfd f rf) g) j (-1))))] := hD
        refine lv_iload_n hx hb dX0_putRefused_53 rfl (lv_at hl 2 rfl) ?_
        refine lv_if_ne (tgt := 62) hx hb dX0_putRefused_54 (by decide) (fun c_8 => ?_) (fun c_8 => ?_)
        · skip
          have c_8 : anB (isR f rf) j = true := by simpa [bB] using c_8
          refine lv_iconst (v := 1) hx hb dX0_putRefused_62 (by decide) ?_
          refine lv_goto (tgt := 67) hx hb dX0_putRefused_63 (by decide) ?_
          refine lv_istore_n (lv' := [(3, .int 1), (5, .int 0), (4, .int (nI j)), (0, .ref (a 0)), (1, .ref b), (2, .ref b2)]) hx hb dX0_putRefused_67 rfl hl (by decide) rfl (fun ls hl => ?_)
          refine lv_iinc (v := nI (j + 1)) (lv' := [(4, .int (nI (j + 1))), (3, .int 1), (5, .int 0), (0, .ref (a 0)), (1, .ref b), (2, .ref b2)]) hx hb dX0_putRefused_68 hl (k := 2) rfl (z_inc j 1) (by decide) rfl (fun ls hl => ?_)
          refine lv_goto (tgt := 5) hx hb dX0_putRefused_71 (by decide) ?_
          have hP : va_P D vwCl [cE a v, (a 6, .inl (cA 1, 4, .inl rf)), (b, .inl (cA 0, 4, .inl f)), (b2, .inl (cA 0, 4, .inl (mix (j + 1) (rfd f rf) g)))] H := z_row hP 3 rfl (fun k _ => congrFun (show upd (mix j (rfd f rf) g) j (-1) = mix (j + 1) (rfd f rf) g from mix_put (by simp [rfd, c_1, c_2, c_6, c_8])) k)
          have hD : va_D A [cE a v, (a 6, .inl (cA 1, 4, .inl rf)), (b, .inl (cA 0, 4, .inl f)), (b2, .inl (cA 0, 4, .inl (mix (j + 1) (rfd f rf) g)))] := hD.set (p := 3) rfl
          exact ih_j _ _ _ (by omega) ⟨hP, hD, hS, (by rw [show bB (anB (isR f rf) (j + 1)) = 1 from by simp [anB, bB, c_1, c_2, c_6, c_8]]; exact lv_sub hl [0, 1, 3, 4, 5] rfl)⟩
        · skip
          have c_8 : anB (isR f rf) j = false := by simpa [bB] using c_8
          refine lv_iload hx hb dX0_putRefused_57 (lv_at hl 0 rfl) ?_
          refine lv_if_eq (tgt := 66) hx hb dX0_putRefused_59 (by decide) (fun _ => ?_) (fun c_9 => absurd c_9 (by decide))
          refine lv_iconst (v := 0) hx hb dX0_putRefused_66 (by decide) ?_
          refine lv_istore_n (lv' := [(3, .int 0), (5, .int 0), (4, .int (nI j)), (0, .ref (a 0)), (1, .ref b), (2, .ref b2)]) hx hb dX0_putRefused_67 rfl hl (by decide) rfl (fun ls hl => ?_)
          refine lv_iinc (v := nI (j + 1)) (lv' := [(4, .int (nI (j + 1))), (3, .int 0), (5, .int 0), (0, .ref (a 0)), (1, .ref b), (2, .ref b2)]) hx hb dX0_putRefused_68 hl (k := 2) rfl (z_inc j 1) (by decide) rfl (fun ls hl => ?_)
          refine lv_goto (tgt := 5) hx hb dX0_putRefused_71 (by decide) ?_
          have hP : va_P D vwCl [cE a v, (a 6, .inl (cA 1, 4, .inl rf)), (b, .inl (cA 0, 4, .inl f)), (b2, .inl (cA 0, 4, .inl (mix (j + 1) (rfd f rf) g)))] H := z_row hP 3 rfl (fun k _ => congrFun (show upd (mix j (rfd f rf) g) j (-1) = mix (j + 1) (rfd f rf) g from mix_put (by simp [rfd, c_1, c_2, c_6, c_8])) k)
          have hD : va_D A [cE a v, (a 6, .inl (cA 1, 4, .inl rf)), (b, .inl (cA 0, 4, .inl f)), (b2, .inl (cA 0, 4, .inl (mix (j + 1) (rfd f rf) g)))] := hD.set (p := 3) rfl
          exact ih_j _ _ _ (by omega) ⟨hP, hD, hS, (by rw [show bB (anB (isR f rf) (j + 1)) = 0 from by simp [anB, bB, c_1, c_2, c_6, c_8]]; exact lv_sub hl [0, 1, 3, 4, 5] rfl)⟩
      · skip
        refine lv_iconst (v := 1) hx hb dX0_putRefused_29 (by decide) ?_
        refine lv_goto (tgt := 34) hx hb dX0_putRefused_30 (by decide) ?_
        refine lv_istore (lv' := [(5, .int 1), (4, .int (nI j)), (3, .int (bB (anB (isR f rf) j))), (0, .ref (a 0)), (1, .ref b), (2, .ref b2)]) hx hb dX0_putRefused_34 hl (by decide) rfl (fun ls hl => ?_)
        refine lv_aload_n hx hb dX0_putRefused_36 rfl (lv_at hl 5 rfl) ?_
        refine lv_iload hx hb dX0_putRefused_37 (lv_at hl 1 rfl) ?_
        refine lv_iload hx hb dX0_putRefused_39 (lv_at hl 0 rfl) ?_
        refine lv_if_eq (tgt := 51) hx hb dX0_putRefused_41 (by decide) (fun c_10 => absurd c_10 (by decide)) (fun _ => ?_)
        refine lv_aload_n hx hb dX0_putRefused_44 rfl (lv_at hl 4 rfl) ?_
        refine lv_iload hx hb dX0_putRefused_45 (lv_at hl 1 rfl) ?_
        refine z_iald (k := j) (v := (f j)) hx hb hK hP 2 0 rfl rfl rfl (by omega) (by decide) rfl dX0_putRefused_47 ?_
        refine lv_goto (tgt := 52) hx hb dX0_putRefused_48 (by decide) ?_
        refine z_iast (k := j) hx hb hK hP hD hS 3 0 rfl rfl rfl (by omega) (by decide) dX0_putRefused_52 (fun H locs hP hD hS => ?_)
        have hP : va_P D vwCl [cE a v, (a 6, .inl (cA 1, 4, .inl rf)), (b, .inl (cA 0, 4, .inl f)), (b2, .inl (cA 0, 4, .inl (upd (mix j (rfd f rf) g) j (f j))))] H := hP
        have hD : va_D A [cE a v, (a 6, .inl (cA 1, 4, .inl rf)), (b, .inl (cA 0, 4, .inl f)), (b2, .inl (cA 0, 4, .inl (upd (mix j (rfd f rf) g) j (f j))))] := hD
        refine lv_iload_n hx hb dX0_putRefused_53 rfl (lv_at hl 2 rfl) ?_
        refine lv_if_ne (tgt := 62) hx hb dX0_putRefused_54 (by decide) (fun c_11 => ?_) (fun c_11 => ?_)
        · skip
          have c_11 : anB (isR f rf) j = true := by simpa [bB] using c_11
          refine lv_iconst (v := 1) hx hb dX0_putRefused_62 (by decide) ?_
          refine lv_goto (tgt := 67) hx hb dX0_putRefused_63 (by decide) ?_
          refine lv_istore_n (lv' := [(3, .int 1), (5, .int 1), (4, .int (nI j)), (0, .ref (a 0)), (1, .ref b), (2, .ref b2)]) hx hb dX0_putRefused_67 rfl hl (by decide) rfl (fun ls hl => ?_)
          refine lv_iinc (v := nI (j + 1)) (lv' := [(4, .int (nI (j + 1))), (3, .int 1), (5, .int 1), (0, .ref (a 0)), (1, .ref b), (2, .ref b2)]) hx hb dX0_putRefused_68 hl (k := 2) rfl (z_inc j 1) (by decide) rfl (fun ls hl => ?_)
          refine lv_goto (tgt := 5) hx hb dX0_putRefused_71 (by decide) ?_
          have hP : va_P D vwCl [cE a v, (a 6, .inl (cA 1, 4, .inl rf)), (b, .inl (cA 0, 4, .inl f)), (b2, .inl (cA 0, 4, .inl (mix (j + 1) (rfd f rf) g)))] H := z_row hP 3 rfl (fun k _ => congrFun (show upd (mix j (rfd f rf) g) j (f j) = mix (j + 1) (rfd f rf) g from mix_put (by simp [rfd, c_1, c_2, c_6, c_11])) k)
          have hD : va_D A [cE a v, (a 6, .inl (cA 1, 4, .inl rf)), (b, .inl (cA 0, 4, .inl f)), (b2, .inl (cA 0, 4, .inl (mix (j + 1) (rfd f rf) g)))] := hD.set (p := 3) rfl
          exact ih_j _ _ _ (by omega) ⟨hP, hD, hS, (by rw [show bB (anB (isR f rf) (j + 1)) = 1 from by simp [anB, bB, c_1, c_2, c_6, c_11]]; exact lv_sub hl [0, 1, 3, 4, 5] rfl)⟩
        · skip
          have c_11 : anB (isR f rf) j = false := by simpa [bB] using c_11
          refine lv_iload hx hb dX0_putRefused_57 (lv_at hl 0 rfl) ?_
          refine lv_if_eq (tgt := 66) hx hb dX0_putRefused_59 (by decide) (fun c_12 => absurd c_12 (by decide)) (fun _ => ?_)
          refine lv_iconst (v := 1) hx hb dX0_putRefused_62 (by decide) ?_
          refine lv_goto (tgt := 67) hx hb dX0_putRefused_63 (by decide) ?_
          refine lv_istore_n (lv' := [(3, .int 1), (5, .int 1), (4, .int (nI j)), (0, .ref (a 0)), (1, .ref b), (2, .ref b2)]) hx hb dX0_putRefused_67 rfl hl (by decide) rfl (fun ls hl => ?_)
          refine lv_iinc (v := nI (j + 1)) (lv' := [(4, .int (nI (j + 1))), (3, .int 1), (5, .int 1), (0, .ref (a 0)), (1, .ref b), (2, .ref b2)]) hx hb dX0_putRefused_68 hl (k := 2) rfl (z_inc j 1) (by decide) rfl (fun ls hl => ?_)
          refine lv_goto (tgt := 5) hx hb dX0_putRefused_71 (by decide) ?_
          have hP : va_P D vwCl [cE a v, (a 6, .inl (cA 1, 4, .inl rf)), (b, .inl (cA 0, 4, .inl f)), (b2, .inl (cA 0, 4, .inl (mix (j + 1) (rfd f rf) g)))] H := z_row hP 3 rfl (fun k _ => congrFun (show upd (mix j (rfd f rf) g) j (f j) = mix (j + 1) (rfd f rf) g from mix_put (by simp [rfd, c_1, c_2, c_6, c_11])) k)
          have hD : va_D A [cE a v, (a 6, .inl (cA 1, 4, .inl rf)), (b, .inl (cA 0, 4, .inl f)), (b2, .inl (cA 0, 4, .inl (mix (j + 1) (rfd f rf) g)))] := hD.set (p := 3) rfl
          exact ih_j _ _ _ (by omega) ⟨hP, hD, hS, (by rw [show bB (anB (isR f rf) (j + 1)) = 1 from by simp [anB, bB, c_1, c_2, c_6, c_11]]; exact lv_sub hl [0, 1, 3, 4, 5] rfl)⟩
set_option maxHeartbeats 4000000 in
set_option maxRecDepth 100000 in
/-- End.putNearest(values, answer) -/
theorem c_X0_putNearest (l : Launch) (D : va_G) (cA : Nat → ClassId) (sz : Nat) (a : Nat → Nat) (v : Nat → Int32) (b b2 : Nat) (lo hi f g : Nat → Int32)  : Met l yX0_putNearest wsX0_putNearest ({ frames := 1, cells := 0, slots := 0, locals := 21 }) (va_Pc [.ref (a 0), .ref b, .ref b2] (zU D cA sz [cE a v, (a 4, .inl (cA 0, 4, .inl lo)), (a 5, .inl (cA 0, 4, .inl hi)), (b, .inl (cA 0, 4, .inl f)), (b2, .inl (cA 0, 4, .inl g))])) (va_Qi (fun (r : Int32) (_ : Unit) => r = bI (anB (isO f lo hi) 4 = true)) (fun (_ : Unit) t => zB D [cE a v, (a 4, .inl (cA 0, 4, .inl lo)), (a 5, .inl (cA 0, 4, .inl hi)), (b, .inl (cA 0, 4, .inl f)), (b2, .inl (cA 0, 4, .inl g))] sz [cE a v, (a 4, .inl (cA 0, 4, .inl lo)), (a 5, .inl (cA 0, 4, .inl hi)), (b, .inl (cA 0, 4, .inl f)), (b2, .inl (cA 0, 4, .inl (ofd f lo hi)))] t) (va_A [cE a v, (a 4, .inl (cA 0, 4, .inl lo)), (a 5, .inl (cA 0, 4, .inl hi)), (b, .inl (cA 0, 4, .inl f)), (b2, .inl (cA 0, 4, .inl g))] sz)) 0 0 (va_A [cE a v, (a 4, .inl (cA 0, 4, .inl lo)), (a 5, .inl (cA 0, 4, .inl hi)), (b, .inl (cA 0, 4, .inl f)), (b2, .inl (cA 0, 4, .inl g))] sz) := by
  refine Met.ofW (cc := cX0_putNearest) (maxL := 8) (ret := (some .boolean)) (by decide) rfl ?_
  intro p e s m args below meth c s₁ B hml hv
  obtain ⟨rfl, hsz, hP, hK, hD0⟩ := hv
  have hx := B.exec
  have hb := B.bytes
  have hr := B.returns
  have hts := atoms_spec (ws := wsX0_putNearest) B.pre
  have hown : s.vm.findClass RX0 = some m.cls := findClass_of_methodNamed B.named
  have hlocks := B.notSynchronized
  subst hsz
  have hD := hD0.self (sz := s.heap.size)
  generalize hAe : va_A [cE a v, (a 4, .inl (cA 0, 4, .inl lo)), (a 5, .inl (cA 0, 4, .inl hi)), (b, .inl (cA 0, 4, .inl f)), (b2, .inl (cA 0, 4, .inl g))] s.heap.size = A at hD ⊢
  have hA : ∀ q : Nat, s.heap.size ≤ q → A q := fun q h => by rw [← hAe]; exact Or.inr h
  have hS : va_S A s.heap s.heap [] := va_S.rf
  have hl := lv_entry ([.ref (a 0), .ref b, .ref b2]) (n := 8) (Nat.le_of_ble_eq_true rfl)
  rw [lg_entry_eq]
  generalize (lg_sl ([.ref (a 0), .ref b, .ref b2]) ++ List.replicate (8 - (lg_sl ([.ref (a 0), .ref b, .ref b2])).length) Slot.unset).toArray = ls at hl ⊢
  have hl : lv_has ls 8 [(0, .ref (a 0)), (1, .ref b), (2, .ref b2)] := hl
  refine lv_iconst (v := 0) hx hb dX0_putNearest_0 (by decide) ?_
  refine lv_istore_n (lv' := [(3, .int 0), (0, .ref (a 0)), (1, .ref b), (2, .ref b2)]) hx hb dX0_putNearest_1 rfl hl (by decide) rfl (fun ls hl => ?_)
  refine lv_iconst (v := 0) hx hb dX0_putNearest_2 (by decide) ?_
  refine lv_istore (lv' := [(4, .int 0), (3, .int 0), (0, .ref (a 0)), (1, .ref b), (2, .ref b2)]) hx hb dX0_putNearest_3 hl (by decide) rfl (fun ls hl => ?_)
  -- the loop at 5
  have hP : va_P D vwCl [cE a v, (a 4, .inl (cA 0, 4, .inl lo)), (a 5, .inl (cA 0, 4, .inl hi)), (b, .inl (cA 0, 4, .inl f)), (b2, .inl (cA 0, 4, .inl (mix 0 (ofd f lo hi) g)))] s.heap := z_row hP 4 rfl (fun k _ => congrFun (show g = mix 0 (ofd f lo hi) g from mix_0 _ g) k)
  have hD : va_D A [cE a v, (a 4, .inl (cA 0, 4, .inl lo)), (a 5, .inl (cA 0, 4, .inl hi)), (b, .inl (cA 0, 4, .inl f)), (b2, .inl (cA 0, 4, .inl (mix 0 (ofd f lo hi) g)))] := hD.set (p := 4) rfl
  refine z_loop (Inv := fun j H locs ls => va_P D vwCl [cE a v, (a 4, .inl (cA 0, 4, .inl lo)), (a 5, .inl (cA 0, 4, .inl hi)), (b, .inl (cA 0, 4, .inl f)), (b2, .inl (cA 0, 4, .inl (mix j (ofd f lo hi) g)))] H ∧ va_D A [cE a v, (a 4, .inl (cA 0, 4, .inl lo)), (a 5, .inl (cA 0, 4, .inl hi)), (b, .inl (cA 0, 4, .inl f)), (b2, .inl (cA 0, 4, .inl (mix j (ofd f lo hi) g)))] ∧ va_S A s.heap H locs ∧ lv_has ls 8 [(4, .int (nI j)), (3, .int (bB (anB (isO f lo hi) j))), (0, .ref (a 0)), (1, .ref b), (2, .ref b2)]) 4 (fun j hj_j ih_j H locs ls hI => ?_) ⟨hP, hD, hS, lv_sub hl [0, 1, 2, 3, 4] rfl⟩
  obtain ⟨hP, hD, hS, hl⟩ := hI
  refine lv_iload hx hb dX0_putNearest_5 (lv_at hl 0 rfl) ?_
  refine lv_iconst (v := 4) hx hb dX0_putNearest_7 (by decide) ?_
  refine lv_icmp_ge (tgt := 97) hx hb dX0_putNearest_8 (by decide) (fun c_1 => ?_) (fun c_1 => ?_)
  · have c_1 := (nI_leI (a := 4) (b := j) (by omega) (by omega)).mp c_1
    obtain rfl : j = 4 := by omega
    have hP : va_P D vwCl [cE a v, (a 4, .inl (cA 0, 4, .inl lo)), (a 5, .inl (cA 0, 4, .inl hi)), (b, .inl (cA 0, 4, .inl f)), (b2, .inl (cA 0, 4, .inl (ofd f lo hi)))] H := z_row hP 4 rfl mix_all
    have hD : va_D A [cE a v, (a 4, .inl (cA 0, 4, .inl lo)), (a 5, .inl (cA 0, 4, .inl hi)), (b, .inl (cA 0, 4, .inl f)), (b2, .inl (cA 0, 4, .inl (ofd f lo hi)))] := hD.set (p := 4) rfl
    refine lv_iload_n hx hb dX0_putNearest_97 rfl (lv_at hl 1 rfl) ?_
    refine W.widen (k := 0) (n := 0) (by omega) (by omega) ?_
    exact W.zret (v := (bB (anB (isO f lo hi) 4))) hx hb hr (by cases anB (isO f lo hi) 4 <;> rfl) (fun t ht hW => ⟨⟨bB (anB (isO f lo hi) 4), (), rfl, by simp [bB, bI], ⟨by rw [ht]; exact hP, by rw [hAe]; exact hD⟩⟩, hS.F ht⟩) hS.2.2 dX0_putNearest_98
  · have c_1 := mt (nI_leI (a := 4) (b := j) (by omega) (by omega)).mpr c_1
    refine lv_aload_n hx hb dX0_putNearest_11 rfl (lv_at hl 3 rfl) ?_
    refine lv_iload hx hb dX0_putNearest_12 (lv_at hl 0 rfl) ?_
    refine z_iald (k := j) (v := (f j)) hx hb hK hP 3 0 rfl rfl rfl (by omega) (by decide) rfl dX0_putNearest_14 ?_
    refine lv_istore (lv' := [(5, .int (f j)), (4, .int (nI j)), (3, .int (bB (anB (isO f lo hi) j))), (0, .ref (a 0)), (1, .ref b), (2, .ref b2)]) hx hb dX0_putNearest_15 hl (by decide) rfl (fun ls hl => ?_)
    refine lv_iload hx hb dX0_putNearest_17 (lv_at hl 0 rfl) ?_
    refine lv_aload_n hx hb dX0_putNearest_19 rfl (lv_at hl 3 rfl) ?_
    refine va_get (D := D) (ci := 1) (v := .ref (a 4)) (C := RX0) (T := TX0) (N := 16) hx hb hts (fun _ h => List.mem_cons_of_mem _ (List.mem_append_right _ (h))) hown hK hP 0 rfl rfl 3 (by decide) (hts (.fieldLink RX0 21 "OptionWire$End" "leastAllowed" "[I") (List.mem_of_getElem? (i := 1) rfl)) (fun _ h9 => h9) rfl dX0_putNearest_20 ?_
    refine lv_iload hx hb dX0_putNearest_23 (lv_at hl 1 rfl) ?_
    refine z_iald (k := j) (v := (lo j)) hx hb hK hP 1 0 rfl rfl rfl (by omega) (by decide) rfl dX0_putNearest_25 ?_
    refine va_mmax hx hb (hml.trans hl.1.symm) hown (hts (.methodLink RX0 84 Lib.Math.max.name) (List.mem_of_getElem? (i := 2) rfl)) (hts (.static Lib.Math.max.name) (List.mem_of_getElem? (i := 3) rfl)) (hts (.initialized "java/lang/Math") (List.mem_of_getElem? (i := 4) rfl)) (hts (.code Lib.Math.max.name Lib.Math.max.code 2 (some .int)) (List.mem_of_getElem? (i := 5) rfl)) (Nat.le_of_ble_eq_true rfl) (Nat.le_of_ble_eq_true rfl) (Nat.zero_le _) (Nat.zero_le _) dX0_putNearest_26 ?_
    refine z_top (y := (mmx (f j) (lo j))) rfl ?_
    refine lv_aload_n hx hb dX0_putNearest_29 rfl (lv_at hl 3 rfl) ?_
    refine va_get (D := D) (ci := 1) (v := .ref (a 5)) (C := RX0) (T := TX0) (N := 16) hx hb hts (fun _ h => List.mem_cons_of_mem _ (List.mem_append_right _ (h))) hown hK hP 0 rfl rfl 4 (by decide) (hts (.fieldLink RX0 24 "OptionWire$End" "mostAllowed" "[I") (List.mem_of_getElem? (i := 6) rfl)) (fun _ h9 => h9) rfl dX0_putNearest_30 ?_
    refine lv_iload hx hb dX0_putNearest_33 (lv_at hl 1 rfl) ?_
    refine z_iald (k := j) (v := (hi j)) hx hb hK hP 2 0 rfl rfl rfl (by omega) (by decide) rfl dX0_putNearest_35 ?_
    refine va_mmin hx hb (hml.trans hl.1.symm) hown (hts (.methodLink RX0 90 Lib.Math.min.name) (List.mem_of_getElem? (i := 7) rfl)) (hts (.static Lib.Math.min.name) (List.mem_of_getElem? (i := 8) rfl)) (hts (.initialized "java/lang/Math") (List.mem_of_getElem? (i := 4) rfl)) (hts (.code Lib.Math.min.name Lib.Math.min.code 2 (some .int)) (List.mem_of_getElem? (i := 9) rfl)) (Nat.le_of_ble_eq_true rfl) (Nat.le_of_ble_eq_true rfl) (Nat.zero_le _) (Nat.zero_le _) dX0_putNearest_36 ?_
    refine z_top (y := (mmn (mmx (f j) (lo j)) (hi j))) rfl ?_
    refine lv_istore (lv' := [(6, .int (mmn (mmx (f j) (lo j)) (hi j))), (5, .int (f j)), (4, .int (nI j)), (3, .int (bB (anB (isO f lo hi) j))), (0, .ref (a 0)), (1, .ref b), (2, .ref b2)]) hx hb dX0_putNearest_39 hl (by decide) rfl (fun ls hl => ?_)
    refine lv_iload hx hb dX0_putNearest_41 (lv_at hl 1 rfl) ?_
    refine lv_iconst (v := (-1)) hx hb dX0_putNearest_43 (by decide) ?_
    refine lv_icmp_eq (tgt := 58) hx hb dX0_putNearest_44 (by decide) (fun c_2 => ?_) (fun c_2 => ?_)
    · skip
      refine lv_iconst (v := 0) hx hb dX0_putNearest_58 (by decide) ?_
      refine lv_istore (lv' := [(7, .int 0), (6, .int (mmn (mmx (f j) (lo j)) (hi j))), (5, .int (f j)), (4, .int (nI j)), (3, .int (bB (anB (isO f lo hi) j))), (0, .ref (a 0)), (1, .ref b), (2, .ref b2)]) hx hb dX0_putNearest_59 hl (by decide) rfl (fun ls hl => ?_)
      refine lv_aload_n hx hb dX0_putNearest_61 rfl (lv_at hl 7 rfl) ?_
      refine lv_iload hx hb dX0_putNearest_62 (lv_at hl 3 rfl) ?_
      refine lv_iload hx hb dX0_putNearest_64 (lv_at hl 0 rfl) ?_
      refine lv_if_eq (tgt := 74) hx hb dX0_putNearest_66 (by decide) (fun _ => ?_) (fun c_3 => absurd c_3 (by decide))
      refine lv_iconst (v := (-1)) hx hb dX0_putNearest_74 (by decide) ?_
      refine z_iast (k := j) hx hb hK hP hD hS 4 0 rfl rfl rfl (by omega) (by decide) dX0_putNearest_75 (fun H locs hP hD hS => ?_)
      have hP : va_P D vwCl [cE a v, (a 4, .inl (cA 0, 4, .inl lo)), (a 5, .inl (cA 0, 4, .inl hi)), (b, .inl (cA 0, 4, .inl f)), (b2, .inl (cA 0, 4, .inl (upd (mix j (ofd f lo hi) g) j (-1))))] H := hP
      have hD : va_D A [cE a v, (a 4, .inl (cA 0, 4, .inl lo)), (a 5, .inl (cA 0, 4, .inl hi)), (b, .inl (cA 0, 4, .inl f)), (b2, .inl (cA 0, 4, .inl (upd (mix j (ofd f lo hi) g) j (-1))))] := hD
      refine lv_iload_n hx hb dX0_putNearest_76 rfl (lv_at hl 4 rfl) ?_
      refine lv_if_ne (tgt := 85) hx hb dX0_putNearest_77 (by decide) (fun c_4 => ?_) (fun c_4 => ?_)
      · skip
        have c_4 : anB (isO f lo hi) j = true := by simpa [bB] using c_4
        refine lv_iconst (v := 1) hx hb dX0_putNearest_85 (by decide) ?_
        refine lv_goto (tgt := 90) hx hb dX0_putNearest_86 (by decide) ?_
        refine lv_istore_n (lv' := [(3, .int 1), (7, .int 0), (6, .int (mmn (mmx (f j) (lo j)) (hi j))), (5, .int (f j)), (4, .int (nI j)), (0, .ref (a 0)), (1, .ref b), (2, .ref b2)]) hx hb dX0_putNearest_90 rfl hl (by decide) rfl (fun ls hl => ?_)
        refine lv_iinc (v := nI (j + 1)) (lv' := [(4, .int (nI (j + 1))), (3, .int 1), (7, .int 0), (6, .int (mmn (mmx (f j) (lo j)) (hi j))), (5, .int (f j)), (0, .ref (a 0)), (1, .ref b), (2, .ref b2)]) hx hb dX0_putNearest_91 hl (k := 4) rfl (z_inc j 1) (by decide) rfl (fun ls hl => ?_)
        refine lv_goto (tgt := 5) hx hb dX0_putNearest_94 (by decide) ?_
        have hP : va_P D vwCl [cE a v, (a 4, .inl (cA 0, 4, .inl lo)), (a 5, .inl (cA 0, 4, .inl hi)), (b, .inl (cA 0, 4, .inl f)), (b2, .inl (cA 0, 4, .inl (mix (j + 1) (ofd f lo hi) g)))] H := z_row hP 4 rfl (fun k _ => congrFun (show upd (mix j (ofd f lo hi) g) j (-1) = mix (j + 1) (ofd f lo hi) g from mix_put (ofd_n1 c_2).2) k)
        have hD : va_D A [cE a v, (a 4, .inl (cA 0, 4, .inl lo)), (a 5, .inl (cA 0, 4, .inl hi)), (b, .inl (cA 0, 4, .inl f)), (b2, .inl (cA 0, 4, .inl (mix (j + 1) (ofd f lo hi) g)))] := hD.set (p := 4) rfl
        exact ih_j _ _ _ (by omega) ⟨hP, hD, hS, (by rw [show bB (anB (isO f lo hi) (j + 1)) = 1 from (z_an1 c_4)]; exact lv_sub hl [0, 1, 5, 6, 7] rfl)⟩
      · skip
        have c_4 : anB (isO f lo hi) j = false := by simpa [bB] using c_4
        refine lv_iload hx hb dX0_putNearest_80 (lv_at hl 0 rfl) ?_
        refine lv_if_eq (tgt := 89) hx hb dX0_putNearest_82 (by decide) (fun _ => ?_) (fun c_5 => absurd c_5 (by decide))
        refine lv_iconst (v := 0) hx hb dX0_putNearest_89 (by decide) ?_
        refine lv_istore_n (lv' := [(3, .int 0), (7, .int 0), (6, .int (mmn (mmx (f j) (lo j)) (hi j))), (5, .int (f j)), (4, .int (nI j)), (0, .ref (a 0)), (1, .ref b), (2, .ref b2)]) hx hb dX0_putNearest_90 rfl hl (by decide) rfl (fun ls hl => ?_)
        refine lv_iinc (v := nI (j + 1)) (lv' := [(4, .int (nI (j + 1))), (3, .int 0), (7, .int 0), (6, .int (mmn (mmx (f j) (lo j)) (hi j))), (5, .int (f j)), (0, .ref (a 0)), (1, .ref b), (2, .ref b2)]) hx hb dX0_putNearest_91 hl (k := 4) rfl (z_inc j 1) (by decide) rfl (fun ls hl => ?_)
        refine lv_goto (tgt := 5) hx hb dX0_putNearest_94 (by decide) ?_
        have hP : va_P D vwCl [cE a v, (a 4, .inl (cA 0, 4, .inl lo)), (a 5, .inl (cA 0, 4, .inl hi)), (b, .inl (cA 0, 4, .inl f)), (b2, .inl (cA 0, 4, .inl (mix (j + 1) (ofd f lo hi) g)))] H := z_row hP 4 rfl (fun k _ => congrFun (show upd (mix j (ofd f lo hi) g) j (-1) = mix (j + 1) (ofd f lo hi) g from mix_put (ofd_n1 c_2).2) k)
        have hD : va_D A [cE a v, (a 4, .inl (cA 0, 4, .inl lo)), (a 5, .inl (cA 0, 4, .inl hi)), (b, .inl (cA 0, 4, .inl f)), (b2, .inl (cA 0, 4, .inl (mix (j + 1) (ofd f lo hi) g)))] := hD.set (p := 4) rfl
        exact ih_j _ _ _ (by omega) ⟨hP, hD, hS, (by rw [show bB (anB (isO f lo hi) (j + 1)) = 0 from (z_an3 c_4 (ofd_n1 c_2).1)]; exact lv_sub hl [0, 1, 5, 6, 7] rfl)⟩
    · skip
      refine lv_iload hx hb dX0_putNearest_47 (lv_at hl 1 rfl) ?_
      refine lv_iload hx hb dX0_putNearest_49 (lv_at hl 0 rfl) ?_
      refine lv_icmp_eq (tgt := 58) hx hb dX0_putNearest_51 (by decide) (fun c_6 => ?_) (fun c_6 => ?_)
      · skip
        refine lv_iconst (v := 0) hx hb dX0_putNearest_58 (by decide) ?_
        refine lv_istore (lv' := [(7, .int 0), (6, .int (mmn (mmx (f j) (lo j)) (hi j))), (5, .int (f j)), (4, .int (nI j)), (3, .int (bB (anB (isO f lo hi) j))), (0, .ref (a 0)), (1, .ref b), (2, .ref b2)]) hx hb dX0_putNearest_59 hl (by decide) rfl (fun ls hl => ?_)
        refine lv_aload_n hx hb dX0_putNearest_61 rfl (lv_at hl 7 rfl) ?_
        refine lv_iload hx hb dX0_putNearest_62 (lv_at hl 3 rfl) ?_
        refine lv_iload hx hb dX0_putNearest_64 (lv_at hl 0 rfl) ?_
        refine lv_if_eq (tgt := 74) hx hb dX0_putNearest_66 (by decide) (fun _ => ?_) (fun c_7 => absurd c_7 (by decide))
        refine lv_iconst (v := (-1)) hx hb dX0_putNearest_74 (by decide) ?_
        refine z_iast (k := j) hx hb hK hP hD hS 4 0 rfl rfl rfl (by omega) (by decide) dX0_putNearest_75 (fun H locs hP hD hS => ?_)
        have hP : va_P D vwCl [cE a v, (a 4, .inl (cA 0, 4, .inl lo)), (a 5, .inl (cA 0, 4, .inl hi)), (b, .inl (cA 0, 4, .inl f)), (b2, .inl (cA 0, 4, .inl (upd (mix j (ofd f lo hi) g) j (-1))))] H := hP
        have hD : va_D A [cE a v, (a 4, .inl (cA 0, 4, .inl lo)), (a 5, .inl (cA 0, 4, .inl hi)), (b, .inl (cA 0, 4, .inl f)), (b2, .inl (cA 0, 4, .inl (upd (mix j (ofd f lo hi) g) j (-1))))] := hD
        refine lv_iload_n hx hb dX0_putNearest_76 rfl (lv_at hl 4 rfl) ?_
        refine lv_if_ne (tgt := 85) hx hb dX0_putNearest_77 (by decide) (fun c_8 => ?_) (fun c_8 => ?_)
        · skip
          have c_8 : anB (isO f lo hi) j = true := by simpa [bB] using c_8
          refine lv_iconst (v := 1) hx hb dX0_putNearest_85 (by decide) ?_
          refine lv_goto (tgt := 90) hx hb dX0_putNearest_86 (by decide) ?_
          refine lv_istore_n (lv' := [(3, .int 1), (7, .int 0), (6, .int (mmn (mmx (f j) (lo j)) (hi j))), (5, .int (f j)), (4, .int (nI j)), (0, .ref (a 0)), (1, .ref b), (2, .ref b2)]) hx hb dX0_putNearest_90 rfl hl (by decide) rfl (fun ls hl => ?_)
          refine lv_iinc (v := nI (j + 1)) (lv' := [(4, .int (nI (j + 1))), (3, .int 1), (7, .int 0), (6, .int (mmn (mmx (f j) (lo j)) (hi j))), (5, .int (f j)), (0, .ref (a 0)), (1, .ref b), (2, .ref b2)]) hx hb dX0_putNearest_91 hl (k := 4) rfl (z_inc j 1) (by decide) rfl (fun ls hl => ?_)
          refine lv_goto (tgt := 5) hx hb dX0_putNearest_94 (by decide) ?_
          have hP : va_P D vwCl [cE a v, (a 4, .inl (cA 0, 4, .inl lo)), (a 5, .inl (cA 0, 4, .inl hi)), (b, .inl (cA 0, 4, .inl f)), (b2, .inl (cA 0, 4, .inl (mix (j + 1) (ofd f lo hi) g)))] H := z_row hP 4 rfl (fun k _ => congrFun (show upd (mix j (ofd f lo hi) g) j (-1) = mix (j + 1) (ofd f lo hi) g from mix_put (ofd_n2 c_6).2) k)
          have hD : va_D A [cE a v, (a 4, .inl (cA 0, 4, .inl lo)), (a 5, .inl (cA 0, 4, .inl hi)), (b, .inl (cA 0, 4, .inl f)), (b2, .inl (cA 0, 4, .inl (mix (j + 1) (ofd f lo hi) g)))] := hD.set (p := 4) rfl
          exact ih_j _ _ _ (by omega) ⟨hP, hD, hS, (by rw [show bB (anB (isO f lo hi) (j + 1)) = 1 from (z_an1 c_8)]; exact lv_sub hl [0, 1, 5, 6, 7] rfl)⟩
        · skip
          have c_8 : anB (isO f lo hi) j = false := by simpa [bB] using c_8
          refine lv_iload hx hb dX0_putNearest_80 (lv_at hl 0 rfl) ?_
          refine lv_if_eq (tgt := 89) hx hb dX0_putNearest_82 (by decide) (fun _ => ?_) (fun c_9 => absurd c_9 (by decide))
          refine lv_iconst (v := 0) hx hb dX0_putNearest_89 (by decide) ?_
          refine lv_istore_n (lv' := [(3, .int 0), (7, .int 0), (6, .int (mmn (mmx (f j) (lo j)) (hi j))), (5, .int (f j)), (4, .int (nI j)), (0, .ref (a 0)), (1, .ref b), (2, .ref b2)]) hx hb dX0_putNearest_90 rfl hl (by decide) rfl (fun ls hl => ?_)
          refine lv_iinc (v := nI (j + 1)) (lv' := [(4, .int (nI (j + 1))), (3, .int 0), (7, .int 0), (6, .int (mmn (mmx (f j) (lo j)) (hi j))), (5, .int (f j)), (0, .ref (a 0)), (1, .ref b), (2, .ref b2)]) hx hb dX0_putNearest_91 hl (k := 4) rfl (z_inc j 1) (by decide) rfl (fun ls hl => ?_)
          refine lv_goto (tgt := 5) hx hb dX0_putNearest_94 (by decide) ?_
          have hP : va_P D vwCl [cE a v, (a 4, .inl (cA 0, 4, .inl lo)), (a 5, .inl (cA 0, 4, .inl hi)), (b, .inl (cA 0, 4, .inl f)), (b2, .inl (cA 0, 4, .inl (mix (j + 1) (ofd f lo hi) g)))] H := z_row hP 4 rfl (fun k _ => congrFun (show upd (mix j (ofd f lo hi) g) j (-1) = mix (j + 1) (ofd f lo hi) g from mix_put (ofd_n2 c_6).2) k)
          have hD : va_D A [cE a v, (a 4, .inl (cA 0, 4, .inl lo)), (a 5, .inl (cA 0, 4, .inl hi)), (b, .inl (cA 0, 4, .inl f)), (b2, .inl (cA 0, 4, .inl (mix (j + 1) (ofd f lo hi) g)))] := hD.set (p := 4) rfl
          exact ih_j _ _ _ (by omega) ⟨hP, hD, hS, (by rw [show bB (anB (isO f lo hi) (j + 1)) = 0 from (z_an3 c_8 (ofd_n2 c_6).1)]; exact lv_sub hl [0, 1, 5, 6, 7] rfl)⟩
      · skip
        refine lv_iconst (v := 1) hx hb dX0_putNearest_54 (by decide) ?_
        refine lv_goto (tgt := 59) hx hb dX0_putNearest_55 (by decide) ?_
        refine lv_istore (lv' := [(7, .int 1), (6, .int (mmn (mmx (f j) (lo j)) (hi j))), (5, .int (f j)), (4, .int (nI j)), (3, .int (bB (anB (isO f lo hi) j))), (0, .ref (a 0)), (1, .ref b), (2, .ref b2)]) hx hb dX0_putNearest_59 hl (by decide) rfl (fun ls hl => ?_)
        refine lv_aload_n hx hb dX0_putNearest_61 rfl (lv_at hl 7 rfl) ?_
        refine lv_iload hx hb dX0_putNearest_62 (lv_at hl 3 rfl) ?_
        refine lv_iload hx hb dX0_putNearest_64 (lv_at hl 0 rfl) ?_
        refine lv_if_eq (tgt := 74) hx hb dX0_putNearest_66 (by decide) (fun c_10 => absurd c_10 (by decide)) (fun _ => ?_)
        refine lv_iload hx hb dX0_putNearest_69 (lv_at hl 1 rfl) ?_
        refine lv_goto (tgt := 75) hx hb dX0_putNearest_71 (by decide) ?_
        refine z_iast (k := j) hx hb hK hP hD hS 4 0 rfl rfl rfl (by omega) (by decide) dX0_putNearest_75 (fun H locs hP hD hS => ?_)
        have hP : va_P D vwCl [cE a v, (a 4, .inl (cA 0, 4, .inl lo)), (a 5, .inl (cA 0, 4, .inl hi)), (b, .inl (cA 0, 4, .inl f)), (b2, .inl (cA 0, 4, .inl (upd (mix j (ofd f lo hi) g) j (mmn (mmx (f j) (lo j)) (hi j)))))] H := hP
        have hD : va_D A [cE a v, (a 4, .inl (cA 0, 4, .inl lo)), (a 5, .inl (cA 0, 4, .inl hi)), (b, .inl (cA 0, 4, .inl f)), (b2, .inl (cA 0, 4, .inl (upd (mix j (ofd f lo hi) g) j (mmn (mmx (f j) (lo j)) (hi j)))))] := hD
        refine lv_iload_n hx hb dX0_putNearest_76 rfl (lv_at hl 4 rfl) ?_
        refine lv_if_ne (tgt := 85) hx hb dX0_putNearest_77 (by decide) (fun c_11 => ?_) (fun c_11 => ?_)
        · skip
          have c_11 : anB (isO f lo hi) j = true := by simpa [bB] using c_11
          refine lv_iconst (v := 1) hx hb dX0_putNearest_85 (by decide) ?_
          refine lv_goto (tgt := 90) hx hb dX0_putNearest_86 (by decide) ?_
          refine lv_istore_n (lv' := [(3, .int 1), (7, .int 1), (6, .int (mmn (mmx (f j) (lo j)) (hi j))), (5, .int (f j)), (4, .int (nI j)), (0, .ref (a 0)), (1, .ref b), (2, .ref b2)]) hx hb dX0_putNearest_90 rfl hl (by decide) rfl (fun ls hl => ?_)
          refine lv_iinc (v := nI (j + 1)) (lv' := [(4, .int (nI (j + 1))), (3, .int 1), (7, .int 1), (6, .int (mmn (mmx (f j) (lo j)) (hi j))), (5, .int (f j)), (0, .ref (a 0)), (1, .ref b), (2, .ref b2)]) hx hb dX0_putNearest_91 hl (k := 4) rfl (z_inc j 1) (by decide) rfl (fun ls hl => ?_)
          refine lv_goto (tgt := 5) hx hb dX0_putNearest_94 (by decide) ?_
          have hP : va_P D vwCl [cE a v, (a 4, .inl (cA 0, 4, .inl lo)), (a 5, .inl (cA 0, 4, .inl hi)), (b, .inl (cA 0, 4, .inl f)), (b2, .inl (cA 0, 4, .inl (mix (j + 1) (ofd f lo hi) g)))] H := z_row hP 4 rfl (fun k _ => congrFun (show upd (mix j (ofd f lo hi) g) j (mmn (mmx (f j) (lo j)) (hi j)) = mix (j + 1) (ofd f lo hi) g from mix_put (ofd_y c_2 c_6).2) k)
          have hD : va_D A [cE a v, (a 4, .inl (cA 0, 4, .inl lo)), (a 5, .inl (cA 0, 4, .inl hi)), (b, .inl (cA 0, 4, .inl f)), (b2, .inl (cA 0, 4, .inl (mix (j + 1) (ofd f lo hi) g)))] := hD.set (p := 4) rfl
          exact ih_j _ _ _ (by omega) ⟨hP, hD, hS, (by rw [show bB (anB (isO f lo hi) (j + 1)) = 1 from (z_an1 c_11)]; exact lv_sub hl [0, 1, 5, 6, 7] rfl)⟩
        · skip
          have c_11 : anB (isO f lo hi) j = false := by simpa [bB] using c_11
          refine lv_iload hx hb dX0_putNearest_80 (lv_at hl 0 rfl) ?_
          refine lv_if_eq (tgt := 89) hx hb dX0_putNearest_82 (by decide) (fun c_12 => absurd c_12 (by decide)) (fun _ => ?_)
          refine lv_iconst (v := 1) hx hb dX0_putNearest_85 (by decide) ?_
          refine lv_goto (tgt := 90) hx hb dX0_putNearest_86 (by decide) ?_
          refine lv_istore_n (lv' := [(3, .int 1), (7, .int 1), (6, .int (mmn (mmx (f j) (lo j)) (hi j))), (5, .int (f j)), (4, .int (nI j)), (0, .ref (a 0)), (1, .ref b), (2, .ref b2)]) hx hb dX0_putNearest_90 rfl hl (by decide) rfl (fun ls hl => ?_)
          refine lv_iinc (v := nI (j + 1)) (lv' := [(4, .int (nI (j + 1))), (3, .int 1), (7, .int 1), (6, .int (mmn (mmx (f j) (lo j)) (hi j))), (5, .int (f j)), (0, .ref (a 0)), (1, .ref b), (2, .ref b2)]) hx hb dX0_putNearest_91 hl (k := 4) rfl (z_inc j 1) (by decide) rfl (fun ls hl => ?_)
          refine lv_goto (tgt := 5) hx hb dX0_putNearest_94 (by decide) ?_
          have hP : va_P D vwCl [cE a v, (a 4, .inl (cA 0, 4, .inl lo)), (a 5, .inl (cA 0, 4, .inl hi)), (b, .inl (cA 0, 4, .inl f)), (b2, .inl (cA 0, 4, .inl (mix (j + 1) (ofd f lo hi) g)))] H := z_row hP 4 rfl (fun k _ => congrFun (show upd (mix j (ofd f lo hi) g) j (mmn (mmx (f j) (lo j)) (hi j)) = mix (j + 1) (ofd f lo hi) g from mix_put (ofd_y c_2 c_6).2) k)
          have hD : va_D A [cE a v, (a 4, .inl (cA 0, 4, .inl lo)), (a 5, .inl (cA 0, 4, .inl hi)), (b, .inl (cA 0, 4, .inl f)), (b2, .inl (cA 0, 4, .inl (mix (j + 1) (ofd f lo hi) g)))] := hD.set (p := 4) rfl
          exact ih_j _ _ _ (by omega) ⟨hP, hD, hS, (by rw [show bB (anB (isO f lo hi) (j + 1)) = 1 from (z_an2 (ofd_y c_2 c_6).1)]; exact lv_sub hl [0, 1, 5, 6, 7] rfl)⟩
