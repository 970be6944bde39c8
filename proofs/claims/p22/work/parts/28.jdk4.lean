theorem apd_3 {n ct : Nat} {g g0 : Nat → Int32} (hn : n = 16 ∨ n = 34) (h : ct + 3 ≤ n) (hf : bfit n g) (he : ∀ i, i < ct → g i = g0 i) : apd n (upd (upd (upd g (ct + 2) (nI (48 + 0 % 10))) (ct + 1) (nI (48 + 0 / 10))) ct (nI (48 + 1 % 10))) g0 ct [49, 48, 48] := by
  refine ⟨hn, h, fun i hi => ?_, fun i hi => ?_, fun i hi => ?_⟩
  · by_cases e : i = ct
    · simp only [upd, if_pos e]; exact fitd (by omega)
    · by_cases e2 : i = ct + 1
      · simp only [upd, if_neg e, if_pos e2]; exact fitd (by omega)
      · by_cases e3 : i = ct + 2
        · simp only [upd, if_neg e, if_neg e2, if_pos e3]; exact fitd (by omega)
        · simp only [upd, if_neg e, if_neg e2, if_neg e3]; exact hf i hi
  · simp only [upd, if_neg (show ¬ i = ct by omega), if_neg (show ¬ i = ct + 1 by omega), if_neg (show ¬ i = ct + 2 by omega)]; exact he i hi
  · have hi2 : i < 3 := hi
    rcases (show i = 0 ∨ i = 1 ∨ i = 2 by omega) with rfl | rfl | rfl
    · simp only [upd, if_pos (show ct + 0 = ct by omega)]; rfl
    · simp only [upd, if_neg (show ¬ ct + 1 = ct by omega)]; rw [if_pos trivial]; rfl
    · simp only [upd, if_neg (show ¬ ct + 2 = ct by omega), if_neg (show ¬ ct + 2 = ct + 1 by omega)]; rw [if_pos trivial]; rfl

set_option maxHeartbeats 4000000 in
set_option maxRecDepth 100000 in
theorem c_gc_c (l : Launch) (D : va_G) (cA : Nat → ClassId) (zv : Nat → Nat) (sz : Nat) (vb ct n : Nat) (g : Nat → Int32) (hn : n ≤ 34) (hl9 : ct + 3 ≤ n) : Met l yJ6_getChars_ba4f3 wsJ6_getChars_ba4f3 ({ frames := 0, cells := 0, slots := 0, locals := 0 }) (va_Pc [.int 100, .int (nI (ct + 3)), .ref vb] (zUX D cA zv sz [(vb, .inl (cA 2, n, .inl g))])) (va_Qi (fun (r : Int32) (_ : Unit) => r = nI ct) (fun (_ : Unit) t => zB D [(vb, .inl (cA 2, n, .inl g))] sz [(vb, .inl (cA 2, n, .inl (upd (upd (upd g (ct + 2) (nI (48 + 0 % 10))) (ct + 1) (nI (48 + 0 / 10))) ct (nI (48 + 1 % 10)))))] t) (va_A [(vb, .inl (cA 2, n, .inl g))] sz)) 0 0 (va_A [(vb, .inl (cA 2, n, .inl g))] sz) := by
  refine Met.ofW (cc := cJ6_getChars_ba4f3) (maxL := 7) (ret := (some .int)) (by decide) rfl ?_
  intro p e s m args below meth c s₁ B hml hv
  obtain ⟨rfl, ⟨hsz, hP, hK, hD0, hE0⟩, hX0⟩ := hv
  have hx := B.exec
  have hb := B.bytes
  have hr := B.returns
  have hts := atoms_spec (ws := wsJ6_getChars_ba4f3) B.pre
  have hown : s.vm.findClass RJ6 = some m.cls := findClass_of_methodNamed B.named
  have hlocks := B.notSynchronized
  subst hsz
  have hD := hD0.self (sz := s.heap.size)
  generalize hAe : va_A [(vb, .inl (cA 2, n, .inl g))] s.heap.size = A at hD hE0 hX0 ⊢
  have hA : ∀ q : Nat, s.heap.size ≤ q → A q := fun q h => by rw [← hAe]; exact Or.inr h
  have hS : va_S A s.heap s.heap [] := va_S.rf
  have hl := lv_entry ([.int 100, .int (nI (ct + 3)), .ref vb]) (n := 7) (Nat.le_of_ble_eq_true rfl)
  rw [lg_entry_eq]
  generalize (lg_sl ([.int 100, .int (nI (ct + 3)), .ref vb]) ++ List.replicate (7 - (lg_sl ([.int 100, .int (nI (ct + 3)), .ref vb])).length) Slot.unset).toArray = ls at hl ⊢
  have hl : lv_has ls 7 [(0, .int 100), (1, .int (nI (ct + 3))), (2, .ref vb)] := hl
  refine lv_iload_n hx hb dJ6_getChars_ba4f3_0 rfl (lv_at hl 1 rfl) ?_
  refine lv_istore (lv' := [(5, .int (nI (ct + 3))), (0, .int 100), (1, .int (nI (ct + 3))), (2, .ref vb)]) hx hb dJ6_getChars_ba4f3_1 hl (by decide) rfl (fun ls hl => ?_)
  refine lv_iload_n hx hb dJ6_getChars_ba4f3_3 rfl (lv_at hl 1 rfl) ?_
  refine lv_if_ge (tgt := 11) hx hb dJ6_getChars_ba4f3_4 (by decide) (fun _ => ?_) (fun c_1 => absurd c_1 (by decide))
  refine lv_iconst (v := 0) hx hb dJ6_getChars_ba4f3_11 (by decide) ?_
  refine lv_istore (lv' := [(6, .int 0), (5, .int (nI (ct + 3))), (0, .int 100), (1, .int (nI (ct + 3))), (2, .ref vb)]) hx hb dJ6_getChars_ba4f3_12 hl (by decide) rfl (fun ls hl => ?_)
  refine lv_iload hx hb dJ6_getChars_ba4f3_14 (lv_at hl 0 rfl) ?_
  refine lv_if_ne (tgt := 22) hx hb dJ6_getChars_ba4f3_16 (by decide) (fun c_2 => absurd c_2 (by decide)) (fun _ => ?_)
  refine lv_iload_n hx hb dJ6_getChars_ba4f3_19 rfl (lv_at hl 2 rfl) ?_
  refine lv_ineg hx hb dJ6_getChars_ba4f3_20 ?_
  refine z_top (y := (-100)) (by decide) ?_
  refine lv_istore_n (lv' := [(0, .int (-100)), (6, .int 0), (5, .int (nI (ct + 3))), (1, .int (nI (ct + 3))), (2, .ref vb)]) hx hb dJ6_getChars_ba4f3_21 rfl hl (by decide) rfl (fun ls hl => ?_)
  refine lv_iload_n hx hb dJ6_getChars_ba4f3_22 rfl (lv_at hl 0 rfl) ?_
  refine lv_bipush (v := (-100)) hx hb dJ6_getChars_ba4f3_23 (by decide) ?_
  refine lv_icmp_gt (tgt := 72) hx hb dJ6_getChars_ba4f3_25 (by decide) (fun c_3 => absurd c_3 (by decide)) (fun _ => ?_)
  refine lv_iload_n hx hb dJ6_getChars_ba4f3_28 rfl (lv_at hl 0 rfl) ?_
  refine lv_bipush (v := 100) hx hb dJ6_getChars_ba4f3_29 (by decide) ?_
  refine lv_idiv hx hb dJ6_getChars_ba4f3_31 (by decide) ?_
  refine z_top (y := (-1)) (by decide) ?_
  refine lv_istore_n (lv' := [(3, .int (-1)), (0, .int (-100)), (6, .int 0), (5, .int (nI (ct + 3))), (1, .int (nI (ct + 3))), (2, .ref vb)]) hx hb dJ6_getChars_ba4f3_32 rfl hl (by decide) rfl (fun ls hl => ?_)
  refine lv_iload_n hx hb dJ6_getChars_ba4f3_33 rfl (lv_at hl 0 rfl) ?_
  refine lv_bipush (v := 100) hx hb dJ6_getChars_ba4f3_34 (by decide) ?_
  refine lv_imul hx hb dJ6_getChars_ba4f3_36 ?_
  refine z_top (y := (-100)) (by decide) ?_
  refine lv_iload_n hx hb dJ6_getChars_ba4f3_37 rfl (lv_at hl 1 rfl) ?_
  refine lv_isub hx hb dJ6_getChars_ba4f3_38 ?_
  refine z_top (y := 0) (by decide) ?_
  refine lv_istore (lv' := [(4, .int 0), (3, .int (-1)), (0, .int (-100)), (6, .int 0), (5, .int (nI (ct + 3))), (1, .int (nI (ct + 3))), (2, .ref vb)]) hx hb dJ6_getChars_ba4f3_39 hl (by decide) rfl (fun ls hl => ?_)
  refine lv_iload_n hx hb dJ6_getChars_ba4f3_41 rfl (lv_at hl 1 rfl) ?_
  refine lv_istore_n (lv' := [(0, .int (-1)), (4, .int 0), (3, .int (-1)), (6, .int 0), (5, .int (nI (ct + 3))), (1, .int (nI (ct + 3))), (2, .ref vb)]) hx hb dJ6_getChars_ba4f3_42 rfl hl (by decide) rfl (fun ls hl => ?_)
  refine lv_aload_n hx hb dJ6_getChars_ba4f3_43 rfl (lv_at hl 6 rfl) ?_
  refine lv_iinc (v := nI (ct + 2)) (lv' := [(5, .int (nI (ct + 2))), (0, .int (-1)), (4, .int 0), (3, .int (-1)), (6, .int 0), (1, .int (nI (ct + 3))), (2, .ref vb)]) hx hb dJ6_getChars_ba4f3_44 hl (k := 4) rfl (z_dec (ct + 2)) (by decide) rfl (fun ls hl => ?_)
  refine lv_iload hx hb dJ6_getChars_ba4f3_47 (lv_at hl 0 rfl) ?_
  refine va_gets hx hb hX0.2.1.2.1 hS hown (hts (.fieldLink RJ6 83 "java/lang/Integer" "DigitOnes" "[B") (List.mem_of_getElem? (i := 1) rfl)) (fun _ h => h) dJ6_getChars_ba4f3_49 ?_
  refine lv_iload hx hb dJ6_getChars_ba4f3_52 (lv_at hl 2 rfl) ?_
  refine z_dgt (k := 0) hx hb hX0.2.1.2.2.1 hS rfl (by omega) rfl dJ6_getChars_ba4f3_54 ?_
  refine z_bast (k := (ct + 2)) hx hb hK hP hD hS 0 2 rfl rfl rfl (by omega) (by omega) (nard (by omega)) dJ6_getChars_ba4f3_55 (fun H locs hP hD hS => ?_)
  have hP : va_P D vwCl [(vb, .inl (cA 2, n, .inl (upd g (ct + 2) (nI (48 + 0 % 10)))))] H := hP
  have hD : va_D A [(vb, .inl (cA 2, n, .inl (upd g (ct + 2) (nI (48 + 0 % 10)))))] := hD
  refine lv_aload_n hx hb dJ6_getChars_ba4f3_56 rfl (lv_at hl 6 rfl) ?_
  refine lv_iinc (v := nI (ct + 1)) (lv' := [(5, .int (nI (ct + 1))), (0, .int (-1)), (4, .int 0), (3, .int (-1)), (6, .int 0), (1, .int (nI (ct + 3))), (2, .ref vb)]) hx hb dJ6_getChars_ba4f3_57 hl (k := 0) rfl (z_dec (ct + 1)) (by decide) rfl (fun ls hl => ?_)
  refine lv_iload hx hb dJ6_getChars_ba4f3_60 (lv_at hl 0 rfl) ?_
  refine va_gets hx hb hX0.2.1.2.2.2.1 hS hown (hts (.fieldLink RJ6 87 "java/lang/Integer" "DigitTens" "[B") (List.mem_of_getElem? (i := 2) rfl)) (fun _ h => h) dJ6_getChars_ba4f3_62 ?_
  refine lv_iload hx hb dJ6_getChars_ba4f3_65 (lv_at hl 2 rfl) ?_
  refine z_dgt (k := 0) hx hb hX0.2.1.2.2.2.2 hS rfl (by omega) rfl dJ6_getChars_ba4f3_67 ?_
  refine z_bast (k := (ct + 1)) hx hb hK hP hD hS 0 2 rfl rfl rfl (by omega) (by omega) (nard (by omega)) dJ6_getChars_ba4f3_68 (fun H locs hP hD hS => ?_)
  have hP : va_P D vwCl [(vb, .inl (cA 2, n, .inl (upd (upd g (ct + 2) (nI (48 + 0 % 10))) (ct + 1) (nI (48 + 0 / 10)))))] H := hP
  have hD : va_D A [(vb, .inl (cA 2, n, .inl (upd (upd g (ct + 2) (nI (48 + 0 % 10))) (ct + 1) (nI (48 + 0 / 10)))))] := hD
  refine lv_goto (tgt := 22) hx hb dJ6_getChars_ba4f3_69 (by decide) ?_
  refine lv_iload_n hx hb dJ6_getChars_ba4f3_22 rfl (lv_at hl 1 rfl) ?_
  refine lv_bipush (v := (-100)) hx hb dJ6_getChars_ba4f3_23 (by decide) ?_
  refine lv_icmp_gt (tgt := 72) hx hb dJ6_getChars_ba4f3_25 (by decide) (fun _ => ?_) (fun c_4 => absurd c_4 (by decide))
  refine lv_aload_n hx hb dJ6_getChars_ba4f3_72 rfl (lv_at hl 6 rfl) ?_
  refine lv_iinc (v := nI ct) (lv' := [(5, .int (nI ct)), (0, .int (-1)), (4, .int 0), (3, .int (-1)), (6, .int 0), (1, .int (nI (ct + 3))), (2, .ref vb)]) hx hb dJ6_getChars_ba4f3_73 hl (k := 0) rfl (z_dec ct) (by decide) rfl (fun ls hl => ?_)
  refine lv_iload hx hb dJ6_getChars_ba4f3_76 (lv_at hl 0 rfl) ?_
  refine va_gets hx hb hX0.2.1.2.1 hS hown (hts (.fieldLink RJ6 83 "java/lang/Integer" "DigitOnes" "[B") (List.mem_of_getElem? (i := 1) rfl)) (fun _ h => h) dJ6_getChars_ba4f3_78 ?_
  refine lv_iload_n hx hb dJ6_getChars_ba4f3_81 rfl (lv_at hl 1 rfl) ?_
  refine lv_ineg hx hb dJ6_getChars_ba4f3_82 ?_
  refine z_top (y := 1) (by decide) ?_
  refine z_dgt (k := 1) hx hb hX0.2.1.2.2.1 hS rfl (by omega) rfl dJ6_getChars_ba4f3_83 ?_
  refine z_bast (k := ct) hx hb hK hP hD hS 0 2 rfl rfl rfl (by omega) (by omega) (nard (by omega)) dJ6_getChars_ba4f3_84 (fun H locs hP hD hS => ?_)
  have hP : va_P D vwCl [(vb, .inl (cA 2, n, .inl (upd (upd (upd g (ct + 2) (nI (48 + 0 % 10))) (ct + 1) (nI (48 + 0 / 10))) ct (nI (48 + 1 % 10)))))] H := hP
  have hD : va_D A [(vb, .inl (cA 2, n, .inl (upd (upd (upd g (ct + 2) (nI (48 + 0 % 10))) (ct + 1) (nI (48 + 0 / 10))) ct (nI (48 + 1 % 10)))))] := hD
  refine lv_iload_n hx hb dJ6_getChars_ba4f3_85 rfl (lv_at hl 1 rfl) ?_
  refine lv_bipush (v := (-9)) hx hb dJ6_getChars_ba4f3_86 (by decide) ?_
  refine lv_icmp_ge (tgt := 104) hx hb dJ6_getChars_ba4f3_88 (by decide) (fun _ => ?_) (fun c_5 => absurd c_5 (by decide))
  refine lv_iload hx hb dJ6_getChars_ba4f3_104 (lv_at hl 4 rfl) ?_
  refine lv_if_eq (tgt := 118) hx hb dJ6_getChars_ba4f3_106 (by decide) (fun _ => ?_) (fun c_6 => absurd c_6 (by decide))
  refine lv_iload hx hb dJ6_getChars_ba4f3_118 (lv_at hl 0 rfl) ?_
  refine W.widen (k := 0) (n := 0) (by omega) (by omega) ?_
  exact W.iret (v := (nI ct)) hx hb hr (fun t ht hW => ⟨⟨nI ct, (), rfl, rfl, ⟨by rw [ht]; exact hP, by rw [hAe]; exact hD⟩⟩, hS.F ht⟩) hS.2.2 dJ6_getChars_ba4f3_120
set_option maxHeartbeats 4000000 in
set_option maxRecDepth 100000 in
theorem c_ss_h (l : Launch) (D : va_G) (cA : Nat → ClassId) (sz : Nat)   : Met l yJ6_stringSize_0f7a4 wsJ6_stringSize_0f7a4 ({ frames := 0, cells := 0, slots := 0, locals := 0 }) (va_Pc [.int 100] (zU D cA sz [])) (va_Qi (fun (r : Int32) (_ : Unit) => r = 3) (fun (_ : Unit) t => zB D [] sz [] t) (va_A [] sz)) 0 0 (va_A [] sz) := by
  refine Met.ofW (cc := cJ6_stringSize_0f7a4) (maxL := 4) (ret := (some .int)) (by decide) rfl ?_
  intro p e s m args below meth c s₁ B hml hv
  obtain ⟨rfl, hsz, hP, hK, hD0⟩ := hv
  have hx := B.exec
  have hb := B.bytes
  have hr := B.returns
  have hts := atoms_spec (ws := wsJ6_stringSize_0f7a4) B.pre
  have hown : s.vm.findClass RJ6 = some m.cls := findClass_of_methodNamed B.named
  have hlocks := B.notSynchronized
  subst hsz
  have hD := hD0.self (sz := s.heap.size)
  generalize hAe : va_A [] s.heap.size = A at hD ⊢
  have hA : ∀ q : Nat, s.heap.size ≤ q → A q := fun q h => by rw [← hAe]; exact Or.inr h
  have hS : va_S A s.heap s.heap [] := va_S.rf
  have hl := lv_entry ([.int 100]) (n := 4) (Nat.le_of_ble_eq_true rfl)
  rw [lg_entry_eq]
  generalize (lg_sl ([.int 100]) ++ List.replicate (4 - (lg_sl ([.int 100])).length) Slot.unset).toArray = ls at hl ⊢
  have hl : lv_has ls 4 [(0, .int 100)] := hl
  refine lv_iconst (v := 1) hx hb dJ6_stringSize_0f7a4_0 (by decide) ?_
  refine lv_istore_n (lv' := [(1, .int 1), (0, .int 100)]) hx hb dJ6_stringSize_0f7a4_1 rfl hl (by decide) rfl (fun ls hl => ?_)
  refine lv_iload_n hx hb dJ6_stringSize_0f7a4_2 rfl (lv_at hl 1 rfl) ?_
  refine lv_if_lt (tgt := 11) hx hb dJ6_stringSize_0f7a4_3 (by decide) (fun c_1 => absurd c_1 (by decide)) (fun _ => ?_)
  refine lv_iconst (v := 0) hx hb dJ6_stringSize_0f7a4_6 (by decide) ?_
  refine lv_istore_n (lv' := [(1, .int 0), (0, .int 100)]) hx hb dJ6_stringSize_0f7a4_7 rfl hl (by decide) rfl (fun ls hl => ?_)
  refine lv_iload_n hx hb dJ6_stringSize_0f7a4_8 rfl (lv_at hl 1 rfl) ?_
  refine lv_ineg hx hb dJ6_stringSize_0f7a4_9 ?_
  refine z_top (y := (-100)) (by decide) ?_
  refine lv_istore_n (lv' := [(0, .int (-100)), (1, .int 0)]) hx hb dJ6_stringSize_0f7a4_10 rfl hl (by decide) rfl (fun ls hl => ?_)
  refine lv_bipush (v := (-10)) hx hb dJ6_stringSize_0f7a4_11 (by decide) ?_
  refine lv_istore_n (lv' := [(2, .int (-10)), (0, .int (-100)), (1, .int 0)]) hx hb dJ6_stringSize_0f7a4_13 rfl hl (by decide) rfl (fun ls hl => ?_)
  refine lv_iconst (v := 1) hx hb dJ6_stringSize_0f7a4_14 (by decide) ?_
  refine lv_istore_n (lv' := [(3, .int 1), (2, .int (-10)), (0, .int (-100)), (1, .int 0)]) hx hb dJ6_stringSize_0f7a4_15 rfl hl (by decide) rfl (fun ls hl => ?_)
  refine lv_iload_n hx hb dJ6_stringSize_0f7a4_16 rfl (lv_at hl 0 rfl) ?_
  refine lv_bipush (v := 10) hx hb dJ6_stringSize_0f7a4_17 (by decide) ?_
  refine lv_icmp_ge (tgt := 42) hx hb dJ6_stringSize_0f7a4_19 (by decide) (fun c_2 => absurd c_2 (by decide)) (fun _ => ?_)
  refine lv_iload_n hx hb dJ6_stringSize_0f7a4_22 rfl (lv_at hl 2 rfl) ?_
  refine lv_iload_n hx hb dJ6_stringSize_0f7a4_23 rfl (lv_at hl 1 rfl) ?_
  refine lv_icmp_le (tgt := 31) hx hb dJ6_stringSize_0f7a4_24 (by decide) (fun _ => ?_) (fun c_3 => absurd c_3 (by decide))
  refine lv_bipush (v := 10) hx hb dJ6_stringSize_0f7a4_31 (by decide) ?_
  refine lv_iload_n hx hb dJ6_stringSize_0f7a4_33 rfl (lv_at hl 1 rfl) ?_
  refine lv_imul hx hb dJ6_stringSize_0f7a4_34 ?_
  refine z_top (y := (-100)) (by decide) ?_
  refine lv_istore_n (lv' := [(2, .int (-100)), (3, .int 1), (0, .int (-100)), (1, .int 0)]) hx hb dJ6_stringSize_0f7a4_35 rfl hl (by decide) rfl (fun ls hl => ?_)
  refine lv_iinc (v := 2) (lv' := [(3, .int 2), (2, .int (-100)), (0, .int (-100)), (1, .int 0)]) hx hb dJ6_stringSize_0f7a4_36 hl (k := 1) rfl (by decide) (by decide) rfl (fun ls hl => ?_)
  refine lv_goto (tgt := 16) hx hb dJ6_stringSize_0f7a4_39 (by decide) ?_
  refine lv_iload_n hx hb dJ6_stringSize_0f7a4_16 rfl (lv_at hl 0 rfl) ?_
  refine lv_bipush (v := 10) hx hb dJ6_stringSize_0f7a4_17 (by decide) ?_
  refine lv_icmp_ge (tgt := 42) hx hb dJ6_stringSize_0f7a4_19 (by decide) (fun c_4 => absurd c_4 (by decide)) (fun _ => ?_)
  refine lv_iload_n hx hb dJ6_stringSize_0f7a4_22 rfl (lv_at hl 2 rfl) ?_
  refine lv_iload_n hx hb dJ6_stringSize_0f7a4_23 rfl (lv_at hl 1 rfl) ?_
  refine lv_icmp_le (tgt := 31) hx hb dJ6_stringSize_0f7a4_24 (by decide) (fun _ => ?_) (fun c_5 => absurd c_5 (by decide))
  refine lv_bipush (v := 10) hx hb dJ6_stringSize_0f7a4_31 (by decide) ?_
  refine lv_iload_n hx hb dJ6_stringSize_0f7a4_33 rfl (lv_at hl 1 rfl) ?_
  refine lv_imul hx hb dJ6_stringSize_0f7a4_34 ?_
  refine z_top (y := (-1000)) (by decide) ?_
  refine lv_istore_n (lv' := [(2, .int (-1000)), (3, .int 2), (0, .int (-100)), (1, .int 0)]) hx hb dJ6_stringSize_0f7a4_35 rfl hl (by decide) rfl (fun ls hl => ?_)
  refine lv_iinc (v := 3) (lv' := [(3, .int 3), (2, .int (-1000)), (0, .int (-100)), (1, .int 0)]) hx hb dJ6_stringSize_0f7a4_36 hl (k := 1) rfl (by decide) (by decide) rfl (fun ls hl => ?_)
  refine lv_goto (tgt := 16) hx hb dJ6_stringSize_0f7a4_39 (by decide) ?_
  refine lv_iload_n hx hb dJ6_stringSize_0f7a4_16 rfl (lv_at hl 0 rfl) ?_
  refine lv_bipush (v := 10) hx hb dJ6_stringSize_0f7a4_17 (by decide) ?_
  refine lv_icmp_ge (tgt := 42) hx hb dJ6_stringSize_0f7a4_19 (by decide) (fun c_6 => absurd c_6 (by decide)) (fun _ => ?_)
  refine lv_iload_n hx hb dJ6_stringSize_0f7a4_22 rfl (lv_at hl 2 rfl) ?_
  refine lv_iload_n hx hb dJ6_stringSize_0f7a4_23 rfl (lv_at hl 1 rfl) ?_
  refine lv_icmp_le (tgt := 31) hx hb dJ6_stringSize_0f7a4_24 (by decide) (fun c_7 => absurd c_7 (by decide)) (fun _ => ?_)
  refine lv_iload_n hx hb dJ6_stringSize_0f7a4_27 rfl (lv_at hl 0 rfl) ?_
  refine lv_iload_n hx hb dJ6_stringSize_0f7a4_28 rfl (lv_at hl 3 rfl) ?_
  refine lv_iadd hx hb dJ6_stringSize_0f7a4_29 ?_
  refine z_top (y := 3) (by decide) ?_
  refine W.widen (k := 0) (n := 0) (by omega) (by omega) ?_
  exact W.iret (v := 3) hx hb hr (fun t ht hW => ⟨⟨3, (), rfl, rfl, ⟨by rw [ht]; exact hP, by rw [hAe]; exact hD⟩⟩, hS.F ht⟩) hS.2.2 dJ6_stringSize_0f7a4_30
set_option maxHeartbeats 4000000 in
set_option maxRecDepth 100000 in
theorem c_appi_c (l : Launch) (D : va_G) (cA : Nat → ClassId) (zv : Nat → Nat) (sz : Nat) (sb vb : Nat) (ml : Int32) (ct n : Nat) (g : Nat → Int32) (hn : n = 16 ∨ n = 34) (hct : ct ≤ n) (hfb : bfit n g) (hr34 : ct + 3 ≤ 34) : Met l yJ5_append_c97b9 wsJ5_append_c97b9 ({ frames := 4, cells := 1, slots := 34, locals := 104 }) (va_Pc [.ref sb, .int 100] (zUX D cA zv sz [(sb, .inr (0, [.ref vb, .int 0, .int ml, .int (nI ct)])), (vb, .inl (cA 2, n, .inl g))])) (va_Qr (fun (u : (Nat × Nat × (Nat → Int32))) => apd u.2.1 u.2.2 g ct [49, 48, 48]) (fun (u : (Nat × Nat × (Nat → Int32))) ra t => ra = sb ∧ zB D [(sb, .inr (0, [.ref vb, .int 0, .int ml, .int (nI ct)])), (vb, .inl (cA 2, n, .inl g))] sz [(sb, .inr (0, [.ref u.1, .int 0, .int ml, .int (nI (ct + 3))])), (u.1, .inl (cA 2, u.2.1, .inl u.2.2))] t) (va_A [(sb, .inr (0, [.ref vb, .int 0, .int ml, .int (nI ct)])), (vb, .inl (cA 2, n, .inl g))] sz)) 1 34 (va_A [(sb, .inr (0, [.ref vb, .int 0, .int ml, .int (nI ct)])), (vb, .inl (cA 2, n, .inl g))] sz) := by
  refine Met.ofW (cc := cJ5_append_c97b9) (maxL := 4) (ret := (some (.object "java/lang/AbstractStringBuilder"))) (by decide) rfl ?_
  intro p e s m args below meth c s₁ B hml hv
  obtain ⟨rfl, ⟨hsz, hP, hK, hD0, hE0⟩, hX0⟩ := hv
  have hx := B.exec
  have hb := B.bytes
  have hr := B.returns
  have hts := atoms_spec (ws := wsJ5_append_c97b9) B.pre
  have hown : s.vm.findClass RJ5 = some m.cls := findClass_of_methodNamed B.named
  have hlocks := B.notSynchronized
  subst hsz
  have hD := hD0.self (sz := s.heap.size)
  generalize hAe : va_A [(sb, .inr (0, [.ref vb, .int 0, .int ml, .int (nI ct)])), (vb, .inl (cA 2, n, .inl g))] s.heap.size = A at hD hE0 hX0 ⊢
  have hA : ∀ q : Nat, s.heap.size ≤ q → A q := fun q h => by rw [← hAe]; exact Or.inr h
  have hS : va_S A s.heap s.heap [] := va_S.rf
  have hl := lv_entry ([.ref sb, .int 100]) (n := 4) (Nat.le_of_ble_eq_true rfl)
  rw [lg_entry_eq]
  generalize (lg_sl ([.ref sb, .int 100]) ++ List.replicate (4 - (lg_sl ([.ref sb, .int 100])).length) Slot.unset).toArray = ls at hl ⊢
  have hl : lv_has ls 4 [(0, .ref sb), (1, .int 100)] := hl
  have hn34 : n ≤ 34 := by omega
  refine lv_aload_n hx hb dJ5_append_c97b9_0 rfl (lv_at hl 0 rfl) ?_
  refine va_get (D := D) (ci := 0) (v := .int (nI ct)) (C := RJ4) (T := TJ4) (N := 4) hx hb hts (fun _ h => List.mem_cons_of_mem _ (List.mem_append_right _ (h))) hown hK hP 0 rfl rfl 3 (by decide) (hts (.fieldLink RJ5 79 "java/lang/AbstractStringBuilder" "count" "I") (List.mem_of_getElem? (i := 1) rfl)) (fun _ h9 => h9) rfl dJ5_append_c97b9_1 ?_
  refine lv_istore_n (lv' := [(2, .int (nI ct)), (0, .ref sb), (1, .int 100)]) hx hb dJ5_append_c97b9_4 rfl hl (by decide) rfl (fun ls hl => ?_)
  refine lv_iload_n hx hb dJ5_append_c97b9_5 rfl (lv_at hl 0 rfl) ?_
  refine lv_iload_n hx hb dJ5_append_c97b9_6 rfl (lv_at hl 2 rfl) ?_
  have hPc := hP.sub (ws' := []) [] rfl
  have hDc := hD.sub (ws' := []) [] (by decide) rfl
  have hFc := va_free (wc := []) hD hS hA [] rfl
  refine va_calli (va_runS (As := [.int 100]) (rest := [.int (nI ct)]) ⟨hx, hb, hml, hown, hts⟩ (c_ss_h l D cA s.heap.size ) (va_cwS 1 hts gJ5_append_c97b9_J6_stringSize_0f7a4 rfl rfl rfl (by decide +kernel) ⟨Nat.le_of_ble_eq_true rfl, Nat.le_of_ble_eq_true rfl⟩) ⟨zU_blind, fun U hU hW => ⟨rfl, zU_call hU hPc hW.alike hK hDc⟩⟩ rfl rfl hl.1 rfl (lv_room (Nat.le_of_ble_eq_true rfl)) dJ5_append_c97b9_7 ⟨(Nat.zero_le _), (Nat.zero_le _)⟩) hS (fun q _ h => hFc q h) hFc (fun zr u t H1 locs ht hvm hw hB hz1 hk1 hS => ?_)
  obtain ⟨hP1, hD1⟩ := hB
  rw [ht] at hP1
  obtain ⟨hP, hD⟩ := va_join (wr := [(sb, .inr (0, [.ref vb, .int 0, .int ml, .int (nI ct)])), (vb, .inl (cA 2, n, .inl g))]) (w1 := []) hP hD [] [0, 1] rfl rfl (by decide) (by decide) hk1 hFc hP1 hD1
  generalize H1 = H at hP hS ⊢
  have hP := hP.sub (ws' := [(sb, .inr (0, [.ref vb, .int 0, .int ml, .int (nI ct)])), (vb, .inl (cA 2, n, .inl g))]) [0, 1] rfl
  have hD := hD.sub (ws' := [(sb, .inr (0, [.ref vb, .int 0, .int ml, .int (nI ct)])), (vb, .inl (cA 2, n, .inl g))]) [0, 1] (by decide) rfl
  clear hPc hDc hFc hP1 hD1 hk1 hz1
  have hw_1 := hw
  obtain rfl := hw
  refine lv_iadd hx hb dJ5_append_c97b9_10 ?_
  refine z_top (y := (nI (ct + 3))) (z_add ct 3) ?_
  refine lv_istore_n (lv' := [(3, .int (nI (ct + 3))), (2, .int (nI ct)), (0, .ref sb), (1, .int 100)]) hx hb dJ5_append_c97b9_11 rfl hl (by decide) rfl (fun ls hl => ?_)
  refine lv_aload_n hx hb dJ5_append_c97b9_12 rfl (lv_at hl 2 rfl) ?_
  refine lv_iload_n hx hb dJ5_append_c97b9_13 rfl (lv_at hl 0 rfl) ?_
  by_cases hfit : ct + 3 ≤ n
  · skip
    have hPc := hP.sub (ws' := [(sb, .inr (0, [.ref vb, .int 0, .int ml, .int (nI ct)])), (vb, .inl (cA 2, n, .inl g))]) [0, 1] rfl
    have hDc := hD.sub (ws' := [(sb, .inr (0, [.ref vb, .int 0, .int ml, .int (nI ct)])), (vb, .inl (cA 2, n, .inl g))]) [0, 1] (by decide) rfl
    have hFc := va_free (wc := [(sb, .inr (0, [.ref vb, .int 0, .int ml, .int (nI ct)])), (vb, .inl (cA 2, n, .inl g))]) hD hS hA [0, 1] rfl
    refine va_callv (va_runU (As := [.int (nI (ct + 3))]) (rest := []) ⟨hx, hb, hml, hown, hts⟩ (c_ens_k l D cA H.size sb vb ml ct n g (ct + 3) (by omega) (by omega) hfit) (va_cwU 1 hts gJ5_append_c97b9_J5_ensureCapacityInternal_d00df_u100J4 rfl rfl rfl rfl (by decide +kernel) ⟨Nat.le_of_ble_eq_true rfl, Nat.le_of_ble_eq_true rfl⟩) ⟨zU_blind, va_recv hK hPc (ci := 0) (q0 := 0) rfl rfl, fun U hU hW => ⟨rfl, zU_call hU hPc hW.alike hK hDc⟩⟩ rfl rfl hl.1 rfl (lv_room (Nat.le_of_ble_eq_true rfl)) dJ5_append_c97b9_14 ⟨(Nat.zero_le _), (Nat.zero_le _)⟩) hS (fun q _ h => hFc q h) hFc (fun u t H1 locs ht hvm hw hB hz1 hk1 hS => ?_)
    obtain ⟨hP1, hD1⟩ := hB
    rw [ht] at hP1
    obtain ⟨hP, hD⟩ := va_join (wr := []) (w1 := [(sb, .inr (0, [.ref vb, .int 0, .int ml, .int (nI ct)])), (vb, .inl (cA 2, n, .inl g))]) hP hD [0, 1] [] rfl rfl (by decide) (by decide) hk1 hFc hP1 hD1
    generalize H1 = H at hP hS ⊢
    have hP := hP.sub (ws' := [(sb, .inr (0, [.ref vb, .int 0, .int ml, .int (nI ct)])), (vb, .inl (cA 2, n, .inl g))]) [0, 1] rfl
    have hD := hD.sub (ws' := [(sb, .inr (0, [.ref vb, .int 0, .int ml, .int (nI ct)])), (vb, .inl (cA 2, n, .inl g))]) [0, 1] (by decide) rfl
    clear hPc hDc hFc hP1 hD1 hk1 hz1
    have hw_2 := hw
    refine lv_aload_n hx hb dJ5_append_c97b9_17 rfl (lv_at hl 2 rfl) ?_
    have hPc := hP.sub (ws' := [(sb, .inr (0, [.ref vb, .int 0, .int ml, .int (nI ct)]))]) [0] rfl
    have hDc := hD.sub (ws' := [(sb, .inr (0, [.ref vb, .int 0, .int ml, .int (nI ct)]))]) [0] (by decide) rfl
    have hFc := va_free (wc := [(sb, .inr (0, [.ref vb, .int 0, .int ml, .int (nI ct)]))]) hD hS hA [0] rfl
    refine va_calli (va_runU (As := []) (rest := []) ⟨hx, hb, hml, hown, hts⟩ (c_J5_isLatin1_aae02 l D cA zv H.size sb vb ml ct) (va_cwU 0 hts gJ5_append_c97b9_J5_isLatin1_aae02_u83J4 rfl rfl rfl rfl (by decide +kernel) ⟨Nat.le_of_ble_eq_true rfl, Nat.le_of_ble_eq_true rfl⟩) ⟨zUX_blind, va_recv hK hPc (ci := 0) (q0 := 0) rfl rfl, fun U hU hW => ⟨rfl, zUX_call hE0 hX0 hS hFc hU hPc hW hK hDc⟩⟩ rfl rfl hl.1 rfl (lv_room (Nat.le_of_ble_eq_true rfl)) dJ5_append_c97b9_18 ⟨(Nat.zero_le _), (Nat.zero_le _)⟩) hS (fun q _ h => hFc q h) hFc (fun zr u t H1 locs ht hvm hw hB hz1 hk1 hS => ?_)
    obtain ⟨hP1, hD1⟩ := hB
    rw [ht] at hP1
    obtain ⟨hP, hD⟩ := va_join (wr := [(vb, .inl (cA 2, n, .inl g))]) (w1 := [(sb, .inr (0, [.ref vb, .int 0, .int ml, .int (nI ct)]))]) hP hD [0] [1] rfl rfl (by decide) (by decide) hk1 hFc hP1 hD1
    generalize H1 = H at hP hS ⊢
    have hP := hP.sub (ws' := [(sb, .inr (0, [.ref vb, .int 0, .int ml, .int (nI ct)])), (vb, .inl (cA 2, n, .inl g))]) [1, 0] rfl
    have hD := hD.sub (ws' := [(sb, .inr (0, [.ref vb, .int 0, .int ml, .int (nI ct)])), (vb, .inl (cA 2, n, .inl g))]) [1, 0] (by decide) rfl
    clear hPc hDc hFc hP1 hD1 hk1 hz1
    have hw_3 := hw
    obtain rfl := hw
    refine lv_if_eq (tgt := 37) hx hb dJ5_append_c97b9_21 (by decide) (fun c_4 => absurd c_4 (by decide)) (fun _ => ?_)
    refine lv_iload_n hx hb dJ5_append_c97b9_24 rfl (lv_at hl 3 rfl) ?_
    refine lv_iload_n hx hb dJ5_append_c97b9_25 rfl (lv_at hl 0 rfl) ?_
    refine lv_aload_n hx hb dJ5_append_c97b9_26 rfl (lv_at hl 2 rfl) ?_
    refine va_get (D := D) (ci := 0) (v := .ref vb) (C := RJ4) (T := TJ4) (N := 4) hx hb hts (fun _ h => List.mem_cons_of_mem _ (List.mem_append_right _ (h))) hown hK hP 0 rfl rfl 0 (by decide) (hts (.fieldLink RJ5 15 "java/lang/AbstractStringBuilder" "value" "[B") (List.mem_of_getElem? (i := 2) rfl)) (fun _ h9 => h9) rfl dJ5_append_c97b9_27 ?_
    have hPc := hP.sub (ws' := [(vb, .inl (cA 2, n, .inl g))]) [1] rfl
    have hDc := hD.sub (ws' := [(vb, .inl (cA 2, n, .inl g))]) [1] (by decide) rfl
    have hFc := va_free (wc := [(vb, .inl (cA 2, n, .inl g))]) hD hS hA [1] rfl
    refine va_calli (va_runS (As := [.int 100, .int (nI (ct + 3)), .ref vb]) (rest := []) ⟨hx, hb, hml, hown, hts⟩ (c_gc_c l D cA zv H.size vb ct n g (by omega) (by omega)) (va_cwS 3 hts gJ5_append_c97b9_J6_getChars_ba4f3 rfl rfl rfl (by decide +kernel) ⟨Nat.le_of_ble_eq_true rfl, Nat.le_of_ble_eq_true rfl⟩) ⟨zUX_blind, fun U hU hW => ⟨rfl, zUX_call hE0 hX0 hS hFc hU hPc hW hK hDc⟩⟩ rfl rfl hl.1 rfl (lv_room (Nat.le_of_ble_eq_true rfl)) dJ5_append_c97b9_30 ⟨(Nat.zero_le _), (Nat.zero_le _)⟩) hS (fun q _ h => hFc q h) hFc (fun zr u t H1 locs ht hvm hw hB hz1 hk1 hS => ?_)
    obtain ⟨hP1, hD1⟩ := hB
    rw [ht] at hP1
    obtain ⟨hP, hD⟩ := va_join (wr := [(sb, .inr (0, [.ref vb, .int 0, .int ml, .int (nI ct)]))]) (w1 := [(vb, .inl (cA 2, n, .inl (upd (upd (upd g (ct + 2) (nI (48 + 0 % 10))) (ct + 1) (nI (48 + 0 / 10))) ct (nI (48 + 1 % 10)))))]) hP hD [1] [0] rfl rfl (by decide) (by decide) hk1 hFc hP1 hD1
    generalize H1 = H at hP hS ⊢
    have hP := hP.sub (ws' := [(sb, .inr (0, [.ref vb, .int 0, .int ml, .int (nI ct)])), (vb, .inl (cA 2, n, .inl (upd (upd (upd g (ct + 2) (nI (48 + 0 % 10))) (ct + 1) (nI (48 + 0 / 10))) ct (nI (48 + 1 % 10)))))]) [0, 1] rfl
    have hD := hD.sub (ws' := [(sb, .inr (0, [.ref vb, .int 0, .int ml, .int (nI ct)])), (vb, .inl (cA 2, n, .inl (upd (upd (upd g (ct + 2) (nI (48 + 0 % 10))) (ct + 1) (nI (48 + 0 / 10))) ct (nI (48 + 1 % 10)))))]) [0, 1] (by decide) rfl
    clear hPc hDc hFc hP1 hD1 hk1 hz1
    have hw_5 := hw
    obtain rfl := hw
    refine lv_pop hx hb dJ5_append_c97b9_33 rfl ?_
    refine lv_goto (tgt := 48) hx hb dJ5_append_c97b9_34 (by decide) ?_
    refine lv_aload_n hx hb dJ5_append_c97b9_48 rfl (lv_at hl 2 rfl) ?_
    refine lv_iload_n hx hb dJ5_append_c97b9_49 rfl (lv_at hl 0 rfl) ?_
    refine va_put (D := D) (ci := 0) (v := .int (nI (ct + 3))) (ty := .int) (C := RJ4) (T := TJ4) (N := 4) hx hb hts (fun _ h => List.mem_cons_of_mem _ (List.mem_append_right _ (h))) tyJ4 tyJ4_ok nmJ4 hown hK hP hD hS 0 rfl rfl 3 (by decide) (hts (.fieldLink RJ5 79 "java/lang/AbstractStringBuilder" "count" "I") (List.mem_of_getElem? (i := 1) rfl)) (fun _ h9 => h9) rfl (by decide +kernel) rfl rfl (Nat.le_of_ble_eq_true rfl) dJ5_append_c97b9_50 (fun H locs hP hD hS => ?_)
    have hP : va_P D vwCl [(sb, .inr (0, [.ref vb, .int 0, .int ml, .int (nI (ct + 3))])), (vb, .inl (cA 2, n, .inl (upd (upd (upd g (ct + 2) (nI (48 + 0 % 10))) (ct + 1) (nI (48 + 0 / 10))) ct (nI (48 + 1 % 10)))))] H := hP
    have hD : va_D A [(sb, .inr (0, [.ref vb, .int 0, .int ml, .int (nI (ct + 3))])), (vb, .inl (cA 2, n, .inl (upd (upd (upd g (ct + 2) (nI (48 + 0 % 10))) (ct + 1) (nI (48 + 0 / 10))) ct (nI (48 + 1 % 10)))))] := hD
    refine lv_aload_n hx hb dJ5_append_c97b9_53 rfl (lv_at hl 2 rfl) ?_
    refine W.widen (k := 1) (n := 34) (by omega) (by omega) ?_
    exact W.aret (v := .ref sb) hx hb hr (Or.inl ⟨_, rfl⟩) (Or.inr ⟨_, rfl⟩) (fun t ht hW => ⟨⟨(vb, n, (upd (upd (upd g (ct + 2) (nI (48 + 0 % 10))) (ct + 1) (nI (48 + 0 / 10))) ct (nI (48 + 1 % 10)))), sb, rfl, apd_3 hn (by omega) hfb (fun _ _ => rfl), ⟨rfl, ⟨by rw [ht]; exact hP, by rw [hAe]; exact hD⟩⟩⟩, hS.F ht⟩) hS.2.2 dJ5_append_c97b9_54
  · skip
    obtain rfl : n = 16 := by omega
    have hPc := hP.sub (ws' := [(sb, .inr (0, [.ref vb, .int 0, .int ml, .int (nI ct)])), (vb, .inl (cA 2, 16, .inl g))]) [0, 1] rfl
    have hDc := hD.sub (ws' := [(sb, .inr (0, [.ref vb, .int 0, .int ml, .int (nI ct)])), (vb, .inl (cA 2, 16, .inl g))]) [0, 1] (by decide) rfl
    have hFc := va_free (wc := [(sb, .inr (0, [.ref vb, .int 0, .int ml, .int (nI ct)])), (vb, .inl (cA 2, 16, .inl g))]) hD hS hA [0, 1] rfl
    refine va_callv (va_runU (As := [.int (nI (ct + 3))]) (rest := []) ⟨hx, hb, hml, hown, hts⟩ (c_ens_g l D cA H.size sb vb ml ct g (ct + 3) (by omega) (by omega) (by assumption)) (va_cwU 1 hts gJ5_append_c97b9_J5_ensureCapacityInternal_d00df_u100J4 rfl rfl rfl rfl (by decide +kernel) ⟨Nat.le_of_ble_eq_true rfl, Nat.le_of_ble_eq_true rfl⟩) ⟨zU_blind, va_recv hK hPc (ci := 0) (q0 := 0) rfl rfl, fun U hU hW => ⟨rfl, zU_call hU hPc hW.alike hK hDc⟩⟩ rfl rfl hl.1 rfl (lv_room (Nat.le_of_ble_eq_true rfl)) dJ5_append_c97b9_14 ⟨Nat.le_of_ble_eq_true rfl, Nat.le_of_ble_eq_true rfl⟩) hS (fun q _ h => hFc q h) hFc (fun u t H1 locs ht hvm hw hB hz1 hk1 hS => ?_)
    obtain ⟨vb'_6, g'_6⟩ := u
    obtain ⟨hP1, hD1⟩ := hB
    rw [ht] at hP1
    try dsimp only at hw hP1 hD1
    obtain ⟨hP, hD⟩ := va_join (wr := []) (w1 := [(sb, .inr (0, [.ref vb'_6, .int 0, .int ml, .int (nI ct)])), (vb'_6, .inl (cA 2, 34, .inl g'_6))]) hP hD [0, 1] [] rfl rfl (by decide) (by decide) hk1 hFc hP1 hD1
    generalize H1 = H at hP hS ⊢
    have hP := hP.sub (ws' := [(sb, .inr (0, [.ref vb'_6, .int 0, .int ml, .int (nI ct)])), (vb'_6, .inl (cA 2, 34, .inl g'_6))]) [0, 1] rfl
    have hD := hD.sub (ws' := [(sb, .inr (0, [.ref vb'_6, .int 0, .int ml, .int (nI ct)])), (vb'_6, .inl (cA 2, 34, .inl g'_6))]) [0, 1] (by decide) rfl
    clear hPc hDc hFc hP1 hD1 hk1 hz1
    refine W.widen (k := 1) (n := 34) (by omega) (by omega) ?_
    obtain ⟨hw_6_0, hw_6_1⟩ := hw
    refine lv_aload_n hx hb dJ5_append_c97b9_17 rfl (lv_at hl 2 rfl) ?_
    have hPc := hP.sub (ws' := [(sb, .inr (0, [.ref vb'_6, .int 0, .int ml, .int (nI ct)]))]) [0] rfl
    have hDc := hD.sub (ws' := [(sb, .inr (0, [.ref vb'_6, .int 0, .int ml, .int (nI ct)]))]) [0] (by decide) rfl
    have hFc := va_free (wc := [(sb, .inr (0, [.ref vb'_6, .int 0, .int ml, .int (nI ct)]))]) hD hS hA [0] rfl
    refine va_calli (va_runU (As := []) (rest := []) ⟨hx, hb, hml, hown, hts⟩ (c_J5_isLatin1_aae02 l D cA zv H.size sb vb'_6 ml ct) (va_cwU 0 hts gJ5_append_c97b9_J5_isLatin1_aae02_u83J4 rfl rfl rfl rfl (by decide +kernel) ⟨Nat.le_of_ble_eq_true rfl, Nat.le_of_ble_eq_true rfl⟩) ⟨zUX_blind, va_recv hK hPc (ci := 0) (q0 := 0) rfl rfl, fun U hU hW => ⟨rfl, zUX_call hE0 hX0 hS hFc hU hPc hW hK hDc⟩⟩ rfl rfl hl.1 rfl (lv_room (Nat.le_of_ble_eq_true rfl)) dJ5_append_c97b9_18 ⟨Nat.le_of_ble_eq_true rfl, Nat.le_of_ble_eq_true rfl⟩) hS (fun q _ h => hFc q h) hFc (fun zr u t H1 locs ht hvm hw hB hz1 hk1 hS => ?_)
    obtain ⟨hP1, hD1⟩ := hB
    rw [ht] at hP1
    obtain ⟨hP, hD⟩ := va_join (wr := [(vb'_6, .inl (cA 2, 34, .inl g'_6))]) (w1 := [(sb, .inr (0, [.ref vb'_6, .int 0, .int ml, .int (nI ct)]))]) hP hD [0] [1] rfl rfl (by decide) (by decide) hk1 hFc hP1 hD1
    generalize H1 = H at hP hS ⊢
    have hP := hP.sub (ws' := [(sb, .inr (0, [.ref vb'_6, .int 0, .int ml, .int (nI ct)])), (vb'_6, .inl (cA 2, 34, .inl g'_6))]) [1, 0] rfl
    have hD := hD.sub (ws' := [(sb, .inr (0, [.ref vb'_6, .int 0, .int ml, .int (nI ct)])), (vb'_6, .inl (cA 2, 34, .inl g'_6))]) [1, 0] (by decide) rfl
    clear hPc hDc hFc hP1 hD1 hk1 hz1
    have hw_7 := hw
    obtain rfl := hw
    refine lv_if_eq (tgt := 37) hx hb dJ5_append_c97b9_21 (by decide) (fun c_8 => absurd c_8 (by decide)) (fun _ => ?_)
    refine lv_iload_n hx hb dJ5_append_c97b9_24 rfl (lv_at hl 3 rfl) ?_
    refine lv_iload_n hx hb dJ5_append_c97b9_25 rfl (lv_at hl 0 rfl) ?_
    refine lv_aload_n hx hb dJ5_append_c97b9_26 rfl (lv_at hl 2 rfl) ?_
    refine va_get (D := D) (ci := 0) (v := .ref vb'_6) (C := RJ4) (T := TJ4) (N := 4) hx hb hts (fun _ h => List.mem_cons_of_mem _ (List.mem_append_right _ (h))) hown hK hP 0 rfl rfl 0 (by decide) (hts (.fieldLink RJ5 15 "java/lang/AbstractStringBuilder" "value" "[B") (List.mem_of_getElem? (i := 2) rfl)) (fun _ h9 => h9) rfl dJ5_append_c97b9_27 ?_
    have hPc := hP.sub (ws' := [(vb'_6, .inl (cA 2, 34, .inl g'_6))]) [1] rfl
    have hDc := hD.sub (ws' := [(vb'_6, .inl (cA 2, 34, .inl g'_6))]) [1] (by decide) rfl
    have hFc := va_free (wc := [(vb'_6, .inl (cA 2, 34, .inl g'_6))]) hD hS hA [1] rfl
    refine va_calli (va_runS (As := [.int 100, .int (nI (ct + 3)), .ref vb'_6]) (rest := []) ⟨hx, hb, hml, hown, hts⟩ (c_gc_c l D cA zv H.size vb'_6 ct 34 g'_6 (by omega) (by omega)) (va_cwS 3 hts gJ5_append_c97b9_J6_getChars_ba4f3 rfl rfl rfl (by decide +kernel) ⟨Nat.le_of_ble_eq_true rfl, Nat.le_of_ble_eq_true rfl⟩) ⟨zUX_blind, fun U hU hW => ⟨rfl, zUX_call hE0 hX0 hS hFc hU hPc hW hK hDc⟩⟩ rfl rfl hl.1 rfl (lv_room (Nat.le_of_ble_eq_true rfl)) dJ5_append_c97b9_30 ⟨Nat.le_of_ble_eq_true rfl, Nat.le_of_ble_eq_true rfl⟩) hS (fun q _ h => hFc q h) hFc (fun zr u t H1 locs ht hvm hw hB hz1 hk1 hS => ?_)
    obtain ⟨hP1, hD1⟩ := hB
    rw [ht] at hP1
    obtain ⟨hP, hD⟩ := va_join (wr := [(sb, .inr (0, [.ref vb'_6, .int 0, .int ml, .int (nI ct)]))]) (w1 := [(vb'_6, .inl (cA 2, 34, .inl (upd (upd (upd g'_6 (ct + 2) (nI (48 + 0 % 10))) (ct + 1) (nI (48 + 0 / 10))) ct (nI (48 + 1 % 10)))))]) hP hD [1] [0] rfl rfl (by decide) (by decide) hk1 hFc hP1 hD1
    generalize H1 = H at hP hS ⊢
    have hP := hP.sub (ws' := [(sb, .inr (0, [.ref vb'_6, .int 0, .int ml, .int (nI ct)])), (vb'_6, .inl (cA 2, 34, .inl (upd (upd (upd g'_6 (ct + 2) (nI (48 + 0 % 10))) (ct + 1) (nI (48 + 0 / 10))) ct (nI (48 + 1 % 10)))))]) [0, 1] rfl
    have hD := hD.sub (ws' := [(sb, .inr (0, [.ref vb'_6, .int 0, .int ml, .int (nI ct)])), (vb'_6, .inl (cA 2, 34, .inl (upd (upd (upd g'_6 (ct + 2) (nI (48 + 0 % 10))) (ct + 1) (nI (48 + 0 / 10))) ct (nI (48 + 1 % 10)))))]) [0, 1] (by decide) rfl
    clear hPc hDc hFc hP1 hD1 hk1 hz1
    have hw_9 := hw
    obtain rfl := hw
    refine lv_pop hx hb dJ5_append_c97b9_33 rfl ?_
    refine lv_goto (tgt := 48) hx hb dJ5_append_c97b9_34 (by decide) ?_
    refine lv_aload_n hx hb dJ5_append_c97b9_48 rfl (lv_at hl 2 rfl) ?_
    refine lv_iload_n hx hb dJ5_append_c97b9_49 rfl (lv_at hl 0 rfl) ?_
    refine va_put (D := D) (ci := 0) (v := .int (nI (ct + 3))) (ty := .int) (C := RJ4) (T := TJ4) (N := 4) hx hb hts (fun _ h => List.mem_cons_of_mem _ (List.mem_append_right _ (h))) tyJ4 tyJ4_ok nmJ4 hown hK hP hD hS 0 rfl rfl 3 (by decide) (hts (.fieldLink RJ5 79 "java/lang/AbstractStringBuilder" "count" "I") (List.mem_of_getElem? (i := 1) rfl)) (fun _ h9 => h9) rfl (by decide +kernel) rfl rfl (Nat.le_of_ble_eq_true rfl) dJ5_append_c97b9_50 (fun H locs hP hD hS => ?_)
    have hP : va_P D vwCl [(sb, .inr (0, [.ref vb'_6, .int 0, .int ml, .int (nI (ct + 3))])), (vb'_6, .inl (cA 2, 34, .inl (upd (upd (upd g'_6 (ct + 2) (nI (48 + 0 % 10))) (ct + 1) (nI (48 + 0 / 10))) ct (nI (48 + 1 % 10)))))] H := hP
    have hD : va_D A [(sb, .inr (0, [.ref vb'_6, .int 0, .int ml, .int (nI (ct + 3))])), (vb'_6, .inl (cA 2, 34, .inl (upd (upd (upd g'_6 (ct + 2) (nI (48 + 0 % 10))) (ct + 1) (nI (48 + 0 / 10))) ct (nI (48 + 1 % 10)))))] := hD
    refine lv_aload_n hx hb dJ5_append_c97b9_53 rfl (lv_at hl 2 rfl) ?_
    refine W.widen (k := 1) (n := 34) (by omega) (by omega) ?_
    exact W.aret (v := .ref sb) hx hb hr (Or.inl ⟨_, rfl⟩) (Or.inr ⟨_, rfl⟩) (fun t ht hW => ⟨⟨(vb'_6, 34, (upd (upd (upd g'_6 (ct + 2) (nI (48 + 0 % 10))) (ct + 1) (nI (48 + 0 / 10))) ct (nI (48 + 1 % 10)))), sb, rfl, apd_3 (Or.inr rfl) (by omega) hw_6_0 (fun i hi => hw_6_1 i (by omega)), ⟨rfl, ⟨by rw [ht]; exact hP, by rw [hAe]; exact hD⟩⟩⟩, hS.F ht⟩) hS.2.2 dJ5_append_c97b9_54
set_option maxHeartbeats 4000000 in
set_option maxRecDepth 100000 in
theorem c_sbi_c (l : Launch) (D : va_G) (cA : Nat → ClassId) (zv : Nat → Nat) (sz : Nat) (sb vb : Nat) (ml : Int32) (ct n : Nat) (g : Nat → Int32) (hn : n = 16 ∨ n = 34) (hct : ct ≤ n) (hfb : bfit n g) (hr34 : ct + 3 ≤ 34) : Met l yJ4_append_bf812 wsJ4_append_bf812 ({ frames := 5, cells := 1, slots := 34, locals := 127 }) (va_Pc [.ref sb, .int 100] (zUX D cA zv sz [(sb, .inr (0, [.ref vb, .int 0, .int ml, .int (nI ct)])), (vb, .inl (cA 2, n, .inl g))])) (va_Qr (fun (u : (Nat × Nat × (Nat → Int32))) => apd u.2.1 u.2.2 g ct [49, 48, 48]) (fun (u : (Nat × Nat × (Nat → Int32))) ra t => ra = sb ∧ zB D [(sb, .inr (0, [.ref vb, .int 0, .int ml, .int (nI ct)])), (vb, .inl (cA 2, n, .inl g))] sz [(sb, .inr (0, [.ref u.1, .int 0, .int ml, .int (nI (ct + 3))])), (u.1, .inl (cA 2, u.2.1, .inl u.2.2))] t) (va_A [(sb, .inr (0, [.ref vb, .int 0, .int ml, .int (nI ct)])), (vb, .inl (cA 2, n, .inl g))] sz)) 1 34 (va_A [(sb, .inr (0, [.ref vb, .int 0, .int ml, .int (nI ct)])), (vb, .inl (cA 2, n, .inl g))] sz) := by
  refine Met.ofW (cc := cJ4_append_bf812) (maxL := 2) (ret := (some (.object "java/lang/StringBuilder"))) (by decide) rfl ?_
  intro p e s m args below meth c s₁ B hml hv
  obtain ⟨rfl, ⟨hsz, hP, hK, hD0, hE0⟩, hX0⟩ := hv
  have hx := B.exec
  have hb := B.bytes
  have hr := B.returns
  have hts := atoms_spec (ws := wsJ4_append_bf812) B.pre
  have hown : s.vm.findClass RJ4 = some m.cls := findClass_of_methodNamed B.named
  have hlocks := B.notSynchronized
  subst hsz
  have hD := hD0.self (sz := s.heap.size)
  generalize hAe : va_A [(sb, .inr (0, [.ref vb, .int 0, .int ml, .int (nI ct)])), (vb, .inl (cA 2, n, .inl g))] s.heap.size = A at hD hE0 hX0 ⊢
  have hA : ∀ q : Nat, s.heap.size ≤ q → A q := fun q h => by rw [← hAe]; exact Or.inr h
  have hS : va_S A s.heap s.heap [] := va_S.rf
  have hl := lv_entry ([.ref sb, .int 100]) (n := 2) (Nat.le_of_ble_eq_true rfl)
  rw [lg_entry_eq]
  generalize (lg_sl ([.ref sb, .int 100]) ++ List.replicate (2 - (lg_sl ([.ref sb, .int 100])).length) Slot.unset).toArray = ls at hl ⊢
  have hl : lv_has ls 2 [(0, .ref sb), (1, .int 100)] := hl
  refine lv_aload_n hx hb dJ4_append_bf812_0 rfl (lv_at hl 0 rfl) ?_
  refine lv_iload_n hx hb dJ4_append_bf812_1 rfl (lv_at hl 1 rfl) ?_
  have hPc := hP.sub (ws' := [(sb, .inr (0, [.ref vb, .int 0, .int ml, .int (nI ct)])), (vb, .inl (cA 2, n, .inl g))]) [0, 1] rfl
  have hDc := hD.sub (ws' := [(sb, .inr (0, [.ref vb, .int 0, .int ml, .int (nI ct)])), (vb, .inl (cA 2, n, .inl g))]) [0, 1] (by decide) rfl
  have hFc := va_free (wc := [(sb, .inr (0, [.ref vb, .int 0, .int ml, .int (nI ct)])), (vb, .inl (cA 2, n, .inl g))]) hD hS hA [0, 1] rfl
  refine va_callr (va_runSU (As := [.int 100]) (rest := []) (hK.1 0 _ rfl).2 ⟨hx, hb, hml, hown, hts⟩ (c_appi_c l D cA zv s.heap.size sb vb ml ct n g (by assumption) (by assumption) (by assumption) (by assumption)) (va_cwSU 1 hts gJ4_append_bf812_J5_append_c97b9_s53 rfl rfl rfl (by decide +kernel) ⟨Nat.le_of_ble_eq_true rfl, Nat.le_of_ble_eq_true rfl⟩) ⟨zUX_blind, va_recv hK hPc (ci := 0) (q0 := 0) rfl rfl, fun U hU hW => ⟨rfl, zUX_call hE0 hX0 hS hFc hU hPc hW hK hDc⟩⟩ rfl rfl hl.1 rfl (lv_room (Nat.le_of_ble_eq_true rfl)) dJ4_append_bf812_2 ⟨Nat.le_of_ble_eq_true rfl, Nat.le_of_ble_eq_true rfl⟩) hS (fun q _ h => hFc q h) hFc (fun u ra t H1 locs ht hvm hw hB hz1 hk1 hS => ?_)
  obtain ⟨vb'_1, n'_1, g'_1⟩ := u
  obtain ⟨hra, hP1, hD1⟩ := hB
  rw [ht] at hP1
  try dsimp only at hw hP1 hD1 hra
  subst ra
  obtain ⟨hP, hD⟩ := va_join (wr := []) (w1 := [(sb, .inr (0, [.ref vb'_1, .int 0, .int ml, .int (nI (ct + 3))])), (vb'_1, .inl (cA 2, n'_1, .inl g'_1))]) hP hD [0, 1] [] rfl rfl (by decide) (by decide) hk1 hFc hP1 hD1
  generalize H1 = H at hP hS ⊢
  have hP := hP.sub (ws' := [(sb, .inr (0, [.ref vb'_1, .int 0, .int ml, .int (nI (ct + 3))])), (vb'_1, .inl (cA 2, n'_1, .inl g'_1))]) [0, 1] rfl
  have hD := hD.sub (ws' := [(sb, .inr (0, [.ref vb'_1, .int 0, .int ml, .int (nI (ct + 3))])), (vb'_1, .inl (cA 2, n'_1, .inl g'_1))]) [0, 1] (by decide) rfl
  clear hPc hDc hFc hP1 hD1 hk1 hz1
  refine W.widen (k := 1) (n := 34) (by omega) (by omega) ?_
  have hw_1 := hw
  refine lv_pop hx hb dJ4_append_bf812_5 rfl ?_
  refine lv_aload_n hx hb dJ4_append_bf812_6 rfl (lv_at hl 0 rfl) ?_
  refine W.widen (k := 1) (n := 34) (by omega) (by omega) ?_
  exact W.aret (v := .ref sb) hx hb hr (Or.inl ⟨_, rfl⟩) (Or.inr ⟨_, rfl⟩) (fun t ht hW => ⟨⟨(vb'_1, n'_1, g'_1), sb, rfl, hw_1, ⟨rfl, ⟨by rw [ht]; exact hP, by rw [hAe]; exact hD⟩⟩⟩, hS.F ht⟩) hS.2.2 dJ4_append_bf812_7
