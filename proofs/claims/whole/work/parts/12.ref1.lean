set_option maxHeartbeats 4000000 in
set_option maxRecDepth 100000 in
/-- isIn(n, from, to) -/
theorem c_X4_isIn (l : Launch) (D : va_G) (cA : Nat → ClassId) (sz : Nat) (x a z : Int32)  : Met l yX4_isIn wsX4_isIn ({ frames := 0, cells := 0, slots := 0, locals := 0 }) (va_Pc [.int x, .int a, .int z] (zU D cA sz [])) (va_Qi (fun (r : Int32) (_ : Unit) => r = bI (inr x a z)) (fun (_ : Unit) t => zB D [] sz [] t) (va_A [] sz)) 0 0 (va_A [] sz) := by
  refine Met.ofW (cc := cX4_isIn) (maxL := 3) (ret := (some .boolean)) (by decide) rfl ?_
  intro p e s m args below meth c s₁ B hml hv
  obtain ⟨rfl, hsz, hP, hK, hD0⟩ := hv
  have hx := B.exec
  have hb := B.bytes
  have hr := B.returns
  have hts := atoms_spec (ws := wsX4_isIn) B.pre
  have hown : s.vm.findClass RX4 = some m.cls := findClass_of_methodNamed B.named
  have hlocks := B.notSynchronized
  subst hsz
  have hD := hD0.self (sz := s.heap.size)
  generalize hAe : va_A [] s.heap.size = A at hD ⊢
  have hA : ∀ q : Nat, s.heap.size ≤ q → A q := fun q h => by rw [← hAe]; exact Or.inr h
  have hS : va_S A s.heap s.heap [] := va_S.rf
  have hl := lv_entry ([.int x, .int a, .int z]) (n := 3) (Nat.le_of_ble_eq_true rfl)
  rw [lg_entry_eq]
  generalize (lg_sl ([.int x, .int a, .int z]) ++ List.replicate (3 - (lg_sl ([.int x, .int a, .int z])).length) Slot.unset).toArray = ls at hl ⊢
  have hl : lv_has ls 3 [(0, .int x), (1, .int a), (2, .int z)] := hl
  refine lv_iload_n hx hb dX4_isIn_0 rfl (lv_at hl 0 rfl) ?_
  refine lv_iload_n hx hb dX4_isIn_1 rfl (lv_at hl 1 rfl) ?_
  refine lv_icmp_lt (tgt := 14) hx hb dX4_isIn_2 (by decide) (fun c_1 => ?_) (fun c_1 => ?_)
  · skip
    refine lv_iconst (v := 0) hx hb dX4_isIn_14 (by decide) ?_
    refine W.widen (k := 0) (n := 0) (by omega) (by omega) ?_
    exact W.zret (v := 0) hx hb hr rfl (fun t ht hW => ⟨⟨0, (), rfl, by first | (simp only [bI, inr, if_pos c_1]; done) | simp [bI, inr, c_1], ⟨by rw [ht]; exact hP, by rw [hAe]; exact hD⟩⟩, hS.F ht⟩) hS.2.2 dX4_isIn_15
  · skip
    refine lv_iload_n hx hb dX4_isIn_5 rfl (lv_at hl 0 rfl) ?_
    refine lv_iload_n hx hb dX4_isIn_6 rfl (lv_at hl 2 rfl) ?_
    refine lv_icmp_gt (tgt := 14) hx hb dX4_isIn_7 (by decide) (fun c_2 => ?_) (fun c_2 => ?_)
    · skip
      refine lv_iconst (v := 0) hx hb dX4_isIn_14 (by decide) ?_
      refine W.widen (k := 0) (n := 0) (by omega) (by omega) ?_
      exact W.zret (v := 0) hx hb hr rfl (fun t ht hW => ⟨⟨0, (), rfl, by first | (simp only [bI, inr, if_neg c_1, if_pos c_2]; done) | simp [bI, inr, c_1, c_2], ⟨by rw [ht]; exact hP, by rw [hAe]; exact hD⟩⟩, hS.F ht⟩) hS.2.2 dX4_isIn_15
    · skip
      refine lv_iconst (v := 1) hx hb dX4_isIn_10 (by decide) ?_
      refine lv_goto (tgt := 15) hx hb dX4_isIn_11 (by decide) ?_
      refine W.widen (k := 0) (n := 0) (by omega) (by omega) ?_
      exact W.zret (v := 1) hx hb hr rfl (fun t ht hW => ⟨⟨1, (), rfl, by first | (simp only [bI, inr, if_neg c_1, if_neg c_2]; done) | simp [bI, inr, c_1, c_2], ⟨by rw [ht]; exact hP, by rw [hAe]; exact hD⟩⟩, hS.F ht⟩) hS.2.2 dX4_isIn_15
set_option maxHeartbeats 4000000 in
set_option maxRecDepth 100000 in
/-- isEnd(end) -/
theorem c_X4_isEnd (l : Launch) (D : va_G) (cA : Nat → ClassId) (sz : Nat) (x : Int32)  : Met l yX4_isEnd wsX4_isEnd ({ frames := 1, cells := 0, slots := 0, locals := 22 }) (va_Pc [.int x] (zU D cA sz [])) (va_Qi (fun (r : Int32) (_ : Unit) => r = bI (inr x 0 1)) (fun (_ : Unit) t => zB D [] sz [] t) (va_A [] sz)) 0 0 (va_A [] sz) := by
  refine Met.ofW (cc := cX4_isEnd) (maxL := 1) (ret := (some .boolean)) (by decide) rfl ?_
  intro p e s m args below meth c s₁ B hml hv
  obtain ⟨rfl, hsz, hP, hK, hD0⟩ := hv
  have hx := B.exec
  have hb := B.bytes
  have hr := B.returns
  have hts := atoms_spec (ws := wsX4_isEnd) B.pre
  have hown : s.vm.findClass RX4 = some m.cls := findClass_of_methodNamed B.named
  have hlocks := B.notSynchronized
  subst hsz
  have hD := hD0.self (sz := s.heap.size)
  generalize hAe : va_A [] s.heap.size = A at hD ⊢
  have hA : ∀ q : Nat, s.heap.size ≤ q → A q := fun q h => by rw [← hAe]; exact Or.inr h
  have hS : va_S A s.heap s.heap [] := va_S.rf
  have hl := lv_entry ([.int x]) (n := 1) (Nat.le_of_ble_eq_true rfl)
  rw [lg_entry_eq]
  generalize (lg_sl ([.int x]) ++ List.replicate (1 - (lg_sl ([.int x])).length) Slot.unset).toArray = ls at hl ⊢
  have hl : lv_has ls 1 [(0, .int x)] := hl
  refine lv_iload_n hx hb dX4_isEnd_0 rfl (lv_at hl 0 rfl) ?_
  refine lv_iconst (v := 0) hx hb dX4_isEnd_1 (by decide) ?_
  refine lv_iconst (v := 1) hx hb dX4_isEnd_2 (by decide) ?_
  have hPc := hP.sub (ws' := []) [] rfl
  have hDc := hD.sub (ws' := []) [] (by decide) rfl
  have hFc := va_free (wc := []) hD hS hA [] rfl
  refine va_calli (va_runS (As := [.int x, .int 0, .int 1]) (rest := []) ⟨hx, hb, hml, hown, hts⟩ (c_X4_isIn l D cA s.heap.size x 0 1) (va_cwS 3 hts gX4_isEnd_X4_isIn rfl rfl rfl (by decide +kernel) ⟨Nat.le_of_ble_eq_true rfl, Nat.le_of_ble_eq_true rfl⟩) ⟨zU_blind, fun U hU hW => ⟨rfl, zU_call hU hPc hW.alike hK hDc⟩⟩ rfl rfl hl.1 rfl (lv_room (Nat.le_of_ble_eq_true rfl)) dX4_isEnd_3 ⟨(Nat.zero_le _), (Nat.zero_le _)⟩) hS (fun q _ h => hFc q h) hFc (fun zr u t H1 locs ht hvm hw hB hz1 hk1 hS => ?_)
  obtain ⟨hP1, hD1⟩ := hB
  rw [ht] at hP1
  obtain ⟨hP, hD⟩ := va_join (wr := []) (w1 := []) hP hD [] [] rfl rfl (by decide) (by decide) hk1 hFc hP1 hD1
  generalize H1 = H at hP hS ⊢
  have hP := hP.sub (ws' := []) [] rfl
  have hD := hD.sub (ws' := []) [] (by decide) rfl
  clear hPc hDc hFc hP1 hD1 hk1 hz1
  have hw_1 := hw
  rcases z_bool hw with ⟨h_1, rfl⟩ | ⟨h_1, rfl⟩
  · skip
    refine W.widen (k := 0) (n := 0) (by omega) (by omega) ?_
    exact W.zret (v := 1) hx hb hr rfl (fun t ht hW => ⟨⟨1, (), rfl, by first | (simp only [bI, if_pos h_1]; done) | simp [bI, h_1], ⟨by rw [ht]; exact hP, by rw [hAe]; exact hD⟩⟩, hS.F ht⟩) hS.2.2 dX4_isEnd_6
  · skip
    refine W.widen (k := 0) (n := 0) (by omega) (by omega) ?_
    exact W.zret (v := 0) hx hb hr rfl (fun t ht hW => ⟨⟨0, (), rfl, by first | (simp only [bI, if_neg h_1]; done) | simp [bI, h_1], ⟨by rw [ht]; exact hP, by rw [hAe]; exact hD⟩⟩, hS.F ht⟩) hS.2.2 dX4_isEnd_6
set_option maxHeartbeats 4000000 in
set_option maxRecDepth 100000 in
/-- isOption(end, option) -/
theorem c_X4_isOption (l : Launch) (D : va_G) (cA : Nat → ClassId) (sz : Nat) (x y : Int32)  : Met l yX4_isOption wsX4_isOption ({ frames := 2, cells := 0, slots := 0, locals := 42 }) (va_Pc [.int x, .int y] (zU D cA sz [])) (va_Qi (fun (r : Int32) (_ : Unit) => r = bI (inr x 0 1 ∧ inr y 0 3)) (fun (_ : Unit) t => zB D [] sz [] t) (va_A [] sz)) 0 0 (va_A [] sz) := by
  refine Met.ofW (cc := cX4_isOption) (maxL := 2) (ret := (some .boolean)) (by decide) rfl ?_
  intro p e s m args below meth c s₁ B hml hv
  obtain ⟨rfl, hsz, hP, hK, hD0⟩ := hv
  have hx := B.exec
  have hb := B.bytes
  have hr := B.returns
  have hts := atoms_spec (ws := wsX4_isOption) B.pre
  have hown : s.vm.findClass RX4 = some m.cls := findClass_of_methodNamed B.named
  have hlocks := B.notSynchronized
  subst hsz
  have hD := hD0.self (sz := s.heap.size)
  generalize hAe : va_A [] s.heap.size = A at hD ⊢
  have hA : ∀ q : Nat, s.heap.size ≤ q → A q := fun q h => by rw [← hAe]; exact Or.inr h
  have hS : va_S A s.heap s.heap [] := va_S.rf
  have hl := lv_entry ([.int x, .int y]) (n := 2) (Nat.le_of_ble_eq_true rfl)
  rw [lg_entry_eq]
  generalize (lg_sl ([.int x, .int y]) ++ List.replicate (2 - (lg_sl ([.int x, .int y])).length) Slot.unset).toArray = ls at hl ⊢
  have hl : lv_has ls 2 [(0, .int x), (1, .int y)] := hl
  refine lv_iload_n hx hb dX4_isOption_0 rfl (lv_at hl 0 rfl) ?_
  have hPc := hP.sub (ws' := []) [] rfl
  have hDc := hD.sub (ws' := []) [] (by decide) rfl
  have hFc := va_free (wc := []) hD hS hA [] rfl
  refine va_calli (va_runS (As := [.int x]) (rest := []) ⟨hx, hb, hml, hown, hts⟩ (c_X4_isEnd l D cA s.heap.size x) (va_cwS 1 hts gX4_isOption_X4_isEnd rfl rfl rfl (by decide +kernel) ⟨Nat.le_of_ble_eq_true rfl, Nat.le_of_ble_eq_true rfl⟩) ⟨zU_blind, fun U hU hW => ⟨rfl, zU_call hU hPc hW.alike hK hDc⟩⟩ rfl rfl hl.1 rfl (lv_room (Nat.le_of_ble_eq_true rfl)) dX4_isOption_1 ⟨(Nat.zero_le _), (Nat.zero_le _)⟩) hS (fun q _ h => hFc q h) hFc (fun zr u t H1 locs ht hvm hw hB hz1 hk1 hS => ?_)
  obtain ⟨hP1, hD1⟩ := hB
  rw [ht] at hP1
  obtain ⟨hP, hD⟩ := va_join (wr := []) (w1 := []) hP hD [] [] rfl rfl (by decide) (by decide) hk1 hFc hP1 hD1
  generalize H1 = H at hP hS ⊢
  have hP := hP.sub (ws' := []) [] rfl
  have hD := hD.sub (ws' := []) [] (by decide) rfl
  clear hPc hDc hFc hP1 hD1 hk1 hz1
  have hw_1 := hw
  rcases z_bool hw with ⟨h_1, rfl⟩ | ⟨h_1, rfl⟩
  · skip
    refine lv_if_eq (tgt := 20) hx hb dX4_isOption_4 (by decide) (fun c_2 => absurd c_2 (by decide)) (fun _ => ?_)
    refine lv_iload_n hx hb dX4_isOption_7 rfl (lv_at hl 1 rfl) ?_
    refine lv_iconst (v := 0) hx hb dX4_isOption_8 (by decide) ?_
    refine lv_iconst (v := 3) hx hb dX4_isOption_9 (by decide) ?_
    have hPc := hP.sub (ws' := []) [] rfl
    have hDc := hD.sub (ws' := []) [] (by decide) rfl
    have hFc := va_free (wc := []) hD hS hA [] rfl
    refine va_calli (va_runS (As := [.int y, .int 0, .int 3]) (rest := []) ⟨hx, hb, hml, hown, hts⟩ (c_X4_isIn l D cA H.size y 0 3) (va_cwS 3 hts gX4_isOption_X4_isIn rfl rfl rfl (by decide +kernel) ⟨Nat.le_of_ble_eq_true rfl, Nat.le_of_ble_eq_true rfl⟩) ⟨zU_blind, fun U hU hW => ⟨rfl, zU_call hU hPc hW.alike hK hDc⟩⟩ rfl rfl hl.1 rfl (lv_room (Nat.le_of_ble_eq_true rfl)) dX4_isOption_10 ⟨(Nat.zero_le _), (Nat.zero_le _)⟩) hS (fun q _ h => hFc q h) hFc (fun zr u t H1 locs ht hvm hw hB hz1 hk1 hS => ?_)
    obtain ⟨hP1, hD1⟩ := hB
    rw [ht] at hP1
    obtain ⟨hP, hD⟩ := va_join (wr := []) (w1 := []) hP hD [] [] rfl rfl (by decide) (by decide) hk1 hFc hP1 hD1
    generalize H1 = H at hP hS ⊢
    have hP := hP.sub (ws' := []) [] rfl
    have hD := hD.sub (ws' := []) [] (by decide) rfl
    clear hPc hDc hFc hP1 hD1 hk1 hz1
    have hw_3 := hw
    rcases z_bool hw with ⟨h_3, rfl⟩ | ⟨h_3, rfl⟩
    · skip
      refine lv_if_eq (tgt := 20) hx hb dX4_isOption_13 (by decide) (fun c_4 => absurd c_4 (by decide)) (fun _ => ?_)
      refine lv_iconst (v := 1) hx hb dX4_isOption_16 (by decide) ?_
      refine lv_goto (tgt := 21) hx hb dX4_isOption_17 (by decide) ?_
      refine W.widen (k := 0) (n := 0) (by omega) (by omega) ?_
      exact W.zret (v := 1) hx hb hr rfl (fun t ht hW => ⟨⟨1, (), rfl, by simp [bI, h_1, h_3], ⟨by rw [ht]; exact hP, by rw [hAe]; exact hD⟩⟩, hS.F ht⟩) hS.2.2 dX4_isOption_21
    · skip
      refine lv_if_eq (tgt := 20) hx hb dX4_isOption_13 (by decide) (fun _ => ?_) (fun c_5 => absurd c_5 (by decide))
      refine lv_iconst (v := 0) hx hb dX4_isOption_20 (by decide) ?_
      refine W.widen (k := 0) (n := 0) (by omega) (by omega) ?_
      exact W.zret (v := 0) hx hb hr rfl (fun t ht hW => ⟨⟨0, (), rfl, by simp [bI, h_1, h_3], ⟨by rw [ht]; exact hP, by rw [hAe]; exact hD⟩⟩, hS.F ht⟩) hS.2.2 dX4_isOption_21
  · skip
    refine lv_if_eq (tgt := 20) hx hb dX4_isOption_4 (by decide) (fun _ => ?_) (fun c_6 => absurd c_6 (by decide))
    refine lv_iconst (v := 0) hx hb dX4_isOption_20 (by decide) ?_
    refine W.widen (k := 0) (n := 0) (by omega) (by omega) ?_
    exact W.zret (v := 0) hx hb hr rfl (fun t ht hW => ⟨⟨0, (), rfl, by simp [bI, h_1], ⟨by rw [ht]; exact hP, by rw [hAe]; exact hD⟩⟩, hS.F ht⟩) hS.2.2 dX4_isOption_21
set_option maxHeartbeats 4000000 in
set_option maxRecDepth 100000 in
/-- isSpan(least, most) -/
theorem c_X4_isSpan (l : Launch) (D : va_G) (cA : Nat → ClassId) (sz : Nat) (x y : Int32)  : Met l yX4_isSpan wsX4_isSpan ({ frames := 1, cells := 0, slots := 0, locals := 22 }) (va_Pc [.int x, .int y] (zU D cA sz [])) (va_Qi (fun (r : Int32) (_ : Unit) => r = bI (inr x 0 100 ∧ inr y x 100)) (fun (_ : Unit) t => zB D [] sz [] t) (va_A [] sz)) 0 0 (va_A [] sz) := by
  refine Met.ofW (cc := cX4_isSpan) (maxL := 2) (ret := (some .boolean)) (by decide) rfl ?_
  intro p e s m args below meth c s₁ B hml hv
  obtain ⟨rfl, hsz, hP, hK, hD0⟩ := hv
  have hx := B.exec
  have hb := B.bytes
  have hr := B.returns
  have hts := atoms_spec (ws := wsX4_isSpan) B.pre
  have hown : s.vm.findClass RX4 = some m.cls := findClass_of_methodNamed B.named
  have hlocks := B.notSynchronized
  subst hsz
  have hD := hD0.self (sz := s.heap.size)
  generalize hAe : va_A [] s.heap.size = A at hD ⊢
  have hA : ∀ q : Nat, s.heap.size ≤ q → A q := fun q h => by rw [← hAe]; exact Or.inr h
  have hS : va_S A s.heap s.heap [] := va_S.rf
  have hl := lv_entry ([.int x, .int y]) (n := 2) (Nat.le_of_ble_eq_true rfl)
  rw [lg_entry_eq]
  generalize (lg_sl ([.int x, .int y]) ++ List.replicate (2 - (lg_sl ([.int x, .int y])).length) Slot.unset).toArray = ls at hl ⊢
  have hl : lv_has ls 2 [(0, .int x), (1, .int y)] := hl
  refine lv_iload_n hx hb dX4_isSpan_0 rfl (lv_at hl 0 rfl) ?_
  refine lv_iconst (v := 0) hx hb dX4_isSpan_1 (by decide) ?_
  refine lv_bipush (v := 100) hx hb dX4_isSpan_2 (by decide) ?_
  have hPc := hP.sub (ws' := []) [] rfl
  have hDc := hD.sub (ws' := []) [] (by decide) rfl
  have hFc := va_free (wc := []) hD hS hA [] rfl
  refine va_calli (va_runS (As := [.int x, .int 0, .int 100]) (rest := []) ⟨hx, hb, hml, hown, hts⟩ (c_X4_isIn l D cA s.heap.size x 0 100) (va_cwS 3 hts gX4_isSpan_X4_isIn rfl rfl rfl (by decide +kernel) ⟨Nat.le_of_ble_eq_true rfl, Nat.le_of_ble_eq_true rfl⟩) ⟨zU_blind, fun U hU hW => ⟨rfl, zU_call hU hPc hW.alike hK hDc⟩⟩ rfl rfl hl.1 rfl (lv_room (Nat.le_of_ble_eq_true rfl)) dX4_isSpan_4 ⟨(Nat.zero_le _), (Nat.zero_le _)⟩) hS (fun q _ h => hFc q h) hFc (fun zr u t H1 locs ht hvm hw hB hz1 hk1 hS => ?_)
  obtain ⟨hP1, hD1⟩ := hB
  rw [ht] at hP1
  obtain ⟨hP, hD⟩ := va_join (wr := []) (w1 := []) hP hD [] [] rfl rfl (by decide) (by decide) hk1 hFc hP1 hD1
  generalize H1 = H at hP hS ⊢
  have hP := hP.sub (ws' := []) [] rfl
  have hD := hD.sub (ws' := []) [] (by decide) rfl
  clear hPc hDc hFc hP1 hD1 hk1 hz1
  have hw_1 := hw
  rcases z_bool hw with ⟨h_1, rfl⟩ | ⟨h_1, rfl⟩
  · skip
    refine lv_if_eq (tgt := 24) hx hb dX4_isSpan_7 (by decide) (fun c_2 => absurd c_2 (by decide)) (fun _ => ?_)
    refine lv_iload_n hx hb dX4_isSpan_10 rfl (lv_at hl 1 rfl) ?_
    refine lv_iload_n hx hb dX4_isSpan_11 rfl (lv_at hl 0 rfl) ?_
    refine lv_bipush (v := 100) hx hb dX4_isSpan_12 (by decide) ?_
    have hPc := hP.sub (ws' := []) [] rfl
    have hDc := hD.sub (ws' := []) [] (by decide) rfl
    have hFc := va_free (wc := []) hD hS hA [] rfl
    refine va_calli (va_runS (As := [.int y, .int x, .int 100]) (rest := []) ⟨hx, hb, hml, hown, hts⟩ (c_X4_isIn l D cA H.size y x 100) (va_cwS 3 hts gX4_isSpan_X4_isIn rfl rfl rfl (by decide +kernel) ⟨Nat.le_of_ble_eq_true rfl, Nat.le_of_ble_eq_true rfl⟩) ⟨zU_blind, fun U hU hW => ⟨rfl, zU_call hU hPc hW.alike hK hDc⟩⟩ rfl rfl hl.1 rfl (lv_room (Nat.le_of_ble_eq_true rfl)) dX4_isSpan_14 ⟨(Nat.zero_le _), (Nat.zero_le _)⟩) hS (fun q _ h => hFc q h) hFc (fun zr u t H1 locs ht hvm hw hB hz1 hk1 hS => ?_)
    obtain ⟨hP1, hD1⟩ := hB
    rw [ht] at hP1
    obtain ⟨hP, hD⟩ := va_join (wr := []) (w1 := []) hP hD [] [] rfl rfl (by decide) (by decide) hk1 hFc hP1 hD1
    generalize H1 = H at hP hS ⊢
    have hP := hP.sub (ws' := []) [] rfl
    have hD := hD.sub (ws' := []) [] (by decide) rfl
    clear hPc hDc hFc hP1 hD1 hk1 hz1
    have hw_3 := hw
    rcases z_bool hw with ⟨h_3, rfl⟩ | ⟨h_3, rfl⟩
    · skip
      refine lv_if_eq (tgt := 24) hx hb dX4_isSpan_17 (by decide) (fun c_4 => absurd c_4 (by decide)) (fun _ => ?_)
      refine lv_iconst (v := 1) hx hb dX4_isSpan_20 (by decide) ?_
      refine lv_goto (tgt := 25) hx hb dX4_isSpan_21 (by decide) ?_
      refine W.widen (k := 0) (n := 0) (by omega) (by omega) ?_
      exact W.zret (v := 1) hx hb hr rfl (fun t ht hW => ⟨⟨1, (), rfl, by simp [bI, h_1, h_3], ⟨by rw [ht]; exact hP, by rw [hAe]; exact hD⟩⟩, hS.F ht⟩) hS.2.2 dX4_isSpan_25
    · skip
      refine lv_if_eq (tgt := 24) hx hb dX4_isSpan_17 (by decide) (fun _ => ?_) (fun c_5 => absurd c_5 (by decide))
      refine lv_iconst (v := 0) hx hb dX4_isSpan_24 (by decide) ?_
      refine W.widen (k := 0) (n := 0) (by omega) (by omega) ?_
      exact W.zret (v := 0) hx hb hr rfl (fun t ht hW => ⟨⟨0, (), rfl, by simp [bI, h_1, h_3], ⟨by rw [ht]; exact hP, by rw [hAe]; exact hD⟩⟩, hS.F ht⟩) hS.2.2 dX4_isSpan_25
  · skip
    refine lv_if_eq (tgt := 24) hx hb dX4_isSpan_7 (by decide) (fun _ => ?_) (fun c_6 => absurd c_6 (by decide))
    refine lv_iconst (v := 0) hx hb dX4_isSpan_24 (by decide) ?_
    refine W.widen (k := 0) (n := 0) (by omega) (by omega) ?_
    exact W.zret (v := 0) hx hb hr rfl (fun t ht hW => ⟨⟨0, (), rfl, by simp [bI, h_1], ⟨by rw [ht]; exact hP, by rw [hAe]; exact hD⟩⟩, hS.F ht⟩) hS.2.2 dX4_isSpan_25
set_option maxHeartbeats 4000000 in
set_option maxRecDepth 100000 in
/-- isWithin(value, least, most) -/
theorem c_X4_isWithin (l : Launch) (D : va_G) (cA : Nat → ClassId) (sz : Nat) (b : Nat → Nat) (mm : Nat → Int32) (x a z : Int32)  : Met l yX4_isWithin wsX4_isWithin ({ frames := 1, cells := 0, slots := 0, locals := 22 }) (va_Pc [.ref (b 0), .int x, .int a, .int z] (zU D cA sz [cM b mm])) (va_Qi (fun (r : Int32) (_ : Unit) => r = bI (inr x a z)) (fun (_ : Unit) t => zB D [cM b mm] sz [cM b mm] t) (va_A [cM b mm] sz)) 0 0 (va_A [cM b mm] sz) := by
  refine Met.ofW (cc := cX4_isWithin) (maxL := 4) (ret := (some .boolean)) (by decide) rfl ?_
  intro p e s m args below meth c s₁ B hml hv
  obtain ⟨rfl, hsz, hP, hK, hD0⟩ := hv
  have hx := B.exec
  have hb := B.bytes
  have hr := B.returns
  have hts := atoms_spec (ws := wsX4_isWithin) B.pre
  have hown : s.vm.findClass RX4 = some m.cls := findClass_of_methodNamed B.named
  have hlocks := B.notSynchronized
  subst hsz
  have hD := hD0.self (sz := s.heap.size)
  generalize hAe : va_A [cM b mm] s.heap.size = A at hD ⊢
  have hA : ∀ q : Nat, s.heap.size ≤ q → A q := fun q h => by rw [← hAe]; exact Or.inr h
  have hS : va_S A s.heap s.heap [] := va_S.rf
  have hl := lv_entry ([.ref (b 0), .int x, .int a, .int z]) (n := 4) (Nat.le_of_ble_eq_true rfl)
  rw [lg_entry_eq]
  generalize (lg_sl ([.ref (b 0), .int x, .int a, .int z]) ++ List.replicate (4 - (lg_sl ([.ref (b 0), .int x, .int a, .int z])).length) Slot.unset).toArray = ls at hl ⊢
  have hl : lv_has ls 4 [(0, .ref (b 0)), (1, .int x), (2, .int a), (3, .int z)] := hl
  refine lv_iload_n hx hb dX4_isWithin_0 rfl (lv_at hl 1 rfl) ?_
  refine lv_iload_n hx hb dX4_isWithin_1 rfl (lv_at hl 2 rfl) ?_
  refine lv_iload_n hx hb dX4_isWithin_2 rfl (lv_at hl 3 rfl) ?_
  have hPc := hP.sub (ws' := []) [] rfl
  have hDc := hD.sub (ws' := []) [] (by decide) rfl
  have hFc := va_free (wc := []) hD hS hA [] rfl
  refine va_calli (va_runS (As := [.int x, .int a, .int z]) (rest := []) ⟨hx, hb, hml, hown, hts⟩ (c_X4_isIn l D cA s.heap.size x a z) (va_cwS 3 hts gX4_isWithin_X4_isIn rfl rfl rfl (by decide +kernel) ⟨Nat.le_of_ble_eq_true rfl, Nat.le_of_ble_eq_true rfl⟩) ⟨zU_blind, fun U hU hW => ⟨rfl, zU_call hU hPc hW.alike hK hDc⟩⟩ rfl rfl hl.1 rfl (lv_room (Nat.le_of_ble_eq_true rfl)) dX4_isWithin_3 ⟨(Nat.zero_le _), (Nat.zero_le _)⟩) hS (fun q _ h => hFc q h) hFc (fun zr u t H1 locs ht hvm hw hB hz1 hk1 hS => ?_)
  obtain ⟨hP1, hD1⟩ := hB
  rw [ht] at hP1
  obtain ⟨hP, hD⟩ := va_join (wr := [cM b mm]) (w1 := []) hP hD [] [0] rfl rfl (by decide) (by decide) hk1 hFc hP1 hD1
  generalize H1 = H at hP hS ⊢
  have hP := hP.sub (ws' := [cM b mm]) [0] rfl
  have hD := hD.sub (ws' := [cM b mm]) [0] (by decide) rfl
  clear hPc hDc hFc hP1 hD1 hk1 hz1
  have hw_1 := hw
  rcases z_bool hw with ⟨h_1, rfl⟩ | ⟨h_1, rfl⟩
  · skip
    refine W.widen (k := 0) (n := 0) (by omega) (by omega) ?_
    exact W.zret (v := 1) hx hb hr rfl (fun t ht hW => ⟨⟨1, (), rfl, by first | (simp only [bI, if_pos h_1]; done) | simp [bI, h_1], ⟨by rw [ht]; exact hP, by rw [hAe]; exact hD⟩⟩, hS.F ht⟩) hS.2.2 dX4_isWithin_6
  · skip
    refine W.widen (k := 0) (n := 0) (by omega) (by omega) ?_
    exact W.zret (v := 0) hx hb hr rfl (fun t ht hW => ⟨⟨0, (), rfl, by first | (simp only [bI, if_neg h_1]; done) | simp [bI, h_1], ⟨by rw [ht]; exact hP, by rw [hAe]; exact hD⟩⟩, hS.F ht⟩) hS.2.2 dX4_isWithin_6
set_option maxHeartbeats 4000000 in
set_option maxRecDepth 100000 in
/-- can(fault) -/
theorem c_X4_can (l : Launch) (D : va_G) (cA : Nat → ClassId) (sz : Nat) (b : Nat → Nat) (mm : Nat → Int32) (x : Int32)  : Met l yX4_can wsX4_can ({ frames := 0, cells := 0, slots := 0, locals := 0 }) (va_Pc [.ref (b 0), .int x] (zU D cA sz [cM b mm])) (va_Qi (fun (r : Int32) (u : (Nat → Int32)) => u = upd mm 6 x ∧ r = bI (x = 0)) (fun (u : (Nat → Int32)) t => zB D [cM b mm] sz [cM b u] t) (va_A [cM b mm] sz)) 0 0 (va_A [cM b mm] sz) := by
  refine Met.ofW (cc := cX4_can) (maxL := 2) (ret := (some .boolean)) (by decide) rfl ?_
  intro p e s m args below meth c s₁ B hml hv
  obtain ⟨rfl, hsz, hP, hK, hD0⟩ := hv
  have hx := B.exec
  have hb := B.bytes
  have hr := B.returns
  have hts := atoms_spec (ws := wsX4_can) B.pre
  have hown : s.vm.findClass RX4 = some m.cls := findClass_of_methodNamed B.named
  have hlocks := B.notSynchronized
  subst hsz
  have hD := hD0.self (sz := s.heap.size)
  generalize hAe : va_A [cM b mm] s.heap.size = A at hD ⊢
  have hA : ∀ q : Nat, s.heap.size ≤ q → A q := fun q h => by rw [← hAe]; exact Or.inr h
  have hS : va_S A s.heap s.heap [] := va_S.rf
  have hl := lv_entry ([.ref (b 0), .int x]) (n := 2) (Nat.le_of_ble_eq_true rfl)
  rw [lg_entry_eq]
  generalize (lg_sl ([.ref (b 0), .int x]) ++ List.replicate (2 - (lg_sl ([.ref (b 0), .int x])).length) Slot.unset).toArray = ls at hl ⊢
  have hl : lv_has ls 2 [(0, .ref (b 0)), (1, .int x)] := hl
  refine lv_aload_n hx hb dX4_can_0 rfl (lv_at hl 0 rfl) ?_
  refine lv_iload_n hx hb dX4_can_1 rfl (lv_at hl 1 rfl) ?_
  refine va_put (D := D) (ci := 6) (v := .int x) (ty := .int) (C := RX4) (T := TX4) (N := 29) hx hb hts (fun _ h => List.mem_cons_of_mem _ (List.mem_append_right _ (h))) tyX4 tyX4_ok nmX4 hown hK hP hD hS 0 rfl rfl 28 (by decide) (hts (.fieldLink RX4 77 "OptionWireModel" "thrown" "I") (List.mem_of_getElem? (i := 1) rfl)) (fun _ h9 => h9) rfl (by decide +kernel) rfl rfl (Nat.le_of_ble_eq_true rfl) dX4_can_2 (fun H locs hP hD hS => ?_)
  have hP : va_P D vwCl [cM b (upd mm 6 x)] H := hP
  have hD : va_D A [cM b (upd mm 6 x)] := hD
  refine lv_iload_n hx hb dX4_can_5 rfl (lv_at hl 1 rfl) ?_
  refine lv_if_ne (tgt := 13) hx hb dX4_can_6 (by decide) (fun c_1 => ?_) (fun c_1 => ?_)
  · skip
    refine lv_iconst (v := 0) hx hb dX4_can_13 (by decide) ?_
    refine W.widen (k := 0) (n := 0) (by omega) (by omega) ?_
    exact W.zret (v := 0) hx hb hr rfl (fun t ht hW => ⟨⟨0, ((upd mm 6 x)), rfl, ⟨rfl, by first | (simp only [bI, if_neg c_1]; done) | simp [bI, c_1]⟩, ⟨by rw [ht]; exact hP, by rw [hAe]; exact hD⟩⟩, hS.F ht⟩) hS.2.2 dX4_can_14
  · skip
    refine lv_iconst (v := 1) hx hb dX4_can_9 (by decide) ?_
    refine lv_goto (tgt := 14) hx hb dX4_can_10 (by decide) ?_
    refine W.widen (k := 0) (n := 0) (by omega) (by omega) ?_
    exact W.zret (v := 1) hx hb hr rfl (fun t ht hW => ⟨⟨1, ((upd mm 6 x)), rfl, ⟨rfl, by first | (simp only [bI, if_pos c_1]; done) | simp [bI, c_1]⟩, ⟨by rw [ht]; exact hP, by rw [hAe]; exact hD⟩⟩, hS.F ht⟩) hS.2.2 dX4_can_14
set_option maxHeartbeats 4000000 in
set_option maxRecDepth 100000 in
/-- thrown() -/
theorem c_X4_thrown (l : Launch) (D : va_G) (cA : Nat → ClassId) (sz : Nat) (b : Nat → Nat) (mm : Nat → Int32)   : Met l yX4_thrown wsX4_thrown ({ frames := 0, cells := 0, slots := 0, locals := 0 }) (va_Pc [.ref (b 0)] (zU D cA sz [cM b mm])) (va_Qi (fun (r : Int32) (_ : Unit) => r = mm 6) (fun (_ : Unit) t => zB D [cM b mm] sz [cM b mm] t) (va_A [cM b mm] sz)) 0 0 (va_A [cM b mm] sz) := by
  refine Met.ofW (cc := cX4_thrown) (maxL := 1) (ret := (some .int)) (by decide) rfl ?_
  intro p e s m args below meth c s₁ B hml hv
  obtain ⟨rfl, hsz, hP, hK, hD0⟩ := hv
  have hx := B.exec
  have hb := B.bytes
  have hr := B.returns
  have hts := atoms_spec (ws := wsX4_thrown) B.pre
  have hown : s.vm.findClass RX4 = some m.cls := findClass_of_methodNamed B.named
  have hlocks := B.notSynchronized
  subst hsz
  have hD := hD0.self (sz := s.heap.size)
  generalize hAe : va_A [cM b mm] s.heap.size = A at hD ⊢
  have hA : ∀ q : Nat, s.heap.size ≤ q → A q := fun q h => by rw [← hAe]; exact Or.inr h
  have hS : va_S A s.heap s.heap [] := va_S.rf
  have hl := lv_entry ([.ref (b 0)]) (n := 1) (Nat.le_of_ble_eq_true rfl)
  rw [lg_entry_eq]
  generalize (lg_sl ([.ref (b 0)]) ++ List.replicate (1 - (lg_sl ([.ref (b 0)])).length) Slot.unset).toArray = ls at hl ⊢
  have hl : lv_has ls 1 [(0, .ref (b 0))] := hl
  refine lv_aload_n hx hb dX4_thrown_0 rfl (lv_at hl 0 rfl) ?_
  refine va_get (D := D) (ci := 6) (v := .int (mm 6)) (C := RX4) (T := TX4) (N := 29) hx hb hts (fun _ h => List.mem_cons_of_mem _ (List.mem_append_right _ (h))) hown hK hP 0 rfl rfl 28 (by decide) (hts (.fieldLink RX4 77 "OptionWireModel" "thrown" "I") (List.mem_of_getElem? (i := 1) rfl)) (fun _ h9 => h9) rfl dX4_thrown_1 ?_
  refine W.widen (k := 0) (n := 0) (by omega) (by omega) ?_
  exact W.iret (v := (mm 6)) hx hb hr (fun t ht hW => ⟨⟨mm 6, (), rfl, rfl, ⟨by rw [ht]; exact hP, by rw [hAe]; exact hD⟩⟩, hS.F ht⟩) hS.2.2 dX4_thrown_4
set_option maxHeartbeats 4000000 in
set_option maxRecDepth 100000 in
/-- time() -/
theorem c_X4_time (l : Launch) (D : va_G) (cA : Nat → ClassId) (sz : Nat) (b : Nat → Nat) (mm : Nat → Int32)   : Met l yX4_time wsX4_time ({ frames := 0, cells := 0, slots := 0, locals := 0 }) (va_Pc [.ref (b 0)] (zU D cA sz [cM b mm])) (va_Qi (fun (r : Int32) (u : (Nat → Int32)) => u = upd mm 6 0 ∧ r = mm 1) (fun (u : (Nat → Int32)) t => zB D [cM b mm] sz [cM b u] t) (va_A [cM b mm] sz)) 0 0 (va_A [cM b mm] sz) := by
  refine Met.ofW (cc := cX4_time) (maxL := 1) (ret := (some .int)) (by decide) rfl ?_
  intro p e s m args below meth c s₁ B hml hv
  obtain ⟨rfl, hsz, hP, hK, hD0⟩ := hv
  have hx := B.exec
  have hb := B.bytes
  have hr := B.returns
  have hts := atoms_spec (ws := wsX4_time) B.pre
  have hown : s.vm.findClass RX4 = some m.cls := findClass_of_methodNamed B.named
  have hlocks := B.notSynchronized
  subst hsz
  have hD := hD0.self (sz := s.heap.size)
  generalize hAe : va_A [cM b mm] s.heap.size = A at hD ⊢
  have hA : ∀ q : Nat, s.heap.size ≤ q → A q := fun q h => by rw [← hAe]; exact Or.inr h
  have hS : va_S A s.heap s.heap [] := va_S.rf
  have hl := lv_entry ([.ref (b 0)]) (n := 1) (Nat.le_of_ble_eq_true rfl)
  rw [lg_entry_eq]
  generalize (lg_sl ([.ref (b 0)]) ++ List.replicate (1 - (lg_sl ([.ref (b 0)])).length) Slot.unset).toArray = ls at hl ⊢
  have hl : lv_has ls 1 [(0, .ref (b 0))] := hl
  refine lv_aload_n hx hb dX4_time_0 rfl (lv_at hl 0 rfl) ?_
  refine lv_iconst (v := 0) hx hb dX4_time_1 (by decide) ?_
  refine va_put (D := D) (ci := 6) (v := .int 0) (ty := .int) (C := RX4) (T := TX4) (N := 29) hx hb hts (fun _ h => List.mem_cons_of_mem _ (List.mem_append_right _ (h))) tyX4 tyX4_ok nmX4 hown hK hP hD hS 0 rfl rfl 28 (by decide) (hts (.fieldLink RX4 77 "OptionWireModel" "thrown" "I") (List.mem_of_getElem? (i := 1) rfl)) (fun _ h9 => h9) rfl (by decide +kernel) rfl rfl (Nat.le_of_ble_eq_true rfl) dX4_time_2 (fun H locs hP hD hS => ?_)
  have hP : va_P D vwCl [cM b (upd mm 6 0)] H := hP
  have hD : va_D A [cM b (upd mm 6 0)] := hD
  refine lv_aload_n hx hb dX4_time_5 rfl (lv_at hl 0 rfl) ?_
  refine va_get (D := D) (ci := 6) (v := .int (mm 1)) (C := RX4) (T := TX4) (N := 29) hx hb hts (fun _ h => List.mem_cons_of_mem _ (List.mem_append_right _ (h))) hown hK hP 0 rfl rfl 1 (by decide) (hts (.fieldLink RX4 154 "OptionWireModel" "time" "I") (List.mem_of_getElem? (i := 2) rfl)) (fun _ h9 => h9) rfl dX4_time_6 ?_
  refine W.widen (k := 0) (n := 0) (by omega) (by omega) ?_
  exact W.iret (v := (mm 1)) hx hb hr (fun t ht hW => ⟨⟨mm 1, ((upd mm 6 0)), rfl, ⟨rfl, rfl⟩, ⟨by rw [ht]; exact hP, by rw [hAe]; exact hD⟩⟩, hS.F ht⟩) hS.2.2 dX4_time_9
set_option maxHeartbeats 4000000 in
set_option maxRecDepth 100000 in
/-- isShut(end) -/
theorem c_X4_isShut (l : Launch) (D : va_G) (cA : Nat → ClassId) (sz : Nat) (b : Nat → Nat) (mm : Nat → Int32) (ix : Nat) (c1 c2 : Int32) (hix : ix ≤ 1) : Met l yX4_isShut wsX4_isShut ({ frames := 0, cells := 0, slots := 0, locals := 0 }) (va_Pc [.ref (b 0), .int (nI ix)] (zU D cA sz [cM b mm, (b 9, .inl (cA 0, 2, .inl (t2 ix c1 c2)))])) (va_Qi (fun (r : Int32) (_ : Unit) => r = bI (sSh c1)) (fun (_ : Unit) t => zB D [cM b mm, (b 9, .inl (cA 0, 2, .inl (t2 ix c1 c2)))] sz [cM b mm, (b 9, .inl (cA 0, 2, .inl (t2 ix c1 c2)))] t) (va_A [cM b mm, (b 9, .inl (cA 0, 2, .inl (t2 ix c1 c2)))] sz)) 0 0 (va_A [cM b mm, (b 9, .inl (cA 0, 2, .inl (t2 ix c1 c2)))] sz) := by
  refine Met.ofW (cc := cX4_isShut) (maxL := 2) (ret := (some .boolean)) (by decide) rfl ?_
  intro p e s m args below meth c s₁ B hml hv
  obtain ⟨rfl, hsz, hP, hK, hD0⟩ := hv
  have hx := B.exec
  have hb := B.bytes
  have hr := B.returns
  have hts := atoms_spec (ws := wsX4_isShut) B.pre
  have hown : s.vm.findClass RX4 = some m.cls := findClass_of_methodNamed B.named
  have hlocks := B.notSynchronized
  subst hsz
  have hD := hD0.self (sz := s.heap.size)
  generalize hAe : va_A [cM b mm, (b 9, .inl (cA 0, 2, .inl (t2 ix c1 c2)))] s.heap.size = A at hD ⊢
  have hA : ∀ q : Nat, s.heap.size ≤ q → A q := fun q h => by rw [← hAe]; exact Or.inr h
  have hS : va_S A s.heap s.heap [] := va_S.rf
  have hl := lv_entry ([.ref (b 0), .int (nI ix)]) (n := 2) (Nat.le_of_ble_eq_true rfl)
  rw [lg_entry_eq]
  generalize (lg_sl ([.ref (b 0), .int (nI ix)]) ++ List.replicate (2 - (lg_sl ([.ref (b 0), .int (nI ix)])).length) Slot.unset).toArray = ls at hl ⊢
  have hl : lv_has ls 2 [(0, .ref (b 0)), (1, .int (nI ix))] := hl
  refine lv_aload_n hx hb dX4_isShut_0 rfl (lv_at hl 0 rfl) ?_
  refine va_get (D := D) (ci := 6) (v := .ref (b 9)) (C := RX4) (T := TX4) (N := 29) hx hb hts (fun _ h => List.mem_cons_of_mem _ (List.mem_append_right _ (h))) hown hK hP 0 rfl rfl 10 (by decide) (hts (.fieldLink RX4 35 "OptionWireModel" "states" "[I") (List.mem_of_getElem? (i := 1) rfl)) (fun _ h9 => h9) rfl dX4_isShut_1 ?_
  refine lv_iload_n hx hb dX4_isShut_4 rfl (lv_at hl 1 rfl) ?_
  refine z_iald (k := ix) (v := c1) hx hb hK hP 1 0 rfl rfl rfl (by omega) (by decide) t2_x dX4_isShut_5 ?_
  refine lv_if_eq (tgt := 31) hx hb dX4_isShut_6 (by decide) (fun c_1 => ?_) (fun c_1 => ?_)
  · skip
    refine lv_iconst (v := 1) hx hb dX4_isShut_31 (by decide) ?_
    refine lv_goto (tgt := 36) hx hb dX4_isShut_32 (by decide) ?_
    refine W.widen (k := 0) (n := 0) (by omega) (by omega) ?_
    exact W.zret (v := 1) hx hb hr rfl (fun t ht hW => ⟨⟨1, (), rfl, by first | (simp only [bI, sSh, if_pos c_1]; done) | simp [bI, sSh, c_1], ⟨by rw [ht]; exact hP, by rw [hAe]; exact hD⟩⟩, hS.F ht⟩) hS.2.2 dX4_isShut_36
  · skip
    refine lv_aload_n hx hb dX4_isShut_9 rfl (lv_at hl 0 rfl) ?_
    refine va_get (D := D) (ci := 6) (v := .ref (b 9)) (C := RX4) (T := TX4) (N := 29) hx hb hts (fun _ h => List.mem_cons_of_mem _ (List.mem_append_right _ (h))) hown hK hP 0 rfl rfl 10 (by decide) (hts (.fieldLink RX4 35 "OptionWireModel" "states" "[I") (List.mem_of_getElem? (i := 1) rfl)) (fun _ h9 => h9) rfl dX4_isShut_10 ?_
    refine lv_iload_n hx hb dX4_isShut_13 rfl (lv_at hl 1 rfl) ?_
    refine z_iald (k := ix) (v := c1) hx hb hK hP 1 0 rfl rfl rfl (by omega) (by decide) t2_x dX4_isShut_14 ?_
    refine lv_bipush (v := 6) hx hb dX4_isShut_15 (by decide) ?_
    refine lv_icmp_eq (tgt := 31) hx hb dX4_isShut_17 (by decide) (fun c_2 => ?_) (fun c_2 => ?_)
    · skip
      refine lv_iconst (v := 1) hx hb dX4_isShut_31 (by decide) ?_
      refine lv_goto (tgt := 36) hx hb dX4_isShut_32 (by decide) ?_
      refine W.widen (k := 0) (n := 0) (by omega) (by omega) ?_
      exact W.zret (v := 1) hx hb hr rfl (fun t ht hW => ⟨⟨1, (), rfl, by first | (simp only [bI, sSh, if_neg c_1, if_pos c_2]; done) | simp [bI, sSh, c_1, c_2], ⟨by rw [ht]; exact hP, by rw [hAe]; exact hD⟩⟩, hS.F ht⟩) hS.2.2 dX4_isShut_36
    · skip
      refine lv_aload_n hx hb dX4_isShut_20 rfl (lv_at hl 0 rfl) ?_
      refine va_get (D := D) (ci := 6) (v := .ref (b 9)) (C := RX4) (T := TX4) (N := 29) hx hb hts (fun _ h => List.mem_cons_of_mem _ (List.mem_append_right _ (h))) hown hK hP 0 rfl rfl 10 (by decide) (hts (.fieldLink RX4 35 "OptionWireModel" "states" "[I") (List.mem_of_getElem? (i := 1) rfl)) (fun _ h9 => h9) rfl dX4_isShut_21 ?_
      refine lv_iload_n hx hb dX4_isShut_24 rfl (lv_at hl 1 rfl) ?_
      refine z_iald (k := ix) (v := c1) hx hb hK hP 1 0 rfl rfl rfl (by omega) (by decide) t2_x dX4_isShut_25 ?_
      refine lv_bipush (v := 7) hx hb dX4_isShut_26 (by decide) ?_
      refine lv_icmp_ne (tgt := 35) hx hb dX4_isShut_28 (by decide) (fun c_3 => ?_) (fun c_3 => ?_)
      · skip
        refine lv_iconst (v := 0) hx hb dX4_isShut_35 (by decide) ?_
        refine W.widen (k := 0) (n := 0) (by omega) (by omega) ?_
        exact W.zret (v := 0) hx hb hr rfl (fun t ht hW => ⟨⟨0, (), rfl, by first | (simp only [bI, sSh, if_neg c_1, if_neg c_2, if_neg c_3]; done) | simp [bI, sSh, c_1, c_2, c_3], ⟨by rw [ht]; exact hP, by rw [hAe]; exact hD⟩⟩, hS.F ht⟩) hS.2.2 dX4_isShut_36
      · skip
        refine lv_iconst (v := 1) hx hb dX4_isShut_31 (by decide) ?_
        refine lv_goto (tgt := 36) hx hb dX4_isShut_32 (by decide) ?_
        refine W.widen (k := 0) (n := 0) (by omega) (by omega) ?_
        exact W.zret (v := 1) hx hb hr rfl (fun t ht hW => ⟨⟨1, (), rfl, by first | (simp only [bI, sSh, if_neg c_1, if_neg c_2, if_pos c_3]; done) | simp [bI, sSh, c_1, c_2, c_3], ⟨by rw [ht]; exact hP, by rw [hAe]; exact hD⟩⟩, hS.F ht⟩) hS.2.2 dX4_isShut_36
set_option maxHeartbeats 4000000 in
set_option maxRecDepth 100000 in
/-- becomesOpened(end) -/
theorem c_X4_becomesOpened (l : Launch) (D : va_G) (cA : Nat → ClassId) (sz : Nat) (b : Nat → Nat) (mm : Nat → Int32) (ix : Nat) (xv yv : Nat → Int32) (hix : ix ≤ 1) : Met l yX4_becomesOpened wsX4_becomesOpened ({ frames := 0, cells := 0, slots := 0, locals := 0 }) (va_Pc [.ref (b 0), .int (nI ix)] (zU D cA sz [cM b mm, (b 9, .inl (cA 0, 2, .inl (t2 ix (xv 0) (yv 0)))), (b 10, .inl (cA 0, 2, .inl (t2 ix (xv 1) (yv 1)))), (b 11, .inl (cA 0, 2, .inl (t2 ix (xv 2) (yv 2)))), (b 12, .inl (cA 0, 2, .inl (t2 ix (xv 3) (yv 3)))), (b 13, .inl (cA 0, 2, .inl (t2 ix (xv 4) (yv 4)))), (b 14, .inl (cA 0, 2, .inl (t2 ix (xv 5) (yv 5)))), (b 15, .inl (cA 0, 2, .inl (t2 ix (xv 6) (yv 6))))])) (va_Qv (fun (u : (Nat → Int32)) => u = upd (upd xv 0 4) 3 10) (fun (u : (Nat → Int32)) t => zB D [cM b mm, (b 9, .inl (cA 0, 2, .inl (t2 ix (xv 0) (yv 0)))), (b 10, .inl (cA 0, 2, .inl (t2 ix (xv 1) (yv 1)))), (b 11, .inl (cA 0, 2, .inl (t2 ix (xv 2) (yv 2)))), (b 12, .inl (cA 0, 2, .inl (t2 ix (xv 3) (yv 3)))), (b 13, .inl (cA 0, 2, .inl (t2 ix (xv 4) (yv 4)))), (b 14, .inl (cA 0, 2, .inl (t2 ix (xv 5) (yv 5)))), (b 15, .inl (cA 0, 2, .inl (t2 ix (xv 6) (yv 6))))] sz [cM b mm, (b 9, .inl (cA 0, 2, .inl (t2 ix (u 0) (yv 0)))), (b 10, .inl (cA 0, 2, .inl (t2 ix (u 1) (yv 1)))), (b 11, .inl (cA 0, 2, .inl (t2 ix (u 2) (yv 2)))), (b 12, .inl (cA 0, 2, .inl (t2 ix (u 3) (yv 3)))), (b 13, .inl (cA 0, 2, .inl (t2 ix (u 4) (yv 4)))), (b 14, .inl (cA 0, 2, .inl (t2 ix (u 5) (yv 5)))), (b 15, .inl (cA 0, 2, .inl (t2 ix (u 6) (yv 6))))] t) (va_A [cM b mm, (b 9, .inl (cA 0, 2, .inl (t2 ix (xv 0) (yv 0)))), (b 10, .inl (cA 0, 2, .inl (t2 ix (xv 1) (yv 1)))), (b 11, .inl (cA 0, 2, .inl (t2 ix (xv 2) (yv 2)))), (b 12, .inl (cA 0, 2, .inl (t2 ix (xv 3) (yv 3)))), (b 13, .inl (cA 0, 2, .inl (t2 ix (xv 4) (yv 4)))), (b 14, .inl (cA 0, 2, .inl (t2 ix (xv 5) (yv 5)))), (b 15, .inl (cA 0, 2, .inl (t2 ix (xv 6) (yv 6))))] sz)) 0 0 (va_A [cM b mm, (b 9, .inl (cA 0, 2, .inl (t2 ix (xv 0) (yv 0)))), (b 10, .inl (cA 0, 2, .inl (t2 ix (xv 1) (yv 1)))), (b 11, .inl (cA 0, 2, .inl (t2 ix (xv 2) (yv 2)))), (b 12, .inl (cA 0, 2, .inl (t2 ix (xv 3) (yv 3)))), (b 13, .inl (cA 0, 2, .inl (t2 ix (xv 4) (yv 4)))), (b 14, .inl (cA 0, 2, .inl (t2 ix (xv 5) (yv 5)))), (b 15, .inl (cA 0, 2, .inl (t2 ix (xv 6) (yv 6))))] sz) := by
  refine Met.ofW (cc := cX4_becomesOpened) (maxL := 2) (ret := none) (by decide) rfl ?_
  intro p e s m args below meth c s₁ B hml hv
  obtain ⟨rfl, hsz, hP, hK, hD0⟩ := hv
  have hx := B.exec
  have hb := B.bytes
  have hr := B.returns
  have hts := atoms_spec (ws := wsX4_becomesOpened) B.pre
  have hown : s.vm.findClass RX4 = some m.cls := findClass_of_methodNamed B.named
  have hlocks := B.notSynchronized
  subst hsz
  have hD := hD0.self (sz := s.heap.size)
  generalize hAe : va_A [cM b mm, (b 9, .inl (cA 0, 2, .inl (t2 ix (xv 0) (yv 0)))), (b 10, .inl (cA 0, 2, .inl (t2 ix (xv 1) (yv 1)))), (b 11, .inl (cA 0, 2, .inl (t2 ix (xv 2) (yv 2)))), (b 12, .inl (cA 0, 2, .inl (t2 ix (xv 3) (yv 3)))), (b 13, .inl (cA 0, 2, .inl (t2 ix (xv 4) (yv 4)))), (b 14, .inl (cA 0, 2, .inl (t2 ix (xv 5) (yv 5)))), (b 15, .inl (cA 0, 2, .inl (t2 ix (xv 6) (yv 6))))] s.heap.size = A at hD ⊢
  have hA : ∀ q : Nat, s.heap.size ≤ q → A q := fun q h => by rw [← hAe]; exact Or.inr h
  have hS : va_S A s.heap s.heap [] := va_S.rf
  have hl := lv_entry ([.ref (b 0), .int (nI ix)]) (n := 2) (Nat.le_of_ble_eq_true rfl)
  rw [lg_entry_eq]
  generalize (lg_sl ([.ref (b 0), .int (nI ix)]) ++ List.replicate (2 - (lg_sl ([.ref (b 0), .int (nI ix)])).length) Slot.unset).toArray = ls at hl ⊢
  have hl : lv_has ls 2 [(0, .ref (b 0)), (1, .int (nI ix))] := hl
  refine lv_aload_n hx hb dX4_becomesOpened_0 rfl (lv_at hl 0 rfl) ?_
  refine va_get (D := D) (ci := 6) (v := .ref (b 9)) (C := RX4) (T := TX4) (N := 29) hx hb hts (fun _ h => List.mem_cons_of_mem _ (List.mem_append_right _ (h))) hown hK hP 0 rfl rfl 10 (by decide) (hts (.fieldLink RX4 35 "OptionWireModel" "states" "[I") (List.mem_of_getElem? (i := 1) rfl)) (fun _ h9 => h9) rfl dX4_becomesOpened_1 ?_
  refine lv_iload_n hx hb dX4_becomesOpened_4 rfl (lv_at hl 1 rfl) ?_
  refine lv_iconst (v := 4) hx hb dX4_becomesOpened_5 (by decide) ?_
  refine z_iast (k := ix) hx hb hK hP hD hS 1 0 rfl rfl rfl (by omega) (by decide) dX4_becomesOpened_6 (fun H locs hP hD hS => ?_)
  have hP : va_P D vwCl [cM b mm, (b 9, .inl (cA 0, 2, .inl (upd (t2 ix (xv 0) (yv 0)) ix 4))), (b 10, .inl (cA 0, 2, .inl (t2 ix (xv 1) (yv 1)))), (b 11, .inl (cA 0, 2, .inl (t2 ix (xv 2) (yv 2)))), (b 12, .inl (cA 0, 2, .inl (t2 ix (xv 3) (yv 3)))), (b 13, .inl (cA 0, 2, .inl (t2 ix (xv 4) (yv 4)))), (b 14, .inl (cA 0, 2, .inl (t2 ix (xv 5) (yv 5)))), (b 15, .inl (cA 0, 2, .inl (t2 ix (xv 6) (yv 6))))] H := hP
  have hD : va_D A [cM b mm, (b 9, .inl (cA 0, 2, .inl (upd (t2 ix (xv 0) (yv 0)) ix 4))), (b 10, .inl (cA 0, 2, .inl (t2 ix (xv 1) (yv 1)))), (b 11, .inl (cA 0, 2, .inl (t2 ix (xv 2) (yv 2)))), (b 12, .inl (cA 0, 2, .inl (t2 ix (xv 3) (yv 3)))), (b 13, .inl (cA 0, 2, .inl (t2 ix (xv 4) (yv 4)))), (b 14, .inl (cA 0, 2, .inl (t2 ix (xv 5) (yv 5)))), (b 15, .inl (cA 0, 2, .inl (t2 ix (xv 6) (yv 6))))] := hD
  rw [show upd (t2 ix (xv 0) (yv 0)) ix 4 = t2 ix 4 (yv 0) from t2_ux] at hP hD
  refine lv_aload_n hx hb dX4_becomesOpened_7 rfl (lv_at hl 0 rfl) ?_
  refine va_get (D := D) (ci := 6) (v := .ref (b 12)) (C := RX4) (T := TX4) (N := 29) hx hb hts (fun _ h => List.mem_cons_of_mem _ (List.mem_append_right _ (h))) hown hK hP 0 rfl rfl 13 (by decide) (hts (.fieldLink RX4 44 "OptionWireModel" "left" "[I") (List.mem_of_getElem? (i := 2) rfl)) (fun _ h9 => h9) rfl dX4_becomesOpened_8 ?_
  refine lv_iload_n hx hb dX4_becomesOpened_11 rfl (lv_at hl 1 rfl) ?_
  refine lv_bipush (v := 10) hx hb dX4_becomesOpened_12 (by decide) ?_
  refine z_iast (k := ix) hx hb hK hP hD hS 4 0 rfl rfl rfl (by omega) (by decide) dX4_becomesOpened_14 (fun H locs hP hD hS => ?_)
  have hP : va_P D vwCl [cM b mm, (b 9, .inl (cA 0, 2, .inl (t2 ix 4 (yv 0)))), (b 10, .inl (cA 0, 2, .inl (t2 ix (xv 1) (yv 1)))), (b 11, .inl (cA 0, 2, .inl (t2 ix (xv 2) (yv 2)))), (b 12, .inl (cA 0, 2, .inl (upd (t2 ix (xv 3) (yv 3)) ix 10))), (b 13, .inl (cA 0, 2, .inl (t2 ix (xv 4) (yv 4)))), (b 14, .inl (cA 0, 2, .inl (t2 ix (xv 5) (yv 5)))), (b 15, .inl (cA 0, 2, .inl (t2 ix (xv 6) (yv 6))))] H := hP
  have hD : va_D A [cM b mm, (b 9, .inl (cA 0, 2, .inl (t2 ix 4 (yv 0)))), (b 10, .inl (cA 0, 2, .inl (t2 ix (xv 1) (yv 1)))), (b 11, .inl (cA 0, 2, .inl (t2 ix (xv 2) (yv 2)))), (b 12, .inl (cA 0, 2, .inl (upd (t2 ix (xv 3) (yv 3)) ix 10))), (b 13, .inl (cA 0, 2, .inl (t2 ix (xv 4) (yv 4)))), (b 14, .inl (cA 0, 2, .inl (t2 ix (xv 5) (yv 5)))), (b 15, .inl (cA 0, 2, .inl (t2 ix (xv 6) (yv 6))))] := hD
  rw [show upd (t2 ix (xv 3) (yv 3)) ix 10 = t2 ix 10 (yv 3) from t2_ux] at hP hD
  refine W.widen (k := 0) (n := 0) (by omega) (by omega) ?_
  exact W.vret hx hb hr (fun t ht hW => ⟨⟨((upd (upd xv 0 4) 3 10)), rfl, rfl, ⟨by rw [ht]; exact hP, by rw [hAe]; exact hD⟩⟩, hS.F ht⟩) hS.2.2 dX4_becomesOpened_15
set_option maxHeartbeats 4000000 in
set_option maxRecDepth 100000 in
/-- send(end, kind, number, mark) -/
theorem c_X4_send (l : Launch) (D : va_G) (cA : Nat → ClassId) (sz : Nat) (b : Nat → Nat) (mm : Nat → Int32) (ix : Nat) (QX QY : Qt) (sn : Nat → Int32) (kd nb mk : Int32) (hix : ix ≤ 1) (hqx : QX.1 ≤ 12) (hqy : QY.1 ≤ 12) : Met l yX4_send wsX4_send ({ frames := 0, cells := 0, slots := 0, locals := 0 }) (va_Pc [.ref (b 0), .int (nI ix), .int kd, .int nb, .int mk] (zU D cA sz [cM b mm, (b 16, .inl (cA 0, 2, .inl (t2 ix (nI QX.1) (nI QY.1)))), (b 17, .inl (cA 0, 24, .inl (bk 12 ix (qc QX 0) (qc QY 0)))), (b 18, .inl (cA 0, 24, .inl (bk 12 ix (qc QX 1) (qc QY 1)))), (b 19, .inl (cA 0, 24, .inl (bk 12 ix (qc QX 2) (qc QY 2)))), (b 20, .inl (cA 0, 96, .inl (bk 48 ix (qw QX) (qw QY)))), (b 22, .inl (cA 0, 4, .inl sn))])) (va_Qv (fun (u : (Qt × Qt × (Nat → Int32))) => u.1 = (sq (mm 0) (pk kd nb mk sn) QX QY).1 ∧ u.2.1 = (sq (mm 0) (pk kd nb mk sn) QX QY).2 ∧ u.2.2 = upd mm 5 (mm 5 + 1)) (fun (u : (Qt × Qt × (Nat → Int32))) t => zB D [cM b mm, (b 16, .inl (cA 0, 2, .inl (t2 ix (nI QX.1) (nI QY.1)))), (b 17, .inl (cA 0, 24, .inl (bk 12 ix (qc QX 0) (qc QY 0)))), (b 18, .inl (cA 0, 24, .inl (bk 12 ix (qc QX 1) (qc QY 1)))), (b 19, .inl (cA 0, 24, .inl (bk 12 ix (qc QX 2) (qc QY 2)))), (b 20, .inl (cA 0, 96, .inl (bk 48 ix (qw QX) (qw QY)))), (b 22, .inl (cA 0, 4, .inl sn))] sz [cM b u.2.2, (b 16, .inl (cA 0, 2, .inl (t2 ix (nI u.1.1) (nI u.2.1.1)))), (b 17, .inl (cA 0, 24, .inl (bk 12 ix (qc u.1 0) (qc u.2.1 0)))), (b 18, .inl (cA 0, 24, .inl (bk 12 ix (qc u.1 1) (qc u.2.1 1)))), (b 19, .inl (cA 0, 24, .inl (bk 12 ix (qc u.1 2) (qc u.2.1 2)))), (b 20, .inl (cA 0, 96, .inl (bk 48 ix (qw u.1) (qw u.2.1)))), (b 22, .inl (cA 0, 4, .inl sn))] t) (va_A [cM b mm, (b 16, .inl (cA 0, 2, .inl (t2 ix (nI QX.1) (nI QY.1)))), (b 17, .inl (cA 0, 24, .inl (bk 12 ix (qc QX 0) (qc QY 0)))), (b 18, .inl (cA 0, 24, .inl (bk 12 ix (qc QX 1) (qc QY 1)))), (b 19, .inl (cA 0, 24, .inl (bk 12 ix (qc QX 2) (qc QY 2)))), (b 20, .inl (cA 0, 96, .inl (bk 48 ix (qw QX) (qw QY)))), (b 22, .inl (cA 0, 4, .inl sn))] sz)) 0 0 (va_A [cM b mm, (b 16, .inl (cA 0, 2, .inl (t2 ix (nI QX.1) (nI QY.1)))), (b 17, .inl (cA 0, 24, .inl (bk 12 ix (qc QX 0) (qc QY 0)))), (b 18, .inl (cA 0, 24, .inl (bk 12 ix (qc QX 1) (qc QY 1)))), (b 19, .inl (cA 0, 24, .inl (bk 12 ix (qc QX 2) (qc QY 2)))), (b 20, .inl (cA 0, 96, .inl (bk 48 ix (qw QX) (qw QY)))), (b 22, .inl (cA 0, 4, .inl sn))] sz) := by
  refine Met.ofW (cc := cX4_send) (maxL := 8) (ret := none) (by decide) rfl ?_
  intro p e s m args below meth c s₁ B hml hv
  obtain ⟨rfl, hsz, hP, hK, hD0⟩ := hv
  have hx := B.exec
  have hb := B.bytes
  have hr := B.returns
  have hts := atoms_spec (ws := wsX4_send) B.pre
  have hown : s.vm.findClass RX4 = some m.cls := findClass_of_methodNamed B.named
  have hlocks := B.notSynchronized
  subst hsz
  have hD := hD0.self (sz := s.heap.size)
  generalize hAe : va_A [cM b mm, (b 16, .inl (cA 0, 2, .inl (t2 ix (nI QX.1) (nI QY.1)))), (b 17, .inl (cA 0, 24, .inl (bk 12 ix (qc QX 0) (qc QY 0)))), (b 18, .inl (cA 0, 24, .inl (bk 12 ix (qc QX 1) (qc QY 1)))), (b 19, .inl (cA 0, 24, .inl (bk 12 ix (qc QX 2) (qc QY 2)))), (b 20, .inl (cA 0, 96, .inl (bk 48 ix (qw QX) (qw QY)))), (b 22, .inl (cA 0, 4, .inl sn))] s.heap.size = A at hD ⊢
  have hA : ∀ q : Nat, s.heap.size ≤ q → A q := fun q h => by rw [← hAe]; exact Or.inr h
  have hS : va_S A s.heap s.heap [] := va_S.rf
  have hl := lv_entry ([.ref (b 0), .int (nI ix), .int kd, .int nb, .int mk]) (n := 8) (Nat.le_of_ble_eq_true rfl)
  rw [lg_entry_eq]
  generalize (lg_sl ([.ref (b 0), .int (nI ix), .int kd, .int nb, .int mk]) ++ List.replicate (8 - (lg_sl ([.ref (b 0), .int (nI ix), .int kd, .int nb, .int mk])).length) Slot.unset).toArray = ls at hl ⊢
  have hl : lv_has ls 8 [(0, .ref (b 0)), (1, .int (nI ix)), (2, .int kd), (3, .int nb), (4, .int mk)] := hl
  refine lv_aload_n hx hb dX4_send_0 rfl (lv_at hl 0 rfl) ?_
  refine va_get (D := D) (ci := 6) (v := .int (mm 0)) (C := RX4) (T := TX4) (N := 29) hx hb hts (fun _ h => List.mem_cons_of_mem _ (List.mem_append_right _ (h))) hown hK hP 0 rfl rfl 0 (by decide) (hts (.fieldLink RX4 102 "OptionWireModel" "isLooped" "Z") (List.mem_of_getElem? (i := 1) rfl)) (fun _ h9 => h9) rfl dX4_send_1 ?_
  refine lv_if_eq (tgt := 11) hx hb dX4_send_4 (by decide) (fun c_1 => ?_) (fun c_1 => ?_)
  · skip
    refine lv_iconst (v := 1) hx hb dX4_send_11 (by decide) ?_
    refine lv_iload_n hx hb dX4_send_12 rfl (lv_at hl 1 rfl) ?_
    refine lv_isub hx hb dX4_send_13 ?_
    refine z_top (y := (nI (1 - ix))) (z_1sub hix) ?_
    refine lv_istore (lv' := [(5, .int (nI (1 - ix))), (0, .ref (b 0)), (1, .int (nI ix)), (2, .int kd), (3, .int nb), (4, .int mk)]) hx hb dX4_send_14 hl (by decide) rfl (fun ls hl => ?_)
    refine lv_aload_n hx hb dX4_send_16 rfl (lv_at hl 1 rfl) ?_
    refine lv_dup hx hb dX4_send_17 rfl ?_
    refine va_get (D := D) (ci := 6) (v := .int (mm 5)) (C := RX4) (T := TX4) (N := 29) hx hb hts (fun _ h => List.mem_cons_of_mem _ (List.mem_append_right _ (h))) hown hK hP 0 rfl rfl 27 (by decide) (hts (.fieldLink RX4 106 "OptionWireModel" "sent" "I") (List.mem_of_getElem? (i := 2) rfl)) (fun _ h9 => h9) rfl dX4_send_18 ?_
    refine lv_iconst (v := 1) hx hb dX4_send_21 (by decide) ?_
    refine lv_iadd hx hb dX4_send_22 ?_
    refine va_put (D := D) (ci := 6) (v := .int ((mm 5) + 1)) (ty := .int) (C := RX4) (T := TX4) (N := 29) hx hb hts (fun _ h => List.mem_cons_of_mem _ (List.mem_append_right _ (h))) tyX4 tyX4_ok nmX4 hown hK hP hD hS 0 rfl rfl 27 (by decide) (hts (.fieldLink RX4 106 "OptionWireModel" "sent" "I") (List.mem_of_getElem? (i := 2) rfl)) (fun _ h9 => h9) rfl (by decide +kernel) rfl rfl (Nat.le_of_ble_eq_true rfl) dX4_send_23 (fun H locs hP hD hS => ?_)
    have hP : va_P D vwCl [cM b (upd mm 5 ((mm 5) + 1)), (b 16, .inl (cA 0, 2, .inl (t2 ix (nI QX.1) (nI QY.1)))), (b 17, .inl (cA 0, 24, .inl (bk 12 ix (qc QX 0) (qc QY 0)))), (b 18, .inl (cA 0, 24, .inl (bk 12 ix (qc QX 1) (qc QY 1)))), (b 19, .inl (cA 0, 24, .inl (bk 12 ix (qc QX 2) (qc QY 2)))), (b 20, .inl (cA 0, 96, .inl (bk 48 ix (qw QX) (qw QY)))), (b 22, .inl (cA 0, 4, .inl sn))] H := hP
    have hD : va_D A [cM b (upd mm 5 ((mm 5) + 1)), (b 16, .inl (cA 0, 2, .inl (t2 ix (nI QX.1) (nI QY.1)))), (b 17, .inl (cA 0, 24, .inl (bk 12 ix (qc QX 0) (qc QY 0)))), (b 18, .inl (cA 0, 24, .inl (bk 12 ix (qc QX 1) (qc QY 1)))), (b 19, .inl (cA 0, 24, .inl (bk 12 ix (qc QX 2) (qc QY 2)))), (b 20, .inl (cA 0, 96, .inl (bk 48 ix (qw QX) (qw QY)))), (b 22, .inl (cA 0, 4, .inl sn))] := hD
    refine lv_aload_n hx hb dX4_send_26 rfl (lv_at hl 1 rfl) ?_
    refine va_get (D := D) (ci := 6) (v := .ref (b 16)) (C := RX4) (T := TX4) (N := 29) hx hb hts (fun _ h => List.mem_cons_of_mem _ (List.mem_append_right _ (h))) hown hK hP 0 rfl rfl 17 (by decide) (hts (.fieldLink RX4 56 "OptionWireModel" "many" "[I") (List.mem_of_getElem? (i := 3) rfl)) (fun _ h9 => h9) rfl dX4_send_27 ?_
    refine lv_iload hx hb dX4_send_30 (lv_at hl 0 rfl) ?_
    refine z_iald (k := (1 - ix)) (v := (nI QY.1)) hx hb hK hP 1 0 rfl rfl rfl (by omega) (by decide) (t2_y hix) dX4_send_32 ?_
    refine lv_bipush (v := 12) hx hb dX4_send_33 (by decide) ?_
    refine lv_icmp_ge (tgt := 123) hx hb dX4_send_35 (by decide) (fun c_2 => ?_) (fun c_2 => ?_)
    · have c_2 := (nI_leI (a := 12) (b := QY.1) (by omega) (by omega)).mp c_2
      refine W.widen (k := 0) (n := 0) (by omega) (by omega) ?_
      exact W.vret hx hb hr (fun t ht hW => ⟨⟨(QX, QY, (upd mm 5 ((mm 5) + 1))), rfl, ⟨by simp only [sq, if_pos c_1, show push (pk kd nb mk sn) QY = QY from push_n (by omega)], by simp only [sq, if_pos c_1, show push (pk kd nb mk sn) QY = QY from push_n (by omega)], rfl⟩, ⟨by rw [ht]; exact hP, by rw [hAe]; exact hD⟩⟩, hS.F ht⟩) hS.2.2 dX4_send_123
    · have c_2 := mt (nI_leI (a := 12) (b := QY.1) (by omega) (by omega)).mpr c_2
      refine lv_bipush (v := 12) hx hb dX4_send_38 (by decide) ?_
      refine lv_iload hx hb dX4_send_40 (lv_at hl 0 rfl) ?_
      refine lv_imul hx hb dX4_send_42 ?_
      refine z_top (y := (nI (12 * (1 - ix)))) (z_mul 12 (1 - ix)) ?_
      refine lv_aload_n hx hb dX4_send_43 rfl (lv_at hl 1 rfl) ?_
      refine va_get (D := D) (ci := 6) (v := .ref (b 16)) (C := RX4) (T := TX4) (N := 29) hx hb hts (fun _ h => List.mem_cons_of_mem _ (List.mem_append_right _ (h))) hown hK hP 0 rfl rfl 17 (by decide) (hts (.fieldLink RX4 56 "OptionWireModel" "many" "[I") (List.mem_of_getElem? (i := 3) rfl)) (fun _ h9 => h9) rfl dX4_send_44 ?_
      refine lv_iload hx hb dX4_send_47 (lv_at hl 0 rfl) ?_
      refine z_iald (k := (1 - ix)) (v := (nI QY.1)) hx hb hK hP 1 0 rfl rfl rfl (by omega) (by decide) (t2_y hix) dX4_send_49 ?_
      refine lv_iadd hx hb dX4_send_50 ?_
      refine z_top (y := (nI (12 * (1 - ix) + QY.1))) (z_add (12 * (1 - ix)) QY.1) ?_
      refine lv_istore (lv' := [(6, .int (nI (12 * (1 - ix) + QY.1))), (5, .int (nI (1 - ix))), (0, .ref (b 0)), (1, .int (nI ix)), (2, .int kd), (3, .int nb), (4, .int mk)]) hx hb dX4_send_51 hl (by decide) rfl (fun ls hl => ?_)
      refine lv_aload_n hx hb dX4_send_53 rfl (lv_at hl 2 rfl) ?_
      refine va_get (D := D) (ci := 6) (v := .ref (b 17)) (C := RX4) (T := TX4) (N := 29) hx hb hts (fun _ h => List.mem_cons_of_mem _ (List.mem_append_right _ (h))) hown hK hP 0 rfl rfl 18 (by decide) (hts (.fieldLink RX4 59 "OptionWireModel" "kind" "[I") (List.mem_of_getElem? (i := 4) rfl)) (fun _ h9 => h9) rfl dX4_send_54 ?_
      refine lv_iload hx hb dX4_send_57 (lv_at hl 0 rfl) ?_
      refine lv_iload_n hx hb dX4_send_59 rfl (lv_at hl 4 rfl) ?_
      refine z_iast (k := (12 * (1 - ix) + QY.1)) hx hb hK hP hD hS 2 0 rfl rfl rfl (by omega) (by decide) dX4_send_60 (fun H locs hP hD hS => ?_)
      have hP : va_P D vwCl [cM b (upd mm 5 ((mm 5) + 1)), (b 16, .inl (cA 0, 2, .inl (t2 ix (nI QX.1) (nI QY.1)))), (b 17, .inl (cA 0, 24, .inl (upd (bk 12 ix (qc QX 0) (qc QY 0)) (12 * (1 - ix) + QY.1) kd))), (b 18, .inl (cA 0, 24, .inl (bk 12 ix (qc QX 1) (qc QY 1)))), (b 19, .inl (cA 0, 24, .inl (bk 12 ix (qc QX 2) (qc QY 2)))), (b 20, .inl (cA 0, 96, .inl (bk 48 ix (qw QX) (qw QY)))), (b 22, .inl (cA 0, 4, .inl sn))] H := hP
      have hD : va_D A [cM b (upd mm 5 ((mm 5) + 1)), (b 16, .inl (cA 0, 2, .inl (t2 ix (nI QX.1) (nI QY.1)))), (b 17, .inl (cA 0, 24, .inl (upd (bk 12 ix (qc QX 0) (qc QY 0)) (12 * (1 - ix) + QY.1) kd))), (b 18, .inl (cA 0, 24, .inl (bk 12 ix (qc QX 1) (qc QY 1)))), (b 19, .inl (cA 0, 24, .inl (bk 12 ix (qc QX 2) (qc QY 2)))), (b 20, .inl (cA 0, 96, .inl (bk 48 ix (qw QX) (qw QY)))), (b 22, .inl (cA 0, 4, .inl sn))] := hD
      rw [show upd (bk 12 ix (qc QX 0) (qc QY 0)) (12 * (1 - ix) + QY.1) kd = bk 12 ix (qc QX 0) (upd (qc QY 0) QY.1 kd) from (bk_uy (by omega) hix)] at hP hD
      refine lv_aload_n hx hb dX4_send_61 rfl (lv_at hl 2 rfl) ?_
      refine va_get (D := D) (ci := 6) (v := .ref (b 18)) (C := RX4) (T := TX4) (N := 29) hx hb hts (fun _ h => List.mem_cons_of_mem _ (List.mem_append_right _ (h))) hown hK hP 0 rfl rfl 19 (by decide) (hts (.fieldLink RX4 62 "OptionWireModel" "number" "[I") (List.mem_of_getElem? (i := 5) rfl)) (fun _ h9 => h9) rfl dX4_send_62 ?_
      refine lv_iload hx hb dX4_send_65 (lv_at hl 0 rfl) ?_
      refine lv_iload_n hx hb dX4_send_67 rfl (lv_at hl 5 rfl) ?_
      refine z_iast (k := (12 * (1 - ix) + QY.1)) hx hb hK hP hD hS 3 0 rfl rfl rfl (by omega) (by decide) dX4_send_68 (fun H locs hP hD hS => ?_)
      have hP : va_P D vwCl [cM b (upd mm 5 ((mm 5) + 1)), (b 16, .inl (cA 0, 2, .inl (t2 ix (nI QX.1) (nI QY.1)))), (b 17, .inl (cA 0, 24, .inl (bk 12 ix (qc QX 0) (upd (qc QY 0) QY.1 kd)))), (b 18, .inl (cA 0, 24, .inl (upd (bk 12 ix (qc QX 1) (qc QY 1)) (12 * (1 - ix) + QY.1) nb))), (b 19, .inl (cA 0, 24, .inl (bk 12 ix (qc QX 2) (qc QY 2)))), (b 20, .inl (cA 0, 96, .inl (bk 48 ix (qw QX) (qw QY)))), (b 22, .inl (cA 0, 4, .inl sn))] H := hP
      have hD : va_D A [cM b (upd mm 5 ((mm 5) + 1)), (b 16, .inl (cA 0, 2, .inl (t2 ix (nI QX.1) (nI QY.1)))), (b 17, .inl (cA 0, 24, .inl (bk 12 ix (qc QX 0) (upd (qc QY 0) QY.1 kd)))), (b 18, .inl (cA 0, 24, .inl (upd (bk 12 ix (qc QX 1) (qc QY 1)) (12 * (1 - ix) + QY.1) nb))), (b 19, .inl (cA 0, 24, .inl (bk 12 ix (qc QX 2) (qc QY 2)))), (b 20, .inl (cA 0, 96, .inl (bk 48 ix (qw QX) (qw QY)))), (b 22, .inl (cA 0, 4, .inl sn))] := hD
      rw [show upd (bk 12 ix (qc QX 1) (qc QY 1)) (12 * (1 - ix) + QY.1) nb = bk 12 ix (qc QX 1) (upd (qc QY 1) QY.1 nb) from (bk_uy (by omega) hix)] at hP hD
      refine lv_aload_n hx hb dX4_send_69 rfl (lv_at hl 2 rfl) ?_
      refine va_get (D := D) (ci := 6) (v := .ref (b 19)) (C := RX4) (T := TX4) (N := 29) hx hb hts (fun _ h => List.mem_cons_of_mem _ (List.mem_append_right _ (h))) hown hK hP 0 rfl rfl 20 (by decide) (hts (.fieldLink RX4 65 "OptionWireModel" "mark" "[I") (List.mem_of_getElem? (i := 6) rfl)) (fun _ h9 => h9) rfl dX4_send_70 ?_
      refine lv_iload hx hb dX4_send_73 (lv_at hl 0 rfl) ?_
      refine lv_iload hx hb dX4_send_75 (lv_at hl 6 rfl) ?_
      refine z_iast (k := (12 * (1 - ix) + QY.1)) hx hb hK hP hD hS 4 0 rfl rfl rfl (by omega) (by decide) dX4_send_77 (fun H locs hP hD hS => ?_)
      have hP : va_P D vwCl [cM b (upd mm 5 ((mm 5) + 1)), (b 16, .inl (cA 0, 2, .inl (t2 ix (nI QX.1) (nI QY.1)))), (b 17, .inl (cA 0, 24, .inl (bk 12 ix (qc QX 0) (upd (qc QY 0) QY.1 kd)))), (b 18, .inl (cA 0, 24, .inl (bk 12 ix (qc QX 1) (upd (qc QY 1) QY.1 nb)))), (b 19, .inl (cA 0, 24, .inl (upd (bk 12 ix (qc QX 2) (qc QY 2)) (12 * (1 - ix) + QY.1) mk))), (b 20, .inl (cA 0, 96, .inl (bk 48 ix (qw QX) (qw QY)))), (b 22, .inl (cA 0, 4, .inl sn))] H := hP
      have hD : va_D A [cM b (upd mm 5 ((mm 5) + 1)), (b 16, .inl (cA 0, 2, .inl (t2 ix (nI QX.1) (nI QY.1)))), (b 17, .inl (cA 0, 24, .inl (bk 12 ix (qc QX 0) (upd (qc QY 0) QY.1 kd)))), (b 18, .inl (cA 0, 24, .inl (bk 12 ix (qc QX 1) (upd (qc QY 1) QY.1 nb)))), (b 19, .inl (cA 0, 24, .inl (upd (bk 12 ix (qc QX 2) (qc QY 2)) (12 * (1 - ix) + QY.1) mk))), (b 20, .inl (cA 0, 96, .inl (bk 48 ix (qw QX) (qw QY)))), (b 22, .inl (cA 0, 4, .inl sn))] := hD
      rw [show upd (bk 12 ix (qc QX 2) (qc QY 2)) (12 * (1 - ix) + QY.1) mk = bk 12 ix (qc QX 2) (upd (qc QY 2) QY.1 mk) from (bk_uy (by omega) hix)] at hP hD
      refine lv_iconst (v := 0) hx hb dX4_send_78 (by decide) ?_
      refine lv_istore (lv' := [(7, .int 0), (6, .int (nI (12 * (1 - ix) + QY.1))), (5, .int (nI (1 - ix))), (0, .ref (b 0)), (1, .int (nI ix)), (2, .int kd), (3, .int nb), (4, .int mk)]) hx hb dX4_send_79 hl (by decide) rfl (fun ls hl => ?_)
      -- the loop at 81
      have hP : va_P D vwCl [cM b (upd mm 5 ((mm 5) + 1)), (b 16, .inl (cA 0, 2, .inl (t2 ix (nI QX.1) (nI QY.1)))), (b 17, .inl (cA 0, 24, .inl (bk 12 ix (qc QX 0) (upd (qc QY 0) QY.1 kd)))), (b 18, .inl (cA 0, 24, .inl (bk 12 ix (qc QX 1) (upd (qc QY 1) QY.1 nb)))), (b 19, .inl (cA 0, 24, .inl (bk 12 ix (qc QX 2) (upd (qc QY 2) QY.1 mk)))), (b 20, .inl (cA 0, 96, .inl (bk 48 ix (qw QX) (bput 0 (qw QY) QY.1 sn)))), (b 22, .inl (cA 0, 4, .inl sn))] H := z_row hP 5 rfl (fun k _ => congrFun (show bk 48 ix (qw QX) (qw QY) = bk 48 ix (qw QX) (bput 0 (qw QY) QY.1 sn) from (bk_cy bput_0)) k)
      have hD : va_D A [cM b (upd mm 5 ((mm 5) + 1)), (b 16, .inl (cA 0, 2, .inl (t2 ix (nI QX.1) (nI QY.1)))), (b 17, .inl (cA 0, 24, .inl (bk 12 ix (qc QX 0) (upd (qc QY 0) QY.1 kd)))), (b 18, .inl (cA 0, 24, .inl (bk 12 ix (qc QX 1) (upd (qc QY 1) QY.1 nb)))), (b 19, .inl (cA 0, 24, .inl (bk 12 ix (qc QX 2) (upd (qc QY 2) QY.1 mk)))), (b 20, .inl (cA 0, 96, .inl (bk 48 ix (qw QX) (bput 0 (qw QY) QY.1 sn)))), (b 22, .inl (cA 0, 4, .inl sn))] := hD.set (p := 5) rfl
      refine z_loop (Inv := fun j H locs ls => va_P D vwCl [cM b (upd mm 5 ((mm 5) + 1)), (b 16, .inl (cA 0, 2, .inl (t2 ix (nI QX.1) (nI QY.1)))), (b 17, .inl (cA 0, 24, .inl (bk 12 ix (qc QX 0) (upd (qc QY 0) QY.1 kd)))), (b 18, .inl (cA 0, 24, .inl (bk 12 ix (qc QX 1) (upd (qc QY 1) QY.1 nb)))), (b 19, .inl (cA 0, 24, .inl (bk 12 ix (qc QX 2) (upd (qc QY 2) QY.1 mk)))), (b 20, .inl (cA 0, 96, .inl (bk 48 ix (qw QX) (bput j (qw QY) QY.1 sn)))), (b 22, .inl (cA 0, 4, .inl sn))] H ∧ va_D A [cM b (upd mm 5 ((mm 5) + 1)), (b 16, .inl (cA 0, 2, .inl (t2 ix (nI QX.1) (nI QY.1)))), (b 17, .inl (cA 0, 24, .inl (bk 12 ix (qc QX 0) (upd (qc QY 0) QY.1 kd)))), (b 18, .inl (cA 0, 24, .inl (bk 12 ix (qc QX 1) (upd (qc QY 1) QY.1 nb)))), (b 19, .inl (cA 0, 24, .inl (bk 12 ix (qc QX 2) (upd (qc QY 2) QY.1 mk)))), (b 20, .inl (cA 0, 96, .inl (bk 48 ix (qw QX) (bput j (qw QY) QY.1 sn)))), (b 22, .inl (cA 0, 4, .inl sn))] ∧ va_S A s.heap H locs ∧ lv_has ls 8 [(7, .int (nI j)), (6, .int (nI (12 * (1 - ix) + QY.1))), (5, .int (nI (1 - ix))), (0, .ref (b 0)), (1, .int (nI ix)), (2, .int kd), (3, .int nb), (4, .int mk)]) 4 (fun j hj_j ih_j H locs ls hI => ?_) ⟨hP, hD, hS, lv_sub hl [0, 1, 2, 3, 4, 5, 6, 7] rfl⟩
      obtain ⟨hP, hD, hS, hl⟩ := hI
      refine lv_iload hx hb dX4_send_81 (lv_at hl 0 rfl) ?_
      refine lv_iconst (v := 4) hx hb dX4_send_83 (by decide) ?_
      refine lv_icmp_ge (tgt := 112) hx hb dX4_send_84 (by decide) (fun c_3 => ?_) (fun c_3 => ?_)
      · have c_3 := (nI_leI (a := 4) (b := j) (by omega) (by omega)).mp c_3
        obtain rfl : j = 4 := by omega
        refine lv_aload_n hx hb dX4_send_112 rfl (lv_at hl 3 rfl) ?_
        refine va_get (D := D) (ci := 6) (v := .ref (b 16)) (C := RX4) (T := TX4) (N := 29) hx hb hts (fun _ h => List.mem_cons_of_mem _ (List.mem_append_right _ (h))) hown hK hP 0 rfl rfl 17 (by decide) (hts (.fieldLink RX4 56 "OptionWireModel" "many" "[I") (List.mem_of_getElem? (i := 3) rfl)) (fun _ h9 => h9) rfl dX4_send_113 ?_
        refine lv_iload hx hb dX4_send_116 (lv_at hl 2 rfl) ?_
        refine lv_dup2_11 hx hb dX4_send_118 rfl rfl ?_
        refine z_iald (k := (1 - ix)) (v := (nI QY.1)) hx hb hK hP 1 0 rfl rfl rfl (by omega) (by decide) (t2_y hix) dX4_send_119 ?_
        refine lv_iconst (v := 1) hx hb dX4_send_120 (by decide) ?_
        refine lv_iadd hx hb dX4_send_121 ?_
        refine z_top (y := (nI (QY.1 + 1))) (z_add QY.1 1) ?_
        refine z_iast (k := (1 - ix)) hx hb hK hP hD hS 1 0 rfl rfl rfl (by omega) (by decide) dX4_send_122 (fun H locs hP hD hS => ?_)
        have hP : va_P D vwCl [cM b (upd mm 5 ((mm 5) + 1)), (b 16, .inl (cA 0, 2, .inl (upd (t2 ix (nI QX.1) (nI QY.1)) (1 - ix) (nI (QY.1 + 1))))), (b 17, .inl (cA 0, 24, .inl (bk 12 ix (qc QX 0) (upd (qc QY 0) QY.1 kd)))), (b 18, .inl (cA 0, 24, .inl (bk 12 ix (qc QX 1) (upd (qc QY 1) QY.1 nb)))), (b 19, .inl (cA 0, 24, .inl (bk 12 ix (qc QX 2) (upd (qc QY 2) QY.1 mk)))), (b 20, .inl (cA 0, 96, .inl (bk 48 ix (qw QX) (bput 4 (qw QY) QY.1 sn)))), (b 22, .inl (cA 0, 4, .inl sn))] H := hP
        have hD : va_D A [cM b (upd mm 5 ((mm 5) + 1)), (b 16, .inl (cA 0, 2, .inl (upd (t2 ix (nI QX.1) (nI QY.1)) (1 - ix) (nI (QY.1 + 1))))), (b 17, .inl (cA 0, 24, .inl (bk 12 ix (qc QX 0) (upd (qc QY 0) QY.1 kd)))), (b 18, .inl (cA 0, 24, .inl (bk 12 ix (qc QX 1) (upd (qc QY 1) QY.1 nb)))), (b 19, .inl (cA 0, 24, .inl (bk 12 ix (qc QX 2) (upd (qc QY 2) QY.1 mk)))), (b 20, .inl (cA 0, 96, .inl (bk 48 ix (qw QX) (bput 4 (qw QY) QY.1 sn)))), (b 22, .inl (cA 0, 4, .inl sn))] := hD
        rw [show upd (t2 ix (nI QX.1) (nI QY.1)) (1 - ix) (nI (QY.1 + 1)) = t2 ix (nI QX.1) (nI (QY.1 + 1)) from (t2_uy hix)] at hP hD
        have hlt : QY.1 < 12 := by omega
        rw [show t2 ix (nI QX.1) (nI (QY.1 + 1)) = t2 ix (nI QX.1) (nI (push (pk kd nb mk sn) QY).1) from (by rw [push_y hlt])] at hP hD
        rw [show bk 12 ix (qc QX 0) (upd (qc QY 0) QY.1 kd) = bk 12 ix (qc QX 0) (qc (push (pk kd nb mk sn) QY) 0) from (bk_cy (qc_push0 hlt))] at hP hD
        rw [show bk 12 ix (qc QX 1) (upd (qc QY 1) QY.1 nb) = bk 12 ix (qc QX 1) (qc (push (pk kd nb mk sn) QY) 1) from (bk_cy (qc_push1 hlt))] at hP hD
        rw [show bk 12 ix (qc QX 2) (upd (qc QY 2) QY.1 mk) = bk 12 ix (qc QX 2) (qc (push (pk kd nb mk sn) QY) 2) from (bk_cy (qc_push2 hlt))] at hP hD
        rw [show bk 48 ix (qw QX) (bput 4 (qw QY) QY.1 sn) = bk 48 ix (qw QX) (qw (push (pk kd nb mk sn) QY)) from (bk_cy (qw_push hlt))] at hP hD
        refine W.widen (k := 0) (n := 0) (by omega) (by omega) ?_
        exact W.vret hx hb hr (fun t ht hW => ⟨⟨(QX, (push (pk kd nb mk sn) QY), (upd mm 5 ((mm 5) + 1))), rfl, ⟨by simp only [sq, if_pos c_1], by simp only [sq, if_pos c_1], rfl⟩, ⟨by rw [ht]; exact hP, by rw [hAe]; exact hD⟩⟩, hS.F ht⟩) hS.2.2 dX4_send_123
      · have c_3 := mt (nI_leI (a := 4) (b := j) (by omega) (by omega)).mpr c_3
        refine lv_aload_n hx hb dX4_send_87 rfl (lv_at hl 3 rfl) ?_
        refine va_get (D := D) (ci := 6) (v := .ref (b 20)) (C := RX4) (T := TX4) (N := 29) hx hb hts (fun _ h => List.mem_cons_of_mem _ (List.mem_append_right _ (h))) hown hK hP 0 rfl rfl 21 (by decide) (hts (.fieldLink RX4 68 "OptionWireModel" "values" "[I") (List.mem_of_getElem? (i := 7) rfl)) (fun _ h9 => h9) rfl dX4_send_88 ?_
        refine lv_iconst (v := 4) hx hb dX4_send_91 (by decide) ?_
        refine lv_iload hx hb dX4_send_92 (lv_at hl 1 rfl) ?_
        refine lv_imul hx hb dX4_send_94 ?_
        refine z_top (y := (nI (4 * (12 * (1 - ix) + QY.1)))) (z_mul 4 (12 * (1 - ix) + QY.1)) ?_
        refine lv_iload hx hb dX4_send_95 (lv_at hl 0 rfl) ?_
        refine lv_iadd hx hb dX4_send_97 ?_
        refine z_top (y := (nI (4 * (12 * (1 - ix) + QY.1) + j))) (z_add (4 * (12 * (1 - ix) + QY.1)) j) ?_
        refine lv_aload_n hx hb dX4_send_98 rfl (lv_at hl 3 rfl) ?_
        refine va_get (D := D) (ci := 6) (v := .ref (b 22)) (C := RX4) (T := TX4) (N := 29) hx hb hts (fun _ h => List.mem_cons_of_mem _ (List.mem_append_right _ (h))) hown hK hP 0 rfl rfl 26 (by decide) (hts (.fieldLink RX4 74 "OptionWireModel" "sends" "[I") (List.mem_of_getElem? (i := 8) rfl)) (fun _ h9 => h9) rfl dX4_send_99 ?_
        refine lv_iload hx hb dX4_send_102 (lv_at hl 0 rfl) ?_
        refine z_iald (k := j) (v := (sn j)) hx hb hK hP 6 0 rfl rfl rfl (by omega) (by decide) rfl dX4_send_104 ?_
        refine z_iast (k := (48 * (1 - ix) + (QY.1 * 4 + j))) hx hb hK hP hD hS 5 0 rfl rfl (show nI (4 * (12 * (1 - ix) + QY.1) + j) = nI (48 * (1 - ix) + (QY.1 * 4 + j)) from congrArg nI (by omega)) (by omega) (by decide) dX4_send_105 (fun H locs hP hD hS => ?_)
        have hP : va_P D vwCl [cM b (upd mm 5 ((mm 5) + 1)), (b 16, .inl (cA 0, 2, .inl (t2 ix (nI QX.1) (nI QY.1)))), (b 17, .inl (cA 0, 24, .inl (bk 12 ix (qc QX 0) (upd (qc QY 0) QY.1 kd)))), (b 18, .inl (cA 0, 24, .inl (bk 12 ix (qc QX 1) (upd (qc QY 1) QY.1 nb)))), (b 19, .inl (cA 0, 24, .inl (bk 12 ix (qc QX 2) (upd (qc QY 2) QY.1 mk)))), (b 20, .inl (cA 0, 96, .inl (upd (bk 48 ix (qw QX) (bput j (qw QY) QY.1 sn)) (48 * (1 - ix) + (QY.1 * 4 + j)) (sn j)))), (b 22, .inl (cA 0, 4, .inl sn))] H := hP
        have hD : va_D A [cM b (upd mm 5 ((mm 5) + 1)), (b 16, .inl (cA 0, 2, .inl (t2 ix (nI QX.1) (nI QY.1)))), (b 17, .inl (cA 0, 24, .inl (bk 12 ix (qc QX 0) (upd (qc QY 0) QY.1 kd)))), (b 18, .inl (cA 0, 24, .inl (bk 12 ix (qc QX 1) (upd (qc QY 1) QY.1 nb)))), (b 19, .inl (cA 0, 24, .inl (bk 12 ix (qc QX 2) (upd (qc QY 2) QY.1 mk)))), (b 20, .inl (cA 0, 96, .inl (upd (bk 48 ix (qw QX) (bput j (qw QY) QY.1 sn)) (48 * (1 - ix) + (QY.1 * 4 + j)) (sn j)))), (b 22, .inl (cA 0, 4, .inl sn))] := hD
        rw [show upd (bk 48 ix (qw QX) (bput j (qw QY) QY.1 sn)) (48 * (1 - ix) + (QY.1 * 4 + j)) (sn j) = bk 48 ix (qw QX) (upd (bput j (qw QY) QY.1 sn) (QY.1 * 4 + j) (sn j)) from (bk_uy (by omega) hix)] at hP hD
        refine lv_iinc (v := nI (j + 1)) (lv' := [(7, .int (nI (j + 1))), (6, .int (nI (12 * (1 - ix) + QY.1))), (5, .int (nI (1 - ix))), (0, .ref (b 0)), (1, .int (nI ix)), (2, .int kd), (3, .int nb), (4, .int mk)]) hx hb dX4_send_106 hl (k := 0) rfl (z_inc j 1) (by decide) rfl (fun ls hl => ?_)
        refine lv_goto (tgt := 81) hx hb dX4_send_109 (by decide) ?_
        have hP : va_P D vwCl [cM b (upd mm 5 ((mm 5) + 1)), (b 16, .inl (cA 0, 2, .inl (t2 ix (nI QX.1) (nI QY.1)))), (b 17, .inl (cA 0, 24, .inl (bk 12 ix (qc QX 0) (upd (qc QY 0) QY.1 kd)))), (b 18, .inl (cA 0, 24, .inl (bk 12 ix (qc QX 1) (upd (qc QY 1) QY.1 nb)))), (b 19, .inl (cA 0, 24, .inl (bk 12 ix (qc QX 2) (upd (qc QY 2) QY.1 mk)))), (b 20, .inl (cA 0, 96, .inl (bk 48 ix (qw QX) (bput (j + 1) (qw QY) QY.1 sn)))), (b 22, .inl (cA 0, 4, .inl sn))] H := z_row hP 5 rfl (fun k _ => congrFun (show bk 48 ix (qw QX) (upd (bput j (qw QY) QY.1 sn) (QY.1 * 4 + j) (sn j)) = bk 48 ix (qw QX) (bput (j + 1) (qw QY) QY.1 sn) from (bk_cy (bput_s rfl))) k)
        have hD : va_D A [cM b (upd mm 5 ((mm 5) + 1)), (b 16, .inl (cA 0, 2, .inl (t2 ix (nI QX.1) (nI QY.1)))), (b 17, .inl (cA 0, 24, .inl (bk 12 ix (qc QX 0) (upd (qc QY 0) QY.1 kd)))), (b 18, .inl (cA 0, 24, .inl (bk 12 ix (qc QX 1) (upd (qc QY 1) QY.1 nb)))), (b 19, .inl (cA 0, 24, .inl (bk 12 ix (qc QX 2) (upd (qc QY 2) QY.1 mk)))), (b 20, .inl (cA 0, 96, .inl (bk 48 ix (qw QX) (bput (j + 1) (qw QY) QY.1 sn)))), (b 22, .inl (cA 0, 4, .inl sn))] := hD.set (p := 5) rfl
        exact ih_j _ _ _ (by omega) ⟨hP, hD, hS, lv_sub hl [0, 1, 2, 3, 4, 5, 6, 7] rfl⟩
  · skip
    refine lv_iload_n hx hb dX4_send_7 rfl (lv_at hl 1 rfl) ?_
    refine lv_goto (tgt := 14) hx hb dX4_send_8 (by decide) ?_
    refine lv_istore (lv' := [(5, .int (nI ix)), (0, .ref (b 0)), (1, .int (nI ix)), (2, .int kd), (3, .int nb), (4, .int mk)]) hx hb dX4_send_14 hl (by decide) rfl (fun ls hl => ?_)
    refine lv_aload_n hx hb dX4_send_16 rfl (lv_at hl 1 rfl) ?_
    refine lv_dup hx hb dX4_send_17 rfl ?_
    refine va_get (D := D) (ci := 6) (v := .int (mm 5)) (C := RX4) (T := TX4) (N := 29) hx hb hts (fun _ h => List.mem_cons_of_mem _ (List.mem_append_right _ (h))) hown hK hP 0 rfl rfl 27 (by decide) (hts (.fieldLink RX4 106 "OptionWireModel" "sent" "I") (List.mem_of_getElem? (i := 2) rfl)) (fun _ h9 => h9) rfl dX4_send_18 ?_
    refine lv_iconst (v := 1) hx hb dX4_send_21 (by decide) ?_
    refine lv_iadd hx hb dX4_send_22 ?_
    refine va_put (D := D) (ci := 6) (v := .int ((mm 5) + 1)) (ty := .int) (C := RX4) (T := TX4) (N := 29) hx hb hts (fun _ h => List.mem_cons_of_mem _ (List.mem_append_right _ (h))) tyX4 tyX4_ok nmX4 hown hK hP hD hS 0 rfl rfl 27 (by decide) (hts (.fieldLink RX4 106 "OptionWireModel" "sent" "I") (List.mem_of_getElem? (i := 2) rfl)) (fun _ h9 => h9) rfl (by decide +kernel) rfl rfl (Nat.le_of_ble_eq_true rfl) dX4_send_23 (fun H locs hP hD hS => ?_)
    have hP : va_P D vwCl [cM b (upd mm 5 ((mm 5) + 1)), (b 16, .inl (cA 0, 2, .inl (t2 ix (nI QX.1) (nI QY.1)))), (b 17, .inl (cA 0, 24, .inl (bk 12 ix (qc QX 0) (qc QY 0)))), (b 18, .inl (cA 0, 24, .inl (bk 12 ix (qc QX 1) (qc QY 1)))), (b 19, .inl (cA 0, 24, .inl (bk 12 ix (qc QX 2) (qc QY 2)))), (b 20, .inl (cA 0, 96, .inl (bk 48 ix (qw QX) (qw QY)))), (b 22, .inl (cA 0, 4, .inl sn))] H := hP
    have hD : va_D A [cM b (upd mm 5 ((mm 5) + 1)), (b 16, .inl (cA 0, 2, .inl (t2 ix (nI QX.1) (nI QY.1)))), (b 17, .inl (cA 0, 24, .inl (bk 12 ix (qc QX 0) (qc QY 0)))), (b 18, .inl (cA 0, 24, .inl (bk 12 ix (qc QX 1) (qc QY 1)))), (b 19, .inl (cA 0, 24, .inl (bk 12 ix (qc QX 2) (qc QY 2)))), (b 20, .inl (cA 0, 96, .inl (bk 48 ix (qw QX) (qw QY)))), (b 22, .inl (cA 0, 4, .inl sn))] := hD
    refine lv_aload_n hx hb dX4_send_26 rfl (lv_at hl 1 rfl) ?_
    refine va_get (D := D) (ci := 6) (v := .ref (b 16)) (C := RX4) (T := TX4) (N := 29) hx hb hts (fun _ h => List.mem_cons_of_mem _ (List.mem_append_right _ (h))) hown hK hP 0 rfl rfl 17 (by decide) (hts (.fieldLink RX4 56 "OptionWireModel" "many" "[I") (List.mem_of_getElem? (i := 3) rfl)) (fun _ h9 => h9) rfl dX4_send_27 ?_
    refine lv_iload hx hb dX4_send_30 (lv_at hl 0 rfl) ?_
    refine z_iald (k := ix) (v := (nI QX.1)) hx hb hK hP 1 0 rfl rfl rfl (by omega) (by decide) t2_x dX4_send_32 ?_
    refine lv_bipush (v := 12) hx hb dX4_send_33 (by decide) ?_
    refine lv_icmp_ge (tgt := 123) hx hb dX4_send_35 (by decide) (fun c_4 => ?_) (fun c_4 => ?_)
    · have c_4 := (nI_leI (a := 12) (b := QX.1) (by omega) (by omega)).mp c_4
      refine W.widen (k := 0) (n := 0) (by omega) (by omega) ?_
      exact W.vret hx hb hr (fun t ht hW => ⟨⟨(QX, QY, (upd mm 5 ((mm 5) + 1))), rfl, ⟨by simp only [sq, if_neg c_1, show push (pk kd nb mk sn) QX = QX from push_n (by omega)], by simp only [sq, if_neg c_1, show push (pk kd nb mk sn) QX = QX from push_n (by omega)], rfl⟩, ⟨by rw [ht]; exact hP, by rw [hAe]; exact hD⟩⟩, hS.F ht⟩) hS.2.2 dX4_send_123
    · have c_4 := mt (nI_leI (a := 12) (b := QX.1) (by omega) (by omega)).mpr c_4
      refine lv_bipush (v := 12) hx hb dX4_send_38 (by decide) ?_
      refine lv_iload hx hb dX4_send_40 (lv_at hl 0 rfl) ?_
      refine lv_imul hx hb dX4_send_42 ?_
      refine z_top (y := (nI (12 * ix))) (z_mul 12 ix) ?_
      refine lv_aload_n hx hb dX4_send_43 rfl (lv_at hl 1 rfl) ?_
      refine va_get (D := D) (ci := 6) (v := .ref (b 16)) (C := RX4) (T := TX4) (N := 29) hx hb hts (fun _ h => List.mem_cons_of_mem _ (List.mem_append_right _ (h))) hown hK hP 0 rfl rfl 17 (by decide) (hts (.fieldLink RX4 56 "OptionWireModel" "many" "[I") (List.mem_of_getElem? (i := 3) rfl)) (fun _ h9 => h9) rfl dX4_send_44 ?_
      refine lv_iload hx hb dX4_send_47 (lv_at hl 0 rfl) ?_
      refine z_iald (k := ix) (v := (nI QX.1)) hx hb hK hP 1 0 rfl rfl rfl (by omega) (by decide) t2_x dX4_send_49 ?_
      refine lv_iadd hx hb dX4_send_50 ?_
      refine z_top (y := (nI (12 * ix + QX.1))) (z_add (12 * ix) QX.1) ?_
      refine lv_istore (lv' := [(6, .int (nI (12 * ix + QX.1))), (5, .int (nI ix)), (0, .ref (b 0)), (1, .int (nI ix)), (2, .int kd), (3, .int nb), (4, .int mk)]) hx hb dX4_send_51 hl (by decide) rfl (fun ls hl => ?_)
      refine lv_aload_n hx hb dX4_send_53 rfl (lv_at hl 2 rfl) ?_
      refine va_get (D := D) (ci := 6) (v := .ref (b 17)) (C := RX4) (T := TX4) (N := 29) hx hb hts (fun _ h => List.mem_cons_of_mem _ (List.mem_append_right _ (h))) hown hK hP 0 rfl rfl 18 (by decide) (hts (.fieldLink RX4 59 "OptionWireModel" "kind" "[I") (List.mem_of_getElem? (i := 4) rfl)) (fun _ h9 => h9) rfl dX4_send_54 ?_
      refine lv_iload hx hb dX4_send_57 (lv_at hl 0 rfl) ?_
      refine lv_iload_n hx hb dX4_send_59 rfl (lv_at hl 4 rfl) ?_
      refine z_iast (k := (12 * ix + QX.1)) hx hb hK hP hD hS 2 0 rfl rfl rfl (by omega) (by decide) dX4_send_60 (fun H locs hP hD hS => ?_)
      have hP : va_P D vwCl [cM b (upd mm 5 ((mm 5) + 1)), (b 16, .inl (cA 0, 2, .inl (t2 ix (nI QX.1) (nI QY.1)))), (b 17, .inl (cA 0, 24, .inl (upd (bk 12 ix (qc QX 0) (qc QY 0)) (12 * ix + QX.1) kd))), (b 18, .inl (cA 0, 24, .inl (bk 12 ix (qc QX 1) (qc QY 1)))), (b 19, .inl (cA 0, 24, .inl (bk 12 ix (qc QX 2) (qc QY 2)))), (b 20, .inl (cA 0, 96, .inl (bk 48 ix (qw QX) (qw QY)))), (b 22, .inl (cA 0, 4, .inl sn))] H := hP
      have hD : va_D A [cM b (upd mm 5 ((mm 5) + 1)), (b 16, .inl (cA 0, 2, .inl (t2 ix (nI QX.1) (nI QY.1)))), (b 17, .inl (cA 0, 24, .inl (upd (bk 12 ix (qc QX 0) (qc QY 0)) (12 * ix + QX.1) kd))), (b 18, .inl (cA 0, 24, .inl (bk 12 ix (qc QX 1) (qc QY 1)))), (b 19, .inl (cA 0, 24, .inl (bk 12 ix (qc QX 2) (qc QY 2)))), (b 20, .inl (cA 0, 96, .inl (bk 48 ix (qw QX) (qw QY)))), (b 22, .inl (cA 0, 4, .inl sn))] := hD
      rw [show upd (bk 12 ix (qc QX 0) (qc QY 0)) (12 * ix + QX.1) kd = bk 12 ix (upd (qc QX 0) QX.1 kd) (qc QY 0) from (bk_ux (by omega))] at hP hD
      refine lv_aload_n hx hb dX4_send_61 rfl (lv_at hl 2 rfl) ?_
      refine va_get (D := D) (ci := 6) (v := .ref (b 18)) (C := RX4) (T := TX4) (N := 29) hx hb hts (fun _ h => List.mem_cons_of_mem _ (List.mem_append_right _ (h))) hown hK hP 0 rfl rfl 19 (by decide) (hts (.fieldLink RX4 62 "OptionWireModel" "number" "[I") (List.mem_of_getElem? (i := 5) rfl)) (fun _ h9 => h9) rfl dX4_send_62 ?_
      refine lv_iload hx hb dX4_send_65 (lv_at hl 0 rfl) ?_
      refine lv_iload_n hx hb dX4_send_67 rfl (lv_at hl 5 rfl) ?_
      refine z_iast (k := (12 * ix + QX.1)) hx hb hK hP hD hS 3 0 rfl rfl rfl (by omega) (by decide) dX4_send_68 (fun H locs hP hD hS => ?_)
      have hP : va_P D vwCl [cM b (upd mm 5 ((mm 5) + 1)), (b 16, .inl (cA 0, 2, .inl (t2 ix (nI QX.1) (nI QY.1)))), (b 17, .inl (cA 0, 24, .inl (bk 12 ix (upd (qc QX 0) QX.1 kd) (qc QY 0)))), (b 18, .inl (cA 0, 24, .inl (upd (bk 12 ix (qc QX 1) (qc QY 1)) (12 * ix + QX.1) nb))), (b 19, .inl (cA 0, 24, .inl (bk 12 ix (qc QX 2) (qc QY 2)))), (b 20, .inl (cA 0, 96, .inl (bk 48 ix (qw QX) (qw QY)))), (b 22, .inl (cA 0, 4, .inl sn))] H := hP
      have hD : va_D A [cM b (upd mm 5 ((mm 5) + 1)), (b 16, .inl (cA 0, 2, .inl (t2 ix (nI QX.1) (nI QY.1)))), (b 17, .inl (cA 0, 24, .inl (bk 12 ix (upd (qc QX 0) QX.1 kd) (qc QY 0)))), (b 18, .inl (cA 0, 24, .inl (upd (bk 12 ix (qc QX 1) (qc QY 1)) (12 * ix + QX.1) nb))), (b 19, .inl (cA 0, 24, .inl (bk 12 ix (qc QX 2) (qc QY 2)))), (b 20, .inl (cA 0, 96, .inl (bk 48 ix (qw QX) (qw QY)))), (b 22, .inl (cA 0, 4, .inl sn))] := hD
      rw [show upd (bk 12 ix (qc QX 1) (qc QY 1)) (12 * ix + QX.1) nb = bk 12 ix (upd (qc QX 1) QX.1 nb) (qc QY 1) from (bk_ux (by omega))] at hP hD
      refine lv_aload_n hx hb dX4_send_69 rfl (lv_at hl 2 rfl) ?_
      refine va_get (D := D) (ci := 6) (v := .ref (b 19)) (C := RX4) (T := TX4) (N := 29) hx hb hts (fun _ h => List.mem_cons_of_mem _ (List.mem_append_right _ (h))) hown hK hP 0 rfl rfl 20 (by decide) (hts (.fieldLink RX4 65 "OptionWireModel" "mark" "[I") (List.mem_of_getElem? (i := 6) rfl)) (fun _ h9 => h9) rfl dX4_send_70 ?_
      refine lv_iload hx hb dX4_send_73 (lv_at hl 0 rfl) ?_
      refine lv_iload hx hb dX4_send_75 (lv_at hl 6 rfl) ?_
      refine z_iast (k := (12 * ix + QX.1)) hx hb hK hP hD hS 4 0 rfl rfl rfl (by omega) (by decide) dX4_send_77 (fun H locs hP hD hS => ?_)
      have hP : va_P D vwCl [cM b (upd mm 5 ((mm 5) + 1)), (b 16, .inl (cA 0, 2, .inl (t2 ix (nI QX.1) (nI QY.1)))), (b 17, .inl (cA 0, 24, .inl (bk 12 ix (upd (qc QX 0) QX.1 kd) (qc QY 0)))), (b 18, .inl (cA 0, 24, .inl (bk 12 ix (upd (qc QX 1) QX.1 nb) (qc QY 1)))), (b 19, .inl (cA 0, 24, .inl (upd (bk 12 ix (qc QX 2) (qc QY 2)) (12 * ix + QX.1) mk))), (b 20, .inl (cA 0, 96, .inl (bk 48 ix (qw QX) (qw QY)))), (b 22, .inl (cA 0, 4, .inl sn))] H := hP
      have hD : va_D A [cM b (upd mm 5 ((mm 5) + 1)), (b 16, .inl (cA 0, 2, .inl (t2 ix (nI QX.1) (nI QY.1)))), (b 17, .inl (cA 0, 24, .inl (bk 12 ix (upd (qc QX 0) QX.1 kd) (qc QY 0)))), (b 18, .inl (cA 0, 24, .inl (bk 12 ix (upd (qc QX 1) QX.1 nb) (qc QY 1)))), (b 19, .inl (cA 0, 24, .inl (upd (bk 12 ix (qc QX 2) (qc QY 2)) (12 * ix + QX.1) mk))), (b 20, .inl (cA 0, 96, .inl (bk 48 ix (qw QX) (qw QY)))), (b 22, .inl (cA 0, 4, .inl sn))] := hD
      rw [show upd (bk 12 ix (qc QX 2) (qc QY 2)) (12 * ix + QX.1) mk = bk 12 ix (upd (qc QX 2) QX.1 mk) (qc QY 2) from (bk_ux (by omega))] at hP hD
      refine lv_iconst (v := 0) hx hb dX4_send_78 (by decide) ?_
      refine lv_istore (lv' := [(7, .int 0), (6, .int (nI (12 * ix + QX.1))), (5, .int (nI ix)), (0, .ref (b 0)), (1, .int (nI ix)), (2, .int kd), (3, .int nb), (4, .int mk)]) hx hb dX4_send_79 hl (by decide) rfl (fun ls hl => ?_)
      -- the loop at 81
      have hP : va_P D vwCl [cM b (upd mm 5 ((mm 5) + 1)), (b 16, .inl (cA 0, 2, .inl (t2 ix (nI QX.1) (nI QY.1)))), (b 17, .inl (cA 0, 24, .inl (bk 12 ix (upd (qc QX 0) QX.1 kd) (qc QY 0)))), (b 18, .inl (cA 0, 24, .inl (bk 12 ix (upd (qc QX 1) QX.1 nb) (qc QY 1)))), (b 19, .inl (cA 0, 24, .inl (bk 12 ix (upd (qc QX 2) QX.1 mk) (qc QY 2)))), (b 20, .inl (cA 0, 96, .inl (bk 48 ix (bput 0 (qw QX) QX.1 sn) (qw QY)))), (b 22, .inl (cA 0, 4, .inl sn))] H := z_row hP 5 rfl (fun k _ => congrFun (show bk 48 ix (qw QX) (qw QY) = bk 48 ix (bput 0 (qw QX) QX.1 sn) (qw QY) from (bk_cx bput_0)) k)
      have hD : va_D A [cM b (upd mm 5 ((mm 5) + 1)), (b 16, .inl (cA 0, 2, .inl (t2 ix (nI QX.1) (nI QY.1)))), (b 17, .inl (cA 0, 24, .inl (bk 12 ix (upd (qc QX 0) QX.1 kd) (qc QY 0)))), (b 18, .inl (cA 0, 24, .inl (bk 12 ix (upd (qc QX 1) QX.1 nb) (qc QY 1)))), (b 19, .inl (cA 0, 24, .inl (bk 12 ix (upd (qc QX 2) QX.1 mk) (qc QY 2)))), (b 20, .inl (cA 0, 96, .inl (bk 48 ix (bput 0 (qw QX) QX.1 sn) (qw QY)))), (b 22, .inl (cA 0, 4, .inl sn))] := hD.set (p := 5) rfl
      refine z_loop (Inv := fun j H locs ls => va_P D vwCl [cM b (upd mm 5 ((mm 5) + 1)), (b 16, .inl (cA 0, 2, .inl (t2 ix (nI QX.1) (nI QY.1)))), (b 17, .inl (cA 0, 24, .inl (bk 12 ix (upd (qc QX 0) QX.1 kd) (qc QY 0)))), (b 18, .inl (cA 0, 24, .inl (bk 12 ix (upd (qc QX 1) QX.1 nb) (qc QY 1)))), (b 19, .inl (cA 0, 24, .inl (bk 12 ix (upd (qc QX 2) QX.1 mk) (qc QY 2)))), (b 20, .inl (cA 0, 96, .inl (bk 48 ix (bput j (qw QX) QX.1 sn) (qw QY)))), (b 22, .inl (cA 0, 4, .inl sn))] H ∧ va_D A [cM b (upd mm 5 ((mm 5) + 1)), (b 16, .inl (cA 0, 2, .inl (t2 ix (nI QX.1) (nI QY.1)))), (b 17, .inl (cA 0, 24, .inl (bk 12 ix (upd (qc QX 0) QX.1 kd) (qc QY 0)))), (b 18, .inl (cA 0, 24, .inl (bk 12 ix (upd (qc QX 1) QX.1 nb) (qc QY 1)))), (b 19, .inl (cA 0, 24, .inl (bk 12 ix (upd (qc QX 2) QX.1 mk) (qc QY 2)))), (b 20, .inl (cA 0, 96, .inl (bk 48 ix (bput j (qw QX) QX.1 sn) (qw QY)))), (b 22, .inl (cA 0, 4, .inl sn))] ∧ va_S A s.heap H locs ∧ lv_has ls 8 [(7, .int (nI j)), (6, .int (nI (12 * ix + QX.1))), (5, .int (nI ix)), (0, .ref (b 0)), (1, .int (nI ix)), (2, .int kd), (3, .int nb), (4, .int mk)]) 4 (fun j hj_j ih_j H locs ls hI => ?_) ⟨hP, hD, hS, lv_sub hl [0, 1, 2, 3, 4, 5, 6, 7] rfl⟩
      obtain ⟨hP, hD, hS, hl⟩ := hI
      refine lv_iload hx hb dX4_send_81 (lv_at hl 0 rfl) ?_
      refine lv_iconst (v := 4) hx hb dX4_send_83 (by decide) ?_
      refine lv_icmp_ge (tgt := 112) hx hb dX4_send_84 (by decide) (fun c_5 => ?_) (fun c_5 => ?_)
      · have c_5 := (nI_leI (a := 4) (b := j) (by omega) (by omega)).mp c_5
        obtain rfl : j = 4 := by omega
        refine lv_aload_n hx hb dX4_send_112 rfl (lv_at hl 3 rfl) ?_
        refine va_get (D := D) (ci := 6) (v := .ref (b 16)) (C := RX4) (T := TX4) (N := 29) hx hb hts (fun _ h => List.mem_cons_of_mem _ (List.mem_append_right _ (h))) hown hK hP 0 rfl rfl 17 (by decide) (hts (.fieldLink RX4 56 "OptionWireModel" "many" "[I") (List.mem_of_getElem? (i := 3) rfl)) (fun _ h9 => h9) rfl dX4_send_113 ?_
        refine lv_iload hx hb dX4_send_116 (lv_at hl 2 rfl) ?_
        refine lv_dup2_11 hx hb dX4_send_118 rfl rfl ?_
        refine z_iald (k := ix) (v := (nI QX.1)) hx hb hK hP 1 0 rfl rfl rfl (by omega) (by decide) t2_x dX4_send_119 ?_
        refine lv_iconst (v := 1) hx hb dX4_send_120 (by decide) ?_
        refine lv_iadd hx hb dX4_send_121 ?_
        refine z_top (y := (nI (QX.1 + 1))) (z_add QX.1 1) ?_
        refine z_iast (k := ix) hx hb hK hP hD hS 1 0 rfl rfl rfl (by omega) (by decide) dX4_send_122 (fun H locs hP hD hS => ?_)
        have hP : va_P D vwCl [cM b (upd mm 5 ((mm 5) + 1)), (b 16, .inl (cA 0, 2, .inl (upd (t2 ix (nI QX.1) (nI QY.1)) ix (nI (QX.1 + 1))))), (b 17, .inl (cA 0, 24, .inl (bk 12 ix (upd (qc QX 0) QX.1 kd) (qc QY 0)))), (b 18, .inl (cA 0, 24, .inl (bk 12 ix (upd (qc QX 1) QX.1 nb) (qc QY 1)))), (b 19, .inl (cA 0, 24, .inl (bk 12 ix (upd (qc QX 2) QX.1 mk) (qc QY 2)))), (b 20, .inl (cA 0, 96, .inl (bk 48 ix (bput 4 (qw QX) QX.1 sn) (qw QY)))), (b 22, .inl (cA 0, 4, .inl sn))] H := hP
        have hD : va_D A [cM b (upd mm 5 ((mm 5) + 1)), (b 16, .inl (cA 0, 2, .inl (upd (t2 ix (nI QX.1) (nI QY.1)) ix (nI (QX.1 + 1))))), (b 17, .inl (cA 0, 24, .inl (bk 12 ix (upd (qc QX 0) QX.1 kd) (qc QY 0)))), (b 18, .inl (cA 0, 24, .inl (bk 12 ix (upd (qc QX 1) QX.1 nb) (qc QY 1)))), (b 19, .inl (cA 0, 24, .inl (bk 12 ix (upd (qc QX 2) QX.1 mk) (qc QY 2)))), (b 20, .inl (cA 0, 96, .inl (bk 48 ix (bput 4 (qw QX) QX.1 sn) (qw QY)))), (b 22, .inl (cA 0, 4, .inl sn))] := hD
        rw [show upd (t2 ix (nI QX.1) (nI QY.1)) ix (nI (QX.1 + 1)) = t2 ix (nI (QX.1 + 1)) (nI QY.1) from t2_ux] at hP hD
        have hlt : QX.1 < 12 := by omega
        rw [show t2 ix (nI (QX.1 + 1)) (nI QY.1) = t2 ix (nI (push (pk kd nb mk sn) QX).1) (nI QY.1) from (by rw [push_y hlt])] at hP hD
        rw [show bk 12 ix (upd (qc QX 0) QX.1 kd) (qc QY 0) = bk 12 ix (qc (push (pk kd nb mk sn) QX) 0) (qc QY 0) from (bk_cx (qc_push0 hlt))] at hP hD
        rw [show bk 12 ix (upd (qc QX 1) QX.1 nb) (qc QY 1) = bk 12 ix (qc (push (pk kd nb mk sn) QX) 1) (qc QY 1) from (bk_cx (qc_push1 hlt))] at hP hD
        rw [show bk 12 ix (upd (qc QX 2) QX.1 mk) (qc QY 2) = bk 12 ix (qc (push (pk kd nb mk sn) QX) 2) (qc QY 2) from (bk_cx (qc_push2 hlt))] at hP hD
        rw [show bk 48 ix (bput 4 (qw QX) QX.1 sn) (qw QY) = bk 48 ix (qw (push (pk kd nb mk sn) QX)) (qw QY) from (bk_cx (qw_push hlt))] at hP hD
        refine W.widen (k := 0) (n := 0) (by omega) (by omega) ?_
        exact W.vret hx hb hr (fun t ht hW => ⟨⟨((push (pk kd nb mk sn) QX), QY, (upd mm 5 ((mm 5) + 1))), rfl, ⟨by simp only [sq, if_neg c_1], by simp only [sq, if_neg c_1], rfl⟩, ⟨by rw [ht]; exact hP, by rw [hAe]; exact hD⟩⟩, hS.F ht⟩) hS.2.2 dX4_send_123
      · have c_5 := mt (nI_leI (a := 4) (b := j) (by omega) (by omega)).mpr c_5
        refine lv_aload_n hx hb dX4_send_87 rfl (lv_at hl 3 rfl) ?_
        refine va_get (D := D) (ci := 6) (v := .ref (b 20)) (C := RX4) (T := TX4) (N := 29) hx hb hts (fun _ h => List.mem_cons_of_mem _ (List.mem_append_right _ (h))) hown hK hP 0 rfl rfl 21 (by decide) (hts (.fieldLink RX4 68 "OptionWireModel" "values" "[I") (List.mem_of_getElem? (i := 7) rfl)) (fun _ h9 => h9) rfl dX4_send_88 ?_
        refine lv_iconst (v := 4) hx hb dX4_send_91 (by decide) ?_
        refine lv_iload hx hb dX4_send_92 (lv_at hl 1 rfl) ?_
        refine lv_imul hx hb dX4_send_94 ?_
        refine z_top (y := (nI (4 * (12 * ix + QX.1)))) (z_mul 4 (12 * ix + QX.1)) ?_
        refine lv_iload hx hb dX4_send_95 (lv_at hl 0 rfl) ?_
        refine lv_iadd hx hb dX4_send_97 ?_
        refine z_top (y := (nI (4 * (12 * ix + QX.1) + j))) (z_add (4 * (12 * ix + QX.1)) j) ?_
        refine lv_aload_n hx hb dX4_send_98 rfl (lv_at hl 3 rfl) ?_
        refine va_get (D := D) (ci := 6) (v := .ref (b 22)) (C := RX4) (T := TX4) (N := 29) hx hb hts (fun _ h => List.mem_cons_of_mem _ (List.mem_append_right _ (h))) hown hK hP 0 rfl rfl 26 (by decide) (hts (.fieldLink RX4 74 "OptionWireModel" "sends" "[I") (List.mem_of_getElem? (i := 8) rfl)) (fun _ h9 => h9) rfl dX4_send_99 ?_
        refine lv_iload hx hb dX4_send_102 (lv_at hl 0 rfl) ?_
        refine z_iald (k := j) (v := (sn j)) hx hb hK hP 6 0 rfl rfl rfl (by omega) (by decide) rfl dX4_send_104 ?_
        refine z_iast (k := (48 * ix + (QX.1 * 4 + j))) hx hb hK hP hD hS 5 0 rfl rfl (show nI (4 * (12 * ix + QX.1) + j) = nI (48 * ix + (QX.1 * 4 + j)) from congrArg nI (by omega)) (by omega) (by decide) dX4_send_105 (fun H locs hP hD hS => ?_)
        have hP : va_P D vwCl [cM b (upd mm 5 ((mm 5) + 1)), (b 16, .inl (cA 0, 2, .inl (t2 ix (nI QX.1) (nI QY.1)))), (b 17, .inl (cA 0, 24, .inl (bk 12 ix (upd (qc QX 0) QX.1 kd) (qc QY 0)))), (b 18, .inl (cA 0, 24, .inl (bk 12 ix (upd (qc QX 1) QX.1 nb) (qc QY 1)))), (b 19, .inl (cA 0, 24, .inl (bk 12 ix (upd (qc QX 2) QX.1 mk) (qc QY 2)))), (b 20, .inl (cA 0, 96, .inl (upd (bk 48 ix (bput j (qw QX) QX.1 sn) (qw QY)) (48 * ix + (QX.1 * 4 + j)) (sn j)))), (b 22, .inl (cA 0, 4, .inl sn))] H := hP
        have hD : va_D A [cM b (upd mm 5 ((mm 5) + 1)), (b 16, .inl (cA 0, 2, .inl (t2 ix (nI QX.1) (nI QY.1)))), (b 17, .inl (cA 0, 24, .inl (bk 12 ix (upd (qc QX 0) QX.1 kd) (qc QY 0)))), (b 18, .inl (cA 0, 24, .inl (bk 12 ix (upd (qc QX 1) QX.1 nb) (qc QY 1)))), (b 19, .inl (cA 0, 24, .inl (bk 12 ix (upd (qc QX 2) QX.1 mk) (qc QY 2)))), (b 20, .inl (cA 0, 96, .inl (upd (bk 48 ix (bput j (qw QX) QX.1 sn) (qw QY)) (48 * ix + (QX.1 * 4 + j)) (sn j)))), (b 22, .inl (cA 0, 4, .inl sn))] := hD
        rw [show upd (bk 48 ix (bput j (qw QX) QX.1 sn) (qw QY)) (48 * ix + (QX.1 * 4 + j)) (sn j) = bk 48 ix (upd (bput j (qw QX) QX.1 sn) (QX.1 * 4 + j) (sn j)) (qw QY) from (bk_ux (by omega))] at hP hD
        refine lv_iinc (v := nI (j + 1)) (lv' := [(7, .int (nI (j + 1))), (6, .int (nI (12 * ix + QX.1))), (5, .int (nI ix)), (0, .ref (b 0)), (1, .int (nI ix)), (2, .int kd), (3, .int nb), (4, .int mk)]) hx hb dX4_send_106 hl (k := 0) rfl (z_inc j 1) (by decide) rfl (fun ls hl => ?_)
        refine lv_goto (tgt := 81) hx hb dX4_send_109 (by decide) ?_
        have hP : va_P D vwCl [cM b (upd mm 5 ((mm 5) + 1)), (b 16, .inl (cA 0, 2, .inl (t2 ix (nI QX.1) (nI QY.1)))), (b 17, .inl (cA 0, 24, .inl (bk 12 ix (upd (qc QX 0) QX.1 kd) (qc QY 0)))), (b 18, .inl (cA 0, 24, .inl (bk 12 ix (upd (qc QX 1) QX.1 nb) (qc QY 1)))), (b 19, .inl (cA 0, 24, .inl (bk 12 ix (upd (qc QX 2) QX.1 mk) (qc QY 2)))), (b 20, .inl (cA 0, 96, .inl (bk 48 ix (bput (j + 1) (qw QX) QX.1 sn) (qw QY)))), (b 22, .inl (cA 0, 4, .inl sn))] H := z_row hP 5 rfl (fun k _ => congrFun (show bk 48 ix (upd (bput j (qw QX) QX.1 sn) (QX.1 * 4 + j) (sn j)) (qw QY) = bk 48 ix (bput (j + 1) (qw QX) QX.1 sn) (qw QY) from (bk_cx (bput_s rfl))) k)
        have hD : va_D A [cM b (upd mm 5 ((mm 5) + 1)), (b 16, .inl (cA 0, 2, .inl (t2 ix (nI QX.1) (nI QY.1)))), (b 17, .inl (cA 0, 24, .inl (bk 12 ix (upd (qc QX 0) QX.1 kd) (qc QY 0)))), (b 18, .inl (cA 0, 24, .inl (bk 12 ix (upd (qc QX 1) QX.1 nb) (qc QY 1)))), (b 19, .inl (cA 0, 24, .inl (bk 12 ix (upd (qc QX 2) QX.1 mk) (qc QY 2)))), (b 20, .inl (cA 0, 96, .inl (bk 48 ix (bput (j + 1) (qw QX) QX.1 sn) (qw QY)))), (b 22, .inl (cA 0, 4, .inl sn))] := hD.set (p := 5) rfl
        exact ih_j _ _ _ (by omega) ⟨hP, hD, hS, lv_sub hl [0, 1, 2, 3, 4, 5, 6, 7] rfl⟩
