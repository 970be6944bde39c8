theorem lnT_mono {k : Nat} {f : Nat → Int32} {i j : Nat} (h : i ≤ j) : (lnT k f i).length ≤ (lnT k f j).length := by
  induction j with
  | zero => rw [show i = 0 by omega]; exact Nat.le_refl _
  | succ j ih =>
    rcases Nat.eq_or_lt_of_le h with e | e
    · rw [e]; exact Nat.le_refl _
    · have := ih (by omega)
      show _ ≤ (lnT k f j ++ lnO j (f j)).length
      rw [List.length_append]; omega
set_option maxHeartbeats 4000000 in
set_option maxRecDepth 100000 in
theorem c_n_ac5 (l : Launch) (D : va_G) (cA : Nat → ClassId) (zv : Nat → Nat) (sz : Nat) (sb vb : Nat) (ml : Int32) (ct n : Nat) (g : Nat → Int32) (q : Int32) (hn : n = 16 ∨ n = 34) (hct : ct ≤ n) (hfb : bfit n g) (hr34 : ct + 1 ≤ n) (h0 : ¬ q < 0) (h127 : q ≤ 127) : Met l yJ5_append_3fe6f wsJ5_append_3fe6f ({ frames := 1, cells := 0, slots := 0, locals := 22 }) (va_Pc [.ref sb, .int q] (zUX D cA zv sz [(sb, .inr (0, [.ref vb, .int 0, .int ml, .int (nI ct)])), (vb, .inl (cA 2, n, .inl g))])) (va_Qr (fun (u : (Nat → Int32)) => apd n u g ct [q]) (fun (u : (Nat → Int32)) ra t => ra = sb ∧ zB D [(sb, .inr (0, [.ref vb, .int 0, .int ml, .int (nI ct)])), (vb, .inl (cA 2, n, .inl g))] sz [(sb, .inr (0, [.ref vb, .int 0, .int ml, .int (nI (ct + 1))])), (vb, .inl (cA 2, n, .inl u))] t) (va_A [(sb, .inr (0, [.ref vb, .int 0, .int ml, .int (nI ct)])), (vb, .inl (cA 2, n, .inl g))] sz)) 0 0 (va_A [(sb, .inr (0, [.ref vb, .int 0, .int ml, .int (nI ct)])), (vb, .inl (cA 2, n, .inl g))] sz) := by
  refine Met.ofW (cc := cJ5_append_3fe6f) (maxL := 2) (ret := (some (.object "java/lang/AbstractStringBuilder"))) (by decide) rfl ?_
  intro p e s m args below meth c s₁ B hml hv
  obtain ⟨rfl, ⟨hsz, hP, hK, hD0, hE0⟩, hX0⟩ := hv
  have hx := B.exec
  have hb := B.bytes
  have hr := B.returns
  have hts := atoms_spec (ws := wsJ5_append_3fe6f) B.pre
  have hown : s.vm.findClass RJ5 = some m.cls := findClass_of_methodNamed B.named
  have hlocks := B.notSynchronized
  subst hsz
  have hD := hD0.self (sz := s.heap.size)
  generalize hAe : va_A [(sb, .inr (0, [.ref vb, .int 0, .int ml, .int (nI ct)])), (vb, .inl (cA 2, n, .inl g))] s.heap.size = A at hD hE0 hX0 ⊢
  have hA : ∀ q : Nat, s.heap.size ≤ q → A q := fun q h => by rw [← hAe]; exact Or.inr h
  have hS : va_S A s.heap s.heap [] := va_S.rf
  have hl := lv_entry ([.ref sb, .int q]) (n := 2) (Nat.le_of_ble_eq_true rfl)
  rw [lg_entry_eq]
  generalize (lg_sl ([.ref sb, .int q]) ++ List.replicate (2 - (lg_sl ([.ref sb, .int q])).length) Slot.unset).toArray = ls at hl ⊢
  have hl : lv_has ls 2 [(0, .ref sb), (1, .int q)] := hl
  have hn34 : n ≤ 34 := by omega
  refine lv_aload_n hx hb dJ5_append_3fe6f_0 rfl (lv_at hl 0 rfl) ?_
  refine lv_aload_n hx hb dJ5_append_3fe6f_1 rfl (lv_at hl 0 rfl) ?_
  refine va_get (D := D) (ci := 0) (v := .int (nI ct)) (C := RJ4) (T := TJ4) (N := 4) hx hb hts (fun _ h => List.mem_cons_of_mem _ (List.mem_append_right _ (h))) hown hK hP 0 rfl rfl 3 (by decide) (hts (.fieldLink RJ5 79 "java/lang/AbstractStringBuilder" "count" "I") (List.mem_of_getElem? (i := 1) rfl)) (fun _ h9 => h9) rfl dJ5_append_3fe6f_2 ?_
  refine lv_iconst (v := 1) hx hb dJ5_append_3fe6f_5 (by decide) ?_
  refine lv_iadd hx hb dJ5_append_3fe6f_6 ?_
  refine z_top (y := (nI (ct + 1))) (z_add ct 1) ?_
  have hPc := hP.sub (ws' := [(sb, .inr (0, [.ref vb, .int 0, .int ml, .int (nI ct)])), (vb, .inl (cA 2, n, .inl g))]) [0, 1] rfl
  have hDc := hD.sub (ws' := [(sb, .inr (0, [.ref vb, .int 0, .int ml, .int (nI ct)])), (vb, .inl (cA 2, n, .inl g))]) [0, 1] (by decide) rfl
  have hFc := va_free (wc := [(sb, .inr (0, [.ref vb, .int 0, .int ml, .int (nI ct)])), (vb, .inl (cA 2, n, .inl g))]) hD hS hA [0, 1] rfl
  refine va_callv (va_runU (As := [.int (nI (ct + 1))]) (rest := []) ⟨hx, hb, hml, hown, hts⟩ (c_ens_k l D cA s.heap.size sb vb ml ct n g (ct + 1) (by omega) (by omega) (by omega)) (va_cwU 1 hts gJ5_append_3fe6f_J5_ensureCapacityInternal_d00df_u100J4 rfl rfl rfl rfl (by decide +kernel) ⟨Nat.le_of_ble_eq_true rfl, Nat.le_of_ble_eq_true rfl⟩) ⟨zU_blind, va_recv hK hPc (ci := 0) (q0 := 0) rfl rfl, fun U hU hW => ⟨rfl, zU_call hU hPc hW.alike hK hDc⟩⟩ rfl rfl hl.1 rfl (lv_room (Nat.le_of_ble_eq_true rfl)) dJ5_append_3fe6f_7 ⟨(Nat.zero_le _), (Nat.zero_le _)⟩) hS (fun q _ h => hFc q h) hFc (fun u t H1 locs ht hvm hw hB hz1 hk1 hS => ?_)
  obtain ⟨hP1, hD1⟩ := hB
  rw [ht] at hP1
  obtain ⟨hP, hD⟩ := va_join (wr := []) (w1 := [(sb, .inr (0, [.ref vb, .int 0, .int ml, .int (nI ct)])), (vb, .inl (cA 2, n, .inl g))]) hP hD [0, 1] [] rfl rfl (by decide) (by decide) hk1 hFc hP1 hD1
  generalize H1 = H at hP hS ⊢
  have hP := hP.sub (ws' := [(sb, .inr (0, [.ref vb, .int 0, .int ml, .int (nI ct)])), (vb, .inl (cA 2, n, .inl g))]) [0, 1] rfl
  have hD := hD.sub (ws' := [(sb, .inr (0, [.ref vb, .int 0, .int ml, .int (nI ct)])), (vb, .inl (cA 2, n, .inl g))]) [0, 1] (by decide) rfl
  clear hPc hDc hFc hP1 hD1 hk1 hz1
  have hw_1 := hw
  refine lv_aload_n hx hb dJ5_append_3fe6f_10 rfl (lv_at hl 0 rfl) ?_
  have hPc := hP.sub (ws' := [(sb, .inr (0, [.ref vb, .int 0, .int ml, .int (nI ct)]))]) [0] rfl
  have hDc := hD.sub (ws' := [(sb, .inr (0, [.ref vb, .int 0, .int ml, .int (nI ct)]))]) [0] (by decide) rfl
  have hFc := va_free (wc := [(sb, .inr (0, [.ref vb, .int 0, .int ml, .int (nI ct)]))]) hD hS hA [0] rfl
  refine va_calli (va_runU (As := []) (rest := []) ⟨hx, hb, hml, hown, hts⟩ (c_J5_isLatin1_aae02 l D cA zv H.size sb vb ml ct) (va_cwU 0 hts gJ5_append_3fe6f_J5_isLatin1_aae02_u83J4 rfl rfl rfl rfl (by decide +kernel) ⟨Nat.le_of_ble_eq_true rfl, Nat.le_of_ble_eq_true rfl⟩) ⟨zUX_blind, va_recv hK hPc (ci := 0) (q0 := 0) rfl rfl, fun U hU hW => ⟨rfl, zUX_call hE0 hX0 hS hFc hU hPc hW hK hDc⟩⟩ rfl rfl hl.1 rfl (lv_room (Nat.le_of_ble_eq_true rfl)) dJ5_append_3fe6f_11 ⟨(Nat.zero_le _), (Nat.zero_le _)⟩) hS (fun q _ h => hFc q h) hFc (fun zr u t H1 locs ht hvm hw hB hz1 hk1 hS => ?_)
  obtain ⟨hP1, hD1⟩ := hB
  rw [ht] at hP1
  obtain ⟨hP, hD⟩ := va_join (wr := [(vb, .inl (cA 2, n, .inl g))]) (w1 := [(sb, .inr (0, [.ref vb, .int 0, .int ml, .int (nI ct)]))]) hP hD [0] [1] rfl rfl (by decide) (by decide) hk1 hFc hP1 hD1
  generalize H1 = H at hP hS ⊢
  have hP := hP.sub (ws' := [(sb, .inr (0, [.ref vb, .int 0, .int ml, .int (nI ct)])), (vb, .inl (cA 2, n, .inl g))]) [1, 0] rfl
  have hD := hD.sub (ws' := [(sb, .inr (0, [.ref vb, .int 0, .int ml, .int (nI ct)])), (vb, .inl (cA 2, n, .inl g))]) [1, 0] (by decide) rfl
  clear hPc hDc hFc hP1 hD1 hk1 hz1
  have hw_2 := hw
  obtain rfl := hw
  refine lv_if_eq (tgt := 45) hx hb dJ5_append_3fe6f_14 (by decide) (fun c_3 => absurd c_3 (by decide)) (fun _ => ?_)
  refine lv_iload_n hx hb dJ5_append_3fe6f_17 rfl (lv_at hl 1 rfl) ?_
  have hPc := hP.sub (ws' := []) [] rfl
  have hDc := hD.sub (ws' := []) [] (by decide) rfl
  have hFc := va_free (wc := []) hD hS hA [] rfl
  refine va_calli (va_runS (As := [.int q]) (rest := []) ⟨hx, hb, hml, hown, hts⟩ (c_J1_canEncode_fc78d l D cA H.size q h127) (va_cwS 1 hts gJ5_append_3fe6f_J1_canEncode_fc78d rfl rfl rfl (by decide +kernel) ⟨Nat.le_of_ble_eq_true rfl, Nat.le_of_ble_eq_true rfl⟩) ⟨zU_blind, fun U hU hW => ⟨rfl, zU_call hU hPc hW.alike hK hDc⟩⟩ rfl rfl hl.1 rfl (lv_room (Nat.le_of_ble_eq_true rfl)) dJ5_append_3fe6f_18 ⟨(Nat.zero_le _), (Nat.zero_le _)⟩) hS (fun q _ h => hFc q h) hFc (fun zr u t H1 locs ht hvm hw hB hz1 hk1 hS => ?_)
  obtain ⟨hP1, hD1⟩ := hB
  rw [ht] at hP1
  obtain ⟨hP, hD⟩ := va_join (wr := [(sb, .inr (0, [.ref vb, .int 0, .int ml, .int (nI ct)])), (vb, .inl (cA 2, n, .inl g))]) (w1 := []) hP hD [] [0, 1] rfl rfl (by decide) (by decide) hk1 hFc hP1 hD1
  generalize H1 = H at hP hS ⊢
  have hP := hP.sub (ws' := [(sb, .inr (0, [.ref vb, .int 0, .int ml, .int (nI ct)])), (vb, .inl (cA 2, n, .inl g))]) [0, 1] rfl
  have hD := hD.sub (ws' := [(sb, .inr (0, [.ref vb, .int 0, .int ml, .int (nI ct)])), (vb, .inl (cA 2, n, .inl g))]) [0, 1] (by decide) rfl
  clear hPc hDc hFc hP1 hD1 hk1 hz1
  have hw_4 := hw
  obtain rfl := hw
  refine lv_if_eq (tgt := 45) hx hb dJ5_append_3fe6f_21 (by decide) (fun c_5 => absurd c_5 (by decide)) (fun _ => ?_)
  refine lv_aload_n hx hb dJ5_append_3fe6f_24 rfl (lv_at hl 0 rfl) ?_
  refine va_get (D := D) (ci := 0) (v := .ref vb) (C := RJ4) (T := TJ4) (N := 4) hx hb hts (fun _ h => List.mem_cons_of_mem _ (List.mem_append_right _ (h))) hown hK hP 0 rfl rfl 0 (by decide) (hts (.fieldLink RJ5 15 "java/lang/AbstractStringBuilder" "value" "[B") (List.mem_of_getElem? (i := 2) rfl)) (fun _ h9 => h9) rfl dJ5_append_3fe6f_25 ?_
  refine lv_aload_n hx hb dJ5_append_3fe6f_28 rfl (lv_at hl 0 rfl) ?_
  refine lv_dup hx hb dJ5_append_3fe6f_29 rfl ?_
  refine va_get (D := D) (ci := 0) (v := .int (nI ct)) (C := RJ4) (T := TJ4) (N := 4) hx hb hts (fun _ h => List.mem_cons_of_mem _ (List.mem_append_right _ (h))) hown hK hP 0 rfl rfl 3 (by decide) (hts (.fieldLink RJ5 79 "java/lang/AbstractStringBuilder" "count" "I") (List.mem_of_getElem? (i := 1) rfl)) (fun _ h9 => h9) rfl dJ5_append_3fe6f_30 ?_
  refine lv_dup_x1 hx hb dJ5_append_3fe6f_33 rfl rfl ?_
  refine lv_iconst (v := 1) hx hb dJ5_append_3fe6f_34 (by decide) ?_
  refine lv_iadd hx hb dJ5_append_3fe6f_35 ?_
  refine z_top (y := (nI (ct + 1))) (z_add ct 1) ?_
  refine va_put (D := D) (ci := 0) (v := .int (nI (ct + 1))) (ty := .int) (C := RJ4) (T := TJ4) (N := 4) hx hb hts (fun _ h => List.mem_cons_of_mem _ (List.mem_append_right _ (h))) tyJ4 tyJ4_ok nmJ4 hown hK hP hD hS 0 rfl rfl 3 (by decide) (hts (.fieldLink RJ5 79 "java/lang/AbstractStringBuilder" "count" "I") (List.mem_of_getElem? (i := 1) rfl)) (fun _ h9 => h9) rfl (by decide +kernel) rfl rfl (Nat.le_of_ble_eq_true rfl) dJ5_append_3fe6f_36 (fun H locs hP hD hS => ?_)
  have hP : va_P D vwCl [(sb, .inr (0, [.ref vb, .int 0, .int ml, .int (nI (ct + 1))])), (vb, .inl (cA 2, n, .inl g))] H := hP
  have hD : va_D A [(sb, .inr (0, [.ref vb, .int 0, .int ml, .int (nI (ct + 1))])), (vb, .inl (cA 2, n, .inl g))] := hD
  refine lv_iload_n hx hb dJ5_append_3fe6f_39 rfl (lv_at hl 1 rfl) ?_
  refine lv_i2b (v := q) hx hb dJ5_append_3fe6f_40 (b127 h0 h127) ?_
  refine z_bast (k := ct) hx hb hK hP hD hS 1 2 rfl rfl rfl (by omega) (by omega) (nar127 h0 h127) dJ5_append_3fe6f_41 (fun H locs hP hD hS => ?_)
  have hP : va_P D vwCl [(sb, .inr (0, [.ref vb, .int 0, .int ml, .int (nI (ct + 1))])), (vb, .inl (cA 2, n, .inl (upd g ct q)))] H := hP
  have hD : va_D A [(sb, .inr (0, [.ref vb, .int 0, .int ml, .int (nI (ct + 1))])), (vb, .inl (cA 2, n, .inl (upd g ct q)))] := hD
  refine lv_goto (tgt := 75) hx hb dJ5_append_3fe6f_42 (by decide) ?_
  refine lv_aload_n hx hb dJ5_append_3fe6f_75 rfl (lv_at hl 0 rfl) ?_
  refine W.widen (k := 0) (n := 0) (by omega) (by omega) ?_
  exact W.aret (v := .ref sb) hx hb hr (Or.inl ⟨_, rfl⟩) (Or.inr ⟨_, rfl⟩) (fun t ht hW => ⟨⟨(upd g ct q), sb, rfl, apd_c hn (by omega) hfb (fun _ _ => rfl) h0 h127, ⟨rfl, ⟨by rw [ht]; exact hP, by rw [hAe]; exact hD⟩⟩⟩, hS.F ht⟩) hS.2.2 dJ5_append_3fe6f_76
set_option maxHeartbeats 4000000 in
set_option maxRecDepth 100000 in
theorem c_n_as5 (l : Launch) (D : va_G) (cA : Nat → ClassId) (zv : Nat → Nat) (sz : Nat) (sb vb : Nat) (ml : Int32) (ct n : Nat) (g : Nat → Int32) (k : Nat) (hn : n = 16 ∨ n = 34) (hct : ct ≤ n) (hfb : bfit n g) (hk : k < 8) (hr34 : ct + zLen.getD k 0 ≤ n) : Met l yJ5_append_cf1ce wsJ5_append_cf1ce ({ frames := 3, cells := 0, slots := 0, locals := 105 }) (va_Pc [.ref sb, .ref (zv (20 + k))] (zUX D cA zv sz [(sb, .inr (0, [.ref vb, .int 0, .int ml, .int (nI ct)])), (vb, .inl (cA 2, n, .inl g))])) (va_Qr (fun (u : (Nat → Int32)) => apd n u g ct (zByt.getD k [])) (fun (u : (Nat → Int32)) ra t => ra = sb ∧ zB D [(sb, .inr (0, [.ref vb, .int 0, .int ml, .int (nI ct)])), (vb, .inl (cA 2, n, .inl g))] sz [(sb, .inr (0, [.ref vb, .int 0, .int ml, .int (nI (ct + zLen.getD k 0))])), (vb, .inl (cA 2, n, .inl u))] t) (va_A [(sb, .inr (0, [.ref vb, .int 0, .int ml, .int (nI ct)])), (vb, .inl (cA 2, n, .inl g))] sz)) 0 0 (va_A [(sb, .inr (0, [.ref vb, .int 0, .int ml, .int (nI ct)])), (vb, .inl (cA 2, n, .inl g))] sz) := by
  refine Met.ofW (cc := cJ5_append_cf1ce) (maxL := 3) (ret := (some (.object "java/lang/AbstractStringBuilder"))) (by decide) rfl ?_
  intro p e s m args below meth c s₁ B hml hv
  obtain ⟨rfl, ⟨hsz, hP, hK, hD0, hE0⟩, hX0⟩ := hv
  have hx := B.exec
  have hb := B.bytes
  have hr := B.returns
  have hts := atoms_spec (ws := wsJ5_append_cf1ce) B.pre
  have hown : s.vm.findClass RJ5 = some m.cls := findClass_of_methodNamed B.named
  have hlocks := B.notSynchronized
  subst hsz
  have hD := hD0.self (sz := s.heap.size)
  generalize hAe : va_A [(sb, .inr (0, [.ref vb, .int 0, .int ml, .int (nI ct)])), (vb, .inl (cA 2, n, .inl g))] s.heap.size = A at hD hE0 hX0 ⊢
  have hA : ∀ q : Nat, s.heap.size ≤ q → A q := fun q h => by rw [← hAe]; exact Or.inr h
  have hS : va_S A s.heap s.heap [] := va_S.rf
  have hl := lv_entry ([.ref sb, .ref (zv (20 + k))]) (n := 3) (Nat.le_of_ble_eq_true rfl)
  rw [lg_entry_eq]
  generalize (lg_sl ([.ref sb, .ref (zv (20 + k))]) ++ List.replicate (3 - (lg_sl ([.ref sb, .ref (zv (20 + k))])).length) Slot.unset).toArray = ls at hl ⊢
  have hl : lv_has ls 3 [(0, .ref sb), (1, .ref (zv (20 + k)))] := hl
  have hn34 : n ≤ 34 := by omega
  refine lv_aload_n hx hb dJ5_append_cf1ce_0 rfl (lv_at hl 1 rfl) ?_
  refine lv_ifnonnull (tgt := 9) hx hb dJ5_append_cf1ce_1 (by decide) ?_
  refine lv_aload_n hx hb dJ5_append_cf1ce_9 rfl (lv_at hl 1 rfl) ?_
  have hPc := hP.sub (ws' := []) [] rfl
  have hDc := hD.sub (ws' := []) [] (by decide) rfl
  have hFc := va_free (wc := []) hD hS hA [] rfl
  refine va_calli (va_runV (As := []) (rest := []) ⟨hx, hb, hml, hown, hts⟩ (c_J0_length_8abf5 l D cA zv s.heap.size k (by assumption)) (cwV 0 hts gJ5_append_cf1ce_J0_length_8abf5 rfl rfl rfl (by decide +kernel) ⟨Nat.le_of_ble_eq_true rfl, Nat.le_of_ble_eq_true rfl⟩) ⟨zUX_blind, vk_recv hX0.2.2.1.2 hk hS, fun U hU hW => ⟨rfl, zUX_call hE0 hX0 hS hFc hU hPc hW hK hDc⟩⟩ rfl rfl hl.1 rfl (lv_room (Nat.le_of_ble_eq_true rfl)) dJ5_append_cf1ce_10 ⟨(Nat.zero_le _), (Nat.zero_le _)⟩) hS (fun q _ h => hFc q h) hFc (fun zr u t H1 locs ht hvm hw hB hz1 hk1 hS => ?_)
  obtain ⟨hP1, hD1⟩ := hB
  rw [ht] at hP1
  obtain ⟨hP, hD⟩ := va_join (wr := [(sb, .inr (0, [.ref vb, .int 0, .int ml, .int (nI ct)])), (vb, .inl (cA 2, n, .inl g))]) (w1 := []) hP hD [] [0, 1] rfl rfl (by decide) (by decide) hk1 hFc hP1 hD1
  generalize H1 = H at hP hS ⊢
  have hP := hP.sub (ws' := [(sb, .inr (0, [.ref vb, .int 0, .int ml, .int (nI ct)])), (vb, .inl (cA 2, n, .inl g))]) [0, 1] rfl
  have hD := hD.sub (ws' := [(sb, .inr (0, [.ref vb, .int 0, .int ml, .int (nI ct)])), (vb, .inl (cA 2, n, .inl g))]) [0, 1] (by decide) rfl
  clear hPc hDc hFc hP1 hD1 hk1 hz1
  have hw_1 := hw
  obtain rfl := hw
  refine lv_istore_n (lv' := [(2, .int (nI (zLen.getD k 0))), (0, .ref sb), (1, .ref (zv (20 + k)))]) hx hb dJ5_append_cf1ce_13 rfl hl (by decide) rfl (fun ls hl => ?_)
  refine lv_aload_n hx hb dJ5_append_cf1ce_14 rfl (lv_at hl 1 rfl) ?_
  refine lv_aload_n hx hb dJ5_append_cf1ce_15 rfl (lv_at hl 1 rfl) ?_
  refine va_get (D := D) (ci := 0) (v := .int (nI ct)) (C := RJ4) (T := TJ4) (N := 4) hx hb hts (fun _ h => List.mem_cons_of_mem _ (List.mem_append_right _ (h))) hown hK hP 0 rfl rfl 3 (by decide) (hts (.fieldLink RJ5 79 "java/lang/AbstractStringBuilder" "count" "I") (List.mem_of_getElem? (i := 1) rfl)) (fun _ h9 => h9) rfl dJ5_append_cf1ce_16 ?_
  refine lv_iload_n hx hb dJ5_append_cf1ce_19 rfl (lv_at hl 0 rfl) ?_
  refine lv_iadd hx hb dJ5_append_cf1ce_20 ?_
  refine z_top (y := (nI (ct + (zLen.getD k 0)))) (z_add ct (zLen.getD k 0)) ?_
  have hPc := hP.sub (ws' := [(sb, .inr (0, [.ref vb, .int 0, .int ml, .int (nI ct)])), (vb, .inl (cA 2, n, .inl g))]) [0, 1] rfl
  have hDc := hD.sub (ws' := [(sb, .inr (0, [.ref vb, .int 0, .int ml, .int (nI ct)])), (vb, .inl (cA 2, n, .inl g))]) [0, 1] (by decide) rfl
  have hFc := va_free (wc := [(sb, .inr (0, [.ref vb, .int 0, .int ml, .int (nI ct)])), (vb, .inl (cA 2, n, .inl g))]) hD hS hA [0, 1] rfl
  refine va_callv (va_runU (As := [.int (nI (ct + (zLen.getD k 0)))]) (rest := []) ⟨hx, hb, hml, hown, hts⟩ (c_ens_k l D cA H.size sb vb ml ct n g (ct + (zLen.getD k 0)) (by omega) (by omega) (by omega)) (va_cwU 1 hts gJ5_append_cf1ce_J5_ensureCapacityInternal_d00df_u100J4 rfl rfl rfl rfl (by decide +kernel) ⟨Nat.le_of_ble_eq_true rfl, Nat.le_of_ble_eq_true rfl⟩) ⟨zU_blind, va_recv hK hPc (ci := 0) (q0 := 0) rfl rfl, fun U hU hW => ⟨rfl, zU_call hU hPc hW.alike hK hDc⟩⟩ rfl rfl hl.1 rfl (lv_room (Nat.le_of_ble_eq_true rfl)) dJ5_append_cf1ce_21 ⟨(Nat.zero_le _), (Nat.zero_le _)⟩) hS (fun q _ h => hFc q h) hFc (fun u t H1 locs ht hvm hw hB hz1 hk1 hS => ?_)
  obtain ⟨hP1, hD1⟩ := hB
  rw [ht] at hP1
  obtain ⟨hP, hD⟩ := va_join (wr := []) (w1 := [(sb, .inr (0, [.ref vb, .int 0, .int ml, .int (nI ct)])), (vb, .inl (cA 2, n, .inl g))]) hP hD [0, 1] [] rfl rfl (by decide) (by decide) hk1 hFc hP1 hD1
  generalize H1 = H at hP hS ⊢
  have hP := hP.sub (ws' := [(sb, .inr (0, [.ref vb, .int 0, .int ml, .int (nI ct)])), (vb, .inl (cA 2, n, .inl g))]) [0, 1] rfl
  have hD := hD.sub (ws' := [(sb, .inr (0, [.ref vb, .int 0, .int ml, .int (nI ct)])), (vb, .inl (cA 2, n, .inl g))]) [0, 1] (by decide) rfl
  clear hPc hDc hFc hP1 hD1 hk1 hz1
  have hw_2 := hw
  refine lv_aload_n hx hb dJ5_append_cf1ce_24 rfl (lv_at hl 1 rfl) ?_
  refine lv_aload_n hx hb dJ5_append_cf1ce_25 rfl (lv_at hl 1 rfl) ?_
  refine va_get (D := D) (ci := 0) (v := .int (nI ct)) (C := RJ4) (T := TJ4) (N := 4) hx hb hts (fun _ h => List.mem_cons_of_mem _ (List.mem_append_right _ (h))) hown hK hP 0 rfl rfl 3 (by decide) (hts (.fieldLink RJ5 79 "java/lang/AbstractStringBuilder" "count" "I") (List.mem_of_getElem? (i := 1) rfl)) (fun _ h9 => h9) rfl dJ5_append_cf1ce_26 ?_
  refine lv_aload_n hx hb dJ5_append_cf1ce_29 rfl (lv_at hl 2 rfl) ?_
  have hPc := hP.sub (ws' := [(sb, .inr (0, [.ref vb, .int 0, .int ml, .int (nI ct)])), (vb, .inl (cA 2, n, .inl g))]) [0, 1] rfl
  have hDc := hD.sub (ws' := [(sb, .inr (0, [.ref vb, .int 0, .int ml, .int (nI ct)])), (vb, .inl (cA 2, n, .inl g))]) [0, 1] (by decide) rfl
  have hFc := va_free (wc := [(sb, .inr (0, [.ref vb, .int 0, .int ml, .int (nI ct)])), (vb, .inl (cA 2, n, .inl g))]) hD hS hA [0, 1] rfl
  refine va_callv (va_runU (As := [.int (nI ct), .ref (zv (20 + k))]) (rest := []) ⟨hx, hb, hml, hown, hts⟩ (c_J5_putStringAt_47b60 l D cA zv H.size sb vb ml ct n g k (by assumption) (by omega) (by omega)) (va_cwU 2 hts gJ5_append_cf1ce_J5_putStringAt_47b60_u208J4 rfl rfl rfl rfl (by decide +kernel) ⟨Nat.le_of_ble_eq_true rfl, Nat.le_of_ble_eq_true rfl⟩) ⟨zUX_blind, va_recv hK hPc (ci := 0) (q0 := 0) rfl rfl, fun U hU hW => ⟨rfl, zUX_call hE0 hX0 hS hFc hU hPc hW hK hDc⟩⟩ rfl rfl hl.1 rfl (lv_room (Nat.le_of_ble_eq_true rfl)) dJ5_append_cf1ce_30 ⟨(Nat.zero_le _), (Nat.zero_le _)⟩) hS (fun q _ h => hFc q h) hFc (fun u t H1 locs ht hvm hw hB hz1 hk1 hS => ?_)
  obtain ⟨hP1, hD1⟩ := hB
  rw [ht] at hP1
  obtain ⟨hP, hD⟩ := va_join (wr := []) (w1 := [(sb, .inr (0, [.ref vb, .int 0, .int ml, .int (nI ct)])), (vb, .inl (cA 2, n, .inl (va_cpy (fun j => (zByt.getD k []).getD j 0) g 0 ct (zLen.getD k 0))))]) hP hD [0, 1] [] rfl rfl (by decide) (by decide) hk1 hFc hP1 hD1
  generalize H1 = H at hP hS ⊢
  have hP := hP.sub (ws' := [(sb, .inr (0, [.ref vb, .int 0, .int ml, .int (nI ct)])), (vb, .inl (cA 2, n, .inl (va_cpy (fun j => (zByt.getD k []).getD j 0) g 0 ct (zLen.getD k 0))))]) [0, 1] rfl
  have hD := hD.sub (ws' := [(sb, .inr (0, [.ref vb, .int 0, .int ml, .int (nI ct)])), (vb, .inl (cA 2, n, .inl (va_cpy (fun j => (zByt.getD k []).getD j 0) g 0 ct (zLen.getD k 0))))]) [0, 1] (by decide) rfl
  clear hPc hDc hFc hP1 hD1 hk1 hz1
  have hw_3 := hw
  refine lv_aload_n hx hb dJ5_append_cf1ce_33 rfl (lv_at hl 1 rfl) ?_
  refine lv_dup hx hb dJ5_append_cf1ce_34 rfl ?_
  refine va_get (D := D) (ci := 0) (v := .int (nI ct)) (C := RJ4) (T := TJ4) (N := 4) hx hb hts (fun _ h => List.mem_cons_of_mem _ (List.mem_append_right _ (h))) hown hK hP 0 rfl rfl 3 (by decide) (hts (.fieldLink RJ5 79 "java/lang/AbstractStringBuilder" "count" "I") (List.mem_of_getElem? (i := 1) rfl)) (fun _ h9 => h9) rfl dJ5_append_cf1ce_35 ?_
  refine lv_iload_n hx hb dJ5_append_cf1ce_38 rfl (lv_at hl 0 rfl) ?_
  refine lv_iadd hx hb dJ5_append_cf1ce_39 ?_
  refine z_top (y := (nI (ct + (zLen.getD k 0)))) (z_add ct (zLen.getD k 0)) ?_
  refine va_put (D := D) (ci := 0) (v := .int (nI (ct + (zLen.getD k 0)))) (ty := .int) (C := RJ4) (T := TJ4) (N := 4) hx hb hts (fun _ h => List.mem_cons_of_mem _ (List.mem_append_right _ (h))) tyJ4 tyJ4_ok nmJ4 hown hK hP hD hS 0 rfl rfl 3 (by decide) (hts (.fieldLink RJ5 79 "java/lang/AbstractStringBuilder" "count" "I") (List.mem_of_getElem? (i := 1) rfl)) (fun _ h9 => h9) rfl (by decide +kernel) rfl rfl (Nat.le_of_ble_eq_true rfl) dJ5_append_cf1ce_40 (fun H locs hP hD hS => ?_)
  have hP : va_P D vwCl [(sb, .inr (0, [.ref vb, .int 0, .int ml, .int (nI (ct + (zLen.getD k 0)))])), (vb, .inl (cA 2, n, .inl (va_cpy (fun j => (zByt.getD k []).getD j 0) g 0 ct (zLen.getD k 0))))] H := hP
  have hD : va_D A [(sb, .inr (0, [.ref vb, .int 0, .int ml, .int (nI (ct + (zLen.getD k 0)))])), (vb, .inl (cA 2, n, .inl (va_cpy (fun j => (zByt.getD k []).getD j 0) g 0 ct (zLen.getD k 0))))] := hD
  refine lv_aload_n hx hb dJ5_append_cf1ce_43 rfl (lv_at hl 1 rfl) ?_
  refine W.widen (k := 0) (n := 0) (by omega) (by omega) ?_
  exact W.aret (v := .ref sb) hx hb hr (Or.inl ⟨_, rfl⟩) (Or.inr ⟨_, rfl⟩) (fun t ht hW => ⟨⟨((va_cpy (fun j => (zByt.getD k []).getD j 0) g 0 ct (zLen.getD k 0))), sb, rfl, apd_z hk hn (by omega) hfb (fun _ _ => rfl), ⟨rfl, ⟨by rw [ht]; exact hP, by rw [hAe]; exact hD⟩⟩⟩, hS.F ht⟩) hS.2.2 dJ5_append_cf1ce_44
set_option maxHeartbeats 4000000 in
set_option maxRecDepth 100000 in
theorem c_n_ac4 (l : Launch) (D : va_G) (cA : Nat → ClassId) (zv : Nat → Nat) (sz : Nat) (sb vb : Nat) (ml : Int32) (ct n : Nat) (g : Nat → Int32) (q : Int32) (hn : n = 16 ∨ n = 34) (hct : ct ≤ n) (hfb : bfit n g) (hr34 : ct + 1 ≤ n) (h0 : ¬ q < 0) (h127 : q ≤ 127) : Met l yJ4_append_cf468 wsJ4_append_cf468 ({ frames := 2, cells := 0, slots := 0, locals := 43 }) (va_Pc [.ref sb, .int q] (zUX D cA zv sz [(sb, .inr (0, [.ref vb, .int 0, .int ml, .int (nI ct)])), (vb, .inl (cA 2, n, .inl g))])) (va_Qr (fun (u : (Nat → Int32)) => apd n u g ct [q]) (fun (u : (Nat → Int32)) ra t => ra = sb ∧ zB D [(sb, .inr (0, [.ref vb, .int 0, .int ml, .int (nI ct)])), (vb, .inl (cA 2, n, .inl g))] sz [(sb, .inr (0, [.ref vb, .int 0, .int ml, .int (nI (ct + 1))])), (vb, .inl (cA 2, n, .inl u))] t) (va_A [(sb, .inr (0, [.ref vb, .int 0, .int ml, .int (nI ct)])), (vb, .inl (cA 2, n, .inl g))] sz)) 0 0 (va_A [(sb, .inr (0, [.ref vb, .int 0, .int ml, .int (nI ct)])), (vb, .inl (cA 2, n, .inl g))] sz) := by
  refine Met.ofW (cc := cJ4_append_cf468) (maxL := 2) (ret := (some (.object "java/lang/StringBuilder"))) (by decide) rfl ?_
  intro p e s m args below meth c s₁ B hml hv
  obtain ⟨rfl, ⟨hsz, hP, hK, hD0, hE0⟩, hX0⟩ := hv
  have hx := B.exec
  have hb := B.bytes
  have hr := B.returns
  have hts := atoms_spec (ws := wsJ4_append_cf468) B.pre
  have hown : s.vm.findClass RJ4 = some m.cls := findClass_of_methodNamed B.named
  have hlocks := B.notSynchronized
  subst hsz
  have hD := hD0.self (sz := s.heap.size)
  generalize hAe : va_A [(sb, .inr (0, [.ref vb, .int 0, .int ml, .int (nI ct)])), (vb, .inl (cA 2, n, .inl g))] s.heap.size = A at hD hE0 hX0 ⊢
  have hA : ∀ q : Nat, s.heap.size ≤ q → A q := fun q h => by rw [← hAe]; exact Or.inr h
  have hS : va_S A s.heap s.heap [] := va_S.rf
  have hl := lv_entry ([.ref sb, .int q]) (n := 2) (Nat.le_of_ble_eq_true rfl)
  rw [lg_entry_eq]
  generalize (lg_sl ([.ref sb, .int q]) ++ List.replicate (2 - (lg_sl ([.ref sb, .int q])).length) Slot.unset).toArray = ls at hl ⊢
  have hl : lv_has ls 2 [(0, .ref sb), (1, .int q)] := hl
  refine lv_aload_n hx hb dJ4_append_cf468_0 rfl (lv_at hl 0 rfl) ?_
  refine lv_iload_n hx hb dJ4_append_cf468_1 rfl (lv_at hl 1 rfl) ?_
  have hPc := hP.sub (ws' := [(sb, .inr (0, [.ref vb, .int 0, .int ml, .int (nI ct)])), (vb, .inl (cA 2, n, .inl g))]) [0, 1] rfl
  have hDc := hD.sub (ws' := [(sb, .inr (0, [.ref vb, .int 0, .int ml, .int (nI ct)])), (vb, .inl (cA 2, n, .inl g))]) [0, 1] (by decide) rfl
  have hFc := va_free (wc := [(sb, .inr (0, [.ref vb, .int 0, .int ml, .int (nI ct)])), (vb, .inl (cA 2, n, .inl g))]) hD hS hA [0, 1] rfl
  refine va_callr (va_runSU (As := [.int q]) (rest := []) (hK.1 0 _ rfl).2 ⟨hx, hb, hml, hown, hts⟩ (c_n_ac5 l D cA zv s.heap.size sb vb ml ct n g q (by assumption) (by assumption) (by assumption) (by assumption) (by assumption) (by assumption)) (va_cwSU 1 hts gJ4_append_cf468_J5_append_3fe6f_s50 rfl rfl rfl (by decide +kernel) ⟨Nat.le_of_ble_eq_true rfl, Nat.le_of_ble_eq_true rfl⟩) ⟨zUX_blind, va_recv hK hPc (ci := 0) (q0 := 0) rfl rfl, fun U hU hW => ⟨rfl, zUX_call hE0 hX0 hS hFc hU hPc hW hK hDc⟩⟩ rfl rfl hl.1 rfl (lv_room (Nat.le_of_ble_eq_true rfl)) dJ4_append_cf468_2 ⟨(Nat.zero_le _), (Nat.zero_le _)⟩) hS (fun q _ h => hFc q h) hFc (fun u ra t H1 locs ht hvm hw hB hz1 hk1 hS => ?_)
  obtain ⟨g'_1, rfl⟩ : ∃ z, z = u := ⟨_, rfl⟩
  obtain ⟨hra, hP1, hD1⟩ := hB
  rw [ht] at hP1
  try dsimp only at hw hP1 hD1 hra
  subst ra
  obtain ⟨hP, hD⟩ := va_join (wr := []) (w1 := [(sb, .inr (0, [.ref vb, .int 0, .int ml, .int (nI (ct + 1))])), (vb, .inl (cA 2, n, .inl g'_1))]) hP hD [0, 1] [] rfl rfl (by decide) (by decide) hk1 hFc hP1 hD1
  generalize H1 = H at hP hS ⊢
  have hP := hP.sub (ws' := [(sb, .inr (0, [.ref vb, .int 0, .int ml, .int (nI (ct + 1))])), (vb, .inl (cA 2, n, .inl g'_1))]) [0, 1] rfl
  have hD := hD.sub (ws' := [(sb, .inr (0, [.ref vb, .int 0, .int ml, .int (nI (ct + 1))])), (vb, .inl (cA 2, n, .inl g'_1))]) [0, 1] (by decide) rfl
  clear hPc hDc hFc hP1 hD1 hk1 hz1
  have hw_1 := hw
  refine lv_pop hx hb dJ4_append_cf468_5 rfl ?_
  refine lv_aload_n hx hb dJ4_append_cf468_6 rfl (lv_at hl 0 rfl) ?_
  refine W.widen (k := 0) (n := 0) (by omega) (by omega) ?_
  exact W.aret (v := .ref sb) hx hb hr (Or.inl ⟨_, rfl⟩) (Or.inr ⟨_, rfl⟩) (fun t ht hW => ⟨⟨(g'_1), sb, rfl, hw_1, ⟨rfl, ⟨by rw [ht]; exact hP, by rw [hAe]; exact hD⟩⟩⟩, hS.F ht⟩) hS.2.2 dJ4_append_cf468_7
set_option maxHeartbeats 4000000 in
set_option maxRecDepth 100000 in
theorem c_n_as4 (l : Launch) (D : va_G) (cA : Nat → ClassId) (zv : Nat → Nat) (sz : Nat) (sb vb : Nat) (ml : Int32) (ct n : Nat) (g : Nat → Int32) (k : Nat) (hn : n = 16 ∨ n = 34) (hct : ct ≤ n) (hfb : bfit n g) (hk : k < 8) (hr34 : ct + zLen.getD k 0 ≤ n) : Met l yJ4_append_15ec4 wsJ4_append_15ec4 ({ frames := 4, cells := 0, slots := 0, locals := 127 }) (va_Pc [.ref sb, .ref (zv (20 + k))] (zUX D cA zv sz [(sb, .inr (0, [.ref vb, .int 0, .int ml, .int (nI ct)])), (vb, .inl (cA 2, n, .inl g))])) (va_Qr (fun (u : (Nat → Int32)) => apd n u g ct (zByt.getD k [])) (fun (u : (Nat → Int32)) ra t => ra = sb ∧ zB D [(sb, .inr (0, [.ref vb, .int 0, .int ml, .int (nI ct)])), (vb, .inl (cA 2, n, .inl g))] sz [(sb, .inr (0, [.ref vb, .int 0, .int ml, .int (nI (ct + zLen.getD k 0))])), (vb, .inl (cA 2, n, .inl u))] t) (va_A [(sb, .inr (0, [.ref vb, .int 0, .int ml, .int (nI ct)])), (vb, .inl (cA 2, n, .inl g))] sz)) 0 0 (va_A [(sb, .inr (0, [.ref vb, .int 0, .int ml, .int (nI ct)])), (vb, .inl (cA 2, n, .inl g))] sz) := by
  refine Met.ofW (cc := cJ4_append_15ec4) (maxL := 2) (ret := (some (.object "java/lang/StringBuilder"))) (by decide) rfl ?_
  intro p e s m args below meth c s₁ B hml hv
  obtain ⟨rfl, ⟨hsz, hP, hK, hD0, hE0⟩, hX0⟩ := hv
  have hx := B.exec
  have hb := B.bytes
  have hr := B.returns
  have hts := atoms_spec (ws := wsJ4_append_15ec4) B.pre
  have hown : s.vm.findClass RJ4 = some m.cls := findClass_of_methodNamed B.named
  have hlocks := B.notSynchronized
  subst hsz
  have hD := hD0.self (sz := s.heap.size)
  generalize hAe : va_A [(sb, .inr (0, [.ref vb, .int 0, .int ml, .int (nI ct)])), (vb, .inl (cA 2, n, .inl g))] s.heap.size = A at hD hE0 hX0 ⊢
  have hA : ∀ q : Nat, s.heap.size ≤ q → A q := fun q h => by rw [← hAe]; exact Or.inr h
  have hS : va_S A s.heap s.heap [] := va_S.rf
  have hl := lv_entry ([.ref sb, .ref (zv (20 + k))]) (n := 2) (Nat.le_of_ble_eq_true rfl)
  rw [lg_entry_eq]
  generalize (lg_sl ([.ref sb, .ref (zv (20 + k))]) ++ List.replicate (2 - (lg_sl ([.ref sb, .ref (zv (20 + k))])).length) Slot.unset).toArray = ls at hl ⊢
  have hl : lv_has ls 2 [(0, .ref sb), (1, .ref (zv (20 + k)))] := hl
  refine lv_aload_n hx hb dJ4_append_15ec4_0 rfl (lv_at hl 0 rfl) ?_
  refine lv_aload_n hx hb dJ4_append_15ec4_1 rfl (lv_at hl 1 rfl) ?_
  have hPc := hP.sub (ws' := [(sb, .inr (0, [.ref vb, .int 0, .int ml, .int (nI ct)])), (vb, .inl (cA 2, n, .inl g))]) [0, 1] rfl
  have hDc := hD.sub (ws' := [(sb, .inr (0, [.ref vb, .int 0, .int ml, .int (nI ct)])), (vb, .inl (cA 2, n, .inl g))]) [0, 1] (by decide) rfl
  have hFc := va_free (wc := [(sb, .inr (0, [.ref vb, .int 0, .int ml, .int (nI ct)])), (vb, .inl (cA 2, n, .inl g))]) hD hS hA [0, 1] rfl
  refine va_callr (va_runSU (As := [.ref (zv (20 + k))]) (rest := []) (hK.1 0 _ rfl).2 ⟨hx, hb, hml, hown, hts⟩ (c_n_as5 l D cA zv s.heap.size sb vb ml ct n g k (by assumption) (by assumption) (by assumption) (by assumption) (by assumption)) (va_cwSU 1 hts gJ4_append_15ec4_J5_append_cf1ce_s29 rfl rfl rfl (by decide +kernel) ⟨Nat.le_of_ble_eq_true rfl, Nat.le_of_ble_eq_true rfl⟩) ⟨zUX_blind, va_recv hK hPc (ci := 0) (q0 := 0) rfl rfl, fun U hU hW => ⟨rfl, zUX_call hE0 hX0 hS hFc hU hPc hW hK hDc⟩⟩ rfl rfl hl.1 rfl (lv_room (Nat.le_of_ble_eq_true rfl)) dJ4_append_15ec4_2 ⟨(Nat.zero_le _), (Nat.zero_le _)⟩) hS (fun q _ h => hFc q h) hFc (fun u ra t H1 locs ht hvm hw hB hz1 hk1 hS => ?_)
  obtain ⟨g'_1, rfl⟩ : ∃ z, z = u := ⟨_, rfl⟩
  obtain ⟨hra, hP1, hD1⟩ := hB
  rw [ht] at hP1
  try dsimp only at hw hP1 hD1 hra
  subst ra
  obtain ⟨hP, hD⟩ := va_join (wr := []) (w1 := [(sb, .inr (0, [.ref vb, .int 0, .int ml, .int (nI (ct + zLen.getD k 0))])), (vb, .inl (cA 2, n, .inl g'_1))]) hP hD [0, 1] [] rfl rfl (by decide) (by decide) hk1 hFc hP1 hD1
  generalize H1 = H at hP hS ⊢
  have hP := hP.sub (ws' := [(sb, .inr (0, [.ref vb, .int 0, .int ml, .int (nI (ct + zLen.getD k 0))])), (vb, .inl (cA 2, n, .inl g'_1))]) [0, 1] rfl
  have hD := hD.sub (ws' := [(sb, .inr (0, [.ref vb, .int 0, .int ml, .int (nI (ct + zLen.getD k 0))])), (vb, .inl (cA 2, n, .inl g'_1))]) [0, 1] (by decide) rfl
  clear hPc hDc hFc hP1 hD1 hk1 hz1
  have hw_1 := hw
  refine lv_pop hx hb dJ4_append_15ec4_5 rfl ?_
  refine lv_aload_n hx hb dJ4_append_15ec4_6 rfl (lv_at hl 0 rfl) ?_
  refine W.widen (k := 0) (n := 0) (by omega) (by omega) ?_
  exact W.aret (v := .ref sb) hx hb hr (Or.inl ⟨_, rfl⟩) (Or.inr ⟨_, rfl⟩) (fun t ht hW => ⟨⟨(g'_1), sb, rfl, hw_1, ⟨rfl, ⟨by rw [ht]; exact hP, by rw [hAe]; exact hD⟩⟩⟩, hS.F ht⟩) hS.2.2 dJ4_append_15ec4_7
set_option maxHeartbeats 4000000 in
set_option maxRecDepth 100000 in
theorem c_n_ai5a (l : Launch) (D : va_G) (cA : Nat → ClassId) (zv : Nat → Nat) (sz : Nat) (sb vb : Nat) (ml : Int32) (ct n : Nat) (g : Nat → Int32) (v : Nat) (hn : n = 16 ∨ n = 34) (hct : ct ≤ n) (hfb : bfit n g) (hr34 : ct + 1 ≤ n) (h1v : 0 ≤ v) (h2v : v ≤ 9) : Met l yJ5_append_c97b9 wsJ5_append_c97b9 ({ frames := 1, cells := 0, slots := 0, locals := 26 }) (va_Pc [.ref sb, .int (nI v)] (zUX D cA zv sz [(sb, .inr (0, [.ref vb, .int 0, .int ml, .int (nI ct)])), (vb, .inl (cA 2, n, .inl g))])) (va_Qr (fun (u : (Nat → Int32)) => apd n u g ct [nI (48 + v % 10)]) (fun (u : (Nat → Int32)) ra t => ra = sb ∧ zB D [(sb, .inr (0, [.ref vb, .int 0, .int ml, .int (nI ct)])), (vb, .inl (cA 2, n, .inl g))] sz [(sb, .inr (0, [.ref vb, .int 0, .int ml, .int (nI (ct + 1))])), (vb, .inl (cA 2, n, .inl u))] t) (va_A [(sb, .inr (0, [.ref vb, .int 0, .int ml, .int (nI ct)])), (vb, .inl (cA 2, n, .inl g))] sz)) 0 0 (va_A [(sb, .inr (0, [.ref vb, .int 0, .int ml, .int (nI ct)])), (vb, .inl (cA 2, n, .inl g))] sz) := by
  refine Met.ofW (cc := cJ5_append_c97b9) (maxL := 4) (ret := (some (.object "java/lang/AbstractStringBuilder"))) (by decide) rfl ?_
  intro p e s m args below meth c s₁ B hml hv
  obtain ⟨rfl, ⟨hsz, hP, hK, hD0, hE0⟩, hX0⟩ := hv
  have hx := B.exec
  have hb := B.bytes
  have hr := B.returns
  have hts := atoms_spec (ws := wsJ5_append_c97b9) B.pre
  have hown : s.vm.findClass RJ5 = some m.cls := findClass_of_methodNamed B.named
  have hlocks := B.notSynchronized
  subst hsz
  have hD := hD0.self (sz := s.heap.size)
  generalize hAe : va_A [(sb, .inr (0, [.ref vb, .int 0, .int ml, .int (nI ct)])), (vb, .inl (cA 2, n, .inl g))] s.heap.size = A at hD hE0 hX0 ⊢
  have hA : ∀ q : Nat, s.heap.size ≤ q → A q := fun q h => by rw [← hAe]; exact Or.inr h
  have hS : va_S A s.heap s.heap [] := va_S.rf
  have hl := lv_entry ([.ref sb, .int (nI v)]) (n := 4) (Nat.le_of_ble_eq_true rfl)
  rw [lg_entry_eq]
  generalize (lg_sl ([.ref sb, .int (nI v)]) ++ List.replicate (4 - (lg_sl ([.ref sb, .int (nI v)])).length) Slot.unset).toArray = ls at hl ⊢
  have hl : lv_has ls 4 [(0, .ref sb), (1, .int (nI v))] := hl
  have hn34 : n ≤ 34 := by omega
  refine lv_aload_n hx hb dJ5_append_c97b9_0 rfl (lv_at hl 0 rfl) ?_
  refine va_get (D := D) (ci := 0) (v := .int (nI ct)) (C := RJ4) (T := TJ4) (N := 4) hx hb hts (fun _ h => List.mem_cons_of_mem _ (List.mem_append_right _ (h))) hown hK hP 0 rfl rfl 3 (by decide) (hts (.fieldLink RJ5 79 "java/lang/AbstractStringBuilder" "count" "I") (List.mem_of_getElem? (i := 1) rfl)) (fun _ h9 => h9) rfl dJ5_append_c97b9_1 ?_
  refine lv_istore_n (lv' := [(2, .int (nI ct)), (0, .ref sb), (1, .int (nI v))]) hx hb dJ5_append_c97b9_4 rfl hl (by decide) rfl (fun ls hl => ?_)
  refine lv_iload_n hx hb dJ5_append_c97b9_5 rfl (lv_at hl 0 rfl) ?_
  refine lv_iload_n hx hb dJ5_append_c97b9_6 rfl (lv_at hl 2 rfl) ?_
  have hPc := hP.sub (ws' := []) [] rfl
  have hDc := hD.sub (ws' := []) [] (by decide) rfl
  have hFc := va_free (wc := []) hD hS hA [] rfl
  refine va_calli (va_runS (As := [.int (nI v)]) (rest := [.int (nI ct)]) ⟨hx, hb, hml, hown, hts⟩ (c_ss_a l D cA s.heap.size v h1v h2v) (va_cwS 1 hts gJ5_append_c97b9_J6_stringSize_0f7a4 rfl rfl rfl (by decide +kernel) ⟨Nat.le_of_ble_eq_true rfl, Nat.le_of_ble_eq_true rfl⟩) ⟨zU_blind, fun U hU hW => ⟨rfl, zU_call hU hPc hW.alike hK hDc⟩⟩ rfl rfl hl.1 rfl (lv_room (Nat.le_of_ble_eq_true rfl)) dJ5_append_c97b9_7 ⟨(Nat.zero_le _), (Nat.zero_le _)⟩) hS (fun q _ h => hFc q h) hFc (fun zr u t H1 locs ht hvm hw hB hz1 hk1 hS => ?_)
  obtain ⟨hP1, hD1⟩ := hB
  rw [ht] at hP1
  obtain ⟨hP, hD⟩ := va_join (wr := [(sb, .inr (0, [.ref vb, .int 0, .int ml, .int (nI ct)])), (vb, .inl (cA 2, n, .inl g))]) (w1 := []) hP hD [] [0, 1] rfl rfl (by decide) (by decide) hk1 hFc hP1 hD1
  generalize H1 = H at hP hS ⊢
  have hP := hP.sub (ws' := [(sb, .inr (0, [.ref vb, .int 0, .int ml, .int (nI ct)])), (vb, .inl (cA 2, n, .inl g))]) [0, 1] rfl
  have hD := hD.sub (ws' := [(sb, .inr (0, [.ref vb, .int 0, .int ml, .int (nI ct)])), (vb, .inl (cA 2, n, .inl g))]) [0, 1] (by decide) rfl
  clear hPc hDc hFc hP1 hD1 hk1 hz1
  have hw_1 := hw
  obtain rfl := hw
  refine lv_iadd hx hb dJ5_append_c97b9_10 ?_
  refine z_top (y := (nI (ct + 1))) (z_add ct 1) ?_
  refine lv_istore_n (lv' := [(3, .int (nI (ct + 1))), (2, .int (nI ct)), (0, .ref sb), (1, .int (nI v))]) hx hb dJ5_append_c97b9_11 rfl hl (by decide) rfl (fun ls hl => ?_)
  refine lv_aload_n hx hb dJ5_append_c97b9_12 rfl (lv_at hl 2 rfl) ?_
  refine lv_iload_n hx hb dJ5_append_c97b9_13 rfl (lv_at hl 0 rfl) ?_
  have hPc := hP.sub (ws' := [(sb, .inr (0, [.ref vb, .int 0, .int ml, .int (nI ct)])), (vb, .inl (cA 2, n, .inl g))]) [0, 1] rfl
  have hDc := hD.sub (ws' := [(sb, .inr (0, [.ref vb, .int 0, .int ml, .int (nI ct)])), (vb, .inl (cA 2, n, .inl g))]) [0, 1] (by decide) rfl
  have hFc := va_free (wc := [(sb, .inr (0, [.ref vb, .int 0, .int ml, .int (nI ct)])), (vb, .inl (cA 2, n, .inl g))]) hD hS hA [0, 1] rfl
  refine va_callv (va_runU (As := [.int (nI (ct + 1))]) (rest := []) ⟨hx, hb, hml, hown, hts⟩ (c_ens_k l D cA H.size sb vb ml ct n g (ct + 1) (by omega) (by omega) (by omega)) (va_cwU 1 hts gJ5_append_c97b9_J5_ensureCapacityInternal_d00df_u100J4 rfl rfl rfl rfl (by decide +kernel) ⟨Nat.le_of_ble_eq_true rfl, Nat.le_of_ble_eq_true rfl⟩) ⟨zU_blind, va_recv hK hPc (ci := 0) (q0 := 0) rfl rfl, fun U hU hW => ⟨rfl, zU_call hU hPc hW.alike hK hDc⟩⟩ rfl rfl hl.1 rfl (lv_room (Nat.le_of_ble_eq_true rfl)) dJ5_append_c97b9_14 ⟨(Nat.zero_le _), (Nat.zero_le _)⟩) hS (fun q _ h => hFc q h) hFc (fun u t H1 locs ht hvm hw hB hz1 hk1 hS => ?_)
  obtain ⟨hP1, hD1⟩ := hB
  rw [ht] at hP1
  obtain ⟨hP, hD⟩ := va_join (wr := []) (w1 := [(sb, .inr (0, [.ref vb, .int 0, .int ml, .int (nI ct)])), (vb, .inl (cA 2, n, .inl g))]) hP hD [0, 1] [] rfl rfl (by decide) (by decide) hk1 hFc hP1 hD1
  generalize H1 = H at hP hS ⊢
  have hP := hP.sub (ws' := [(sb, .inr (0, [.ref vb, .int 0, .int ml, .int (nI ct)])), (vb, .inl (cA 2, n, .inl g))]) [0, 1] rfl
  have hD := hD.sub (ws' := [(sb, .inr (0, [.ref vb, .int 0, .int ml, .int (nI ct)])), (vb, .inl (cA 2, n, .inl g))]) [0, 1] (by decide) rfl
  clear hPc hDc hFc hP1 hD1 hk1 hz1
  have hw_2 := hw
  refine lv_aload_n hx hb dJ5_append_c97b9_17 rfl (lv_at hl 2 rfl) ?_
  have hPc := hP.sub (ws' := [(sb, .inr (0, [.ref vb, .int 0, .int ml, .int (nI ct)]))]) [0] rfl
  have hDc := hD.sub (ws' := [(sb, .inr (0, [.ref vb, .int 0, .int ml, .int (nI ct)]))]) [0] (by decide) rfl
  have hFc := va_free (wc := [(sb, .inr (0, [.ref vb, .int 0, .int ml, .int (nI ct)]))]) hD hS hA [0] rfl
  refine va_calli (va_runU (As := []) (rest := []) ⟨hx, hb, hml, hown, hts⟩ (c_J5_isLatin1_aae02 l D cA zv H.size sb vb ml ct) (va_cwU 0 hts gJ5_append_c97b9_J5_isLatin1_aae02_u83J4 rfl rfl rfl rfl (by decide +kernel) ⟨Nat.le_of_ble_eq_true rfl, Nat.le_of_ble_eq_true rfl⟩) ⟨zUX_blind, va_recv hK hPc (ci := 0) (q0 := 0) rfl rfl, fun U hU hW => ⟨rfl, zUX_call hE0 hX0 hS hFc hU hPc hW hK hDc⟩⟩ rfl rfl hl.1 rfl (lv_room (Nat.le_of_ble_eq_true rfl)) dJ5_append_c97b9_18 ⟨(Nat.zero_le _), (Nat.zero_le _)⟩) hS (fun q _ h => hFc q h) hFc (fun zr u t H1 locs ht hvm hw hB hz1 hk1 hS => ?_)
  obtain ⟨hP1, hD1⟩ := hB
  rw [ht] at hP1
  obtain ⟨hP, hD⟩ := va_join (wr := [(vb, .inl (cA 2, n, .inl g))]) (w1 := [(sb, .inr (0, [.ref vb, .int 0, .int ml, .int (nI ct)]))]) hP hD [0] [1] rfl rfl (by decide) (by decide) hk1 hFc hP1 hD1
  generalize H1 = H at hP hS ⊢
  have hP := hP.sub (ws' := [(sb, .inr (0, [.ref vb, .int 0, .int ml, .int (nI ct)])), (vb, .inl (cA 2, n, .inl g))]) [1, 0] rfl
  have hD := hD.sub (ws' := [(sb, .inr (0, [.ref vb, .int 0, .int ml, .int (nI ct)])), (vb, .inl (cA 2, n, .inl g))]) [1, 0] (by decide) rfl
  clear hPc hDc hFc hP1 hD1 hk1 hz1
  have hw_3 := hw
  obtain rfl := hw
  refine lv_if_eq (tgt := 37) hx hb dJ5_append_c97b9_21 (by decide) (fun c_4 => absurd c_4 (by decide)) (fun _ => ?_)
  refine lv_iload_n hx hb dJ5_append_c97b9_24 rfl (lv_at hl 3 rfl) ?_
  refine lv_iload_n hx hb dJ5_append_c97b9_25 rfl (lv_at hl 0 rfl) ?_
  refine lv_aload_n hx hb dJ5_append_c97b9_26 rfl (lv_at hl 2 rfl) ?_
  refine va_get (D := D) (ci := 0) (v := .ref vb) (C := RJ4) (T := TJ4) (N := 4) hx hb hts (fun _ h => List.mem_cons_of_mem _ (List.mem_append_right _ (h))) hown hK hP 0 rfl rfl 0 (by decide) (hts (.fieldLink RJ5 15 "java/lang/AbstractStringBuilder" "value" "[B") (List.mem_of_getElem? (i := 2) rfl)) (fun _ h9 => h9) rfl dJ5_append_c97b9_27 ?_
  have hPc := hP.sub (ws' := [(vb, .inl (cA 2, n, .inl g))]) [1] rfl
  have hDc := hD.sub (ws' := [(vb, .inl (cA 2, n, .inl g))]) [1] (by decide) rfl
  have hFc := va_free (wc := [(vb, .inl (cA 2, n, .inl g))]) hD hS hA [1] rfl
  refine va_calli (va_runS (As := [.int (nI v), .int (nI (ct + 1)), .ref vb]) (rest := []) ⟨hx, hb, hml, hown, hts⟩ (c_gc_a l D cA zv H.size v vb ct n g h2v (by omega) (by omega)) (va_cwS 3 hts gJ5_append_c97b9_J6_getChars_ba4f3 rfl rfl rfl (by decide +kernel) ⟨Nat.le_of_ble_eq_true rfl, Nat.le_of_ble_eq_true rfl⟩) ⟨zUX_blind, fun U hU hW => ⟨rfl, zUX_call hE0 hX0 hS hFc hU hPc hW hK hDc⟩⟩ rfl rfl hl.1 rfl (lv_room (Nat.le_of_ble_eq_true rfl)) dJ5_append_c97b9_30 ⟨(Nat.zero_le _), (Nat.zero_le _)⟩) hS (fun q _ h => hFc q h) hFc (fun zr u t H1 locs ht hvm hw hB hz1 hk1 hS => ?_)
  obtain ⟨hP1, hD1⟩ := hB
  rw [ht] at hP1
  obtain ⟨hP, hD⟩ := va_join (wr := [(sb, .inr (0, [.ref vb, .int 0, .int ml, .int (nI ct)]))]) (w1 := [(vb, .inl (cA 2, n, .inl (upd g ct (nI (48 + v % 10)))))]) hP hD [1] [0] rfl rfl (by decide) (by decide) hk1 hFc hP1 hD1
  generalize H1 = H at hP hS ⊢
  have hP := hP.sub (ws' := [(sb, .inr (0, [.ref vb, .int 0, .int ml, .int (nI ct)])), (vb, .inl (cA 2, n, .inl (upd g ct (nI (48 + v % 10)))))]) [0, 1] rfl
  have hD := hD.sub (ws' := [(sb, .inr (0, [.ref vb, .int 0, .int ml, .int (nI ct)])), (vb, .inl (cA 2, n, .inl (upd g ct (nI (48 + v % 10)))))]) [0, 1] (by decide) rfl
  clear hPc hDc hFc hP1 hD1 hk1 hz1
  have hw_5 := hw
  obtain rfl := hw
  refine lv_pop hx hb dJ5_append_c97b9_33 rfl ?_
  refine lv_goto (tgt := 48) hx hb dJ5_append_c97b9_34 (by decide) ?_
  refine lv_aload_n hx hb dJ5_append_c97b9_48 rfl (lv_at hl 2 rfl) ?_
  refine lv_iload_n hx hb dJ5_append_c97b9_49 rfl (lv_at hl 0 rfl) ?_
  refine va_put (D := D) (ci := 0) (v := .int (nI (ct + 1))) (ty := .int) (C := RJ4) (T := TJ4) (N := 4) hx hb hts (fun _ h => List.mem_cons_of_mem _ (List.mem_append_right _ (h))) tyJ4 tyJ4_ok nmJ4 hown hK hP hD hS 0 rfl rfl 3 (by decide) (hts (.fieldLink RJ5 79 "java/lang/AbstractStringBuilder" "count" "I") (List.mem_of_getElem? (i := 1) rfl)) (fun _ h9 => h9) rfl (by decide +kernel) rfl rfl (Nat.le_of_ble_eq_true rfl) dJ5_append_c97b9_50 (fun H locs hP hD hS => ?_)
  have hP : va_P D vwCl [(sb, .inr (0, [.ref vb, .int 0, .int ml, .int (nI (ct + 1))])), (vb, .inl (cA 2, n, .inl (upd g ct (nI (48 + v % 10)))))] H := hP
  have hD : va_D A [(sb, .inr (0, [.ref vb, .int 0, .int ml, .int (nI (ct + 1))])), (vb, .inl (cA 2, n, .inl (upd g ct (nI (48 + v % 10)))))] := hD
  refine lv_aload_n hx hb dJ5_append_c97b9_53 rfl (lv_at hl 2 rfl) ?_
  refine W.widen (k := 0) (n := 0) (by omega) (by omega) ?_
  exact W.aret (v := .ref sb) hx hb hr (Or.inl ⟨_, rfl⟩) (Or.inr ⟨_, rfl⟩) (fun t ht hW => ⟨⟨((upd g ct (nI (48 + v % 10)))), sb, rfl, apd_c hn (by omega) hfb (fun _ _ => rfl) (nI_nn (by omega)) ((nI_leI (b := 127) (by omega) (by decide)).mpr (by omega)), ⟨rfl, ⟨by rw [ht]; exact hP, by rw [hAe]; exact hD⟩⟩⟩, hS.F ht⟩) hS.2.2 dJ5_append_c97b9_54
set_option maxHeartbeats 4000000 in
set_option maxRecDepth 100000 in
theorem c_n_ai4a (l : Launch) (D : va_G) (cA : Nat → ClassId) (zv : Nat → Nat) (sz : Nat) (sb vb : Nat) (ml : Int32) (ct n : Nat) (g : Nat → Int32) (v : Nat) (hn : n = 16 ∨ n = 34) (hct : ct ≤ n) (hfb : bfit n g) (hr34 : ct + 1 ≤ n) (h1v : 0 ≤ v) (h2v : v ≤ 9) : Met l yJ4_append_bf812 wsJ4_append_bf812 ({ frames := 2, cells := 0, slots := 0, locals := 49 }) (va_Pc [.ref sb, .int (nI v)] (zUX D cA zv sz [(sb, .inr (0, [.ref vb, .int 0, .int ml, .int (nI ct)])), (vb, .inl (cA 2, n, .inl g))])) (va_Qr (fun (u : (Nat → Int32)) => apd n u g ct [nI (48 + v % 10)]) (fun (u : (Nat → Int32)) ra t => ra = sb ∧ zB D [(sb, .inr (0, [.ref vb, .int 0, .int ml, .int (nI ct)])), (vb, .inl (cA 2, n, .inl g))] sz [(sb, .inr (0, [.ref vb, .int 0, .int ml, .int (nI (ct + 1))])), (vb, .inl (cA 2, n, .inl u))] t) (va_A [(sb, .inr (0, [.ref vb, .int 0, .int ml, .int (nI ct)])), (vb, .inl (cA 2, n, .inl g))] sz)) 0 0 (va_A [(sb, .inr (0, [.ref vb, .int 0, .int ml, .int (nI ct)])), (vb, .inl (cA 2, n, .inl g))] sz) := by
  refine Met.ofW (cc := cJ4_append_bf812) (maxL := 2) (ret := (some (.object "java/lang/StringBuilder"))) (by decide) rfl ?_
  intro p e s m args below meth c s₁ B hml hv
  obtain ⟨rfl, ⟨hsz, hP, hK, hD0, hE0⟩, hX0⟩ := hv
  have hx := B.exec
  have hb := B.bytes
  have hr := B.returns
  have hts := atoms_spec (ws := wsJ4_append_bf812) B.pre
  have hown : s.vm.findClass RJ4 = some m.cls := findClass_of_methodNamed B.named
  have hlocks := B.notSynchronized
  subst hsz
  have hD := hD0.self (sz := s.heap.size)
  generalize hAe : va_A [(sb, .inr (0, [.ref vb, .int 0, .int ml, .int (nI ct)])), (vb, .inl (cA 2, n, .inl g))] s.heap.size = A at hD hE0 hX0 ⊢
  have hA : ∀ q : Nat, s.heap.size ≤ q → A q := fun q h => by rw [← hAe]; exact Or.inr h
  have hS : va_S A s.heap s.heap [] := va_S.rf
  have hl := lv_entry ([.ref sb, .int (nI v)]) (n := 2) (Nat.le_of_ble_eq_true rfl)
  rw [lg_entry_eq]
  generalize (lg_sl ([.ref sb, .int (nI v)]) ++ List.replicate (2 - (lg_sl ([.ref sb, .int (nI v)])).length) Slot.unset).toArray = ls at hl ⊢
  have hl : lv_has ls 2 [(0, .ref sb), (1, .int (nI v))] := hl
  refine lv_aload_n hx hb dJ4_append_bf812_0 rfl (lv_at hl 0 rfl) ?_
  refine lv_iload_n hx hb dJ4_append_bf812_1 rfl (lv_at hl 1 rfl) ?_
  have hPc := hP.sub (ws' := [(sb, .inr (0, [.ref vb, .int 0, .int ml, .int (nI ct)])), (vb, .inl (cA 2, n, .inl g))]) [0, 1] rfl
  have hDc := hD.sub (ws' := [(sb, .inr (0, [.ref vb, .int 0, .int ml, .int (nI ct)])), (vb, .inl (cA 2, n, .inl g))]) [0, 1] (by decide) rfl
  have hFc := va_free (wc := [(sb, .inr (0, [.ref vb, .int 0, .int ml, .int (nI ct)])), (vb, .inl (cA 2, n, .inl g))]) hD hS hA [0, 1] rfl
  refine va_callr (va_runSU (As := [.int (nI v)]) (rest := []) (hK.1 0 _ rfl).2 ⟨hx, hb, hml, hown, hts⟩ (c_n_ai5a l D cA zv s.heap.size sb vb ml ct n g v (by assumption) (by assumption) (by assumption) (by assumption) (by assumption) (by assumption)) (va_cwSU 1 hts gJ4_append_bf812_J5_append_c97b9_s53 rfl rfl rfl (by decide +kernel) ⟨Nat.le_of_ble_eq_true rfl, Nat.le_of_ble_eq_true rfl⟩) ⟨zUX_blind, va_recv hK hPc (ci := 0) (q0 := 0) rfl rfl, fun U hU hW => ⟨rfl, zUX_call hE0 hX0 hS hFc hU hPc hW hK hDc⟩⟩ rfl rfl hl.1 rfl (lv_room (Nat.le_of_ble_eq_true rfl)) dJ4_append_bf812_2 ⟨(Nat.zero_le _), (Nat.zero_le _)⟩) hS (fun q _ h => hFc q h) hFc (fun u ra t H1 locs ht hvm hw hB hz1 hk1 hS => ?_)
  obtain ⟨g'_1, rfl⟩ : ∃ z, z = u := ⟨_, rfl⟩
  obtain ⟨hra, hP1, hD1⟩ := hB
  rw [ht] at hP1
  try dsimp only at hw hP1 hD1 hra
  subst ra
  obtain ⟨hP, hD⟩ := va_join (wr := []) (w1 := [(sb, .inr (0, [.ref vb, .int 0, .int ml, .int (nI (ct + 1))])), (vb, .inl (cA 2, n, .inl g'_1))]) hP hD [0, 1] [] rfl rfl (by decide) (by decide) hk1 hFc hP1 hD1
  generalize H1 = H at hP hS ⊢
  have hP := hP.sub (ws' := [(sb, .inr (0, [.ref vb, .int 0, .int ml, .int (nI (ct + 1))])), (vb, .inl (cA 2, n, .inl g'_1))]) [0, 1] rfl
  have hD := hD.sub (ws' := [(sb, .inr (0, [.ref vb, .int 0, .int ml, .int (nI (ct + 1))])), (vb, .inl (cA 2, n, .inl g'_1))]) [0, 1] (by decide) rfl
  clear hPc hDc hFc hP1 hD1 hk1 hz1
  have hw_1 := hw
  refine lv_pop hx hb dJ4_append_bf812_5 rfl ?_
  refine lv_aload_n hx hb dJ4_append_bf812_6 rfl (lv_at hl 0 rfl) ?_
  refine W.widen (k := 0) (n := 0) (by omega) (by omega) ?_
  exact W.aret (v := .ref sb) hx hb hr (Or.inl ⟨_, rfl⟩) (Or.inr ⟨_, rfl⟩) (fun t ht hW => ⟨⟨(g'_1), sb, rfl, hw_1, ⟨rfl, ⟨by rw [ht]; exact hP, by rw [hAe]; exact hD⟩⟩⟩, hS.F ht⟩) hS.2.2 dJ4_append_bf812_7
set_option maxHeartbeats 4000000 in
set_option maxRecDepth 100000 in
theorem c_n_ai5b (l : Launch) (D : va_G) (cA : Nat → ClassId) (zv : Nat → Nat) (sz : Nat) (sb vb : Nat) (ml : Int32) (ct n : Nat) (g : Nat → Int32) (v : Nat) (hn : n = 16 ∨ n = 34) (hct : ct ≤ n) (hfb : bfit n g) (hr34 : ct + 2 ≤ n) (h1v : 10 ≤ v) (h2v : v ≤ 99) : Met l yJ5_append_c97b9 wsJ5_append_c97b9 ({ frames := 1, cells := 0, slots := 0, locals := 26 }) (va_Pc [.ref sb, .int (nI v)] (zUX D cA zv sz [(sb, .inr (0, [.ref vb, .int 0, .int ml, .int (nI ct)])), (vb, .inl (cA 2, n, .inl g))])) (va_Qr (fun (u : (Nat → Int32)) => apd n u g ct [nI (48 + v / 10), nI (48 + v % 10)]) (fun (u : (Nat → Int32)) ra t => ra = sb ∧ zB D [(sb, .inr (0, [.ref vb, .int 0, .int ml, .int (nI ct)])), (vb, .inl (cA 2, n, .inl g))] sz [(sb, .inr (0, [.ref vb, .int 0, .int ml, .int (nI (ct + 2))])), (vb, .inl (cA 2, n, .inl u))] t) (va_A [(sb, .inr (0, [.ref vb, .int 0, .int ml, .int (nI ct)])), (vb, .inl (cA 2, n, .inl g))] sz)) 0 0 (va_A [(sb, .inr (0, [.ref vb, .int 0, .int ml, .int (nI ct)])), (vb, .inl (cA 2, n, .inl g))] sz) := by
  refine Met.ofW (cc := cJ5_append_c97b9) (maxL := 4) (ret := (some (.object "java/lang/AbstractStringBuilder"))) (by decide) rfl ?_
  intro p e s m args below meth c s₁ B hml hv
  obtain ⟨rfl, ⟨hsz, hP, hK, hD0, hE0⟩, hX0⟩ := hv
  have hx := B.exec
  have hb := B.bytes
  have hr := B.returns
  have hts := atoms_spec (ws := wsJ5_append_c97b9) B.pre
  have hown : s.vm.findClass RJ5 = some m.cls := findClass_of_methodNamed B.named
  have hlocks := B.notSynchronized
  subst hsz
  have hD := hD0.self (sz := s.heap.size)
  generalize hAe : va_A [(sb, .inr (0, [.ref vb, .int 0, .int ml, .int (nI ct)])), (vb, .inl (cA 2, n, .inl g))] s.heap.size = A at hD hE0 hX0 ⊢
  have hA : ∀ q : Nat, s.heap.size ≤ q → A q := fun q h => by rw [← hAe]; exact Or.inr h
  have hS : va_S A s.heap s.heap [] := va_S.rf
  have hl := lv_entry ([.ref sb, .int (nI v)]) (n := 4) (Nat.le_of_ble_eq_true rfl)
  rw [lg_entry_eq]
  generalize (lg_sl ([.ref sb, .int (nI v)]) ++ List.replicate (4 - (lg_sl ([.ref sb, .int (nI v)])).length) Slot.unset).toArray = ls at hl ⊢
  have hl : lv_has ls 4 [(0, .ref sb), (1, .int (nI v))] := hl
  have hn34 : n ≤ 34 := by omega
  refine lv_aload_n hx hb dJ5_append_c97b9_0 rfl (lv_at hl 0 rfl) ?_
  refine va_get (D := D) (ci := 0) (v := .int (nI ct)) (C := RJ4) (T := TJ4) (N := 4) hx hb hts (fun _ h => List.mem_cons_of_mem _ (List.mem_append_right _ (h))) hown hK hP 0 rfl rfl 3 (by decide) (hts (.fieldLink RJ5 79 "java/lang/AbstractStringBuilder" "count" "I") (List.mem_of_getElem? (i := 1) rfl)) (fun _ h9 => h9) rfl dJ5_append_c97b9_1 ?_
  refine lv_istore_n (lv' := [(2, .int (nI ct)), (0, .ref sb), (1, .int (nI v))]) hx hb dJ5_append_c97b9_4 rfl hl (by decide) rfl (fun ls hl => ?_)
  refine lv_iload_n hx hb dJ5_append_c97b9_5 rfl (lv_at hl 0 rfl) ?_
  refine lv_iload_n hx hb dJ5_append_c97b9_6 rfl (lv_at hl 2 rfl) ?_
  have hPc := hP.sub (ws' := []) [] rfl
  have hDc := hD.sub (ws' := []) [] (by decide) rfl
  have hFc := va_free (wc := []) hD hS hA [] rfl
  refine va_calli (va_runS (As := [.int (nI v)]) (rest := [.int (nI ct)]) ⟨hx, hb, hml, hown, hts⟩ (c_ss_b l D cA s.heap.size v h1v h2v) (va_cwS 1 hts gJ5_append_c97b9_J6_stringSize_0f7a4 rfl rfl rfl (by decide +kernel) ⟨Nat.le_of_ble_eq_true rfl, Nat.le_of_ble_eq_true rfl⟩) ⟨zU_blind, fun U hU hW => ⟨rfl, zU_call hU hPc hW.alike hK hDc⟩⟩ rfl rfl hl.1 rfl (lv_room (Nat.le_of_ble_eq_true rfl)) dJ5_append_c97b9_7 ⟨(Nat.zero_le _), (Nat.zero_le _)⟩) hS (fun q _ h => hFc q h) hFc (fun zr u t H1 locs ht hvm hw hB hz1 hk1 hS => ?_)
  obtain ⟨hP1, hD1⟩ := hB
  rw [ht] at hP1
  obtain ⟨hP, hD⟩ := va_join (wr := [(sb, .inr (0, [.ref vb, .int 0, .int ml, .int (nI ct)])), (vb, .inl (cA 2, n, .inl g))]) (w1 := []) hP hD [] [0, 1] rfl rfl (by decide) (by decide) hk1 hFc hP1 hD1
  generalize H1 = H at hP hS ⊢
  have hP := hP.sub (ws' := [(sb, .inr (0, [.ref vb, .int 0, .int ml, .int (nI ct)])), (vb, .inl (cA 2, n, .inl g))]) [0, 1] rfl
  have hD := hD.sub (ws' := [(sb, .inr (0, [.ref vb, .int 0, .int ml, .int (nI ct)])), (vb, .inl (cA 2, n, .inl g))]) [0, 1] (by decide) rfl
  clear hPc hDc hFc hP1 hD1 hk1 hz1
  have hw_1 := hw
  obtain rfl := hw
  refine lv_iadd hx hb dJ5_append_c97b9_10 ?_
  refine z_top (y := (nI (ct + 2))) (z_add ct 2) ?_
  refine lv_istore_n (lv' := [(3, .int (nI (ct + 2))), (2, .int (nI ct)), (0, .ref sb), (1, .int (nI v))]) hx hb dJ5_append_c97b9_11 rfl hl (by decide) rfl (fun ls hl => ?_)
  refine lv_aload_n hx hb dJ5_append_c97b9_12 rfl (lv_at hl 2 rfl) ?_
  refine lv_iload_n hx hb dJ5_append_c97b9_13 rfl (lv_at hl 0 rfl) ?_
  have hPc := hP.sub (ws' := [(sb, .inr (0, [.ref vb, .int 0, .int ml, .int (nI ct)])), (vb, .inl (cA 2, n, .inl g))]) [0, 1] rfl
  have hDc := hD.sub (ws' := [(sb, .inr (0, [.ref vb, .int 0, .int ml, .int (nI ct)])), (vb, .inl (cA 2, n, .inl g))]) [0, 1] (by decide) rfl
  have hFc := va_free (wc := [(sb, .inr (0, [.ref vb, .int 0, .int ml, .int (nI ct)])), (vb, .inl (cA 2, n, .inl g))]) hD hS hA [0, 1] rfl
  refine va_callv (va_runU (As := [.int (nI (ct + 2))]) (rest := []) ⟨hx, hb, hml, hown, hts⟩ (c_ens_k l D cA H.size sb vb ml ct n g (ct + 2) (by omega) (by omega) (by omega)) (va_cwU 1 hts gJ5_append_c97b9_J5_ensureCapacityInternal_d00df_u100J4 rfl rfl rfl rfl (by decide +kernel) ⟨Nat.le_of_ble_eq_true rfl, Nat.le_of_ble_eq_true rfl⟩) ⟨zU_blind, va_recv hK hPc (ci := 0) (q0 := 0) rfl rfl, fun U hU hW => ⟨rfl, zU_call hU hPc hW.alike hK hDc⟩⟩ rfl rfl hl.1 rfl (lv_room (Nat.le_of_ble_eq_true rfl)) dJ5_append_c97b9_14 ⟨(Nat.zero_le _), (Nat.zero_le _)⟩) hS (fun q _ h => hFc q h) hFc (fun u t H1 locs ht hvm hw hB hz1 hk1 hS => ?_)
  obtain ⟨hP1, hD1⟩ := hB
  rw [ht] at hP1
  obtain ⟨hP, hD⟩ := va_join (wr := []) (w1 := [(sb, .inr (0, [.ref vb, .int 0, .int ml, .int (nI ct)])), (vb, .inl (cA 2, n, .inl g))]) hP hD [0, 1] [] rfl rfl (by decide) (by decide) hk1 hFc hP1 hD1
  generalize H1 = H at hP hS ⊢
  have hP := hP.sub (ws' := [(sb, .inr (0, [.ref vb, .int 0, .int ml, .int (nI ct)])), (vb, .inl (cA 2, n, .inl g))]) [0, 1] rfl
  have hD := hD.sub (ws' := [(sb, .inr (0, [.ref vb, .int 0, .int ml, .int (nI ct)])), (vb, .inl (cA 2, n, .inl g))]) [0, 1] (by decide) rfl
  clear hPc hDc hFc hP1 hD1 hk1 hz1
  have hw_2 := hw
  refine lv_aload_n hx hb dJ5_append_c97b9_17 rfl (lv_at hl 2 rfl) ?_
  have hPc := hP.sub (ws' := [(sb, .inr (0, [.ref vb, .int 0, .int ml, .int (nI ct)]))]) [0] rfl
  have hDc := hD.sub (ws' := [(sb, .inr (0, [.ref vb, .int 0, .int ml, .int (nI ct)]))]) [0] (by decide) rfl
  have hFc := va_free (wc := [(sb, .inr (0, [.ref vb, .int 0, .int ml, .int (nI ct)]))]) hD hS hA [0] rfl
  refine va_calli (va_runU (As := []) (rest := []) ⟨hx, hb, hml, hown, hts⟩ (c_J5_isLatin1_aae02 l D cA zv H.size sb vb ml ct) (va_cwU 0 hts gJ5_append_c97b9_J5_isLatin1_aae02_u83J4 rfl rfl rfl rfl (by decide +kernel) ⟨Nat.le_of_ble_eq_true rfl, Nat.le_of_ble_eq_true rfl⟩) ⟨zUX_blind, va_recv hK hPc (ci := 0) (q0 := 0) rfl rfl, fun U hU hW => ⟨rfl, zUX_call hE0 hX0 hS hFc hU hPc hW hK hDc⟩⟩ rfl rfl hl.1 rfl (lv_room (Nat.le_of_ble_eq_true rfl)) dJ5_append_c97b9_18 ⟨(Nat.zero_le _), (Nat.zero_le _)⟩) hS (fun q _ h => hFc q h) hFc (fun zr u t H1 locs ht hvm hw hB hz1 hk1 hS => ?_)
  obtain ⟨hP1, hD1⟩ := hB
  rw [ht] at hP1
  obtain ⟨hP, hD⟩ := va_join (wr := [(vb, .inl (cA 2, n, .inl g))]) (w1 := [(sb, .inr (0, [.ref vb, .int 0, .int ml, .int (nI ct)]))]) hP hD [0] [1] rfl rfl (by decide) (by decide) hk1 hFc hP1 hD1
  generalize H1 = H at hP hS ⊢
  have hP := hP.sub (ws' := [(sb, .inr (0, [.ref vb, .int 0, .int ml, .int (nI ct)])), (vb, .inl (cA 2, n, .inl g))]) [1, 0] rfl
  have hD := hD.sub (ws' := [(sb, .inr (0, [.ref vb, .int 0, .int ml, .int (nI ct)])), (vb, .inl (cA 2, n, .inl g))]) [1, 0] (by decide) rfl
  clear hPc hDc hFc hP1 hD1 hk1 hz1
  have hw_3 := hw
  obtain rfl := hw
  refine lv_if_eq (tgt := 37) hx hb dJ5_append_c97b9_21 (by decide) (fun c_4 => absurd c_4 (by decide)) (fun _ => ?_)
  refine lv_iload_n hx hb dJ5_append_c97b9_24 rfl (lv_at hl 3 rfl) ?_
  refine lv_iload_n hx hb dJ5_append_c97b9_25 rfl (lv_at hl 0 rfl) ?_
  refine lv_aload_n hx hb dJ5_append_c97b9_26 rfl (lv_at hl 2 rfl) ?_
  refine va_get (D := D) (ci := 0) (v := .ref vb) (C := RJ4) (T := TJ4) (N := 4) hx hb hts (fun _ h => List.mem_cons_of_mem _ (List.mem_append_right _ (h))) hown hK hP 0 rfl rfl 0 (by decide) (hts (.fieldLink RJ5 15 "java/lang/AbstractStringBuilder" "value" "[B") (List.mem_of_getElem? (i := 2) rfl)) (fun _ h9 => h9) rfl dJ5_append_c97b9_27 ?_
  have hPc := hP.sub (ws' := [(vb, .inl (cA 2, n, .inl g))]) [1] rfl
  have hDc := hD.sub (ws' := [(vb, .inl (cA 2, n, .inl g))]) [1] (by decide) rfl
  have hFc := va_free (wc := [(vb, .inl (cA 2, n, .inl g))]) hD hS hA [1] rfl
  refine va_calli (va_runS (As := [.int (nI v), .int (nI (ct + 2)), .ref vb]) (rest := []) ⟨hx, hb, hml, hown, hts⟩ (c_gc_b l D cA zv H.size v vb ct n g h1v h2v (by omega) (by omega)) (va_cwS 3 hts gJ5_append_c97b9_J6_getChars_ba4f3 rfl rfl rfl (by decide +kernel) ⟨Nat.le_of_ble_eq_true rfl, Nat.le_of_ble_eq_true rfl⟩) ⟨zUX_blind, fun U hU hW => ⟨rfl, zUX_call hE0 hX0 hS hFc hU hPc hW hK hDc⟩⟩ rfl rfl hl.1 rfl (lv_room (Nat.le_of_ble_eq_true rfl)) dJ5_append_c97b9_30 ⟨(Nat.zero_le _), (Nat.zero_le _)⟩) hS (fun q _ h => hFc q h) hFc (fun zr u t H1 locs ht hvm hw hB hz1 hk1 hS => ?_)
  obtain ⟨hP1, hD1⟩ := hB
  rw [ht] at hP1
  obtain ⟨hP, hD⟩ := va_join (wr := [(sb, .inr (0, [.ref vb, .int 0, .int ml, .int (nI ct)]))]) (w1 := [(vb, .inl (cA 2, n, .inl (upd (upd g (ct + 1) (nI (48 + v % 10))) ct (nI (48 + v / 10)))))]) hP hD [1] [0] rfl rfl (by decide) (by decide) hk1 hFc hP1 hD1
  generalize H1 = H at hP hS ⊢
  have hP := hP.sub (ws' := [(sb, .inr (0, [.ref vb, .int 0, .int ml, .int (nI ct)])), (vb, .inl (cA 2, n, .inl (upd (upd g (ct + 1) (nI (48 + v % 10))) ct (nI (48 + v / 10)))))]) [0, 1] rfl
  have hD := hD.sub (ws' := [(sb, .inr (0, [.ref vb, .int 0, .int ml, .int (nI ct)])), (vb, .inl (cA 2, n, .inl (upd (upd g (ct + 1) (nI (48 + v % 10))) ct (nI (48 + v / 10)))))]) [0, 1] (by decide) rfl
  clear hPc hDc hFc hP1 hD1 hk1 hz1
  have hw_5 := hw
  obtain rfl := hw
  refine lv_pop hx hb dJ5_append_c97b9_33 rfl ?_
  refine lv_goto (tgt := 48) hx hb dJ5_append_c97b9_34 (by decide) ?_
  refine lv_aload_n hx hb dJ5_append_c97b9_48 rfl (lv_at hl 2 rfl) ?_
  refine lv_iload_n hx hb dJ5_append_c97b9_49 rfl (lv_at hl 0 rfl) ?_
  refine va_put (D := D) (ci := 0) (v := .int (nI (ct + 2))) (ty := .int) (C := RJ4) (T := TJ4) (N := 4) hx hb hts (fun _ h => List.mem_cons_of_mem _ (List.mem_append_right _ (h))) tyJ4 tyJ4_ok nmJ4 hown hK hP hD hS 0 rfl rfl 3 (by decide) (hts (.fieldLink RJ5 79 "java/lang/AbstractStringBuilder" "count" "I") (List.mem_of_getElem? (i := 1) rfl)) (fun _ h9 => h9) rfl (by decide +kernel) rfl rfl (Nat.le_of_ble_eq_true rfl) dJ5_append_c97b9_50 (fun H locs hP hD hS => ?_)
  have hP : va_P D vwCl [(sb, .inr (0, [.ref vb, .int 0, .int ml, .int (nI (ct + 2))])), (vb, .inl (cA 2, n, .inl (upd (upd g (ct + 1) (nI (48 + v % 10))) ct (nI (48 + v / 10)))))] H := hP
  have hD : va_D A [(sb, .inr (0, [.ref vb, .int 0, .int ml, .int (nI (ct + 2))])), (vb, .inl (cA 2, n, .inl (upd (upd g (ct + 1) (nI (48 + v % 10))) ct (nI (48 + v / 10)))))] := hD
  refine lv_aload_n hx hb dJ5_append_c97b9_53 rfl (lv_at hl 2 rfl) ?_
  refine W.widen (k := 0) (n := 0) (by omega) (by omega) ?_
  exact W.aret (v := .ref sb) hx hb hr (Or.inl ⟨_, rfl⟩) (Or.inr ⟨_, rfl⟩) (fun t ht hW => ⟨⟨((upd (upd g (ct + 1) (nI (48 + v % 10))) ct (nI (48 + v / 10)))), sb, rfl, apd_2 hn (by omega) hfb (fun _ _ => rfl) (fitd (by omega)) (fitd (by omega)), ⟨rfl, ⟨by rw [ht]; exact hP, by rw [hAe]; exact hD⟩⟩⟩, hS.F ht⟩) hS.2.2 dJ5_append_c97b9_54
set_option maxHeartbeats 4000000 in
set_option maxRecDepth 100000 in
theorem c_n_ai4b (l : Launch) (D : va_G) (cA : Nat → ClassId) (zv : Nat → Nat) (sz : Nat) (sb vb : Nat) (ml : Int32) (ct n : Nat) (g : Nat → Int32) (v : Nat) (hn : n = 16 ∨ n = 34) (hct : ct ≤ n) (hfb : bfit n g) (hr34 : ct + 2 ≤ n) (h1v : 10 ≤ v) (h2v : v ≤ 99) : Met l yJ4_append_bf812 wsJ4_append_bf812 ({ frames := 2, cells := 0, slots := 0, locals := 49 }) (va_Pc [.ref sb, .int (nI v)] (zUX D cA zv sz [(sb, .inr (0, [.ref vb, .int 0, .int ml, .int (nI ct)])), (vb, .inl (cA 2, n, .inl g))])) (va_Qr (fun (u : (Nat → Int32)) => apd n u g ct [nI (48 + v / 10), nI (48 + v % 10)]) (fun (u : (Nat → Int32)) ra t => ra = sb ∧ zB D [(sb, .inr (0, [.ref vb, .int 0, .int ml, .int (nI ct)])), (vb, .inl (cA 2, n, .inl g))] sz [(sb, .inr (0, [.ref vb, .int 0, .int ml, .int (nI (ct + 2))])), (vb, .inl (cA 2, n, .inl u))] t) (va_A [(sb, .inr (0, [.ref vb, .int 0, .int ml, .int (nI ct)])), (vb, .inl (cA 2, n, .inl g))] sz)) 0 0 (va_A [(sb, .inr (0, [.ref vb, .int 0, .int ml, .int (nI ct)])), (vb, .inl (cA 2, n, .inl g))] sz) := by
  refine Met.ofW (cc := cJ4_append_bf812) (maxL := 2) (ret := (some (.object "java/lang/StringBuilder"))) (by decide) rfl ?_
  intro p e s m args below meth c s₁ B hml hv
  obtain ⟨rfl, ⟨hsz, hP, hK, hD0, hE0⟩, hX0⟩ := hv
  have hx := B.exec
  have hb := B.bytes
  have hr := B.returns
  have hts := atoms_spec (ws := wsJ4_append_bf812) B.pre
  have hown : s.vm.findClass RJ4 = some m.cls := findClass_of_methodNamed B.named
  have hlocks := B.notSynchronized
  subst hsz
  have hD := hD0.self (sz := s.heap.size)
  generalize hAe : va_A [(sb, .inr (0, [.ref vb, .int 0, .int ml, .int (nI ct)])), (vb, .inl (cA 2, n, .inl g))] s.heap.size = A at hD hE0 hX0 ⊢
  have hA : ∀ q : Nat, s.heap.size ≤ q → A q := fun q h => by rw [← hAe]; exact Or.inr h
  have hS : va_S A s.heap s.heap [] := va_S.rf
  have hl := lv_entry ([.ref sb, .int (nI v)]) (n := 2) (Nat.le_of_ble_eq_true rfl)
  rw [lg_entry_eq]
  generalize (lg_sl ([.ref sb, .int (nI v)]) ++ List.replicate (2 - (lg_sl ([.ref sb, .int (nI v)])).length) Slot.unset).toArray = ls at hl ⊢
  have hl : lv_has ls 2 [(0, .ref sb), (1, .int (nI v))] := hl
  refine lv_aload_n hx hb dJ4_append_bf812_0 rfl (lv_at hl 0 rfl) ?_
  refine lv_iload_n hx hb dJ4_append_bf812_1 rfl (lv_at hl 1 rfl) ?_
  have hPc := hP.sub (ws' := [(sb, .inr (0, [.ref vb, .int 0, .int ml, .int (nI ct)])), (vb, .inl (cA 2, n, .inl g))]) [0, 1] rfl
  have hDc := hD.sub (ws' := [(sb, .inr (0, [.ref vb, .int 0, .int ml, .int (nI ct)])), (vb, .inl (cA 2, n, .inl g))]) [0, 1] (by decide) rfl
  have hFc := va_free (wc := [(sb, .inr (0, [.ref vb, .int 0, .int ml, .int (nI ct)])), (vb, .inl (cA 2, n, .inl g))]) hD hS hA [0, 1] rfl
  refine va_callr (va_runSU (As := [.int (nI v)]) (rest := []) (hK.1 0 _ rfl).2 ⟨hx, hb, hml, hown, hts⟩ (c_n_ai5b l D cA zv s.heap.size sb vb ml ct n g v (by assumption) (by assumption) (by assumption) (by assumption) (by assumption) (by assumption)) (va_cwSU 1 hts gJ4_append_bf812_J5_append_c97b9_s53 rfl rfl rfl (by decide +kernel) ⟨Nat.le_of_ble_eq_true rfl, Nat.le_of_ble_eq_true rfl⟩) ⟨zUX_blind, va_recv hK hPc (ci := 0) (q0 := 0) rfl rfl, fun U hU hW => ⟨rfl, zUX_call hE0 hX0 hS hFc hU hPc hW hK hDc⟩⟩ rfl rfl hl.1 rfl (lv_room (Nat.le_of_ble_eq_true rfl)) dJ4_append_bf812_2 ⟨(Nat.zero_le _), (Nat.zero_le _)⟩) hS (fun q _ h => hFc q h) hFc (fun u ra t H1 locs ht hvm hw hB hz1 hk1 hS => ?_)
  obtain ⟨g'_1, rfl⟩ : ∃ z, z = u := ⟨_, rfl⟩
  obtain ⟨hra, hP1, hD1⟩ := hB
  rw [ht] at hP1
  try dsimp only at hw hP1 hD1 hra
  subst ra
  obtain ⟨hP, hD⟩ := va_join (wr := []) (w1 := [(sb, .inr (0, [.ref vb, .int 0, .int ml, .int (nI (ct + 2))])), (vb, .inl (cA 2, n, .inl g'_1))]) hP hD [0, 1] [] rfl rfl (by decide) (by decide) hk1 hFc hP1 hD1
  generalize H1 = H at hP hS ⊢
  have hP := hP.sub (ws' := [(sb, .inr (0, [.ref vb, .int 0, .int ml, .int (nI (ct + 2))])), (vb, .inl (cA 2, n, .inl g'_1))]) [0, 1] rfl
  have hD := hD.sub (ws' := [(sb, .inr (0, [.ref vb, .int 0, .int ml, .int (nI (ct + 2))])), (vb, .inl (cA 2, n, .inl g'_1))]) [0, 1] (by decide) rfl
  clear hPc hDc hFc hP1 hD1 hk1 hz1
  have hw_1 := hw
  refine lv_pop hx hb dJ4_append_bf812_5 rfl ?_
  refine lv_aload_n hx hb dJ4_append_bf812_6 rfl (lv_at hl 0 rfl) ?_
  refine W.widen (k := 0) (n := 0) (by omega) (by omega) ?_
  exact W.aret (v := .ref sb) hx hb hr (Or.inl ⟨_, rfl⟩) (Or.inr ⟨_, rfl⟩) (fun t ht hW => ⟨⟨(g'_1), sb, rfl, hw_1, ⟨rfl, ⟨by rw [ht]; exact hP, by rw [hAe]; exact hD⟩⟩⟩, hS.F ht⟩) hS.2.2 dJ4_append_bf812_7
set_option maxHeartbeats 4000000 in
set_option maxRecDepth 100000 in
theorem c_n_ai5c (l : Launch) (D : va_G) (cA : Nat → ClassId) (zv : Nat → Nat) (sz : Nat) (sb vb : Nat) (ml : Int32) (ct n : Nat) (g : Nat → Int32) (hn : n = 16 ∨ n = 34) (hct : ct ≤ n) (hfb : bfit n g) (hr34 : ct + 3 ≤ n) : Met l yJ5_append_c97b9 wsJ5_append_c97b9 ({ frames := 1, cells := 0, slots := 0, locals := 26 }) (va_Pc [.ref sb, .int 100] (zUX D cA zv sz [(sb, .inr (0, [.ref vb, .int 0, .int ml, .int (nI ct)])), (vb, .inl (cA 2, n, .inl g))])) (va_Qr (fun (u : (Nat → Int32)) => apd n u g ct [49, 48, 48]) (fun (u : (Nat → Int32)) ra t => ra = sb ∧ zB D [(sb, .inr (0, [.ref vb, .int 0, .int ml, .int (nI ct)])), (vb, .inl (cA 2, n, .inl g))] sz [(sb, .inr (0, [.ref vb, .int 0, .int ml, .int (nI (ct + 3))])), (vb, .inl (cA 2, n, .inl u))] t) (va_A [(sb, .inr (0, [.ref vb, .int 0, .int ml, .int (nI ct)])), (vb, .inl (cA 2, n, .inl g))] sz)) 0 0 (va_A [(sb, .inr (0, [.ref vb, .int 0, .int ml, .int (nI ct)])), (vb, .inl (cA 2, n, .inl g))] sz) := by
  refine Met.ofW (cc := cJ5_append_c97b9) (maxL := 4) (ret := (some (.object "java/lang/AbstractStringBuilder"))) (by decide) rfl ?_
  intro p e s m args below meth c s₁ B hml hv
  obtain ⟨rfl, ⟨hsz, hP, hK, hD0, hE0⟩, hX0⟩ := hv
  have hx := B.exec
  have hb := B.bytes
  have hr := B.returns
  have hts := atoms_spec (ws := wsJ5_append_c97b9) B.pre
  have hown : s.vm.findClass RJ5 = some m.cls := findClass_of_methodNamed B.named
  have hlocks := B.notSynchronized
  subst hsz
  have hD := hD0.self (sz := s.heap.size)
  generalize hAe : va_A [(sb, .inr (0, [.ref vb, .int 0, .int ml, .int (nI ct)])), (vb, .inl (cA 2, n, .inl g))] s.heap.size = A at hD hE0 hX0 ⊢
  have hA : ∀ q : Nat, s.heap.size ≤ q → A q := fun q h => by rw [← hAe]; exact Or.inr h
  have hS : va_S A s.heap s.heap [] := va_S.rf
  have hl := lv_entry ([.ref sb, .int 100]) (n := 4) (Nat.le_of_ble_eq_true rfl)
  rw [lg_entry_eq]
  generalize (lg_sl ([.ref sb, .int 100]) ++ List.replicate (4 - (lg_sl ([.ref sb, .int 100])).length) Slot.unset).toArray = ls at hl ⊢
  have hl : lv_has ls 4 [(0, .ref sb), (1, .int 100)] := hl
  have hn34 : n ≤ 34 := by omega
  refine lv_aload_n hx hb dJ5_append_c97b9_0 rfl (lv_at hl 0 rfl) ?_
  refine va_get (D := D) (ci := 0) (v := .int (nI ct)) (C := RJ4) (T := TJ4) (N := 4) hx hb hts (fun _ h => List.mem_cons_of_mem _ (List.mem_append_right _ (h))) hown hK hP 0 rfl rfl 3 (by decide) (hts (.fieldLink RJ5 79 "java/lang/AbstractStringBuilder" "count" "I") (List.mem_of_getElem? (i := 1) rfl)) (fun _ h9 => h9) rfl dJ5_append_c97b9_1 ?_
  refine lv_istore_n (lv' := [(2, .int (nI ct)), (0, .ref sb), (1, .int 100)]) hx hb dJ5_append_c97b9_4 rfl hl (by decide) rfl (fun ls hl => ?_)
  refine lv_iload_n hx hb dJ5_append_c97b9_5 rfl (lv_at hl 0 rfl) ?_
  refine lv_iload_n hx hb dJ5_append_c97b9_6 rfl (lv_at hl 2 rfl) ?_
  have hPc := hP.sub (ws' := []) [] rfl
  have hDc := hD.sub (ws' := []) [] (by decide) rfl
  have hFc := va_free (wc := []) hD hS hA [] rfl
  refine va_calli (va_runS (As := [.int 100]) (rest := [.int (nI ct)]) ⟨hx, hb, hml, hown, hts⟩ (c_ss_h l D cA s.heap.size ) (va_cwS 1 hts gJ5_append_c97b9_J6_stringSize_0f7a4 rfl rfl rfl (by decide +kernel) ⟨Nat.le_of_ble_eq_true rfl, Nat.le_of_ble_eq_true rfl⟩) ⟨zU_blind, fun U hU hW => ⟨rfl, zU_call hU hPc hW.alike hK hDc⟩⟩ rfl rfl hl.1 rfl (lv_room (Nat.le_of_ble_eq_true rfl)) dJ5_append_c97b9_7 ⟨(Nat.zero_le _), (Nat.zero_le _)⟩) hS (fun q _ h => hFc q h) hFc (fun zr u t H1 locs ht hvm hw hB hz1 hk1 hS => ?_)
  obtain ⟨hP1, hD1⟩ := hB
  rw [ht] at hP1
  obtain ⟨hP, hD⟩ := va_join (wr := [(sb, .inr (0, [.ref vb, .int 0, .int ml, .int (nI ct)])), (vb, .inl (cA 2, n, .inl g))]) (w1 := []) hP hD [] [0, 1] rfl rfl (by decide) (by decide) hk1 hFc hP1 hD1
  generalize H1 = H at hP hS ⊢
  have hP := hP.sub (ws' := [(sb, .inr (0, [.ref vb, .int 0, .int ml, .int (nI ct)])), (vb, .inl (cA 2, n, .inl g))]) [0, 1] rfl
  have hD := hD.sub (ws' := [(sb, .inr (0, [.ref vb, .int 0, .int ml, .int (nI ct)])), (vb, .inl (cA 2, n, .inl g))]) [0, 1] (by decide) rfl
  clear hPc hDc hFc hP1 hD1 hk1 hz1
  have hw_1 := hw
  obtain rfl := hw
  refine lv_iadd hx hb dJ5_append_c97b9_10 ?_
  refine z_top (y := (nI (ct + 3))) (z_add ct 3) ?_
  refine lv_istore_n (lv' := [(3, .int (nI (ct + 3))), (2, .int (nI ct)), (0, .ref sb), (1, .int 100)]) hx hb dJ5_append_c97b9_11 rfl hl (by decide) rfl (fun ls hl => ?_)
  refine lv_aload_n hx hb dJ5_append_c97b9_12 rfl (lv_at hl 2 rfl) ?_
  refine lv_iload_n hx hb dJ5_append_c97b9_13 rfl (lv_at hl 0 rfl) ?_
  have hPc := hP.sub (ws' := [(sb, .inr (0, [.ref vb, .int 0, .int ml, .int (nI ct)])), (vb, .inl (cA 2, n, .inl g))]) [0, 1] rfl
  have hDc := hD.sub (ws' := [(sb, .inr (0, [.ref vb, .int 0, .int ml, .int (nI ct)])), (vb, .inl (cA 2, n, .inl g))]) [0, 1] (by decide) rfl
  have hFc := va_free (wc := [(sb, .inr (0, [.ref vb, .int 0, .int ml, .int (nI ct)])), (vb, .inl (cA 2, n, .inl g))]) hD hS hA [0, 1] rfl
  refine va_callv (va_runU (As := [.int (nI (ct + 3))]) (rest := []) ⟨hx, hb, hml, hown, hts⟩ (c_ens_k l D cA H.size sb vb ml ct n g (ct + 3) (by omega) (by omega) (by omega)) (va_cwU 1 hts gJ5_append_c97b9_J5_ensureCapacityInternal_d00df_u100J4 rfl rfl rfl rfl (by decide +kernel) ⟨Nat.le_of_ble_eq_true rfl, Nat.le_of_ble_eq_true rfl⟩) ⟨zU_blind, va_recv hK hPc (ci := 0) (q0 := 0) rfl rfl, fun U hU hW => ⟨rfl, zU_call hU hPc hW.alike hK hDc⟩⟩ rfl rfl hl.1 rfl (lv_room (Nat.le_of_ble_eq_true rfl)) dJ5_append_c97b9_14 ⟨(Nat.zero_le _), (Nat.zero_le _)⟩) hS (fun q _ h => hFc q h) hFc (fun u t H1 locs ht hvm hw hB hz1 hk1 hS => ?_)
  obtain ⟨hP1, hD1⟩ := hB
  rw [ht] at hP1
  obtain ⟨hP, hD⟩ := va_join (wr := []) (w1 := [(sb, .inr (0, [.ref vb, .int 0, .int ml, .int (nI ct)])), (vb, .inl (cA 2, n, .inl g))]) hP hD [0, 1] [] rfl rfl (by decide) (by decide) hk1 hFc hP1 hD1
  generalize H1 = H at hP hS ⊢
  have hP := hP.sub (ws' := [(sb, .inr (0, [.ref vb, .int 0, .int ml, .int (nI ct)])), (vb, .inl (cA 2, n, .inl g))]) [0, 1] rfl
  have hD := hD.sub (ws' := [(sb, .inr (0, [.ref vb, .int 0, .int ml, .int (nI ct)])), (vb, .inl (cA 2, n, .inl g))]) [0, 1] (by decide) rfl
  clear hPc hDc hFc hP1 hD1 hk1 hz1
  have hw_2 := hw
  refine lv_aload_n hx hb dJ5_append_c97b9_17 rfl (lv_at hl 2 rfl) ?_
  have hPc := hP.sub (ws' := [(sb, .inr (0, [.ref vb, .int 0, .int ml, .int (nI ct)]))]) [0] rfl
  have hDc := hD.sub (ws' := [(sb, .inr (0, [.ref vb, .int 0, .int ml, .int (nI ct)]))]) [0] (by decide) rfl
  have hFc := va_free (wc := [(sb, .inr (0, [.ref vb, .int 0, .int ml, .int (nI ct)]))]) hD hS hA [0] rfl
  refine va_calli (va_runU (As := []) (rest := []) ⟨hx, hb, hml, hown, hts⟩ (c_J5_isLatin1_aae02 l D cA zv H.size sb vb ml ct) (va_cwU 0 hts gJ5_append_c97b9_J5_isLatin1_aae02_u83J4 rfl rfl rfl rfl (by decide +kernel) ⟨Nat.le_of_ble_eq_true rfl, Nat.le_of_ble_eq_true rfl⟩) ⟨zUX_blind, va_recv hK hPc (ci := 0) (q0 := 0) rfl rfl, fun U hU hW => ⟨rfl, zUX_call hE0 hX0 hS hFc hU hPc hW hK hDc⟩⟩ rfl rfl hl.1 rfl (lv_room (Nat.le_of_ble_eq_true rfl)) dJ5_append_c97b9_18 ⟨(Nat.zero_le _), (Nat.zero_le _)⟩) hS (fun q _ h => hFc q h) hFc (fun zr u t H1 locs ht hvm hw hB hz1 hk1 hS => ?_)
  obtain ⟨hP1, hD1⟩ := hB
  rw [ht] at hP1
  obtain ⟨hP, hD⟩ := va_join (wr := [(vb, .inl (cA 2, n, .inl g))]) (w1 := [(sb, .inr (0, [.ref vb, .int 0, .int ml, .int (nI ct)]))]) hP hD [0] [1] rfl rfl (by decide) (by decide) hk1 hFc hP1 hD1
  generalize H1 = H at hP hS ⊢
  have hP := hP.sub (ws' := [(sb, .inr (0, [.ref vb, .int 0, .int ml, .int (nI ct)])), (vb, .inl (cA 2, n, .inl g))]) [1, 0] rfl
  have hD := hD.sub (ws' := [(sb, .inr (0, [.ref vb, .int 0, .int ml, .int (nI ct)])), (vb, .inl (cA 2, n, .inl g))]) [1, 0] (by decide) rfl
  clear hPc hDc hFc hP1 hD1 hk1 hz1
  have hw_3 := hw
  obtain rfl := hw
  refine lv_if_eq (tgt := 37) hx hb dJ5_append_c97b9_21 (by decide) (fun c_4 => absurd c_4 (by decide)) (fun _ => ?_)
  refine lv_iload_n hx hb dJ5_append_c97b9_24 rfl (lv_at hl 3 rfl) ?_
  refine lv_iload_n hx hb dJ5_append_c97b9_25 rfl (lv_at hl 0 rfl) ?_
  refine lv_aload_n hx hb dJ5_append_c97b9_26 rfl (lv_at hl 2 rfl) ?_
  refine va_get (D := D) (ci := 0) (v := .ref vb) (C := RJ4) (T := TJ4) (N := 4) hx hb hts (fun _ h => List.mem_cons_of_mem _ (List.mem_append_right _ (h))) hown hK hP 0 rfl rfl 0 (by decide) (hts (.fieldLink RJ5 15 "java/lang/AbstractStringBuilder" "value" "[B") (List.mem_of_getElem? (i := 2) rfl)) (fun _ h9 => h9) rfl dJ5_append_c97b9_27 ?_
  have hPc := hP.sub (ws' := [(vb, .inl (cA 2, n, .inl g))]) [1] rfl
  have hDc := hD.sub (ws' := [(vb, .inl (cA 2, n, .inl g))]) [1] (by decide) rfl
  have hFc := va_free (wc := [(vb, .inl (cA 2, n, .inl g))]) hD hS hA [1] rfl
  refine va_calli (va_runS (As := [.int 100, .int (nI (ct + 3)), .ref vb]) (rest := []) ⟨hx, hb, hml, hown, hts⟩ (c_gc_c l D cA zv H.size vb ct n g (by omega) (by omega)) (va_cwS 3 hts gJ5_append_c97b9_J6_getChars_ba4f3 rfl rfl rfl (by decide +kernel) ⟨Nat.le_of_ble_eq_true rfl, Nat.le_of_ble_eq_true rfl⟩) ⟨zUX_blind, fun U hU hW => ⟨rfl, zUX_call hE0 hX0 hS hFc hU hPc hW hK hDc⟩⟩ rfl rfl hl.1 rfl (lv_room (Nat.le_of_ble_eq_true rfl)) dJ5_append_c97b9_30 ⟨(Nat.zero_le _), (Nat.zero_le _)⟩) hS (fun q _ h => hFc q h) hFc (fun zr u t H1 locs ht hvm hw hB hz1 hk1 hS => ?_)
  obtain ⟨hP1, hD1⟩ := hB
  rw [ht] at hP1
  obtain ⟨hP, hD⟩ := va_join (wr := [(sb, .inr (0, [.ref vb, .int 0, .int ml, .int (nI ct)]))]) (w1 := [(vb, .inl (cA 2, n, .inl (upd (upd (upd g (ct + 2) (nI (48 + 0 % 10))) (ct + 1) (nI (48 + 0 / 10))) ct (nI (48 + 1 % 10)))))]) hP hD [1] [0] rfl rfl (by decide) (by decide) hk1 hFc hP1 hD1
  generalize H1 = H at hP hS ⊢
  have hP := hP.sub (ws' := [(sb, .inr (0, [.ref vb, .int 0, .int ml, .int (nI ct)])), (vb, .inl (cA 2, n, .inl (upd (upd (upd g (ct + 2) (nI (48 + 0 % 10))) (ct + 1) (nI (48 + 0 / 10))) ct (nI (48 + 1 % 10)))))]) [0, 1] rfl
  have hD := hD.sub (ws' := [(sb, .inr (0, [.ref vb, .int 0, .int ml, .int (nI ct)])), (vb, .inl (cA 2, n, .inl (upd (upd (upd g (ct + 2) (nI (48 + 0 % 10))) (ct + 1) (nI (48 + 0 / 10))) ct (nI (48 + 1 % 10)))))]) [0, 1] (by decide) rfl
  clear hPc hDc hFc hP1 hD1 hk1 hz1
  have hw_5 := hw
  obtain rfl := hw
  refine lv_pop hx hb dJ5_append_c97b9_33 rfl ?_
  refine lv_goto (tgt := 48) hx hb dJ5_append_c97b9_34 (by decide) ?_
  refine lv_aload_n hx hb dJ5_append_c97b9_48 rfl (lv_at hl 2 rfl) ?_
  refine lv_iload_n hx hb dJ5_append_c97b9_49 rfl (lv_at hl 0 rfl) ?_
  refine va_put (D := D) (ci := 0) (v := .int (nI (ct + 3))) (ty := .int) (C := RJ4) (T := TJ4) (N := 4) hx hb hts (fun _ h => List.mem_cons_of_mem _ (List.mem_append_right _ (h))) tyJ4 tyJ4_ok nmJ4 hown hK hP hD hS 0 rfl rfl 3 (by decide) (hts (.fieldLink RJ5 79 "java/lang/AbstractStringBuilder" "count" "I") (List.mem_of_getElem? (i := 1) rfl)) (fun _ h9 => h9) rfl (by decide +kernel) rfl rfl (Nat.le_of_ble_eq_true rfl) dJ5_append_c97b9_50 (fun H locs hP hD hS => ?_)
  have hP : va_P D vwCl [(sb, .inr (0, [.ref vb, .int 0, .int ml, .int (nI (ct + 3))])), (vb, .inl (cA 2, n, .inl (upd (upd (upd g (ct + 2) (nI (48 + 0 % 10))) (ct + 1) (nI (48 + 0 / 10))) ct (nI (48 + 1 % 10)))))] H := hP
  have hD : va_D A [(sb, .inr (0, [.ref vb, .int 0, .int ml, .int (nI (ct + 3))])), (vb, .inl (cA 2, n, .inl (upd (upd (upd g (ct + 2) (nI (48 + 0 % 10))) (ct + 1) (nI (48 + 0 / 10))) ct (nI (48 + 1 % 10)))))] := hD
  refine lv_aload_n hx hb dJ5_append_c97b9_53 rfl (lv_at hl 2 rfl) ?_
  refine W.widen (k := 0) (n := 0) (by omega) (by omega) ?_
  exact W.aret (v := .ref sb) hx hb hr (Or.inl ⟨_, rfl⟩) (Or.inr ⟨_, rfl⟩) (fun t ht hW => ⟨⟨((upd (upd (upd g (ct + 2) (nI (48 + 0 % 10))) (ct + 1) (nI (48 + 0 / 10))) ct (nI (48 + 1 % 10)))), sb, rfl, apd_3 hn (by omega) hfb (fun _ _ => rfl), ⟨rfl, ⟨by rw [ht]; exact hP, by rw [hAe]; exact hD⟩⟩⟩, hS.F ht⟩) hS.2.2 dJ5_append_c97b9_54
set_option maxHeartbeats 4000000 in
set_option maxRecDepth 100000 in
theorem c_n_ai4c (l : Launch) (D : va_G) (cA : Nat → ClassId) (zv : Nat → Nat) (sz : Nat) (sb vb : Nat) (ml : Int32) (ct n : Nat) (g : Nat → Int32) (hn : n = 16 ∨ n = 34) (hct : ct ≤ n) (hfb : bfit n g) (hr34 : ct + 3 ≤ n) : Met l yJ4_append_bf812 wsJ4_append_bf812 ({ frames := 2, cells := 0, slots := 0, locals := 49 }) (va_Pc [.ref sb, .int 100] (zUX D cA zv sz [(sb, .inr (0, [.ref vb, .int 0, .int ml, .int (nI ct)])), (vb, .inl (cA 2, n, .inl g))])) (va_Qr (fun (u : (Nat → Int32)) => apd n u g ct [49, 48, 48]) (fun (u : (Nat → Int32)) ra t => ra = sb ∧ zB D [(sb, .inr (0, [.ref vb, .int 0, .int ml, .int (nI ct)])), (vb, .inl (cA 2, n, .inl g))] sz [(sb, .inr (0, [.ref vb, .int 0, .int ml, .int (nI (ct + 3))])), (vb, .inl (cA 2, n, .inl u))] t) (va_A [(sb, .inr (0, [.ref vb, .int 0, .int ml, .int (nI ct)])), (vb, .inl (cA 2, n, .inl g))] sz)) 0 0 (va_A [(sb, .inr (0, [.ref vb, .int 0, .int ml, .int (nI ct)])), (vb, .inl (cA 2, n, .inl g))] sz) := by
  refine Met.ofW (cc := cJ4_append_bf812) (maxL := 2) (ret := (some (.object "java/lang/StringBuilder"))) (by decide) rfl ?_
  intro p e s m args below meth c s₁ B hml hv
  obtain ⟨rfl, ⟨hsz, hP, hK, hD0, hE0⟩, hX0⟩ := hv
  have hx := B.exec
  have hb := B.bytes
  have hr := B.returns
  have hts := atoms_spec (ws := wsJ4_append_bf812) B.pre
  have hown : s.vm.findClass RJ4 = some m.cls := findClass_of_methodNamed B.named
  have hlocks := B.notSynchronized
  subst hsz
  have hD := hD0.self (sz := s.heap.size)
  generalize hAe : va_A [(sb, .inr (0, [.ref vb, .int 0, .int ml, .int (nI ct)])), (vb, .inl (cA 2, n, .inl g))] s.heap.size = A at hD hE0 hX0 ⊢
  have hA : ∀ q : Nat, s.heap.size ≤ q → A q := fun q h => by rw [← hAe]; exact Or.inr h
  have hS : va_S A s.heap s.heap [] := va_S.rf
  have hl := lv_entry ([.ref sb, .int 100]) (n := 2) (Nat.le_of_ble_eq_true rfl)
  rw [lg_entry_eq]
  generalize (lg_sl ([.ref sb, .int 100]) ++ List.replicate (2 - (lg_sl ([.ref sb, .int 100])).length) Slot.unset).toArray = ls at hl ⊢
  have hl : lv_has ls 2 [(0, .ref sb), (1, .int 100)] := hl
  refine lv_aload_n hx hb dJ4_append_bf812_0 rfl (lv_at hl 0 rfl) ?_
  refine lv_iload_n hx hb dJ4_append_bf812_1 rfl (lv_at hl 1 rfl) ?_
  have hPc := hP.sub (ws' := [(sb, .inr (0, [.ref vb, .int 0, .int ml, .int (nI ct)])), (vb, .inl (cA 2, n, .inl g))]) [0, 1] rfl
  have hDc := hD.sub (ws' := [(sb, .inr (0, [.ref vb, .int 0, .int ml, .int (nI ct)])), (vb, .inl (cA 2, n, .inl g))]) [0, 1] (by decide) rfl
  have hFc := va_free (wc := [(sb, .inr (0, [.ref vb, .int 0, .int ml, .int (nI ct)])), (vb, .inl (cA 2, n, .inl g))]) hD hS hA [0, 1] rfl
  refine va_callr (va_runSU (As := [.int 100]) (rest := []) (hK.1 0 _ rfl).2 ⟨hx, hb, hml, hown, hts⟩ (c_n_ai5c l D cA zv s.heap.size sb vb ml ct n g (by assumption) (by assumption) (by assumption) (by assumption)) (va_cwSU 1 hts gJ4_append_bf812_J5_append_c97b9_s53 rfl rfl rfl (by decide +kernel) ⟨Nat.le_of_ble_eq_true rfl, Nat.le_of_ble_eq_true rfl⟩) ⟨zUX_blind, va_recv hK hPc (ci := 0) (q0 := 0) rfl rfl, fun U hU hW => ⟨rfl, zUX_call hE0 hX0 hS hFc hU hPc hW hK hDc⟩⟩ rfl rfl hl.1 rfl (lv_room (Nat.le_of_ble_eq_true rfl)) dJ4_append_bf812_2 ⟨(Nat.zero_le _), (Nat.zero_le _)⟩) hS (fun q _ h => hFc q h) hFc (fun u ra t H1 locs ht hvm hw hB hz1 hk1 hS => ?_)
  obtain ⟨g'_1, rfl⟩ : ∃ z, z = u := ⟨_, rfl⟩
  obtain ⟨hra, hP1, hD1⟩ := hB
  rw [ht] at hP1
  try dsimp only at hw hP1 hD1 hra
  subst ra
  obtain ⟨hP, hD⟩ := va_join (wr := []) (w1 := [(sb, .inr (0, [.ref vb, .int 0, .int ml, .int (nI (ct + 3))])), (vb, .inl (cA 2, n, .inl g'_1))]) hP hD [0, 1] [] rfl rfl (by decide) (by decide) hk1 hFc hP1 hD1
  generalize H1 = H at hP hS ⊢
  have hP := hP.sub (ws' := [(sb, .inr (0, [.ref vb, .int 0, .int ml, .int (nI (ct + 3))])), (vb, .inl (cA 2, n, .inl g'_1))]) [0, 1] rfl
  have hD := hD.sub (ws' := [(sb, .inr (0, [.ref vb, .int 0, .int ml, .int (nI (ct + 3))])), (vb, .inl (cA 2, n, .inl g'_1))]) [0, 1] (by decide) rfl
  clear hPc hDc hFc hP1 hD1 hk1 hz1
  have hw_1 := hw
  refine lv_pop hx hb dJ4_append_bf812_5 rfl ?_
  refine lv_aload_n hx hb dJ4_append_bf812_6 rfl (lv_at hl 0 rfl) ?_
  refine W.widen (k := 0) (n := 0) (by omega) (by omega) ?_
  exact W.aret (v := .ref sb) hx hb hr (Or.inl ⟨_, rfl⟩) (Or.inr ⟨_, rfl⟩) (fun t ht hW => ⟨⟨(g'_1), sb, rfl, hw_1, ⟨rfl, ⟨by rw [ht]; exact hP, by rw [hAe]; exact hD⟩⟩⟩, hS.F ht⟩) hS.2.2 dJ4_append_bf812_7
set_option maxHeartbeats 4000000 in
set_option maxRecDepth 100000 in
theorem c_n_ai (l : Launch) (D : va_G) (cA : Nat → ClassId) (zv : Nat → Nat) (sz : Nat) (sb vb : Nat) (ml : Int32) (ct n : Nat) (g : Nat → Int32) (v : Nat) (hn : n = 16 ∨ n = 34) (hct : ct ≤ n) (hfb : bfit n g) (hr34 : ct + (lnD v).length ≤ n) (hv : v ≤ 100) : Met l yJ4_append_bf812 wsJ4_append_bf812 ({ frames := 2, cells := 0, slots := 0, locals := 49 }) (va_Pc [.ref sb, .int (nI v)] (zUX D cA zv sz [(sb, .inr (0, [.ref vb, .int 0, .int ml, .int (nI ct)])), (vb, .inl (cA 2, n, .inl g))])) (va_Qr (fun (u : (Nat → Int32)) => apd n u g ct (lnD v)) (fun (u : (Nat → Int32)) ra t => ra = sb ∧ zB D [(sb, .inr (0, [.ref vb, .int 0, .int ml, .int (nI ct)])), (vb, .inl (cA 2, n, .inl g))] sz [(sb, .inr (0, [.ref vb, .int 0, .int ml, .int (nI (ct + (lnD v).length))])), (vb, .inl (cA 2, n, .inl u))] t) (va_A [(sb, .inr (0, [.ref vb, .int 0, .int ml, .int (nI ct)])), (vb, .inl (cA 2, n, .inl g))] sz)) 0 0 (va_A [(sb, .inr (0, [.ref vb, .int 0, .int ml, .int (nI ct)])), (vb, .inl (cA 2, n, .inl g))] sz) := by
  rcases (show v ≤ 9 ∨ (10 ≤ v ∧ v ≤ 99) ∨ v = 100 by omega) with h | ⟨h1, h2⟩ | rfl
  · rw [lnD_a h] at hr34 ⊢; exact c_n_ai4a l D cA zv sz sb vb ml ct n g v hn hct hfb hr34 (by omega) h
  · rw [lnD_b h1 h2] at hr34 ⊢; exact c_n_ai4b l D cA zv sz sb vb ml ct n g v hn hct hfb hr34 h1 h2
  · rw [lnD_c (Nat.le_refl 100)] at hr34 ⊢; exact c_n_ai4c l D cA zv sz sb vb ml ct n g hn hct hfb hr34
set_option maxHeartbeats 4000000 in
set_option maxRecDepth 100000 in
/-- OptionWire.writeLine(end), the line fits -/
theorem c_n_wl (l : Launch) (D : va_G) (cA : Nat → ClassId) (zv : Nat → Nat) (sz : Nat) (o F G : Nat) (lo nw se : Int32) (pa : Nat → Nat) (an ln : Nat) (x : Nat → Nat) (xv : Nat → Int32) (k vb nb ct : Nat) (ml : Int32) (f g : Nat → Int32) (hk : k < 8) (hk0 : xv 0 = nI k) (hok : ∀ j, j < 4 → okv (f j)) (hn : nb = 16 ∨ nb = 34) (hct : ct ≤ nb) (hfb : bfit nb g) (hft : (lnT k f 4).length ≤ nb) : Met l yX3_writeLine wsX3_writeLine ({ frames := 5, cells := 0, slots := 0, locals := 148 }) (va_Pc [.ref o, .ref (x 0)] (zUX D cA zv sz [(o, .inr (4, [.ref F, .ref G, .int lo, .int nw, .int se, .ref (pa 0), .ref an, .ref ln])), cE x xv, (x 7, .inl (cA 0, 4, .inl f)), (ln, .inr (0, [.ref vb, .int 0, .int ml, .int (nI ct)])), (vb, .inl (cA 2, nb, .inl g))])) (va_Qv (fun (u : (Int32 × (Nat → Int32))) => apd nb u.2 g 0 (lnT k f 4)) (fun (u : (Int32 × (Nat → Int32))) t => zB D [(o, .inr (4, [.ref F, .ref G, .int lo, .int nw, .int se, .ref (pa 0), .ref an, .ref ln])), cE x xv, (x 7, .inl (cA 0, 4, .inl f)), (ln, .inr (0, [.ref vb, .int 0, .int ml, .int (nI ct)])), (vb, .inl (cA 2, nb, .inl g))] sz [(o, .inr (4, [.ref F, .ref G, .int lo, .int nw, .int se, .ref (pa 0), .ref an, .ref ln])), cE x xv, (x 7, .inl (cA 0, 4, .inl f)), (ln, .inr (0, [.ref vb, .int 0, .int u.1, .int (nI ((lnT k f 4).length))])), (vb, .inl (cA 2, nb, .inl u.2))] t) (va_A [(o, .inr (4, [.ref F, .ref G, .int lo, .int nw, .int se, .ref (pa 0), .ref an, .ref ln])), cE x xv, (x 7, .inl (cA 0, 4, .inl f)), (ln, .inr (0, [.ref vb, .int 0, .int ml, .int (nI ct)])), (vb, .inl (cA 2, nb, .inl g))] sz)) 0 0 (va_A [(o, .inr (4, [.ref F, .ref G, .int lo, .int nw, .int se, .ref (pa 0), .ref an, .ref ln])), cE x xv, (x 7, .inl (cA 0, 4, .inl f)), (ln, .inr (0, [.ref vb, .int 0, .int ml, .int (nI ct)])), (vb, .inl (cA 2, nb, .inl g))] sz) := by
  refine Met.ofW (cc := cX3_writeLine) (maxL := 3) (ret := none) (by decide) rfl ?_
  intro p e s m args below meth c s₁ B hml hv
  obtain ⟨rfl, ⟨hsz, hP, hK, hD0, hE0⟩, hX0⟩ := hv
  have hx := B.exec
  have hb := B.bytes
  have hr := B.returns
  have hts := atoms_spec (ws := wsX3_writeLine) B.pre
  have hown : s.vm.findClass RX3 = some m.cls := findClass_of_methodNamed B.named
  have hlocks := B.notSynchronized
  subst hsz
  have hD := hD0.self (sz := s.heap.size)
  generalize hAe : va_A [(o, .inr (4, [.ref F, .ref G, .int lo, .int nw, .int se, .ref (pa 0), .ref an, .ref ln])), cE x xv, (x 7, .inl (cA 0, 4, .inl f)), (ln, .inr (0, [.ref vb, .int 0, .int ml, .int (nI ct)])), (vb, .inl (cA 2, nb, .inl g))] s.heap.size = A at hD hE0 hX0 ⊢
  have hA : ∀ q : Nat, s.heap.size ≤ q → A q := fun q h => by rw [← hAe]; exact Or.inr h
  have hS : va_S A s.heap s.heap [] := va_S.rf
  have hl := lv_entry ([.ref o, .ref (x 0)]) (n := 3) (Nat.le_of_ble_eq_true rfl)
  rw [lg_entry_eq]
  generalize (lg_sl ([.ref o, .ref (x 0)]) ++ List.replicate (3 - (lg_sl ([.ref o, .ref (x 0)])).length) Slot.unset).toArray = ls at hl ⊢
  have hl : lv_has ls 3 [(0, .ref o), (1, .ref (x 0))] := hl
  refine lv_aload_n hx hb dX3_writeLine_0 rfl (lv_at hl 0 rfl) ?_
  refine va_get (D := D) (ci := 4) (v := .ref ln) (C := RX3) (T := TX3) (N := 8) hx hb hts (fun _ h => List.mem_cons_of_mem _ (List.mem_append_left _ (List.mem_append_left _ (List.mem_append_right _ (h))))) hown hK hP 0 rfl rfl 7 (by decide) (hts (.fieldLink RX3 44 "OptionWire" "line" "Ljava/lang/StringBuilder;") (List.mem_of_getElem? (i := 1) rfl)) (fun _ h9 => h9) rfl dX3_writeLine_1 ?_
  refine lv_iconst (v := 0) hx hb dX3_writeLine_4 (by decide) ?_
  have hPc := hP.sub (ws' := [(ln, .inr (0, [.ref vb, .int 0, .int ml, .int (nI ct)])), (vb, .inl (cA 2, nb, .inl g))]) [3, 4] rfl
  have hDc := hD.sub (ws' := [(ln, .inr (0, [.ref vb, .int 0, .int ml, .int (nI ct)])), (vb, .inl (cA 2, nb, .inl g))]) [3, 4] (by decide) rfl
  have hFc := va_free (wc := [(ln, .inr (0, [.ref vb, .int 0, .int ml, .int (nI ct)])), (vb, .inl (cA 2, nb, .inl g))]) hD hS hA [3, 4] rfl
  refine va_callv (va_runV (As := [.int 0]) (rest := []) ⟨hx, hb, hml, hown, hts⟩ (c_J4_setLength_d00df l D cA s.heap.size ln vb ml ct nb g hn hct) (cwV 1 hts gX3_writeLine_J4_setLength_d00df rfl rfl rfl (by decide +kernel) ⟨Nat.le_of_ble_eq_true rfl, Nat.le_of_ble_eq_true rfl⟩) ⟨zU_blind, va_recv hK hPc (ci := 0) (q0 := 0) rfl rfl, fun U hU hW => ⟨rfl, zU_call hU hPc hW.alike hK hDc⟩⟩ rfl rfl hl.1 rfl (lv_room (Nat.le_of_ble_eq_true rfl)) dX3_writeLine_5 ⟨(Nat.zero_le _), (Nat.zero_le _)⟩) hS (fun q _ h => hFc q h) hFc (fun u t H1 locs ht hvm hw hB hz1 hk1 hS => ?_)
  obtain ⟨ml'_1, rfl⟩ : ∃ z, z = u := ⟨_, rfl⟩
  obtain ⟨hP1, hD1⟩ := hB
  rw [ht] at hP1
  try dsimp only at hw hP1 hD1
  obtain ⟨hP, hD⟩ := va_join (wr := [(o, .inr (4, [.ref F, .ref G, .int lo, .int nw, .int se, .ref (pa 0), .ref an, .ref ln])), cE x xv, (x 7, .inl (cA 0, 4, .inl f))]) (w1 := [(ln, .inr (0, [.ref vb, .int 0, .int ml'_1, .int (nI 0)])), (vb, .inl (cA 2, nb, .inl g))]) hP hD [3, 4] [0, 1, 2] rfl rfl (by decide) (by decide) hk1 hFc hP1 hD1
  generalize H1 = H at hP hS ⊢
  have hP := hP.sub (ws' := [(o, .inr (4, [.ref F, .ref G, .int lo, .int nw, .int se, .ref (pa 0), .ref an, .ref ln])), cE x xv, (x 7, .inl (cA 0, 4, .inl f)), (ln, .inr (0, [.ref vb, .int 0, .int ml'_1, .int (nI 0)])), (vb, .inl (cA 2, nb, .inl g))]) [0, 1, 2, 3, 4] rfl
  have hD := hD.sub (ws' := [(o, .inr (4, [.ref F, .ref G, .int lo, .int nw, .int se, .ref (pa 0), .ref an, .ref ln])), cE x xv, (x 7, .inl (cA 0, 4, .inl f)), (ln, .inr (0, [.ref vb, .int 0, .int ml'_1, .int (nI 0)])), (vb, .inl (cA 2, nb, .inl g))]) [0, 1, 2, 3, 4] (by decide) rfl
  clear hPc hDc hFc hP1 hD1 hk1 hz1
  have hw_1 := hw
  refine lv_aload_n hx hb dX3_writeLine_8 rfl (lv_at hl 0 rfl) ?_
  refine va_get (D := D) (ci := 4) (v := .ref ln) (C := RX3) (T := TX3) (N := 8) hx hb hts (fun _ h => List.mem_cons_of_mem _ (List.mem_append_left _ (List.mem_append_left _ (List.mem_append_right _ (h))))) hown hK hP 0 rfl rfl 7 (by decide) (hts (.fieldLink RX3 44 "OptionWire" "line" "Ljava/lang/StringBuilder;") (List.mem_of_getElem? (i := 1) rfl)) (fun _ h9 => h9) rfl dX3_writeLine_9 ?_
  refine lv_aload_n hx hb dX3_writeLine_12 rfl (lv_at hl 1 rfl) ?_
  refine va_get (D := D) (ci := 1) (v := .int (xv 0)) (C := RX0) (T := TX0) (N := 16) hx hb hts (fun _ h => List.mem_cons_of_mem _ (List.mem_append_left _ (List.mem_append_right _ (h)))) hown hK hP 1 rfl rfl 9 (by decide) (hts (.fieldLink RX3 95 "OptionWire$End" "state" "I") (List.mem_of_getElem? (i := 2) rfl)) (fun _ h9 => h9) rfl dX3_writeLine_13 ?_
  refine z_top (y := (nI k)) hk0 ?_
  have hPc := hP.sub (ws' := []) [] rfl
  have hDc := hD.sub (ws' := []) [] (by decide) rfl
  have hFc := va_free (wc := []) hD hS hA [] rfl
  refine va_callr (va_runS (As := [.int (nI k)]) (rest := [.ref ln]) ⟨hx, hb, hml, hown, hts⟩ (c_X3_nameOf l D cA zv H.size k (by assumption)) (va_cwS 1 hts gX3_writeLine_X3_nameOf rfl rfl rfl (by decide +kernel) ⟨Nat.le_of_ble_eq_true rfl, Nat.le_of_ble_eq_true rfl⟩) ⟨zUX_blind, fun U hU hW => ⟨rfl, zUX_call hE0 hX0 hS hFc hU hPc hW hK hDc⟩⟩ rfl rfl hl.1 rfl (lv_room (Nat.le_of_ble_eq_true rfl)) dX3_writeLine_16 ⟨(Nat.zero_le _), (Nat.zero_le _)⟩) hS (fun q _ h => hFc q h) hFc (fun u ra t H1 locs ht hvm hw hB hz1 hk1 hS => ?_)
  obtain ⟨hra, hP1, hD1⟩ := hB
  rw [ht] at hP1
  subst ra
  obtain ⟨hP, hD⟩ := va_join (wr := [(o, .inr (4, [.ref F, .ref G, .int lo, .int nw, .int se, .ref (pa 0), .ref an, .ref ln])), cE x xv, (x 7, .inl (cA 0, 4, .inl f)), (ln, .inr (0, [.ref vb, .int 0, .int ml'_1, .int (nI 0)])), (vb, .inl (cA 2, nb, .inl g))]) (w1 := []) hP hD [] [0, 1, 2, 3, 4] rfl rfl (by decide) (by decide) hk1 hFc hP1 hD1
  generalize H1 = H at hP hS ⊢
  have hP := hP.sub (ws' := [(o, .inr (4, [.ref F, .ref G, .int lo, .int nw, .int se, .ref (pa 0), .ref an, .ref ln])), cE x xv, (x 7, .inl (cA 0, 4, .inl f)), (ln, .inr (0, [.ref vb, .int 0, .int ml'_1, .int (nI 0)])), (vb, .inl (cA 2, nb, .inl g))]) [0, 1, 2, 3, 4] rfl
  have hD := hD.sub (ws' := [(o, .inr (4, [.ref F, .ref G, .int lo, .int nw, .int se, .ref (pa 0), .ref an, .ref ln])), cE x xv, (x 7, .inl (cA 0, 4, .inl f)), (ln, .inr (0, [.ref vb, .int 0, .int ml'_1, .int (nI 0)])), (vb, .inl (cA 2, nb, .inl g))]) [0, 1, 2, 3, 4] (by decide) rfl
  clear hPc hDc hFc hP1 hD1 hk1 hz1
  have hw_2 := hw
  have hPc := hP.sub (ws' := [(ln, .inr (0, [.ref vb, .int 0, .int ml'_1, .int (nI 0)])), (vb, .inl (cA 2, nb, .inl g))]) [3, 4] rfl
  have hDc := hD.sub (ws' := [(ln, .inr (0, [.ref vb, .int 0, .int ml'_1, .int (nI 0)])), (vb, .inl (cA 2, nb, .inl g))]) [3, 4] (by decide) rfl
  have hFc := va_free (wc := [(ln, .inr (0, [.ref vb, .int 0, .int ml'_1, .int (nI 0)])), (vb, .inl (cA 2, nb, .inl g))]) hD hS hA [3, 4] rfl
  refine va_callr (va_runV (As := [.ref (zv (20 + k))]) (rest := []) ⟨hx, hb, hml, hown, hts⟩ (c_n_as4 l D cA zv H.size ln vb ml'_1 0 nb g k hn (Nat.zero_le _) hfb (by assumption) (by have q9 := lnT_mono (k := k) (f := f) (i := 0) (j := 4) (by decide); have q8 := zlen_ok hk; change (zByt.getD k []).length ≤ _ at q9; omega)) (cwV 1 hts gX3_writeLine_J4_append_15ec4 rfl rfl rfl (by decide +kernel) ⟨Nat.le_of_ble_eq_true rfl, Nat.le_of_ble_eq_true rfl⟩) ⟨zUX_blind, va_recv hK hPc (ci := 0) (q0 := 0) rfl rfl, fun U hU hW => ⟨rfl, zUX_call hE0 hX0 hS hFc hU hPc hW hK hDc⟩⟩ rfl rfl hl.1 rfl (lv_room (Nat.le_of_ble_eq_true rfl)) dX3_writeLine_19 ⟨(Nat.zero_le _), (Nat.zero_le _)⟩) hS (fun q _ h => hFc q h) hFc (fun u ra t H1 locs ht hvm hw hB hz1 hk1 hS => ?_)
  obtain ⟨g'_3, rfl⟩ : ∃ z, z = u := ⟨_, rfl⟩
  obtain ⟨hra, hP1, hD1⟩ := hB
  rw [ht] at hP1
  try dsimp only at hw hP1 hD1 hra
  subst ra
  obtain ⟨hP, hD⟩ := va_join (wr := [(o, .inr (4, [.ref F, .ref G, .int lo, .int nw, .int se, .ref (pa 0), .ref an, .ref ln])), cE x xv, (x 7, .inl (cA 0, 4, .inl f))]) (w1 := [(ln, .inr (0, [.ref vb, .int 0, .int ml'_1, .int (nI (0 + zLen.getD k 0))])), (vb, .inl (cA 2, nb, .inl g'_3))]) hP hD [3, 4] [0, 1, 2] rfl rfl (by decide) (by decide) hk1 hFc hP1 hD1
  generalize H1 = H at hP hS ⊢
  have hP := hP.sub (ws' := [(o, .inr (4, [.ref F, .ref G, .int lo, .int nw, .int se, .ref (pa 0), .ref an, .ref ln])), cE x xv, (x 7, .inl (cA 0, 4, .inl f)), (ln, .inr (0, [.ref vb, .int 0, .int ml'_1, .int (nI (0 + zLen.getD k 0))])), (vb, .inl (cA 2, nb, .inl g'_3))]) [0, 1, 2, 3, 4] rfl
  have hD := hD.sub (ws' := [(o, .inr (4, [.ref F, .ref G, .int lo, .int nw, .int se, .ref (pa 0), .ref an, .ref ln])), cE x xv, (x 7, .inl (cA 0, 4, .inl f)), (ln, .inr (0, [.ref vb, .int 0, .int ml'_1, .int (nI (0 + zLen.getD k 0))])), (vb, .inl (cA 2, nb, .inl g'_3))]) [0, 1, 2, 3, 4] (by decide) rfl
  clear hPc hDc hFc hP1 hD1 hk1 hz1
  have hw_3 := hw
  refine z_cut (Inv := fun H locs ls st => ∃ (ctx0 : Nat), ∃ (gx0 : Nat → Int32), st = [] ∧ va_P D vwCl [(o, .inr (4, [.ref F, .ref G, .int lo, .int nw, .int se, .ref (pa 0), .ref an, .ref ln])), cE x xv, (x 7, .inl (cA 0, 4, .inl f)), (ln, .inr (0, [.ref vb, .int 0, .int ml'_1, .int (nI ctx0)])), (vb, .inl (cA 2, nb, .inl gx0))] H ∧ va_D A [(o, .inr (4, [.ref F, .ref G, .int lo, .int nw, .int se, .ref (pa 0), .ref an, .ref ln])), cE x xv, (x 7, .inl (cA 0, 4, .inl f)), (ln, .inr (0, [.ref vb, .int 0, .int ml'_1, .int (nI ctx0)])), (vb, .inl (cA 2, nb, .inl gx0))] ∧ va_S A s.heap H locs ∧ lv_has ls 3 [(0, .ref o), (1, .ref (x 0))] ∧ apd nb gx0 g 0 (lnT k f 0) ∧ ctx0 = (lnT k f 0).length) 23 (fun H locs ls st hI => ?_) (fun kJ => ?_)
  · obtain ⟨ctx0, gx0, rfl, hP, hD, hS, hl, ha0, hc0⟩ := hI
    refine lv_iconst (v := 0) hx hb dX3_writeLine_23 (by decide) ?_
    refine lv_istore_n (lv' := [(2, .int 0), (0, .ref o), (1, .ref (x 0))]) hx hb dX3_writeLine_24 rfl hl (by decide) rfl (fun ls hl => ?_)
    refine lv_iload_n hx hb dX3_writeLine_25 rfl (lv_at hl 0 rfl) ?_
    refine lv_iconst (v := 4) hx hb dX3_writeLine_26 (by decide) ?_
    refine lv_icmp_ge (tgt := 73) hx hb dX3_writeLine_27 (by decide) (fun c_4 => absurd c_4 (by decide)) (fun _ => ?_)
    refine z_cut (Inv := fun H locs ls st => ∃ (ctx1 : Nat), ∃ (gx1 : Nat → Int32), st = [] ∧ va_P D vwCl [(o, .inr (4, [.ref F, .ref G, .int lo, .int nw, .int se, .ref (pa 0), .ref an, .ref ln])), cE x xv, (x 7, .inl (cA 0, 4, .inl f)), (ln, .inr (0, [.ref vb, .int 0, .int ml'_1, .int (nI ctx1)])), (vb, .inl (cA 2, nb, .inl gx1))] H ∧ va_D A [(o, .inr (4, [.ref F, .ref G, .int lo, .int nw, .int se, .ref (pa 0), .ref an, .ref ln])), cE x xv, (x 7, .inl (cA 0, 4, .inl f)), (ln, .inr (0, [.ref vb, .int 0, .int ml'_1, .int (nI ctx1)])), (vb, .inl (cA 2, nb, .inl gx1))] ∧ va_S A s.heap H locs ∧ lv_has ls 3 [(2, .int 0), (0, .ref o), (1, .ref (x 0))] ∧ apd nb gx1 g 0 (lnT k f 1) ∧ ctx1 = (lnT k f 1).length) 67 (fun H locs ls st hI => ?_) (fun kJ => ?_)
    · obtain ⟨ctx1, gx1, rfl, hP, hD, hS, hl, ha1, hc1⟩ := hI
      refine lv_iinc (v := 1) (lv' := [(2, .int 1), (0, .ref o), (1, .ref (x 0))]) hx hb dX3_writeLine_67 hl (k := 0) rfl (by decide) (by decide) rfl (fun ls hl => ?_)
      refine lv_goto (tgt := 25) hx hb dX3_writeLine_70 (by decide) ?_
      refine lv_iload_n hx hb dX3_writeLine_25 rfl (lv_at hl 0 rfl) ?_
      refine lv_iconst (v := 4) hx hb dX3_writeLine_26 (by decide) ?_
      refine lv_icmp_ge (tgt := 73) hx hb dX3_writeLine_27 (by decide) (fun c_5 => absurd c_5 (by decide)) (fun _ => ?_)
      refine z_cut (Inv := fun H locs ls st => ∃ (ctx2 : Nat), ∃ (gx2 : Nat → Int32), st = [] ∧ va_P D vwCl [(o, .inr (4, [.ref F, .ref G, .int lo, .int nw, .int se, .ref (pa 0), .ref an, .ref ln])), cE x xv, (x 7, .inl (cA 0, 4, .inl f)), (ln, .inr (0, [.ref vb, .int 0, .int ml'_1, .int (nI ctx2)])), (vb, .inl (cA 2, nb, .inl gx2))] H ∧ va_D A [(o, .inr (4, [.ref F, .ref G, .int lo, .int nw, .int se, .ref (pa 0), .ref an, .ref ln])), cE x xv, (x 7, .inl (cA 0, 4, .inl f)), (ln, .inr (0, [.ref vb, .int 0, .int ml'_1, .int (nI ctx2)])), (vb, .inl (cA 2, nb, .inl gx2))] ∧ va_S A s.heap H locs ∧ lv_has ls 3 [(2, .int 1), (0, .ref o), (1, .ref (x 0))] ∧ apd nb gx2 g 0 (lnT k f 2) ∧ ctx2 = (lnT k f 2).length) 67 (fun H locs ls st hI => ?_) (fun kJ => ?_)
      · obtain ⟨ctx2, gx2, rfl, hP, hD, hS, hl, ha2, hc2⟩ := hI
        refine lv_iinc (v := 2) (lv' := [(2, .int 2), (0, .ref o), (1, .ref (x 0))]) hx hb dX3_writeLine_67 hl (k := 0) rfl (by decide) (by decide) rfl (fun ls hl => ?_)
        refine lv_goto (tgt := 25) hx hb dX3_writeLine_70 (by decide) ?_
        refine lv_iload_n hx hb dX3_writeLine_25 rfl (lv_at hl 0 rfl) ?_
        refine lv_iconst (v := 4) hx hb dX3_writeLine_26 (by decide) ?_
        refine lv_icmp_ge (tgt := 73) hx hb dX3_writeLine_27 (by decide) (fun c_6 => absurd c_6 (by decide)) (fun _ => ?_)
        refine z_cut (Inv := fun H locs ls st => ∃ (ctx3 : Nat), ∃ (gx3 : Nat → Int32), st = [] ∧ va_P D vwCl [(o, .inr (4, [.ref F, .ref G, .int lo, .int nw, .int se, .ref (pa 0), .ref an, .ref ln])), cE x xv, (x 7, .inl (cA 0, 4, .inl f)), (ln, .inr (0, [.ref vb, .int 0, .int ml'_1, .int (nI ctx3)])), (vb, .inl (cA 2, nb, .inl gx3))] H ∧ va_D A [(o, .inr (4, [.ref F, .ref G, .int lo, .int nw, .int se, .ref (pa 0), .ref an, .ref ln])), cE x xv, (x 7, .inl (cA 0, 4, .inl f)), (ln, .inr (0, [.ref vb, .int 0, .int ml'_1, .int (nI ctx3)])), (vb, .inl (cA 2, nb, .inl gx3))] ∧ va_S A s.heap H locs ∧ lv_has ls 3 [(2, .int 2), (0, .ref o), (1, .ref (x 0))] ∧ apd nb gx3 g 0 (lnT k f 3) ∧ ctx3 = (lnT k f 3).length) 67 (fun H locs ls st hI => ?_) (fun kJ => ?_)
        · obtain ⟨ctx3, gx3, rfl, hP, hD, hS, hl, ha3, hc3⟩ := hI
          refine lv_iinc (v := 3) (lv' := [(2, .int 3), (0, .ref o), (1, .ref (x 0))]) hx hb dX3_writeLine_67 hl (k := 0) rfl (by decide) (by decide) rfl (fun ls hl => ?_)
          refine lv_goto (tgt := 25) hx hb dX3_writeLine_70 (by decide) ?_
          refine lv_iload_n hx hb dX3_writeLine_25 rfl (lv_at hl 0 rfl) ?_
          refine lv_iconst (v := 4) hx hb dX3_writeLine_26 (by decide) ?_
          refine lv_icmp_ge (tgt := 73) hx hb dX3_writeLine_27 (by decide) (fun c_7 => absurd c_7 (by decide)) (fun _ => ?_)
          refine z_cut (Inv := fun H locs ls st => ∃ (ctx4 : Nat), ∃ (gx4 : Nat → Int32), st = [] ∧ va_P D vwCl [(o, .inr (4, [.ref F, .ref G, .int lo, .int nw, .int se, .ref (pa 0), .ref an, .ref ln])), cE x xv, (x 7, .inl (cA 0, 4, .inl f)), (ln, .inr (0, [.ref vb, .int 0, .int ml'_1, .int (nI ctx4)])), (vb, .inl (cA 2, nb, .inl gx4))] H ∧ va_D A [(o, .inr (4, [.ref F, .ref G, .int lo, .int nw, .int se, .ref (pa 0), .ref an, .ref ln])), cE x xv, (x 7, .inl (cA 0, 4, .inl f)), (ln, .inr (0, [.ref vb, .int 0, .int ml'_1, .int (nI ctx4)])), (vb, .inl (cA 2, nb, .inl gx4))] ∧ va_S A s.heap H locs ∧ lv_has ls 3 [(2, .int 3), (0, .ref o), (1, .ref (x 0))] ∧ apd nb gx4 g 0 (lnT k f 4) ∧ ctx4 = (lnT k f 4).length) 67 (fun H locs ls st hI => ?_) (fun kJ => ?_)
          · obtain ⟨ctx4, gx4, rfl, hP, hD, hS, hl, ha4, hc4⟩ := hI
            refine lv_iinc (v := 4) (lv' := [(2, .int 4), (0, .ref o), (1, .ref (x 0))]) hx hb dX3_writeLine_67 hl (k := 0) rfl (by decide) (by decide) rfl (fun ls hl => ?_)
            refine lv_goto (tgt := 25) hx hb dX3_writeLine_70 (by decide) ?_
            refine lv_iload_n hx hb dX3_writeLine_25 rfl (lv_at hl 0 rfl) ?_
            refine lv_iconst (v := 4) hx hb dX3_writeLine_26 (by decide) ?_
            refine lv_icmp_ge (tgt := 73) hx hb dX3_writeLine_27 (by decide) (fun _ => ?_) (fun c_8 => absurd c_8 (by decide))
            subst hc4
            refine W.widen (k := 0) (n := 0) (by omega) (by omega) ?_
            exact W.vret hx hb hr (fun t ht hW => ⟨⟨(ml'_1, gx4), rfl, ha4, ⟨by rw [ht]; exact hP, by rw [hAe]; exact hD⟩⟩, hS.F ht⟩) hS.2.2 dX3_writeLine_73
          · skip
            refine lv_aload_n hx hb dX3_writeLine_30 rfl (lv_at hl 2 rfl) ?_
            refine va_get (D := D) (ci := 1) (v := .ref (x 7)) (C := RX0) (T := TX0) (N := 16) hx hb hts (fun _ h => List.mem_cons_of_mem _ (List.mem_append_left _ (List.mem_append_right _ (h)))) hown hK hP 1 rfl rfl 6 (by decide) (hts (.fieldLink RX3 107 "OptionWire$End" "asked" "[I") (List.mem_of_getElem? (i := 3) rfl)) (fun _ h9 => h9) rfl dX3_writeLine_31 ?_
            refine lv_iload_n hx hb dX3_writeLine_34 rfl (lv_at hl 0 rfl) ?_
            refine z_iald (k := 3) (v := (f 3)) hx hb hK hP 2 0 rfl rfl rfl (by omega) (by decide) rfl dX3_writeLine_35 ?_
            refine lv_iconst (v := (-1)) hx hb dX3_writeLine_36 (by decide) ?_
            refine lv_icmp_eq (tgt := 67) hx hb dX3_writeLine_37 (by decide) (fun c_9 => ?_) (fun c_9 => ?_)
            · skip
              exact kJ _ _ _ _ ⟨ctx3, gx3, rfl, hP, hD, hS, lv_sub hl [0, 1, 2] rfl, (by rw [show lnT k f 4 = _ from lnT_n c_9]; exact ha3), (by rw [show lnT k f 4 = _ from lnT_n c_9]; exact hc3)⟩
            · skip
              obtain ⟨vv3, hv3, hfv3⟩ := (hok 3 (by decide)).resolve_left c_9
              have hn3 := ha3.1
              have hq3 : ctx3 ≤ nb := by have q9 := ha3.2.1; omega
              have hf3 := ha3.2.2.1
              have hl3 : ctx3 + 2 + (lnD vv3).length ≤ nb := by (have q9 := lnT_mono (k := k) (f := f) (i := 4) (j := 4) (by decide); have q8 := congrArg List.length (show lnT k f 4 = _ from lnT_v hv3 hfv3); simp only [List.length_append, List.length_cons] at q8; omega)
              refine lv_aload_n hx hb dX3_writeLine_40 rfl (lv_at hl 1 rfl) ?_
              refine va_get (D := D) (ci := 4) (v := .ref ln) (C := RX3) (T := TX3) (N := 8) hx hb hts (fun _ h => List.mem_cons_of_mem _ (List.mem_append_left _ (List.mem_append_left _ (List.mem_append_right _ (h))))) hown hK hP 0 rfl rfl 7 (by decide) (hts (.fieldLink RX3 44 "OptionWire" "line" "Ljava/lang/StringBuilder;") (List.mem_of_getElem? (i := 1) rfl)) (fun _ h9 => h9) rfl dX3_writeLine_41 ?_
              refine lv_bipush (v := 32) hx hb dX3_writeLine_44 (by decide) ?_
              have hPc := hP.sub (ws' := [(ln, .inr (0, [.ref vb, .int 0, .int ml'_1, .int (nI ctx3)])), (vb, .inl (cA 2, nb, .inl gx3))]) [3, 4] rfl
              have hDc := hD.sub (ws' := [(ln, .inr (0, [.ref vb, .int 0, .int ml'_1, .int (nI ctx3)])), (vb, .inl (cA 2, nb, .inl gx3))]) [3, 4] (by decide) rfl
              have hFc := va_free (wc := [(ln, .inr (0, [.ref vb, .int 0, .int ml'_1, .int (nI ctx3)])), (vb, .inl (cA 2, nb, .inl gx3))]) hD hS hA [3, 4] rfl
              refine va_callr (va_runV (As := [.int 32]) (rest := []) ⟨hx, hb, hml, hown, hts⟩ (c_n_ac4 l D cA zv H.size ln vb ml'_1 ctx3 nb gx3 32 hn3 hq3 hf3 (by omega) (by decide) (by decide)) (cwV 1 hts gX3_writeLine_J4_append_cf468 rfl rfl rfl (by decide +kernel) ⟨Nat.le_of_ble_eq_true rfl, Nat.le_of_ble_eq_true rfl⟩) ⟨zUX_blind, va_recv hK hPc (ci := 0) (q0 := 0) rfl rfl, fun U hU hW => ⟨rfl, zUX_call hE0 hX0 hS hFc hU hPc hW hK hDc⟩⟩ rfl rfl hl.1 rfl (lv_room (Nat.le_of_ble_eq_true rfl)) dX3_writeLine_46 ⟨(Nat.zero_le _), (Nat.zero_le _)⟩) hS (fun q _ h => hFc q h) hFc (fun u ra t H1 locs ht hvm hw hB hz1 hk1 hS => ?_)
              obtain ⟨g'_10, rfl⟩ : ∃ z, z = u := ⟨_, rfl⟩
              obtain ⟨hra, hP1, hD1⟩ := hB
              rw [ht] at hP1
              try dsimp only at hw hP1 hD1 hra
              subst ra
              obtain ⟨hP, hD⟩ := va_join (wr := [(o, .inr (4, [.ref F, .ref G, .int lo, .int nw, .int se, .ref (pa 0), .ref an, .ref ln])), cE x xv, (x 7, .inl (cA 0, 4, .inl f))]) (w1 := [(ln, .inr (0, [.ref vb, .int 0, .int ml'_1, .int (nI (ctx3 + 1))])), (vb, .inl (cA 2, nb, .inl g'_10))]) hP hD [3, 4] [0, 1, 2] rfl rfl (by decide) (by decide) hk1 hFc hP1 hD1
              generalize H1 = H at hP hS ⊢
              have hP := hP.sub (ws' := [(o, .inr (4, [.ref F, .ref G, .int lo, .int nw, .int se, .ref (pa 0), .ref an, .ref ln])), cE x xv, (x 7, .inl (cA 0, 4, .inl f)), (ln, .inr (0, [.ref vb, .int 0, .int ml'_1, .int (nI (ctx3 + 1))])), (vb, .inl (cA 2, nb, .inl g'_10))]) [0, 1, 2, 3, 4] rfl
              have hD := hD.sub (ws' := [(o, .inr (4, [.ref F, .ref G, .int lo, .int nw, .int se, .ref (pa 0), .ref an, .ref ln])), cE x xv, (x 7, .inl (cA 0, 4, .inl f)), (ln, .inr (0, [.ref vb, .int 0, .int ml'_1, .int (nI (ctx3 + 1))])), (vb, .inl (cA 2, nb, .inl g'_10))]) [0, 1, 2, 3, 4] (by decide) rfl
              clear hPc hDc hFc hP1 hD1 hk1 hz1
              have hw_10 := hw
              refine lv_bipush (v := 97) hx hb dX3_writeLine_49 (by decide) ?_
              refine lv_iload_n hx hb dX3_writeLine_51 rfl (lv_at hl 0 rfl) ?_
              refine lv_iadd hx hb dX3_writeLine_52 ?_
              refine z_top (y := 100) (by decide) ?_
              refine lv_i2c (v := 100) hx hb dX3_writeLine_53 (by decide) ?_
              have hPc := hP.sub (ws' := [(ln, .inr (0, [.ref vb, .int 0, .int ml'_1, .int (nI (ctx3 + 1))])), (vb, .inl (cA 2, nb, .inl g'_10))]) [3, 4] rfl
              have hDc := hD.sub (ws' := [(ln, .inr (0, [.ref vb, .int 0, .int ml'_1, .int (nI (ctx3 + 1))])), (vb, .inl (cA 2, nb, .inl g'_10))]) [3, 4] (by decide) rfl
              have hFc := va_free (wc := [(ln, .inr (0, [.ref vb, .int 0, .int ml'_1, .int (nI (ctx3 + 1))])), (vb, .inl (cA 2, nb, .inl g'_10))]) hD hS hA [3, 4] rfl
              refine va_callr (va_runV (As := [.int 100]) (rest := []) ⟨hx, hb, hml, hown, hts⟩ (c_n_ac4 l D cA zv H.size ln vb ml'_1 (ctx3 + 1) nb g'_10 100 hw_10.1 hw_10.2.1 hw_10.2.2.1 (by omega) (by decide) (by decide)) (cwV 1 hts gX3_writeLine_J4_append_cf468 rfl rfl rfl (by decide +kernel) ⟨Nat.le_of_ble_eq_true rfl, Nat.le_of_ble_eq_true rfl⟩) ⟨zUX_blind, va_recv hK hPc (ci := 0) (q0 := 0) rfl rfl, fun U hU hW => ⟨rfl, zUX_call hE0 hX0 hS hFc hU hPc hW hK hDc⟩⟩ rfl rfl hl.1 rfl (lv_room (Nat.le_of_ble_eq_true rfl)) dX3_writeLine_54 ⟨(Nat.zero_le _), (Nat.zero_le _)⟩) hS (fun q _ h => hFc q h) hFc (fun u ra t H1 locs ht hvm hw hB hz1 hk1 hS => ?_)
              obtain ⟨g'_11, rfl⟩ : ∃ z, z = u := ⟨_, rfl⟩
              obtain ⟨hra, hP1, hD1⟩ := hB
              rw [ht] at hP1
              try dsimp only at hw hP1 hD1 hra
              subst ra
              obtain ⟨hP, hD⟩ := va_join (wr := [(o, .inr (4, [.ref F, .ref G, .int lo, .int nw, .int se, .ref (pa 0), .ref an, .ref ln])), cE x xv, (x 7, .inl (cA 0, 4, .inl f))]) (w1 := [(ln, .inr (0, [.ref vb, .int 0, .int ml'_1, .int (nI ((ctx3 + 1) + 1))])), (vb, .inl (cA 2, nb, .inl g'_11))]) hP hD [3, 4] [0, 1, 2] rfl rfl (by decide) (by decide) hk1 hFc hP1 hD1
              generalize H1 = H at hP hS ⊢
              have hP := hP.sub (ws' := [(o, .inr (4, [.ref F, .ref G, .int lo, .int nw, .int se, .ref (pa 0), .ref an, .ref ln])), cE x xv, (x 7, .inl (cA 0, 4, .inl f)), (ln, .inr (0, [.ref vb, .int 0, .int ml'_1, .int (nI ((ctx3 + 1) + 1))])), (vb, .inl (cA 2, nb, .inl g'_11))]) [0, 1, 2, 3, 4] rfl
              have hD := hD.sub (ws' := [(o, .inr (4, [.ref F, .ref G, .int lo, .int nw, .int se, .ref (pa 0), .ref an, .ref ln])), cE x xv, (x 7, .inl (cA 0, 4, .inl f)), (ln, .inr (0, [.ref vb, .int 0, .int ml'_1, .int (nI ((ctx3 + 1) + 1))])), (vb, .inl (cA 2, nb, .inl g'_11))]) [0, 1, 2, 3, 4] (by decide) rfl
              clear hPc hDc hFc hP1 hD1 hk1 hz1
              have hw_11 := hw
              refine lv_aload_n hx hb dX3_writeLine_57 rfl (lv_at hl 2 rfl) ?_
              refine va_get (D := D) (ci := 1) (v := .ref (x 7)) (C := RX0) (T := TX0) (N := 16) hx hb hts (fun _ h => List.mem_cons_of_mem _ (List.mem_append_left _ (List.mem_append_right _ (h)))) hown hK hP 1 rfl rfl 6 (by decide) (hts (.fieldLink RX3 107 "OptionWire$End" "asked" "[I") (List.mem_of_getElem? (i := 3) rfl)) (fun _ h9 => h9) rfl dX3_writeLine_58 ?_
              refine lv_iload_n hx hb dX3_writeLine_61 rfl (lv_at hl 0 rfl) ?_
              refine z_iald (k := 3) (v := (nI vv3)) hx hb hK hP 2 0 rfl rfl rfl (by omega) (by decide) hfv3 dX3_writeLine_62 ?_
              have hPc := hP.sub (ws' := [(ln, .inr (0, [.ref vb, .int 0, .int ml'_1, .int (nI ((ctx3 + 1) + 1))])), (vb, .inl (cA 2, nb, .inl g'_11))]) [3, 4] rfl
              have hDc := hD.sub (ws' := [(ln, .inr (0, [.ref vb, .int 0, .int ml'_1, .int (nI ((ctx3 + 1) + 1))])), (vb, .inl (cA 2, nb, .inl g'_11))]) [3, 4] (by decide) rfl
              have hFc := va_free (wc := [(ln, .inr (0, [.ref vb, .int 0, .int ml'_1, .int (nI ((ctx3 + 1) + 1))])), (vb, .inl (cA 2, nb, .inl g'_11))]) hD hS hA [3, 4] rfl
              refine va_callr (va_runV (As := [.int (nI vv3)]) (rest := []) ⟨hx, hb, hml, hown, hts⟩ (c_n_ai l D cA zv H.size ln vb ml'_1 ((ctx3 + 1) + 1) nb g'_11 vv3 hw_11.1 hw_11.2.1 hw_11.2.2.1 (by omega) hv3) (cwV 1 hts gX3_writeLine_J4_append_bf812 rfl rfl rfl (by decide +kernel) ⟨Nat.le_of_ble_eq_true rfl, Nat.le_of_ble_eq_true rfl⟩) ⟨zUX_blind, va_recv hK hPc (ci := 0) (q0 := 0) rfl rfl, fun U hU hW => ⟨rfl, zUX_call hE0 hX0 hS hFc hU hPc hW hK hDc⟩⟩ rfl rfl hl.1 rfl (lv_room (Nat.le_of_ble_eq_true rfl)) dX3_writeLine_63 ⟨(Nat.zero_le _), (Nat.zero_le _)⟩) hS (fun q _ h => hFc q h) hFc (fun u ra t H1 locs ht hvm hw hB hz1 hk1 hS => ?_)
              obtain ⟨g'_12, rfl⟩ : ∃ z, z = u := ⟨_, rfl⟩
              obtain ⟨hra, hP1, hD1⟩ := hB
              rw [ht] at hP1
              try dsimp only at hw hP1 hD1 hra
              subst ra
              obtain ⟨hP, hD⟩ := va_join (wr := [(o, .inr (4, [.ref F, .ref G, .int lo, .int nw, .int se, .ref (pa 0), .ref an, .ref ln])), cE x xv, (x 7, .inl (cA 0, 4, .inl f))]) (w1 := [(ln, .inr (0, [.ref vb, .int 0, .int ml'_1, .int (nI (((ctx3 + 1) + 1) + (lnD vv3).length))])), (vb, .inl (cA 2, nb, .inl g'_12))]) hP hD [3, 4] [0, 1, 2] rfl rfl (by decide) (by decide) hk1 hFc hP1 hD1
              generalize H1 = H at hP hS ⊢
              have hP := hP.sub (ws' := [(o, .inr (4, [.ref F, .ref G, .int lo, .int nw, .int se, .ref (pa 0), .ref an, .ref ln])), cE x xv, (x 7, .inl (cA 0, 4, .inl f)), (ln, .inr (0, [.ref vb, .int 0, .int ml'_1, .int (nI (((ctx3 + 1) + 1) + (lnD vv3).length))])), (vb, .inl (cA 2, nb, .inl g'_12))]) [0, 1, 2, 3, 4] rfl
              have hD := hD.sub (ws' := [(o, .inr (4, [.ref F, .ref G, .int lo, .int nw, .int se, .ref (pa 0), .ref an, .ref ln])), cE x xv, (x 7, .inl (cA 0, 4, .inl f)), (ln, .inr (0, [.ref vb, .int 0, .int ml'_1, .int (nI (((ctx3 + 1) + 1) + (lnD vv3).length))])), (vb, .inl (cA 2, nb, .inl g'_12))]) [0, 1, 2, 3, 4] (by decide) rfl
              clear hPc hDc hFc hP1 hD1 hk1 hz1
              have hw_12 := hw
              refine lv_pop hx hb dX3_writeLine_66 rfl ?_
              exact kJ _ _ _ _ ⟨(((ctx3 + 1) + 1) + (lnD vv3).length), g'_12, rfl, hP, hD, hS, lv_sub hl [0, 1, 2] rfl, (by rw [show lnT k f 4 = _ from lnT_v hv3 hfv3]; exact apd_rnd ha3 hc3 hw_10 hw_11 hw_12), (by rw [show lnT k f 4 = _ from lnT_v hv3 hfv3, hc3]; simp only [List.length_append, List.length_cons]; omega)⟩
        · skip
          refine lv_aload_n hx hb dX3_writeLine_30 rfl (lv_at hl 2 rfl) ?_
          refine va_get (D := D) (ci := 1) (v := .ref (x 7)) (C := RX0) (T := TX0) (N := 16) hx hb hts (fun _ h => List.mem_cons_of_mem _ (List.mem_append_left _ (List.mem_append_right _ (h)))) hown hK hP 1 rfl rfl 6 (by decide) (hts (.fieldLink RX3 107 "OptionWire$End" "asked" "[I") (List.mem_of_getElem? (i := 3) rfl)) (fun _ h9 => h9) rfl dX3_writeLine_31 ?_
          refine lv_iload_n hx hb dX3_writeLine_34 rfl (lv_at hl 0 rfl) ?_
          refine z_iald (k := 2) (v := (f 2)) hx hb hK hP 2 0 rfl rfl rfl (by omega) (by decide) rfl dX3_writeLine_35 ?_
          refine lv_iconst (v := (-1)) hx hb dX3_writeLine_36 (by decide) ?_
          refine lv_icmp_eq (tgt := 67) hx hb dX3_writeLine_37 (by decide) (fun c_13 => ?_) (fun c_13 => ?_)
          · skip
            exact kJ _ _ _ _ ⟨ctx2, gx2, rfl, hP, hD, hS, lv_sub hl [0, 1, 2] rfl, (by rw [show lnT k f 3 = _ from lnT_n c_13]; exact ha2), (by rw [show lnT k f 3 = _ from lnT_n c_13]; exact hc2)⟩
          · skip
            obtain ⟨vv2, hv2, hfv2⟩ := (hok 2 (by decide)).resolve_left c_13
            have hn2 := ha2.1
            have hq2 : ctx2 ≤ nb := by have q9 := ha2.2.1; omega
            have hf2 := ha2.2.2.1
            have hl2 : ctx2 + 2 + (lnD vv2).length ≤ nb := by (have q9 := lnT_mono (k := k) (f := f) (i := 3) (j := 4) (by decide); have q8 := congrArg List.length (show lnT k f 3 = _ from lnT_v hv2 hfv2); simp only [List.length_append, List.length_cons] at q8; omega)
            refine lv_aload_n hx hb dX3_writeLine_40 rfl (lv_at hl 1 rfl) ?_
            refine va_get (D := D) (ci := 4) (v := .ref ln) (C := RX3) (T := TX3) (N := 8) hx hb hts (fun _ h => List.mem_cons_of_mem _ (List.mem_append_left _ (List.mem_append_left _ (List.mem_append_right _ (h))))) hown hK hP 0 rfl rfl 7 (by decide) (hts (.fieldLink RX3 44 "OptionWire" "line" "Ljava/lang/StringBuilder;") (List.mem_of_getElem? (i := 1) rfl)) (fun _ h9 => h9) rfl dX3_writeLine_41 ?_
            refine lv_bipush (v := 32) hx hb dX3_writeLine_44 (by decide) ?_
            have hPc := hP.sub (ws' := [(ln, .inr (0, [.ref vb, .int 0, .int ml'_1, .int (nI ctx2)])), (vb, .inl (cA 2, nb, .inl gx2))]) [3, 4] rfl
            have hDc := hD.sub (ws' := [(ln, .inr (0, [.ref vb, .int 0, .int ml'_1, .int (nI ctx2)])), (vb, .inl (cA 2, nb, .inl gx2))]) [3, 4] (by decide) rfl
            have hFc := va_free (wc := [(ln, .inr (0, [.ref vb, .int 0, .int ml'_1, .int (nI ctx2)])), (vb, .inl (cA 2, nb, .inl gx2))]) hD hS hA [3, 4] rfl
            refine va_callr (va_runV (As := [.int 32]) (rest := []) ⟨hx, hb, hml, hown, hts⟩ (c_n_ac4 l D cA zv H.size ln vb ml'_1 ctx2 nb gx2 32 hn2 hq2 hf2 (by omega) (by decide) (by decide)) (cwV 1 hts gX3_writeLine_J4_append_cf468 rfl rfl rfl (by decide +kernel) ⟨Nat.le_of_ble_eq_true rfl, Nat.le_of_ble_eq_true rfl⟩) ⟨zUX_blind, va_recv hK hPc (ci := 0) (q0 := 0) rfl rfl, fun U hU hW => ⟨rfl, zUX_call hE0 hX0 hS hFc hU hPc hW hK hDc⟩⟩ rfl rfl hl.1 rfl (lv_room (Nat.le_of_ble_eq_true rfl)) dX3_writeLine_46 ⟨(Nat.zero_le _), (Nat.zero_le _)⟩) hS (fun q _ h => hFc q h) hFc (fun u ra t H1 locs ht hvm hw hB hz1 hk1 hS => ?_)
            obtain ⟨g'_14, rfl⟩ : ∃ z, z = u := ⟨_, rfl⟩
            obtain ⟨hra, hP1, hD1⟩ := hB
            rw [ht] at hP1
            try dsimp only at hw hP1 hD1 hra
            subst ra
            obtain ⟨hP, hD⟩ := va_join (wr := [(o, .inr (4, [.ref F, .ref G, .int lo, .int nw, .int se, .ref (pa 0), .ref an, .ref ln])), cE x xv, (x 7, .inl (cA 0, 4, .inl f))]) (w1 := [(ln, .inr (0, [.ref vb, .int 0, .int ml'_1, .int (nI (ctx2 + 1))])), (vb, .inl (cA 2, nb, .inl g'_14))]) hP hD [3, 4] [0, 1, 2] rfl rfl (by decide) (by decide) hk1 hFc hP1 hD1
            generalize H1 = H at hP hS ⊢
            have hP := hP.sub (ws' := [(o, .inr (4, [.ref F, .ref G, .int lo, .int nw, .int se, .ref (pa 0), .ref an, .ref ln])), cE x xv, (x 7, .inl (cA 0, 4, .inl f)), (ln, .inr (0, [.ref vb, .int 0, .int ml'_1, .int (nI (ctx2 + 1))])), (vb, .inl (cA 2, nb, .inl g'_14))]) [0, 1, 2, 3, 4] rfl
            have hD := hD.sub (ws' := [(o, .inr (4, [.ref F, .ref G, .int lo, .int nw, .int se, .ref (pa 0), .ref an, .ref ln])), cE x xv, (x 7, .inl (cA 0, 4, .inl f)), (ln, .inr (0, [.ref vb, .int 0, .int ml'_1, .int (nI (ctx2 + 1))])), (vb, .inl (cA 2, nb, .inl g'_14))]) [0, 1, 2, 3, 4] (by decide) rfl
            clear hPc hDc hFc hP1 hD1 hk1 hz1
            have hw_14 := hw
            refine lv_bipush (v := 97) hx hb dX3_writeLine_49 (by decide) ?_
            refine lv_iload_n hx hb dX3_writeLine_51 rfl (lv_at hl 0 rfl) ?_
            refine lv_iadd hx hb dX3_writeLine_52 ?_
            refine z_top (y := 99) (by decide) ?_
            refine lv_i2c (v := 99) hx hb dX3_writeLine_53 (by decide) ?_
            have hPc := hP.sub (ws' := [(ln, .inr (0, [.ref vb, .int 0, .int ml'_1, .int (nI (ctx2 + 1))])), (vb, .inl (cA 2, nb, .inl g'_14))]) [3, 4] rfl
            have hDc := hD.sub (ws' := [(ln, .inr (0, [.ref vb, .int 0, .int ml'_1, .int (nI (ctx2 + 1))])), (vb, .inl (cA 2, nb, .inl g'_14))]) [3, 4] (by decide) rfl
            have hFc := va_free (wc := [(ln, .inr (0, [.ref vb, .int 0, .int ml'_1, .int (nI (ctx2 + 1))])), (vb, .inl (cA 2, nb, .inl g'_14))]) hD hS hA [3, 4] rfl
            refine va_callr (va_runV (As := [.int 99]) (rest := []) ⟨hx, hb, hml, hown, hts⟩ (c_n_ac4 l D cA zv H.size ln vb ml'_1 (ctx2 + 1) nb g'_14 99 hw_14.1 hw_14.2.1 hw_14.2.2.1 (by omega) (by decide) (by decide)) (cwV 1 hts gX3_writeLine_J4_append_cf468 rfl rfl rfl (by decide +kernel) ⟨Nat.le_of_ble_eq_true rfl, Nat.le_of_ble_eq_true rfl⟩) ⟨zUX_blind, va_recv hK hPc (ci := 0) (q0 := 0) rfl rfl, fun U hU hW => ⟨rfl, zUX_call hE0 hX0 hS hFc hU hPc hW hK hDc⟩⟩ rfl rfl hl.1 rfl (lv_room (Nat.le_of_ble_eq_true rfl)) dX3_writeLine_54 ⟨(Nat.zero_le _), (Nat.zero_le _)⟩) hS (fun q _ h => hFc q h) hFc (fun u ra t H1 locs ht hvm hw hB hz1 hk1 hS => ?_)
            obtain ⟨g'_15, rfl⟩ : ∃ z, z = u := ⟨_, rfl⟩
            obtain ⟨hra, hP1, hD1⟩ := hB
            rw [ht] at hP1
            try dsimp only at hw hP1 hD1 hra
            subst ra
            obtain ⟨hP, hD⟩ := va_join (wr := [(o, .inr (4, [.ref F, .ref G, .int lo, .int nw, .int se, .ref (pa 0), .ref an, .ref ln])), cE x xv, (x 7, .inl (cA 0, 4, .inl f))]) (w1 := [(ln, .inr (0, [.ref vb, .int 0, .int ml'_1, .int (nI ((ctx2 + 1) + 1))])), (vb, .inl (cA 2, nb, .inl g'_15))]) hP hD [3, 4] [0, 1, 2] rfl rfl (by decide) (by decide) hk1 hFc hP1 hD1
            generalize H1 = H at hP hS ⊢
            have hP := hP.sub (ws' := [(o, .inr (4, [.ref F, .ref G, .int lo, .int nw, .int se, .ref (pa 0), .ref an, .ref ln])), cE x xv, (x 7, .inl (cA 0, 4, .inl f)), (ln, .inr (0, [.ref vb, .int 0, .int ml'_1, .int (nI ((ctx2 + 1) + 1))])), (vb, .inl (cA 2, nb, .inl g'_15))]) [0, 1, 2, 3, 4] rfl
            have hD := hD.sub (ws' := [(o, .inr (4, [.ref F, .ref G, .int lo, .int nw, .int se, .ref (pa 0), .ref an, .ref ln])), cE x xv, (x 7, .inl (cA 0, 4, .inl f)), (ln, .inr (0, [.ref vb, .int 0, .int ml'_1, .int (nI ((ctx2 + 1) + 1))])), (vb, .inl (cA 2, nb, .inl g'_15))]) [0, 1, 2, 3, 4] (by decide) rfl
            clear hPc hDc hFc hP1 hD1 hk1 hz1
            have hw_15 := hw
            refine lv_aload_n hx hb dX3_writeLine_57 rfl (lv_at hl 2 rfl) ?_
            refine va_get (D := D) (ci := 1) (v := .ref (x 7)) (C := RX0) (T := TX0) (N := 16) hx hb hts (fun _ h => List.mem_cons_of_mem _ (List.mem_append_left _ (List.mem_append_right _ (h)))) hown hK hP 1 rfl rfl 6 (by decide) (hts (.fieldLink RX3 107 "OptionWire$End" "asked" "[I") (List.mem_of_getElem? (i := 3) rfl)) (fun _ h9 => h9) rfl dX3_writeLine_58 ?_
            refine lv_iload_n hx hb dX3_writeLine_61 rfl (lv_at hl 0 rfl) ?_
            refine z_iald (k := 2) (v := (nI vv2)) hx hb hK hP 2 0 rfl rfl rfl (by omega) (by decide) hfv2 dX3_writeLine_62 ?_
            have hPc := hP.sub (ws' := [(ln, .inr (0, [.ref vb, .int 0, .int ml'_1, .int (nI ((ctx2 + 1) + 1))])), (vb, .inl (cA 2, nb, .inl g'_15))]) [3, 4] rfl
            have hDc := hD.sub (ws' := [(ln, .inr (0, [.ref vb, .int 0, .int ml'_1, .int (nI ((ctx2 + 1) + 1))])), (vb, .inl (cA 2, nb, .inl g'_15))]) [3, 4] (by decide) rfl
            have hFc := va_free (wc := [(ln, .inr (0, [.ref vb, .int 0, .int ml'_1, .int (nI ((ctx2 + 1) + 1))])), (vb, .inl (cA 2, nb, .inl g'_15))]) hD hS hA [3, 4] rfl
            refine va_callr (va_runV (As := [.int (nI vv2)]) (rest := []) ⟨hx, hb, hml, hown, hts⟩ (c_n_ai l D cA zv H.size ln vb ml'_1 ((ctx2 + 1) + 1) nb g'_15 vv2 hw_15.1 hw_15.2.1 hw_15.2.2.1 (by omega) hv2) (cwV 1 hts gX3_writeLine_J4_append_bf812 rfl rfl rfl (by decide +kernel) ⟨Nat.le_of_ble_eq_true rfl, Nat.le_of_ble_eq_true rfl⟩) ⟨zUX_blind, va_recv hK hPc (ci := 0) (q0 := 0) rfl rfl, fun U hU hW => ⟨rfl, zUX_call hE0 hX0 hS hFc hU hPc hW hK hDc⟩⟩ rfl rfl hl.1 rfl (lv_room (Nat.le_of_ble_eq_true rfl)) dX3_writeLine_63 ⟨(Nat.zero_le _), (Nat.zero_le _)⟩) hS (fun q _ h => hFc q h) hFc (fun u ra t H1 locs ht hvm hw hB hz1 hk1 hS => ?_)
            obtain ⟨g'_16, rfl⟩ : ∃ z, z = u := ⟨_, rfl⟩
            obtain ⟨hra, hP1, hD1⟩ := hB
            rw [ht] at hP1
            try dsimp only at hw hP1 hD1 hra
            subst ra
            obtain ⟨hP, hD⟩ := va_join (wr := [(o, .inr (4, [.ref F, .ref G, .int lo, .int nw, .int se, .ref (pa 0), .ref an, .ref ln])), cE x xv, (x 7, .inl (cA 0, 4, .inl f))]) (w1 := [(ln, .inr (0, [.ref vb, .int 0, .int ml'_1, .int (nI (((ctx2 + 1) + 1) + (lnD vv2).length))])), (vb, .inl (cA 2, nb, .inl g'_16))]) hP hD [3, 4] [0, 1, 2] rfl rfl (by decide) (by decide) hk1 hFc hP1 hD1
            generalize H1 = H at hP hS ⊢
            have hP := hP.sub (ws' := [(o, .inr (4, [.ref F, .ref G, .int lo, .int nw, .int se, .ref (pa 0), .ref an, .ref ln])), cE x xv, (x 7, .inl (cA 0, 4, .inl f)), (ln, .inr (0, [.ref vb, .int 0, .int ml'_1, .int (nI (((ctx2 + 1) + 1) + (lnD vv2).length))])), (vb, .inl (cA 2, nb, .inl g'_16))]) [0, 1, 2, 3, 4] rfl
            have hD := hD.sub (ws' := [(o, .inr (4, [.ref F, .ref G, .int lo, .int nw, .int se, .ref (pa 0), .ref an, .ref ln])), cE x xv, (x 7, .inl (cA 0, 4, .inl f)), (ln, .inr (0, [.ref vb, .int 0, .int ml'_1, .int (nI (((ctx2 + 1) + 1) + (lnD vv2).length))])), (vb, .inl (cA 2, nb, .inl g'_16))]) [0, 1, 2, 3, 4] (by decide) rfl
            clear hPc hDc hFc hP1 hD1 hk1 hz1
            have hw_16 := hw
            refine lv_pop hx hb dX3_writeLine_66 rfl ?_
            exact kJ _ _ _ _ ⟨(((ctx2 + 1) + 1) + (lnD vv2).length), g'_16, rfl, hP, hD, hS, lv_sub hl [0, 1, 2] rfl, (by rw [show lnT k f 3 = _ from lnT_v hv2 hfv2]; exact apd_rnd ha2 hc2 hw_14 hw_15 hw_16), (by rw [show lnT k f 3 = _ from lnT_v hv2 hfv2, hc2]; simp only [List.length_append, List.length_cons]; omega)⟩
      · skip
        refine lv_aload_n hx hb dX3_writeLine_30 rfl (lv_at hl 2 rfl) ?_
        refine va_get (D := D) (ci := 1) (v := .ref (x 7)) (C := RX0) (T := TX0) (N := 16) hx hb hts (fun _ h => List.mem_cons_of_mem _ (List.mem_append_left _ (List.mem_append_right _ (h)))) hown hK hP 1 rfl rfl 6 (by decide) (hts (.fieldLink RX3 107 "OptionWire$End" "asked" "[I") (List.mem_of_getElem? (i := 3) rfl)) (fun _ h9 => h9) rfl dX3_writeLine_31 ?_
        refine lv_iload_n hx hb dX3_writeLine_34 rfl (lv_at hl 0 rfl) ?_
        refine z_iald (k := 1) (v := (f 1)) hx hb hK hP 2 0 rfl rfl rfl (by omega) (by decide) rfl dX3_writeLine_35 ?_
        refine lv_iconst (v := (-1)) hx hb dX3_writeLine_36 (by decide) ?_
        refine lv_icmp_eq (tgt := 67) hx hb dX3_writeLine_37 (by decide) (fun c_17 => ?_) (fun c_17 => ?_)
        · skip
          exact kJ _ _ _ _ ⟨ctx1, gx1, rfl, hP, hD, hS, lv_sub hl [0, 1, 2] rfl, (by rw [show lnT k f 2 = _ from lnT_n c_17]; exact ha1), (by rw [show lnT k f 2 = _ from lnT_n c_17]; exact hc1)⟩
        · skip
          obtain ⟨vv1, hv1, hfv1⟩ := (hok 1 (by decide)).resolve_left c_17
          have hn1 := ha1.1
          have hq1 : ctx1 ≤ nb := by have q9 := ha1.2.1; omega
          have hf1 := ha1.2.2.1
          have hl1 : ctx1 + 2 + (lnD vv1).length ≤ nb := by (have q9 := lnT_mono (k := k) (f := f) (i := 2) (j := 4) (by decide); have q8 := congrArg List.length (show lnT k f 2 = _ from lnT_v hv1 hfv1); simp only [List.length_append, List.length_cons] at q8; omega)
          refine lv_aload_n hx hb dX3_writeLine_40 rfl (lv_at hl 1 rfl) ?_
          refine va_get (D := D) (ci := 4) (v := .ref ln) (C := RX3) (T := TX3) (N := 8) hx hb hts (fun _ h => List.mem_cons_of_mem _ (List.mem_append_left _ (List.mem_append_left _ (List.mem_append_right _ (h))))) hown hK hP 0 rfl rfl 7 (by decide) (hts (.fieldLink RX3 44 "OptionWire" "line" "Ljava/lang/StringBuilder;") (List.mem_of_getElem? (i := 1) rfl)) (fun _ h9 => h9) rfl dX3_writeLine_41 ?_
          refine lv_bipush (v := 32) hx hb dX3_writeLine_44 (by decide) ?_
          have hPc := hP.sub (ws' := [(ln, .inr (0, [.ref vb, .int 0, .int ml'_1, .int (nI ctx1)])), (vb, .inl (cA 2, nb, .inl gx1))]) [3, 4] rfl
          have hDc := hD.sub (ws' := [(ln, .inr (0, [.ref vb, .int 0, .int ml'_1, .int (nI ctx1)])), (vb, .inl (cA 2, nb, .inl gx1))]) [3, 4] (by decide) rfl
          have hFc := va_free (wc := [(ln, .inr (0, [.ref vb, .int 0, .int ml'_1, .int (nI ctx1)])), (vb, .inl (cA 2, nb, .inl gx1))]) hD hS hA [3, 4] rfl
          refine va_callr (va_runV (As := [.int 32]) (rest := []) ⟨hx, hb, hml, hown, hts⟩ (c_n_ac4 l D cA zv H.size ln vb ml'_1 ctx1 nb gx1 32 hn1 hq1 hf1 (by omega) (by decide) (by decide)) (cwV 1 hts gX3_writeLine_J4_append_cf468 rfl rfl rfl (by decide +kernel) ⟨Nat.le_of_ble_eq_true rfl, Nat.le_of_ble_eq_true rfl⟩) ⟨zUX_blind, va_recv hK hPc (ci := 0) (q0 := 0) rfl rfl, fun U hU hW => ⟨rfl, zUX_call hE0 hX0 hS hFc hU hPc hW hK hDc⟩⟩ rfl rfl hl.1 rfl (lv_room (Nat.le_of_ble_eq_true rfl)) dX3_writeLine_46 ⟨(Nat.zero_le _), (Nat.zero_le _)⟩) hS (fun q _ h => hFc q h) hFc (fun u ra t H1 locs ht hvm hw hB hz1 hk1 hS => ?_)
          obtain ⟨g'_18, rfl⟩ : ∃ z, z = u := ⟨_, rfl⟩
          obtain ⟨hra, hP1, hD1⟩ := hB
          rw [ht] at hP1
          try dsimp only at hw hP1 hD1 hra
          subst ra
          obtain ⟨hP, hD⟩ := va_join (wr := [(o, .inr (4, [.ref F, .ref G, .int lo, .int nw, .int se, .ref (pa 0), .ref an, .ref ln])), cE x xv, (x 7, .inl (cA 0, 4, .inl f))]) (w1 := [(ln, .inr (0, [.ref vb, .int 0, .int ml'_1, .int (nI (ctx1 + 1))])), (vb, .inl (cA 2, nb, .inl g'_18))]) hP hD [3, 4] [0, 1, 2] rfl rfl (by decide) (by decide) hk1 hFc hP1 hD1
          generalize H1 = H at hP hS ⊢
          have hP := hP.sub (ws' := [(o, .inr (4, [.ref F, .ref G, .int lo, .int nw, .int se, .ref (pa 0), .ref an, .ref ln])), cE x xv, (x 7, .inl (cA 0, 4, .inl f)), (ln, .inr (0, [.ref vb, .int 0, .int ml'_1, .int (nI (ctx1 + 1))])), (vb, .inl (cA 2, nb, .inl g'_18))]) [0, 1, 2, 3, 4] rfl
          have hD := hD.sub (ws' := [(o, .inr (4, [.ref F, .ref G, .int lo, .int nw, .int se, .ref (pa 0), .ref an, .ref ln])), cE x xv, (x 7, .inl (cA 0, 4, .inl f)), (ln, .inr (0, [.ref vb, .int 0, .int ml'_1, .int (nI (ctx1 + 1))])), (vb, .inl (cA 2, nb, .inl g'_18))]) [0, 1, 2, 3, 4] (by decide) rfl
          clear hPc hDc hFc hP1 hD1 hk1 hz1
          have hw_18 := hw
          refine lv_bipush (v := 97) hx hb dX3_writeLine_49 (by decide) ?_
          refine lv_iload_n hx hb dX3_writeLine_51 rfl (lv_at hl 0 rfl) ?_
          refine lv_iadd hx hb dX3_writeLine_52 ?_
          refine z_top (y := 98) (by decide) ?_
          refine lv_i2c (v := 98) hx hb dX3_writeLine_53 (by decide) ?_
          have hPc := hP.sub (ws' := [(ln, .inr (0, [.ref vb, .int 0, .int ml'_1, .int (nI (ctx1 + 1))])), (vb, .inl (cA 2, nb, .inl g'_18))]) [3, 4] rfl
          have hDc := hD.sub (ws' := [(ln, .inr (0, [.ref vb, .int 0, .int ml'_1, .int (nI (ctx1 + 1))])), (vb, .inl (cA 2, nb, .inl g'_18))]) [3, 4] (by decide) rfl
          have hFc := va_free (wc := [(ln, .inr (0, [.ref vb, .int 0, .int ml'_1, .int (nI (ctx1 + 1))])), (vb, .inl (cA 2, nb, .inl g'_18))]) hD hS hA [3, 4] rfl
          refine va_callr (va_runV (As := [.int 98]) (rest := []) ⟨hx, hb, hml, hown, hts⟩ (c_n_ac4 l D cA zv H.size ln vb ml'_1 (ctx1 + 1) nb g'_18 98 hw_18.1 hw_18.2.1 hw_18.2.2.1 (by omega) (by decide) (by decide)) (cwV 1 hts gX3_writeLine_J4_append_cf468 rfl rfl rfl (by decide +kernel) ⟨Nat.le_of_ble_eq_true rfl, Nat.le_of_ble_eq_true rfl⟩) ⟨zUX_blind, va_recv hK hPc (ci := 0) (q0 := 0) rfl rfl, fun U hU hW => ⟨rfl, zUX_call hE0 hX0 hS hFc hU hPc hW hK hDc⟩⟩ rfl rfl hl.1 rfl (lv_room (Nat.le_of_ble_eq_true rfl)) dX3_writeLine_54 ⟨(Nat.zero_le _), (Nat.zero_le _)⟩) hS (fun q _ h => hFc q h) hFc (fun u ra t H1 locs ht hvm hw hB hz1 hk1 hS => ?_)
          obtain ⟨g'_19, rfl⟩ : ∃ z, z = u := ⟨_, rfl⟩
          obtain ⟨hra, hP1, hD1⟩ := hB
          rw [ht] at hP1
          try dsimp only at hw hP1 hD1 hra
          subst ra
          obtain ⟨hP, hD⟩ := va_join (wr := [(o, .inr (4, [.ref F, .ref G, .int lo, .int nw, .int se, .ref (pa 0), .ref an, .ref ln])), cE x xv, (x 7, .inl (cA 0, 4, .inl f))]) (w1 := [(ln, .inr (0, [.ref vb, .int 0, .int ml'_1, .int (nI ((ctx1 + 1) + 1))])), (vb, .inl (cA 2, nb, .inl g'_19))]) hP hD [3, 4] [0, 1, 2] rfl rfl (by decide) (by decide) hk1 hFc hP1 hD1
          generalize H1 = H at hP hS ⊢
          have hP := hP.sub (ws' := [(o, .inr (4, [.ref F, .ref G, .int lo, .int nw, .int se, .ref (pa 0), .ref an, .ref ln])), cE x xv, (x 7, .inl (cA 0, 4, .inl f)), (ln, .inr (0, [.ref vb, .int 0, .int ml'_1, .int (nI ((ctx1 + 1) + 1))])), (vb, .inl (cA 2, nb, .inl g'_19))]) [0, 1, 2, 3, 4] rfl
          have hD := hD.sub (ws' := [(o, .inr (4, [.ref F, .ref G, .int lo, .int nw, .int se, .ref (pa 0), .ref an, .ref ln])), cE x xv, (x 7, .inl (cA 0, 4, .inl f)), (ln, .inr (0, [.ref vb, .int 0, .int ml'_1, .int (nI ((ctx1 + 1) + 1))])), (vb, .inl (cA 2, nb, .inl g'_19))]) [0, 1, 2, 3, 4] (by decide) rfl
          clear hPc hDc hFc hP1 hD1 hk1 hz1
          have hw_19 := hw
          refine lv_aload_n hx hb dX3_writeLine_57 rfl (lv_at hl 2 rfl) ?_
          refine va_get (D := D) (ci := 1) (v := .ref (x 7)) (C := RX0) (T := TX0) (N := 16) hx hb hts (fun _ h => List.mem_cons_of_mem _ (List.mem_append_left _ (List.mem_append_right _ (h)))) hown hK hP 1 rfl rfl 6 (by decide) (hts (.fieldLink RX3 107 "OptionWire$End" "asked" "[I") (List.mem_of_getElem? (i := 3) rfl)) (fun _ h9 => h9) rfl dX3_writeLine_58 ?_
          refine lv_iload_n hx hb dX3_writeLine_61 rfl (lv_at hl 0 rfl) ?_
          refine z_iald (k := 1) (v := (nI vv1)) hx hb hK hP 2 0 rfl rfl rfl (by omega) (by decide) hfv1 dX3_writeLine_62 ?_
          have hPc := hP.sub (ws' := [(ln, .inr (0, [.ref vb, .int 0, .int ml'_1, .int (nI ((ctx1 + 1) + 1))])), (vb, .inl (cA 2, nb, .inl g'_19))]) [3, 4] rfl
          have hDc := hD.sub (ws' := [(ln, .inr (0, [.ref vb, .int 0, .int ml'_1, .int (nI ((ctx1 + 1) + 1))])), (vb, .inl (cA 2, nb, .inl g'_19))]) [3, 4] (by decide) rfl
          have hFc := va_free (wc := [(ln, .inr (0, [.ref vb, .int 0, .int ml'_1, .int (nI ((ctx1 + 1) + 1))])), (vb, .inl (cA 2, nb, .inl g'_19))]) hD hS hA [3, 4] rfl
          refine va_callr (va_runV (As := [.int (nI vv1)]) (rest := []) ⟨hx, hb, hml, hown, hts⟩ (c_n_ai l D cA zv H.size ln vb ml'_1 ((ctx1 + 1) + 1) nb g'_19 vv1 hw_19.1 hw_19.2.1 hw_19.2.2.1 (by omega) hv1) (cwV 1 hts gX3_writeLine_J4_append_bf812 rfl rfl rfl (by decide +kernel) ⟨Nat.le_of_ble_eq_true rfl, Nat.le_of_ble_eq_true rfl⟩) ⟨zUX_blind, va_recv hK hPc (ci := 0) (q0 := 0) rfl rfl, fun U hU hW => ⟨rfl, zUX_call hE0 hX0 hS hFc hU hPc hW hK hDc⟩⟩ rfl rfl hl.1 rfl (lv_room (Nat.le_of_ble_eq_true rfl)) dX3_writeLine_63 ⟨(Nat.zero_le _), (Nat.zero_le _)⟩) hS (fun q _ h => hFc q h) hFc (fun u ra t H1 locs ht hvm hw hB hz1 hk1 hS => ?_)
          obtain ⟨g'_20, rfl⟩ : ∃ z, z = u := ⟨_, rfl⟩
          obtain ⟨hra, hP1, hD1⟩ := hB
          rw [ht] at hP1
          try dsimp only at hw hP1 hD1 hra
          subst ra
          obtain ⟨hP, hD⟩ := va_join (wr := [(o, .inr (4, [.ref F, .ref G, .int lo, .int nw, .int se, .ref (pa 0), .ref an, .ref ln])), cE x xv, (x 7, .inl (cA 0, 4, .inl f))]) (w1 := [(ln, .inr (0, [.ref vb, .int 0, .int ml'_1, .int (nI (((ctx1 + 1) + 1) + (lnD vv1).length))])), (vb, .inl (cA 2, nb, .inl g'_20))]) hP hD [3, 4] [0, 1, 2] rfl rfl (by decide) (by decide) hk1 hFc hP1 hD1
          generalize H1 = H at hP hS ⊢
          have hP := hP.sub (ws' := [(o, .inr (4, [.ref F, .ref G, .int lo, .int nw, .int se, .ref (pa 0), .ref an, .ref ln])), cE x xv, (x 7, .inl (cA 0, 4, .inl f)), (ln, .inr (0, [.ref vb, .int 0, .int ml'_1, .int (nI (((ctx1 + 1) + 1) + (lnD vv1).length))])), (vb, .inl (cA 2, nb, .inl g'_20))]) [0, 1, 2, 3, 4] rfl
          have hD := hD.sub (ws' := [(o, .inr (4, [.ref F, .ref G, .int lo, .int nw, .int se, .ref (pa 0), .ref an, .ref ln])), cE x xv, (x 7, .inl (cA 0, 4, .inl f)), (ln, .inr (0, [.ref vb, .int 0, .int ml'_1, .int (nI (((ctx1 + 1) + 1) + (lnD vv1).length))])), (vb, .inl (cA 2, nb, .inl g'_20))]) [0, 1, 2, 3, 4] (by decide) rfl
          clear hPc hDc hFc hP1 hD1 hk1 hz1
          have hw_20 := hw
          refine lv_pop hx hb dX3_writeLine_66 rfl ?_
          exact kJ _ _ _ _ ⟨(((ctx1 + 1) + 1) + (lnD vv1).length), g'_20, rfl, hP, hD, hS, lv_sub hl [0, 1, 2] rfl, (by rw [show lnT k f 2 = _ from lnT_v hv1 hfv1]; exact apd_rnd ha1 hc1 hw_18 hw_19 hw_20), (by rw [show lnT k f 2 = _ from lnT_v hv1 hfv1, hc1]; simp only [List.length_append, List.length_cons]; omega)⟩
    · skip
      refine lv_aload_n hx hb dX3_writeLine_30 rfl (lv_at hl 2 rfl) ?_
      refine va_get (D := D) (ci := 1) (v := .ref (x 7)) (C := RX0) (T := TX0) (N := 16) hx hb hts (fun _ h => List.mem_cons_of_mem _ (List.mem_append_left _ (List.mem_append_right _ (h)))) hown hK hP 1 rfl rfl 6 (by decide) (hts (.fieldLink RX3 107 "OptionWire$End" "asked" "[I") (List.mem_of_getElem? (i := 3) rfl)) (fun _ h9 => h9) rfl dX3_writeLine_31 ?_
      refine lv_iload_n hx hb dX3_writeLine_34 rfl (lv_at hl 0 rfl) ?_
      refine z_iald (k := 0) (v := (f 0)) hx hb hK hP 2 0 rfl rfl rfl (by omega) (by decide) rfl dX3_writeLine_35 ?_
      refine lv_iconst (v := (-1)) hx hb dX3_writeLine_36 (by decide) ?_
      refine lv_icmp_eq (tgt := 67) hx hb dX3_writeLine_37 (by decide) (fun c_21 => ?_) (fun c_21 => ?_)
      · skip
        exact kJ _ _ _ _ ⟨ctx0, gx0, rfl, hP, hD, hS, lv_sub hl [0, 1, 2] rfl, (by rw [show lnT k f 1 = _ from lnT_n c_21]; exact ha0), (by rw [show lnT k f 1 = _ from lnT_n c_21]; exact hc0)⟩
      · skip
        obtain ⟨vv0, hv0, hfv0⟩ := (hok 0 (by decide)).resolve_left c_21
        have hn0 := ha0.1
        have hq0 : ctx0 ≤ nb := by have q9 := ha0.2.1; omega
        have hf0 := ha0.2.2.1
        have hl0 : ctx0 + 2 + (lnD vv0).length ≤ nb := by (have q9 := lnT_mono (k := k) (f := f) (i := 1) (j := 4) (by decide); have q8 := congrArg List.length (show lnT k f 1 = _ from lnT_v hv0 hfv0); simp only [List.length_append, List.length_cons] at q8; omega)
        refine lv_aload_n hx hb dX3_writeLine_40 rfl (lv_at hl 1 rfl) ?_
        refine va_get (D := D) (ci := 4) (v := .ref ln) (C := RX3) (T := TX3) (N := 8) hx hb hts (fun _ h => List.mem_cons_of_mem _ (List.mem_append_left _ (List.mem_append_left _ (List.mem_append_right _ (h))))) hown hK hP 0 rfl rfl 7 (by decide) (hts (.fieldLink RX3 44 "OptionWire" "line" "Ljava/lang/StringBuilder;") (List.mem_of_getElem? (i := 1) rfl)) (fun _ h9 => h9) rfl dX3_writeLine_41 ?_
        refine lv_bipush (v := 32) hx hb dX3_writeLine_44 (by decide) ?_
        have hPc := hP.sub (ws' := [(ln, .inr (0, [.ref vb, .int 0, .int ml'_1, .int (nI ctx0)])), (vb, .inl (cA 2, nb, .inl gx0))]) [3, 4] rfl
        have hDc := hD.sub (ws' := [(ln, .inr (0, [.ref vb, .int 0, .int ml'_1, .int (nI ctx0)])), (vb, .inl (cA 2, nb, .inl gx0))]) [3, 4] (by decide) rfl
        have hFc := va_free (wc := [(ln, .inr (0, [.ref vb, .int 0, .int ml'_1, .int (nI ctx0)])), (vb, .inl (cA 2, nb, .inl gx0))]) hD hS hA [3, 4] rfl
        refine va_callr (va_runV (As := [.int 32]) (rest := []) ⟨hx, hb, hml, hown, hts⟩ (c_n_ac4 l D cA zv H.size ln vb ml'_1 ctx0 nb gx0 32 hn0 hq0 hf0 (by omega) (by decide) (by decide)) (cwV 1 hts gX3_writeLine_J4_append_cf468 rfl rfl rfl (by decide +kernel) ⟨Nat.le_of_ble_eq_true rfl, Nat.le_of_ble_eq_true rfl⟩) ⟨zUX_blind, va_recv hK hPc (ci := 0) (q0 := 0) rfl rfl, fun U hU hW => ⟨rfl, zUX_call hE0 hX0 hS hFc hU hPc hW hK hDc⟩⟩ rfl rfl hl.1 rfl (lv_room (Nat.le_of_ble_eq_true rfl)) dX3_writeLine_46 ⟨(Nat.zero_le _), (Nat.zero_le _)⟩) hS (fun q _ h => hFc q h) hFc (fun u ra t H1 locs ht hvm hw hB hz1 hk1 hS => ?_)
        obtain ⟨g'_22, rfl⟩ : ∃ z, z = u := ⟨_, rfl⟩
        obtain ⟨hra, hP1, hD1⟩ := hB
        rw [ht] at hP1
        try dsimp only at hw hP1 hD1 hra
        subst ra
        obtain ⟨hP, hD⟩ := va_join (wr := [(o, .inr (4, [.ref F, .ref G, .int lo, .int nw, .int se, .ref (pa 0), .ref an, .ref ln])), cE x xv, (x 7, .inl (cA 0, 4, .inl f))]) (w1 := [(ln, .inr (0, [.ref vb, .int 0, .int ml'_1, .int (nI (ctx0 + 1))])), (vb, .inl (cA 2, nb, .inl g'_22))]) hP hD [3, 4] [0, 1, 2] rfl rfl (by decide) (by decide) hk1 hFc hP1 hD1
        generalize H1 = H at hP hS ⊢
        have hP := hP.sub (ws' := [(o, .inr (4, [.ref F, .ref G, .int lo, .int nw, .int se, .ref (pa 0), .ref an, .ref ln])), cE x xv, (x 7, .inl (cA 0, 4, .inl f)), (ln, .inr (0, [.ref vb, .int 0, .int ml'_1, .int (nI (ctx0 + 1))])), (vb, .inl (cA 2, nb, .inl g'_22))]) [0, 1, 2, 3, 4] rfl
        have hD := hD.sub (ws' := [(o, .inr (4, [.ref F, .ref G, .int lo, .int nw, .int se, .ref (pa 0), .ref an, .ref ln])), cE x xv, (x 7, .inl (cA 0, 4, .inl f)), (ln, .inr (0, [.ref vb, .int 0, .int ml'_1, .int (nI (ctx0 + 1))])), (vb, .inl (cA 2, nb, .inl g'_22))]) [0, 1, 2, 3, 4] (by decide) rfl
        clear hPc hDc hFc hP1 hD1 hk1 hz1
        have hw_22 := hw
        refine lv_bipush (v := 97) hx hb dX3_writeLine_49 (by decide) ?_
        refine lv_iload_n hx hb dX3_writeLine_51 rfl (lv_at hl 0 rfl) ?_
        refine lv_iadd hx hb dX3_writeLine_52 ?_
        refine z_top (y := 97) (by decide) ?_
        refine lv_i2c (v := 97) hx hb dX3_writeLine_53 (by decide) ?_
        have hPc := hP.sub (ws' := [(ln, .inr (0, [.ref vb, .int 0, .int ml'_1, .int (nI (ctx0 + 1))])), (vb, .inl (cA 2, nb, .inl g'_22))]) [3, 4] rfl
        have hDc := hD.sub (ws' := [(ln, .inr (0, [.ref vb, .int 0, .int ml'_1, .int (nI (ctx0 + 1))])), (vb, .inl (cA 2, nb, .inl g'_22))]) [3, 4] (by decide) rfl
        have hFc := va_free (wc := [(ln, .inr (0, [.ref vb, .int 0, .int ml'_1, .int (nI (ctx0 + 1))])), (vb, .inl (cA 2, nb, .inl g'_22))]) hD hS hA [3, 4] rfl
        refine va_callr (va_runV (As := [.int 97]) (rest := []) ⟨hx, hb, hml, hown, hts⟩ (c_n_ac4 l D cA zv H.size ln vb ml'_1 (ctx0 + 1) nb g'_22 97 hw_22.1 hw_22.2.1 hw_22.2.2.1 (by omega) (by decide) (by decide)) (cwV 1 hts gX3_writeLine_J4_append_cf468 rfl rfl rfl (by decide +kernel) ⟨Nat.le_of_ble_eq_true rfl, Nat.le_of_ble_eq_true rfl⟩) ⟨zUX_blind, va_recv hK hPc (ci := 0) (q0 := 0) rfl rfl, fun U hU hW => ⟨rfl, zUX_call hE0 hX0 hS hFc hU hPc hW hK hDc⟩⟩ rfl rfl hl.1 rfl (lv_room (Nat.le_of_ble_eq_true rfl)) dX3_writeLine_54 ⟨(Nat.zero_le _), (Nat.zero_le _)⟩) hS (fun q _ h => hFc q h) hFc (fun u ra t H1 locs ht hvm hw hB hz1 hk1 hS => ?_)
        obtain ⟨g'_23, rfl⟩ : ∃ z, z = u := ⟨_, rfl⟩
        obtain ⟨hra, hP1, hD1⟩ := hB
        rw [ht] at hP1
        try dsimp only at hw hP1 hD1 hra
        subst ra
        obtain ⟨hP, hD⟩ := va_join (wr := [(o, .inr (4, [.ref F, .ref G, .int lo, .int nw, .int se, .ref (pa 0), .ref an, .ref ln])), cE x xv, (x 7, .inl (cA 0, 4, .inl f))]) (w1 := [(ln, .inr (0, [.ref vb, .int 0, .int ml'_1, .int (nI ((ctx0 + 1) + 1))])), (vb, .inl (cA 2, nb, .inl g'_23))]) hP hD [3, 4] [0, 1, 2] rfl rfl (by decide) (by decide) hk1 hFc hP1 hD1
        generalize H1 = H at hP hS ⊢
        have hP := hP.sub (ws' := [(o, .inr (4, [.ref F, .ref G, .int lo, .int nw, .int se, .ref (pa 0), .ref an, .ref ln])), cE x xv, (x 7, .inl (cA 0, 4, .inl f)), (ln, .inr (0, [.ref vb, .int 0, .int ml'_1, .int (nI ((ctx0 + 1) + 1))])), (vb, .inl (cA 2, nb, .inl g'_23))]) [0, 1, 2, 3, 4] rfl
        have hD := hD.sub (ws' := [(o, .inr (4, [.ref F, .ref G, .int lo, .int nw, .int se, .ref (pa 0), .ref an, .ref ln])), cE x xv, (x 7, .inl (cA 0, 4, .inl f)), (ln, .inr (0, [.ref vb, .int 0, .int ml'_1, .int (nI ((ctx0 + 1) + 1))])), (vb, .inl (cA 2, nb, .inl g'_23))]) [0, 1, 2, 3, 4] (by decide) rfl
        clear hPc hDc hFc hP1 hD1 hk1 hz1
        have hw_23 := hw
        refine lv_aload_n hx hb dX3_writeLine_57 rfl (lv_at hl 2 rfl) ?_
        refine va_get (D := D) (ci := 1) (v := .ref (x 7)) (C := RX0) (T := TX0) (N := 16) hx hb hts (fun _ h => List.mem_cons_of_mem _ (List.mem_append_left _ (List.mem_append_right _ (h)))) hown hK hP 1 rfl rfl 6 (by decide) (hts (.fieldLink RX3 107 "OptionWire$End" "asked" "[I") (List.mem_of_getElem? (i := 3) rfl)) (fun _ h9 => h9) rfl dX3_writeLine_58 ?_
        refine lv_iload_n hx hb dX3_writeLine_61 rfl (lv_at hl 0 rfl) ?_
        refine z_iald (k := 0) (v := (nI vv0)) hx hb hK hP 2 0 rfl rfl rfl (by omega) (by decide) hfv0 dX3_writeLine_62 ?_
        have hPc := hP.sub (ws' := [(ln, .inr (0, [.ref vb, .int 0, .int ml'_1, .int (nI ((ctx0 + 1) + 1))])), (vb, .inl (cA 2, nb, .inl g'_23))]) [3, 4] rfl
        have hDc := hD.sub (ws' := [(ln, .inr (0, [.ref vb, .int 0, .int ml'_1, .int (nI ((ctx0 + 1) + 1))])), (vb, .inl (cA 2, nb, .inl g'_23))]) [3, 4] (by decide) rfl
        have hFc := va_free (wc := [(ln, .inr (0, [.ref vb, .int 0, .int ml'_1, .int (nI ((ctx0 + 1) + 1))])), (vb, .inl (cA 2, nb, .inl g'_23))]) hD hS hA [3, 4] rfl
        refine va_callr (va_runV (As := [.int (nI vv0)]) (rest := []) ⟨hx, hb, hml, hown, hts⟩ (c_n_ai l D cA zv H.size ln vb ml'_1 ((ctx0 + 1) + 1) nb g'_23 vv0 hw_23.1 hw_23.2.1 hw_23.2.2.1 (by omega) hv0) (cwV 1 hts gX3_writeLine_J4_append_bf812 rfl rfl rfl (by decide +kernel) ⟨Nat.le_of_ble_eq_true rfl, Nat.le_of_ble_eq_true rfl⟩) ⟨zUX_blind, va_recv hK hPc (ci := 0) (q0 := 0) rfl rfl, fun U hU hW => ⟨rfl, zUX_call hE0 hX0 hS hFc hU hPc hW hK hDc⟩⟩ rfl rfl hl.1 rfl (lv_room (Nat.le_of_ble_eq_true rfl)) dX3_writeLine_63 ⟨(Nat.zero_le _), (Nat.zero_le _)⟩) hS (fun q _ h => hFc q h) hFc (fun u ra t H1 locs ht hvm hw hB hz1 hk1 hS => ?_)
        obtain ⟨g'_24, rfl⟩ : ∃ z, z = u := ⟨_, rfl⟩
        obtain ⟨hra, hP1, hD1⟩ := hB
        rw [ht] at hP1
        try dsimp only at hw hP1 hD1 hra
        subst ra
        obtain ⟨hP, hD⟩ := va_join (wr := [(o, .inr (4, [.ref F, .ref G, .int lo, .int nw, .int se, .ref (pa 0), .ref an, .ref ln])), cE x xv, (x 7, .inl (cA 0, 4, .inl f))]) (w1 := [(ln, .inr (0, [.ref vb, .int 0, .int ml'_1, .int (nI (((ctx0 + 1) + 1) + (lnD vv0).length))])), (vb, .inl (cA 2, nb, .inl g'_24))]) hP hD [3, 4] [0, 1, 2] rfl rfl (by decide) (by decide) hk1 hFc hP1 hD1
        generalize H1 = H at hP hS ⊢
        have hP := hP.sub (ws' := [(o, .inr (4, [.ref F, .ref G, .int lo, .int nw, .int se, .ref (pa 0), .ref an, .ref ln])), cE x xv, (x 7, .inl (cA 0, 4, .inl f)), (ln, .inr (0, [.ref vb, .int 0, .int ml'_1, .int (nI (((ctx0 + 1) + 1) + (lnD vv0).length))])), (vb, .inl (cA 2, nb, .inl g'_24))]) [0, 1, 2, 3, 4] rfl
        have hD := hD.sub (ws' := [(o, .inr (4, [.ref F, .ref G, .int lo, .int nw, .int se, .ref (pa 0), .ref an, .ref ln])), cE x xv, (x 7, .inl (cA 0, 4, .inl f)), (ln, .inr (0, [.ref vb, .int 0, .int ml'_1, .int (nI (((ctx0 + 1) + 1) + (lnD vv0).length))])), (vb, .inl (cA 2, nb, .inl g'_24))]) [0, 1, 2, 3, 4] (by decide) rfl
        clear hPc hDc hFc hP1 hD1 hk1 hz1
        have hw_24 := hw
        refine lv_pop hx hb dX3_writeLine_66 rfl ?_
        exact kJ _ _ _ _ ⟨(((ctx0 + 1) + 1) + (lnD vv0).length), g'_24, rfl, hP, hD, hS, lv_sub hl [0, 1, 2] rfl, (by rw [show lnT k f 1 = _ from lnT_v hv0 hfv0]; exact apd_rnd ha0 hc0 hw_22 hw_23 hw_24), (by rw [show lnT k f 1 = _ from lnT_v hv0 hfv0, hc0]; simp only [List.length_append, List.length_cons]; omega)⟩
  · skip
    refine lv_pop hx hb dX3_writeLine_22 rfl ?_
    exact kJ _ _ _ _ ⟨(0 + zLen.getD k 0), g'_3, rfl, hP, hD, hS, lv_sub hl [0, 1] rfl, hw_3, (by rw [Nat.zero_add]; exact (zlen_ok hk).symm)⟩
set_option maxHeartbeats 4000000 in
set_option maxRecDepth 100000 in
theorem c_n_lineLength (l : Launch) (D : va_G) (cA : Nat → ClassId) (zv : Nat → Nat) (sz : Nat) (o F G : Nat) (lo nw se : Int32) (pa : Nat → Nat) (an ln : Nat) (x : Nat → Nat) (y0 : Nat) (n : Int32) (xv : Nat → Int32) (k vb nb ct : Nat) (ml : Int32) (f g : Nat → Int32) (he : en n F G (x 0) y0) (hk : k < 8) (hk0 : xv 0 = nI k) (hok : ∀ j, j < 4 → okv (f j)) (hn : nb = 16 ∨ nb = 34) (hct : ct ≤ nb) (hfb : bfit nb g) (hft : (lnT k f 4).length ≤ nb) : Met l yX3_lineLength wsX3_lineLength ({ frames := 6, cells := 0, slots := 0, locals := 170 }) (va_Pc [.ref o, .int n] (zUX D cA zv sz [(o, .inr (4, [.ref F, .ref G, .int lo, .int nw, .int se, .ref (pa 0), .ref an, .ref ln])), cE x xv, (x 7, .inl (cA 0, 4, .inl f)), (ln, .inr (0, [.ref vb, .int 0, .int ml, .int (nI ct)])), (vb, .inl (cA 2, nb, .inl g))])) (va_Qi (fun (r : Int32) (u : (Int32 × (Nat → Int32))) => apd nb u.2 g 0 (lnT k f 4) ∧ r = nI (lnT k f 4).length) (fun (u : (Int32 × (Nat → Int32))) t => zB D [(o, .inr (4, [.ref F, .ref G, .int lo, .int nw, .int se, .ref (pa 0), .ref an, .ref ln])), cE x xv, (x 7, .inl (cA 0, 4, .inl f)), (ln, .inr (0, [.ref vb, .int 0, .int ml, .int (nI ct)])), (vb, .inl (cA 2, nb, .inl g))] sz [(o, .inr (4, [.ref F, .ref G, .int lo, .int nw, .int se, .ref (pa 0), .ref an, .ref ln])), cE x xv, (x 7, .inl (cA 0, 4, .inl f)), (ln, .inr (0, [.ref vb, .int 0, .int u.1, .int (nI ((lnT k f 4).length))])), (vb, .inl (cA 2, nb, .inl u.2))] t) (va_A [(o, .inr (4, [.ref F, .ref G, .int lo, .int nw, .int se, .ref (pa 0), .ref an, .ref ln])), cE x xv, (x 7, .inl (cA 0, 4, .inl f)), (ln, .inr (0, [.ref vb, .int 0, .int ml, .int (nI ct)])), (vb, .inl (cA 2, nb, .inl g))] sz)) 0 0 (va_A [(o, .inr (4, [.ref F, .ref G, .int lo, .int nw, .int se, .ref (pa 0), .ref an, .ref ln])), cE x xv, (x 7, .inl (cA 0, 4, .inl f)), (ln, .inr (0, [.ref vb, .int 0, .int ml, .int (nI ct)])), (vb, .inl (cA 2, nb, .inl g))] sz) := by
  refine Met.ofW (cc := cX3_lineLength) (maxL := 2) (ret := (some .int)) (by decide) rfl ?_
  intro p e s m args below meth c s₁ B hml hv
  obtain ⟨rfl, ⟨hsz, hP, hK, hD0, hE0⟩, hX0⟩ := hv
  have hx := B.exec
  have hb := B.bytes
  have hr := B.returns
  have hts := atoms_spec (ws := wsX3_lineLength) B.pre
  have hown : s.vm.findClass RX3 = some m.cls := findClass_of_methodNamed B.named
  have hlocks := B.notSynchronized
  subst hsz
  have hD := hD0.self (sz := s.heap.size)
  generalize hAe : va_A [(o, .inr (4, [.ref F, .ref G, .int lo, .int nw, .int se, .ref (pa 0), .ref an, .ref ln])), cE x xv, (x 7, .inl (cA 0, 4, .inl f)), (ln, .inr (0, [.ref vb, .int 0, .int ml, .int (nI ct)])), (vb, .inl (cA 2, nb, .inl g))] s.heap.size = A at hD hE0 hX0 ⊢
  have hA : ∀ q : Nat, s.heap.size ≤ q → A q := fun q h => by rw [← hAe]; exact Or.inr h
  have hS : va_S A s.heap s.heap [] := va_S.rf
  have hl := lv_entry ([.ref o, .int n]) (n := 2) (Nat.le_of_ble_eq_true rfl)
  rw [lg_entry_eq]
  generalize (lg_sl ([.ref o, .int n]) ++ List.replicate (2 - (lg_sl ([.ref o, .int n])).length) Slot.unset).toArray = ls at hl ⊢
  have hl : lv_has ls 2 [(0, .ref o), (1, .int n)] := hl
  refine lv_iload_n hx hb dX3_lineLength_0 rfl (lv_at hl 1 rfl) ?_
  have hPc := hP.sub (ws' := []) [] rfl
  have hDc := hD.sub (ws' := []) [] (by decide) rfl
  have hFc := va_free (wc := []) hD hS hA [] rfl
  refine va_callv (va_runS (As := [.int n]) (rest := []) ⟨hx, hb, hml, hown, hts⟩ (c_X3_checkEnd_k l D cA s.heap.size n (en_inr he)) (va_cwS 1 hts gX3_lineLength_X3_checkEnd rfl rfl rfl (by decide +kernel) ⟨Nat.le_of_ble_eq_true rfl, Nat.le_of_ble_eq_true rfl⟩) ⟨zU_blind, fun U hU hW => ⟨rfl, zU_call hU hPc hW.alike hK hDc⟩⟩ rfl rfl hl.1 rfl (lv_room (Nat.le_of_ble_eq_true rfl)) dX3_lineLength_1 ⟨(Nat.zero_le _), (Nat.zero_le _)⟩) hS (fun q _ h => hFc q h) hFc (fun u t H1 locs ht hvm hw hB hz1 hk1 hS => ?_)
  obtain ⟨hP1, hD1⟩ := hB
  rw [ht] at hP1
  obtain ⟨hP, hD⟩ := va_join (wr := [(o, .inr (4, [.ref F, .ref G, .int lo, .int nw, .int se, .ref (pa 0), .ref an, .ref ln])), cE x xv, (x 7, .inl (cA 0, 4, .inl f)), (ln, .inr (0, [.ref vb, .int 0, .int ml, .int (nI ct)])), (vb, .inl (cA 2, nb, .inl g))]) (w1 := []) hP hD [] [0, 1, 2, 3, 4] rfl rfl (by decide) (by decide) hk1 hFc hP1 hD1
  generalize H1 = H at hP hS ⊢
  have hP := hP.sub (ws' := [(o, .inr (4, [.ref F, .ref G, .int lo, .int nw, .int se, .ref (pa 0), .ref an, .ref ln])), cE x xv, (x 7, .inl (cA 0, 4, .inl f)), (ln, .inr (0, [.ref vb, .int 0, .int ml, .int (nI ct)])), (vb, .inl (cA 2, nb, .inl g))]) [0, 1, 2, 3, 4] rfl
  have hD := hD.sub (ws' := [(o, .inr (4, [.ref F, .ref G, .int lo, .int nw, .int se, .ref (pa 0), .ref an, .ref ln])), cE x xv, (x 7, .inl (cA 0, 4, .inl f)), (ln, .inr (0, [.ref vb, .int 0, .int ml, .int (nI ct)])), (vb, .inl (cA 2, nb, .inl g))]) [0, 1, 2, 3, 4] (by decide) rfl
  clear hPc hDc hFc hP1 hD1 hk1 hz1
  have hw_1 := hw
  refine lv_aload_n hx hb dX3_lineLength_4 rfl (lv_at hl 0 rfl) ?_
  refine lv_aload_n hx hb dX3_lineLength_5 rfl (lv_at hl 0 rfl) ?_
  refine lv_iload_n hx hb dX3_lineLength_6 rfl (lv_at hl 1 rfl) ?_
  have hPc := hP.sub (ws' := [(o, .inr (4, [.ref F, .ref G, .int lo, .int nw, .int se, .ref (pa 0), .ref an, .ref ln]))]) [0] rfl
  have hDc := hD.sub (ws' := [(o, .inr (4, [.ref F, .ref G, .int lo, .int nw, .int se, .ref (pa 0), .ref an, .ref ln]))]) [0] (by decide) rfl
  have hFc := va_free (wc := [(o, .inr (4, [.ref F, .ref G, .int lo, .int nw, .int se, .ref (pa 0), .ref an, .ref ln]))]) hD hS hA [0] rfl
  refine va_callr (va_runV (As := [.int n]) (rest := [.ref o]) ⟨hx, hb, hml, hown, hts⟩ (c_X3_endOf l D cA H.size o F G lo nw se pa an ln n (x 0) y0 (by assumption)) (cwV 1 hts gX3_lineLength_X3_endOf rfl rfl rfl (by decide +kernel) ⟨Nat.le_of_ble_eq_true rfl, Nat.le_of_ble_eq_true rfl⟩) ⟨zU_blind, va_recv hK hPc (ci := 4) (q0 := 0) rfl rfl, fun U hU hW => ⟨rfl, zU_call hU hPc hW.alike hK hDc⟩⟩ rfl rfl hl.1 rfl (lv_room (Nat.le_of_ble_eq_true rfl)) dX3_lineLength_7 ⟨(Nat.zero_le _), (Nat.zero_le _)⟩) hS (fun q _ h => hFc q h) hFc (fun u ra t H1 locs ht hvm hw hB hz1 hk1 hS => ?_)
  obtain ⟨hra, hP1, hD1⟩ := hB
  rw [ht] at hP1
  subst ra
  obtain ⟨hP, hD⟩ := va_join (wr := [cE x xv, (x 7, .inl (cA 0, 4, .inl f)), (ln, .inr (0, [.ref vb, .int 0, .int ml, .int (nI ct)])), (vb, .inl (cA 2, nb, .inl g))]) (w1 := [(o, .inr (4, [.ref F, .ref G, .int lo, .int nw, .int se, .ref (pa 0), .ref an, .ref ln]))]) hP hD [0] [1, 2, 3, 4] rfl rfl (by decide) (by decide) hk1 hFc hP1 hD1
  generalize H1 = H at hP hS ⊢
  have hP := hP.sub (ws' := [(o, .inr (4, [.ref F, .ref G, .int lo, .int nw, .int se, .ref (pa 0), .ref an, .ref ln])), cE x xv, (x 7, .inl (cA 0, 4, .inl f)), (ln, .inr (0, [.ref vb, .int 0, .int ml, .int (nI ct)])), (vb, .inl (cA 2, nb, .inl g))]) [4, 0, 1, 2, 3] rfl
  have hD := hD.sub (ws' := [(o, .inr (4, [.ref F, .ref G, .int lo, .int nw, .int se, .ref (pa 0), .ref an, .ref ln])), cE x xv, (x 7, .inl (cA 0, 4, .inl f)), (ln, .inr (0, [.ref vb, .int 0, .int ml, .int (nI ct)])), (vb, .inl (cA 2, nb, .inl g))]) [4, 0, 1, 2, 3] (by decide) rfl
  clear hPc hDc hFc hP1 hD1 hk1 hz1
  have hw_2 := hw
  have hPc := hP.sub (ws' := [(o, .inr (4, [.ref F, .ref G, .int lo, .int nw, .int se, .ref (pa 0), .ref an, .ref ln])), cE x xv, (x 7, .inl (cA 0, 4, .inl f)), (ln, .inr (0, [.ref vb, .int 0, .int ml, .int (nI ct)])), (vb, .inl (cA 2, nb, .inl g))]) [0, 1, 2, 3, 4] rfl
  have hDc := hD.sub (ws' := [(o, .inr (4, [.ref F, .ref G, .int lo, .int nw, .int se, .ref (pa 0), .ref an, .ref ln])), cE x xv, (x 7, .inl (cA 0, 4, .inl f)), (ln, .inr (0, [.ref vb, .int 0, .int ml, .int (nI ct)])), (vb, .inl (cA 2, nb, .inl g))]) [0, 1, 2, 3, 4] (by decide) rfl
  have hFc := va_free (wc := [(o, .inr (4, [.ref F, .ref G, .int lo, .int nw, .int se, .ref (pa 0), .ref an, .ref ln])), cE x xv, (x 7, .inl (cA 0, 4, .inl f)), (ln, .inr (0, [.ref vb, .int 0, .int ml, .int (nI ct)])), (vb, .inl (cA 2, nb, .inl g))]) hD hS hA [0, 1, 2, 3, 4] rfl
  refine va_callv (va_runV (As := [.ref (x 0)]) (rest := []) ⟨hx, hb, hml, hown, hts⟩ (c_n_wl l D cA zv H.size o F G lo nw se pa an ln x xv k vb nb ct ml f g (by assumption) (by assumption) (by assumption) (by assumption) (by assumption) (by assumption) (by assumption)) (cwV 1 hts gX3_lineLength_X3_writeLine rfl rfl rfl (by decide +kernel) ⟨Nat.le_of_ble_eq_true rfl, Nat.le_of_ble_eq_true rfl⟩) ⟨zUX_blind, va_recv hK hPc (ci := 4) (q0 := 0) rfl rfl, fun U hU hW => ⟨rfl, zUX_call hE0 hX0 hS hFc hU hPc hW hK hDc⟩⟩ rfl rfl hl.1 rfl (lv_room (Nat.le_of_ble_eq_true rfl)) dX3_lineLength_10 ⟨(Nat.zero_le _), (Nat.zero_le _)⟩) hS (fun q _ h => hFc q h) hFc (fun u t H1 locs ht hvm hw hB hz1 hk1 hS => ?_)
  obtain ⟨ml'_3, g'_3⟩ := u
  obtain ⟨hP1, hD1⟩ := hB
  rw [ht] at hP1
  try dsimp only at hw hP1 hD1
  obtain ⟨hP, hD⟩ := va_join (wr := []) (w1 := [(o, .inr (4, [.ref F, .ref G, .int lo, .int nw, .int se, .ref (pa 0), .ref an, .ref ln])), cE x xv, (x 7, .inl (cA 0, 4, .inl f)), (ln, .inr (0, [.ref vb, .int 0, .int ml'_3, .int (nI ((lnT k f 4).length))])), (vb, .inl (cA 2, nb, .inl g'_3))]) hP hD [0, 1, 2, 3, 4] [] rfl rfl (by decide) (by decide) hk1 hFc hP1 hD1
  generalize H1 = H at hP hS ⊢
  have hP := hP.sub (ws' := [(o, .inr (4, [.ref F, .ref G, .int lo, .int nw, .int se, .ref (pa 0), .ref an, .ref ln])), cE x xv, (x 7, .inl (cA 0, 4, .inl f)), (ln, .inr (0, [.ref vb, .int 0, .int ml'_3, .int (nI ((lnT k f 4).length))])), (vb, .inl (cA 2, nb, .inl g'_3))]) [0, 1, 2, 3, 4] rfl
  have hD := hD.sub (ws' := [(o, .inr (4, [.ref F, .ref G, .int lo, .int nw, .int se, .ref (pa 0), .ref an, .ref ln])), cE x xv, (x 7, .inl (cA 0, 4, .inl f)), (ln, .inr (0, [.ref vb, .int 0, .int ml'_3, .int (nI ((lnT k f 4).length))])), (vb, .inl (cA 2, nb, .inl g'_3))]) [0, 1, 2, 3, 4] (by decide) rfl
  clear hPc hDc hFc hP1 hD1 hk1 hz1
  have hw_3 := hw
  refine lv_aload_n hx hb dX3_lineLength_13 rfl (lv_at hl 0 rfl) ?_
  refine va_get (D := D) (ci := 4) (v := .ref ln) (C := RX3) (T := TX3) (N := 8) hx hb hts (fun _ h => List.mem_cons_of_mem _ (List.mem_append_left _ (List.mem_append_left _ (List.mem_append_left _ (List.mem_append_right _ (h)))))) hown hK hP 0 rfl rfl 7 (by decide) (hts (.fieldLink RX3 44 "OptionWire" "line" "Ljava/lang/StringBuilder;") (List.mem_of_getElem? (i := 1) rfl)) (fun _ h9 => h9) rfl dX3_lineLength_14 ?_
  have hPc := hP.sub (ws' := [(ln, .inr (0, [.ref vb, .int 0, .int ml'_3, .int (nI ((lnT k f 4).length))]))]) [3] rfl
  have hDc := hD.sub (ws' := [(ln, .inr (0, [.ref vb, .int 0, .int ml'_3, .int (nI ((lnT k f 4).length))]))]) [3] (by decide) rfl
  have hFc := va_free (wc := [(ln, .inr (0, [.ref vb, .int 0, .int ml'_3, .int (nI ((lnT k f 4).length))]))]) hD hS hA [3] rfl
  refine va_calli (va_runV (As := []) (rest := []) ⟨hx, hb, hml, hown, hts⟩ (c_J4_length_8abf5 l D cA H.size ln vb ml'_3 ((lnT k f 4).length)) (cwV 0 hts gX3_lineLength_J4_length_8abf5 rfl rfl rfl (by decide +kernel) ⟨Nat.le_of_ble_eq_true rfl, Nat.le_of_ble_eq_true rfl⟩) ⟨zU_blind, va_recv hK hPc (ci := 0) (q0 := 0) rfl rfl, fun U hU hW => ⟨rfl, zU_call hU hPc hW.alike hK hDc⟩⟩ rfl rfl hl.1 rfl (lv_room (Nat.le_of_ble_eq_true rfl)) dX3_lineLength_17 ⟨(Nat.zero_le _), (Nat.zero_le _)⟩) hS (fun q _ h => hFc q h) hFc (fun zr u t H1 locs ht hvm hw hB hz1 hk1 hS => ?_)
  obtain ⟨hP1, hD1⟩ := hB
  rw [ht] at hP1
  obtain ⟨hP, hD⟩ := va_join (wr := [(o, .inr (4, [.ref F, .ref G, .int lo, .int nw, .int se, .ref (pa 0), .ref an, .ref ln])), cE x xv, (x 7, .inl (cA 0, 4, .inl f)), (vb, .inl (cA 2, nb, .inl g'_3))]) (w1 := [(ln, .inr (0, [.ref vb, .int 0, .int ml'_3, .int (nI ((lnT k f 4).length))]))]) hP hD [3] [0, 1, 2, 4] rfl rfl (by decide) (by decide) hk1 hFc hP1 hD1
  generalize H1 = H at hP hS ⊢
  have hP := hP.sub (ws' := [(o, .inr (4, [.ref F, .ref G, .int lo, .int nw, .int se, .ref (pa 0), .ref an, .ref ln])), cE x xv, (x 7, .inl (cA 0, 4, .inl f)), (ln, .inr (0, [.ref vb, .int 0, .int ml'_3, .int (nI ((lnT k f 4).length))])), (vb, .inl (cA 2, nb, .inl g'_3))]) [0, 1, 2, 4, 3] rfl
  have hD := hD.sub (ws' := [(o, .inr (4, [.ref F, .ref G, .int lo, .int nw, .int se, .ref (pa 0), .ref an, .ref ln])), cE x xv, (x 7, .inl (cA 0, 4, .inl f)), (ln, .inr (0, [.ref vb, .int 0, .int ml'_3, .int (nI ((lnT k f 4).length))])), (vb, .inl (cA 2, nb, .inl g'_3))]) [0, 1, 2, 4, 3] (by decide) rfl
  clear hPc hDc hFc hP1 hD1 hk1 hz1
  have hw_4 := hw
  obtain rfl := hw
  refine W.widen (k := 0) (n := 0) (by omega) (by omega) ?_
  exact W.iret (v := (nI ((lnT k f 4).length))) hx hb hr (fun t ht hW => ⟨⟨nI ((lnT k f 4).length), (ml'_3, g'_3), rfl, ⟨hw_3, rfl⟩, ⟨by rw [ht]; exact hP, by rw [hAe]; exact hD⟩⟩, hS.F ht⟩) hS.2.2 dX3_lineLength_20
set_option maxHeartbeats 4000000 in
set_option maxRecDepth 100000 in
theorem c_n_lineChar (l : Launch) (D : va_G) (cA : Nat → ClassId) (zv : Nat → Nat) (sz : Nat) (o F G : Nat) (lo nw se : Int32) (pa : Nat → Nat) (an ln : Nat) (x : Nat → Nat) (y0 : Nat) (n : Int32) (xv : Nat → Int32) (k vb nb ct : Nat) (ml : Int32) (f g : Nat → Int32) (i : Nat) (he : en n F G (x 0) y0) (hk : k < 8) (hk0 : xv 0 = nI k) (hok : ∀ j, j < 4 → okv (f j)) (hn : nb = 16 ∨ nb = 34) (hct : ct ≤ nb) (hfb : bfit nb g) (hft : (lnT k f 4).length ≤ nb) (hi : i < (lnT k f 4).length) : Met l yX3_lineChar wsX3_lineChar ({ frames := 6, cells := 0, slots := 0, locals := 170 }) (va_Pc [.ref o, .int n, .int (nI i)] (zUX D cA zv sz [(o, .inr (4, [.ref F, .ref G, .int lo, .int nw, .int se, .ref (pa 0), .ref an, .ref ln])), cE x xv, (x 7, .inl (cA 0, 4, .inl f)), (ln, .inr (0, [.ref vb, .int 0, .int ml, .int (nI ct)])), (vb, .inl (cA 2, nb, .inl g))])) (va_Qi (fun (r : Int32) (u : (Int32 × (Nat → Int32))) => apd nb u.2 g 0 (lnT k f 4) ∧ r = (lnT k f 4).getD i 0) (fun (u : (Int32 × (Nat → Int32))) t => zB D [(o, .inr (4, [.ref F, .ref G, .int lo, .int nw, .int se, .ref (pa 0), .ref an, .ref ln])), cE x xv, (x 7, .inl (cA 0, 4, .inl f)), (ln, .inr (0, [.ref vb, .int 0, .int ml, .int (nI ct)])), (vb, .inl (cA 2, nb, .inl g))] sz [(o, .inr (4, [.ref F, .ref G, .int lo, .int nw, .int se, .ref (pa 0), .ref an, .ref ln])), cE x xv, (x 7, .inl (cA 0, 4, .inl f)), (ln, .inr (0, [.ref vb, .int 0, .int u.1, .int (nI ((lnT k f 4).length))])), (vb, .inl (cA 2, nb, .inl u.2))] t) (va_A [(o, .inr (4, [.ref F, .ref G, .int lo, .int nw, .int se, .ref (pa 0), .ref an, .ref ln])), cE x xv, (x 7, .inl (cA 0, 4, .inl f)), (ln, .inr (0, [.ref vb, .int 0, .int ml, .int (nI ct)])), (vb, .inl (cA 2, nb, .inl g))] sz)) 0 0 (va_A [(o, .inr (4, [.ref F, .ref G, .int lo, .int nw, .int se, .ref (pa 0), .ref an, .ref ln])), cE x xv, (x 7, .inl (cA 0, 4, .inl f)), (ln, .inr (0, [.ref vb, .int 0, .int ml, .int (nI ct)])), (vb, .inl (cA 2, nb, .inl g))] sz) := by
  refine Met.ofW (cc := cX3_lineChar) (maxL := 3) (ret := (some .char)) (by decide) rfl ?_
  intro p e s m args below meth c s₁ B hml hv
  obtain ⟨rfl, ⟨hsz, hP, hK, hD0, hE0⟩, hX0⟩ := hv
  have hx := B.exec
  have hb := B.bytes
  have hr := B.returns
  have hts := atoms_spec (ws := wsX3_lineChar) B.pre
  have hown : s.vm.findClass RX3 = some m.cls := findClass_of_methodNamed B.named
  have hlocks := B.notSynchronized
  subst hsz
  have hD := hD0.self (sz := s.heap.size)
  generalize hAe : va_A [(o, .inr (4, [.ref F, .ref G, .int lo, .int nw, .int se, .ref (pa 0), .ref an, .ref ln])), cE x xv, (x 7, .inl (cA 0, 4, .inl f)), (ln, .inr (0, [.ref vb, .int 0, .int ml, .int (nI ct)])), (vb, .inl (cA 2, nb, .inl g))] s.heap.size = A at hD hE0 hX0 ⊢
  have hA : ∀ q : Nat, s.heap.size ≤ q → A q := fun q h => by rw [← hAe]; exact Or.inr h
  have hS : va_S A s.heap s.heap [] := va_S.rf
  have hl := lv_entry ([.ref o, .int n, .int (nI i)]) (n := 3) (Nat.le_of_ble_eq_true rfl)
  rw [lg_entry_eq]
  generalize (lg_sl ([.ref o, .int n, .int (nI i)]) ++ List.replicate (3 - (lg_sl ([.ref o, .int n, .int (nI i)])).length) Slot.unset).toArray = ls at hl ⊢
  have hl : lv_has ls 3 [(0, .ref o), (1, .int n), (2, .int (nI i))] := hl
  refine lv_iload_n hx hb dX3_lineChar_0 rfl (lv_at hl 1 rfl) ?_
  have hPc := hP.sub (ws' := []) [] rfl
  have hDc := hD.sub (ws' := []) [] (by decide) rfl
  have hFc := va_free (wc := []) hD hS hA [] rfl
  refine va_callv (va_runS (As := [.int n]) (rest := []) ⟨hx, hb, hml, hown, hts⟩ (c_X3_checkEnd_k l D cA s.heap.size n (en_inr he)) (va_cwS 1 hts gX3_lineChar_X3_checkEnd rfl rfl rfl (by decide +kernel) ⟨Nat.le_of_ble_eq_true rfl, Nat.le_of_ble_eq_true rfl⟩) ⟨zU_blind, fun U hU hW => ⟨rfl, zU_call hU hPc hW.alike hK hDc⟩⟩ rfl rfl hl.1 rfl (lv_room (Nat.le_of_ble_eq_true rfl)) dX3_lineChar_1 ⟨(Nat.zero_le _), (Nat.zero_le _)⟩) hS (fun q _ h => hFc q h) hFc (fun u t H1 locs ht hvm hw hB hz1 hk1 hS => ?_)
  obtain ⟨hP1, hD1⟩ := hB
  rw [ht] at hP1
  obtain ⟨hP, hD⟩ := va_join (wr := [(o, .inr (4, [.ref F, .ref G, .int lo, .int nw, .int se, .ref (pa 0), .ref an, .ref ln])), cE x xv, (x 7, .inl (cA 0, 4, .inl f)), (ln, .inr (0, [.ref vb, .int 0, .int ml, .int (nI ct)])), (vb, .inl (cA 2, nb, .inl g))]) (w1 := []) hP hD [] [0, 1, 2, 3, 4] rfl rfl (by decide) (by decide) hk1 hFc hP1 hD1
  generalize H1 = H at hP hS ⊢
  have hP := hP.sub (ws' := [(o, .inr (4, [.ref F, .ref G, .int lo, .int nw, .int se, .ref (pa 0), .ref an, .ref ln])), cE x xv, (x 7, .inl (cA 0, 4, .inl f)), (ln, .inr (0, [.ref vb, .int 0, .int ml, .int (nI ct)])), (vb, .inl (cA 2, nb, .inl g))]) [0, 1, 2, 3, 4] rfl
  have hD := hD.sub (ws' := [(o, .inr (4, [.ref F, .ref G, .int lo, .int nw, .int se, .ref (pa 0), .ref an, .ref ln])), cE x xv, (x 7, .inl (cA 0, 4, .inl f)), (ln, .inr (0, [.ref vb, .int 0, .int ml, .int (nI ct)])), (vb, .inl (cA 2, nb, .inl g))]) [0, 1, 2, 3, 4] (by decide) rfl
  clear hPc hDc hFc hP1 hD1 hk1 hz1
  have hw_1 := hw
  refine lv_aload_n hx hb dX3_lineChar_4 rfl (lv_at hl 0 rfl) ?_
  refine lv_aload_n hx hb dX3_lineChar_5 rfl (lv_at hl 0 rfl) ?_
  refine lv_iload_n hx hb dX3_lineChar_6 rfl (lv_at hl 1 rfl) ?_
  have hPc := hP.sub (ws' := [(o, .inr (4, [.ref F, .ref G, .int lo, .int nw, .int se, .ref (pa 0), .ref an, .ref ln]))]) [0] rfl
  have hDc := hD.sub (ws' := [(o, .inr (4, [.ref F, .ref G, .int lo, .int nw, .int se, .ref (pa 0), .ref an, .ref ln]))]) [0] (by decide) rfl
  have hFc := va_free (wc := [(o, .inr (4, [.ref F, .ref G, .int lo, .int nw, .int se, .ref (pa 0), .ref an, .ref ln]))]) hD hS hA [0] rfl
  refine va_callr (va_runV (As := [.int n]) (rest := [.ref o]) ⟨hx, hb, hml, hown, hts⟩ (c_X3_endOf l D cA H.size o F G lo nw se pa an ln n (x 0) y0 (by assumption)) (cwV 1 hts gX3_lineChar_X3_endOf rfl rfl rfl (by decide +kernel) ⟨Nat.le_of_ble_eq_true rfl, Nat.le_of_ble_eq_true rfl⟩) ⟨zU_blind, va_recv hK hPc (ci := 4) (q0 := 0) rfl rfl, fun U hU hW => ⟨rfl, zU_call hU hPc hW.alike hK hDc⟩⟩ rfl rfl hl.1 rfl (lv_room (Nat.le_of_ble_eq_true rfl)) dX3_lineChar_7 ⟨(Nat.zero_le _), (Nat.zero_le _)⟩) hS (fun q _ h => hFc q h) hFc (fun u ra t H1 locs ht hvm hw hB hz1 hk1 hS => ?_)
  obtain ⟨hra, hP1, hD1⟩ := hB
  rw [ht] at hP1
  subst ra
  obtain ⟨hP, hD⟩ := va_join (wr := [cE x xv, (x 7, .inl (cA 0, 4, .inl f)), (ln, .inr (0, [.ref vb, .int 0, .int ml, .int (nI ct)])), (vb, .inl (cA 2, nb, .inl g))]) (w1 := [(o, .inr (4, [.ref F, .ref G, .int lo, .int nw, .int se, .ref (pa 0), .ref an, .ref ln]))]) hP hD [0] [1, 2, 3, 4] rfl rfl (by decide) (by decide) hk1 hFc hP1 hD1
  generalize H1 = H at hP hS ⊢
  have hP := hP.sub (ws' := [(o, .inr (4, [.ref F, .ref G, .int lo, .int nw, .int se, .ref (pa 0), .ref an, .ref ln])), cE x xv, (x 7, .inl (cA 0, 4, .inl f)), (ln, .inr (0, [.ref vb, .int 0, .int ml, .int (nI ct)])), (vb, .inl (cA 2, nb, .inl g))]) [4, 0, 1, 2, 3] rfl
  have hD := hD.sub (ws' := [(o, .inr (4, [.ref F, .ref G, .int lo, .int nw, .int se, .ref (pa 0), .ref an, .ref ln])), cE x xv, (x 7, .inl (cA 0, 4, .inl f)), (ln, .inr (0, [.ref vb, .int 0, .int ml, .int (nI ct)])), (vb, .inl (cA 2, nb, .inl g))]) [4, 0, 1, 2, 3] (by decide) rfl
  clear hPc hDc hFc hP1 hD1 hk1 hz1
  have hw_2 := hw
  have hPc := hP.sub (ws' := [(o, .inr (4, [.ref F, .ref G, .int lo, .int nw, .int se, .ref (pa 0), .ref an, .ref ln])), cE x xv, (x 7, .inl (cA 0, 4, .inl f)), (ln, .inr (0, [.ref vb, .int 0, .int ml, .int (nI ct)])), (vb, .inl (cA 2, nb, .inl g))]) [0, 1, 2, 3, 4] rfl
  have hDc := hD.sub (ws' := [(o, .inr (4, [.ref F, .ref G, .int lo, .int nw, .int se, .ref (pa 0), .ref an, .ref ln])), cE x xv, (x 7, .inl (cA 0, 4, .inl f)), (ln, .inr (0, [.ref vb, .int 0, .int ml, .int (nI ct)])), (vb, .inl (cA 2, nb, .inl g))]) [0, 1, 2, 3, 4] (by decide) rfl
  have hFc := va_free (wc := [(o, .inr (4, [.ref F, .ref G, .int lo, .int nw, .int se, .ref (pa 0), .ref an, .ref ln])), cE x xv, (x 7, .inl (cA 0, 4, .inl f)), (ln, .inr (0, [.ref vb, .int 0, .int ml, .int (nI ct)])), (vb, .inl (cA 2, nb, .inl g))]) hD hS hA [0, 1, 2, 3, 4] rfl
  refine va_callv (va_runV (As := [.ref (x 0)]) (rest := []) ⟨hx, hb, hml, hown, hts⟩ (c_n_wl l D cA zv H.size o F G lo nw se pa an ln x xv k vb nb ct ml f g (by assumption) (by assumption) (by assumption) (by assumption) (by assumption) (by assumption) (by assumption)) (cwV 1 hts gX3_lineChar_X3_writeLine rfl rfl rfl (by decide +kernel) ⟨Nat.le_of_ble_eq_true rfl, Nat.le_of_ble_eq_true rfl⟩) ⟨zUX_blind, va_recv hK hPc (ci := 4) (q0 := 0) rfl rfl, fun U hU hW => ⟨rfl, zUX_call hE0 hX0 hS hFc hU hPc hW hK hDc⟩⟩ rfl rfl hl.1 rfl (lv_room (Nat.le_of_ble_eq_true rfl)) dX3_lineChar_10 ⟨(Nat.zero_le _), (Nat.zero_le _)⟩) hS (fun q _ h => hFc q h) hFc (fun u t H1 locs ht hvm hw hB hz1 hk1 hS => ?_)
  obtain ⟨ml'_3, g'_3⟩ := u
  obtain ⟨hP1, hD1⟩ := hB
  rw [ht] at hP1
  try dsimp only at hw hP1 hD1
  obtain ⟨hP, hD⟩ := va_join (wr := []) (w1 := [(o, .inr (4, [.ref F, .ref G, .int lo, .int nw, .int se, .ref (pa 0), .ref an, .ref ln])), cE x xv, (x 7, .inl (cA 0, 4, .inl f)), (ln, .inr (0, [.ref vb, .int 0, .int ml'_3, .int (nI ((lnT k f 4).length))])), (vb, .inl (cA 2, nb, .inl g'_3))]) hP hD [0, 1, 2, 3, 4] [] rfl rfl (by decide) (by decide) hk1 hFc hP1 hD1
  generalize H1 = H at hP hS ⊢
  have hP := hP.sub (ws' := [(o, .inr (4, [.ref F, .ref G, .int lo, .int nw, .int se, .ref (pa 0), .ref an, .ref ln])), cE x xv, (x 7, .inl (cA 0, 4, .inl f)), (ln, .inr (0, [.ref vb, .int 0, .int ml'_3, .int (nI ((lnT k f 4).length))])), (vb, .inl (cA 2, nb, .inl g'_3))]) [0, 1, 2, 3, 4] rfl
  have hD := hD.sub (ws' := [(o, .inr (4, [.ref F, .ref G, .int lo, .int nw, .int se, .ref (pa 0), .ref an, .ref ln])), cE x xv, (x 7, .inl (cA 0, 4, .inl f)), (ln, .inr (0, [.ref vb, .int 0, .int ml'_3, .int (nI ((lnT k f 4).length))])), (vb, .inl (cA 2, nb, .inl g'_3))]) [0, 1, 2, 3, 4] (by decide) rfl
  clear hPc hDc hFc hP1 hD1 hk1 hz1
  have hw_3 := hw
  have hl34 := lnT_le (f := f) hk 4
  refine lv_iload_n hx hb dX3_lineChar_13 rfl (lv_at hl 2 rfl) ?_
  refine lv_if_lt (tgt := 28) hx hb dX3_lineChar_14 (by decide) (fun c_4 => ?_) (fun c_4 => ?_)
  · have c_4 := (nI_ltI (a := i) (b := 0) (by omega) (by omega)).mp c_4
    omega
  · have c_4 := mt (nI_ltI (a := i) (b := 0) (by omega) (by omega)).mpr c_4
    refine lv_iload_n hx hb dX3_lineChar_17 rfl (lv_at hl 2 rfl) ?_
    refine lv_aload_n hx hb dX3_lineChar_18 rfl (lv_at hl 0 rfl) ?_
    refine va_get (D := D) (ci := 4) (v := .ref ln) (C := RX3) (T := TX3) (N := 8) hx hb hts (fun _ h => List.mem_cons_of_mem _ (List.mem_append_left _ (List.mem_append_left _ (List.mem_append_left _ (List.mem_append_left _ (List.mem_append_right _ (h))))))) hown hK hP 0 rfl rfl 7 (by decide) (hts (.fieldLink RX3 44 "OptionWire" "line" "Ljava/lang/StringBuilder;") (List.mem_of_getElem? (i := 3) rfl)) (fun _ h9 => h9) rfl dX3_lineChar_19 ?_
    have hPc := hP.sub (ws' := [(ln, .inr (0, [.ref vb, .int 0, .int ml'_3, .int (nI ((lnT k f 4).length))]))]) [3] rfl
    have hDc := hD.sub (ws' := [(ln, .inr (0, [.ref vb, .int 0, .int ml'_3, .int (nI ((lnT k f 4).length))]))]) [3] (by decide) rfl
    have hFc := va_free (wc := [(ln, .inr (0, [.ref vb, .int 0, .int ml'_3, .int (nI ((lnT k f 4).length))]))]) hD hS hA [3] rfl
    refine va_calli (va_runV (As := []) (rest := [.int (nI i)]) ⟨hx, hb, hml, hown, hts⟩ (c_J4_length_8abf5 l D cA H.size ln vb ml'_3 ((lnT k f 4).length)) (cwV 0 hts gX3_lineChar_J4_length_8abf5 rfl rfl rfl (by decide +kernel) ⟨Nat.le_of_ble_eq_true rfl, Nat.le_of_ble_eq_true rfl⟩) ⟨zU_blind, va_recv hK hPc (ci := 0) (q0 := 0) rfl rfl, fun U hU hW => ⟨rfl, zU_call hU hPc hW.alike hK hDc⟩⟩ rfl rfl hl.1 rfl (lv_room (Nat.le_of_ble_eq_true rfl)) dX3_lineChar_22 ⟨(Nat.zero_le _), (Nat.zero_le _)⟩) hS (fun q _ h => hFc q h) hFc (fun zr u t H1 locs ht hvm hw hB hz1 hk1 hS => ?_)
    obtain ⟨hP1, hD1⟩ := hB
    rw [ht] at hP1
    obtain ⟨hP, hD⟩ := va_join (wr := [(o, .inr (4, [.ref F, .ref G, .int lo, .int nw, .int se, .ref (pa 0), .ref an, .ref ln])), cE x xv, (x 7, .inl (cA 0, 4, .inl f)), (vb, .inl (cA 2, nb, .inl g'_3))]) (w1 := [(ln, .inr (0, [.ref vb, .int 0, .int ml'_3, .int (nI ((lnT k f 4).length))]))]) hP hD [3] [0, 1, 2, 4] rfl rfl (by decide) (by decide) hk1 hFc hP1 hD1
    generalize H1 = H at hP hS ⊢
    have hP := hP.sub (ws' := [(o, .inr (4, [.ref F, .ref G, .int lo, .int nw, .int se, .ref (pa 0), .ref an, .ref ln])), cE x xv, (x 7, .inl (cA 0, 4, .inl f)), (ln, .inr (0, [.ref vb, .int 0, .int ml'_3, .int (nI ((lnT k f 4).length))])), (vb, .inl (cA 2, nb, .inl g'_3))]) [0, 1, 2, 4, 3] rfl
    have hD := hD.sub (ws' := [(o, .inr (4, [.ref F, .ref G, .int lo, .int nw, .int se, .ref (pa 0), .ref an, .ref ln])), cE x xv, (x 7, .inl (cA 0, 4, .inl f)), (ln, .inr (0, [.ref vb, .int 0, .int ml'_3, .int (nI ((lnT k f 4).length))])), (vb, .inl (cA 2, nb, .inl g'_3))]) [0, 1, 2, 4, 3] (by decide) rfl
    clear hPc hDc hFc hP1 hD1 hk1 hz1
    have hw_5 := hw
    obtain rfl := hw
    refine lv_icmp_lt (tgt := 38) hx hb dX3_lineChar_25 (by decide) (fun c_6 => ?_) (fun c_6 => ?_)
    · have c_6 := (nI_ltI (a := i) (b := (lnT k f 4).length) (by omega) (by omega)).mp c_6
      have hg9 : g'_3 i = (lnT k f 4).getD i 0 := by (have q9 := hw_3.2.2.2.2 i hi; rw [Nat.zero_add] at q9; exact q9)
      have hk9 := okl_at (lnT_ok hk hok 4 (Nat.le_refl 4)) hi
      refine lv_aload_n hx hb dX3_lineChar_38 rfl (lv_at hl 0 rfl) ?_
      refine va_get (D := D) (ci := 4) (v := .ref ln) (C := RX3) (T := TX3) (N := 8) hx hb hts (fun _ h => List.mem_cons_of_mem _ (List.mem_append_left _ (List.mem_append_left _ (List.mem_append_left _ (List.mem_append_left _ (List.mem_append_right _ (h))))))) hown hK hP 0 rfl rfl 7 (by decide) (hts (.fieldLink RX3 44 "OptionWire" "line" "Ljava/lang/StringBuilder;") (List.mem_of_getElem? (i := 3) rfl)) (fun _ h9 => h9) rfl dX3_lineChar_39 ?_
      refine lv_iload_n hx hb dX3_lineChar_42 rfl (lv_at hl 2 rfl) ?_
      have hPc := hP.sub (ws' := [(ln, .inr (0, [.ref vb, .int 0, .int ml'_3, .int (nI ((lnT k f 4).length))])), (vb, .inl (cA 2, nb, .inl g'_3))]) [3, 4] rfl
      have hDc := hD.sub (ws' := [(ln, .inr (0, [.ref vb, .int 0, .int ml'_3, .int (nI ((lnT k f 4).length))])), (vb, .inl (cA 2, nb, .inl g'_3))]) [3, 4] (by decide) rfl
      have hFc := va_free (wc := [(ln, .inr (0, [.ref vb, .int 0, .int ml'_3, .int (nI ((lnT k f 4).length))])), (vb, .inl (cA 2, nb, .inl g'_3))]) hD hS hA [3, 4] rfl
      refine va_calli (va_runV (As := [.int (nI i)]) (rest := []) ⟨hx, hb, hml, hown, hts⟩ (c_J4_charAt_5068e l D cA zv H.size ln vb ml'_3 ((lnT k f 4).length) nb g'_3 i hw_3.1 (by have q9 := hw_3.2.1; omega) hi (by rw [hg9]; exact hk9.1) (by rw [hg9]; exact hk9.2)) (cwV 1 hts gX3_lineChar_J4_charAt_5068e rfl rfl rfl (by decide +kernel) ⟨Nat.le_of_ble_eq_true rfl, Nat.le_of_ble_eq_true rfl⟩) ⟨zUX_blind, va_recv hK hPc (ci := 0) (q0 := 0) rfl rfl, fun U hU hW => ⟨rfl, zUX_call hE0 hX0 hS hFc hU hPc hW hK hDc⟩⟩ rfl rfl hl.1 rfl (lv_room (Nat.le_of_ble_eq_true rfl)) dX3_lineChar_43 ⟨(Nat.zero_le _), (Nat.zero_le _)⟩) hS (fun q _ h => hFc q h) hFc (fun zr u t H1 locs ht hvm hw hB hz1 hk1 hS => ?_)
      obtain ⟨hP1, hD1⟩ := hB
      rw [ht] at hP1
      obtain ⟨hP, hD⟩ := va_join (wr := [(o, .inr (4, [.ref F, .ref G, .int lo, .int nw, .int se, .ref (pa 0), .ref an, .ref ln])), cE x xv, (x 7, .inl (cA 0, 4, .inl f))]) (w1 := [(ln, .inr (0, [.ref vb, .int 0, .int ml'_3, .int (nI ((lnT k f 4).length))])), (vb, .inl (cA 2, nb, .inl g'_3))]) hP hD [3, 4] [0, 1, 2] rfl rfl (by decide) (by decide) hk1 hFc hP1 hD1
      generalize H1 = H at hP hS ⊢
      have hP := hP.sub (ws' := [(o, .inr (4, [.ref F, .ref G, .int lo, .int nw, .int se, .ref (pa 0), .ref an, .ref ln])), cE x xv, (x 7, .inl (cA 0, 4, .inl f)), (ln, .inr (0, [.ref vb, .int 0, .int ml'_3, .int (nI ((lnT k f 4).length))])), (vb, .inl (cA 2, nb, .inl g'_3))]) [0, 1, 2, 3, 4] rfl
      have hD := hD.sub (ws' := [(o, .inr (4, [.ref F, .ref G, .int lo, .int nw, .int se, .ref (pa 0), .ref an, .ref ln])), cE x xv, (x 7, .inl (cA 0, 4, .inl f)), (ln, .inr (0, [.ref vb, .int 0, .int ml'_3, .int (nI ((lnT k f 4).length))])), (vb, .inl (cA 2, nb, .inl g'_3))]) [0, 1, 2, 3, 4] (by decide) rfl
      clear hPc hDc hFc hP1 hD1 hk1 hz1
      have hw_7 := hw
      obtain rfl := hw
      refine z_top (y := ((lnT k f 4).getD i 0)) hg9 ?_
      refine W.widen (k := 0) (n := 0) (by omega) (by omega) ?_
      exact W.zret (v := ((lnT k f 4).getD i 0)) hx hb hr (narc hk9.1 hk9.2) (fun t ht hW => ⟨⟨(lnT k f 4).getD i 0, (ml'_3, g'_3), rfl, ⟨hw_3, rfl⟩, ⟨by rw [ht]; exact hP, by rw [hAe]; exact hD⟩⟩, hS.F ht⟩) hS.2.2 dX3_lineChar_46
    · have c_6 := mt (nI_ltI (a := i) (b := (lnT k f 4).length) (by omega) (by omega)).mpr c_6
      omega
