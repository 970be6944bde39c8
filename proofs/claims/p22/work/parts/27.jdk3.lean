theorem fitd {a : Nat} (h : a ≤ 127) : fits .byte (.int (nI a)) = true := fit127 (nI_nn (by omega)) ((nI_leI (a := a) (b := 127) (by omega) (by decide)).mpr h)
theorem apd_2 {n ct : Nat} {g g0 : Nat → Int32} {x y : Int32} (hn : n = 16 ∨ n = 34) (h : ct + 2 ≤ n) (hf : bfit n g) (he : ∀ i, i < ct → g i = g0 i) (hx : fits .byte (.int x) = true) (hy : fits .byte (.int y) = true) : apd n (upd (upd g (ct + 1) y) ct x) g0 ct [x, y] := by
  refine ⟨hn, h, fun i hi => ?_, fun i hi => ?_, fun i hi => ?_⟩
  · by_cases e : i = ct
    · simp only [upd, if_pos e]; exact hx
    · by_cases e2 : i = ct + 1
      · simp only [upd, if_neg e, if_pos e2]; exact hy
      · simp only [upd, if_neg e, if_neg e2]; exact hf i hi
  · simp only [upd, if_neg (show ¬ i = ct by omega), if_neg (show ¬ i = ct + 1 by omega)]; exact he i hi
  · have hi2 : i < 2 := hi
    rcases (show i = 0 ∨ i = 1 by omega) with rfl | rfl
    · simp [upd]
    · simp [upd]

set_option maxHeartbeats 4000000 in
set_option maxRecDepth 100000 in
theorem c_appi_a (l : Launch) (D : va_G) (cA : Nat → ClassId) (zv : Nat → Nat) (sz : Nat) (sb vb : Nat) (ml : Int32) (ct n : Nat) (g : Nat → Int32) (v : Nat) (hn : n = 16 ∨ n = 34) (hct : ct ≤ n) (hfb : bfit n g) (hr34 : ct + 1 ≤ 34) (h1v : 0 ≤ v) (h2v : v ≤ 9) : Met l yJ5_append_c97b9 wsJ5_append_c97b9 ({ frames := 4, cells := 1, slots := 34, locals := 104 }) (va_Pc [.ref sb, .int (nI v)] (zUX D cA zv sz [(sb, .inr (0, [.ref vb, .int 0, .int ml, .int (nI ct)])), (vb, .inl (cA 2, n, .inl g))])) (va_Qr (fun (u : (Nat × Nat × (Nat → Int32))) => apd u.2.1 u.2.2 g ct [nI (48 + v % 10)]) (fun (u : (Nat × Nat × (Nat → Int32))) ra t => ra = sb ∧ zB D [(sb, .inr (0, [.ref vb, .int 0, .int ml, .int (nI ct)])), (vb, .inl (cA 2, n, .inl g))] sz [(sb, .inr (0, [.ref u.1, .int 0, .int ml, .int (nI (ct + 1))])), (u.1, .inl (cA 2, u.2.1, .inl u.2.2))] t) (va_A [(sb, .inr (0, [.ref vb, .int 0, .int ml, .int (nI ct)])), (vb, .inl (cA 2, n, .inl g))] sz)) 1 34 (va_A [(sb, .inr (0, [.ref vb, .int 0, .int ml, .int (nI ct)])), (vb, .inl (cA 2, n, .inl g))] sz) := by
  refine Met.ofW (cc := cJ5_append_c97b9) (maxL := 4) (ret := (some (.object "java/lang/AbstractStringBuilder"))) (by decide) rfl ?_
  intro p e s m args below meth c s₁ B hml hv
  obtain ⟨rfl, ⟨hsz, hP, hK, hD0, hE0⟩, hX0⟩ := hv
  have hx := B.exec
  have hb := B.bytes
  have hr := B.returns
  have hts := atoms_spec (ws := wsJ5_append_c97b9) B.pre
  have hown : s.vm.findClass RJ5 = some m.cls := findClass_of_methodNamed B.named
  have hlocks := B.notSynchronized
  subst hsz
  have hD := hD0.self (sz := s.heap.size)
  generalize hAe : va_A [(sb, .inr (0, [.ref vb, .int 0, .int ml, .int (nI ct)])), (vb, .inl (cA 2, n, .inl g))] s.heap.size = A at hD hE0 hX0 ⊢
  have hA : ∀ q : Nat, s.heap.size ≤ q → A q := fun q h => by rw [← hAe]; exact Or.inr h
  have hS : va_S A s.heap s.heap [] := va_S.rf
  have hl := lv_entry ([.ref sb, .int (nI v)]) (n := 4) (Nat.le_of_ble_eq_true rfl)
  rw [lg_entry_eq]
  generalize (lg_sl ([.ref sb, .int (nI v)]) ++ List.replicate (4 - (lg_sl ([.ref sb, .int (nI v)])).length) Slot.unset).toArray = ls at hl ⊢
  have hl : lv_has ls 4 [(0, .ref sb), (1, .int (nI v))] := hl
  have hn34 : n ≤ 34 := by omega
  refine lv_aload_n hx hb dJ5_append_c97b9_0 rfl (lv_at hl 0 rfl) ?_
  refine va_get (D := D) (ci := 0) (v := .int (nI ct)) (C := RJ4) (T := TJ4) (N := 4) hx hb hts (fun _ h => List.mem_cons_of_mem _ (List.mem_append_right _ (h))) hown hK hP 0 rfl rfl 3 (by decide) (hts (.fieldLink RJ5 79 "java/lang/AbstractStringBuilder" "count" "I") (List.mem_of_getElem? (i := 1) rfl)) (fun _ h9 => h9) rfl dJ5_append_c97b9_1 ?_
  refine lv_istore_n (lv' := [(2, .int (nI ct)), (0, .ref sb), (1, .int (nI v))]) hx hb dJ5_append_c97b9_4 rfl hl (by decide) rfl (fun ls hl => ?_)
  refine lv_iload_n hx hb dJ5_append_c97b9_5 rfl (lv_at hl 0 rfl) ?_
  refine lv_iload_n hx hb dJ5_append_c97b9_6 rfl (lv_at hl 2 rfl) ?_
  have hPc := hP.sub (ws' := []) [] rfl
  have hDc := hD.sub (ws' := []) [] (by decide) rfl
  have hFc := va_free (wc := []) hD hS hA [] rfl
  refine va_calli (va_runS (As := [.int (nI v)]) (rest := [.int (nI ct)]) ⟨hx, hb, hml, hown, hts⟩ (c_ss_a l D cA s.heap.size v h1v h2v) (va_cwS 1 hts gJ5_append_c97b9_J6_stringSize_0f7a4 rfl rfl rfl (by decide +kernel) ⟨Nat.le_of_ble_eq_true rfl, Nat.le_of_ble_eq_true rfl⟩) ⟨zU_blind, fun U hU hW => ⟨rfl, zU_call hU hPc hW.alike hK hDc⟩⟩ rfl rfl hl.1 rfl (lv_room (Nat.le_of_ble_eq_true rfl)) dJ5_append_c97b9_7 ⟨(Nat.zero_le _), (Nat.zero_le _)⟩) hS (fun q _ h => hFc q h) hFc (fun zr u t H1 locs ht hvm hw hB hz1 hk1 hS => ?_)
  obtain ⟨hP1, hD1⟩ := hB
  rw [ht] at hP1
  obtain ⟨hP, hD⟩ := va_join (wr := [(sb, .inr (0, [.ref vb, .int 0, .int ml, .int (nI ct)])), (vb, .inl (cA 2, n, .inl g))]) (w1 := []) hP hD [] [0, 1] rfl rfl (by decide) (by decide) hk1 hFc hP1 hD1
  generalize H1 = H at hP hS ⊢
  have hP := hP.sub (ws' := [(sb, .inr (0, [.ref vb, .int 0, .int ml, .int (nI ct)])), (vb, .inl (cA 2, n, .inl g))]) [0, 1] rfl
  have hD := hD.sub (ws' := [(sb, .inr (0, [.ref vb, .int 0, .int ml, .int (nI ct)])), (vb, .inl (cA 2, n, .inl g))]) [0, 1] (by decide) rfl
  clear hPc hDc hFc hP1 hD1 hk1 hz1
  have hw_1 := hw
  obtain rfl := hw
  refine lv_iadd hx hb dJ5_append_c97b9_10 ?_
  refine z_top (y := (nI (ct + 1))) (z_add ct 1) ?_
  refine lv_istore_n (lv' := [(3, .int (nI (ct + 1))), (2, .int (nI ct)), (0, .ref sb), (1, .int (nI v))]) hx hb dJ5_append_c97b9_11 rfl hl (by decide) rfl (fun ls hl => ?_)
  refine lv_aload_n hx hb dJ5_append_c97b9_12 rfl (lv_at hl 2 rfl) ?_
  refine lv_iload_n hx hb dJ5_append_c97b9_13 rfl (lv_at hl 0 rfl) ?_
  by_cases hfit : ct + 1 ≤ n
  · skip
    have hPc := hP.sub (ws' := [(sb, .inr (0, [.ref vb, .int 0, .int ml, .int (nI ct)])), (vb, .inl (cA 2, n, .inl g))]) [0, 1] rfl
    have hDc := hD.sub (ws' := [(sb, .inr (0, [.ref vb, .int 0, .int ml, .int (nI ct)])), (vb, .inl (cA 2, n, .inl g))]) [0, 1] (by decide) rfl
    have hFc := va_free (wc := [(sb, .inr (0, [.ref vb, .int 0, .int ml, .int (nI ct)])), (vb, .inl (cA 2, n, .inl g))]) hD hS hA [0, 1] rfl
    refine va_callv (va_runU (As := [.int (nI (ct + 1))]) (rest := []) ⟨hx, hb, hml, hown, hts⟩ (c_ens_k l D cA H.size sb vb ml ct n g (ct + 1) (by omega) (by omega) hfit) (va_cwU 1 hts gJ5_append_c97b9_J5_ensureCapacityInternal_d00df_u100J4 rfl rfl rfl rfl (by decide +kernel) ⟨Nat.le_of_ble_eq_true rfl, Nat.le_of_ble_eq_true rfl⟩) ⟨zU_blind, va_recv hK hPc (ci := 0) (q0 := 0) rfl rfl, fun U hU hW => ⟨rfl, zU_call hU hPc hW.alike hK hDc⟩⟩ rfl rfl hl.1 rfl (lv_room (Nat.le_of_ble_eq_true rfl)) dJ5_append_c97b9_14 ⟨(Nat.zero_le _), (Nat.zero_le _)⟩) hS (fun q _ h => hFc q h) hFc (fun u t H1 locs ht hvm hw hB hz1 hk1 hS => ?_)
    obtain ⟨hP1, hD1⟩ := hB
    rw [ht] at hP1
    obtain ⟨hP, hD⟩ := va_join (wr := []) (w1 := [(sb, .inr (0, [.ref vb, .int 0, .int ml, .int (nI ct)])), (vb, .inl (cA 2, n, .inl g))]) hP hD [0, 1] [] rfl rfl (by decide) (by decide) hk1 hFc hP1 hD1
    generalize H1 = H at hP hS ⊢
    have hP := hP.sub (ws' := [(sb, .inr (0, [.ref vb, .int 0, .int ml, .int (nI ct)])), (vb, .inl (cA 2, n, .inl g))]) [0, 1] rfl
    have hD := hD.sub (ws' := [(sb, .inr (0, [.ref vb, .int 0, .int ml, .int (nI ct)])), (vb, .inl (cA 2, n, .inl g))]) [0, 1] (by decide) rfl
    clear hPc hDc hFc hP1 hD1 hk1 hz1
    have hw_2 := hw
    refine lv_aload_n hx hb dJ5_append_c97b9_17 rfl (lv_at hl 2 rfl) ?_
    have hPc := hP.sub (ws' := [(sb, .inr (0, [.ref vb, .int 0, .int ml, .int (nI ct)]))]) [0] rfl
    have hDc := hD.sub (ws' := [(sb, .inr (0, [.ref vb, .int 0, .int ml, .int (nI ct)]))]) [0] (by decide) rfl
    have hFc := va_free (wc := [(sb, .inr (0, [.ref vb, .int 0, .int ml, .int (nI ct)]))]) hD hS hA [0] rfl
    refine va_calli (va_runU (As := []) (rest := []) ⟨hx, hb, hml, hown, hts⟩ (c_J5_isLatin1_aae02 l D cA zv H.size sb vb ml ct) (va_cwU 0 hts gJ5_append_c97b9_J5_isLatin1_aae02_u83J4 rfl rfl rfl rfl (by decide +kernel) ⟨Nat.le_of_ble_eq_true rfl, Nat.le_of_ble_eq_true rfl⟩) ⟨zUX_blind, va_recv hK hPc (ci := 0) (q0 := 0) rfl rfl, fun U hU hW => ⟨rfl, zUX_call hE0 hX0 hS hFc hU hPc hW hK hDc⟩⟩ rfl rfl hl.1 rfl (lv_room (Nat.le_of_ble_eq_true rfl)) dJ5_append_c97b9_18 ⟨(Nat.zero_le _), (Nat.zero_le _)⟩) hS (fun q _ h => hFc q h) hFc (fun zr u t H1 locs ht hvm hw hB hz1 hk1 hS => ?_)
    obtain ⟨hP1, hD1⟩ := hB
    rw [ht] at hP1
    obtain ⟨hP, hD⟩ := va_join (wr := [(vb, .inl (cA 2, n, .inl g))]) (w1 := [(sb, .inr (0, [.ref vb, .int 0, .int ml, .int (nI ct)]))]) hP hD [0] [1] rfl rfl (by decide) (by decide) hk1 hFc hP1 hD1
    generalize H1 = H at hP hS ⊢
    have hP := hP.sub (ws' := [(sb, .inr (0, [.ref vb, .int 0, .int ml, .int (nI ct)])), (vb, .inl (cA 2, n, .inl g))]) [1, 0] rfl
    have hD := hD.sub (ws' := [(sb, .inr (0, [.ref vb, .int 0, .int ml, .int (nI ct)])), (vb, .inl (cA 2, n, .inl g))]) [1, 0] (by decide) rfl
    clear hPc hDc hFc hP1 hD1 hk1 hz1
    have hw_3 := hw
    obtain rfl := hw
    refine lv_if_eq (tgt := 37) hx hb dJ5_append_c97b9_21 (by decide) (fun c_4 => absurd c_4 (by decide)) (fun _ => ?_)
    refine lv_iload_n hx hb dJ5_append_c97b9_24 rfl (lv_at hl 3 rfl) ?_
    refine lv_iload_n hx hb dJ5_append_c97b9_25 rfl (lv_at hl 0 rfl) ?_
    refine lv_aload_n hx hb dJ5_append_c97b9_26 rfl (lv_at hl 2 rfl) ?_
    refine va_get (D := D) (ci := 0) (v := .ref vb) (C := RJ4) (T := TJ4) (N := 4) hx hb hts (fun _ h => List.mem_cons_of_mem _ (List.mem_append_right _ (h))) hown hK hP 0 rfl rfl 0 (by decide) (hts (.fieldLink RJ5 15 "java/lang/AbstractStringBuilder" "value" "[B") (List.mem_of_getElem? (i := 2) rfl)) (fun _ h9 => h9) rfl dJ5_append_c97b9_27 ?_
    have hPc := hP.sub (ws' := [(vb, .inl (cA 2, n, .inl g))]) [1] rfl
    have hDc := hD.sub (ws' := [(vb, .inl (cA 2, n, .inl g))]) [1] (by decide) rfl
    have hFc := va_free (wc := [(vb, .inl (cA 2, n, .inl g))]) hD hS hA [1] rfl
    refine va_calli (va_runS (As := [.int (nI v), .int (nI (ct + 1)), .ref vb]) (rest := []) ⟨hx, hb, hml, hown, hts⟩ (c_gc_a l D cA zv H.size v vb ct n g h2v (by omega) (by omega)) (va_cwS 3 hts gJ5_append_c97b9_J6_getChars_ba4f3 rfl rfl rfl (by decide +kernel) ⟨Nat.le_of_ble_eq_true rfl, Nat.le_of_ble_eq_true rfl⟩) ⟨zUX_blind, fun U hU hW => ⟨rfl, zUX_call hE0 hX0 hS hFc hU hPc hW hK hDc⟩⟩ rfl rfl hl.1 rfl (lv_room (Nat.le_of_ble_eq_true rfl)) dJ5_append_c97b9_30 ⟨(Nat.zero_le _), (Nat.zero_le _)⟩) hS (fun q _ h => hFc q h) hFc (fun zr u t H1 locs ht hvm hw hB hz1 hk1 hS => ?_)
    obtain ⟨hP1, hD1⟩ := hB
    rw [ht] at hP1
    obtain ⟨hP, hD⟩ := va_join (wr := [(sb, .inr (0, [.ref vb, .int 0, .int ml, .int (nI ct)]))]) (w1 := [(vb, .inl (cA 2, n, .inl (upd g ct (nI (48 + v % 10)))))]) hP hD [1] [0] rfl rfl (by decide) (by decide) hk1 hFc hP1 hD1
    generalize H1 = H at hP hS ⊢
    have hP := hP.sub (ws' := [(sb, .inr (0, [.ref vb, .int 0, .int ml, .int (nI ct)])), (vb, .inl (cA 2, n, .inl (upd g ct (nI (48 + v % 10)))))]) [0, 1] rfl
    have hD := hD.sub (ws' := [(sb, .inr (0, [.ref vb, .int 0, .int ml, .int (nI ct)])), (vb, .inl (cA 2, n, .inl (upd g ct (nI (48 + v % 10)))))]) [0, 1] (by decide) rfl
    clear hPc hDc hFc hP1 hD1 hk1 hz1
    have hw_5 := hw
    obtain rfl := hw
    refine lv_pop hx hb dJ5_append_c97b9_33 rfl ?_
    refine lv_goto (tgt := 48) hx hb dJ5_append_c97b9_34 (by decide) ?_
    refine lv_aload_n hx hb dJ5_append_c97b9_48 rfl (lv_at hl 2 rfl) ?_
    refine lv_iload_n hx hb dJ5_append_c97b9_49 rfl (lv_at hl 0 rfl) ?_
    refine va_put (D := D) (ci := 0) (v := .int (nI (ct + 1))) (ty := .int) (C := RJ4) (T := TJ4) (N := 4) hx hb hts (fun _ h => List.mem_cons_of_mem _ (List.mem_append_right _ (h))) tyJ4 tyJ4_ok nmJ4 hown hK hP hD hS 0 rfl rfl 3 (by decide) (hts (.fieldLink RJ5 79 "java/lang/AbstractStringBuilder" "count" "I") (List.mem_of_getElem? (i := 1) rfl)) (fun _ h9 => h9) rfl (by decide +kernel) rfl rfl (Nat.le_of_ble_eq_true rfl) dJ5_append_c97b9_50 (fun H locs hP hD hS => ?_)
    have hP : va_P D vwCl [(sb, .inr (0, [.ref vb, .int 0, .int ml, .int (nI (ct + 1))])), (vb, .inl (cA 2, n, .inl (upd g ct (nI (48 + v % 10)))))] H := hP
    have hD : va_D A [(sb, .inr (0, [.ref vb, .int 0, .int ml, .int (nI (ct + 1))])), (vb, .inl (cA 2, n, .inl (upd g ct (nI (48 + v % 10)))))] := hD
    refine lv_aload_n hx hb dJ5_append_c97b9_53 rfl (lv_at hl 2 rfl) ?_
    refine W.widen (k := 1) (n := 34) (by omega) (by omega) ?_
    exact W.aret (v := .ref sb) hx hb hr (Or.inl ⟨_, rfl⟩) (Or.inr ⟨_, rfl⟩) (fun t ht hW => ⟨⟨(vb, n, (upd g ct (nI (48 + v % 10)))), sb, rfl, apd_c hn (by omega) hfb (fun _ _ => rfl) (nI_nn (by omega)) ((nI_leI (b := 127) (by omega) (by decide)).mpr (by omega)), ⟨rfl, ⟨by rw [ht]; exact hP, by rw [hAe]; exact hD⟩⟩⟩, hS.F ht⟩) hS.2.2 dJ5_append_c97b9_54
  · skip
    obtain rfl : n = 16 := by omega
    have hPc := hP.sub (ws' := [(sb, .inr (0, [.ref vb, .int 0, .int ml, .int (nI ct)])), (vb, .inl (cA 2, 16, .inl g))]) [0, 1] rfl
    have hDc := hD.sub (ws' := [(sb, .inr (0, [.ref vb, .int 0, .int ml, .int (nI ct)])), (vb, .inl (cA 2, 16, .inl g))]) [0, 1] (by decide) rfl
    have hFc := va_free (wc := [(sb, .inr (0, [.ref vb, .int 0, .int ml, .int (nI ct)])), (vb, .inl (cA 2, 16, .inl g))]) hD hS hA [0, 1] rfl
    refine va_callv (va_runU (As := [.int (nI (ct + 1))]) (rest := []) ⟨hx, hb, hml, hown, hts⟩ (c_ens_g l D cA H.size sb vb ml ct g (ct + 1) (by omega) (by omega) (by assumption)) (va_cwU 1 hts gJ5_append_c97b9_J5_ensureCapacityInternal_d00df_u100J4 rfl rfl rfl rfl (by decide +kernel) ⟨Nat.le_of_ble_eq_true rfl, Nat.le_of_ble_eq_true rfl⟩) ⟨zU_blind, va_recv hK hPc (ci := 0) (q0 := 0) rfl rfl, fun U hU hW => ⟨rfl, zU_call hU hPc hW.alike hK hDc⟩⟩ rfl rfl hl.1 rfl (lv_room (Nat.le_of_ble_eq_true rfl)) dJ5_append_c97b9_14 ⟨Nat.le_of_ble_eq_true rfl, Nat.le_of_ble_eq_true rfl⟩) hS (fun q _ h => hFc q h) hFc (fun u t H1 locs ht hvm hw hB hz1 hk1 hS => ?_)
    obtain ⟨vb'_6, g'_6⟩ := u
    obtain ⟨hP1, hD1⟩ := hB
    rw [ht] at hP1
    try dsimp only at hw hP1 hD1
    obtain ⟨hP, hD⟩ := va_join (wr := []) (w1 := [(sb, .inr (0, [.ref vb'_6, .int 0, .int ml, .int (nI ct)])), (vb'_6, .inl (cA 2, 34, .inl g'_6))]) hP hD [0, 1] [] rfl rfl (by decide) (by decide) hk1 hFc hP1 hD1
    generalize H1 = H at hP hS ⊢
    have hP := hP.sub (ws' := [(sb, .inr (0, [.ref vb'_6, .int 0, .int ml, .int (nI ct)])), (vb'_6, .inl (cA 2, 34, .inl g'_6))]) [0, 1] rfl
    have hD := hD.sub (ws' := [(sb, .inr (0, [.ref vb'_6, .int 0, .int ml, .int (nI ct)])), (vb'_6, .inl (cA 2, 34, .inl g'_6))]) [0, 1] (by decide) rfl
    clear hPc hDc hFc hP1 hD1 hk1 hz1
    refine W.widen (k := 1) (n := 34) (by omega) (by omega) ?_
    obtain ⟨hw_6_0, hw_6_1⟩ := hw
    refine lv_aload_n hx hb dJ5_append_c97b9_17 rfl (lv_at hl 2 rfl) ?_
    have hPc := hP.sub (ws' := [(sb, .inr (0, [.ref vb'_6, .int 0, .int ml, .int (nI ct)]))]) [0] rfl
    have hDc := hD.sub (ws' := [(sb, .inr (0, [.ref vb'_6, .int 0, .int ml, .int (nI ct)]))]) [0] (by decide) rfl
    have hFc := va_free (wc := [(sb, .inr (0, [.ref vb'_6, .int 0, .int ml, .int (nI ct)]))]) hD hS hA [0] rfl
    refine va_calli (va_runU (As := []) (rest := []) ⟨hx, hb, hml, hown, hts⟩ (c_J5_isLatin1_aae02 l D cA zv H.size sb vb'_6 ml ct) (va_cwU 0 hts gJ5_append_c97b9_J5_isLatin1_aae02_u83J4 rfl rfl rfl rfl (by decide +kernel) ⟨Nat.le_of_ble_eq_true rfl, Nat.le_of_ble_eq_true rfl⟩) ⟨zUX_blind, va_recv hK hPc (ci := 0) (q0 := 0) rfl rfl, fun U hU hW => ⟨rfl, zUX_call hE0 hX0 hS hFc hU hPc hW hK hDc⟩⟩ rfl rfl hl.1 rfl (lv_room (Nat.le_of_ble_eq_true rfl)) dJ5_append_c97b9_18 ⟨Nat.le_of_ble_eq_true rfl, Nat.le_of_ble_eq_true rfl⟩) hS (fun q _ h => hFc q h) hFc (fun zr u t H1 locs ht hvm hw hB hz1 hk1 hS => ?_)
    obtain ⟨hP1, hD1⟩ := hB
    rw [ht] at hP1
    obtain ⟨hP, hD⟩ := va_join (wr := [(vb'_6, .inl (cA 2, 34, .inl g'_6))]) (w1 := [(sb, .inr (0, [.ref vb'_6, .int 0, .int ml, .int (nI ct)]))]) hP hD [0] [1] rfl rfl (by decide) (by decide) hk1 hFc hP1 hD1
    generalize H1 = H at hP hS ⊢
    have hP := hP.sub (ws' := [(sb, .inr (0, [.ref vb'_6, .int 0, .int ml, .int (nI ct)])), (vb'_6, .inl (cA 2, 34, .inl g'_6))]) [1, 0] rfl
    have hD := hD.sub (ws' := [(sb, .inr (0, [.ref vb'_6, .int 0, .int ml, .int (nI ct)])), (vb'_6, .inl (cA 2, 34, .inl g'_6))]) [1, 0] (by decide) rfl
    clear hPc hDc hFc hP1 hD1 hk1 hz1
    have hw_7 := hw
    obtain rfl := hw
    refine lv_if_eq (tgt := 37) hx hb dJ5_append_c97b9_21 (by decide) (fun c_8 => absurd c_8 (by decide)) (fun _ => ?_)
    refine lv_iload_n hx hb dJ5_append_c97b9_24 rfl (lv_at hl 3 rfl) ?_
    refine lv_iload_n hx hb dJ5_append_c97b9_25 rfl (lv_at hl 0 rfl) ?_
    refine lv_aload_n hx hb dJ5_append_c97b9_26 rfl (lv_at hl 2 rfl) ?_
    refine va_get (D := D) (ci := 0) (v := .ref vb'_6) (C := RJ4) (T := TJ4) (N := 4) hx hb hts (fun _ h => List.mem_cons_of_mem _ (List.mem_append_right _ (h))) hown hK hP 0 rfl rfl 0 (by decide) (hts (.fieldLink RJ5 15 "java/lang/AbstractStringBuilder" "value" "[B") (List.mem_of_getElem? (i := 2) rfl)) (fun _ h9 => h9) rfl dJ5_append_c97b9_27 ?_
    have hPc := hP.sub (ws' := [(vb'_6, .inl (cA 2, 34, .inl g'_6))]) [1] rfl
    have hDc := hD.sub (ws' := [(vb'_6, .inl (cA 2, 34, .inl g'_6))]) [1] (by decide) rfl
    have hFc := va_free (wc := [(vb'_6, .inl (cA 2, 34, .inl g'_6))]) hD hS hA [1] rfl
    refine va_calli (va_runS (As := [.int (nI v), .int (nI (ct + 1)), .ref vb'_6]) (rest := []) ⟨hx, hb, hml, hown, hts⟩ (c_gc_a l D cA zv H.size v vb'_6 ct 34 g'_6 h2v (by omega) (by omega)) (va_cwS 3 hts gJ5_append_c97b9_J6_getChars_ba4f3 rfl rfl rfl (by decide +kernel) ⟨Nat.le_of_ble_eq_true rfl, Nat.le_of_ble_eq_true rfl⟩) ⟨zUX_blind, fun U hU hW => ⟨rfl, zUX_call hE0 hX0 hS hFc hU hPc hW hK hDc⟩⟩ rfl rfl hl.1 rfl (lv_room (Nat.le_of_ble_eq_true rfl)) dJ5_append_c97b9_30 ⟨Nat.le_of_ble_eq_true rfl, Nat.le_of_ble_eq_true rfl⟩) hS (fun q _ h => hFc q h) hFc (fun zr u t H1 locs ht hvm hw hB hz1 hk1 hS => ?_)
    obtain ⟨hP1, hD1⟩ := hB
    rw [ht] at hP1
    obtain ⟨hP, hD⟩ := va_join (wr := [(sb, .inr (0, [.ref vb'_6, .int 0, .int ml, .int (nI ct)]))]) (w1 := [(vb'_6, .inl (cA 2, 34, .inl (upd g'_6 ct (nI (48 + v % 10)))))]) hP hD [1] [0] rfl rfl (by decide) (by decide) hk1 hFc hP1 hD1
    generalize H1 = H at hP hS ⊢
    have hP := hP.sub (ws' := [(sb, .inr (0, [.ref vb'_6, .int 0, .int ml, .int (nI ct)])), (vb'_6, .inl (cA 2, 34, .inl (upd g'_6 ct (nI (48 + v % 10)))))]) [0, 1] rfl
    have hD := hD.sub (ws' := [(sb, .inr (0, [.ref vb'_6, .int 0, .int ml, .int (nI ct)])), (vb'_6, .inl (cA 2, 34, .inl (upd g'_6 ct (nI (48 + v % 10)))))]) [0, 1] (by decide) rfl
    clear hPc hDc hFc hP1 hD1 hk1 hz1
    have hw_9 := hw
    obtain rfl := hw
    refine lv_pop hx hb dJ5_append_c97b9_33 rfl ?_
    refine lv_goto (tgt := 48) hx hb dJ5_append_c97b9_34 (by decide) ?_
    refine lv_aload_n hx hb dJ5_append_c97b9_48 rfl (lv_at hl 2 rfl) ?_
    refine lv_iload_n hx hb dJ5_append_c97b9_49 rfl (lv_at hl 0 rfl) ?_
    refine va_put (D := D) (ci := 0) (v := .int (nI (ct + 1))) (ty := .int) (C := RJ4) (T := TJ4) (N := 4) hx hb hts (fun _ h => List.mem_cons_of_mem _ (List.mem_append_right _ (h))) tyJ4 tyJ4_ok nmJ4 hown hK hP hD hS 0 rfl rfl 3 (by decide) (hts (.fieldLink RJ5 79 "java/lang/AbstractStringBuilder" "count" "I") (List.mem_of_getElem? (i := 1) rfl)) (fun _ h9 => h9) rfl (by decide +kernel) rfl rfl (Nat.le_of_ble_eq_true rfl) dJ5_append_c97b9_50 (fun H locs hP hD hS => ?_)
    have hP : va_P D vwCl [(sb, .inr (0, [.ref vb'_6, .int 0, .int ml, .int (nI (ct + 1))])), (vb'_6, .inl (cA 2, 34, .inl (upd g'_6 ct (nI (48 + v % 10)))))] H := hP
    have hD : va_D A [(sb, .inr (0, [.ref vb'_6, .int 0, .int ml, .int (nI (ct + 1))])), (vb'_6, .inl (cA 2, 34, .inl (upd g'_6 ct (nI (48 + v % 10)))))] := hD
    refine lv_aload_n hx hb dJ5_append_c97b9_53 rfl (lv_at hl 2 rfl) ?_
    refine W.widen (k := 1) (n := 34) (by omega) (by omega) ?_
    exact W.aret (v := .ref sb) hx hb hr (Or.inl ⟨_, rfl⟩) (Or.inr ⟨_, rfl⟩) (fun t ht hW => ⟨⟨(vb'_6, 34, (upd g'_6 ct (nI (48 + v % 10)))), sb, rfl, apd_c (Or.inr rfl) (by omega) hw_6_0 (fun i hi => hw_6_1 i (by omega)) (nI_nn (by omega)) ((nI_leI (b := 127) (by omega) (by decide)).mpr (by omega)), ⟨rfl, ⟨by rw [ht]; exact hP, by rw [hAe]; exact hD⟩⟩⟩, hS.F ht⟩) hS.2.2 dJ5_append_c97b9_54
set_option maxHeartbeats 4000000 in
set_option maxRecDepth 100000 in
theorem c_sbi_a (l : Launch) (D : va_G) (cA : Nat → ClassId) (zv : Nat → Nat) (sz : Nat) (sb vb : Nat) (ml : Int32) (ct n : Nat) (g : Nat → Int32) (v : Nat) (hn : n = 16 ∨ n = 34) (hct : ct ≤ n) (hfb : bfit n g) (hr34 : ct + 1 ≤ 34) (h1v : 0 ≤ v) (h2v : v ≤ 9) : Met l yJ4_append_bf812 wsJ4_append_bf812 ({ frames := 5, cells := 1, slots := 34, locals := 127 }) (va_Pc [.ref sb, .int (nI v)] (zUX D cA zv sz [(sb, .inr (0, [.ref vb, .int 0, .int ml, .int (nI ct)])), (vb, .inl (cA 2, n, .inl g))])) (va_Qr (fun (u : (Nat × Nat × (Nat → Int32))) => apd u.2.1 u.2.2 g ct [nI (48 + v % 10)]) (fun (u : (Nat × Nat × (Nat → Int32))) ra t => ra = sb ∧ zB D [(sb, .inr (0, [.ref vb, .int 0, .int ml, .int (nI ct)])), (vb, .inl (cA 2, n, .inl g))] sz [(sb, .inr (0, [.ref u.1, .int 0, .int ml, .int (nI (ct + 1))])), (u.1, .inl (cA 2, u.2.1, .inl u.2.2))] t) (va_A [(sb, .inr (0, [.ref vb, .int 0, .int ml, .int (nI ct)])), (vb, .inl (cA 2, n, .inl g))] sz)) 1 34 (va_A [(sb, .inr (0, [.ref vb, .int 0, .int ml, .int (nI ct)])), (vb, .inl (cA 2, n, .inl g))] sz) := by
  refine Met.ofW (cc := cJ4_append_bf812) (maxL := 2) (ret := (some (.object "java/lang/StringBuilder"))) (by decide) rfl ?_
  intro p e s m args below meth c s₁ B hml hv
  obtain ⟨rfl, ⟨hsz, hP, hK, hD0, hE0⟩, hX0⟩ := hv
  have hx := B.exec
  have hb := B.bytes
  have hr := B.returns
  have hts := atoms_spec (ws := wsJ4_append_bf812) B.pre
  have hown : s.vm.findClass RJ4 = some m.cls := findClass_of_methodNamed B.named
  have hlocks := B.notSynchronized
  subst hsz
  have hD := hD0.self (sz := s.heap.size)
  generalize hAe : va_A [(sb, .inr (0, [.ref vb, .int 0, .int ml, .int (nI ct)])), (vb, .inl (cA 2, n, .inl g))] s.heap.size = A at hD hE0 hX0 ⊢
  have hA : ∀ q : Nat, s.heap.size ≤ q → A q := fun q h => by rw [← hAe]; exact Or.inr h
  have hS : va_S A s.heap s.heap [] := va_S.rf
  have hl := lv_entry ([.ref sb, .int (nI v)]) (n := 2) (Nat.le_of_ble_eq_true rfl)
  rw [lg_entry_eq]
  generalize (lg_sl ([.ref sb, .int (nI v)]) ++ List.replicate (2 - (lg_sl ([.ref sb, .int (nI v)])).length) Slot.unset).toArray = ls at hl ⊢
  have hl : lv_has ls 2 [(0, .ref sb), (1, .int (nI v))] := hl
  refine lv_aload_n hx hb dJ4_append_bf812_0 rfl (lv_at hl 0 rfl) ?_
  refine lv_iload_n hx hb dJ4_append_bf812_1 rfl (lv_at hl 1 rfl) ?_
  have hPc := hP.sub (ws' := [(sb, .inr (0, [.ref vb, .int 0, .int ml, .int (nI ct)])), (vb, .inl (cA 2, n, .inl g))]) [0, 1] rfl
  have hDc := hD.sub (ws' := [(sb, .inr (0, [.ref vb, .int 0, .int ml, .int (nI ct)])), (vb, .inl (cA 2, n, .inl g))]) [0, 1] (by decide) rfl
  have hFc := va_free (wc := [(sb, .inr (0, [.ref vb, .int 0, .int ml, .int (nI ct)])), (vb, .inl (cA 2, n, .inl g))]) hD hS hA [0, 1] rfl
  refine va_callr (va_runSU (As := [.int (nI v)]) (rest := []) (hK.1 0 _ rfl).2 ⟨hx, hb, hml, hown, hts⟩ (c_appi_a l D cA zv s.heap.size sb vb ml ct n g v (by assumption) (by assumption) (by assumption) (by assumption) (by assumption) (by assumption)) (va_cwSU 1 hts gJ4_append_bf812_J5_append_c97b9_s53 rfl rfl rfl (by decide +kernel) ⟨Nat.le_of_ble_eq_true rfl, Nat.le_of_ble_eq_true rfl⟩) ⟨zUX_blind, va_recv hK hPc (ci := 0) (q0 := 0) rfl rfl, fun U hU hW => ⟨rfl, zUX_call hE0 hX0 hS hFc hU hPc hW hK hDc⟩⟩ rfl rfl hl.1 rfl (lv_room (Nat.le_of_ble_eq_true rfl)) dJ4_append_bf812_2 ⟨Nat.le_of_ble_eq_true rfl, Nat.le_of_ble_eq_true rfl⟩) hS (fun q _ h => hFc q h) hFc (fun u ra t H1 locs ht hvm hw hB hz1 hk1 hS => ?_)
  obtain ⟨vb'_1, n'_1, g'_1⟩ := u
  obtain ⟨hra, hP1, hD1⟩ := hB
  rw [ht] at hP1
  try dsimp only at hw hP1 hD1 hra
  subst ra
  obtain ⟨hP, hD⟩ := va_join (wr := []) (w1 := [(sb, .inr (0, [.ref vb'_1, .int 0, .int ml, .int (nI (ct + 1))])), (vb'_1, .inl (cA 2, n'_1, .inl g'_1))]) hP hD [0, 1] [] rfl rfl (by decide) (by decide) hk1 hFc hP1 hD1
  generalize H1 = H at hP hS ⊢
  have hP := hP.sub (ws' := [(sb, .inr (0, [.ref vb'_1, .int 0, .int ml, .int (nI (ct + 1))])), (vb'_1, .inl (cA 2, n'_1, .inl g'_1))]) [0, 1] rfl
  have hD := hD.sub (ws' := [(sb, .inr (0, [.ref vb'_1, .int 0, .int ml, .int (nI (ct + 1))])), (vb'_1, .inl (cA 2, n'_1, .inl g'_1))]) [0, 1] (by decide) rfl
  clear hPc hDc hFc hP1 hD1 hk1 hz1
  refine W.widen (k := 1) (n := 34) (by omega) (by omega) ?_
  have hw_1 := hw
  refine lv_pop hx hb dJ4_append_bf812_5 rfl ?_
  refine lv_aload_n hx hb dJ4_append_bf812_6 rfl (lv_at hl 0 rfl) ?_
  refine W.widen (k := 1) (n := 34) (by omega) (by omega) ?_
  exact W.aret (v := .ref sb) hx hb hr (Or.inl ⟨_, rfl⟩) (Or.inr ⟨_, rfl⟩) (fun t ht hW => ⟨⟨(vb'_1, n'_1, g'_1), sb, rfl, hw_1, ⟨rfl, ⟨by rw [ht]; exact hP, by rw [hAe]; exact hD⟩⟩⟩, hS.F ht⟩) hS.2.2 dJ4_append_bf812_7
set_option maxHeartbeats 4000000 in
set_option maxRecDepth 100000 in
theorem c_appi_b (l : Launch) (D : va_G) (cA : Nat → ClassId) (zv : Nat → Nat) (sz : Nat) (sb vb : Nat) (ml : Int32) (ct n : Nat) (g : Nat → Int32) (v : Nat) (hn : n = 16 ∨ n = 34) (hct : ct ≤ n) (hfb : bfit n g) (hr34 : ct + 2 ≤ 34) (h1v : 10 ≤ v) (h2v : v ≤ 99) : Met l yJ5_append_c97b9 wsJ5_append_c97b9 ({ frames := 4, cells := 1, slots := 34, locals := 104 }) (va_Pc [.ref sb, .int (nI v)] (zUX D cA zv sz [(sb, .inr (0, [.ref vb, .int 0, .int ml, .int (nI ct)])), (vb, .inl (cA 2, n, .inl g))])) (va_Qr (fun (u : (Nat × Nat × (Nat → Int32))) => apd u.2.1 u.2.2 g ct [nI (48 + v / 10), nI (48 + v % 10)]) (fun (u : (Nat × Nat × (Nat → Int32))) ra t => ra = sb ∧ zB D [(sb, .inr (0, [.ref vb, .int 0, .int ml, .int (nI ct)])), (vb, .inl (cA 2, n, .inl g))] sz [(sb, .inr (0, [.ref u.1, .int 0, .int ml, .int (nI (ct + 2))])), (u.1, .inl (cA 2, u.2.1, .inl u.2.2))] t) (va_A [(sb, .inr (0, [.ref vb, .int 0, .int ml, .int (nI ct)])), (vb, .inl (cA 2, n, .inl g))] sz)) 1 34 (va_A [(sb, .inr (0, [.ref vb, .int 0, .int ml, .int (nI ct)])), (vb, .inl (cA 2, n, .inl g))] sz) := by
  refine Met.ofW (cc := cJ5_append_c97b9) (maxL := 4) (ret := (some (.object "java/lang/AbstractStringBuilder"))) (by decide) rfl ?_
  intro p e s m args below meth c s₁ B hml hv
  obtain ⟨rfl, ⟨hsz, hP, hK, hD0, hE0⟩, hX0⟩ := hv
  have hx := B.exec
  have hb := B.bytes
  have hr := B.returns
  have hts := atoms_spec (ws := wsJ5_append_c97b9) B.pre
  have hown : s.vm.findClass RJ5 = some m.cls := findClass_of_methodNamed B.named
  have hlocks := B.notSynchronized
  subst hsz
  have hD := hD0.self (sz := s.heap.size)
  generalize hAe : va_A [(sb, .inr (0, [.ref vb, .int 0, .int ml, .int (nI ct)])), (vb, .inl (cA 2, n, .inl g))] s.heap.size = A at hD hE0 hX0 ⊢
  have hA : ∀ q : Nat, s.heap.size ≤ q → A q := fun q h => by rw [← hAe]; exact Or.inr h
  have hS : va_S A s.heap s.heap [] := va_S.rf
  have hl := lv_entry ([.ref sb, .int (nI v)]) (n := 4) (Nat.le_of_ble_eq_true rfl)
  rw [lg_entry_eq]
  generalize (lg_sl ([.ref sb, .int (nI v)]) ++ List.replicate (4 - (lg_sl ([.ref sb, .int (nI v)])).length) Slot.unset).toArray = ls at hl ⊢
  have hl : lv_has ls 4 [(0, .ref sb), (1, .int (nI v))] := hl
  have hn34 : n ≤ 34 := by omega
  refine lv_aload_n hx hb dJ5_append_c97b9_0 rfl (lv_at hl 0 rfl) ?_
  refine va_get (D := D) (ci := 0) (v := .int (nI ct)) (C := RJ4) (T := TJ4) (N := 4) hx hb hts (fun _ h => List.mem_cons_of_mem _ (List.mem_append_right _ (h))) hown hK hP 0 rfl rfl 3 (by decide) (hts (.fieldLink RJ5 79 "java/lang/AbstractStringBuilder" "count" "I") (List.mem_of_getElem? (i := 1) rfl)) (fun _ h9 => h9) rfl dJ5_append_c97b9_1 ?_
  refine lv_istore_n (lv' := [(2, .int (nI ct)), (0, .ref sb), (1, .int (nI v))]) hx hb dJ5_append_c97b9_4 rfl hl (by decide) rfl (fun ls hl => ?_)
  refine lv_iload_n hx hb dJ5_append_c97b9_5 rfl (lv_at hl 0 rfl) ?_
  refine lv_iload_n hx hb dJ5_append_c97b9_6 rfl (lv_at hl 2 rfl) ?_
  have hPc := hP.sub (ws' := []) [] rfl
  have hDc := hD.sub (ws' := []) [] (by decide) rfl
  have hFc := va_free (wc := []) hD hS hA [] rfl
  refine va_calli (va_runS (As := [.int (nI v)]) (rest := [.int (nI ct)]) ⟨hx, hb, hml, hown, hts⟩ (c_ss_b l D cA s.heap.size v h1v h2v) (va_cwS 1 hts gJ5_append_c97b9_J6_stringSize_0f7a4 rfl rfl rfl (by decide +kernel) ⟨Nat.le_of_ble_eq_true rfl, Nat.le_of_ble_eq_true rfl⟩) ⟨zU_blind, fun U hU hW => ⟨rfl, zU_call hU hPc hW.alike hK hDc⟩⟩ rfl rfl hl.1 rfl (lv_room (Nat.le_of_ble_eq_true rfl)) dJ5_append_c97b9_7 ⟨(Nat.zero_le _), (Nat.zero_le _)⟩) hS (fun q _ h => hFc q h) hFc (fun zr u t H1 locs ht hvm hw hB hz1 hk1 hS => ?_)
  obtain ⟨hP1, hD1⟩ := hB
  rw [ht] at hP1
  obtain ⟨hP, hD⟩ := va_join (wr := [(sb, .inr (0, [.ref vb, .int 0, .int ml, .int (nI ct)])), (vb, .inl (cA 2, n, .inl g))]) (w1 := []) hP hD [] [0, 1] rfl rfl (by decide) (by decide) hk1 hFc hP1 hD1
  generalize H1 = H at hP hS ⊢
  have hP := hP.sub (ws' := [(sb, .inr (0, [.ref vb, .int 0, .int ml, .int (nI ct)])), (vb, .inl (cA 2, n, .inl g))]) [0, 1] rfl
  have hD := hD.sub (ws' := [(sb, .inr (0, [.ref vb, .int 0, .int ml, .int (nI ct)])), (vb, .inl (cA 2, n, .inl g))]) [0, 1] (by decide) rfl
  clear hPc hDc hFc hP1 hD1 hk1 hz1
  have hw_1 := hw
  obtain rfl := hw
  refine lv_iadd hx hb dJ5_append_c97b9_10 ?_
  refine z_top (y := (nI (ct + 2))) (z_add ct 2) ?_
  refine lv_istore_n (lv' := [(3, .int (nI (ct + 2))), (2, .int (nI ct)), (0, .ref sb), (1, .int (nI v))]) hx hb dJ5_append_c97b9_11 rfl hl (by decide) rfl (fun ls hl => ?_)
  refine lv_aload_n hx hb dJ5_append_c97b9_12 rfl (lv_at hl 2 rfl) ?_
  refine lv_iload_n hx hb dJ5_append_c97b9_13 rfl (lv_at hl 0 rfl) ?_
  by_cases hfit : ct + 2 ≤ n
  · skip
    have hPc := hP.sub (ws' := [(sb, .inr (0, [.ref vb, .int 0, .int ml, .int (nI ct)])), (vb, .inl (cA 2, n, .inl g))]) [0, 1] rfl
    have hDc := hD.sub (ws' := [(sb, .inr (0, [.ref vb, .int 0, .int ml, .int (nI ct)])), (vb, .inl (cA 2, n, .inl g))]) [0, 1] (by decide) rfl
    have hFc := va_free (wc := [(sb, .inr (0, [.ref vb, .int 0, .int ml, .int (nI ct)])), (vb, .inl (cA 2, n, .inl g))]) hD hS hA [0, 1] rfl
    refine va_callv (va_runU (As := [.int (nI (ct + 2))]) (rest := []) ⟨hx, hb, hml, hown, hts⟩ (c_ens_k l D cA H.size sb vb ml ct n g (ct + 2) (by omega) (by omega) hfit) (va_cwU 1 hts gJ5_append_c97b9_J5_ensureCapacityInternal_d00df_u100J4 rfl rfl rfl rfl (by decide +kernel) ⟨Nat.le_of_ble_eq_true rfl, Nat.le_of_ble_eq_true rfl⟩) ⟨zU_blind, va_recv hK hPc (ci := 0) (q0 := 0) rfl rfl, fun U hU hW => ⟨rfl, zU_call hU hPc hW.alike hK hDc⟩⟩ rfl rfl hl.1 rfl (lv_room (Nat.le_of_ble_eq_true rfl)) dJ5_append_c97b9_14 ⟨(Nat.zero_le _), (Nat.zero_le _)⟩) hS (fun q _ h => hFc q h) hFc (fun u t H1 locs ht hvm hw hB hz1 hk1 hS => ?_)
    obtain ⟨hP1, hD1⟩ := hB
    rw [ht] at hP1
    obtain ⟨hP, hD⟩ := va_join (wr := []) (w1 := [(sb, .inr (0, [.ref vb, .int 0, .int ml, .int (nI ct)])), (vb, .inl (cA 2, n, .inl g))]) hP hD [0, 1] [] rfl rfl (by decide) (by decide) hk1 hFc hP1 hD1
    generalize H1 = H at hP hS ⊢
    have hP := hP.sub (ws' := [(sb, .inr (0, [.ref vb, .int 0, .int ml, .int (nI ct)])), (vb, .inl (cA 2, n, .inl g))]) [0, 1] rfl
    have hD := hD.sub (ws' := [(sb, .inr (0, [.ref vb, .int 0, .int ml, .int (nI ct)])), (vb, .inl (cA 2, n, .inl g))]) [0, 1] (by decide) rfl
    clear hPc hDc hFc hP1 hD1 hk1 hz1
    have hw_2 := hw
    refine lv_aload_n hx hb dJ5_append_c97b9_17 rfl (lv_at hl 2 rfl) ?_
    have hPc := hP.sub (ws' := [(sb, .inr (0, [.ref vb, .int 0, .int ml, .int (nI ct)]))]) [0] rfl
    have hDc := hD.sub (ws' := [(sb, .inr (0, [.ref vb, .int 0, .int ml, .int (nI ct)]))]) [0] (by decide) rfl
    have hFc := va_free (wc := [(sb, .inr (0, [.ref vb, .int 0, .int ml, .int (nI ct)]))]) hD hS hA [0] rfl
    refine va_calli (va_runU (As := []) (rest := []) ⟨hx, hb, hml, hown, hts⟩ (c_J5_isLatin1_aae02 l D cA zv H.size sb vb ml ct) (va_cwU 0 hts gJ5_append_c97b9_J5_isLatin1_aae02_u83J4 rfl rfl rfl rfl (by decide +kernel) ⟨Nat.le_of_ble_eq_true rfl, Nat.le_of_ble_eq_true rfl⟩) ⟨zUX_blind, va_recv hK hPc (ci := 0) (q0 := 0) rfl rfl, fun U hU hW => ⟨rfl, zUX_call hE0 hX0 hS hFc hU hPc hW hK hDc⟩⟩ rfl rfl hl.1 rfl (lv_room (Nat.le_of_ble_eq_true rfl)) dJ5_append_c97b9_18 ⟨(Nat.zero_le _), (Nat.zero_le _)⟩) hS (fun q _ h => hFc q h) hFc (fun zr u t H1 locs ht hvm hw hB hz1 hk1 hS => ?_)
    obtain ⟨hP1, hD1⟩ := hB
    rw [ht] at hP1
    obtain ⟨hP, hD⟩ := va_join (wr := [(vb, .inl (cA 2, n, .inl g))]) (w1 := [(sb, .inr (0, [.ref vb, .int 0, .int ml, .int (nI ct)]))]) hP hD [0] [1] rfl rfl (by decide) (by decide) hk1 hFc hP1 hD1
    generalize H1 = H at hP hS ⊢
    have hP := hP.sub (ws' := [(sb, .inr (0, [.ref vb, .int 0, .int ml, .int (nI ct)])), (vb, .inl (cA 2, n, .inl g))]) [1, 0] rfl
    have hD := hD.sub (ws' := [(sb, .inr (0, [.ref vb, .int 0, .int ml, .int (nI ct)])), (vb, .inl (cA 2, n, .inl g))]) [1, 0] (by decide) rfl
    clear hPc hDc hFc hP1 hD1 hk1 hz1
    have hw_3 := hw
    obtain rfl := hw
    refine lv_if_eq (tgt := 37) hx hb dJ5_append_c97b9_21 (by decide) (fun c_4 => absurd c_4 (by decide)) (fun _ => ?_)
    refine lv_iload_n hx hb dJ5_append_c97b9_24 rfl (lv_at hl 3 rfl) ?_
    refine lv_iload_n hx hb dJ5_append_c97b9_25 rfl (lv_at hl 0 rfl) ?_
    refine lv_aload_n hx hb dJ5_append_c97b9_26 rfl (lv_at hl 2 rfl) ?_
    refine va_get (D := D) (ci := 0) (v := .ref vb) (C := RJ4) (T := TJ4) (N := 4) hx hb hts (fun _ h => List.mem_cons_of_mem _ (List.mem_append_right _ (h))) hown hK hP 0 rfl rfl 0 (by decide) (hts (.fieldLink RJ5 15 "java/lang/AbstractStringBuilder" "value" "[B") (List.mem_of_getElem? (i := 2) rfl)) (fun _ h9 => h9) rfl dJ5_append_c97b9_27 ?_
    have hPc := hP.sub (ws' := [(vb, .inl (cA 2, n, .inl g))]) [1] rfl
    have hDc := hD.sub (ws' := [(vb, .inl (cA 2, n, .inl g))]) [1] (by decide) rfl
    have hFc := va_free (wc := [(vb, .inl (cA 2, n, .inl g))]) hD hS hA [1] rfl
    refine va_calli (va_runS (As := [.int (nI v), .int (nI (ct + 2)), .ref vb]) (rest := []) ⟨hx, hb, hml, hown, hts⟩ (c_gc_b l D cA zv H.size v vb ct n g h1v h2v (by omega) (by omega)) (va_cwS 3 hts gJ5_append_c97b9_J6_getChars_ba4f3 rfl rfl rfl (by decide +kernel) ⟨Nat.le_of_ble_eq_true rfl, Nat.le_of_ble_eq_true rfl⟩) ⟨zUX_blind, fun U hU hW => ⟨rfl, zUX_call hE0 hX0 hS hFc hU hPc hW hK hDc⟩⟩ rfl rfl hl.1 rfl (lv_room (Nat.le_of_ble_eq_true rfl)) dJ5_append_c97b9_30 ⟨(Nat.zero_le _), (Nat.zero_le _)⟩) hS (fun q _ h => hFc q h) hFc (fun zr u t H1 locs ht hvm hw hB hz1 hk1 hS => ?_)
    obtain ⟨hP1, hD1⟩ := hB
    rw [ht] at hP1
    obtain ⟨hP, hD⟩ := va_join (wr := [(sb, .inr (0, [.ref vb, .int 0, .int ml, .int (nI ct)]))]) (w1 := [(vb, .inl (cA 2, n, .inl (upd (upd g (ct + 1) (nI (48 + v % 10))) ct (nI (48 + v / 10)))))]) hP hD [1] [0] rfl rfl (by decide) (by decide) hk1 hFc hP1 hD1
    generalize H1 = H at hP hS ⊢
    have hP := hP.sub (ws' := [(sb, .inr (0, [.ref vb, .int 0, .int ml, .int (nI ct)])), (vb, .inl (cA 2, n, .inl (upd (upd g (ct + 1) (nI (48 + v % 10))) ct (nI (48 + v / 10)))))]) [0, 1] rfl
    have hD := hD.sub (ws' := [(sb, .inr (0, [.ref vb, .int 0, .int ml, .int (nI ct)])), (vb, .inl (cA 2, n, .inl (upd (upd g (ct + 1) (nI (48 + v % 10))) ct (nI (48 + v / 10)))))]) [0, 1] (by decide) rfl
    clear hPc hDc hFc hP1 hD1 hk1 hz1
    have hw_5 := hw
    obtain rfl := hw
    refine lv_pop hx hb dJ5_append_c97b9_33 rfl ?_
    refine lv_goto (tgt := 48) hx hb dJ5_append_c97b9_34 (by decide) ?_
    refine lv_aload_n hx hb dJ5_append_c97b9_48 rfl (lv_at hl 2 rfl) ?_
    refine lv_iload_n hx hb dJ5_append_c97b9_49 rfl (lv_at hl 0 rfl) ?_
    refine va_put (D := D) (ci := 0) (v := .int (nI (ct + 2))) (ty := .int) (C := RJ4) (T := TJ4) (N := 4) hx hb hts (fun _ h => List.mem_cons_of_mem _ (List.mem_append_right _ (h))) tyJ4 tyJ4_ok nmJ4 hown hK hP hD hS 0 rfl rfl 3 (by decide) (hts (.fieldLink RJ5 79 "java/lang/AbstractStringBuilder" "count" "I") (List.mem_of_getElem? (i := 1) rfl)) (fun _ h9 => h9) rfl (by decide +kernel) rfl rfl (Nat.le_of_ble_eq_true rfl) dJ5_append_c97b9_50 (fun H locs hP hD hS => ?_)
    have hP : va_P D vwCl [(sb, .inr (0, [.ref vb, .int 0, .int ml, .int (nI (ct + 2))])), (vb, .inl (cA 2, n, .inl (upd (upd g (ct + 1) (nI (48 + v % 10))) ct (nI (48 + v / 10)))))] H := hP
    have hD : va_D A [(sb, .inr (0, [.ref vb, .int 0, .int ml, .int (nI (ct + 2))])), (vb, .inl (cA 2, n, .inl (upd (upd g (ct + 1) (nI (48 + v % 10))) ct (nI (48 + v / 10)))))] := hD
    refine lv_aload_n hx hb dJ5_append_c97b9_53 rfl (lv_at hl 2 rfl) ?_
    refine W.widen (k := 1) (n := 34) (by omega) (by omega) ?_
    exact W.aret (v := .ref sb) hx hb hr (Or.inl ⟨_, rfl⟩) (Or.inr ⟨_, rfl⟩) (fun t ht hW => ⟨⟨(vb, n, (upd (upd g (ct + 1) (nI (48 + v % 10))) ct (nI (48 + v / 10)))), sb, rfl, apd_2 hn (by omega) hfb (fun _ _ => rfl) (fitd (by omega)) (fitd (by omega)), ⟨rfl, ⟨by rw [ht]; exact hP, by rw [hAe]; exact hD⟩⟩⟩, hS.F ht⟩) hS.2.2 dJ5_append_c97b9_54
  · skip
    obtain rfl : n = 16 := by omega
    have hPc := hP.sub (ws' := [(sb, .inr (0, [.ref vb, .int 0, .int ml, .int (nI ct)])), (vb, .inl (cA 2, 16, .inl g))]) [0, 1] rfl
    have hDc := hD.sub (ws' := [(sb, .inr (0, [.ref vb, .int 0, .int ml, .int (nI ct)])), (vb, .inl (cA 2, 16, .inl g))]) [0, 1] (by decide) rfl
    have hFc := va_free (wc := [(sb, .inr (0, [.ref vb, .int 0, .int ml, .int (nI ct)])), (vb, .inl (cA 2, 16, .inl g))]) hD hS hA [0, 1] rfl
    refine va_callv (va_runU (As := [.int (nI (ct + 2))]) (rest := []) ⟨hx, hb, hml, hown, hts⟩ (c_ens_g l D cA H.size sb vb ml ct g (ct + 2) (by omega) (by omega) (by assumption)) (va_cwU 1 hts gJ5_append_c97b9_J5_ensureCapacityInternal_d00df_u100J4 rfl rfl rfl rfl (by decide +kernel) ⟨Nat.le_of_ble_eq_true rfl, Nat.le_of_ble_eq_true rfl⟩) ⟨zU_blind, va_recv hK hPc (ci := 0) (q0 := 0) rfl rfl, fun U hU hW => ⟨rfl, zU_call hU hPc hW.alike hK hDc⟩⟩ rfl rfl hl.1 rfl (lv_room (Nat.le_of_ble_eq_true rfl)) dJ5_append_c97b9_14 ⟨Nat.le_of_ble_eq_true rfl, Nat.le_of_ble_eq_true rfl⟩) hS (fun q _ h => hFc q h) hFc (fun u t H1 locs ht hvm hw hB hz1 hk1 hS => ?_)
    obtain ⟨vb'_6, g'_6⟩ := u
    obtain ⟨hP1, hD1⟩ := hB
    rw [ht] at hP1
    try dsimp only at hw hP1 hD1
    obtain ⟨hP, hD⟩ := va_join (wr := []) (w1 := [(sb, .inr (0, [.ref vb'_6, .int 0, .int ml, .int (nI ct)])), (vb'_6, .inl (cA 2, 34, .inl g'_6))]) hP hD [0, 1] [] rfl rfl (by decide) (by decide) hk1 hFc hP1 hD1
    generalize H1 = H at hP hS ⊢
    have hP := hP.sub (ws' := [(sb, .inr (0, [.ref vb'_6, .int 0, .int ml, .int (nI ct)])), (vb'_6, .inl (cA 2, 34, .inl g'_6))]) [0, 1] rfl
    have hD := hD.sub (ws' := [(sb, .inr (0, [.ref vb'_6, .int 0, .int ml, .int (nI ct)])), (vb'_6, .inl (cA 2, 34, .inl g'_6))]) [0, 1] (by decide) rfl
    clear hPc hDc hFc hP1 hD1 hk1 hz1
    refine W.widen (k := 1) (n := 34) (by omega) (by omega) ?_
    obtain ⟨hw_6_0, hw_6_1⟩ := hw
    refine lv_aload_n hx hb dJ5_append_c97b9_17 rfl (lv_at hl 2 rfl) ?_
    have hPc := hP.sub (ws' := [(sb, .inr (0, [.ref vb'_6, .int 0, .int ml, .int (nI ct)]))]) [0] rfl
    have hDc := hD.sub (ws' := [(sb, .inr (0, [.ref vb'_6, .int 0, .int ml, .int (nI ct)]))]) [0] (by decide) rfl
    have hFc := va_free (wc := [(sb, .inr (0, [.ref vb'_6, .int 0, .int ml, .int (nI ct)]))]) hD hS hA [0] rfl
    refine va_calli (va_runU (As := []) (rest := []) ⟨hx, hb, hml, hown, hts⟩ (c_J5_isLatin1_aae02 l D cA zv H.size sb vb'_6 ml ct) (va_cwU 0 hts gJ5_append_c97b9_J5_isLatin1_aae02_u83J4 rfl rfl rfl rfl (by decide +kernel) ⟨Nat.le_of_ble_eq_true rfl, Nat.le_of_ble_eq_true rfl⟩) ⟨zUX_blind, va_recv hK hPc (ci := 0) (q0 := 0) rfl rfl, fun U hU hW => ⟨rfl, zUX_call hE0 hX0 hS hFc hU hPc hW hK hDc⟩⟩ rfl rfl hl.1 rfl (lv_room (Nat.le_of_ble_eq_true rfl)) dJ5_append_c97b9_18 ⟨Nat.le_of_ble_eq_true rfl, Nat.le_of_ble_eq_true rfl⟩) hS (fun q _ h => hFc q h) hFc (fun zr u t H1 locs ht hvm hw hB hz1 hk1 hS => ?_)
    obtain ⟨hP1, hD1⟩ := hB
    rw [ht] at hP1
    obtain ⟨hP, hD⟩ := va_join (wr := [(vb'_6, .inl (cA 2, 34, .inl g'_6))]) (w1 := [(sb, .inr (0, [.ref vb'_6, .int 0, .int ml, .int (nI ct)]))]) hP hD [0] [1] rfl rfl (by decide) (by decide) hk1 hFc hP1 hD1
    generalize H1 = H at hP hS ⊢
    have hP := hP.sub (ws' := [(sb, .inr (0, [.ref vb'_6, .int 0, .int ml, .int (nI ct)])), (vb'_6, .inl (cA 2, 34, .inl g'_6))]) [1, 0] rfl
    have hD := hD.sub (ws' := [(sb, .inr (0, [.ref vb'_6, .int 0, .int ml, .int (nI ct)])), (vb'_6, .inl (cA 2, 34, .inl g'_6))]) [1, 0] (by decide) rfl
    clear hPc hDc hFc hP1 hD1 hk1 hz1
    have hw_7 := hw
    obtain rfl := hw
    refine lv_if_eq (tgt := 37) hx hb dJ5_append_c97b9_21 (by decide) (fun c_8 => absurd c_8 (by decide)) (fun _ => ?_)
    refine lv_iload_n hx hb dJ5_append_c97b9_24 rfl (lv_at hl 3 rfl) ?_
    refine lv_iload_n hx hb dJ5_append_c97b9_25 rfl (lv_at hl 0 rfl) ?_
    refine lv_aload_n hx hb dJ5_append_c97b9_26 rfl (lv_at hl 2 rfl) ?_
    refine va_get (D := D) (ci := 0) (v := .ref vb'_6) (C := RJ4) (T := TJ4) (N := 4) hx hb hts (fun _ h => List.mem_cons_of_mem _ (List.mem_append_right _ (h))) hown hK hP 0 rfl rfl 0 (by decide) (hts (.fieldLink RJ5 15 "java/lang/AbstractStringBuilder" "value" "[B") (List.mem_of_getElem? (i := 2) rfl)) (fun _ h9 => h9) rfl dJ5_append_c97b9_27 ?_
    have hPc := hP.sub (ws' := [(vb'_6, .inl (cA 2, 34, .inl g'_6))]) [1] rfl
    have hDc := hD.sub (ws' := [(vb'_6, .inl (cA 2, 34, .inl g'_6))]) [1] (by decide) rfl
    have hFc := va_free (wc := [(vb'_6, .inl (cA 2, 34, .inl g'_6))]) hD hS hA [1] rfl
    refine va_calli (va_runS (As := [.int (nI v), .int (nI (ct + 2)), .ref vb'_6]) (rest := []) ⟨hx, hb, hml, hown, hts⟩ (c_gc_b l D cA zv H.size v vb'_6 ct 34 g'_6 h1v h2v (by omega) (by omega)) (va_cwS 3 hts gJ5_append_c97b9_J6_getChars_ba4f3 rfl rfl rfl (by decide +kernel) ⟨Nat.le_of_ble_eq_true rfl, Nat.le_of_ble_eq_true rfl⟩) ⟨zUX_blind, fun U hU hW => ⟨rfl, zUX_call hE0 hX0 hS hFc hU hPc hW hK hDc⟩⟩ rfl rfl hl.1 rfl (lv_room (Nat.le_of_ble_eq_true rfl)) dJ5_append_c97b9_30 ⟨Nat.le_of_ble_eq_true rfl, Nat.le_of_ble_eq_true rfl⟩) hS (fun q _ h => hFc q h) hFc (fun zr u t H1 locs ht hvm hw hB hz1 hk1 hS => ?_)
    obtain ⟨hP1, hD1⟩ := hB
    rw [ht] at hP1
    obtain ⟨hP, hD⟩ := va_join (wr := [(sb, .inr (0, [.ref vb'_6, .int 0, .int ml, .int (nI ct)]))]) (w1 := [(vb'_6, .inl (cA 2, 34, .inl (upd (upd g'_6 (ct + 1) (nI (48 + v % 10))) ct (nI (48 + v / 10)))))]) hP hD [1] [0] rfl rfl (by decide) (by decide) hk1 hFc hP1 hD1
    generalize H1 = H at hP hS ⊢
    have hP := hP.sub (ws' := [(sb, .inr (0, [.ref vb'_6, .int 0, .int ml, .int (nI ct)])), (vb'_6, .inl (cA 2, 34, .inl (upd (upd g'_6 (ct + 1) (nI (48 + v % 10))) ct (nI (48 + v / 10)))))]) [0, 1] rfl
    have hD := hD.sub (ws' := [(sb, .inr (0, [.ref vb'_6, .int 0, .int ml, .int (nI ct)])), (vb'_6, .inl (cA 2, 34, .inl (upd (upd g'_6 (ct + 1) (nI (48 + v % 10))) ct (nI (48 + v / 10)))))]) [0, 1] (by decide) rfl
    clear hPc hDc hFc hP1 hD1 hk1 hz1
    have hw_9 := hw
    obtain rfl := hw
    refine lv_pop hx hb dJ5_append_c97b9_33 rfl ?_
    refine lv_goto (tgt := 48) hx hb dJ5_append_c97b9_34 (by decide) ?_
    refine lv_aload_n hx hb dJ5_append_c97b9_48 rfl (lv_at hl 2 rfl) ?_
    refine lv_iload_n hx hb dJ5_append_c97b9_49 rfl (lv_at hl 0 rfl) ?_
    refine va_put (D := D) (ci := 0) (v := .int (nI (ct + 2))) (ty := .int) (C := RJ4) (T := TJ4) (N := 4) hx hb hts (fun _ h => List.mem_cons_of_mem _ (List.mem_append_right _ (h))) tyJ4 tyJ4_ok nmJ4 hown hK hP hD hS 0 rfl rfl 3 (by decide) (hts (.fieldLink RJ5 79 "java/lang/AbstractStringBuilder" "count" "I") (List.mem_of_getElem? (i := 1) rfl)) (fun _ h9 => h9) rfl (by decide +kernel) rfl rfl (Nat.le_of_ble_eq_true rfl) dJ5_append_c97b9_50 (fun H locs hP hD hS => ?_)
    have hP : va_P D vwCl [(sb, .inr (0, [.ref vb'_6, .int 0, .int ml, .int (nI (ct + 2))])), (vb'_6, .inl (cA 2, 34, .inl (upd (upd g'_6 (ct + 1) (nI (48 + v % 10))) ct (nI (48 + v / 10)))))] H := hP
    have hD : va_D A [(sb, .inr (0, [.ref vb'_6, .int 0, .int ml, .int (nI (ct + 2))])), (vb'_6, .inl (cA 2, 34, .inl (upd (upd g'_6 (ct + 1) (nI (48 + v % 10))) ct (nI (48 + v / 10)))))] := hD
    refine lv_aload_n hx hb dJ5_append_c97b9_53 rfl (lv_at hl 2 rfl) ?_
    refine W.widen (k := 1) (n := 34) (by omega) (by omega) ?_
    exact W.aret (v := .ref sb) hx hb hr (Or.inl ⟨_, rfl⟩) (Or.inr ⟨_, rfl⟩) (fun t ht hW => ⟨⟨(vb'_6, 34, (upd (upd g'_6 (ct + 1) (nI (48 + v % 10))) ct (nI (48 + v / 10)))), sb, rfl, apd_2 (Or.inr rfl) (by omega) hw_6_0 (fun i hi => hw_6_1 i (by omega)) (fitd (by omega)) (fitd (by omega)), ⟨rfl, ⟨by rw [ht]; exact hP, by rw [hAe]; exact hD⟩⟩⟩, hS.F ht⟩) hS.2.2 dJ5_append_c97b9_54
set_option maxHeartbeats 4000000 in
set_option maxRecDepth 100000 in
theorem c_sbi_b (l : Launch) (D : va_G) (cA : Nat → ClassId) (zv : Nat → Nat) (sz : Nat) (sb vb : Nat) (ml : Int32) (ct n : Nat) (g : Nat → Int32) (v : Nat) (hn : n = 16 ∨ n = 34) (hct : ct ≤ n) (hfb : bfit n g) (hr34 : ct + 2 ≤ 34) (h1v : 10 ≤ v) (h2v : v ≤ 99) : Met l yJ4_append_bf812 wsJ4_append_bf812 ({ frames := 5, cells := 1, slots := 34, locals := 127 }) (va_Pc [.ref sb, .int (nI v)] (zUX D cA zv sz [(sb, .inr (0, [.ref vb, .int 0, .int ml, .int (nI ct)])), (vb, .inl (cA 2, n, .inl g))])) (va_Qr (fun (u : (Nat × Nat × (Nat → Int32))) => apd u.2.1 u.2.2 g ct [nI (48 + v / 10), nI (48 + v % 10)]) (fun (u : (Nat × Nat × (Nat → Int32))) ra t => ra = sb ∧ zB D [(sb, .inr (0, [.ref vb, .int 0, .int ml, .int (nI ct)])), (vb, .inl (cA 2, n, .inl g))] sz [(sb, .inr (0, [.ref u.1, .int 0, .int ml, .int (nI (ct + 2))])), (u.1, .inl (cA 2, u.2.1, .inl u.2.2))] t) (va_A [(sb, .inr (0, [.ref vb, .int 0, .int ml, .int (nI ct)])), (vb, .inl (cA 2, n, .inl g))] sz)) 1 34 (va_A [(sb, .inr (0, [.ref vb, .int 0, .int ml, .int (nI ct)])), (vb, .inl (cA 2, n, .inl g))] sz) := by
  refine Met.ofW (cc := cJ4_append_bf812) (maxL := 2) (ret := (some (.object "java/lang/StringBuilder"))) (by decide) rfl ?_
  intro p e s m args below meth c s₁ B hml hv
  obtain ⟨rfl, ⟨hsz, hP, hK, hD0, hE0⟩, hX0⟩ := hv
  have hx := B.exec
  have hb := B.bytes
  have hr := B.returns
  have hts := atoms_spec (ws := wsJ4_append_bf812) B.pre
  have hown : s.vm.findClass RJ4 = some m.cls := findClass_of_methodNamed B.named
  have hlocks := B.notSynchronized
  subst hsz
  have hD := hD0.self (sz := s.heap.size)
  generalize hAe : va_A [(sb, .inr (0, [.ref vb, .int 0, .int ml, .int (nI ct)])), (vb, .inl (cA 2, n, .inl g))] s.heap.size = A at hD hE0 hX0 ⊢
  have hA : ∀ q : Nat, s.heap.size ≤ q → A q := fun q h => by rw [← hAe]; exact Or.inr h
  have hS : va_S A s.heap s.heap [] := va_S.rf
  have hl := lv_entry ([.ref sb, .int (nI v)]) (n := 2) (Nat.le_of_ble_eq_true rfl)
  rw [lg_entry_eq]
  generalize (lg_sl ([.ref sb, .int (nI v)]) ++ List.replicate (2 - (lg_sl ([.ref sb, .int (nI v)])).length) Slot.unset).toArray = ls at hl ⊢
  have hl : lv_has ls 2 [(0, .ref sb), (1, .int (nI v))] := hl
  refine lv_aload_n hx hb dJ4_append_bf812_0 rfl (lv_at hl 0 rfl) ?_
  refine lv_iload_n hx hb dJ4_append_bf812_1 rfl (lv_at hl 1 rfl) ?_
  have hPc := hP.sub (ws' := [(sb, .inr (0, [.ref vb, .int 0, .int ml, .int (nI ct)])), (vb, .inl (cA 2, n, .inl g))]) [0, 1] rfl
  have hDc := hD.sub (ws' := [(sb, .inr (0, [.ref vb, .int 0, .int ml, .int (nI ct)])), (vb, .inl (cA 2, n, .inl g))]) [0, 1] (by decide) rfl
  have hFc := va_free (wc := [(sb, .inr (0, [.ref vb, .int 0, .int ml, .int (nI ct)])), (vb, .inl (cA 2, n, .inl g))]) hD hS hA [0, 1] rfl
  refine va_callr (va_runSU (As := [.int (nI v)]) (rest := []) (hK.1 0 _ rfl).2 ⟨hx, hb, hml, hown, hts⟩ (c_appi_b l D cA zv s.heap.size sb vb ml ct n g v (by assumption) (by assumption) (by assumption) (by assumption) (by assumption) (by assumption)) (va_cwSU 1 hts gJ4_append_bf812_J5_append_c97b9_s53 rfl rfl rfl (by decide +kernel) ⟨Nat.le_of_ble_eq_true rfl, Nat.le_of_ble_eq_true rfl⟩) ⟨zUX_blind, va_recv hK hPc (ci := 0) (q0 := 0) rfl rfl, fun U hU hW => ⟨rfl, zUX_call hE0 hX0 hS hFc hU hPc hW hK hDc⟩⟩ rfl rfl hl.1 rfl (lv_room (Nat.le_of_ble_eq_true rfl)) dJ4_append_bf812_2 ⟨Nat.le_of_ble_eq_true rfl, Nat.le_of_ble_eq_true rfl⟩) hS (fun q _ h => hFc q h) hFc (fun u ra t H1 locs ht hvm hw hB hz1 hk1 hS => ?_)
  obtain ⟨vb'_1, n'_1, g'_1⟩ := u
  obtain ⟨hra, hP1, hD1⟩ := hB
  rw [ht] at hP1
  try dsimp only at hw hP1 hD1 hra
  subst ra
  obtain ⟨hP, hD⟩ := va_join (wr := []) (w1 := [(sb, .inr (0, [.ref vb'_1, .int 0, .int ml, .int (nI (ct + 2))])), (vb'_1, .inl (cA 2, n'_1, .inl g'_1))]) hP hD [0, 1] [] rfl rfl (by decide) (by decide) hk1 hFc hP1 hD1
  generalize H1 = H at hP hS ⊢
  have hP := hP.sub (ws' := [(sb, .inr (0, [.ref vb'_1, .int 0, .int ml, .int (nI (ct + 2))])), (vb'_1, .inl (cA 2, n'_1, .inl g'_1))]) [0, 1] rfl
  have hD := hD.sub (ws' := [(sb, .inr (0, [.ref vb'_1, .int 0, .int ml, .int (nI (ct + 2))])), (vb'_1, .inl (cA 2, n'_1, .inl g'_1))]) [0, 1] (by decide) rfl
  clear hPc hDc hFc hP1 hD1 hk1 hz1
  refine W.widen (k := 1) (n := 34) (by omega) (by omega) ?_
  have hw_1 := hw
  refine lv_pop hx hb dJ4_append_bf812_5 rfl ?_
  refine lv_aload_n hx hb dJ4_append_bf812_6 rfl (lv_at hl 0 rfl) ?_
  refine W.widen (k := 1) (n := 34) (by omega) (by omega) ?_
  exact W.aret (v := .ref sb) hx hb hr (Or.inl ⟨_, rfl⟩) (Or.inr ⟨_, rfl⟩) (fun t ht hW => ⟨⟨(vb'_1, n'_1, g'_1), sb, rfl, hw_1, ⟨rfl, ⟨by rw [ht]; exact hP, by rw [hAe]; exact hD⟩⟩⟩, hS.F ht⟩) hS.2.2 dJ4_append_bf812_7
