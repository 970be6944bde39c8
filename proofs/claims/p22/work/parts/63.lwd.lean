set_option maxHeartbeats 4000000 in
set_option maxRecDepth 100000 in
theorem c_name_0 (l : Launch) (D : va_G) (cA : Nat → ClassId) (zv : Nat → Nat) (sz : Nat) (o F G : Nat) (lo nw se : Int32) (pa : Nat → Nat) (an ln : Nat) (x : Nat → Nat) (y0 : Nat) (n : Int32) (xv : Nat → Int32) (vb nb ct : Nat) (ml : Int32) (f g : Nat → Int32) (he : en n F G (x 0) y0) (hk0 : xv 0 = nI 0) (hok : ∀ j, j < 4 → okv (f j)) (hn : nb = 16 ∨ nb = 34) (hct : ct ≤ nb) (hfb : bfit nb g) : Met l yL_name wsL_name ({ frames := 9, cells := 14, slots := 449, locals := 222 }) (va_Pc [.ref o, .int n, .int 0] (zUX D cA zv sz [(o, .inr (4, [.ref F, .ref G, .int lo, .int nw, .int se, .ref (pa 0), .ref an, .ref ln])), cE x xv, (x 7, .inl (cA 0, 4, .inl f)), (ln, .inr (0, [.ref vb, .int 0, .int ml, .int (nI ct)])), (vb, .inl (cA 2, nb, .inl g))])) (va_Qi (fun (r : Int32) (u : (Nat × Int32 × Nat × (Nat → Int32))) => okL 0 f u.2.2.1 u.2.2.2 ∧ r = nI (zLen.getD 0 0)) (fun (u : (Nat × Int32 × Nat × (Nat → Int32))) t => zB D [(o, .inr (4, [.ref F, .ref G, .int lo, .int nw, .int se, .ref (pa 0), .ref an, .ref ln])), cE x xv, (x 7, .inl (cA 0, 4, .inl f)), (ln, .inr (0, [.ref vb, .int 0, .int ml, .int (nI ct)])), (vb, .inl (cA 2, nb, .inl g))] sz [(o, .inr (4, [.ref F, .ref G, .int lo, .int nw, .int se, .ref (pa 0), .ref an, .ref ln])), cE x xv, (x 7, .inl (cA 0, 4, .inl f)), (ln, .inr (0, [.ref u.1, .int 0, .int u.2.1, .int (nI ((lnT 0 f 4).length))])), (u.1, .inl (cA 2, u.2.2.1, .inl u.2.2.2))] t) (va_A [(o, .inr (4, [.ref F, .ref G, .int lo, .int nw, .int se, .ref (pa 0), .ref an, .ref ln])), cE x xv, (x 7, .inl (cA 0, 4, .inl f)), (ln, .inr (0, [.ref vb, .int 0, .int ml, .int (nI ct)])), (vb, .inl (cA 2, nb, .inl g))] sz)) 14 449 (va_A [(o, .inr (4, [.ref F, .ref G, .int lo, .int nw, .int se, .ref (pa 0), .ref an, .ref ln])), cE x xv, (x 7, .inl (cA 0, 4, .inl f)), (ln, .inr (0, [.ref vb, .int 0, .int ml, .int (nI ct)])), (vb, .inl (cA 2, nb, .inl g))] sz) := by
  refine Met.ofW (cc := cL_name) (maxL := 3) (ret := (some .int)) (by decide) rfl ?_
  intro p e s m args below meth c s₁ B hml hv
  obtain ⟨rfl, ⟨hsz, hP, hK, hD0, hE0⟩, hX0⟩ := hv
  have hx := B.exec
  have hb := B.bytes
  have hr := B.returns
  have hts := atoms_spec (ws := wsL_name) B.pre
  have hown : s.vm.findClass RL = some m.cls := findClass_of_methodNamed B.named
  have hlocks := B.notSynchronized
  subst hsz
  have hD := hD0.self (sz := s.heap.size)
  generalize hAe : va_A [(o, .inr (4, [.ref F, .ref G, .int lo, .int nw, .int se, .ref (pa 0), .ref an, .ref ln])), cE x xv, (x 7, .inl (cA 0, 4, .inl f)), (ln, .inr (0, [.ref vb, .int 0, .int ml, .int (nI ct)])), (vb, .inl (cA 2, nb, .inl g))] s.heap.size = A at hD hE0 hX0 ⊢
  have hA : ∀ q : Nat, s.heap.size ≤ q → A q := fun q h => by rw [← hAe]; exact Or.inr h
  have hS : va_S A s.heap s.heap [] := va_S.rf
  have hl := lv_entry ([.ref o, .int n, .int 0]) (n := 3) (Nat.le_of_ble_eq_true rfl)
  rw [lg_entry_eq]
  generalize (lg_sl ([.ref o, .int n, .int 0]) ++ List.replicate (3 - (lg_sl ([.ref o, .int n, .int 0])).length) Slot.unset).toArray = ls at hl ⊢
  have hl : lv_has ls 3 [(0, .ref o), (1, .int n), (2, .int 0)] := hl
  refine lv_iload_n hx hb dL_name_0 rfl (lv_at hl 2 rfl) ?_
  refine lv_iconst (v := 3) hx hb dL_name_1 (by decide) ?_
  refine lv_icmp_ge (tgt := 74) hx hb dL_name_2 (by decide) (fun c_1 => absurd c_1 (by decide)) (fun _ => ?_)
  refine lv_iload_n hx hb dL_name_5 rfl (lv_at hl 2 rfl) ?_
  refine lv_if_ne (tgt := 30) hx hb dL_name_6 (by decide) (fun c_2 => absurd c_2 (by decide)) (fun _ => ?_)
  refine lv_aload_n hx hb dL_name_9 rfl (lv_at hl 0 rfl) ?_
  refine lv_iload_n hx hb dL_name_10 rfl (lv_at hl 1 rfl) ?_
  refine lv_bipush (v := 99) hx hb dL_name_11 (by decide) ?_
  refine lv_bipush (v := 108) hx hb dL_name_13 (by decide) ?_
  refine lv_bipush (v := 111) hx hb dL_name_15 (by decide) ?_
  refine lv_bipush (v := 115) hx hb dL_name_17 (by decide) ?_
  refine lv_bipush (v := 101) hx hb dL_name_19 (by decide) ?_
  refine lv_bipush (v := 100) hx hb dL_name_21 (by decide) ?_
  refine lv_iconst (v := 0) hx hb dL_name_23 (by decide) ?_
  have hPc := hP.sub (ws' := [(o, .inr (4, [.ref F, .ref G, .int lo, .int nw, .int se, .ref (pa 0), .ref an, .ref ln])), cE x xv, (x 7, .inl (cA 0, 4, .inl f)), (ln, .inr (0, [.ref vb, .int 0, .int ml, .int (nI ct)])), (vb, .inl (cA 2, nb, .inl g))]) [0, 1, 2, 3, 4] rfl
  have hDc := hD.sub (ws' := [(o, .inr (4, [.ref F, .ref G, .int lo, .int nw, .int se, .ref (pa 0), .ref an, .ref ln])), cE x xv, (x 7, .inl (cA 0, 4, .inl f)), (ln, .inr (0, [.ref vb, .int 0, .int ml, .int (nI ct)])), (vb, .inl (cA 2, nb, .inl g))]) [0, 1, 2, 3, 4] (by decide) rfl
  have hFc := va_free (wc := [(o, .inr (4, [.ref F, .ref G, .int lo, .int nw, .int se, .ref (pa 0), .ref an, .ref ln])), cE x xv, (x 7, .inl (cA 0, 4, .inl f)), (ln, .inr (0, [.ref vb, .int 0, .int ml, .int (nI ct)])), (vb, .inl (cA 2, nb, .inl g))]) hD hS hA [0, 1, 2, 3, 4] rfl
  refine va_calli (va_runS (As := [.ref o, .int n, .int 99, .int 108, .int 111, .int 115, .int 101, .int 100, .int 0]) (rest := []) ⟨hx, hb, hml, hown, hts⟩ (c_L_begins l D cA zv s.heap.size o F G lo nw se pa an ln x y0 n xv 0 vb nb ct ml f g 99 108 111 115 101 100 0 he (by decide) hk0 hok hn hct hfb (by decide +kernel) (by decide +kernel)) (va_cwS 9 hts gL_name_L_begins rfl rfl rfl (by decide +kernel) ⟨Nat.le_of_ble_eq_true rfl, Nat.le_of_ble_eq_true rfl⟩) ⟨zUX_blind, fun U hU hW => ⟨rfl, zUX_call hE0 hX0 hS hFc hU hPc hW hK hDc⟩⟩ rfl rfl hl.1 rfl (lv_room (Nat.le_of_ble_eq_true rfl)) dL_name_24 ⟨Nat.le_of_ble_eq_true rfl, Nat.le_of_ble_eq_true rfl⟩) hS (fun q _ h => hFc q h) hFc (fun zr u t H1 locs ht hvm hw hB hz1 hk1 hS => ?_)
  obtain ⟨vb'_3, ml'_3, nb'_3, g'_3⟩ := u
  obtain ⟨hP1, hD1⟩ := hB
  rw [ht] at hP1
  try dsimp only at hw hP1 hD1
  obtain ⟨hP, hD⟩ := va_join (wr := []) (w1 := [(o, .inr (4, [.ref F, .ref G, .int lo, .int nw, .int se, .ref (pa 0), .ref an, .ref ln])), cE x xv, (x 7, .inl (cA 0, 4, .inl f)), (ln, .inr (0, [.ref vb'_3, .int 0, .int ml'_3, .int (nI ((lnT 0 f 4).length))])), (vb'_3, .inl (cA 2, nb'_3, .inl g'_3))]) hP hD [0, 1, 2, 3, 4] [] rfl rfl (by decide) (by decide) hk1 hFc hP1 hD1
  generalize H1 = H at hP hS ⊢
  have hP := hP.sub (ws' := [(o, .inr (4, [.ref F, .ref G, .int lo, .int nw, .int se, .ref (pa 0), .ref an, .ref ln])), cE x xv, (x 7, .inl (cA 0, 4, .inl f)), (ln, .inr (0, [.ref vb'_3, .int 0, .int ml'_3, .int (nI ((lnT 0 f 4).length))])), (vb'_3, .inl (cA 2, nb'_3, .inl g'_3))]) [0, 1, 2, 3, 4] rfl
  have hD := hD.sub (ws' := [(o, .inr (4, [.ref F, .ref G, .int lo, .int nw, .int se, .ref (pa 0), .ref an, .ref ln])), cE x xv, (x 7, .inl (cA 0, 4, .inl f)), (ln, .inr (0, [.ref vb'_3, .int 0, .int ml'_3, .int (nI ((lnT 0 f 4).length))])), (vb'_3, .inl (cA 2, nb'_3, .inl g'_3))]) [0, 1, 2, 3, 4] (by decide) rfl
  clear hPc hDc hFc hP1 hD1 hk1 hz1
  refine W.widen (k := 14) (n := 449) (by omega) (by omega) ?_
  obtain ⟨hw_3_0, hw_3_1⟩ := hw
  obtain rfl := hw_3_1
  refine lv_goto (tgt := 73) hx hb dL_name_27 (by decide) ?_
  refine W.widen (k := 14) (n := 449) (by omega) (by omega) ?_
  exact W.iret (v := (nI (zLen.getD 0 0))) hx hb hr (fun t ht hW => ⟨⟨nI (zLen.getD 0 0), (vb'_3, ml'_3, nb'_3, g'_3), rfl, ⟨hw_3_0, rfl⟩, ⟨by rw [ht]; exact hP, by rw [hAe]; exact hD⟩⟩, hS.F ht⟩) hS.2.2 dL_name_73
set_option maxHeartbeats 4000000 in
set_option maxRecDepth 100000 in
theorem c_name_1 (l : Launch) (D : va_G) (cA : Nat → ClassId) (zv : Nat → Nat) (sz : Nat) (o F G : Nat) (lo nw se : Int32) (pa : Nat → Nat) (an ln : Nat) (x : Nat → Nat) (y0 : Nat) (n : Int32) (xv : Nat → Int32) (vb nb ct : Nat) (ml : Int32) (f g : Nat → Int32) (he : en n F G (x 0) y0) (hk0 : xv 0 = nI 1) (hok : ∀ j, j < 4 → okv (f j)) (hn : nb = 16 ∨ nb = 34) (hct : ct ≤ nb) (hfb : bfit nb g) : Met l yL_name wsL_name ({ frames := 9, cells := 14, slots := 449, locals := 222 }) (va_Pc [.ref o, .int n, .int 1] (zUX D cA zv sz [(o, .inr (4, [.ref F, .ref G, .int lo, .int nw, .int se, .ref (pa 0), .ref an, .ref ln])), cE x xv, (x 7, .inl (cA 0, 4, .inl f)), (ln, .inr (0, [.ref vb, .int 0, .int ml, .int (nI ct)])), (vb, .inl (cA 2, nb, .inl g))])) (va_Qi (fun (r : Int32) (u : (Nat × Int32 × Nat × (Nat → Int32))) => okL 1 f u.2.2.1 u.2.2.2 ∧ r = nI (zLen.getD 1 0)) (fun (u : (Nat × Int32 × Nat × (Nat → Int32))) t => zB D [(o, .inr (4, [.ref F, .ref G, .int lo, .int nw, .int se, .ref (pa 0), .ref an, .ref ln])), cE x xv, (x 7, .inl (cA 0, 4, .inl f)), (ln, .inr (0, [.ref vb, .int 0, .int ml, .int (nI ct)])), (vb, .inl (cA 2, nb, .inl g))] sz [(o, .inr (4, [.ref F, .ref G, .int lo, .int nw, .int se, .ref (pa 0), .ref an, .ref ln])), cE x xv, (x 7, .inl (cA 0, 4, .inl f)), (ln, .inr (0, [.ref u.1, .int 0, .int u.2.1, .int (nI ((lnT 1 f 4).length))])), (u.1, .inl (cA 2, u.2.2.1, .inl u.2.2.2))] t) (va_A [(o, .inr (4, [.ref F, .ref G, .int lo, .int nw, .int se, .ref (pa 0), .ref an, .ref ln])), cE x xv, (x 7, .inl (cA 0, 4, .inl f)), (ln, .inr (0, [.ref vb, .int 0, .int ml, .int (nI ct)])), (vb, .inl (cA 2, nb, .inl g))] sz)) 14 449 (va_A [(o, .inr (4, [.ref F, .ref G, .int lo, .int nw, .int se, .ref (pa 0), .ref an, .ref ln])), cE x xv, (x 7, .inl (cA 0, 4, .inl f)), (ln, .inr (0, [.ref vb, .int 0, .int ml, .int (nI ct)])), (vb, .inl (cA 2, nb, .inl g))] sz) := by
  refine Met.ofW (cc := cL_name) (maxL := 3) (ret := (some .int)) (by decide) rfl ?_
  intro p e s m args below meth c s₁ B hml hv
  obtain ⟨rfl, ⟨hsz, hP, hK, hD0, hE0⟩, hX0⟩ := hv
  have hx := B.exec
  have hb := B.bytes
  have hr := B.returns
  have hts := atoms_spec (ws := wsL_name) B.pre
  have hown : s.vm.findClass RL = some m.cls := findClass_of_methodNamed B.named
  have hlocks := B.notSynchronized
  subst hsz
  have hD := hD0.self (sz := s.heap.size)
  generalize hAe : va_A [(o, .inr (4, [.ref F, .ref G, .int lo, .int nw, .int se, .ref (pa 0), .ref an, .ref ln])), cE x xv, (x 7, .inl (cA 0, 4, .inl f)), (ln, .inr (0, [.ref vb, .int 0, .int ml, .int (nI ct)])), (vb, .inl (cA 2, nb, .inl g))] s.heap.size = A at hD hE0 hX0 ⊢
  have hA : ∀ q : Nat, s.heap.size ≤ q → A q := fun q h => by rw [← hAe]; exact Or.inr h
  have hS : va_S A s.heap s.heap [] := va_S.rf
  have hl := lv_entry ([.ref o, .int n, .int 1]) (n := 3) (Nat.le_of_ble_eq_true rfl)
  rw [lg_entry_eq]
  generalize (lg_sl ([.ref o, .int n, .int 1]) ++ List.replicate (3 - (lg_sl ([.ref o, .int n, .int 1])).length) Slot.unset).toArray = ls at hl ⊢
  have hl : lv_has ls 3 [(0, .ref o), (1, .int n), (2, .int 1)] := hl
  refine lv_iload_n hx hb dL_name_0 rfl (lv_at hl 2 rfl) ?_
  refine lv_iconst (v := 3) hx hb dL_name_1 (by decide) ?_
  refine lv_icmp_ge (tgt := 74) hx hb dL_name_2 (by decide) (fun c_1 => absurd c_1 (by decide)) (fun _ => ?_)
  refine lv_iload_n hx hb dL_name_5 rfl (lv_at hl 2 rfl) ?_
  refine lv_if_ne (tgt := 30) hx hb dL_name_6 (by decide) (fun _ => ?_) (fun c_2 => absurd c_2 (by decide))
  refine lv_iload_n hx hb dL_name_30 rfl (lv_at hl 2 rfl) ?_
  refine lv_iconst (v := 1) hx hb dL_name_31 (by decide) ?_
  refine lv_icmp_ne (tgt := 56) hx hb dL_name_32 (by decide) (fun c_3 => absurd c_3 (by decide)) (fun _ => ?_)
  refine lv_aload_n hx hb dL_name_35 rfl (lv_at hl 0 rfl) ?_
  refine lv_iload_n hx hb dL_name_36 rfl (lv_at hl 1 rfl) ?_
  refine lv_bipush (v := 97) hx hb dL_name_37 (by decide) ?_
  refine lv_bipush (v := 115) hx hb dL_name_39 (by decide) ?_
  refine lv_bipush (v := 107) hx hb dL_name_41 (by decide) ?_
  refine lv_bipush (v := 105) hx hb dL_name_43 (by decide) ?_
  refine lv_bipush (v := 110) hx hb dL_name_45 (by decide) ?_
  refine lv_bipush (v := 103) hx hb dL_name_47 (by decide) ?_
  refine lv_iconst (v := 0) hx hb dL_name_49 (by decide) ?_
  have hPc := hP.sub (ws' := [(o, .inr (4, [.ref F, .ref G, .int lo, .int nw, .int se, .ref (pa 0), .ref an, .ref ln])), cE x xv, (x 7, .inl (cA 0, 4, .inl f)), (ln, .inr (0, [.ref vb, .int 0, .int ml, .int (nI ct)])), (vb, .inl (cA 2, nb, .inl g))]) [0, 1, 2, 3, 4] rfl
  have hDc := hD.sub (ws' := [(o, .inr (4, [.ref F, .ref G, .int lo, .int nw, .int se, .ref (pa 0), .ref an, .ref ln])), cE x xv, (x 7, .inl (cA 0, 4, .inl f)), (ln, .inr (0, [.ref vb, .int 0, .int ml, .int (nI ct)])), (vb, .inl (cA 2, nb, .inl g))]) [0, 1, 2, 3, 4] (by decide) rfl
  have hFc := va_free (wc := [(o, .inr (4, [.ref F, .ref G, .int lo, .int nw, .int se, .ref (pa 0), .ref an, .ref ln])), cE x xv, (x 7, .inl (cA 0, 4, .inl f)), (ln, .inr (0, [.ref vb, .int 0, .int ml, .int (nI ct)])), (vb, .inl (cA 2, nb, .inl g))]) hD hS hA [0, 1, 2, 3, 4] rfl
  refine va_calli (va_runS (As := [.ref o, .int n, .int 97, .int 115, .int 107, .int 105, .int 110, .int 103, .int 0]) (rest := []) ⟨hx, hb, hml, hown, hts⟩ (c_L_begins l D cA zv s.heap.size o F G lo nw se pa an ln x y0 n xv 1 vb nb ct ml f g 97 115 107 105 110 103 0 he (by decide) hk0 hok hn hct hfb (by decide +kernel) (by decide +kernel)) (va_cwS 9 hts gL_name_L_begins rfl rfl rfl (by decide +kernel) ⟨Nat.le_of_ble_eq_true rfl, Nat.le_of_ble_eq_true rfl⟩) ⟨zUX_blind, fun U hU hW => ⟨rfl, zUX_call hE0 hX0 hS hFc hU hPc hW hK hDc⟩⟩ rfl rfl hl.1 rfl (lv_room (Nat.le_of_ble_eq_true rfl)) dL_name_50 ⟨Nat.le_of_ble_eq_true rfl, Nat.le_of_ble_eq_true rfl⟩) hS (fun q _ h => hFc q h) hFc (fun zr u t H1 locs ht hvm hw hB hz1 hk1 hS => ?_)
  obtain ⟨vb'_4, ml'_4, nb'_4, g'_4⟩ := u
  obtain ⟨hP1, hD1⟩ := hB
  rw [ht] at hP1
  try dsimp only at hw hP1 hD1
  obtain ⟨hP, hD⟩ := va_join (wr := []) (w1 := [(o, .inr (4, [.ref F, .ref G, .int lo, .int nw, .int se, .ref (pa 0), .ref an, .ref ln])), cE x xv, (x 7, .inl (cA 0, 4, .inl f)), (ln, .inr (0, [.ref vb'_4, .int 0, .int ml'_4, .int (nI ((lnT 1 f 4).length))])), (vb'_4, .inl (cA 2, nb'_4, .inl g'_4))]) hP hD [0, 1, 2, 3, 4] [] rfl rfl (by decide) (by decide) hk1 hFc hP1 hD1
  generalize H1 = H at hP hS ⊢
  have hP := hP.sub (ws' := [(o, .inr (4, [.ref F, .ref G, .int lo, .int nw, .int se, .ref (pa 0), .ref an, .ref ln])), cE x xv, (x 7, .inl (cA 0, 4, .inl f)), (ln, .inr (0, [.ref vb'_4, .int 0, .int ml'_4, .int (nI ((lnT 1 f 4).length))])), (vb'_4, .inl (cA 2, nb'_4, .inl g'_4))]) [0, 1, 2, 3, 4] rfl
  have hD := hD.sub (ws' := [(o, .inr (4, [.ref F, .ref G, .int lo, .int nw, .int se, .ref (pa 0), .ref an, .ref ln])), cE x xv, (x 7, .inl (cA 0, 4, .inl f)), (ln, .inr (0, [.ref vb'_4, .int 0, .int ml'_4, .int (nI ((lnT 1 f 4).length))])), (vb'_4, .inl (cA 2, nb'_4, .inl g'_4))]) [0, 1, 2, 3, 4] (by decide) rfl
  clear hPc hDc hFc hP1 hD1 hk1 hz1
  refine W.widen (k := 14) (n := 449) (by omega) (by omega) ?_
  obtain ⟨hw_4_0, hw_4_1⟩ := hw
  obtain rfl := hw_4_1
  refine lv_goto (tgt := 73) hx hb dL_name_53 (by decide) ?_
  refine W.widen (k := 14) (n := 449) (by omega) (by omega) ?_
  exact W.iret (v := (nI (zLen.getD 1 0))) hx hb hr (fun t ht hW => ⟨⟨nI (zLen.getD 1 0), (vb'_4, ml'_4, nb'_4, g'_4), rfl, ⟨hw_4_0, rfl⟩, ⟨by rw [ht]; exact hP, by rw [hAe]; exact hD⟩⟩, hS.F ht⟩) hS.2.2 dL_name_73
set_option maxHeartbeats 4000000 in
set_option maxRecDepth 100000 in
theorem c_name_2 (l : Launch) (D : va_G) (cA : Nat → ClassId) (zv : Nat → Nat) (sz : Nat) (o F G : Nat) (lo nw se : Int32) (pa : Nat → Nat) (an ln : Nat) (x : Nat → Nat) (y0 : Nat) (n : Int32) (xv : Nat → Int32) (vb nb ct : Nat) (ml : Int32) (f g : Nat → Int32) (he : en n F G (x 0) y0) (hk0 : xv 0 = nI 2) (hok : ∀ j, j < 4 → okv (f j)) (hn : nb = 16 ∨ nb = 34) (hct : ct ≤ nb) (hfb : bfit nb g) : Met l yL_name wsL_name ({ frames := 9, cells := 14, slots := 449, locals := 222 }) (va_Pc [.ref o, .int n, .int 2] (zUX D cA zv sz [(o, .inr (4, [.ref F, .ref G, .int lo, .int nw, .int se, .ref (pa 0), .ref an, .ref ln])), cE x xv, (x 7, .inl (cA 0, 4, .inl f)), (ln, .inr (0, [.ref vb, .int 0, .int ml, .int (nI ct)])), (vb, .inl (cA 2, nb, .inl g))])) (va_Qi (fun (r : Int32) (u : (Nat × Int32 × Nat × (Nat → Int32))) => okL 2 f u.2.2.1 u.2.2.2 ∧ r = nI (zLen.getD 2 0)) (fun (u : (Nat × Int32 × Nat × (Nat → Int32))) t => zB D [(o, .inr (4, [.ref F, .ref G, .int lo, .int nw, .int se, .ref (pa 0), .ref an, .ref ln])), cE x xv, (x 7, .inl (cA 0, 4, .inl f)), (ln, .inr (0, [.ref vb, .int 0, .int ml, .int (nI ct)])), (vb, .inl (cA 2, nb, .inl g))] sz [(o, .inr (4, [.ref F, .ref G, .int lo, .int nw, .int se, .ref (pa 0), .ref an, .ref ln])), cE x xv, (x 7, .inl (cA 0, 4, .inl f)), (ln, .inr (0, [.ref u.1, .int 0, .int u.2.1, .int (nI ((lnT 2 f 4).length))])), (u.1, .inl (cA 2, u.2.2.1, .inl u.2.2.2))] t) (va_A [(o, .inr (4, [.ref F, .ref G, .int lo, .int nw, .int se, .ref (pa 0), .ref an, .ref ln])), cE x xv, (x 7, .inl (cA 0, 4, .inl f)), (ln, .inr (0, [.ref vb, .int 0, .int ml, .int (nI ct)])), (vb, .inl (cA 2, nb, .inl g))] sz)) 14 449 (va_A [(o, .inr (4, [.ref F, .ref G, .int lo, .int nw, .int se, .ref (pa 0), .ref an, .ref ln])), cE x xv, (x 7, .inl (cA 0, 4, .inl f)), (ln, .inr (0, [.ref vb, .int 0, .int ml, .int (nI ct)])), (vb, .inl (cA 2, nb, .inl g))] sz) := by
  refine Met.ofW (cc := cL_name) (maxL := 3) (ret := (some .int)) (by decide) rfl ?_
  intro p e s m args below meth c s₁ B hml hv
  obtain ⟨rfl, ⟨hsz, hP, hK, hD0, hE0⟩, hX0⟩ := hv
  have hx := B.exec
  have hb := B.bytes
  have hr := B.returns
  have hts := atoms_spec (ws := wsL_name) B.pre
  have hown : s.vm.findClass RL = some m.cls := findClass_of_methodNamed B.named
  have hlocks := B.notSynchronized
  subst hsz
  have hD := hD0.self (sz := s.heap.size)
  generalize hAe : va_A [(o, .inr (4, [.ref F, .ref G, .int lo, .int nw, .int se, .ref (pa 0), .ref an, .ref ln])), cE x xv, (x 7, .inl (cA 0, 4, .inl f)), (ln, .inr (0, [.ref vb, .int 0, .int ml, .int (nI ct)])), (vb, .inl (cA 2, nb, .inl g))] s.heap.size = A at hD hE0 hX0 ⊢
  have hA : ∀ q : Nat, s.heap.size ≤ q → A q := fun q h => by rw [← hAe]; exact Or.inr h
  have hS : va_S A s.heap s.heap [] := va_S.rf
  have hl := lv_entry ([.ref o, .int n, .int 2]) (n := 3) (Nat.le_of_ble_eq_true rfl)
  rw [lg_entry_eq]
  generalize (lg_sl ([.ref o, .int n, .int 2]) ++ List.replicate (3 - (lg_sl ([.ref o, .int n, .int 2])).length) Slot.unset).toArray = ls at hl ⊢
  have hl : lv_has ls 3 [(0, .ref o), (1, .int n), (2, .int 2)] := hl
  refine lv_iload_n hx hb dL_name_0 rfl (lv_at hl 2 rfl) ?_
  refine lv_iconst (v := 3) hx hb dL_name_1 (by decide) ?_
  refine lv_icmp_ge (tgt := 74) hx hb dL_name_2 (by decide) (fun c_1 => absurd c_1 (by decide)) (fun _ => ?_)
  refine lv_iload_n hx hb dL_name_5 rfl (lv_at hl 2 rfl) ?_
  refine lv_if_ne (tgt := 30) hx hb dL_name_6 (by decide) (fun _ => ?_) (fun c_2 => absurd c_2 (by decide))
  refine lv_iload_n hx hb dL_name_30 rfl (lv_at hl 2 rfl) ?_
  refine lv_iconst (v := 1) hx hb dL_name_31 (by decide) ?_
  refine lv_icmp_ne (tgt := 56) hx hb dL_name_32 (by decide) (fun _ => ?_) (fun c_3 => absurd c_3 (by decide))
  refine lv_aload_n hx hb dL_name_56 rfl (lv_at hl 0 rfl) ?_
  refine lv_iload_n hx hb dL_name_57 rfl (lv_at hl 1 rfl) ?_
  refine lv_bipush (v := 104) hx hb dL_name_58 (by decide) ?_
  refine lv_bipush (v := 101) hx hb dL_name_60 (by decide) ?_
  refine lv_bipush (v := 97) hx hb dL_name_62 (by decide) ?_
  refine lv_bipush (v := 114) hx hb dL_name_64 (by decide) ?_
  refine lv_bipush (v := 100) hx hb dL_name_66 (by decide) ?_
  refine lv_iconst (v := 0) hx hb dL_name_68 (by decide) ?_
  refine lv_iconst (v := 0) hx hb dL_name_69 (by decide) ?_
  have hPc := hP.sub (ws' := [(o, .inr (4, [.ref F, .ref G, .int lo, .int nw, .int se, .ref (pa 0), .ref an, .ref ln])), cE x xv, (x 7, .inl (cA 0, 4, .inl f)), (ln, .inr (0, [.ref vb, .int 0, .int ml, .int (nI ct)])), (vb, .inl (cA 2, nb, .inl g))]) [0, 1, 2, 3, 4] rfl
  have hDc := hD.sub (ws' := [(o, .inr (4, [.ref F, .ref G, .int lo, .int nw, .int se, .ref (pa 0), .ref an, .ref ln])), cE x xv, (x 7, .inl (cA 0, 4, .inl f)), (ln, .inr (0, [.ref vb, .int 0, .int ml, .int (nI ct)])), (vb, .inl (cA 2, nb, .inl g))]) [0, 1, 2, 3, 4] (by decide) rfl
  have hFc := va_free (wc := [(o, .inr (4, [.ref F, .ref G, .int lo, .int nw, .int se, .ref (pa 0), .ref an, .ref ln])), cE x xv, (x 7, .inl (cA 0, 4, .inl f)), (ln, .inr (0, [.ref vb, .int 0, .int ml, .int (nI ct)])), (vb, .inl (cA 2, nb, .inl g))]) hD hS hA [0, 1, 2, 3, 4] rfl
  refine va_calli (va_runS (As := [.ref o, .int n, .int 104, .int 101, .int 97, .int 114, .int 100, .int 0, .int 0]) (rest := []) ⟨hx, hb, hml, hown, hts⟩ (c_L_begins l D cA zv s.heap.size o F G lo nw se pa an ln x y0 n xv 2 vb nb ct ml f g 104 101 97 114 100 0 0 he (by decide) hk0 hok hn hct hfb (by decide +kernel) (by decide +kernel)) (va_cwS 9 hts gL_name_L_begins rfl rfl rfl (by decide +kernel) ⟨Nat.le_of_ble_eq_true rfl, Nat.le_of_ble_eq_true rfl⟩) ⟨zUX_blind, fun U hU hW => ⟨rfl, zUX_call hE0 hX0 hS hFc hU hPc hW hK hDc⟩⟩ rfl rfl hl.1 rfl (lv_room (Nat.le_of_ble_eq_true rfl)) dL_name_70 ⟨Nat.le_of_ble_eq_true rfl, Nat.le_of_ble_eq_true rfl⟩) hS (fun q _ h => hFc q h) hFc (fun zr u t H1 locs ht hvm hw hB hz1 hk1 hS => ?_)
  obtain ⟨vb'_4, ml'_4, nb'_4, g'_4⟩ := u
  obtain ⟨hP1, hD1⟩ := hB
  rw [ht] at hP1
  try dsimp only at hw hP1 hD1
  obtain ⟨hP, hD⟩ := va_join (wr := []) (w1 := [(o, .inr (4, [.ref F, .ref G, .int lo, .int nw, .int se, .ref (pa 0), .ref an, .ref ln])), cE x xv, (x 7, .inl (cA 0, 4, .inl f)), (ln, .inr (0, [.ref vb'_4, .int 0, .int ml'_4, .int (nI ((lnT 2 f 4).length))])), (vb'_4, .inl (cA 2, nb'_4, .inl g'_4))]) hP hD [0, 1, 2, 3, 4] [] rfl rfl (by decide) (by decide) hk1 hFc hP1 hD1
  generalize H1 = H at hP hS ⊢
  have hP := hP.sub (ws' := [(o, .inr (4, [.ref F, .ref G, .int lo, .int nw, .int se, .ref (pa 0), .ref an, .ref ln])), cE x xv, (x 7, .inl (cA 0, 4, .inl f)), (ln, .inr (0, [.ref vb'_4, .int 0, .int ml'_4, .int (nI ((lnT 2 f 4).length))])), (vb'_4, .inl (cA 2, nb'_4, .inl g'_4))]) [0, 1, 2, 3, 4] rfl
  have hD := hD.sub (ws' := [(o, .inr (4, [.ref F, .ref G, .int lo, .int nw, .int se, .ref (pa 0), .ref an, .ref ln])), cE x xv, (x 7, .inl (cA 0, 4, .inl f)), (ln, .inr (0, [.ref vb'_4, .int 0, .int ml'_4, .int (nI ((lnT 2 f 4).length))])), (vb'_4, .inl (cA 2, nb'_4, .inl g'_4))]) [0, 1, 2, 3, 4] (by decide) rfl
  clear hPc hDc hFc hP1 hD1 hk1 hz1
  refine W.widen (k := 14) (n := 449) (by omega) (by omega) ?_
  obtain ⟨hw_4_0, hw_4_1⟩ := hw
  obtain rfl := hw_4_1
  refine W.widen (k := 14) (n := 449) (by omega) (by omega) ?_
  exact W.iret (v := (nI (zLen.getD 2 0))) hx hb hr (fun t ht hW => ⟨⟨nI (zLen.getD 2 0), (vb'_4, ml'_4, nb'_4, g'_4), rfl, ⟨hw_4_0, rfl⟩, ⟨by rw [ht]; exact hP, by rw [hAe]; exact hD⟩⟩, hS.F ht⟩) hS.2.2 dL_name_73
set_option maxHeartbeats 4000000 in
set_option maxRecDepth 100000 in
theorem c_name_3 (l : Launch) (D : va_G) (cA : Nat → ClassId) (zv : Nat → Nat) (sz : Nat) (o F G : Nat) (lo nw se : Int32) (pa : Nat → Nat) (an ln : Nat) (x : Nat → Nat) (y0 : Nat) (n : Int32) (xv : Nat → Int32) (vb nb ct : Nat) (ml : Int32) (f g : Nat → Int32) (he : en n F G (x 0) y0) (hk0 : xv 0 = nI 3) (hok : ∀ j, j < 4 → okv (f j)) (hn : nb = 16 ∨ nb = 34) (hct : ct ≤ nb) (hfb : bfit nb g) : Met l yL_name wsL_name ({ frames := 9, cells := 14, slots := 449, locals := 222 }) (va_Pc [.ref o, .int n, .int 3] (zUX D cA zv sz [(o, .inr (4, [.ref F, .ref G, .int lo, .int nw, .int se, .ref (pa 0), .ref an, .ref ln])), cE x xv, (x 7, .inl (cA 0, 4, .inl f)), (ln, .inr (0, [.ref vb, .int 0, .int ml, .int (nI ct)])), (vb, .inl (cA 2, nb, .inl g))])) (va_Qi (fun (r : Int32) (u : (Nat × Int32 × Nat × (Nat → Int32))) => okL 3 f u.2.2.1 u.2.2.2 ∧ r = nI (zLen.getD 3 0)) (fun (u : (Nat × Int32 × Nat × (Nat → Int32))) t => zB D [(o, .inr (4, [.ref F, .ref G, .int lo, .int nw, .int se, .ref (pa 0), .ref an, .ref ln])), cE x xv, (x 7, .inl (cA 0, 4, .inl f)), (ln, .inr (0, [.ref vb, .int 0, .int ml, .int (nI ct)])), (vb, .inl (cA 2, nb, .inl g))] sz [(o, .inr (4, [.ref F, .ref G, .int lo, .int nw, .int se, .ref (pa 0), .ref an, .ref ln])), cE x xv, (x 7, .inl (cA 0, 4, .inl f)), (ln, .inr (0, [.ref u.1, .int 0, .int u.2.1, .int (nI ((lnT 3 f 4).length))])), (u.1, .inl (cA 2, u.2.2.1, .inl u.2.2.2))] t) (va_A [(o, .inr (4, [.ref F, .ref G, .int lo, .int nw, .int se, .ref (pa 0), .ref an, .ref ln])), cE x xv, (x 7, .inl (cA 0, 4, .inl f)), (ln, .inr (0, [.ref vb, .int 0, .int ml, .int (nI ct)])), (vb, .inl (cA 2, nb, .inl g))] sz)) 14 449 (va_A [(o, .inr (4, [.ref F, .ref G, .int lo, .int nw, .int se, .ref (pa 0), .ref an, .ref ln])), cE x xv, (x 7, .inl (cA 0, 4, .inl f)), (ln, .inr (0, [.ref vb, .int 0, .int ml, .int (nI ct)])), (vb, .inl (cA 2, nb, .inl g))] sz) := by
  refine Met.ofW (cc := cL_name) (maxL := 3) (ret := (some .int)) (by decide) rfl ?_
  intro p e s m args below meth c s₁ B hml hv
  obtain ⟨rfl, ⟨hsz, hP, hK, hD0, hE0⟩, hX0⟩ := hv
  have hx := B.exec
  have hb := B.bytes
  have hr := B.returns
  have hts := atoms_spec (ws := wsL_name) B.pre
  have hown : s.vm.findClass RL = some m.cls := findClass_of_methodNamed B.named
  have hlocks := B.notSynchronized
  subst hsz
  have hD := hD0.self (sz := s.heap.size)
  generalize hAe : va_A [(o, .inr (4, [.ref F, .ref G, .int lo, .int nw, .int se, .ref (pa 0), .ref an, .ref ln])), cE x xv, (x 7, .inl (cA 0, 4, .inl f)), (ln, .inr (0, [.ref vb, .int 0, .int ml, .int (nI ct)])), (vb, .inl (cA 2, nb, .inl g))] s.heap.size = A at hD hE0 hX0 ⊢
  have hA : ∀ q : Nat, s.heap.size ≤ q → A q := fun q h => by rw [← hAe]; exact Or.inr h
  have hS : va_S A s.heap s.heap [] := va_S.rf
  have hl := lv_entry ([.ref o, .int n, .int 3]) (n := 3) (Nat.le_of_ble_eq_true rfl)
  rw [lg_entry_eq]
  generalize (lg_sl ([.ref o, .int n, .int 3]) ++ List.replicate (3 - (lg_sl ([.ref o, .int n, .int 3])).length) Slot.unset).toArray = ls at hl ⊢
  have hl : lv_has ls 3 [(0, .ref o), (1, .int n), (2, .int 3)] := hl
  refine lv_iload_n hx hb dL_name_0 rfl (lv_at hl 2 rfl) ?_
  refine lv_iconst (v := 3) hx hb dL_name_1 (by decide) ?_
  refine lv_icmp_ge (tgt := 74) hx hb dL_name_2 (by decide) (fun _ => ?_) (fun c_1 => absurd c_1 (by decide))
  refine lv_iload_n hx hb dL_name_74 rfl (lv_at hl 2 rfl) ?_
  refine lv_iconst (v := 5) hx hb dL_name_75 (by decide) ?_
  refine lv_icmp_ge (tgt := 122) hx hb dL_name_76 (by decide) (fun c_2 => absurd c_2 (by decide)) (fun _ => ?_)
  refine lv_iload_n hx hb dL_name_79 rfl (lv_at hl 2 rfl) ?_
  refine lv_iconst (v := 3) hx hb dL_name_80 (by decide) ?_
  refine lv_icmp_ne (tgt := 103) hx hb dL_name_81 (by decide) (fun c_3 => absurd c_3 (by decide)) (fun _ => ?_)
  refine lv_aload_n hx hb dL_name_84 rfl (lv_at hl 0 rfl) ?_
  refine lv_iload_n hx hb dL_name_85 rfl (lv_at hl 1 rfl) ?_
  refine lv_bipush (v := 116) hx hb dL_name_86 (by decide) ?_
  refine lv_bipush (v := 111) hx hb dL_name_88 (by decide) ?_
  refine lv_bipush (v := 108) hx hb dL_name_90 (by decide) ?_
  refine lv_bipush (v := 100) hx hb dL_name_92 (by decide) ?_
  refine lv_iconst (v := 0) hx hb dL_name_94 (by decide) ?_
  refine lv_iconst (v := 0) hx hb dL_name_95 (by decide) ?_
  refine lv_iconst (v := 0) hx hb dL_name_96 (by decide) ?_
  have hPc := hP.sub (ws' := [(o, .inr (4, [.ref F, .ref G, .int lo, .int nw, .int se, .ref (pa 0), .ref an, .ref ln])), cE x xv, (x 7, .inl (cA 0, 4, .inl f)), (ln, .inr (0, [.ref vb, .int 0, .int ml, .int (nI ct)])), (vb, .inl (cA 2, nb, .inl g))]) [0, 1, 2, 3, 4] rfl
  have hDc := hD.sub (ws' := [(o, .inr (4, [.ref F, .ref G, .int lo, .int nw, .int se, .ref (pa 0), .ref an, .ref ln])), cE x xv, (x 7, .inl (cA 0, 4, .inl f)), (ln, .inr (0, [.ref vb, .int 0, .int ml, .int (nI ct)])), (vb, .inl (cA 2, nb, .inl g))]) [0, 1, 2, 3, 4] (by decide) rfl
  have hFc := va_free (wc := [(o, .inr (4, [.ref F, .ref G, .int lo, .int nw, .int se, .ref (pa 0), .ref an, .ref ln])), cE x xv, (x 7, .inl (cA 0, 4, .inl f)), (ln, .inr (0, [.ref vb, .int 0, .int ml, .int (nI ct)])), (vb, .inl (cA 2, nb, .inl g))]) hD hS hA [0, 1, 2, 3, 4] rfl
  refine va_calli (va_runS (As := [.ref o, .int n, .int 116, .int 111, .int 108, .int 100, .int 0, .int 0, .int 0]) (rest := []) ⟨hx, hb, hml, hown, hts⟩ (c_L_begins l D cA zv s.heap.size o F G lo nw se pa an ln x y0 n xv 3 vb nb ct ml f g 116 111 108 100 0 0 0 he (by decide) hk0 hok hn hct hfb (by decide +kernel) (by decide +kernel)) (va_cwS 9 hts gL_name_L_begins rfl rfl rfl (by decide +kernel) ⟨Nat.le_of_ble_eq_true rfl, Nat.le_of_ble_eq_true rfl⟩) ⟨zUX_blind, fun U hU hW => ⟨rfl, zUX_call hE0 hX0 hS hFc hU hPc hW hK hDc⟩⟩ rfl rfl hl.1 rfl (lv_room (Nat.le_of_ble_eq_true rfl)) dL_name_97 ⟨Nat.le_of_ble_eq_true rfl, Nat.le_of_ble_eq_true rfl⟩) hS (fun q _ h => hFc q h) hFc (fun zr u t H1 locs ht hvm hw hB hz1 hk1 hS => ?_)
  obtain ⟨vb'_4, ml'_4, nb'_4, g'_4⟩ := u
  obtain ⟨hP1, hD1⟩ := hB
  rw [ht] at hP1
  try dsimp only at hw hP1 hD1
  obtain ⟨hP, hD⟩ := va_join (wr := []) (w1 := [(o, .inr (4, [.ref F, .ref G, .int lo, .int nw, .int se, .ref (pa 0), .ref an, .ref ln])), cE x xv, (x 7, .inl (cA 0, 4, .inl f)), (ln, .inr (0, [.ref vb'_4, .int 0, .int ml'_4, .int (nI ((lnT 3 f 4).length))])), (vb'_4, .inl (cA 2, nb'_4, .inl g'_4))]) hP hD [0, 1, 2, 3, 4] [] rfl rfl (by decide) (by decide) hk1 hFc hP1 hD1
  generalize H1 = H at hP hS ⊢
  have hP := hP.sub (ws' := [(o, .inr (4, [.ref F, .ref G, .int lo, .int nw, .int se, .ref (pa 0), .ref an, .ref ln])), cE x xv, (x 7, .inl (cA 0, 4, .inl f)), (ln, .inr (0, [.ref vb'_4, .int 0, .int ml'_4, .int (nI ((lnT 3 f 4).length))])), (vb'_4, .inl (cA 2, nb'_4, .inl g'_4))]) [0, 1, 2, 3, 4] rfl
  have hD := hD.sub (ws' := [(o, .inr (4, [.ref F, .ref G, .int lo, .int nw, .int se, .ref (pa 0), .ref an, .ref ln])), cE x xv, (x 7, .inl (cA 0, 4, .inl f)), (ln, .inr (0, [.ref vb'_4, .int 0, .int ml'_4, .int (nI ((lnT 3 f 4).length))])), (vb'_4, .inl (cA 2, nb'_4, .inl g'_4))]) [0, 1, 2, 3, 4] (by decide) rfl
  clear hPc hDc hFc hP1 hD1 hk1 hz1
  refine W.widen (k := 14) (n := 449) (by omega) (by omega) ?_
  obtain ⟨hw_4_0, hw_4_1⟩ := hw
  obtain rfl := hw_4_1
  refine lv_goto (tgt := 121) hx hb dL_name_100 (by decide) ?_
  refine W.widen (k := 14) (n := 449) (by omega) (by omega) ?_
  exact W.iret (v := (nI (zLen.getD 3 0))) hx hb hr (fun t ht hW => ⟨⟨nI (zLen.getD 3 0), (vb'_4, ml'_4, nb'_4, g'_4), rfl, ⟨hw_4_0, rfl⟩, ⟨by rw [ht]; exact hP, by rw [hAe]; exact hD⟩⟩, hS.F ht⟩) hS.2.2 dL_name_121
set_option maxHeartbeats 4000000 in
set_option maxRecDepth 100000 in
theorem c_name_4 (l : Launch) (D : va_G) (cA : Nat → ClassId) (zv : Nat → Nat) (sz : Nat) (o F G : Nat) (lo nw se : Int32) (pa : Nat → Nat) (an ln : Nat) (x : Nat → Nat) (y0 : Nat) (n : Int32) (xv : Nat → Int32) (vb nb ct : Nat) (ml : Int32) (f g : Nat → Int32) (he : en n F G (x 0) y0) (hk0 : xv 0 = nI 4) (hok : ∀ j, j < 4 → okv (f j)) (hn : nb = 16 ∨ nb = 34) (hct : ct ≤ nb) (hfb : bfit nb g) : Met l yL_name wsL_name ({ frames := 9, cells := 14, slots := 449, locals := 222 }) (va_Pc [.ref o, .int n, .int 4] (zUX D cA zv sz [(o, .inr (4, [.ref F, .ref G, .int lo, .int nw, .int se, .ref (pa 0), .ref an, .ref ln])), cE x xv, (x 7, .inl (cA 0, 4, .inl f)), (ln, .inr (0, [.ref vb, .int 0, .int ml, .int (nI ct)])), (vb, .inl (cA 2, nb, .inl g))])) (va_Qi (fun (r : Int32) (u : (Nat × Int32 × Nat × (Nat → Int32))) => okL 4 f u.2.2.1 u.2.2.2 ∧ r = nI (zLen.getD 4 0)) (fun (u : (Nat × Int32 × Nat × (Nat → Int32))) t => zB D [(o, .inr (4, [.ref F, .ref G, .int lo, .int nw, .int se, .ref (pa 0), .ref an, .ref ln])), cE x xv, (x 7, .inl (cA 0, 4, .inl f)), (ln, .inr (0, [.ref vb, .int 0, .int ml, .int (nI ct)])), (vb, .inl (cA 2, nb, .inl g))] sz [(o, .inr (4, [.ref F, .ref G, .int lo, .int nw, .int se, .ref (pa 0), .ref an, .ref ln])), cE x xv, (x 7, .inl (cA 0, 4, .inl f)), (ln, .inr (0, [.ref u.1, .int 0, .int u.2.1, .int (nI ((lnT 4 f 4).length))])), (u.1, .inl (cA 2, u.2.2.1, .inl u.2.2.2))] t) (va_A [(o, .inr (4, [.ref F, .ref G, .int lo, .int nw, .int se, .ref (pa 0), .ref an, .ref ln])), cE x xv, (x 7, .inl (cA 0, 4, .inl f)), (ln, .inr (0, [.ref vb, .int 0, .int ml, .int (nI ct)])), (vb, .inl (cA 2, nb, .inl g))] sz)) 14 449 (va_A [(o, .inr (4, [.ref F, .ref G, .int lo, .int nw, .int se, .ref (pa 0), .ref an, .ref ln])), cE x xv, (x 7, .inl (cA 0, 4, .inl f)), (ln, .inr (0, [.ref vb, .int 0, .int ml, .int (nI ct)])), (vb, .inl (cA 2, nb, .inl g))] sz) := by
  refine Met.ofW (cc := cL_name) (maxL := 3) (ret := (some .int)) (by decide) rfl ?_
  intro p e s m args below meth c s₁ B hml hv
  obtain ⟨rfl, ⟨hsz, hP, hK, hD0, hE0⟩, hX0⟩ := hv
  have hx := B.exec
  have hb := B.bytes
  have hr := B.returns
  have hts := atoms_spec (ws := wsL_name) B.pre
  have hown : s.vm.findClass RL = some m.cls := findClass_of_methodNamed B.named
  have hlocks := B.notSynchronized
  subst hsz
  have hD := hD0.self (sz := s.heap.size)
  generalize hAe : va_A [(o, .inr (4, [.ref F, .ref G, .int lo, .int nw, .int se, .ref (pa 0), .ref an, .ref ln])), cE x xv, (x 7, .inl (cA 0, 4, .inl f)), (ln, .inr (0, [.ref vb, .int 0, .int ml, .int (nI ct)])), (vb, .inl (cA 2, nb, .inl g))] s.heap.size = A at hD hE0 hX0 ⊢
  have hA : ∀ q : Nat, s.heap.size ≤ q → A q := fun q h => by rw [← hAe]; exact Or.inr h
  have hS : va_S A s.heap s.heap [] := va_S.rf
  have hl := lv_entry ([.ref o, .int n, .int 4]) (n := 3) (Nat.le_of_ble_eq_true rfl)
  rw [lg_entry_eq]
  generalize (lg_sl ([.ref o, .int n, .int 4]) ++ List.replicate (3 - (lg_sl ([.ref o, .int n, .int 4])).length) Slot.unset).toArray = ls at hl ⊢
  have hl : lv_has ls 3 [(0, .ref o), (1, .int n), (2, .int 4)] := hl
  refine lv_iload_n hx hb dL_name_0 rfl (lv_at hl 2 rfl) ?_
  refine lv_iconst (v := 3) hx hb dL_name_1 (by decide) ?_
  refine lv_icmp_ge (tgt := 74) hx hb dL_name_2 (by decide) (fun _ => ?_) (fun c_1 => absurd c_1 (by decide))
  refine lv_iload_n hx hb dL_name_74 rfl (lv_at hl 2 rfl) ?_
  refine lv_iconst (v := 5) hx hb dL_name_75 (by decide) ?_
  refine lv_icmp_ge (tgt := 122) hx hb dL_name_76 (by decide) (fun c_2 => absurd c_2 (by decide)) (fun _ => ?_)
  refine lv_iload_n hx hb dL_name_79 rfl (lv_at hl 2 rfl) ?_
  refine lv_iconst (v := 3) hx hb dL_name_80 (by decide) ?_
  refine lv_icmp_ne (tgt := 103) hx hb dL_name_81 (by decide) (fun _ => ?_) (fun c_3 => absurd c_3 (by decide))
  refine lv_aload_n hx hb dL_name_103 rfl (lv_at hl 0 rfl) ?_
  refine lv_iload_n hx hb dL_name_104 rfl (lv_at hl 1 rfl) ?_
  refine lv_bipush (v := 111) hx hb dL_name_105 (by decide) ?_
  refine lv_bipush (v := 112) hx hb dL_name_107 (by decide) ?_
  refine lv_bipush (v := 101) hx hb dL_name_109 (by decide) ?_
  refine lv_bipush (v := 110) hx hb dL_name_111 (by decide) ?_
  refine lv_bipush (v := 101) hx hb dL_name_113 (by decide) ?_
  refine lv_bipush (v := 100) hx hb dL_name_115 (by decide) ?_
  refine lv_iconst (v := 0) hx hb dL_name_117 (by decide) ?_
  have hPc := hP.sub (ws' := [(o, .inr (4, [.ref F, .ref G, .int lo, .int nw, .int se, .ref (pa 0), .ref an, .ref ln])), cE x xv, (x 7, .inl (cA 0, 4, .inl f)), (ln, .inr (0, [.ref vb, .int 0, .int ml, .int (nI ct)])), (vb, .inl (cA 2, nb, .inl g))]) [0, 1, 2, 3, 4] rfl
  have hDc := hD.sub (ws' := [(o, .inr (4, [.ref F, .ref G, .int lo, .int nw, .int se, .ref (pa 0), .ref an, .ref ln])), cE x xv, (x 7, .inl (cA 0, 4, .inl f)), (ln, .inr (0, [.ref vb, .int 0, .int ml, .int (nI ct)])), (vb, .inl (cA 2, nb, .inl g))]) [0, 1, 2, 3, 4] (by decide) rfl
  have hFc := va_free (wc := [(o, .inr (4, [.ref F, .ref G, .int lo, .int nw, .int se, .ref (pa 0), .ref an, .ref ln])), cE x xv, (x 7, .inl (cA 0, 4, .inl f)), (ln, .inr (0, [.ref vb, .int 0, .int ml, .int (nI ct)])), (vb, .inl (cA 2, nb, .inl g))]) hD hS hA [0, 1, 2, 3, 4] rfl
  refine va_calli (va_runS (As := [.ref o, .int n, .int 111, .int 112, .int 101, .int 110, .int 101, .int 100, .int 0]) (rest := []) ⟨hx, hb, hml, hown, hts⟩ (c_L_begins l D cA zv s.heap.size o F G lo nw se pa an ln x y0 n xv 4 vb nb ct ml f g 111 112 101 110 101 100 0 he (by decide) hk0 hok hn hct hfb (by decide +kernel) (by decide +kernel)) (va_cwS 9 hts gL_name_L_begins rfl rfl rfl (by decide +kernel) ⟨Nat.le_of_ble_eq_true rfl, Nat.le_of_ble_eq_true rfl⟩) ⟨zUX_blind, fun U hU hW => ⟨rfl, zUX_call hE0 hX0 hS hFc hU hPc hW hK hDc⟩⟩ rfl rfl hl.1 rfl (lv_room (Nat.le_of_ble_eq_true rfl)) dL_name_118 ⟨Nat.le_of_ble_eq_true rfl, Nat.le_of_ble_eq_true rfl⟩) hS (fun q _ h => hFc q h) hFc (fun zr u t H1 locs ht hvm hw hB hz1 hk1 hS => ?_)
  obtain ⟨vb'_4, ml'_4, nb'_4, g'_4⟩ := u
  obtain ⟨hP1, hD1⟩ := hB
  rw [ht] at hP1
  try dsimp only at hw hP1 hD1
  obtain ⟨hP, hD⟩ := va_join (wr := []) (w1 := [(o, .inr (4, [.ref F, .ref G, .int lo, .int nw, .int se, .ref (pa 0), .ref an, .ref ln])), cE x xv, (x 7, .inl (cA 0, 4, .inl f)), (ln, .inr (0, [.ref vb'_4, .int 0, .int ml'_4, .int (nI ((lnT 4 f 4).length))])), (vb'_4, .inl (cA 2, nb'_4, .inl g'_4))]) hP hD [0, 1, 2, 3, 4] [] rfl rfl (by decide) (by decide) hk1 hFc hP1 hD1
  generalize H1 = H at hP hS ⊢
  have hP := hP.sub (ws' := [(o, .inr (4, [.ref F, .ref G, .int lo, .int nw, .int se, .ref (pa 0), .ref an, .ref ln])), cE x xv, (x 7, .inl (cA 0, 4, .inl f)), (ln, .inr (0, [.ref vb'_4, .int 0, .int ml'_4, .int (nI ((lnT 4 f 4).length))])), (vb'_4, .inl (cA 2, nb'_4, .inl g'_4))]) [0, 1, 2, 3, 4] rfl
  have hD := hD.sub (ws' := [(o, .inr (4, [.ref F, .ref G, .int lo, .int nw, .int se, .ref (pa 0), .ref an, .ref ln])), cE x xv, (x 7, .inl (cA 0, 4, .inl f)), (ln, .inr (0, [.ref vb'_4, .int 0, .int ml'_4, .int (nI ((lnT 4 f 4).length))])), (vb'_4, .inl (cA 2, nb'_4, .inl g'_4))]) [0, 1, 2, 3, 4] (by decide) rfl
  clear hPc hDc hFc hP1 hD1 hk1 hz1
  refine W.widen (k := 14) (n := 449) (by omega) (by omega) ?_
  obtain ⟨hw_4_0, hw_4_1⟩ := hw
  obtain rfl := hw_4_1
  refine W.widen (k := 14) (n := 449) (by omega) (by omega) ?_
  exact W.iret (v := (nI (zLen.getD 4 0))) hx hb hr (fun t ht hW => ⟨⟨nI (zLen.getD 4 0), (vb'_4, ml'_4, nb'_4, g'_4), rfl, ⟨hw_4_0, rfl⟩, ⟨by rw [ht]; exact hP, by rw [hAe]; exact hD⟩⟩, hS.F ht⟩) hS.2.2 dL_name_121
set_option maxHeartbeats 4000000 in
set_option maxRecDepth 100000 in
theorem c_name_5 (l : Launch) (D : va_G) (cA : Nat → ClassId) (zv : Nat → Nat) (sz : Nat) (o F G : Nat) (lo nw se : Int32) (pa : Nat → Nat) (an ln : Nat) (x : Nat → Nat) (y0 : Nat) (n : Int32) (xv : Nat → Int32) (vb nb ct : Nat) (ml : Int32) (f g : Nat → Int32) (he : en n F G (x 0) y0) (hk0 : xv 0 = nI 5) (hok : ∀ j, j < 4 → okv (f j)) (hn : nb = 16 ∨ nb = 34) (hct : ct ≤ nb) (hfb : bfit nb g) : Met l yL_name wsL_name ({ frames := 9, cells := 14, slots := 449, locals := 222 }) (va_Pc [.ref o, .int n, .int 5] (zUX D cA zv sz [(o, .inr (4, [.ref F, .ref G, .int lo, .int nw, .int se, .ref (pa 0), .ref an, .ref ln])), cE x xv, (x 7, .inl (cA 0, 4, .inl f)), (ln, .inr (0, [.ref vb, .int 0, .int ml, .int (nI ct)])), (vb, .inl (cA 2, nb, .inl g))])) (va_Qi (fun (r : Int32) (u : (Nat × Int32 × Nat × (Nat → Int32))) => okL 5 f u.2.2.1 u.2.2.2 ∧ r = nI (zLen.getD 5 0)) (fun (u : (Nat × Int32 × Nat × (Nat → Int32))) t => zB D [(o, .inr (4, [.ref F, .ref G, .int lo, .int nw, .int se, .ref (pa 0), .ref an, .ref ln])), cE x xv, (x 7, .inl (cA 0, 4, .inl f)), (ln, .inr (0, [.ref vb, .int 0, .int ml, .int (nI ct)])), (vb, .inl (cA 2, nb, .inl g))] sz [(o, .inr (4, [.ref F, .ref G, .int lo, .int nw, .int se, .ref (pa 0), .ref an, .ref ln])), cE x xv, (x 7, .inl (cA 0, 4, .inl f)), (ln, .inr (0, [.ref u.1, .int 0, .int u.2.1, .int (nI ((lnT 5 f 4).length))])), (u.1, .inl (cA 2, u.2.2.1, .inl u.2.2.2))] t) (va_A [(o, .inr (4, [.ref F, .ref G, .int lo, .int nw, .int se, .ref (pa 0), .ref an, .ref ln])), cE x xv, (x 7, .inl (cA 0, 4, .inl f)), (ln, .inr (0, [.ref vb, .int 0, .int ml, .int (nI ct)])), (vb, .inl (cA 2, nb, .inl g))] sz)) 14 449 (va_A [(o, .inr (4, [.ref F, .ref G, .int lo, .int nw, .int se, .ref (pa 0), .ref an, .ref ln])), cE x xv, (x 7, .inl (cA 0, 4, .inl f)), (ln, .inr (0, [.ref vb, .int 0, .int ml, .int (nI ct)])), (vb, .inl (cA 2, nb, .inl g))] sz) := by
  refine Met.ofW (cc := cL_name) (maxL := 3) (ret := (some .int)) (by decide) rfl ?_
  intro p e s m args below meth c s₁ B hml hv
  obtain ⟨rfl, ⟨hsz, hP, hK, hD0, hE0⟩, hX0⟩ := hv
  have hx := B.exec
  have hb := B.bytes
  have hr := B.returns
  have hts := atoms_spec (ws := wsL_name) B.pre
  have hown : s.vm.findClass RL = some m.cls := findClass_of_methodNamed B.named
  have hlocks := B.notSynchronized
  subst hsz
  have hD := hD0.self (sz := s.heap.size)
  generalize hAe : va_A [(o, .inr (4, [.ref F, .ref G, .int lo, .int nw, .int se, .ref (pa 0), .ref an, .ref ln])), cE x xv, (x 7, .inl (cA 0, 4, .inl f)), (ln, .inr (0, [.ref vb, .int 0, .int ml, .int (nI ct)])), (vb, .inl (cA 2, nb, .inl g))] s.heap.size = A at hD hE0 hX0 ⊢
  have hA : ∀ q : Nat, s.heap.size ≤ q → A q := fun q h => by rw [← hAe]; exact Or.inr h
  have hS : va_S A s.heap s.heap [] := va_S.rf
  have hl := lv_entry ([.ref o, .int n, .int 5]) (n := 3) (Nat.le_of_ble_eq_true rfl)
  rw [lg_entry_eq]
  generalize (lg_sl ([.ref o, .int n, .int 5]) ++ List.replicate (3 - (lg_sl ([.ref o, .int n, .int 5])).length) Slot.unset).toArray = ls at hl ⊢
  have hl : lv_has ls 3 [(0, .ref o), (1, .int n), (2, .int 5)] := hl
  refine lv_iload_n hx hb dL_name_0 rfl (lv_at hl 2 rfl) ?_
  refine lv_iconst (v := 3) hx hb dL_name_1 (by decide) ?_
  refine lv_icmp_ge (tgt := 74) hx hb dL_name_2 (by decide) (fun _ => ?_) (fun c_1 => absurd c_1 (by decide))
  refine lv_iload_n hx hb dL_name_74 rfl (lv_at hl 2 rfl) ?_
  refine lv_iconst (v := 5) hx hb dL_name_75 (by decide) ?_
  refine lv_icmp_ge (tgt := 122) hx hb dL_name_76 (by decide) (fun _ => ?_) (fun c_2 => absurd c_2 (by decide))
  refine lv_iload_n hx hb dL_name_122 rfl (lv_at hl 2 rfl) ?_
  refine lv_iconst (v := 5) hx hb dL_name_123 (by decide) ?_
  refine lv_icmp_ne (tgt := 149) hx hb dL_name_124 (by decide) (fun c_3 => absurd c_3 (by decide)) (fun _ => ?_)
  refine lv_aload_n hx hb dL_name_127 rfl (lv_at hl 0 rfl) ?_
  refine lv_iload_n hx hb dL_name_128 rfl (lv_at hl 1 rfl) ?_
  refine lv_bipush (v := 99) hx hb dL_name_129 (by decide) ?_
  refine lv_bipush (v := 108) hx hb dL_name_131 (by decide) ?_
  refine lv_bipush (v := 111) hx hb dL_name_133 (by decide) ?_
  refine lv_bipush (v := 115) hx hb dL_name_135 (by decide) ?_
  refine lv_bipush (v := 105) hx hb dL_name_137 (by decide) ?_
  refine lv_bipush (v := 110) hx hb dL_name_139 (by decide) ?_
  refine lv_bipush (v := 103) hx hb dL_name_141 (by decide) ?_
  have hPc := hP.sub (ws' := [(o, .inr (4, [.ref F, .ref G, .int lo, .int nw, .int se, .ref (pa 0), .ref an, .ref ln])), cE x xv, (x 7, .inl (cA 0, 4, .inl f)), (ln, .inr (0, [.ref vb, .int 0, .int ml, .int (nI ct)])), (vb, .inl (cA 2, nb, .inl g))]) [0, 1, 2, 3, 4] rfl
  have hDc := hD.sub (ws' := [(o, .inr (4, [.ref F, .ref G, .int lo, .int nw, .int se, .ref (pa 0), .ref an, .ref ln])), cE x xv, (x 7, .inl (cA 0, 4, .inl f)), (ln, .inr (0, [.ref vb, .int 0, .int ml, .int (nI ct)])), (vb, .inl (cA 2, nb, .inl g))]) [0, 1, 2, 3, 4] (by decide) rfl
  have hFc := va_free (wc := [(o, .inr (4, [.ref F, .ref G, .int lo, .int nw, .int se, .ref (pa 0), .ref an, .ref ln])), cE x xv, (x 7, .inl (cA 0, 4, .inl f)), (ln, .inr (0, [.ref vb, .int 0, .int ml, .int (nI ct)])), (vb, .inl (cA 2, nb, .inl g))]) hD hS hA [0, 1, 2, 3, 4] rfl
  refine va_calli (va_runS (As := [.ref o, .int n, .int 99, .int 108, .int 111, .int 115, .int 105, .int 110, .int 103]) (rest := []) ⟨hx, hb, hml, hown, hts⟩ (c_L_begins l D cA zv s.heap.size o F G lo nw se pa an ln x y0 n xv 5 vb nb ct ml f g 99 108 111 115 105 110 103 he (by decide) hk0 hok hn hct hfb (by decide +kernel) (by decide +kernel)) (va_cwS 9 hts gL_name_L_begins rfl rfl rfl (by decide +kernel) ⟨Nat.le_of_ble_eq_true rfl, Nat.le_of_ble_eq_true rfl⟩) ⟨zUX_blind, fun U hU hW => ⟨rfl, zUX_call hE0 hX0 hS hFc hU hPc hW hK hDc⟩⟩ rfl rfl hl.1 rfl (lv_room (Nat.le_of_ble_eq_true rfl)) dL_name_143 ⟨Nat.le_of_ble_eq_true rfl, Nat.le_of_ble_eq_true rfl⟩) hS (fun q _ h => hFc q h) hFc (fun zr u t H1 locs ht hvm hw hB hz1 hk1 hS => ?_)
  obtain ⟨vb'_4, ml'_4, nb'_4, g'_4⟩ := u
  obtain ⟨hP1, hD1⟩ := hB
  rw [ht] at hP1
  try dsimp only at hw hP1 hD1
  obtain ⟨hP, hD⟩ := va_join (wr := []) (w1 := [(o, .inr (4, [.ref F, .ref G, .int lo, .int nw, .int se, .ref (pa 0), .ref an, .ref ln])), cE x xv, (x 7, .inl (cA 0, 4, .inl f)), (ln, .inr (0, [.ref vb'_4, .int 0, .int ml'_4, .int (nI ((lnT 5 f 4).length))])), (vb'_4, .inl (cA 2, nb'_4, .inl g'_4))]) hP hD [0, 1, 2, 3, 4] [] rfl rfl (by decide) (by decide) hk1 hFc hP1 hD1
  generalize H1 = H at hP hS ⊢
  have hP := hP.sub (ws' := [(o, .inr (4, [.ref F, .ref G, .int lo, .int nw, .int se, .ref (pa 0), .ref an, .ref ln])), cE x xv, (x 7, .inl (cA 0, 4, .inl f)), (ln, .inr (0, [.ref vb'_4, .int 0, .int ml'_4, .int (nI ((lnT 5 f 4).length))])), (vb'_4, .inl (cA 2, nb'_4, .inl g'_4))]) [0, 1, 2, 3, 4] rfl
  have hD := hD.sub (ws' := [(o, .inr (4, [.ref F, .ref G, .int lo, .int nw, .int se, .ref (pa 0), .ref an, .ref ln])), cE x xv, (x 7, .inl (cA 0, 4, .inl f)), (ln, .inr (0, [.ref vb'_4, .int 0, .int ml'_4, .int (nI ((lnT 5 f 4).length))])), (vb'_4, .inl (cA 2, nb'_4, .inl g'_4))]) [0, 1, 2, 3, 4] (by decide) rfl
  clear hPc hDc hFc hP1 hD1 hk1 hz1
  refine W.widen (k := 14) (n := 449) (by omega) (by omega) ?_
  obtain ⟨hw_4_0, hw_4_1⟩ := hw
  obtain rfl := hw_4_1
  refine lv_goto (tgt := 194) hx hb dL_name_146 (by decide) ?_
  refine W.widen (k := 14) (n := 449) (by omega) (by omega) ?_
  exact W.iret (v := (nI (zLen.getD 5 0))) hx hb hr (fun t ht hW => ⟨⟨nI (zLen.getD 5 0), (vb'_4, ml'_4, nb'_4, g'_4), rfl, ⟨hw_4_0, rfl⟩, ⟨by rw [ht]; exact hP, by rw [hAe]; exact hD⟩⟩, hS.F ht⟩) hS.2.2 dL_name_194
set_option maxHeartbeats 4000000 in
set_option maxRecDepth 100000 in
theorem c_name_6 (l : Launch) (D : va_G) (cA : Nat → ClassId) (zv : Nat → Nat) (sz : Nat) (o F G : Nat) (lo nw se : Int32) (pa : Nat → Nat) (an ln : Nat) (x : Nat → Nat) (y0 : Nat) (n : Int32) (xv : Nat → Int32) (vb nb ct : Nat) (ml : Int32) (f g : Nat → Int32) (he : en n F G (x 0) y0) (hk0 : xv 0 = nI 6) (hok : ∀ j, j < 4 → okv (f j)) (hn : nb = 16 ∨ nb = 34) (hct : ct ≤ nb) (hfb : bfit nb g) : Met l yL_name wsL_name ({ frames := 9, cells := 14, slots := 449, locals := 222 }) (va_Pc [.ref o, .int n, .int 6] (zUX D cA zv sz [(o, .inr (4, [.ref F, .ref G, .int lo, .int nw, .int se, .ref (pa 0), .ref an, .ref ln])), cE x xv, (x 7, .inl (cA 0, 4, .inl f)), (ln, .inr (0, [.ref vb, .int 0, .int ml, .int (nI ct)])), (vb, .inl (cA 2, nb, .inl g))])) (va_Qi (fun (r : Int32) (u : (Nat × Int32 × Nat × (Nat → Int32))) => okL 6 f u.2.2.1 u.2.2.2 ∧ r = nI (zLen.getD 6 0)) (fun (u : (Nat × Int32 × Nat × (Nat → Int32))) t => zB D [(o, .inr (4, [.ref F, .ref G, .int lo, .int nw, .int se, .ref (pa 0), .ref an, .ref ln])), cE x xv, (x 7, .inl (cA 0, 4, .inl f)), (ln, .inr (0, [.ref vb, .int 0, .int ml, .int (nI ct)])), (vb, .inl (cA 2, nb, .inl g))] sz [(o, .inr (4, [.ref F, .ref G, .int lo, .int nw, .int se, .ref (pa 0), .ref an, .ref ln])), cE x xv, (x 7, .inl (cA 0, 4, .inl f)), (ln, .inr (0, [.ref u.1, .int 0, .int u.2.1, .int (nI ((lnT 6 f 4).length))])), (u.1, .inl (cA 2, u.2.2.1, .inl u.2.2.2))] t) (va_A [(o, .inr (4, [.ref F, .ref G, .int lo, .int nw, .int se, .ref (pa 0), .ref an, .ref ln])), cE x xv, (x 7, .inl (cA 0, 4, .inl f)), (ln, .inr (0, [.ref vb, .int 0, .int ml, .int (nI ct)])), (vb, .inl (cA 2, nb, .inl g))] sz)) 14 449 (va_A [(o, .inr (4, [.ref F, .ref G, .int lo, .int nw, .int se, .ref (pa 0), .ref an, .ref ln])), cE x xv, (x 7, .inl (cA 0, 4, .inl f)), (ln, .inr (0, [.ref vb, .int 0, .int ml, .int (nI ct)])), (vb, .inl (cA 2, nb, .inl g))] sz) := by
  refine Met.ofW (cc := cL_name) (maxL := 3) (ret := (some .int)) (by decide) rfl ?_
  intro p e s m args below meth c s₁ B hml hv
  obtain ⟨rfl, ⟨hsz, hP, hK, hD0, hE0⟩, hX0⟩ := hv
  have hx := B.exec
  have hb := B.bytes
  have hr := B.returns
  have hts := atoms_spec (ws := wsL_name) B.pre
  have hown : s.vm.findClass RL = some m.cls := findClass_of_methodNamed B.named
  have hlocks := B.notSynchronized
  subst hsz
  have hD := hD0.self (sz := s.heap.size)
  generalize hAe : va_A [(o, .inr (4, [.ref F, .ref G, .int lo, .int nw, .int se, .ref (pa 0), .ref an, .ref ln])), cE x xv, (x 7, .inl (cA 0, 4, .inl f)), (ln, .inr (0, [.ref vb, .int 0, .int ml, .int (nI ct)])), (vb, .inl (cA 2, nb, .inl g))] s.heap.size = A at hD hE0 hX0 ⊢
  have hA : ∀ q : Nat, s.heap.size ≤ q → A q := fun q h => by rw [← hAe]; exact Or.inr h
  have hS : va_S A s.heap s.heap [] := va_S.rf
  have hl := lv_entry ([.ref o, .int n, .int 6]) (n := 3) (Nat.le_of_ble_eq_true rfl)
  rw [lg_entry_eq]
  generalize (lg_sl ([.ref o, .int n, .int 6]) ++ List.replicate (3 - (lg_sl ([.ref o, .int n, .int 6])).length) Slot.unset).toArray = ls at hl ⊢
  have hl : lv_has ls 3 [(0, .ref o), (1, .int n), (2, .int 6)] := hl
  refine lv_iload_n hx hb dL_name_0 rfl (lv_at hl 2 rfl) ?_
  refine lv_iconst (v := 3) hx hb dL_name_1 (by decide) ?_
  refine lv_icmp_ge (tgt := 74) hx hb dL_name_2 (by decide) (fun _ => ?_) (fun c_1 => absurd c_1 (by decide))
  refine lv_iload_n hx hb dL_name_74 rfl (lv_at hl 2 rfl) ?_
  refine lv_iconst (v := 5) hx hb dL_name_75 (by decide) ?_
  refine lv_icmp_ge (tgt := 122) hx hb dL_name_76 (by decide) (fun _ => ?_) (fun c_2 => absurd c_2 (by decide))
  refine lv_iload_n hx hb dL_name_122 rfl (lv_at hl 2 rfl) ?_
  refine lv_iconst (v := 5) hx hb dL_name_123 (by decide) ?_
  refine lv_icmp_ne (tgt := 149) hx hb dL_name_124 (by decide) (fun _ => ?_) (fun c_3 => absurd c_3 (by decide))
  refine lv_iload_n hx hb dL_name_149 rfl (lv_at hl 2 rfl) ?_
  refine lv_bipush (v := 6) hx hb dL_name_150 (by decide) ?_
  refine lv_icmp_ne (tgt := 176) hx hb dL_name_152 (by decide) (fun c_4 => absurd c_4 (by decide)) (fun _ => ?_)
  refine lv_aload_n hx hb dL_name_155 rfl (lv_at hl 0 rfl) ?_
  refine lv_iload_n hx hb dL_name_156 rfl (lv_at hl 1 rfl) ?_
  refine lv_bipush (v := 102) hx hb dL_name_157 (by decide) ?_
  refine lv_bipush (v := 97) hx hb dL_name_159 (by decide) ?_
  refine lv_bipush (v := 105) hx hb dL_name_161 (by decide) ?_
  refine lv_bipush (v := 108) hx hb dL_name_163 (by decide) ?_
  refine lv_bipush (v := 101) hx hb dL_name_165 (by decide) ?_
  refine lv_bipush (v := 100) hx hb dL_name_167 (by decide) ?_
  refine lv_iconst (v := 0) hx hb dL_name_169 (by decide) ?_
  have hPc := hP.sub (ws' := [(o, .inr (4, [.ref F, .ref G, .int lo, .int nw, .int se, .ref (pa 0), .ref an, .ref ln])), cE x xv, (x 7, .inl (cA 0, 4, .inl f)), (ln, .inr (0, [.ref vb, .int 0, .int ml, .int (nI ct)])), (vb, .inl (cA 2, nb, .inl g))]) [0, 1, 2, 3, 4] rfl
  have hDc := hD.sub (ws' := [(o, .inr (4, [.ref F, .ref G, .int lo, .int nw, .int se, .ref (pa 0), .ref an, .ref ln])), cE x xv, (x 7, .inl (cA 0, 4, .inl f)), (ln, .inr (0, [.ref vb, .int 0, .int ml, .int (nI ct)])), (vb, .inl (cA 2, nb, .inl g))]) [0, 1, 2, 3, 4] (by decide) rfl
  have hFc := va_free (wc := [(o, .inr (4, [.ref F, .ref G, .int lo, .int nw, .int se, .ref (pa 0), .ref an, .ref ln])), cE x xv, (x 7, .inl (cA 0, 4, .inl f)), (ln, .inr (0, [.ref vb, .int 0, .int ml, .int (nI ct)])), (vb, .inl (cA 2, nb, .inl g))]) hD hS hA [0, 1, 2, 3, 4] rfl
  refine va_calli (va_runS (As := [.ref o, .int n, .int 102, .int 97, .int 105, .int 108, .int 101, .int 100, .int 0]) (rest := []) ⟨hx, hb, hml, hown, hts⟩ (c_L_begins l D cA zv s.heap.size o F G lo nw se pa an ln x y0 n xv 6 vb nb ct ml f g 102 97 105 108 101 100 0 he (by decide) hk0 hok hn hct hfb (by decide +kernel) (by decide +kernel)) (va_cwS 9 hts gL_name_L_begins rfl rfl rfl (by decide +kernel) ⟨Nat.le_of_ble_eq_true rfl, Nat.le_of_ble_eq_true rfl⟩) ⟨zUX_blind, fun U hU hW => ⟨rfl, zUX_call hE0 hX0 hS hFc hU hPc hW hK hDc⟩⟩ rfl rfl hl.1 rfl (lv_room (Nat.le_of_ble_eq_true rfl)) dL_name_170 ⟨Nat.le_of_ble_eq_true rfl, Nat.le_of_ble_eq_true rfl⟩) hS (fun q _ h => hFc q h) hFc (fun zr u t H1 locs ht hvm hw hB hz1 hk1 hS => ?_)
  obtain ⟨vb'_5, ml'_5, nb'_5, g'_5⟩ := u
  obtain ⟨hP1, hD1⟩ := hB
  rw [ht] at hP1
  try dsimp only at hw hP1 hD1
  obtain ⟨hP, hD⟩ := va_join (wr := []) (w1 := [(o, .inr (4, [.ref F, .ref G, .int lo, .int nw, .int se, .ref (pa 0), .ref an, .ref ln])), cE x xv, (x 7, .inl (cA 0, 4, .inl f)), (ln, .inr (0, [.ref vb'_5, .int 0, .int ml'_5, .int (nI ((lnT 6 f 4).length))])), (vb'_5, .inl (cA 2, nb'_5, .inl g'_5))]) hP hD [0, 1, 2, 3, 4] [] rfl rfl (by decide) (by decide) hk1 hFc hP1 hD1
  generalize H1 = H at hP hS ⊢
  have hP := hP.sub (ws' := [(o, .inr (4, [.ref F, .ref G, .int lo, .int nw, .int se, .ref (pa 0), .ref an, .ref ln])), cE x xv, (x 7, .inl (cA 0, 4, .inl f)), (ln, .inr (0, [.ref vb'_5, .int 0, .int ml'_5, .int (nI ((lnT 6 f 4).length))])), (vb'_5, .inl (cA 2, nb'_5, .inl g'_5))]) [0, 1, 2, 3, 4] rfl
  have hD := hD.sub (ws' := [(o, .inr (4, [.ref F, .ref G, .int lo, .int nw, .int se, .ref (pa 0), .ref an, .ref ln])), cE x xv, (x 7, .inl (cA 0, 4, .inl f)), (ln, .inr (0, [.ref vb'_5, .int 0, .int ml'_5, .int (nI ((lnT 6 f 4).length))])), (vb'_5, .inl (cA 2, nb'_5, .inl g'_5))]) [0, 1, 2, 3, 4] (by decide) rfl
  clear hPc hDc hFc hP1 hD1 hk1 hz1
  refine W.widen (k := 14) (n := 449) (by omega) (by omega) ?_
  obtain ⟨hw_5_0, hw_5_1⟩ := hw
  obtain rfl := hw_5_1
  refine lv_goto (tgt := 194) hx hb dL_name_173 (by decide) ?_
  refine W.widen (k := 14) (n := 449) (by omega) (by omega) ?_
  exact W.iret (v := (nI (zLen.getD 6 0))) hx hb hr (fun t ht hW => ⟨⟨nI (zLen.getD 6 0), (vb'_5, ml'_5, nb'_5, g'_5), rfl, ⟨hw_5_0, rfl⟩, ⟨by rw [ht]; exact hP, by rw [hAe]; exact hD⟩⟩, hS.F ht⟩) hS.2.2 dL_name_194
set_option maxHeartbeats 4000000 in
set_option maxRecDepth 100000 in
theorem c_name_7 (l : Launch) (D : va_G) (cA : Nat → ClassId) (zv : Nat → Nat) (sz : Nat) (o F G : Nat) (lo nw se : Int32) (pa : Nat → Nat) (an ln : Nat) (x : Nat → Nat) (y0 : Nat) (n : Int32) (xv : Nat → Int32) (vb nb ct : Nat) (ml : Int32) (f g : Nat → Int32) (he : en n F G (x 0) y0) (hk0 : xv 0 = nI 7) (hok : ∀ j, j < 4 → okv (f j)) (hn : nb = 16 ∨ nb = 34) (hct : ct ≤ nb) (hfb : bfit nb g) : Met l yL_name wsL_name ({ frames := 9, cells := 14, slots := 449, locals := 222 }) (va_Pc [.ref o, .int n, .int 7] (zUX D cA zv sz [(o, .inr (4, [.ref F, .ref G, .int lo, .int nw, .int se, .ref (pa 0), .ref an, .ref ln])), cE x xv, (x 7, .inl (cA 0, 4, .inl f)), (ln, .inr (0, [.ref vb, .int 0, .int ml, .int (nI ct)])), (vb, .inl (cA 2, nb, .inl g))])) (va_Qi (fun (r : Int32) (u : (Nat × Int32 × Nat × (Nat → Int32))) => okL 7 f u.2.2.1 u.2.2.2 ∧ r = nI (zLen.getD 7 0)) (fun (u : (Nat × Int32 × Nat × (Nat → Int32))) t => zB D [(o, .inr (4, [.ref F, .ref G, .int lo, .int nw, .int se, .ref (pa 0), .ref an, .ref ln])), cE x xv, (x 7, .inl (cA 0, 4, .inl f)), (ln, .inr (0, [.ref vb, .int 0, .int ml, .int (nI ct)])), (vb, .inl (cA 2, nb, .inl g))] sz [(o, .inr (4, [.ref F, .ref G, .int lo, .int nw, .int se, .ref (pa 0), .ref an, .ref ln])), cE x xv, (x 7, .inl (cA 0, 4, .inl f)), (ln, .inr (0, [.ref u.1, .int 0, .int u.2.1, .int (nI ((lnT 7 f 4).length))])), (u.1, .inl (cA 2, u.2.2.1, .inl u.2.2.2))] t) (va_A [(o, .inr (4, [.ref F, .ref G, .int lo, .int nw, .int se, .ref (pa 0), .ref an, .ref ln])), cE x xv, (x 7, .inl (cA 0, 4, .inl f)), (ln, .inr (0, [.ref vb, .int 0, .int ml, .int (nI ct)])), (vb, .inl (cA 2, nb, .inl g))] sz)) 14 449 (va_A [(o, .inr (4, [.ref F, .ref G, .int lo, .int nw, .int se, .ref (pa 0), .ref an, .ref ln])), cE x xv, (x 7, .inl (cA 0, 4, .inl f)), (ln, .inr (0, [.ref vb, .int 0, .int ml, .int (nI ct)])), (vb, .inl (cA 2, nb, .inl g))] sz) := by
  refine Met.ofW (cc := cL_name) (maxL := 3) (ret := (some .int)) (by decide) rfl ?_
  intro p e s m args below meth c s₁ B hml hv
  obtain ⟨rfl, ⟨hsz, hP, hK, hD0, hE0⟩, hX0⟩ := hv
  have hx := B.exec
  have hb := B.bytes
  have hr := B.returns
  have hts := atoms_spec (ws := wsL_name) B.pre
  have hown : s.vm.findClass RL = some m.cls := findClass_of_methodNamed B.named
  have hlocks := B.notSynchronized
  subst hsz
  have hD := hD0.self (sz := s.heap.size)
  generalize hAe : va_A [(o, .inr (4, [.ref F, .ref G, .int lo, .int nw, .int se, .ref (pa 0), .ref an, .ref ln])), cE x xv, (x 7, .inl (cA 0, 4, .inl f)), (ln, .inr (0, [.ref vb, .int 0, .int ml, .int (nI ct)])), (vb, .inl (cA 2, nb, .inl g))] s.heap.size = A at hD hE0 hX0 ⊢
  have hA : ∀ q : Nat, s.heap.size ≤ q → A q := fun q h => by rw [← hAe]; exact Or.inr h
  have hS : va_S A s.heap s.heap [] := va_S.rf
  have hl := lv_entry ([.ref o, .int n, .int 7]) (n := 3) (Nat.le_of_ble_eq_true rfl)
  rw [lg_entry_eq]
  generalize (lg_sl ([.ref o, .int n, .int 7]) ++ List.replicate (3 - (lg_sl ([.ref o, .int n, .int 7])).length) Slot.unset).toArray = ls at hl ⊢
  have hl : lv_has ls 3 [(0, .ref o), (1, .int n), (2, .int 7)] := hl
  refine lv_iload_n hx hb dL_name_0 rfl (lv_at hl 2 rfl) ?_
  refine lv_iconst (v := 3) hx hb dL_name_1 (by decide) ?_
  refine lv_icmp_ge (tgt := 74) hx hb dL_name_2 (by decide) (fun _ => ?_) (fun c_1 => absurd c_1 (by decide))
  refine lv_iload_n hx hb dL_name_74 rfl (lv_at hl 2 rfl) ?_
  refine lv_iconst (v := 5) hx hb dL_name_75 (by decide) ?_
  refine lv_icmp_ge (tgt := 122) hx hb dL_name_76 (by decide) (fun _ => ?_) (fun c_2 => absurd c_2 (by decide))
  refine lv_iload_n hx hb dL_name_122 rfl (lv_at hl 2 rfl) ?_
  refine lv_iconst (v := 5) hx hb dL_name_123 (by decide) ?_
  refine lv_icmp_ne (tgt := 149) hx hb dL_name_124 (by decide) (fun _ => ?_) (fun c_3 => absurd c_3 (by decide))
  refine lv_iload_n hx hb dL_name_149 rfl (lv_at hl 2 rfl) ?_
  refine lv_bipush (v := 6) hx hb dL_name_150 (by decide) ?_
  refine lv_icmp_ne (tgt := 176) hx hb dL_name_152 (by decide) (fun _ => ?_) (fun c_4 => absurd c_4 (by decide))
  refine lv_aload_n hx hb dL_name_176 rfl (lv_at hl 0 rfl) ?_
  refine lv_iload_n hx hb dL_name_177 rfl (lv_at hl 1 rfl) ?_
  refine lv_bipush (v := 108) hx hb dL_name_178 (by decide) ?_
  refine lv_bipush (v := 111) hx hb dL_name_180 (by decide) ?_
  refine lv_bipush (v := 111) hx hb dL_name_182 (by decide) ?_
  refine lv_bipush (v := 112) hx hb dL_name_184 (by decide) ?_
  refine lv_bipush (v := 101) hx hb dL_name_186 (by decide) ?_
  refine lv_bipush (v := 100) hx hb dL_name_188 (by decide) ?_
  refine lv_iconst (v := 0) hx hb dL_name_190 (by decide) ?_
  have hPc := hP.sub (ws' := [(o, .inr (4, [.ref F, .ref G, .int lo, .int nw, .int se, .ref (pa 0), .ref an, .ref ln])), cE x xv, (x 7, .inl (cA 0, 4, .inl f)), (ln, .inr (0, [.ref vb, .int 0, .int ml, .int (nI ct)])), (vb, .inl (cA 2, nb, .inl g))]) [0, 1, 2, 3, 4] rfl
  have hDc := hD.sub (ws' := [(o, .inr (4, [.ref F, .ref G, .int lo, .int nw, .int se, .ref (pa 0), .ref an, .ref ln])), cE x xv, (x 7, .inl (cA 0, 4, .inl f)), (ln, .inr (0, [.ref vb, .int 0, .int ml, .int (nI ct)])), (vb, .inl (cA 2, nb, .inl g))]) [0, 1, 2, 3, 4] (by decide) rfl
  have hFc := va_free (wc := [(o, .inr (4, [.ref F, .ref G, .int lo, .int nw, .int se, .ref (pa 0), .ref an, .ref ln])), cE x xv, (x 7, .inl (cA 0, 4, .inl f)), (ln, .inr (0, [.ref vb, .int 0, .int ml, .int (nI ct)])), (vb, .inl (cA 2, nb, .inl g))]) hD hS hA [0, 1, 2, 3, 4] rfl
  refine va_calli (va_runS (As := [.ref o, .int n, .int 108, .int 111, .int 111, .int 112, .int 101, .int 100, .int 0]) (rest := []) ⟨hx, hb, hml, hown, hts⟩ (c_L_begins l D cA zv s.heap.size o F G lo nw se pa an ln x y0 n xv 7 vb nb ct ml f g 108 111 111 112 101 100 0 he (by decide) hk0 hok hn hct hfb (by decide +kernel) (by decide +kernel)) (va_cwS 9 hts gL_name_L_begins rfl rfl rfl (by decide +kernel) ⟨Nat.le_of_ble_eq_true rfl, Nat.le_of_ble_eq_true rfl⟩) ⟨zUX_blind, fun U hU hW => ⟨rfl, zUX_call hE0 hX0 hS hFc hU hPc hW hK hDc⟩⟩ rfl rfl hl.1 rfl (lv_room (Nat.le_of_ble_eq_true rfl)) dL_name_191 ⟨Nat.le_of_ble_eq_true rfl, Nat.le_of_ble_eq_true rfl⟩) hS (fun q _ h => hFc q h) hFc (fun zr u t H1 locs ht hvm hw hB hz1 hk1 hS => ?_)
  obtain ⟨vb'_5, ml'_5, nb'_5, g'_5⟩ := u
  obtain ⟨hP1, hD1⟩ := hB
  rw [ht] at hP1
  try dsimp only at hw hP1 hD1
  obtain ⟨hP, hD⟩ := va_join (wr := []) (w1 := [(o, .inr (4, [.ref F, .ref G, .int lo, .int nw, .int se, .ref (pa 0), .ref an, .ref ln])), cE x xv, (x 7, .inl (cA 0, 4, .inl f)), (ln, .inr (0, [.ref vb'_5, .int 0, .int ml'_5, .int (nI ((lnT 7 f 4).length))])), (vb'_5, .inl (cA 2, nb'_5, .inl g'_5))]) hP hD [0, 1, 2, 3, 4] [] rfl rfl (by decide) (by decide) hk1 hFc hP1 hD1
  generalize H1 = H at hP hS ⊢
  have hP := hP.sub (ws' := [(o, .inr (4, [.ref F, .ref G, .int lo, .int nw, .int se, .ref (pa 0), .ref an, .ref ln])), cE x xv, (x 7, .inl (cA 0, 4, .inl f)), (ln, .inr (0, [.ref vb'_5, .int 0, .int ml'_5, .int (nI ((lnT 7 f 4).length))])), (vb'_5, .inl (cA 2, nb'_5, .inl g'_5))]) [0, 1, 2, 3, 4] rfl
  have hD := hD.sub (ws' := [(o, .inr (4, [.ref F, .ref G, .int lo, .int nw, .int se, .ref (pa 0), .ref an, .ref ln])), cE x xv, (x 7, .inl (cA 0, 4, .inl f)), (ln, .inr (0, [.ref vb'_5, .int 0, .int ml'_5, .int (nI ((lnT 7 f 4).length))])), (vb'_5, .inl (cA 2, nb'_5, .inl g'_5))]) [0, 1, 2, 3, 4] (by decide) rfl
  clear hPc hDc hFc hP1 hD1 hk1 hz1
  refine W.widen (k := 14) (n := 449) (by omega) (by omega) ?_
  obtain ⟨hw_5_0, hw_5_1⟩ := hw
  obtain rfl := hw_5_1
  refine W.widen (k := 14) (n := 449) (by omega) (by omega) ?_
  exact W.iret (v := (nI (zLen.getD 7 0))) hx hb hr (fun t ht hW => ⟨⟨nI (zLen.getD 7 0), (vb'_5, ml'_5, nb'_5, g'_5), rfl, ⟨hw_5_0, rfl⟩, ⟨by rw [ht]; exact hP, by rw [hAe]; exact hD⟩⟩, hS.F ht⟩) hS.2.2 dL_name_194
set_option maxHeartbeats 4000000 in
set_option maxRecDepth 100000 in
/-- name(o, end, state): how many letters the name of the state has -/
theorem c_L_name (l : Launch) (D : va_G) (cA : Nat → ClassId) (zv : Nat → Nat) (sz : Nat) (o F G : Nat) (lo nw se : Int32) (pa : Nat → Nat) (an ln : Nat) (x : Nat → Nat) (y0 : Nat) (n : Int32) (xv : Nat → Int32) (k vb nb ct : Nat) (ml : Int32) (f g : Nat → Int32) (he : en n F G (x 0) y0) (hk : k < 8) (hk0 : xv 0 = nI k) (hok : ∀ j, j < 4 → okv (f j)) (hn : nb = 16 ∨ nb = 34) (hct : ct ≤ nb) (hfb : bfit nb g) : Met l yL_name wsL_name ({ frames := 9, cells := 14, slots := 449, locals := 222 }) (va_Pc [.ref o, .int n, .int (nI k)] (zUX D cA zv sz [(o, .inr (4, [.ref F, .ref G, .int lo, .int nw, .int se, .ref (pa 0), .ref an, .ref ln])), cE x xv, (x 7, .inl (cA 0, 4, .inl f)), (ln, .inr (0, [.ref vb, .int 0, .int ml, .int (nI ct)])), (vb, .inl (cA 2, nb, .inl g))])) (va_Qi (fun (r : Int32) (u : (Nat × Int32 × Nat × (Nat → Int32))) => okL k f u.2.2.1 u.2.2.2 ∧ r = nI (zLen.getD k 0)) (fun (u : (Nat × Int32 × Nat × (Nat → Int32))) t => zB D [(o, .inr (4, [.ref F, .ref G, .int lo, .int nw, .int se, .ref (pa 0), .ref an, .ref ln])), cE x xv, (x 7, .inl (cA 0, 4, .inl f)), (ln, .inr (0, [.ref vb, .int 0, .int ml, .int (nI ct)])), (vb, .inl (cA 2, nb, .inl g))] sz [(o, .inr (4, [.ref F, .ref G, .int lo, .int nw, .int se, .ref (pa 0), .ref an, .ref ln])), cE x xv, (x 7, .inl (cA 0, 4, .inl f)), (ln, .inr (0, [.ref u.1, .int 0, .int u.2.1, .int (nI ((lnT k f 4).length))])), (u.1, .inl (cA 2, u.2.2.1, .inl u.2.2.2))] t) (va_A [(o, .inr (4, [.ref F, .ref G, .int lo, .int nw, .int se, .ref (pa 0), .ref an, .ref ln])), cE x xv, (x 7, .inl (cA 0, 4, .inl f)), (ln, .inr (0, [.ref vb, .int 0, .int ml, .int (nI ct)])), (vb, .inl (cA 2, nb, .inl g))] sz)) 14 449 (va_A [(o, .inr (4, [.ref F, .ref G, .int lo, .int nw, .int se, .ref (pa 0), .ref an, .ref ln])), cE x xv, (x 7, .inl (cA 0, 4, .inl f)), (ln, .inr (0, [.ref vb, .int 0, .int ml, .int (nI ct)])), (vb, .inl (cA 2, nb, .inl g))] sz) := by
  match k, hk with
  | 0, _ => exact c_name_0 l D cA zv sz o F G lo nw se pa an ln x y0 n xv vb nb ct ml f g he hk0 hok hn hct hfb
  | 1, _ => exact c_name_1 l D cA zv sz o F G lo nw se pa an ln x y0 n xv vb nb ct ml f g he hk0 hok hn hct hfb
  | 2, _ => exact c_name_2 l D cA zv sz o F G lo nw se pa an ln x y0 n xv vb nb ct ml f g he hk0 hok hn hct hfb
  | 3, _ => exact c_name_3 l D cA zv sz o F G lo nw se pa an ln x y0 n xv vb nb ct ml f g he hk0 hok hn hct hfb
  | 4, _ => exact c_name_4 l D cA zv sz o F G lo nw se pa an ln x y0 n xv vb nb ct ml f g he hk0 hok hn hct hfb
  | 5, _ => exact c_name_5 l D cA zv sz o F G lo nw se pa an ln x y0 n xv vb nb ct ml f g he hk0 hok hn hct hfb
  | 6, _ => exact c_name_6 l D cA zv sz o F G lo nw se pa an ln x y0 n xv vb nb ct ml f g he hk0 hok hn hct hfb
  | 7, _ => exact c_name_7 l D cA zv sz o F G lo nw se pa an ln x y0 n xv vb nb ct ml f g he hk0 hok hn hct hfb
  | _ + 8, h => exact absurd h (by omega)
set_option maxHeartbeats 4000000 in
set_option maxRecDepth 100000 in
/-- isLine(o, end): the line is right -/
theorem c_L_isLine (l : Launch) (D : va_G) (cA : Nat → ClassId) (zv : Nat → Nat) (sz : Nat) (o F G : Nat) (lo nw se : Int32) (pa : Nat → Nat) (an ln : Nat) (x : Nat → Nat) (y0 : Nat) (n : Int32) (xv : Nat → Int32) (k vb nb ct : Nat) (ml : Int32) (f g : Nat → Int32) (he : en n F G (x 0) y0) (hk : k < 8) (hk0 : xv 0 = nI k) (hok : ∀ j, j < 4 → okv (f j)) (hn : nb = 16 ∨ nb = 34) (hct : ct ≤ nb) (hfb : bfit nb g) : Met l yL_isLine wsL_isLine ({ frames := 10, cells := 14, slots := 449, locals := 244 }) (va_Pc [.ref o, .int n] (zUX D cA zv sz [(o, .inr (4, [.ref F, .ref G, .int lo, .int nw, .int se, .ref (pa 0), .ref an, .ref ln])), cE x xv, (x 7, .inl (cA 0, 4, .inl f)), (ln, .inr (0, [.ref vb, .int 0, .int ml, .int (nI ct)])), (vb, .inl (cA 2, nb, .inl g))])) (va_Qi (fun (r : Int32) (u : (Nat × Int32 × Nat × (Nat → Int32))) => okL k f u.2.2.1 u.2.2.2 ∧ r = 1) (fun (u : (Nat × Int32 × Nat × (Nat → Int32))) t => zB D [(o, .inr (4, [.ref F, .ref G, .int lo, .int nw, .int se, .ref (pa 0), .ref an, .ref ln])), cE x xv, (x 7, .inl (cA 0, 4, .inl f)), (ln, .inr (0, [.ref vb, .int 0, .int ml, .int (nI ct)])), (vb, .inl (cA 2, nb, .inl g))] sz [(o, .inr (4, [.ref F, .ref G, .int lo, .int nw, .int se, .ref (pa 0), .ref an, .ref ln])), cE x xv, (x 7, .inl (cA 0, 4, .inl f)), (ln, .inr (0, [.ref u.1, .int 0, .int u.2.1, .int (nI ((lnT k f 4).length))])), (u.1, .inl (cA 2, u.2.2.1, .inl u.2.2.2))] t) (va_A [(o, .inr (4, [.ref F, .ref G, .int lo, .int nw, .int se, .ref (pa 0), .ref an, .ref ln])), cE x xv, (x 7, .inl (cA 0, 4, .inl f)), (ln, .inr (0, [.ref vb, .int 0, .int ml, .int (nI ct)])), (vb, .inl (cA 2, nb, .inl g))] sz)) 14 449 (va_A [(o, .inr (4, [.ref F, .ref G, .int lo, .int nw, .int se, .ref (pa 0), .ref an, .ref ln])), cE x xv, (x 7, .inl (cA 0, 4, .inl f)), (ln, .inr (0, [.ref vb, .int 0, .int ml, .int (nI ct)])), (vb, .inl (cA 2, nb, .inl g))] sz) := by
  refine Met.ofW (cc := cL_isLine) (maxL := 7) (ret := (some .boolean)) (by decide) rfl ?_
  intro p e s m args below meth c s₁ B hml hv
  obtain ⟨rfl, ⟨hsz, hP, hK, hD0, hE0⟩, hX0⟩ := hv
  have hx := B.exec
  have hb := B.bytes
  have hr := B.returns
  have hts := atoms_spec (ws := wsL_isLine) B.pre
  have hown : s.vm.findClass RL = some m.cls := findClass_of_methodNamed B.named
  have hlocks := B.notSynchronized
  subst hsz
  have hD := hD0.self (sz := s.heap.size)
  generalize hAe : va_A [(o, .inr (4, [.ref F, .ref G, .int lo, .int nw, .int se, .ref (pa 0), .ref an, .ref ln])), cE x xv, (x 7, .inl (cA 0, 4, .inl f)), (ln, .inr (0, [.ref vb, .int 0, .int ml, .int (nI ct)])), (vb, .inl (cA 2, nb, .inl g))] s.heap.size = A at hD hE0 hX0 ⊢
  have hA : ∀ q : Nat, s.heap.size ≤ q → A q := fun q h => by rw [← hAe]; exact Or.inr h
  have hS : va_S A s.heap s.heap [] := va_S.rf
  have hl := lv_entry ([.ref o, .int n]) (n := 7) (Nat.le_of_ble_eq_true rfl)
  rw [lg_entry_eq]
  generalize (lg_sl ([.ref o, .int n]) ++ List.replicate (7 - (lg_sl ([.ref o, .int n])).length) Slot.unset).toArray = ls at hl ⊢
  have hl : lv_has ls 7 [(0, .ref o), (1, .int n)] := hl
  have hz7 := zlen7 hk
  have hz0 := zlen_pos hk
  have hl4 := lnT_l4 (f := f) hk
  have hl34 := lnT_le (f := f) hk 4
  refine lv_aload_n hx hb dL_isLine_0 rfl (lv_at hl 0 rfl) ?_
  refine lv_iload_n hx hb dL_isLine_1 rfl (lv_at hl 1 rfl) ?_
  refine lv_aload_n hx hb dL_isLine_2 rfl (lv_at hl 0 rfl) ?_
  refine lv_iload_n hx hb dL_isLine_3 rfl (lv_at hl 1 rfl) ?_
  have hPc := hP.sub (ws' := [(o, .inr (4, [.ref F, .ref G, .int lo, .int nw, .int se, .ref (pa 0), .ref an, .ref ln])), cE x xv]) [0, 1] rfl
  have hDc := hD.sub (ws' := [(o, .inr (4, [.ref F, .ref G, .int lo, .int nw, .int se, .ref (pa 0), .ref an, .ref ln])), cE x xv]) [0, 1] (by decide) rfl
  have hFc := va_free (wc := [(o, .inr (4, [.ref F, .ref G, .int lo, .int nw, .int se, .ref (pa 0), .ref an, .ref ln])), cE x xv]) hD hS hA [0, 1] rfl
  refine va_calli (va_runV (As := [.int n]) (rest := [.int n, .ref o]) ⟨hx, hb, hml, hown, hts⟩ (c_X3_state_k l D cA s.heap.size o F G lo nw se pa an ln x y0 n xv he) (cwV 1 hts gL_isLine_X3_state rfl rfl rfl (by decide +kernel) ⟨Nat.le_of_ble_eq_true rfl, Nat.le_of_ble_eq_true rfl⟩) ⟨zU_blind, va_recv hK hPc (ci := 4) (q0 := 0) rfl rfl, fun U hU hW => ⟨rfl, zU_call hU hPc hW.alike hK hDc⟩⟩ rfl rfl hl.1 rfl (lv_room (Nat.le_of_ble_eq_true rfl)) dL_isLine_4 ⟨(Nat.zero_le _), (Nat.zero_le _)⟩) hS (fun q _ h => hFc q h) hFc (fun zr u t H1 locs ht hvm hw hB hz1 hk1 hS => ?_)
  obtain ⟨hP1, hD1⟩ := hB
  rw [ht] at hP1
  obtain ⟨hP, hD⟩ := va_join (wr := [(x 7, .inl (cA 0, 4, .inl f)), (ln, .inr (0, [.ref vb, .int 0, .int ml, .int (nI ct)])), (vb, .inl (cA 2, nb, .inl g))]) (w1 := [(o, .inr (4, [.ref F, .ref G, .int lo, .int nw, .int se, .ref (pa 0), .ref an, .ref ln])), cE x xv]) hP hD [0, 1] [2, 3, 4] rfl rfl (by decide) (by decide) hk1 hFc hP1 hD1
  generalize H1 = H at hP hS ⊢
  have hP := hP.sub (ws' := [(o, .inr (4, [.ref F, .ref G, .int lo, .int nw, .int se, .ref (pa 0), .ref an, .ref ln])), cE x xv, (x 7, .inl (cA 0, 4, .inl f)), (ln, .inr (0, [.ref vb, .int 0, .int ml, .int (nI ct)])), (vb, .inl (cA 2, nb, .inl g))]) [3, 4, 0, 1, 2] rfl
  have hD := hD.sub (ws' := [(o, .inr (4, [.ref F, .ref G, .int lo, .int nw, .int se, .ref (pa 0), .ref an, .ref ln])), cE x xv, (x 7, .inl (cA 0, 4, .inl f)), (ln, .inr (0, [.ref vb, .int 0, .int ml, .int (nI ct)])), (vb, .inl (cA 2, nb, .inl g))]) [3, 4, 0, 1, 2] (by decide) rfl
  clear hPc hDc hFc hP1 hD1 hk1 hz1
  have hw_1 := hw
  obtain rfl := hw
  refine z_top (y := (nI k)) hk0 ?_
  have hPc := hP.sub (ws' := [(o, .inr (4, [.ref F, .ref G, .int lo, .int nw, .int se, .ref (pa 0), .ref an, .ref ln])), cE x xv, (x 7, .inl (cA 0, 4, .inl f)), (ln, .inr (0, [.ref vb, .int 0, .int ml, .int (nI ct)])), (vb, .inl (cA 2, nb, .inl g))]) [0, 1, 2, 3, 4] rfl
  have hDc := hD.sub (ws' := [(o, .inr (4, [.ref F, .ref G, .int lo, .int nw, .int se, .ref (pa 0), .ref an, .ref ln])), cE x xv, (x 7, .inl (cA 0, 4, .inl f)), (ln, .inr (0, [.ref vb, .int 0, .int ml, .int (nI ct)])), (vb, .inl (cA 2, nb, .inl g))]) [0, 1, 2, 3, 4] (by decide) rfl
  have hFc := va_free (wc := [(o, .inr (4, [.ref F, .ref G, .int lo, .int nw, .int se, .ref (pa 0), .ref an, .ref ln])), cE x xv, (x 7, .inl (cA 0, 4, .inl f)), (ln, .inr (0, [.ref vb, .int 0, .int ml, .int (nI ct)])), (vb, .inl (cA 2, nb, .inl g))]) hD hS hA [0, 1, 2, 3, 4] rfl
  refine va_calli (va_runS (As := [.ref o, .int n, .int (nI k)]) (rest := []) ⟨hx, hb, hml, hown, hts⟩ (c_L_name l D cA zv H.size o F G lo nw se pa an ln x y0 n xv k vb nb ct ml f g he hk hk0 hok hn hct hfb) (va_cwS 3 hts gL_isLine_L_name rfl rfl rfl (by decide +kernel) ⟨Nat.le_of_ble_eq_true rfl, Nat.le_of_ble_eq_true rfl⟩) ⟨zUX_blind, fun U hU hW => ⟨rfl, zUX_call hE0 hX0 hS hFc hU hPc hW hK hDc⟩⟩ rfl rfl hl.1 rfl (lv_room (Nat.le_of_ble_eq_true rfl)) dL_isLine_7 ⟨Nat.le_of_ble_eq_true rfl, Nat.le_of_ble_eq_true rfl⟩) hS (fun q _ h => hFc q h) hFc (fun zr u t H1 locs ht hvm hw hB hz1 hk1 hS => ?_)
  obtain ⟨vb'_2, ml'_2, nb'_2, g'_2⟩ := u
  obtain ⟨hP1, hD1⟩ := hB
  rw [ht] at hP1
  try dsimp only at hw hP1 hD1
  obtain ⟨hP, hD⟩ := va_join (wr := []) (w1 := [(o, .inr (4, [.ref F, .ref G, .int lo, .int nw, .int se, .ref (pa 0), .ref an, .ref ln])), cE x xv, (x 7, .inl (cA 0, 4, .inl f)), (ln, .inr (0, [.ref vb'_2, .int 0, .int ml'_2, .int (nI ((lnT k f 4).length))])), (vb'_2, .inl (cA 2, nb'_2, .inl g'_2))]) hP hD [0, 1, 2, 3, 4] [] rfl rfl (by decide) (by decide) hk1 hFc hP1 hD1
  generalize H1 = H at hP hS ⊢
  have hP := hP.sub (ws' := [(o, .inr (4, [.ref F, .ref G, .int lo, .int nw, .int se, .ref (pa 0), .ref an, .ref ln])), cE x xv, (x 7, .inl (cA 0, 4, .inl f)), (ln, .inr (0, [.ref vb'_2, .int 0, .int ml'_2, .int (nI ((lnT k f 4).length))])), (vb'_2, .inl (cA 2, nb'_2, .inl g'_2))]) [0, 1, 2, 3, 4] rfl
  have hD := hD.sub (ws' := [(o, .inr (4, [.ref F, .ref G, .int lo, .int nw, .int se, .ref (pa 0), .ref an, .ref ln])), cE x xv, (x 7, .inl (cA 0, 4, .inl f)), (ln, .inr (0, [.ref vb'_2, .int 0, .int ml'_2, .int (nI ((lnT k f 4).length))])), (vb'_2, .inl (cA 2, nb'_2, .inl g'_2))]) [0, 1, 2, 3, 4] (by decide) rfl
  clear hPc hDc hFc hP1 hD1 hk1 hz1
  refine W.widen (k := 14) (n := 449) (by omega) (by omega) ?_
  obtain ⟨hw_2_0, hw_2_1⟩ := hw
  obtain rfl := hw_2_1
  refine lv_istore_n (lv' := [(2, .int (nI (zLen.getD k 0))), (0, .ref o), (1, .int n)]) hx hb dL_isLine_10 rfl hl (by decide) rfl (fun ls hl => ?_)
  refine lv_iload_n hx hb dL_isLine_11 rfl (lv_at hl 0 rfl) ?_
  refine lv_if_le (tgt := 19) hx hb dL_isLine_12 (by decide) (fun c_3 => ?_) (fun c_3 => ?_)
  · have c_3 := (nI_leI (a := zLen.getD k 0) (b := 0) (by omega) (by omega)).mp c_3
    omega
  · have c_3 := mt (nI_leI (a := zLen.getD k 0) (b := 0) (by omega) (by omega)).mpr c_3
    refine lv_iconst (v := 1) hx hb dL_isLine_15 (by decide) ?_
    refine lv_goto (tgt := 20) hx hb dL_isLine_16 (by decide) ?_
    refine lv_istore_n (lv' := [(3, .int 1), (2, .int (nI (zLen.getD k 0))), (0, .ref o), (1, .int n)]) hx hb dL_isLine_20 rfl hl (by decide) rfl (fun ls hl => ?_)
    have hl : lv_has ls 7 [(3, .int 1), (2, .int (nI ((lnT k f 0).length))), (0, .ref o), (1, .int n)] := by (have q9 := hl; rw [show nI (zLen.getD k 0) = nI ((lnT k f 0).length) from (congrArg nI (zlen_ok hk).symm)] at q9; exact q9)
    refine lv_iconst (v := 0) hx hb dL_isLine_21 (by decide) ?_
    refine lv_istore (lv' := [(4, .int 0), (3, .int 1), (2, .int (nI ((lnT k f 0).length))), (0, .ref o), (1, .int n)]) hx hb dL_isLine_22 hl (by decide) rfl (fun ls hl => ?_)
    refine z_loop (Inv := fun j H locs ls => ∃ (mlx : Int32), ∃ (gx : Nat → Int32), va_P D vwCl [(o, .inr (4, [.ref F, .ref G, .int lo, .int nw, .int se, .ref (pa 0), .ref an, .ref ln])), cE x xv, (x 7, .inl (cA 0, 4, .inl f)), (ln, .inr (0, [.ref vb'_2, .int 0, .int mlx, .int (nI ((lnT k f 4).length))])), (vb'_2, .inl (cA 2, nb'_2, .inl gx))] H ∧ va_D A [(o, .inr (4, [.ref F, .ref G, .int lo, .int nw, .int se, .ref (pa 0), .ref an, .ref ln])), cE x xv, (x 7, .inl (cA 0, 4, .inl f)), (ln, .inr (0, [.ref vb'_2, .int 0, .int mlx, .int (nI ((lnT k f 4).length))])), (vb'_2, .inl (cA 2, nb'_2, .inl gx))] ∧ va_S A s.heap H locs ∧ lv_has ls 7 [(4, .int (nI j)), (3, .int 1), (2, .int (nI ((lnT k f j).length))), (0, .ref o), (1, .int n)] ∧ okL k f nb'_2 gx) 4 (fun j hj_j ih_j H locs ls hI => ?_) ⟨ml'_2, g'_2, hP, hD, hS, lv_sub hl [0, 1, 2, 3, 4] rfl, hw_2_0⟩
    obtain ⟨mlx, gx, hP, hD, hS, hl, hoX⟩ := hI
    refine lv_iload hx hb dL_isLine_24 (lv_at hl 0 rfl) ?_
    refine lv_iconst (v := 4) hx hb dL_isLine_26 (by decide) ?_
    refine lv_icmp_ge (tgt := 185) hx hb dL_isLine_27 (by decide) (fun c_4 => ?_) (fun c_4 => ?_)
    · have c_4 := (nI_leI (a := 4) (b := j) (by omega) (by omega)).mp c_4
      obtain rfl : j = 4 := by omega
      refine lv_iload_n hx hb dL_isLine_185 rfl (lv_at hl 1 rfl) ?_
      refine lv_if_eq (tgt := 202) hx hb dL_isLine_186 (by decide) (fun c_5 => absurd c_5 (by decide)) (fun _ => ?_)
      refine lv_aload_n hx hb dL_isLine_189 rfl (lv_at hl 3 rfl) ?_
      refine lv_iload_n hx hb dL_isLine_190 rfl (lv_at hl 4 rfl) ?_
      have hPc := hP.sub (ws' := [(o, .inr (4, [.ref F, .ref G, .int lo, .int nw, .int se, .ref (pa 0), .ref an, .ref ln])), cE x xv, (x 7, .inl (cA 0, 4, .inl f)), (ln, .inr (0, [.ref vb'_2, .int 0, .int mlx, .int (nI ((lnT k f 4).length))])), (vb'_2, .inl (cA 2, nb'_2, .inl gx))]) [0, 1, 2, 3, 4] rfl
      have hDc := hD.sub (ws' := [(o, .inr (4, [.ref F, .ref G, .int lo, .int nw, .int se, .ref (pa 0), .ref an, .ref ln])), cE x xv, (x 7, .inl (cA 0, 4, .inl f)), (ln, .inr (0, [.ref vb'_2, .int 0, .int mlx, .int (nI ((lnT k f 4).length))])), (vb'_2, .inl (cA 2, nb'_2, .inl gx))]) [0, 1, 2, 3, 4] (by decide) rfl
      have hFc := va_free (wc := [(o, .inr (4, [.ref F, .ref G, .int lo, .int nw, .int se, .ref (pa 0), .ref an, .ref ln])), cE x xv, (x 7, .inl (cA 0, 4, .inl f)), (ln, .inr (0, [.ref vb'_2, .int 0, .int mlx, .int (nI ((lnT k f 4).length))])), (vb'_2, .inl (cA 2, nb'_2, .inl gx))]) hD hS hA [0, 1, 2, 3, 4] rfl
      refine va_calli (va_runV (As := [.int n]) (rest := []) ⟨hx, hb, hml, hown, hts⟩ (c_n_lineLength l D cA zv H.size o F G lo nw se pa an ln x y0 n xv k vb'_2 nb'_2 ((lnT k f 4).length) mlx f gx he hk hk0 hok hoX.1 (by have q9 := hoX.2.1; omega) hoX.2.2.1 (okL_le hoX)) (cwV 1 hts gL_isLine_X3_lineLength rfl rfl rfl (by decide +kernel) ⟨Nat.le_of_ble_eq_true rfl, Nat.le_of_ble_eq_true rfl⟩) ⟨zUX_blind, va_recv hK hPc (ci := 4) (q0 := 0) rfl rfl, fun U hU hW => ⟨rfl, zUX_call hE0 hX0 hS hFc hU hPc hW hK hDc⟩⟩ rfl rfl hl.1 rfl (lv_room (Nat.le_of_ble_eq_true rfl)) dL_isLine_191 ⟨Nat.le_of_ble_eq_true rfl, Nat.le_of_ble_eq_true rfl⟩) hS (fun q _ h => hFc q h) hFc (fun zr u t H1 locs ht hvm hw hB hz1 hk1 hS => ?_)
      obtain ⟨ml'_6, g'_6⟩ := u
      obtain ⟨hP1, hD1⟩ := hB
      rw [ht] at hP1
      try dsimp only at hw hP1 hD1
      obtain ⟨hP, hD⟩ := va_join (wr := []) (w1 := [(o, .inr (4, [.ref F, .ref G, .int lo, .int nw, .int se, .ref (pa 0), .ref an, .ref ln])), cE x xv, (x 7, .inl (cA 0, 4, .inl f)), (ln, .inr (0, [.ref vb'_2, .int 0, .int ml'_6, .int (nI ((lnT k f 4).length))])), (vb'_2, .inl (cA 2, nb'_2, .inl g'_6))]) hP hD [0, 1, 2, 3, 4] [] rfl rfl (by decide) (by decide) hk1 hFc hP1 hD1
      generalize H1 = H at hP hS ⊢
      have hP := hP.sub (ws' := [(o, .inr (4, [.ref F, .ref G, .int lo, .int nw, .int se, .ref (pa 0), .ref an, .ref ln])), cE x xv, (x 7, .inl (cA 0, 4, .inl f)), (ln, .inr (0, [.ref vb'_2, .int 0, .int ml'_6, .int (nI ((lnT k f 4).length))])), (vb'_2, .inl (cA 2, nb'_2, .inl g'_6))]) [0, 1, 2, 3, 4] rfl
      have hD := hD.sub (ws' := [(o, .inr (4, [.ref F, .ref G, .int lo, .int nw, .int se, .ref (pa 0), .ref an, .ref ln])), cE x xv, (x 7, .inl (cA 0, 4, .inl f)), (ln, .inr (0, [.ref vb'_2, .int 0, .int ml'_6, .int (nI ((lnT k f 4).length))])), (vb'_2, .inl (cA 2, nb'_2, .inl g'_6))]) [0, 1, 2, 3, 4] (by decide) rfl
      clear hPc hDc hFc hP1 hD1 hk1 hz1
      obtain ⟨hw_6_0, hw_6_1⟩ := hw
      obtain rfl := hw_6_1
      have hoL_7 := okL_of hw_6_0
      refine lv_iload_n hx hb dL_isLine_194 rfl (lv_at hl 2 rfl) ?_
      refine lv_icmp_ne (tgt := 202) hx hb dL_isLine_195 (by decide) (fun c_8 => absurd rfl c_8) (fun _ => ?_)
      refine lv_iconst (v := 1) hx hb dL_isLine_198 (by decide) ?_
      refine lv_goto (tgt := 203) hx hb dL_isLine_199 (by decide) ?_
      refine W.widen (k := 14) (n := 449) (by omega) (by omega) ?_
      exact W.zret (v := 1) hx hb hr rfl (fun t ht hW => ⟨⟨1, (vb'_2, ml'_6, nb'_2, g'_6), rfl, ⟨hoL_7, rfl⟩, ⟨by rw [ht]; exact hP, by rw [hAe]; exact hD⟩⟩, hS.F ht⟩) hS.2.2 dL_isLine_203
    · have c_4 := mt (nI_leI (a := 4) (b := j) (by omega) (by omega)).mpr c_4
      refine lv_iload_n hx hb dL_isLine_30 rfl (lv_at hl 1 rfl) ?_
      refine lv_if_eq (tgt := 185) hx hb dL_isLine_31 (by decide) (fun c_9 => absurd c_9 (by decide)) (fun _ => ?_)
      refine lv_aload_n hx hb dL_isLine_34 rfl (lv_at hl 3 rfl) ?_
      refine lv_iload_n hx hb dL_isLine_35 rfl (lv_at hl 4 rfl) ?_
      refine lv_iload hx hb dL_isLine_36 (lv_at hl 0 rfl) ?_
      have hPc := hP.sub (ws' := [(o, .inr (4, [.ref F, .ref G, .int lo, .int nw, .int se, .ref (pa 0), .ref an, .ref ln])), cE x xv, (x 7, .inl (cA 0, 4, .inl f))]) [0, 1, 2] rfl
      have hDc := hD.sub (ws' := [(o, .inr (4, [.ref F, .ref G, .int lo, .int nw, .int se, .ref (pa 0), .ref an, .ref ln])), cE x xv, (x 7, .inl (cA 0, 4, .inl f))]) [0, 1, 2] (by decide) rfl
      have hFc := va_free (wc := [(o, .inr (4, [.ref F, .ref G, .int lo, .int nw, .int se, .ref (pa 0), .ref an, .ref ln])), cE x xv, (x 7, .inl (cA 0, 4, .inl f))]) hD hS hA [0, 1, 2] rfl
      refine va_calli (va_runV (As := [.int n, .int (nI j)]) (rest := []) ⟨hx, hb, hml, hown, hts⟩ (c_X3_asked_k l D cA H.size o F G lo nw se pa an ln x y0 n xv j f he (by omega)) (cwV 2 hts gL_isLine_X3_asked rfl rfl rfl (by decide +kernel) ⟨Nat.le_of_ble_eq_true rfl, Nat.le_of_ble_eq_true rfl⟩) ⟨zU_blind, va_recv hK hPc (ci := 4) (q0 := 0) rfl rfl, fun U hU hW => ⟨rfl, zU_call hU hPc hW.alike hK hDc⟩⟩ rfl rfl hl.1 rfl (lv_room (Nat.le_of_ble_eq_true rfl)) dL_isLine_38 ⟨Nat.le_of_ble_eq_true rfl, Nat.le_of_ble_eq_true rfl⟩) hS (fun q _ h => hFc q h) hFc (fun zr u t H1 locs ht hvm hw hB hz1 hk1 hS => ?_)
      obtain ⟨hP1, hD1⟩ := hB
      rw [ht] at hP1
      obtain ⟨hP, hD⟩ := va_join (wr := [(ln, .inr (0, [.ref vb'_2, .int 0, .int mlx, .int (nI ((lnT k f 4).length))])), (vb'_2, .inl (cA 2, nb'_2, .inl gx))]) (w1 := [(o, .inr (4, [.ref F, .ref G, .int lo, .int nw, .int se, .ref (pa 0), .ref an, .ref ln])), cE x xv, (x 7, .inl (cA 0, 4, .inl f))]) hP hD [0, 1, 2] [3, 4] rfl rfl (by decide) (by decide) hk1 hFc hP1 hD1
      generalize H1 = H at hP hS ⊢
      have hP := hP.sub (ws' := [(o, .inr (4, [.ref F, .ref G, .int lo, .int nw, .int se, .ref (pa 0), .ref an, .ref ln])), cE x xv, (x 7, .inl (cA 0, 4, .inl f)), (ln, .inr (0, [.ref vb'_2, .int 0, .int mlx, .int (nI ((lnT k f 4).length))])), (vb'_2, .inl (cA 2, nb'_2, .inl gx))]) [2, 3, 4, 0, 1] rfl
      have hD := hD.sub (ws' := [(o, .inr (4, [.ref F, .ref G, .int lo, .int nw, .int se, .ref (pa 0), .ref an, .ref ln])), cE x xv, (x 7, .inl (cA 0, 4, .inl f)), (ln, .inr (0, [.ref vb'_2, .int 0, .int mlx, .int (nI ((lnT k f 4).length))])), (vb'_2, .inl (cA 2, nb'_2, .inl gx))]) [2, 3, 4, 0, 1] (by decide) rfl
      clear hPc hDc hFc hP1 hD1 hk1 hz1
      have hw_10 := hw
      obtain rfl := hw
      rcases hok j (by omega) with hv9 | ⟨vv, hv9, hfv⟩
      · skip
        refine z_top (y := (-1)) hv9 ?_
        refine lv_istore (lv' := [(5, .int (-1)), (4, .int (nI j)), (3, .int 1), (2, .int (nI ((lnT k f j).length))), (0, .ref o), (1, .int n)]) hx hb dL_isLine_41 hl (by decide) rfl (fun ls hl => ?_)
        refine lv_iload hx hb dL_isLine_43 (lv_at hl 0 rfl) ?_
        refine lv_if_lt (tgt := 179) hx hb dL_isLine_45 (by decide) (fun _ => ?_) (fun c_11 => absurd c_11 (by decide))
        refine lv_iinc (v := nI (j + 1)) (lv' := [(4, .int (nI (j + 1))), (5, .int (-1)), (3, .int 1), (2, .int (nI ((lnT k f j).length))), (0, .ref o), (1, .int n)]) hx hb dL_isLine_179 hl (k := 1) rfl (z_inc j 1) (by decide) rfl (fun ls hl => ?_)
        refine lv_goto (tgt := 24) hx hb dL_isLine_182 (by decide) ?_
        exact ih_j _ _ _ (by omega) ⟨mlx, gx, hP, hD, hS, (by rw [show nI ((lnT k f (j + 1)).length) = nI ((lnT k f j).length) from (congrArg nI (congrArg List.length (lnT_n hv9)))]; exact lv_sub hl [0, 2, 3, 4, 5] rfl), hoX⟩
      · skip
        refine z_top (y := (nI vv)) hfv ?_
        have hl2 := lnT_ln (k := k) hv9 hfv
        have hl3 := lnT_mono (k := k) (f := f) (i := j + 1) (j := 4) (by omega)
        have hl1 := lnD_1 hv9
        refine lv_istore (lv' := [(5, .int (nI vv)), (4, .int (nI j)), (3, .int 1), (2, .int (nI ((lnT k f j).length))), (0, .ref o), (1, .int n)]) hx hb dL_isLine_41 hl (by decide) rfl (fun ls hl => ?_)
        refine lv_iload hx hb dL_isLine_43 (lv_at hl 0 rfl) ?_
        refine lv_if_lt (tgt := 179) hx hb dL_isLine_45 (by decide) (fun c_12 => ?_) (fun c_12 => ?_)
        · have c_12 := (nI_ltI (a := vv) (b := 0) (by omega) (by omega)).mp c_12
          omega
        · have c_12 := mt (nI_ltI (a := vv) (b := 0) (by omega) (by omega)).mpr c_12
          refine lv_aload_n hx hb dL_isLine_48 rfl (lv_at hl 4 rfl) ?_
          refine lv_iload_n hx hb dL_isLine_49 rfl (lv_at hl 5 rfl) ?_
          have hPc := hP.sub (ws' := [(o, .inr (4, [.ref F, .ref G, .int lo, .int nw, .int se, .ref (pa 0), .ref an, .ref ln])), cE x xv, (x 7, .inl (cA 0, 4, .inl f)), (ln, .inr (0, [.ref vb'_2, .int 0, .int mlx, .int (nI ((lnT k f 4).length))])), (vb'_2, .inl (cA 2, nb'_2, .inl gx))]) [0, 1, 2, 3, 4] rfl
          have hDc := hD.sub (ws' := [(o, .inr (4, [.ref F, .ref G, .int lo, .int nw, .int se, .ref (pa 0), .ref an, .ref ln])), cE x xv, (x 7, .inl (cA 0, 4, .inl f)), (ln, .inr (0, [.ref vb'_2, .int 0, .int mlx, .int (nI ((lnT k f 4).length))])), (vb'_2, .inl (cA 2, nb'_2, .inl gx))]) [0, 1, 2, 3, 4] (by decide) rfl
          have hFc := va_free (wc := [(o, .inr (4, [.ref F, .ref G, .int lo, .int nw, .int se, .ref (pa 0), .ref an, .ref ln])), cE x xv, (x 7, .inl (cA 0, 4, .inl f)), (ln, .inr (0, [.ref vb'_2, .int 0, .int mlx, .int (nI ((lnT k f 4).length))])), (vb'_2, .inl (cA 2, nb'_2, .inl gx))]) hD hS hA [0, 1, 2, 3, 4] rfl
          refine va_calli (va_runV (As := [.int n]) (rest := []) ⟨hx, hb, hml, hown, hts⟩ (c_n_lineLength l D cA zv H.size o F G lo nw se pa an ln x y0 n xv k vb'_2 nb'_2 ((lnT k f 4).length) mlx f gx he hk hk0 hok hoX.1 (by have q9 := hoX.2.1; omega) hoX.2.2.1 (okL_le hoX)) (cwV 1 hts gL_isLine_X3_lineLength rfl rfl rfl (by decide +kernel) ⟨Nat.le_of_ble_eq_true rfl, Nat.le_of_ble_eq_true rfl⟩) ⟨zUX_blind, va_recv hK hPc (ci := 4) (q0 := 0) rfl rfl, fun U hU hW => ⟨rfl, zUX_call hE0 hX0 hS hFc hU hPc hW hK hDc⟩⟩ rfl rfl hl.1 rfl (lv_room (Nat.le_of_ble_eq_true rfl)) dL_isLine_50 ⟨Nat.le_of_ble_eq_true rfl, Nat.le_of_ble_eq_true rfl⟩) hS (fun q _ h => hFc q h) hFc (fun zr u t H1 locs ht hvm hw hB hz1 hk1 hS => ?_)
          obtain ⟨ml'_13, g'_13⟩ := u
          obtain ⟨hP1, hD1⟩ := hB
          rw [ht] at hP1
          try dsimp only at hw hP1 hD1
          obtain ⟨hP, hD⟩ := va_join (wr := []) (w1 := [(o, .inr (4, [.ref F, .ref G, .int lo, .int nw, .int se, .ref (pa 0), .ref an, .ref ln])), cE x xv, (x 7, .inl (cA 0, 4, .inl f)), (ln, .inr (0, [.ref vb'_2, .int 0, .int ml'_13, .int (nI ((lnT k f 4).length))])), (vb'_2, .inl (cA 2, nb'_2, .inl g'_13))]) hP hD [0, 1, 2, 3, 4] [] rfl rfl (by decide) (by decide) hk1 hFc hP1 hD1
          generalize H1 = H at hP hS ⊢
          have hP := hP.sub (ws' := [(o, .inr (4, [.ref F, .ref G, .int lo, .int nw, .int se, .ref (pa 0), .ref an, .ref ln])), cE x xv, (x 7, .inl (cA 0, 4, .inl f)), (ln, .inr (0, [.ref vb'_2, .int 0, .int ml'_13, .int (nI ((lnT k f 4).length))])), (vb'_2, .inl (cA 2, nb'_2, .inl g'_13))]) [0, 1, 2, 3, 4] rfl
          have hD := hD.sub (ws' := [(o, .inr (4, [.ref F, .ref G, .int lo, .int nw, .int se, .ref (pa 0), .ref an, .ref ln])), cE x xv, (x 7, .inl (cA 0, 4, .inl f)), (ln, .inr (0, [.ref vb'_2, .int 0, .int ml'_13, .int (nI ((lnT k f 4).length))])), (vb'_2, .inl (cA 2, nb'_2, .inl g'_13))]) [0, 1, 2, 3, 4] (by decide) rfl
          clear hPc hDc hFc hP1 hD1 hk1 hz1
          obtain ⟨hw_13_0, hw_13_1⟩ := hw
          obtain rfl := hw_13_1
          have hoL_14 := okL_of hw_13_0
          refine lv_iload_n hx hb dL_isLine_53 rfl (lv_at hl 3 rfl) ?_
          refine lv_iconst (v := 3) hx hb dL_isLine_54 (by decide) ?_
          refine lv_iadd hx hb dL_isLine_55 ?_
          refine z_top (y := (nI ((lnT k f j).length + 3))) (z_add ((lnT k f j).length) 3) ?_
          refine lv_icmp_lt (tgt := 90) hx hb dL_isLine_56 (by decide) (fun c_15 => ?_) (fun c_15 => ?_)
          · have c_15 := (nI_ltI (a := (lnT k f 4).length) (b := (lnT k f j).length + 3) (by omega) (by omega)).mp c_15
            omega
          · have c_15 := mt (nI_ltI (a := (lnT k f 4).length) (b := (lnT k f j).length + 3) (by omega) (by omega)).mpr c_15
            refine lv_aload_n hx hb dL_isLine_59 rfl (lv_at hl 4 rfl) ?_
            refine lv_iload_n hx hb dL_isLine_60 rfl (lv_at hl 5 rfl) ?_
            refine lv_iload_n hx hb dL_isLine_61 rfl (lv_at hl 3 rfl) ?_
            have hPc := hP.sub (ws' := [(o, .inr (4, [.ref F, .ref G, .int lo, .int nw, .int se, .ref (pa 0), .ref an, .ref ln])), cE x xv, (x 7, .inl (cA 0, 4, .inl f)), (ln, .inr (0, [.ref vb'_2, .int 0, .int ml'_13, .int (nI ((lnT k f 4).length))])), (vb'_2, .inl (cA 2, nb'_2, .inl g'_13))]) [0, 1, 2, 3, 4] rfl
            have hDc := hD.sub (ws' := [(o, .inr (4, [.ref F, .ref G, .int lo, .int nw, .int se, .ref (pa 0), .ref an, .ref ln])), cE x xv, (x 7, .inl (cA 0, 4, .inl f)), (ln, .inr (0, [.ref vb'_2, .int 0, .int ml'_13, .int (nI ((lnT k f 4).length))])), (vb'_2, .inl (cA 2, nb'_2, .inl g'_13))]) [0, 1, 2, 3, 4] (by decide) rfl
            have hFc := va_free (wc := [(o, .inr (4, [.ref F, .ref G, .int lo, .int nw, .int se, .ref (pa 0), .ref an, .ref ln])), cE x xv, (x 7, .inl (cA 0, 4, .inl f)), (ln, .inr (0, [.ref vb'_2, .int 0, .int ml'_13, .int (nI ((lnT k f 4).length))])), (vb'_2, .inl (cA 2, nb'_2, .inl g'_13))]) hD hS hA [0, 1, 2, 3, 4] rfl
            refine va_calli (va_runV (As := [.int n, .int (nI ((lnT k f j).length))]) (rest := []) ⟨hx, hb, hml, hown, hts⟩ (c_n_lineChar l D cA zv H.size o F G lo nw se pa an ln x y0 n xv k vb'_2 nb'_2 ((lnT k f 4).length) ml'_13 f g'_13 ((lnT k f j).length) he hk hk0 hok hoL_14.1 (by have q9 := hoL_14.2.1; omega) hoL_14.2.2.1 (okL_le hoL_14) (by omega)) (cwV 2 hts gL_isLine_X3_lineChar rfl rfl rfl (by decide +kernel) ⟨Nat.le_of_ble_eq_true rfl, Nat.le_of_ble_eq_true rfl⟩) ⟨zUX_blind, va_recv hK hPc (ci := 4) (q0 := 0) rfl rfl, fun U hU hW => ⟨rfl, zUX_call hE0 hX0 hS hFc hU hPc hW hK hDc⟩⟩ rfl rfl hl.1 rfl (lv_room (Nat.le_of_ble_eq_true rfl)) dL_isLine_62 ⟨Nat.le_of_ble_eq_true rfl, Nat.le_of_ble_eq_true rfl⟩) hS (fun q _ h => hFc q h) hFc (fun zr u t H1 locs ht hvm hw hB hz1 hk1 hS => ?_)
            obtain ⟨ml'_16, g'_16⟩ := u
            obtain ⟨hP1, hD1⟩ := hB
            rw [ht] at hP1
            try dsimp only at hw hP1 hD1
            obtain ⟨hP, hD⟩ := va_join (wr := []) (w1 := [(o, .inr (4, [.ref F, .ref G, .int lo, .int nw, .int se, .ref (pa 0), .ref an, .ref ln])), cE x xv, (x 7, .inl (cA 0, 4, .inl f)), (ln, .inr (0, [.ref vb'_2, .int 0, .int ml'_16, .int (nI ((lnT k f 4).length))])), (vb'_2, .inl (cA 2, nb'_2, .inl g'_16))]) hP hD [0, 1, 2, 3, 4] [] rfl rfl (by decide) (by decide) hk1 hFc hP1 hD1
            generalize H1 = H at hP hS ⊢
            have hP := hP.sub (ws' := [(o, .inr (4, [.ref F, .ref G, .int lo, .int nw, .int se, .ref (pa 0), .ref an, .ref ln])), cE x xv, (x 7, .inl (cA 0, 4, .inl f)), (ln, .inr (0, [.ref vb'_2, .int 0, .int ml'_16, .int (nI ((lnT k f 4).length))])), (vb'_2, .inl (cA 2, nb'_2, .inl g'_16))]) [0, 1, 2, 3, 4] rfl
            have hD := hD.sub (ws' := [(o, .inr (4, [.ref F, .ref G, .int lo, .int nw, .int se, .ref (pa 0), .ref an, .ref ln])), cE x xv, (x 7, .inl (cA 0, 4, .inl f)), (ln, .inr (0, [.ref vb'_2, .int 0, .int ml'_16, .int (nI ((lnT k f 4).length))])), (vb'_2, .inl (cA 2, nb'_2, .inl g'_16))]) [0, 1, 2, 3, 4] (by decide) rfl
            clear hPc hDc hFc hP1 hD1 hk1 hz1
            obtain ⟨hw_16_0, hw_16_1⟩ := hw
            obtain rfl := hw_16_1
            have hoL_17 := okL_of hw_16_0
            refine z_top (y := 32) (lnc_0 (by omega) hv9 hfv) ?_
            refine lv_bipush (v := 32) hx hb dL_isLine_65 (by decide) ?_
            refine lv_icmp_ne (tgt := 90) hx hb dL_isLine_67 (by decide) (fun c_18 => absurd c_18 (by decide)) (fun _ => ?_)
            refine lv_aload_n hx hb dL_isLine_70 rfl (lv_at hl 4 rfl) ?_
            refine lv_iload_n hx hb dL_isLine_71 rfl (lv_at hl 5 rfl) ?_
            refine lv_iload_n hx hb dL_isLine_72 rfl (lv_at hl 3 rfl) ?_
            refine lv_iconst (v := 1) hx hb dL_isLine_73 (by decide) ?_
            refine lv_iadd hx hb dL_isLine_74 ?_
            refine z_top (y := (nI ((lnT k f j).length + 1))) (z_add ((lnT k f j).length) 1) ?_
            have hPc := hP.sub (ws' := [(o, .inr (4, [.ref F, .ref G, .int lo, .int nw, .int se, .ref (pa 0), .ref an, .ref ln])), cE x xv, (x 7, .inl (cA 0, 4, .inl f)), (ln, .inr (0, [.ref vb'_2, .int 0, .int ml'_16, .int (nI ((lnT k f 4).length))])), (vb'_2, .inl (cA 2, nb'_2, .inl g'_16))]) [0, 1, 2, 3, 4] rfl
            have hDc := hD.sub (ws' := [(o, .inr (4, [.ref F, .ref G, .int lo, .int nw, .int se, .ref (pa 0), .ref an, .ref ln])), cE x xv, (x 7, .inl (cA 0, 4, .inl f)), (ln, .inr (0, [.ref vb'_2, .int 0, .int ml'_16, .int (nI ((lnT k f 4).length))])), (vb'_2, .inl (cA 2, nb'_2, .inl g'_16))]) [0, 1, 2, 3, 4] (by decide) rfl
            have hFc := va_free (wc := [(o, .inr (4, [.ref F, .ref G, .int lo, .int nw, .int se, .ref (pa 0), .ref an, .ref ln])), cE x xv, (x 7, .inl (cA 0, 4, .inl f)), (ln, .inr (0, [.ref vb'_2, .int 0, .int ml'_16, .int (nI ((lnT k f 4).length))])), (vb'_2, .inl (cA 2, nb'_2, .inl g'_16))]) hD hS hA [0, 1, 2, 3, 4] rfl
            refine va_calli (va_runV (As := [.int n, .int (nI ((lnT k f j).length + 1))]) (rest := []) ⟨hx, hb, hml, hown, hts⟩ (c_n_lineChar l D cA zv H.size o F G lo nw se pa an ln x y0 n xv k vb'_2 nb'_2 ((lnT k f 4).length) ml'_16 f g'_16 ((lnT k f j).length + 1) he hk hk0 hok hoL_17.1 (by have q9 := hoL_17.2.1; omega) hoL_17.2.2.1 (okL_le hoL_17) (by omega)) (cwV 2 hts gL_isLine_X3_lineChar rfl rfl rfl (by decide +kernel) ⟨Nat.le_of_ble_eq_true rfl, Nat.le_of_ble_eq_true rfl⟩) ⟨zUX_blind, va_recv hK hPc (ci := 4) (q0 := 0) rfl rfl, fun U hU hW => ⟨rfl, zUX_call hE0 hX0 hS hFc hU hPc hW hK hDc⟩⟩ rfl rfl hl.1 rfl (lv_room (Nat.le_of_ble_eq_true rfl)) dL_isLine_75 ⟨Nat.le_of_ble_eq_true rfl, Nat.le_of_ble_eq_true rfl⟩) hS (fun q _ h => hFc q h) hFc (fun zr u t H1 locs ht hvm hw hB hz1 hk1 hS => ?_)
            obtain ⟨ml'_19, g'_19⟩ := u
            obtain ⟨hP1, hD1⟩ := hB
            rw [ht] at hP1
            try dsimp only at hw hP1 hD1
            obtain ⟨hP, hD⟩ := va_join (wr := []) (w1 := [(o, .inr (4, [.ref F, .ref G, .int lo, .int nw, .int se, .ref (pa 0), .ref an, .ref ln])), cE x xv, (x 7, .inl (cA 0, 4, .inl f)), (ln, .inr (0, [.ref vb'_2, .int 0, .int ml'_19, .int (nI ((lnT k f 4).length))])), (vb'_2, .inl (cA 2, nb'_2, .inl g'_19))]) hP hD [0, 1, 2, 3, 4] [] rfl rfl (by decide) (by decide) hk1 hFc hP1 hD1
            generalize H1 = H at hP hS ⊢
            have hP := hP.sub (ws' := [(o, .inr (4, [.ref F, .ref G, .int lo, .int nw, .int se, .ref (pa 0), .ref an, .ref ln])), cE x xv, (x 7, .inl (cA 0, 4, .inl f)), (ln, .inr (0, [.ref vb'_2, .int 0, .int ml'_19, .int (nI ((lnT k f 4).length))])), (vb'_2, .inl (cA 2, nb'_2, .inl g'_19))]) [0, 1, 2, 3, 4] rfl
            have hD := hD.sub (ws' := [(o, .inr (4, [.ref F, .ref G, .int lo, .int nw, .int se, .ref (pa 0), .ref an, .ref ln])), cE x xv, (x 7, .inl (cA 0, 4, .inl f)), (ln, .inr (0, [.ref vb'_2, .int 0, .int ml'_19, .int (nI ((lnT k f 4).length))])), (vb'_2, .inl (cA 2, nb'_2, .inl g'_19))]) [0, 1, 2, 3, 4] (by decide) rfl
            clear hPc hDc hFc hP1 hD1 hk1 hz1
            obtain ⟨hw_19_0, hw_19_1⟩ := hw
            obtain rfl := hw_19_1
            have hoL_20 := okL_of hw_19_0
            refine z_top (y := (nI (97 + j))) (lnc_1 (by omega) hv9 hfv) ?_
            refine lv_bipush (v := 97) hx hb dL_isLine_78 (by decide) ?_
            refine lv_iload hx hb dL_isLine_80 (lv_at hl 1 rfl) ?_
            refine lv_iadd hx hb dL_isLine_82 ?_
            refine z_top (y := (nI (97 + j))) (z_add 97 j) ?_
            refine lv_icmp_ne (tgt := 90) hx hb dL_isLine_83 (by decide) (fun c_21 => absurd rfl c_21) (fun _ => ?_)
            refine lv_iconst (v := 1) hx hb dL_isLine_86 (by decide) ?_
            refine lv_goto (tgt := 91) hx hb dL_isLine_87 (by decide) ?_
            refine lv_istore_n (lv' := [(3, .int 1), (5, .int (nI vv)), (4, .int (nI j)), (2, .int (nI ((lnT k f j).length))), (0, .ref o), (1, .int n)]) hx hb dL_isLine_91 rfl hl (by decide) rfl (fun ls hl => ?_)
            refine lv_iinc (v := nI ((lnT k f j).length + 2)) (lv' := [(2, .int (nI ((lnT k f j).length + 2))), (3, .int 1), (5, .int (nI vv)), (4, .int (nI j)), (0, .ref o), (1, .int n)]) hx hb dL_isLine_92 hl (k := 3) rfl (z_inc ((lnT k f j).length) 2) (by decide) rfl (fun ls hl => ?_)
            refine lv_iload hx hb dL_isLine_95 (lv_at hl 2 rfl) ?_
            refine lv_bipush (v := 99) hx hb dL_isLine_97 (by decide) ?_
            refine lv_icmp_le (tgt := 107) hx hb dL_isLine_99 (by decide) (fun c_22 => ?_) (fun c_22 => ?_)
            · have c_22 := (nI_leI (a := vv) (b := 99) (by omega) (by omega)).mp c_22
              refine lv_iload hx hb dL_isLine_107 (lv_at hl 2 rfl) ?_
              refine lv_bipush (v := 9) hx hb dL_isLine_109 (by decide) ?_
              refine lv_icmp_le (tgt := 119) hx hb dL_isLine_111 (by decide) (fun c_23 => ?_) (fun c_23 => ?_)
              · have c_23 := (nI_leI (a := vv) (b := 9) (by omega) (by omega)).mp c_23
                have hla := lnD_la (v := vv) (by omega)
                refine lv_iconst (v := 1) hx hb dL_isLine_119 (by decide) ?_
                refine lv_istore (lv' := [(6, .int 1), (2, .int (nI ((lnT k f j).length + 2))), (3, .int 1), (5, .int (nI vv)), (4, .int (nI j)), (0, .ref o), (1, .int n)]) hx hb dL_isLine_120 hl (by decide) rfl (fun ls hl => ?_)
                refine lv_iload hx hb dL_isLine_122 (lv_at hl 0 rfl) ?_
                refine lv_if_le (tgt := 179) hx hb dL_isLine_124 (by decide) (fun c_24 => absurd c_24 (by decide)) (fun _ => ?_)
                refine lv_iload_n hx hb dL_isLine_127 rfl (lv_at hl 2 rfl) ?_
                refine lv_if_eq (tgt := 179) hx hb dL_isLine_128 (by decide) (fun c_25 => absurd c_25 (by decide)) (fun _ => ?_)
                refine lv_iload_n hx hb dL_isLine_131 rfl (lv_at hl 1 rfl) ?_
                refine lv_aload_n hx hb dL_isLine_132 rfl (lv_at hl 5 rfl) ?_
                refine lv_iload_n hx hb dL_isLine_133 rfl (lv_at hl 6 rfl) ?_
                have hPc := hP.sub (ws' := [(o, .inr (4, [.ref F, .ref G, .int lo, .int nw, .int se, .ref (pa 0), .ref an, .ref ln])), cE x xv, (x 7, .inl (cA 0, 4, .inl f)), (ln, .inr (0, [.ref vb'_2, .int 0, .int ml'_19, .int (nI ((lnT k f 4).length))])), (vb'_2, .inl (cA 2, nb'_2, .inl g'_19))]) [0, 1, 2, 3, 4] rfl
                have hDc := hD.sub (ws' := [(o, .inr (4, [.ref F, .ref G, .int lo, .int nw, .int se, .ref (pa 0), .ref an, .ref ln])), cE x xv, (x 7, .inl (cA 0, 4, .inl f)), (ln, .inr (0, [.ref vb'_2, .int 0, .int ml'_19, .int (nI ((lnT k f 4).length))])), (vb'_2, .inl (cA 2, nb'_2, .inl g'_19))]) [0, 1, 2, 3, 4] (by decide) rfl
                have hFc := va_free (wc := [(o, .inr (4, [.ref F, .ref G, .int lo, .int nw, .int se, .ref (pa 0), .ref an, .ref ln])), cE x xv, (x 7, .inl (cA 0, 4, .inl f)), (ln, .inr (0, [.ref vb'_2, .int 0, .int ml'_19, .int (nI ((lnT k f 4).length))])), (vb'_2, .inl (cA 2, nb'_2, .inl g'_19))]) hD hS hA [0, 1, 2, 3, 4] rfl
                refine va_calli (va_runV (As := [.int n]) (rest := [.int (nI ((lnT k f j).length + 2))]) ⟨hx, hb, hml, hown, hts⟩ (c_n_lineLength l D cA zv H.size o F G lo nw se pa an ln x y0 n xv k vb'_2 nb'_2 ((lnT k f 4).length) ml'_19 f g'_19 he hk hk0 hok hoL_20.1 (by have q9 := hoL_20.2.1; omega) hoL_20.2.2.1 (okL_le hoL_20)) (cwV 1 hts gL_isLine_X3_lineLength rfl rfl rfl (by decide +kernel) ⟨Nat.le_of_ble_eq_true rfl, Nat.le_of_ble_eq_true rfl⟩) ⟨zUX_blind, va_recv hK hPc (ci := 4) (q0 := 0) rfl rfl, fun U hU hW => ⟨rfl, zUX_call hE0 hX0 hS hFc hU hPc hW hK hDc⟩⟩ rfl rfl hl.1 rfl (lv_room (Nat.le_of_ble_eq_true rfl)) dL_isLine_134 ⟨Nat.le_of_ble_eq_true rfl, Nat.le_of_ble_eq_true rfl⟩) hS (fun q _ h => hFc q h) hFc (fun zr u t H1 locs ht hvm hw hB hz1 hk1 hS => ?_)
                obtain ⟨ml'_26, g'_26⟩ := u
                obtain ⟨hP1, hD1⟩ := hB
                rw [ht] at hP1
                try dsimp only at hw hP1 hD1
                obtain ⟨hP, hD⟩ := va_join (wr := []) (w1 := [(o, .inr (4, [.ref F, .ref G, .int lo, .int nw, .int se, .ref (pa 0), .ref an, .ref ln])), cE x xv, (x 7, .inl (cA 0, 4, .inl f)), (ln, .inr (0, [.ref vb'_2, .int 0, .int ml'_26, .int (nI ((lnT k f 4).length))])), (vb'_2, .inl (cA 2, nb'_2, .inl g'_26))]) hP hD [0, 1, 2, 3, 4] [] rfl rfl (by decide) (by decide) hk1 hFc hP1 hD1
                generalize H1 = H at hP hS ⊢
                have hP := hP.sub (ws' := [(o, .inr (4, [.ref F, .ref G, .int lo, .int nw, .int se, .ref (pa 0), .ref an, .ref ln])), cE x xv, (x 7, .inl (cA 0, 4, .inl f)), (ln, .inr (0, [.ref vb'_2, .int 0, .int ml'_26, .int (nI ((lnT k f 4).length))])), (vb'_2, .inl (cA 2, nb'_2, .inl g'_26))]) [0, 1, 2, 3, 4] rfl
                have hD := hD.sub (ws' := [(o, .inr (4, [.ref F, .ref G, .int lo, .int nw, .int se, .ref (pa 0), .ref an, .ref ln])), cE x xv, (x 7, .inl (cA 0, 4, .inl f)), (ln, .inr (0, [.ref vb'_2, .int 0, .int ml'_26, .int (nI ((lnT k f 4).length))])), (vb'_2, .inl (cA 2, nb'_2, .inl g'_26))]) [0, 1, 2, 3, 4] (by decide) rfl
                clear hPc hDc hFc hP1 hD1 hk1 hz1
                obtain ⟨hw_26_0, hw_26_1⟩ := hw
                obtain rfl := hw_26_1
                have hoL_27 := okL_of hw_26_0
                refine lv_icmp_ge (tgt := 164) hx hb dL_isLine_137 (by decide) (fun c_28 => ?_) (fun c_28 => ?_)
                · have c_28 := (nI_leI (a := (lnT k f 4).length) (b := (lnT k f j).length + 2) (by omega) (by omega)).mp c_28
                  omega
                · have c_28 := mt (nI_leI (a := (lnT k f 4).length) (b := (lnT k f j).length + 2) (by omega) (by omega)).mpr c_28
                  refine lv_aload_n hx hb dL_isLine_140 rfl (lv_at hl 5 rfl) ?_
                  refine lv_iload_n hx hb dL_isLine_141 rfl (lv_at hl 6 rfl) ?_
                  refine lv_iload_n hx hb dL_isLine_142 rfl (lv_at hl 1 rfl) ?_
                  have hPc := hP.sub (ws' := [(o, .inr (4, [.ref F, .ref G, .int lo, .int nw, .int se, .ref (pa 0), .ref an, .ref ln])), cE x xv, (x 7, .inl (cA 0, 4, .inl f)), (ln, .inr (0, [.ref vb'_2, .int 0, .int ml'_26, .int (nI ((lnT k f 4).length))])), (vb'_2, .inl (cA 2, nb'_2, .inl g'_26))]) [0, 1, 2, 3, 4] rfl
                  have hDc := hD.sub (ws' := [(o, .inr (4, [.ref F, .ref G, .int lo, .int nw, .int se, .ref (pa 0), .ref an, .ref ln])), cE x xv, (x 7, .inl (cA 0, 4, .inl f)), (ln, .inr (0, [.ref vb'_2, .int 0, .int ml'_26, .int (nI ((lnT k f 4).length))])), (vb'_2, .inl (cA 2, nb'_2, .inl g'_26))]) [0, 1, 2, 3, 4] (by decide) rfl
                  have hFc := va_free (wc := [(o, .inr (4, [.ref F, .ref G, .int lo, .int nw, .int se, .ref (pa 0), .ref an, .ref ln])), cE x xv, (x 7, .inl (cA 0, 4, .inl f)), (ln, .inr (0, [.ref vb'_2, .int 0, .int ml'_26, .int (nI ((lnT k f 4).length))])), (vb'_2, .inl (cA 2, nb'_2, .inl g'_26))]) hD hS hA [0, 1, 2, 3, 4] rfl
                  refine va_calli (va_runV (As := [.int n, .int (nI ((lnT k f j).length + 2))]) (rest := []) ⟨hx, hb, hml, hown, hts⟩ (c_n_lineChar l D cA zv H.size o F G lo nw se pa an ln x y0 n xv k vb'_2 nb'_2 ((lnT k f 4).length) ml'_26 f g'_26 ((lnT k f j).length + 2) he hk hk0 hok hoL_27.1 (by have q9 := hoL_27.2.1; omega) hoL_27.2.2.1 (okL_le hoL_27) (by omega)) (cwV 2 hts gL_isLine_X3_lineChar rfl rfl rfl (by decide +kernel) ⟨Nat.le_of_ble_eq_true rfl, Nat.le_of_ble_eq_true rfl⟩) ⟨zUX_blind, va_recv hK hPc (ci := 4) (q0 := 0) rfl rfl, fun U hU hW => ⟨rfl, zUX_call hE0 hX0 hS hFc hU hPc hW hK hDc⟩⟩ rfl rfl hl.1 rfl (lv_room (Nat.le_of_ble_eq_true rfl)) dL_isLine_143 ⟨Nat.le_of_ble_eq_true rfl, Nat.le_of_ble_eq_true rfl⟩) hS (fun q _ h => hFc q h) hFc (fun zr u t H1 locs ht hvm hw hB hz1 hk1 hS => ?_)
                  obtain ⟨ml'_29, g'_29⟩ := u
                  obtain ⟨hP1, hD1⟩ := hB
                  rw [ht] at hP1
                  try dsimp only at hw hP1 hD1
                  obtain ⟨hP, hD⟩ := va_join (wr := []) (w1 := [(o, .inr (4, [.ref F, .ref G, .int lo, .int nw, .int se, .ref (pa 0), .ref an, .ref ln])), cE x xv, (x 7, .inl (cA 0, 4, .inl f)), (ln, .inr (0, [.ref vb'_2, .int 0, .int ml'_29, .int (nI ((lnT k f 4).length))])), (vb'_2, .inl (cA 2, nb'_2, .inl g'_29))]) hP hD [0, 1, 2, 3, 4] [] rfl rfl (by decide) (by decide) hk1 hFc hP1 hD1
                  generalize H1 = H at hP hS ⊢
                  have hP := hP.sub (ws' := [(o, .inr (4, [.ref F, .ref G, .int lo, .int nw, .int se, .ref (pa 0), .ref an, .ref ln])), cE x xv, (x 7, .inl (cA 0, 4, .inl f)), (ln, .inr (0, [.ref vb'_2, .int 0, .int ml'_29, .int (nI ((lnT k f 4).length))])), (vb'_2, .inl (cA 2, nb'_2, .inl g'_29))]) [0, 1, 2, 3, 4] rfl
                  have hD := hD.sub (ws' := [(o, .inr (4, [.ref F, .ref G, .int lo, .int nw, .int se, .ref (pa 0), .ref an, .ref ln])), cE x xv, (x 7, .inl (cA 0, 4, .inl f)), (ln, .inr (0, [.ref vb'_2, .int 0, .int ml'_29, .int (nI ((lnT k f 4).length))])), (vb'_2, .inl (cA 2, nb'_2, .inl g'_29))]) [0, 1, 2, 3, 4] (by decide) rfl
                  clear hPc hDc hFc hP1 hD1 hk1 hz1
                  obtain ⟨hw_29_0, hw_29_1⟩ := hw
                  obtain rfl := hw_29_1
                  have hoL_30 := okL_of hw_29_0
                  refine z_top (y := (nI (48 + vv / 1 % 10))) (dg_a (by omega) hfv (by omega)) ?_
                  refine lv_bipush (v := 48) hx hb dL_isLine_146 (by decide) ?_
                  refine lv_iload hx hb dL_isLine_148 (lv_at hl 3 rfl) ?_
                  refine lv_iload hx hb dL_isLine_150 (lv_at hl 0 rfl) ?_
                  refine lv_idiv hx hb dL_isLine_152 (by decide) ?_
                  refine z_top (y := (nI (vv / 1))) (z_div (a := vv) (d := 1) (by omega) (by omega) (by omega)) ?_
                  refine lv_bipush (v := 10) hx hb dL_isLine_153 (by decide) ?_
                  refine lv_irem hx hb dL_isLine_155 (by decide) ?_
                  refine z_top (y := (nI ((vv / 1) % 10))) (z_rem (a := (vv / 1)) (d := 10) (by omega) (by omega) (by omega)) ?_
                  refine lv_iadd hx hb dL_isLine_156 ?_
                  refine z_top (y := (nI (48 + ((vv / 1) % 10)))) (z_add 48 ((vv / 1) % 10)) ?_
                  refine lv_icmp_ne (tgt := 164) hx hb dL_isLine_157 (by decide) (fun c_31 => ?_) (fun c_31 => ?_)
                  · have c_31 := mt (nI_eq (a := 48 + vv / 1 % 10) (b := 48 + ((vv / 1) % 10)) (by omega) (by omega)).mpr c_31
                    omega
                  · have c_31 := (nI_eq (a := 48 + vv / 1 % 10) (b := 48 + ((vv / 1) % 10)) (by omega) (by omega)).mp c_31
                    refine lv_iconst (v := 1) hx hb dL_isLine_160 (by decide) ?_
                    refine lv_goto (tgt := 165) hx hb dL_isLine_161 (by decide) ?_
                    refine lv_istore_n (lv' := [(3, .int 1), (6, .int 1), (2, .int (nI ((lnT k f j).length + 2))), (5, .int (nI vv)), (4, .int (nI j)), (0, .ref o), (1, .int n)]) hx hb dL_isLine_165 rfl hl (by decide) rfl (fun ls hl => ?_)
                    refine lv_iinc (v := nI ((lnT k f j).length + 3)) (lv' := [(2, .int (nI ((lnT k f j).length + 3))), (3, .int 1), (6, .int 1), (5, .int (nI vv)), (4, .int (nI j)), (0, .ref o), (1, .int n)]) hx hb dL_isLine_166 hl (k := 2) rfl (z_inc ((lnT k f j).length + 2) 1) (by decide) rfl (fun ls hl => ?_)
                    refine lv_iload hx hb dL_isLine_169 (lv_at hl 2 rfl) ?_
                    refine lv_bipush (v := 10) hx hb dL_isLine_171 (by decide) ?_
                    refine lv_idiv hx hb dL_isLine_173 (by decide) ?_
                    refine z_top (y := 0) (by decide) ?_
                    refine lv_istore (lv' := [(6, .int 0), (2, .int (nI ((lnT k f j).length + 3))), (3, .int 1), (5, .int (nI vv)), (4, .int (nI j)), (0, .ref o), (1, .int n)]) hx hb dL_isLine_174 hl (by decide) rfl (fun ls hl => ?_)
                    refine lv_goto (tgt := 122) hx hb dL_isLine_176 (by decide) ?_
                    refine lv_iload hx hb dL_isLine_122 (lv_at hl 0 rfl) ?_
                    refine lv_if_le (tgt := 179) hx hb dL_isLine_124 (by decide) (fun _ => ?_) (fun c_32 => absurd c_32 (by decide))
                    refine lv_iinc (v := nI (j + 1)) (lv' := [(4, .int (nI (j + 1))), (6, .int 0), (2, .int (nI ((lnT k f j).length + 3))), (3, .int 1), (5, .int (nI vv)), (0, .ref o), (1, .int n)]) hx hb dL_isLine_179 hl (k := 4) rfl (z_inc j 1) (by decide) rfl (fun ls hl => ?_)
                    refine lv_goto (tgt := 24) hx hb dL_isLine_182 (by decide) ?_
                    exact ih_j _ _ _ (by omega) ⟨ml'_29, g'_29, hP, hD, hS, (by rw [show nI ((lnT k f (j + 1)).length) = nI ((lnT k f j).length + 3) from (congrArg nI (by omega))]; exact lv_sub hl [0, 3, 2, 5, 6] rfl), hoL_30⟩
              · have c_23 := mt (nI_leI (a := vv) (b := 9) (by omega) (by omega)).mpr c_23
                have hlb := lnD_lb (v := vv) (by omega) (by omega)
                refine lv_bipush (v := 10) hx hb dL_isLine_114 (by decide) ?_
                refine lv_goto (tgt := 120) hx hb dL_isLine_116 (by decide) ?_
                refine lv_istore (lv' := [(6, .int 10), (2, .int (nI ((lnT k f j).length + 2))), (3, .int 1), (5, .int (nI vv)), (4, .int (nI j)), (0, .ref o), (1, .int n)]) hx hb dL_isLine_120 hl (by decide) rfl (fun ls hl => ?_)
                refine lv_iload hx hb dL_isLine_122 (lv_at hl 0 rfl) ?_
                refine lv_if_le (tgt := 179) hx hb dL_isLine_124 (by decide) (fun c_33 => absurd c_33 (by decide)) (fun _ => ?_)
                refine lv_iload_n hx hb dL_isLine_127 rfl (lv_at hl 2 rfl) ?_
                refine lv_if_eq (tgt := 179) hx hb dL_isLine_128 (by decide) (fun c_34 => absurd c_34 (by decide)) (fun _ => ?_)
                refine lv_iload_n hx hb dL_isLine_131 rfl (lv_at hl 1 rfl) ?_
                refine lv_aload_n hx hb dL_isLine_132 rfl (lv_at hl 5 rfl) ?_
                refine lv_iload_n hx hb dL_isLine_133 rfl (lv_at hl 6 rfl) ?_
                have hPc := hP.sub (ws' := [(o, .inr (4, [.ref F, .ref G, .int lo, .int nw, .int se, .ref (pa 0), .ref an, .ref ln])), cE x xv, (x 7, .inl (cA 0, 4, .inl f)), (ln, .inr (0, [.ref vb'_2, .int 0, .int ml'_19, .int (nI ((lnT k f 4).length))])), (vb'_2, .inl (cA 2, nb'_2, .inl g'_19))]) [0, 1, 2, 3, 4] rfl
                have hDc := hD.sub (ws' := [(o, .inr (4, [.ref F, .ref G, .int lo, .int nw, .int se, .ref (pa 0), .ref an, .ref ln])), cE x xv, (x 7, .inl (cA 0, 4, .inl f)), (ln, .inr (0, [.ref vb'_2, .int 0, .int ml'_19, .int (nI ((lnT k f 4).length))])), (vb'_2, .inl (cA 2, nb'_2, .inl g'_19))]) [0, 1, 2, 3, 4] (by decide) rfl
                have hFc := va_free (wc := [(o, .inr (4, [.ref F, .ref G, .int lo, .int nw, .int se, .ref (pa 0), .ref an, .ref ln])), cE x xv, (x 7, .inl (cA 0, 4, .inl f)), (ln, .inr (0, [.ref vb'_2, .int 0, .int ml'_19, .int (nI ((lnT k f 4).length))])), (vb'_2, .inl (cA 2, nb'_2, .inl g'_19))]) hD hS hA [0, 1, 2, 3, 4] rfl
                refine va_calli (va_runV (As := [.int n]) (rest := [.int (nI ((lnT k f j).length + 2))]) ⟨hx, hb, hml, hown, hts⟩ (c_n_lineLength l D cA zv H.size o F G lo nw se pa an ln x y0 n xv k vb'_2 nb'_2 ((lnT k f 4).length) ml'_19 f g'_19 he hk hk0 hok hoL_20.1 (by have q9 := hoL_20.2.1; omega) hoL_20.2.2.1 (okL_le hoL_20)) (cwV 1 hts gL_isLine_X3_lineLength rfl rfl rfl (by decide +kernel) ⟨Nat.le_of_ble_eq_true rfl, Nat.le_of_ble_eq_true rfl⟩) ⟨zUX_blind, va_recv hK hPc (ci := 4) (q0 := 0) rfl rfl, fun U hU hW => ⟨rfl, zUX_call hE0 hX0 hS hFc hU hPc hW hK hDc⟩⟩ rfl rfl hl.1 rfl (lv_room (Nat.le_of_ble_eq_true rfl)) dL_isLine_134 ⟨Nat.le_of_ble_eq_true rfl, Nat.le_of_ble_eq_true rfl⟩) hS (fun q _ h => hFc q h) hFc (fun zr u t H1 locs ht hvm hw hB hz1 hk1 hS => ?_)
                obtain ⟨ml'_35, g'_35⟩ := u
                obtain ⟨hP1, hD1⟩ := hB
                rw [ht] at hP1
                try dsimp only at hw hP1 hD1
                obtain ⟨hP, hD⟩ := va_join (wr := []) (w1 := [(o, .inr (4, [.ref F, .ref G, .int lo, .int nw, .int se, .ref (pa 0), .ref an, .ref ln])), cE x xv, (x 7, .inl (cA 0, 4, .inl f)), (ln, .inr (0, [.ref vb'_2, .int 0, .int ml'_35, .int (nI ((lnT k f 4).length))])), (vb'_2, .inl (cA 2, nb'_2, .inl g'_35))]) hP hD [0, 1, 2, 3, 4] [] rfl rfl (by decide) (by decide) hk1 hFc hP1 hD1
                generalize H1 = H at hP hS ⊢
                have hP := hP.sub (ws' := [(o, .inr (4, [.ref F, .ref G, .int lo, .int nw, .int se, .ref (pa 0), .ref an, .ref ln])), cE x xv, (x 7, .inl (cA 0, 4, .inl f)), (ln, .inr (0, [.ref vb'_2, .int 0, .int ml'_35, .int (nI ((lnT k f 4).length))])), (vb'_2, .inl (cA 2, nb'_2, .inl g'_35))]) [0, 1, 2, 3, 4] rfl
                have hD := hD.sub (ws' := [(o, .inr (4, [.ref F, .ref G, .int lo, .int nw, .int se, .ref (pa 0), .ref an, .ref ln])), cE x xv, (x 7, .inl (cA 0, 4, .inl f)), (ln, .inr (0, [.ref vb'_2, .int 0, .int ml'_35, .int (nI ((lnT k f 4).length))])), (vb'_2, .inl (cA 2, nb'_2, .inl g'_35))]) [0, 1, 2, 3, 4] (by decide) rfl
                clear hPc hDc hFc hP1 hD1 hk1 hz1
                obtain ⟨hw_35_0, hw_35_1⟩ := hw
                obtain rfl := hw_35_1
                have hoL_36 := okL_of hw_35_0
                refine lv_icmp_ge (tgt := 164) hx hb dL_isLine_137 (by decide) (fun c_37 => ?_) (fun c_37 => ?_)
                · have c_37 := (nI_leI (a := (lnT k f 4).length) (b := (lnT k f j).length + 2) (by omega) (by omega)).mp c_37
                  omega
                · have c_37 := mt (nI_leI (a := (lnT k f 4).length) (b := (lnT k f j).length + 2) (by omega) (by omega)).mpr c_37
                  refine lv_aload_n hx hb dL_isLine_140 rfl (lv_at hl 5 rfl) ?_
                  refine lv_iload_n hx hb dL_isLine_141 rfl (lv_at hl 6 rfl) ?_
                  refine lv_iload_n hx hb dL_isLine_142 rfl (lv_at hl 1 rfl) ?_
                  have hPc := hP.sub (ws' := [(o, .inr (4, [.ref F, .ref G, .int lo, .int nw, .int se, .ref (pa 0), .ref an, .ref ln])), cE x xv, (x 7, .inl (cA 0, 4, .inl f)), (ln, .inr (0, [.ref vb'_2, .int 0, .int ml'_35, .int (nI ((lnT k f 4).length))])), (vb'_2, .inl (cA 2, nb'_2, .inl g'_35))]) [0, 1, 2, 3, 4] rfl
                  have hDc := hD.sub (ws' := [(o, .inr (4, [.ref F, .ref G, .int lo, .int nw, .int se, .ref (pa 0), .ref an, .ref ln])), cE x xv, (x 7, .inl (cA 0, 4, .inl f)), (ln, .inr (0, [.ref vb'_2, .int 0, .int ml'_35, .int (nI ((lnT k f 4).length))])), (vb'_2, .inl (cA 2, nb'_2, .inl g'_35))]) [0, 1, 2, 3, 4] (by decide) rfl
                  have hFc := va_free (wc := [(o, .inr (4, [.ref F, .ref G, .int lo, .int nw, .int se, .ref (pa 0), .ref an, .ref ln])), cE x xv, (x 7, .inl (cA 0, 4, .inl f)), (ln, .inr (0, [.ref vb'_2, .int 0, .int ml'_35, .int (nI ((lnT k f 4).length))])), (vb'_2, .inl (cA 2, nb'_2, .inl g'_35))]) hD hS hA [0, 1, 2, 3, 4] rfl
                  refine va_calli (va_runV (As := [.int n, .int (nI ((lnT k f j).length + 2))]) (rest := []) ⟨hx, hb, hml, hown, hts⟩ (c_n_lineChar l D cA zv H.size o F G lo nw se pa an ln x y0 n xv k vb'_2 nb'_2 ((lnT k f 4).length) ml'_35 f g'_35 ((lnT k f j).length + 2) he hk hk0 hok hoL_36.1 (by have q9 := hoL_36.2.1; omega) hoL_36.2.2.1 (okL_le hoL_36) (by omega)) (cwV 2 hts gL_isLine_X3_lineChar rfl rfl rfl (by decide +kernel) ⟨Nat.le_of_ble_eq_true rfl, Nat.le_of_ble_eq_true rfl⟩) ⟨zUX_blind, va_recv hK hPc (ci := 4) (q0 := 0) rfl rfl, fun U hU hW => ⟨rfl, zUX_call hE0 hX0 hS hFc hU hPc hW hK hDc⟩⟩ rfl rfl hl.1 rfl (lv_room (Nat.le_of_ble_eq_true rfl)) dL_isLine_143 ⟨Nat.le_of_ble_eq_true rfl, Nat.le_of_ble_eq_true rfl⟩) hS (fun q _ h => hFc q h) hFc (fun zr u t H1 locs ht hvm hw hB hz1 hk1 hS => ?_)
                  obtain ⟨ml'_38, g'_38⟩ := u
                  obtain ⟨hP1, hD1⟩ := hB
                  rw [ht] at hP1
                  try dsimp only at hw hP1 hD1
                  obtain ⟨hP, hD⟩ := va_join (wr := []) (w1 := [(o, .inr (4, [.ref F, .ref G, .int lo, .int nw, .int se, .ref (pa 0), .ref an, .ref ln])), cE x xv, (x 7, .inl (cA 0, 4, .inl f)), (ln, .inr (0, [.ref vb'_2, .int 0, .int ml'_38, .int (nI ((lnT k f 4).length))])), (vb'_2, .inl (cA 2, nb'_2, .inl g'_38))]) hP hD [0, 1, 2, 3, 4] [] rfl rfl (by decide) (by decide) hk1 hFc hP1 hD1
                  generalize H1 = H at hP hS ⊢
                  have hP := hP.sub (ws' := [(o, .inr (4, [.ref F, .ref G, .int lo, .int nw, .int se, .ref (pa 0), .ref an, .ref ln])), cE x xv, (x 7, .inl (cA 0, 4, .inl f)), (ln, .inr (0, [.ref vb'_2, .int 0, .int ml'_38, .int (nI ((lnT k f 4).length))])), (vb'_2, .inl (cA 2, nb'_2, .inl g'_38))]) [0, 1, 2, 3, 4] rfl
                  have hD := hD.sub (ws' := [(o, .inr (4, [.ref F, .ref G, .int lo, .int nw, .int se, .ref (pa 0), .ref an, .ref ln])), cE x xv, (x 7, .inl (cA 0, 4, .inl f)), (ln, .inr (0, [.ref vb'_2, .int 0, .int ml'_38, .int (nI ((lnT k f 4).length))])), (vb'_2, .inl (cA 2, nb'_2, .inl g'_38))]) [0, 1, 2, 3, 4] (by decide) rfl
                  clear hPc hDc hFc hP1 hD1 hk1 hz1
                  obtain ⟨hw_38_0, hw_38_1⟩ := hw
                  obtain rfl := hw_38_1
                  have hoL_39 := okL_of hw_38_0
                  refine z_top (y := (nI (48 + vv / 10 % 10))) (dg_b0 (by omega) hfv (by omega) (by omega)) ?_
                  refine lv_bipush (v := 48) hx hb dL_isLine_146 (by decide) ?_
                  refine lv_iload hx hb dL_isLine_148 (lv_at hl 3 rfl) ?_
                  refine lv_iload hx hb dL_isLine_150 (lv_at hl 0 rfl) ?_
                  refine lv_idiv hx hb dL_isLine_152 (by decide) ?_
                  refine z_top (y := (nI (vv / 10))) (z_div (a := vv) (d := 10) (by omega) (by omega) (by omega)) ?_
                  refine lv_bipush (v := 10) hx hb dL_isLine_153 (by decide) ?_
                  refine lv_irem hx hb dL_isLine_155 (by decide) ?_
                  refine z_top (y := (nI ((vv / 10) % 10))) (z_rem (a := (vv / 10)) (d := 10) (by omega) (by omega) (by omega)) ?_
                  refine lv_iadd hx hb dL_isLine_156 ?_
                  refine z_top (y := (nI (48 + ((vv / 10) % 10)))) (z_add 48 ((vv / 10) % 10)) ?_
                  refine lv_icmp_ne (tgt := 164) hx hb dL_isLine_157 (by decide) (fun c_40 => ?_) (fun c_40 => ?_)
                  · have c_40 := mt (nI_eq (a := 48 + vv / 10 % 10) (b := 48 + ((vv / 10) % 10)) (by omega) (by omega)).mpr c_40
                    omega
                  · have c_40 := (nI_eq (a := 48 + vv / 10 % 10) (b := 48 + ((vv / 10) % 10)) (by omega) (by omega)).mp c_40
                    refine lv_iconst (v := 1) hx hb dL_isLine_160 (by decide) ?_
                    refine lv_goto (tgt := 165) hx hb dL_isLine_161 (by decide) ?_
                    refine lv_istore_n (lv' := [(3, .int 1), (6, .int 10), (2, .int (nI ((lnT k f j).length + 2))), (5, .int (nI vv)), (4, .int (nI j)), (0, .ref o), (1, .int n)]) hx hb dL_isLine_165 rfl hl (by decide) rfl (fun ls hl => ?_)
                    refine lv_iinc (v := nI ((lnT k f j).length + 3)) (lv' := [(2, .int (nI ((lnT k f j).length + 3))), (3, .int 1), (6, .int 10), (5, .int (nI vv)), (4, .int (nI j)), (0, .ref o), (1, .int n)]) hx hb dL_isLine_166 hl (k := 2) rfl (z_inc ((lnT k f j).length + 2) 1) (by decide) rfl (fun ls hl => ?_)
                    refine lv_iload hx hb dL_isLine_169 (lv_at hl 2 rfl) ?_
                    refine lv_bipush (v := 10) hx hb dL_isLine_171 (by decide) ?_
                    refine lv_idiv hx hb dL_isLine_173 (by decide) ?_
                    refine z_top (y := 1) (by decide) ?_
                    refine lv_istore (lv' := [(6, .int 1), (2, .int (nI ((lnT k f j).length + 3))), (3, .int 1), (5, .int (nI vv)), (4, .int (nI j)), (0, .ref o), (1, .int n)]) hx hb dL_isLine_174 hl (by decide) rfl (fun ls hl => ?_)
                    refine lv_goto (tgt := 122) hx hb dL_isLine_176 (by decide) ?_
                    refine lv_iload hx hb dL_isLine_122 (lv_at hl 0 rfl) ?_
                    refine lv_if_le (tgt := 179) hx hb dL_isLine_124 (by decide) (fun c_41 => absurd c_41 (by decide)) (fun _ => ?_)
                    refine lv_iload_n hx hb dL_isLine_127 rfl (lv_at hl 2 rfl) ?_
                    refine lv_if_eq (tgt := 179) hx hb dL_isLine_128 (by decide) (fun c_42 => absurd c_42 (by decide)) (fun _ => ?_)
                    refine lv_iload_n hx hb dL_isLine_131 rfl (lv_at hl 1 rfl) ?_
                    refine lv_aload_n hx hb dL_isLine_132 rfl (lv_at hl 5 rfl) ?_
                    refine lv_iload_n hx hb dL_isLine_133 rfl (lv_at hl 6 rfl) ?_
                    have hPc := hP.sub (ws' := [(o, .inr (4, [.ref F, .ref G, .int lo, .int nw, .int se, .ref (pa 0), .ref an, .ref ln])), cE x xv, (x 7, .inl (cA 0, 4, .inl f)), (ln, .inr (0, [.ref vb'_2, .int 0, .int ml'_38, .int (nI ((lnT k f 4).length))])), (vb'_2, .inl (cA 2, nb'_2, .inl g'_38))]) [0, 1, 2, 3, 4] rfl
                    have hDc := hD.sub (ws' := [(o, .inr (4, [.ref F, .ref G, .int lo, .int nw, .int se, .ref (pa 0), .ref an, .ref ln])), cE x xv, (x 7, .inl (cA 0, 4, .inl f)), (ln, .inr (0, [.ref vb'_2, .int 0, .int ml'_38, .int (nI ((lnT k f 4).length))])), (vb'_2, .inl (cA 2, nb'_2, .inl g'_38))]) [0, 1, 2, 3, 4] (by decide) rfl
                    have hFc := va_free (wc := [(o, .inr (4, [.ref F, .ref G, .int lo, .int nw, .int se, .ref (pa 0), .ref an, .ref ln])), cE x xv, (x 7, .inl (cA 0, 4, .inl f)), (ln, .inr (0, [.ref vb'_2, .int 0, .int ml'_38, .int (nI ((lnT k f 4).length))])), (vb'_2, .inl (cA 2, nb'_2, .inl g'_38))]) hD hS hA [0, 1, 2, 3, 4] rfl
                    refine va_calli (va_runV (As := [.int n]) (rest := [.int (nI ((lnT k f j).length + 3))]) ⟨hx, hb, hml, hown, hts⟩ (c_n_lineLength l D cA zv H.size o F G lo nw se pa an ln x y0 n xv k vb'_2 nb'_2 ((lnT k f 4).length) ml'_38 f g'_38 he hk hk0 hok hoL_39.1 (by have q9 := hoL_39.2.1; omega) hoL_39.2.2.1 (okL_le hoL_39)) (cwV 1 hts gL_isLine_X3_lineLength rfl rfl rfl (by decide +kernel) ⟨Nat.le_of_ble_eq_true rfl, Nat.le_of_ble_eq_true rfl⟩) ⟨zUX_blind, va_recv hK hPc (ci := 4) (q0 := 0) rfl rfl, fun U hU hW => ⟨rfl, zUX_call hE0 hX0 hS hFc hU hPc hW hK hDc⟩⟩ rfl rfl hl.1 rfl (lv_room (Nat.le_of_ble_eq_true rfl)) dL_isLine_134 ⟨Nat.le_of_ble_eq_true rfl, Nat.le_of_ble_eq_true rfl⟩) hS (fun q _ h => hFc q h) hFc (fun zr u t H1 locs ht hvm hw hB hz1 hk1 hS => ?_)
                    obtain ⟨ml'_43, g'_43⟩ := u
                    obtain ⟨hP1, hD1⟩ := hB
                    rw [ht] at hP1
                    try dsimp only at hw hP1 hD1
                    obtain ⟨hP, hD⟩ := va_join (wr := []) (w1 := [(o, .inr (4, [.ref F, .ref G, .int lo, .int nw, .int se, .ref (pa 0), .ref an, .ref ln])), cE x xv, (x 7, .inl (cA 0, 4, .inl f)), (ln, .inr (0, [.ref vb'_2, .int 0, .int ml'_43, .int (nI ((lnT k f 4).length))])), (vb'_2, .inl (cA 2, nb'_2, .inl g'_43))]) hP hD [0, 1, 2, 3, 4] [] rfl rfl (by decide) (by decide) hk1 hFc hP1 hD1
                    generalize H1 = H at hP hS ⊢
                    have hP := hP.sub (ws' := [(o, .inr (4, [.ref F, .ref G, .int lo, .int nw, .int se, .ref (pa 0), .ref an, .ref ln])), cE x xv, (x 7, .inl (cA 0, 4, .inl f)), (ln, .inr (0, [.ref vb'_2, .int 0, .int ml'_43, .int (nI ((lnT k f 4).length))])), (vb'_2, .inl (cA 2, nb'_2, .inl g'_43))]) [0, 1, 2, 3, 4] rfl
                    have hD := hD.sub (ws' := [(o, .inr (4, [.ref F, .ref G, .int lo, .int nw, .int se, .ref (pa 0), .ref an, .ref ln])), cE x xv, (x 7, .inl (cA 0, 4, .inl f)), (ln, .inr (0, [.ref vb'_2, .int 0, .int ml'_43, .int (nI ((lnT k f 4).length))])), (vb'_2, .inl (cA 2, nb'_2, .inl g'_43))]) [0, 1, 2, 3, 4] (by decide) rfl
                    clear hPc hDc hFc hP1 hD1 hk1 hz1
                    obtain ⟨hw_43_0, hw_43_1⟩ := hw
                    obtain rfl := hw_43_1
                    have hoL_44 := okL_of hw_43_0
                    refine lv_icmp_ge (tgt := 164) hx hb dL_isLine_137 (by decide) (fun c_45 => ?_) (fun c_45 => ?_)
                    · have c_45 := (nI_leI (a := (lnT k f 4).length) (b := (lnT k f j).length + 3) (by omega) (by omega)).mp c_45
                      omega
                    · have c_45 := mt (nI_leI (a := (lnT k f 4).length) (b := (lnT k f j).length + 3) (by omega) (by omega)).mpr c_45
                      refine lv_aload_n hx hb dL_isLine_140 rfl (lv_at hl 5 rfl) ?_
                      refine lv_iload_n hx hb dL_isLine_141 rfl (lv_at hl 6 rfl) ?_
                      refine lv_iload_n hx hb dL_isLine_142 rfl (lv_at hl 1 rfl) ?_
                      have hPc := hP.sub (ws' := [(o, .inr (4, [.ref F, .ref G, .int lo, .int nw, .int se, .ref (pa 0), .ref an, .ref ln])), cE x xv, (x 7, .inl (cA 0, 4, .inl f)), (ln, .inr (0, [.ref vb'_2, .int 0, .int ml'_43, .int (nI ((lnT k f 4).length))])), (vb'_2, .inl (cA 2, nb'_2, .inl g'_43))]) [0, 1, 2, 3, 4] rfl
                      have hDc := hD.sub (ws' := [(o, .inr (4, [.ref F, .ref G, .int lo, .int nw, .int se, .ref (pa 0), .ref an, .ref ln])), cE x xv, (x 7, .inl (cA 0, 4, .inl f)), (ln, .inr (0, [.ref vb'_2, .int 0, .int ml'_43, .int (nI ((lnT k f 4).length))])), (vb'_2, .inl (cA 2, nb'_2, .inl g'_43))]) [0, 1, 2, 3, 4] (by decide) rfl
                      have hFc := va_free (wc := [(o, .inr (4, [.ref F, .ref G, .int lo, .int nw, .int se, .ref (pa 0), .ref an, .ref ln])), cE x xv, (x 7, .inl (cA 0, 4, .inl f)), (ln, .inr (0, [.ref vb'_2, .int 0, .int ml'_43, .int (nI ((lnT k f 4).length))])), (vb'_2, .inl (cA 2, nb'_2, .inl g'_43))]) hD hS hA [0, 1, 2, 3, 4] rfl
                      refine va_calli (va_runV (As := [.int n, .int (nI ((lnT k f j).length + 3))]) (rest := []) ⟨hx, hb, hml, hown, hts⟩ (c_n_lineChar l D cA zv H.size o F G lo nw se pa an ln x y0 n xv k vb'_2 nb'_2 ((lnT k f 4).length) ml'_43 f g'_43 ((lnT k f j).length + 3) he hk hk0 hok hoL_44.1 (by have q9 := hoL_44.2.1; omega) hoL_44.2.2.1 (okL_le hoL_44) (by omega)) (cwV 2 hts gL_isLine_X3_lineChar rfl rfl rfl (by decide +kernel) ⟨Nat.le_of_ble_eq_true rfl, Nat.le_of_ble_eq_true rfl⟩) ⟨zUX_blind, va_recv hK hPc (ci := 4) (q0 := 0) rfl rfl, fun U hU hW => ⟨rfl, zUX_call hE0 hX0 hS hFc hU hPc hW hK hDc⟩⟩ rfl rfl hl.1 rfl (lv_room (Nat.le_of_ble_eq_true rfl)) dL_isLine_143 ⟨Nat.le_of_ble_eq_true rfl, Nat.le_of_ble_eq_true rfl⟩) hS (fun q _ h => hFc q h) hFc (fun zr u t H1 locs ht hvm hw hB hz1 hk1 hS => ?_)
                      obtain ⟨ml'_46, g'_46⟩ := u
                      obtain ⟨hP1, hD1⟩ := hB
                      rw [ht] at hP1
                      try dsimp only at hw hP1 hD1
                      obtain ⟨hP, hD⟩ := va_join (wr := []) (w1 := [(o, .inr (4, [.ref F, .ref G, .int lo, .int nw, .int se, .ref (pa 0), .ref an, .ref ln])), cE x xv, (x 7, .inl (cA 0, 4, .inl f)), (ln, .inr (0, [.ref vb'_2, .int 0, .int ml'_46, .int (nI ((lnT k f 4).length))])), (vb'_2, .inl (cA 2, nb'_2, .inl g'_46))]) hP hD [0, 1, 2, 3, 4] [] rfl rfl (by decide) (by decide) hk1 hFc hP1 hD1
                      generalize H1 = H at hP hS ⊢
                      have hP := hP.sub (ws' := [(o, .inr (4, [.ref F, .ref G, .int lo, .int nw, .int se, .ref (pa 0), .ref an, .ref ln])), cE x xv, (x 7, .inl (cA 0, 4, .inl f)), (ln, .inr (0, [.ref vb'_2, .int 0, .int ml'_46, .int (nI ((lnT k f 4).length))])), (vb'_2, .inl (cA 2, nb'_2, .inl g'_46))]) [0, 1, 2, 3, 4] rfl
                      have hD := hD.sub (ws' := [(o, .inr (4, [.ref F, .ref G, .int lo, .int nw, .int se, .ref (pa 0), .ref an, .ref ln])), cE x xv, (x 7, .inl (cA 0, 4, .inl f)), (ln, .inr (0, [.ref vb'_2, .int 0, .int ml'_46, .int (nI ((lnT k f 4).length))])), (vb'_2, .inl (cA 2, nb'_2, .inl g'_46))]) [0, 1, 2, 3, 4] (by decide) rfl
                      clear hPc hDc hFc hP1 hD1 hk1 hz1
                      obtain ⟨hw_46_0, hw_46_1⟩ := hw
                      obtain rfl := hw_46_1
                      have hoL_47 := okL_of hw_46_0
                      refine z_top (y := (nI (48 + vv / 1 % 10))) (dg_b1 (by omega) hfv (by omega) (by omega)) ?_
                      refine lv_bipush (v := 48) hx hb dL_isLine_146 (by decide) ?_
                      refine lv_iload hx hb dL_isLine_148 (lv_at hl 3 rfl) ?_
                      refine lv_iload hx hb dL_isLine_150 (lv_at hl 0 rfl) ?_
                      refine lv_idiv hx hb dL_isLine_152 (by decide) ?_
                      refine z_top (y := (nI (vv / 1))) (z_div (a := vv) (d := 1) (by omega) (by omega) (by omega)) ?_
                      refine lv_bipush (v := 10) hx hb dL_isLine_153 (by decide) ?_
                      refine lv_irem hx hb dL_isLine_155 (by decide) ?_
                      refine z_top (y := (nI ((vv / 1) % 10))) (z_rem (a := (vv / 1)) (d := 10) (by omega) (by omega) (by omega)) ?_
                      refine lv_iadd hx hb dL_isLine_156 ?_
                      refine z_top (y := (nI (48 + ((vv / 1) % 10)))) (z_add 48 ((vv / 1) % 10)) ?_
                      refine lv_icmp_ne (tgt := 164) hx hb dL_isLine_157 (by decide) (fun c_48 => ?_) (fun c_48 => ?_)
                      · have c_48 := mt (nI_eq (a := 48 + vv / 1 % 10) (b := 48 + ((vv / 1) % 10)) (by omega) (by omega)).mpr c_48
                        omega
                      · have c_48 := (nI_eq (a := 48 + vv / 1 % 10) (b := 48 + ((vv / 1) % 10)) (by omega) (by omega)).mp c_48
                        refine lv_iconst (v := 1) hx hb dL_isLine_160 (by decide) ?_
                        refine lv_goto (tgt := 165) hx hb dL_isLine_161 (by decide) ?_
                        refine lv_istore_n (lv' := [(3, .int 1), (6, .int 1), (2, .int (nI ((lnT k f j).length + 3))), (5, .int (nI vv)), (4, .int (nI j)), (0, .ref o), (1, .int n)]) hx hb dL_isLine_165 rfl hl (by decide) rfl (fun ls hl => ?_)
                        refine lv_iinc (v := nI ((lnT k f j).length + 4)) (lv' := [(2, .int (nI ((lnT k f j).length + 4))), (3, .int 1), (6, .int 1), (5, .int (nI vv)), (4, .int (nI j)), (0, .ref o), (1, .int n)]) hx hb dL_isLine_166 hl (k := 2) rfl (z_inc ((lnT k f j).length + 3) 1) (by decide) rfl (fun ls hl => ?_)
                        refine lv_iload hx hb dL_isLine_169 (lv_at hl 2 rfl) ?_
                        refine lv_bipush (v := 10) hx hb dL_isLine_171 (by decide) ?_
                        refine lv_idiv hx hb dL_isLine_173 (by decide) ?_
                        refine z_top (y := 0) (by decide) ?_
                        refine lv_istore (lv' := [(6, .int 0), (2, .int (nI ((lnT k f j).length + 4))), (3, .int 1), (5, .int (nI vv)), (4, .int (nI j)), (0, .ref o), (1, .int n)]) hx hb dL_isLine_174 hl (by decide) rfl (fun ls hl => ?_)
                        refine lv_goto (tgt := 122) hx hb dL_isLine_176 (by decide) ?_
                        refine lv_iload hx hb dL_isLine_122 (lv_at hl 0 rfl) ?_
                        refine lv_if_le (tgt := 179) hx hb dL_isLine_124 (by decide) (fun _ => ?_) (fun c_49 => absurd c_49 (by decide))
                        refine lv_iinc (v := nI (j + 1)) (lv' := [(4, .int (nI (j + 1))), (6, .int 0), (2, .int (nI ((lnT k f j).length + 4))), (3, .int 1), (5, .int (nI vv)), (0, .ref o), (1, .int n)]) hx hb dL_isLine_179 hl (k := 4) rfl (z_inc j 1) (by decide) rfl (fun ls hl => ?_)
                        refine lv_goto (tgt := 24) hx hb dL_isLine_182 (by decide) ?_
                        exact ih_j _ _ _ (by omega) ⟨ml'_46, g'_46, hP, hD, hS, (by rw [show nI ((lnT k f (j + 1)).length) = nI ((lnT k f j).length + 4) from (congrArg nI (by omega))]; exact lv_sub hl [0, 3, 2, 5, 6] rfl), hoL_47⟩
            · have c_22 := mt (nI_leI (a := vv) (b := 99) (by omega) (by omega)).mpr c_22
              obtain rfl : vv = 100 := by omega
              have hlc := lnD_lc
              refine lv_bipush (v := 100) hx hb dL_isLine_102 (by decide) ?_
              refine lv_goto (tgt := 120) hx hb dL_isLine_104 (by decide) ?_
              refine lv_istore (lv' := [(6, .int 100), (2, .int (nI ((lnT k f j).length + 2))), (3, .int 1), (5, .int (nI 100)), (4, .int (nI j)), (0, .ref o), (1, .int n)]) hx hb dL_isLine_120 hl (by decide) rfl (fun ls hl => ?_)
              refine lv_iload hx hb dL_isLine_122 (lv_at hl 0 rfl) ?_
              refine lv_if_le (tgt := 179) hx hb dL_isLine_124 (by decide) (fun c_50 => absurd c_50 (by decide)) (fun _ => ?_)
              refine lv_iload_n hx hb dL_isLine_127 rfl (lv_at hl 2 rfl) ?_
              refine lv_if_eq (tgt := 179) hx hb dL_isLine_128 (by decide) (fun c_51 => absurd c_51 (by decide)) (fun _ => ?_)
              refine lv_iload_n hx hb dL_isLine_131 rfl (lv_at hl 1 rfl) ?_
              refine lv_aload_n hx hb dL_isLine_132 rfl (lv_at hl 5 rfl) ?_
              refine lv_iload_n hx hb dL_isLine_133 rfl (lv_at hl 6 rfl) ?_
              have hPc := hP.sub (ws' := [(o, .inr (4, [.ref F, .ref G, .int lo, .int nw, .int se, .ref (pa 0), .ref an, .ref ln])), cE x xv, (x 7, .inl (cA 0, 4, .inl f)), (ln, .inr (0, [.ref vb'_2, .int 0, .int ml'_19, .int (nI ((lnT k f 4).length))])), (vb'_2, .inl (cA 2, nb'_2, .inl g'_19))]) [0, 1, 2, 3, 4] rfl
              have hDc := hD.sub (ws' := [(o, .inr (4, [.ref F, .ref G, .int lo, .int nw, .int se, .ref (pa 0), .ref an, .ref ln])), cE x xv, (x 7, .inl (cA 0, 4, .inl f)), (ln, .inr (0, [.ref vb'_2, .int 0, .int ml'_19, .int (nI ((lnT k f 4).length))])), (vb'_2, .inl (cA 2, nb'_2, .inl g'_19))]) [0, 1, 2, 3, 4] (by decide) rfl
              have hFc := va_free (wc := [(o, .inr (4, [.ref F, .ref G, .int lo, .int nw, .int se, .ref (pa 0), .ref an, .ref ln])), cE x xv, (x 7, .inl (cA 0, 4, .inl f)), (ln, .inr (0, [.ref vb'_2, .int 0, .int ml'_19, .int (nI ((lnT k f 4).length))])), (vb'_2, .inl (cA 2, nb'_2, .inl g'_19))]) hD hS hA [0, 1, 2, 3, 4] rfl
              refine va_calli (va_runV (As := [.int n]) (rest := [.int (nI ((lnT k f j).length + 2))]) ⟨hx, hb, hml, hown, hts⟩ (c_n_lineLength l D cA zv H.size o F G lo nw se pa an ln x y0 n xv k vb'_2 nb'_2 ((lnT k f 4).length) ml'_19 f g'_19 he hk hk0 hok hoL_20.1 (by have q9 := hoL_20.2.1; omega) hoL_20.2.2.1 (okL_le hoL_20)) (cwV 1 hts gL_isLine_X3_lineLength rfl rfl rfl (by decide +kernel) ⟨Nat.le_of_ble_eq_true rfl, Nat.le_of_ble_eq_true rfl⟩) ⟨zUX_blind, va_recv hK hPc (ci := 4) (q0 := 0) rfl rfl, fun U hU hW => ⟨rfl, zUX_call hE0 hX0 hS hFc hU hPc hW hK hDc⟩⟩ rfl rfl hl.1 rfl (lv_room (Nat.le_of_ble_eq_true rfl)) dL_isLine_134 ⟨Nat.le_of_ble_eq_true rfl, Nat.le_of_ble_eq_true rfl⟩) hS (fun q _ h => hFc q h) hFc (fun zr u t H1 locs ht hvm hw hB hz1 hk1 hS => ?_)
              obtain ⟨ml'_52, g'_52⟩ := u
              obtain ⟨hP1, hD1⟩ := hB
              rw [ht] at hP1
              try dsimp only at hw hP1 hD1
              obtain ⟨hP, hD⟩ := va_join (wr := []) (w1 := [(o, .inr (4, [.ref F, .ref G, .int lo, .int nw, .int se, .ref (pa 0), .ref an, .ref ln])), cE x xv, (x 7, .inl (cA 0, 4, .inl f)), (ln, .inr (0, [.ref vb'_2, .int 0, .int ml'_52, .int (nI ((lnT k f 4).length))])), (vb'_2, .inl (cA 2, nb'_2, .inl g'_52))]) hP hD [0, 1, 2, 3, 4] [] rfl rfl (by decide) (by decide) hk1 hFc hP1 hD1
              generalize H1 = H at hP hS ⊢
              have hP := hP.sub (ws' := [(o, .inr (4, [.ref F, .ref G, .int lo, .int nw, .int se, .ref (pa 0), .ref an, .ref ln])), cE x xv, (x 7, .inl (cA 0, 4, .inl f)), (ln, .inr (0, [.ref vb'_2, .int 0, .int ml'_52, .int (nI ((lnT k f 4).length))])), (vb'_2, .inl (cA 2, nb'_2, .inl g'_52))]) [0, 1, 2, 3, 4] rfl
              have hD := hD.sub (ws' := [(o, .inr (4, [.ref F, .ref G, .int lo, .int nw, .int se, .ref (pa 0), .ref an, .ref ln])), cE x xv, (x 7, .inl (cA 0, 4, .inl f)), (ln, .inr (0, [.ref vb'_2, .int 0, .int ml'_52, .int (nI ((lnT k f 4).length))])), (vb'_2, .inl (cA 2, nb'_2, .inl g'_52))]) [0, 1, 2, 3, 4] (by decide) rfl
              clear hPc hDc hFc hP1 hD1 hk1 hz1
              obtain ⟨hw_52_0, hw_52_1⟩ := hw
              obtain rfl := hw_52_1
              have hoL_53 := okL_of hw_52_0
              refine lv_icmp_ge (tgt := 164) hx hb dL_isLine_137 (by decide) (fun c_54 => ?_) (fun c_54 => ?_)
              · have c_54 := (nI_leI (a := (lnT k f 4).length) (b := (lnT k f j).length + 2) (by omega) (by omega)).mp c_54
                omega
              · have c_54 := mt (nI_leI (a := (lnT k f 4).length) (b := (lnT k f j).length + 2) (by omega) (by omega)).mpr c_54
                refine lv_aload_n hx hb dL_isLine_140 rfl (lv_at hl 5 rfl) ?_
                refine lv_iload_n hx hb dL_isLine_141 rfl (lv_at hl 6 rfl) ?_
                refine lv_iload_n hx hb dL_isLine_142 rfl (lv_at hl 1 rfl) ?_
                have hPc := hP.sub (ws' := [(o, .inr (4, [.ref F, .ref G, .int lo, .int nw, .int se, .ref (pa 0), .ref an, .ref ln])), cE x xv, (x 7, .inl (cA 0, 4, .inl f)), (ln, .inr (0, [.ref vb'_2, .int 0, .int ml'_52, .int (nI ((lnT k f 4).length))])), (vb'_2, .inl (cA 2, nb'_2, .inl g'_52))]) [0, 1, 2, 3, 4] rfl
                have hDc := hD.sub (ws' := [(o, .inr (4, [.ref F, .ref G, .int lo, .int nw, .int se, .ref (pa 0), .ref an, .ref ln])), cE x xv, (x 7, .inl (cA 0, 4, .inl f)), (ln, .inr (0, [.ref vb'_2, .int 0, .int ml'_52, .int (nI ((lnT k f 4).length))])), (vb'_2, .inl (cA 2, nb'_2, .inl g'_52))]) [0, 1, 2, 3, 4] (by decide) rfl
                have hFc := va_free (wc := [(o, .inr (4, [.ref F, .ref G, .int lo, .int nw, .int se, .ref (pa 0), .ref an, .ref ln])), cE x xv, (x 7, .inl (cA 0, 4, .inl f)), (ln, .inr (0, [.ref vb'_2, .int 0, .int ml'_52, .int (nI ((lnT k f 4).length))])), (vb'_2, .inl (cA 2, nb'_2, .inl g'_52))]) hD hS hA [0, 1, 2, 3, 4] rfl
                refine va_calli (va_runV (As := [.int n, .int (nI ((lnT k f j).length + 2))]) (rest := []) ⟨hx, hb, hml, hown, hts⟩ (c_n_lineChar l D cA zv H.size o F G lo nw se pa an ln x y0 n xv k vb'_2 nb'_2 ((lnT k f 4).length) ml'_52 f g'_52 ((lnT k f j).length + 2) he hk hk0 hok hoL_53.1 (by have q9 := hoL_53.2.1; omega) hoL_53.2.2.1 (okL_le hoL_53) (by omega)) (cwV 2 hts gL_isLine_X3_lineChar rfl rfl rfl (by decide +kernel) ⟨Nat.le_of_ble_eq_true rfl, Nat.le_of_ble_eq_true rfl⟩) ⟨zUX_blind, va_recv hK hPc (ci := 4) (q0 := 0) rfl rfl, fun U hU hW => ⟨rfl, zUX_call hE0 hX0 hS hFc hU hPc hW hK hDc⟩⟩ rfl rfl hl.1 rfl (lv_room (Nat.le_of_ble_eq_true rfl)) dL_isLine_143 ⟨Nat.le_of_ble_eq_true rfl, Nat.le_of_ble_eq_true rfl⟩) hS (fun q _ h => hFc q h) hFc (fun zr u t H1 locs ht hvm hw hB hz1 hk1 hS => ?_)
                obtain ⟨ml'_55, g'_55⟩ := u
                obtain ⟨hP1, hD1⟩ := hB
                rw [ht] at hP1
                try dsimp only at hw hP1 hD1
                obtain ⟨hP, hD⟩ := va_join (wr := []) (w1 := [(o, .inr (4, [.ref F, .ref G, .int lo, .int nw, .int se, .ref (pa 0), .ref an, .ref ln])), cE x xv, (x 7, .inl (cA 0, 4, .inl f)), (ln, .inr (0, [.ref vb'_2, .int 0, .int ml'_55, .int (nI ((lnT k f 4).length))])), (vb'_2, .inl (cA 2, nb'_2, .inl g'_55))]) hP hD [0, 1, 2, 3, 4] [] rfl rfl (by decide) (by decide) hk1 hFc hP1 hD1
                generalize H1 = H at hP hS ⊢
                have hP := hP.sub (ws' := [(o, .inr (4, [.ref F, .ref G, .int lo, .int nw, .int se, .ref (pa 0), .ref an, .ref ln])), cE x xv, (x 7, .inl (cA 0, 4, .inl f)), (ln, .inr (0, [.ref vb'_2, .int 0, .int ml'_55, .int (nI ((lnT k f 4).length))])), (vb'_2, .inl (cA 2, nb'_2, .inl g'_55))]) [0, 1, 2, 3, 4] rfl
                have hD := hD.sub (ws' := [(o, .inr (4, [.ref F, .ref G, .int lo, .int nw, .int se, .ref (pa 0), .ref an, .ref ln])), cE x xv, (x 7, .inl (cA 0, 4, .inl f)), (ln, .inr (0, [.ref vb'_2, .int 0, .int ml'_55, .int (nI ((lnT k f 4).length))])), (vb'_2, .inl (cA 2, nb'_2, .inl g'_55))]) [0, 1, 2, 3, 4] (by decide) rfl
                clear hPc hDc hFc hP1 hD1 hk1 hz1
                obtain ⟨hw_55_0, hw_55_1⟩ := hw
                obtain rfl := hw_55_1
                have hoL_56 := okL_of hw_55_0
                refine z_top (y := (nI (48 + 100 / 100 % 10))) (dg_c0 (by omega) hfv ) ?_
                refine lv_bipush (v := 48) hx hb dL_isLine_146 (by decide) ?_
                refine lv_iload hx hb dL_isLine_148 (lv_at hl 3 rfl) ?_
                refine lv_iload hx hb dL_isLine_150 (lv_at hl 0 rfl) ?_
                refine lv_idiv hx hb dL_isLine_152 (by decide) ?_
                refine z_top (y := (nI (100 / 100))) (z_div (a := 100) (d := 100) (by omega) (by omega) (by omega)) ?_
                refine lv_bipush (v := 10) hx hb dL_isLine_153 (by decide) ?_
                refine lv_irem hx hb dL_isLine_155 (by decide) ?_
                refine z_top (y := (nI ((100 / 100) % 10))) (z_rem (a := (100 / 100)) (d := 10) (by omega) (by omega) (by omega)) ?_
                refine lv_iadd hx hb dL_isLine_156 ?_
                refine z_top (y := (nI (48 + ((100 / 100) % 10)))) (z_add 48 ((100 / 100) % 10)) ?_
                refine lv_icmp_ne (tgt := 164) hx hb dL_isLine_157 (by decide) (fun c_57 => ?_) (fun c_57 => ?_)
                · have c_57 := mt (nI_eq (a := 48 + 100 / 100 % 10) (b := 48 + ((100 / 100) % 10)) (by omega) (by omega)).mpr c_57
                  omega
                · have c_57 := (nI_eq (a := 48 + 100 / 100 % 10) (b := 48 + ((100 / 100) % 10)) (by omega) (by omega)).mp c_57
                  refine lv_iconst (v := 1) hx hb dL_isLine_160 (by decide) ?_
                  refine lv_goto (tgt := 165) hx hb dL_isLine_161 (by decide) ?_
                  refine lv_istore_n (lv' := [(3, .int 1), (6, .int 100), (2, .int (nI ((lnT k f j).length + 2))), (5, .int (nI 100)), (4, .int (nI j)), (0, .ref o), (1, .int n)]) hx hb dL_isLine_165 rfl hl (by decide) rfl (fun ls hl => ?_)
                  refine lv_iinc (v := nI ((lnT k f j).length + 3)) (lv' := [(2, .int (nI ((lnT k f j).length + 3))), (3, .int 1), (6, .int 100), (5, .int (nI 100)), (4, .int (nI j)), (0, .ref o), (1, .int n)]) hx hb dL_isLine_166 hl (k := 2) rfl (z_inc ((lnT k f j).length + 2) 1) (by decide) rfl (fun ls hl => ?_)
                  refine lv_iload hx hb dL_isLine_169 (lv_at hl 2 rfl) ?_
                  refine lv_bipush (v := 10) hx hb dL_isLine_171 (by decide) ?_
                  refine lv_idiv hx hb dL_isLine_173 (by decide) ?_
                  refine z_top (y := 10) (by decide) ?_
                  refine lv_istore (lv' := [(6, .int 10), (2, .int (nI ((lnT k f j).length + 3))), (3, .int 1), (5, .int (nI 100)), (4, .int (nI j)), (0, .ref o), (1, .int n)]) hx hb dL_isLine_174 hl (by decide) rfl (fun ls hl => ?_)
                  refine lv_goto (tgt := 122) hx hb dL_isLine_176 (by decide) ?_
                  refine lv_iload hx hb dL_isLine_122 (lv_at hl 0 rfl) ?_
                  refine lv_if_le (tgt := 179) hx hb dL_isLine_124 (by decide) (fun c_58 => absurd c_58 (by decide)) (fun _ => ?_)
                  refine lv_iload_n hx hb dL_isLine_127 rfl (lv_at hl 2 rfl) ?_
                  refine lv_if_eq (tgt := 179) hx hb dL_isLine_128 (by decide) (fun c_59 => absurd c_59 (by decide)) (fun _ => ?_)
                  refine lv_iload_n hx hb dL_isLine_131 rfl (lv_at hl 1 rfl) ?_
                  refine lv_aload_n hx hb dL_isLine_132 rfl (lv_at hl 5 rfl) ?_
                  refine lv_iload_n hx hb dL_isLine_133 rfl (lv_at hl 6 rfl) ?_
                  have hPc := hP.sub (ws' := [(o, .inr (4, [.ref F, .ref G, .int lo, .int nw, .int se, .ref (pa 0), .ref an, .ref ln])), cE x xv, (x 7, .inl (cA 0, 4, .inl f)), (ln, .inr (0, [.ref vb'_2, .int 0, .int ml'_55, .int (nI ((lnT k f 4).length))])), (vb'_2, .inl (cA 2, nb'_2, .inl g'_55))]) [0, 1, 2, 3, 4] rfl
                  have hDc := hD.sub (ws' := [(o, .inr (4, [.ref F, .ref G, .int lo, .int nw, .int se, .ref (pa 0), .ref an, .ref ln])), cE x xv, (x 7, .inl (cA 0, 4, .inl f)), (ln, .inr (0, [.ref vb'_2, .int 0, .int ml'_55, .int (nI ((lnT k f 4).length))])), (vb'_2, .inl (cA 2, nb'_2, .inl g'_55))]) [0, 1, 2, 3, 4] (by decide) rfl
                  have hFc := va_free (wc := [(o, .inr (4, [.ref F, .ref G, .int lo, .int nw, .int se, .ref (pa 0), .ref an, .ref ln])), cE x xv, (x 7, .inl (cA 0, 4, .inl f)), (ln, .inr (0, [.ref vb'_2, .int 0, .int ml'_55, .int (nI ((lnT k f 4).length))])), (vb'_2, .inl (cA 2, nb'_2, .inl g'_55))]) hD hS hA [0, 1, 2, 3, 4] rfl
                  refine va_calli (va_runV (As := [.int n]) (rest := [.int (nI ((lnT k f j).length + 3))]) ⟨hx, hb, hml, hown, hts⟩ (c_n_lineLength l D cA zv H.size o F G lo nw se pa an ln x y0 n xv k vb'_2 nb'_2 ((lnT k f 4).length) ml'_55 f g'_55 he hk hk0 hok hoL_56.1 (by have q9 := hoL_56.2.1; omega) hoL_56.2.2.1 (okL_le hoL_56)) (cwV 1 hts gL_isLine_X3_lineLength rfl rfl rfl (by decide +kernel) ⟨Nat.le_of_ble_eq_true rfl, Nat.le_of_ble_eq_true rfl⟩) ⟨zUX_blind, va_recv hK hPc (ci := 4) (q0 := 0) rfl rfl, fun U hU hW => ⟨rfl, zUX_call hE0 hX0 hS hFc hU hPc hW hK hDc⟩⟩ rfl rfl hl.1 rfl (lv_room (Nat.le_of_ble_eq_true rfl)) dL_isLine_134 ⟨Nat.le_of_ble_eq_true rfl, Nat.le_of_ble_eq_true rfl⟩) hS (fun q _ h => hFc q h) hFc (fun zr u t H1 locs ht hvm hw hB hz1 hk1 hS => ?_)
                  obtain ⟨ml'_60, g'_60⟩ := u
                  obtain ⟨hP1, hD1⟩ := hB
                  rw [ht] at hP1
                  try dsimp only at hw hP1 hD1
                  obtain ⟨hP, hD⟩ := va_join (wr := []) (w1 := [(o, .inr (4, [.ref F, .ref G, .int lo, .int nw, .int se, .ref (pa 0), .ref an, .ref ln])), cE x xv, (x 7, .inl (cA 0, 4, .inl f)), (ln, .inr (0, [.ref vb'_2, .int 0, .int ml'_60, .int (nI ((lnT k f 4).length))])), (vb'_2, .inl (cA 2, nb'_2, .inl g'_60))]) hP hD [0, 1, 2, 3, 4] [] rfl rfl (by decide) (by decide) hk1 hFc hP1 hD1
                  generalize H1 = H at hP hS ⊢
                  have hP := hP.sub (ws' := [(o, .inr (4, [.ref F, .ref G, .int lo, .int nw, .int se, .ref (pa 0), .ref an, .ref ln])), cE x xv, (x 7, .inl (cA 0, 4, .inl f)), (ln, .inr (0, [.ref vb'_2, .int 0, .int ml'_60, .int (nI ((lnT k f 4).length))])), (vb'_2, .inl (cA 2, nb'_2, .inl g'_60))]) [0, 1, 2, 3, 4] rfl
                  have hD := hD.sub (ws' := [(o, .inr (4, [.ref F, .ref G, .int lo, .int nw, .int se, .ref (pa 0), .ref an, .ref ln])), cE x xv, (x 7, .inl (cA 0, 4, .inl f)), (ln, .inr (0, [.ref vb'_2, .int 0, .int ml'_60, .int (nI ((lnT k f 4).length))])), (vb'_2, .inl (cA 2, nb'_2, .inl g'_60))]) [0, 1, 2, 3, 4] (by decide) rfl
                  clear hPc hDc hFc hP1 hD1 hk1 hz1
                  obtain ⟨hw_60_0, hw_60_1⟩ := hw
                  obtain rfl := hw_60_1
                  have hoL_61 := okL_of hw_60_0
                  refine lv_icmp_ge (tgt := 164) hx hb dL_isLine_137 (by decide) (fun c_62 => ?_) (fun c_62 => ?_)
                  · have c_62 := (nI_leI (a := (lnT k f 4).length) (b := (lnT k f j).length + 3) (by omega) (by omega)).mp c_62
                    omega
                  · have c_62 := mt (nI_leI (a := (lnT k f 4).length) (b := (lnT k f j).length + 3) (by omega) (by omega)).mpr c_62
                    refine lv_aload_n hx hb dL_isLine_140 rfl (lv_at hl 5 rfl) ?_
                    refine lv_iload_n hx hb dL_isLine_141 rfl (lv_at hl 6 rfl) ?_
                    refine lv_iload_n hx hb dL_isLine_142 rfl (lv_at hl 1 rfl) ?_
                    have hPc := hP.sub (ws' := [(o, .inr (4, [.ref F, .ref G, .int lo, .int nw, .int se, .ref (pa 0), .ref an, .ref ln])), cE x xv, (x 7, .inl (cA 0, 4, .inl f)), (ln, .inr (0, [.ref vb'_2, .int 0, .int ml'_60, .int (nI ((lnT k f 4).length))])), (vb'_2, .inl (cA 2, nb'_2, .inl g'_60))]) [0, 1, 2, 3, 4] rfl
                    have hDc := hD.sub (ws' := [(o, .inr (4, [.ref F, .ref G, .int lo, .int nw, .int se, .ref (pa 0), .ref an, .ref ln])), cE x xv, (x 7, .inl (cA 0, 4, .inl f)), (ln, .inr (0, [.ref vb'_2, .int 0, .int ml'_60, .int (nI ((lnT k f 4).length))])), (vb'_2, .inl (cA 2, nb'_2, .inl g'_60))]) [0, 1, 2, 3, 4] (by decide) rfl
                    have hFc := va_free (wc := [(o, .inr (4, [.ref F, .ref G, .int lo, .int nw, .int se, .ref (pa 0), .ref an, .ref ln])), cE x xv, (x 7, .inl (cA 0, 4, .inl f)), (ln, .inr (0, [.ref vb'_2, .int 0, .int ml'_60, .int (nI ((lnT k f 4).length))])), (vb'_2, .inl (cA 2, nb'_2, .inl g'_60))]) hD hS hA [0, 1, 2, 3, 4] rfl
                    refine va_calli (va_runV (As := [.int n, .int (nI ((lnT k f j).length + 3))]) (rest := []) ⟨hx, hb, hml, hown, hts⟩ (c_n_lineChar l D cA zv H.size o F G lo nw se pa an ln x y0 n xv k vb'_2 nb'_2 ((lnT k f 4).length) ml'_60 f g'_60 ((lnT k f j).length + 3) he hk hk0 hok hoL_61.1 (by have q9 := hoL_61.2.1; omega) hoL_61.2.2.1 (okL_le hoL_61) (by omega)) (cwV 2 hts gL_isLine_X3_lineChar rfl rfl rfl (by decide +kernel) ⟨Nat.le_of_ble_eq_true rfl, Nat.le_of_ble_eq_true rfl⟩) ⟨zUX_blind, va_recv hK hPc (ci := 4) (q0 := 0) rfl rfl, fun U hU hW => ⟨rfl, zUX_call hE0 hX0 hS hFc hU hPc hW hK hDc⟩⟩ rfl rfl hl.1 rfl (lv_room (Nat.le_of_ble_eq_true rfl)) dL_isLine_143 ⟨Nat.le_of_ble_eq_true rfl, Nat.le_of_ble_eq_true rfl⟩) hS (fun q _ h => hFc q h) hFc (fun zr u t H1 locs ht hvm hw hB hz1 hk1 hS => ?_)
                    obtain ⟨ml'_63, g'_63⟩ := u
                    obtain ⟨hP1, hD1⟩ := hB
                    rw [ht] at hP1
                    try dsimp only at hw hP1 hD1
                    obtain ⟨hP, hD⟩ := va_join (wr := []) (w1 := [(o, .inr (4, [.ref F, .ref G, .int lo, .int nw, .int se, .ref (pa 0), .ref an, .ref ln])), cE x xv, (x 7, .inl (cA 0, 4, .inl f)), (ln, .inr (0, [.ref vb'_2, .int 0, .int ml'_63, .int (nI ((lnT k f 4).length))])), (vb'_2, .inl (cA 2, nb'_2, .inl g'_63))]) hP hD [0, 1, 2, 3, 4] [] rfl rfl (by decide) (by decide) hk1 hFc hP1 hD1
                    generalize H1 = H at hP hS ⊢
                    have hP := hP.sub (ws' := [(o, .inr (4, [.ref F, .ref G, .int lo, .int nw, .int se, .ref (pa 0), .ref an, .ref ln])), cE x xv, (x 7, .inl (cA 0, 4, .inl f)), (ln, .inr (0, [.ref vb'_2, .int 0, .int ml'_63, .int (nI ((lnT k f 4).length))])), (vb'_2, .inl (cA 2, nb'_2, .inl g'_63))]) [0, 1, 2, 3, 4] rfl
                    have hD := hD.sub (ws' := [(o, .inr (4, [.ref F, .ref G, .int lo, .int nw, .int se, .ref (pa 0), .ref an, .ref ln])), cE x xv, (x 7, .inl (cA 0, 4, .inl f)), (ln, .inr (0, [.ref vb'_2, .int 0, .int ml'_63, .int (nI ((lnT k f 4).length))])), (vb'_2, .inl (cA 2, nb'_2, .inl g'_63))]) [0, 1, 2, 3, 4] (by decide) rfl
                    clear hPc hDc hFc hP1 hD1 hk1 hz1
                    obtain ⟨hw_63_0, hw_63_1⟩ := hw
                    obtain rfl := hw_63_1
                    have hoL_64 := okL_of hw_63_0
                    refine z_top (y := (nI (48 + 100 / 10 % 10))) (dg_c1 (by omega) hfv ) ?_
                    refine lv_bipush (v := 48) hx hb dL_isLine_146 (by decide) ?_
                    refine lv_iload hx hb dL_isLine_148 (lv_at hl 3 rfl) ?_
                    refine lv_iload hx hb dL_isLine_150 (lv_at hl 0 rfl) ?_
                    refine lv_idiv hx hb dL_isLine_152 (by decide) ?_
                    refine z_top (y := (nI (100 / 10))) (z_div (a := 100) (d := 10) (by omega) (by omega) (by omega)) ?_
                    refine lv_bipush (v := 10) hx hb dL_isLine_153 (by decide) ?_
                    refine lv_irem hx hb dL_isLine_155 (by decide) ?_
                    refine z_top (y := (nI ((100 / 10) % 10))) (z_rem (a := (100 / 10)) (d := 10) (by omega) (by omega) (by omega)) ?_
                    refine lv_iadd hx hb dL_isLine_156 ?_
                    refine z_top (y := (nI (48 + ((100 / 10) % 10)))) (z_add 48 ((100 / 10) % 10)) ?_
                    refine lv_icmp_ne (tgt := 164) hx hb dL_isLine_157 (by decide) (fun c_65 => ?_) (fun c_65 => ?_)
                    · have c_65 := mt (nI_eq (a := 48 + 100 / 10 % 10) (b := 48 + ((100 / 10) % 10)) (by omega) (by omega)).mpr c_65
                      omega
                    · have c_65 := (nI_eq (a := 48 + 100 / 10 % 10) (b := 48 + ((100 / 10) % 10)) (by omega) (by omega)).mp c_65
                      refine lv_iconst (v := 1) hx hb dL_isLine_160 (by decide) ?_
                      refine lv_goto (tgt := 165) hx hb dL_isLine_161 (by decide) ?_
                      refine lv_istore_n (lv' := [(3, .int 1), (6, .int 10), (2, .int (nI ((lnT k f j).length + 3))), (5, .int (nI 100)), (4, .int (nI j)), (0, .ref o), (1, .int n)]) hx hb dL_isLine_165 rfl hl (by decide) rfl (fun ls hl => ?_)
                      refine lv_iinc (v := nI ((lnT k f j).length + 4)) (lv' := [(2, .int (nI ((lnT k f j).length + 4))), (3, .int 1), (6, .int 10), (5, .int (nI 100)), (4, .int (nI j)), (0, .ref o), (1, .int n)]) hx hb dL_isLine_166 hl (k := 2) rfl (z_inc ((lnT k f j).length + 3) 1) (by decide) rfl (fun ls hl => ?_)
                      refine lv_iload hx hb dL_isLine_169 (lv_at hl 2 rfl) ?_
                      refine lv_bipush (v := 10) hx hb dL_isLine_171 (by decide) ?_
                      refine lv_idiv hx hb dL_isLine_173 (by decide) ?_
                      refine z_top (y := 1) (by decide) ?_
                      refine lv_istore (lv' := [(6, .int 1), (2, .int (nI ((lnT k f j).length + 4))), (3, .int 1), (5, .int (nI 100)), (4, .int (nI j)), (0, .ref o), (1, .int n)]) hx hb dL_isLine_174 hl (by decide) rfl (fun ls hl => ?_)
                      refine lv_goto (tgt := 122) hx hb dL_isLine_176 (by decide) ?_
                      refine lv_iload hx hb dL_isLine_122 (lv_at hl 0 rfl) ?_
                      refine lv_if_le (tgt := 179) hx hb dL_isLine_124 (by decide) (fun c_66 => absurd c_66 (by decide)) (fun _ => ?_)
                      refine lv_iload_n hx hb dL_isLine_127 rfl (lv_at hl 2 rfl) ?_
                      refine lv_if_eq (tgt := 179) hx hb dL_isLine_128 (by decide) (fun c_67 => absurd c_67 (by decide)) (fun _ => ?_)
                      refine lv_iload_n hx hb dL_isLine_131 rfl (lv_at hl 1 rfl) ?_
                      refine lv_aload_n hx hb dL_isLine_132 rfl (lv_at hl 5 rfl) ?_
                      refine lv_iload_n hx hb dL_isLine_133 rfl (lv_at hl 6 rfl) ?_
                      have hPc := hP.sub (ws' := [(o, .inr (4, [.ref F, .ref G, .int lo, .int nw, .int se, .ref (pa 0), .ref an, .ref ln])), cE x xv, (x 7, .inl (cA 0, 4, .inl f)), (ln, .inr (0, [.ref vb'_2, .int 0, .int ml'_63, .int (nI ((lnT k f 4).length))])), (vb'_2, .inl (cA 2, nb'_2, .inl g'_63))]) [0, 1, 2, 3, 4] rfl
                      have hDc := hD.sub (ws' := [(o, .inr (4, [.ref F, .ref G, .int lo, .int nw, .int se, .ref (pa 0), .ref an, .ref ln])), cE x xv, (x 7, .inl (cA 0, 4, .inl f)), (ln, .inr (0, [.ref vb'_2, .int 0, .int ml'_63, .int (nI ((lnT k f 4).length))])), (vb'_2, .inl (cA 2, nb'_2, .inl g'_63))]) [0, 1, 2, 3, 4] (by decide) rfl
                      have hFc := va_free (wc := [(o, .inr (4, [.ref F, .ref G, .int lo, .int nw, .int se, .ref (pa 0), .ref an, .ref ln])), cE x xv, (x 7, .inl (cA 0, 4, .inl f)), (ln, .inr (0, [.ref vb'_2, .int 0, .int ml'_63, .int (nI ((lnT k f 4).length))])), (vb'_2, .inl (cA 2, nb'_2, .inl g'_63))]) hD hS hA [0, 1, 2, 3, 4] rfl
                      refine va_calli (va_runV (As := [.int n]) (rest := [.int (nI ((lnT k f j).length + 4))]) ⟨hx, hb, hml, hown, hts⟩ (c_n_lineLength l D cA zv H.size o F G lo nw se pa an ln x y0 n xv k vb'_2 nb'_2 ((lnT k f 4).length) ml'_63 f g'_63 he hk hk0 hok hoL_64.1 (by have q9 := hoL_64.2.1; omega) hoL_64.2.2.1 (okL_le hoL_64)) (cwV 1 hts gL_isLine_X3_lineLength rfl rfl rfl (by decide +kernel) ⟨Nat.le_of_ble_eq_true rfl, Nat.le_of_ble_eq_true rfl⟩) ⟨zUX_blind, va_recv hK hPc (ci := 4) (q0 := 0) rfl rfl, fun U hU hW => ⟨rfl, zUX_call hE0 hX0 hS hFc hU hPc hW hK hDc⟩⟩ rfl rfl hl.1 rfl (lv_room (Nat.le_of_ble_eq_true rfl)) dL_isLine_134 ⟨Nat.le_of_ble_eq_true rfl, Nat.le_of_ble_eq_true rfl⟩) hS (fun q _ h => hFc q h) hFc (fun zr u t H1 locs ht hvm hw hB hz1 hk1 hS => ?_)
                      obtain ⟨ml'_68, g'_68⟩ := u
                      obtain ⟨hP1, hD1⟩ := hB
                      rw [ht] at hP1
                      try dsimp only at hw hP1 hD1
                      obtain ⟨hP, hD⟩ := va_join (wr := []) (w1 := [(o, .inr (4, [.ref F, .ref G, .int lo, .int nw, .int se, .ref (pa 0), .ref an, .ref ln])), cE x xv, (x 7, .inl (cA 0, 4, .inl f)), (ln, .inr (0, [.ref vb'_2, .int 0, .int ml'_68, .int (nI ((lnT k f 4).length))])), (vb'_2, .inl (cA 2, nb'_2, .inl g'_68))]) hP hD [0, 1, 2, 3, 4] [] rfl rfl (by decide) (by decide) hk1 hFc hP1 hD1
                      generalize H1 = H at hP hS ⊢
                      have hP := hP.sub (ws' := [(o, .inr (4, [.ref F, .ref G, .int lo, .int nw, .int se, .ref (pa 0), .ref an, .ref ln])), cE x xv, (x 7, .inl (cA 0, 4, .inl f)), (ln, .inr (0, [.ref vb'_2, .int 0, .int ml'_68, .int (nI ((lnT k f 4).length))])), (vb'_2, .inl (cA 2, nb'_2, .inl g'_68))]) [0, 1, 2, 3, 4] rfl
                      have hD := hD.sub (ws' := [(o, .inr (4, [.ref F, .ref G, .int lo, .int nw, .int se, .ref (pa 0), .ref an, .ref ln])), cE x xv, (x 7, .inl (cA 0, 4, .inl f)), (ln, .inr (0, [.ref vb'_2, .int 0, .int ml'_68, .int (nI ((lnT k f 4).length))])), (vb'_2, .inl (cA 2, nb'_2, .inl g'_68))]) [0, 1, 2, 3, 4] (by decide) rfl
                      clear hPc hDc hFc hP1 hD1 hk1 hz1
                      obtain ⟨hw_68_0, hw_68_1⟩ := hw
                      obtain rfl := hw_68_1
                      have hoL_69 := okL_of hw_68_0
                      refine lv_icmp_ge (tgt := 164) hx hb dL_isLine_137 (by decide) (fun c_70 => ?_) (fun c_70 => ?_)
                      · have c_70 := (nI_leI (a := (lnT k f 4).length) (b := (lnT k f j).length + 4) (by omega) (by omega)).mp c_70
                        omega
                      · have c_70 := mt (nI_leI (a := (lnT k f 4).length) (b := (lnT k f j).length + 4) (by omega) (by omega)).mpr c_70
                        refine lv_aload_n hx hb dL_isLine_140 rfl (lv_at hl 5 rfl) ?_
                        refine lv_iload_n hx hb dL_isLine_141 rfl (lv_at hl 6 rfl) ?_
                        refine lv_iload_n hx hb dL_isLine_142 rfl (lv_at hl 1 rfl) ?_
                        have hPc := hP.sub (ws' := [(o, .inr (4, [.ref F, .ref G, .int lo, .int nw, .int se, .ref (pa 0), .ref an, .ref ln])), cE x xv, (x 7, .inl (cA 0, 4, .inl f)), (ln, .inr (0, [.ref vb'_2, .int 0, .int ml'_68, .int (nI ((lnT k f 4).length))])), (vb'_2, .inl (cA 2, nb'_2, .inl g'_68))]) [0, 1, 2, 3, 4] rfl
                        have hDc := hD.sub (ws' := [(o, .inr (4, [.ref F, .ref G, .int lo, .int nw, .int se, .ref (pa 0), .ref an, .ref ln])), cE x xv, (x 7, .inl (cA 0, 4, .inl f)), (ln, .inr (0, [.ref vb'_2, .int 0, .int ml'_68, .int (nI ((lnT k f 4).length))])), (vb'_2, .inl (cA 2, nb'_2, .inl g'_68))]) [0, 1, 2, 3, 4] (by decide) rfl
                        have hFc := va_free (wc := [(o, .inr (4, [.ref F, .ref G, .int lo, .int nw, .int se, .ref (pa 0), .ref an, .ref ln])), cE x xv, (x 7, .inl (cA 0, 4, .inl f)), (ln, .inr (0, [.ref vb'_2, .int 0, .int ml'_68, .int (nI ((lnT k f 4).length))])), (vb'_2, .inl (cA 2, nb'_2, .inl g'_68))]) hD hS hA [0, 1, 2, 3, 4] rfl
                        refine va_calli (va_runV (As := [.int n, .int (nI ((lnT k f j).length + 4))]) (rest := []) ⟨hx, hb, hml, hown, hts⟩ (c_n_lineChar l D cA zv H.size o F G lo nw se pa an ln x y0 n xv k vb'_2 nb'_2 ((lnT k f 4).length) ml'_68 f g'_68 ((lnT k f j).length + 4) he hk hk0 hok hoL_69.1 (by have q9 := hoL_69.2.1; omega) hoL_69.2.2.1 (okL_le hoL_69) (by omega)) (cwV 2 hts gL_isLine_X3_lineChar rfl rfl rfl (by decide +kernel) ⟨Nat.le_of_ble_eq_true rfl, Nat.le_of_ble_eq_true rfl⟩) ⟨zUX_blind, va_recv hK hPc (ci := 4) (q0 := 0) rfl rfl, fun U hU hW => ⟨rfl, zUX_call hE0 hX0 hS hFc hU hPc hW hK hDc⟩⟩ rfl rfl hl.1 rfl (lv_room (Nat.le_of_ble_eq_true rfl)) dL_isLine_143 ⟨Nat.le_of_ble_eq_true rfl, Nat.le_of_ble_eq_true rfl⟩) hS (fun q _ h => hFc q h) hFc (fun zr u t H1 locs ht hvm hw hB hz1 hk1 hS => ?_)
                        obtain ⟨ml'_71, g'_71⟩ := u
                        obtain ⟨hP1, hD1⟩ := hB
                        rw [ht] at hP1
                        try dsimp only at hw hP1 hD1
                        obtain ⟨hP, hD⟩ := va_join (wr := []) (w1 := [(o, .inr (4, [.ref F, .ref G, .int lo, .int nw, .int se, .ref (pa 0), .ref an, .ref ln])), cE x xv, (x 7, .inl (cA 0, 4, .inl f)), (ln, .inr (0, [.ref vb'_2, .int 0, .int ml'_71, .int (nI ((lnT k f 4).length))])), (vb'_2, .inl (cA 2, nb'_2, .inl g'_71))]) hP hD [0, 1, 2, 3, 4] [] rfl rfl (by decide) (by decide) hk1 hFc hP1 hD1
                        generalize H1 = H at hP hS ⊢
                        have hP := hP.sub (ws' := [(o, .inr (4, [.ref F, .ref G, .int lo, .int nw, .int se, .ref (pa 0), .ref an, .ref ln])), cE x xv, (x 7, .inl (cA 0, 4, .inl f)), (ln, .inr (0, [.ref vb'_2, .int 0, .int ml'_71, .int (nI ((lnT k f 4).length))])), (vb'_2, .inl (cA 2, nb'_2, .inl g'_71))]) [0, 1, 2, 3, 4] rfl
                        have hD := hD.sub (ws' := [(o, .inr (4, [.ref F, .ref G, .int lo, .int nw, .int se, .ref (pa 0), .ref an, .ref ln])), cE x xv, (x 7, .inl (cA 0, 4, .inl f)), (ln, .inr (0, [.ref vb'_2, .int 0, .int ml'_71, .int (nI ((lnT k f 4).length))])), (vb'_2, .inl (cA 2, nb'_2, .inl g'_71))]) [0, 1, 2, 3, 4] (by decide) rfl
                        clear hPc hDc hFc hP1 hD1 hk1 hz1
                        obtain ⟨hw_71_0, hw_71_1⟩ := hw
                        obtain rfl := hw_71_1
                        have hoL_72 := okL_of hw_71_0
                        refine z_top (y := (nI (48 + 100 / 1 % 10))) (dg_c2 (by omega) hfv ) ?_
                        refine lv_bipush (v := 48) hx hb dL_isLine_146 (by decide) ?_
                        refine lv_iload hx hb dL_isLine_148 (lv_at hl 3 rfl) ?_
                        refine lv_iload hx hb dL_isLine_150 (lv_at hl 0 rfl) ?_
                        refine lv_idiv hx hb dL_isLine_152 (by decide) ?_
                        refine z_top (y := (nI (100 / 1))) (z_div (a := 100) (d := 1) (by omega) (by omega) (by omega)) ?_
                        refine lv_bipush (v := 10) hx hb dL_isLine_153 (by decide) ?_
                        refine lv_irem hx hb dL_isLine_155 (by decide) ?_
                        refine z_top (y := (nI ((100 / 1) % 10))) (z_rem (a := (100 / 1)) (d := 10) (by omega) (by omega) (by omega)) ?_
                        refine lv_iadd hx hb dL_isLine_156 ?_
                        refine z_top (y := (nI (48 + ((100 / 1) % 10)))) (z_add 48 ((100 / 1) % 10)) ?_
                        refine lv_icmp_ne (tgt := 164) hx hb dL_isLine_157 (by decide) (fun c_73 => ?_) (fun c_73 => ?_)
                        · have c_73 := mt (nI_eq (a := 48 + 100 / 1 % 10) (b := 48 + ((100 / 1) % 10)) (by omega) (by omega)).mpr c_73
                          omega
                        · have c_73 := (nI_eq (a := 48 + 100 / 1 % 10) (b := 48 + ((100 / 1) % 10)) (by omega) (by omega)).mp c_73
                          refine lv_iconst (v := 1) hx hb dL_isLine_160 (by decide) ?_
                          refine lv_goto (tgt := 165) hx hb dL_isLine_161 (by decide) ?_
                          refine lv_istore_n (lv' := [(3, .int 1), (6, .int 1), (2, .int (nI ((lnT k f j).length + 4))), (5, .int (nI 100)), (4, .int (nI j)), (0, .ref o), (1, .int n)]) hx hb dL_isLine_165 rfl hl (by decide) rfl (fun ls hl => ?_)
                          refine lv_iinc (v := nI ((lnT k f j).length + 5)) (lv' := [(2, .int (nI ((lnT k f j).length + 5))), (3, .int 1), (6, .int 1), (5, .int (nI 100)), (4, .int (nI j)), (0, .ref o), (1, .int n)]) hx hb dL_isLine_166 hl (k := 2) rfl (z_inc ((lnT k f j).length + 4) 1) (by decide) rfl (fun ls hl => ?_)
                          refine lv_iload hx hb dL_isLine_169 (lv_at hl 2 rfl) ?_
                          refine lv_bipush (v := 10) hx hb dL_isLine_171 (by decide) ?_
                          refine lv_idiv hx hb dL_isLine_173 (by decide) ?_
                          refine z_top (y := 0) (by decide) ?_
                          refine lv_istore (lv' := [(6, .int 0), (2, .int (nI ((lnT k f j).length + 5))), (3, .int 1), (5, .int (nI 100)), (4, .int (nI j)), (0, .ref o), (1, .int n)]) hx hb dL_isLine_174 hl (by decide) rfl (fun ls hl => ?_)
                          refine lv_goto (tgt := 122) hx hb dL_isLine_176 (by decide) ?_
                          refine lv_iload hx hb dL_isLine_122 (lv_at hl 0 rfl) ?_
                          refine lv_if_le (tgt := 179) hx hb dL_isLine_124 (by decide) (fun _ => ?_) (fun c_74 => absurd c_74 (by decide))
                          refine lv_iinc (v := nI (j + 1)) (lv' := [(4, .int (nI (j + 1))), (6, .int 0), (2, .int (nI ((lnT k f j).length + 5))), (3, .int 1), (5, .int (nI 100)), (0, .ref o), (1, .int n)]) hx hb dL_isLine_179 hl (k := 4) rfl (z_inc j 1) (by decide) rfl (fun ls hl => ?_)
                          refine lv_goto (tgt := 24) hx hb dL_isLine_182 (by decide) ?_
                          exact ih_j _ _ _ (by omega) ⟨ml'_71, g'_71, hP, hD, hS, (by rw [show nI ((lnT k f (j + 1)).length) = nI ((lnT k f j).length + 5) from (congrArg nI (by omega))]; exact lv_sub hl [0, 3, 2, 5, 6] rfl), hoL_72⟩
