set_option maxHeartbeats 4000000 in
set_option maxRecDepth 100000 in
theorem c_L_draw (l : Launch) (D : va_G) (cA : Nat → ClassId) (zv : Nat → Nat) (sz : Nat) (sc L : Nat) (xs : Nat → Int32) (k mo : Nat) (hk : k < 100000) (hmo : 0 < mo) (hmo2 : mo ≤ 1073741824) (hL : L ≤ 260) : Met l yL_draw wsL_draw ({ frames := 0, cells := 0, slots := 0, locals := 0 }) (va_Pc [.ref sc, .int (nI k), .int (nI mo)] (zUS D cA zv sc L xs sz [])) (va_Qi (fun (r : Int32) (u : Nat) => u < mo ∧ r = nI u) (fun (u : Nat) t => zB D [] sz [] t) (va_A [] sz)) 0 0 (va_A [] sz) := by
  refine Met.ofW (cc := cL_draw) (maxL := 4) (ret := (some .int)) (by decide) rfl ?_
  intro p e s m args below meth c s₁ B hml hv
  obtain ⟨rfl, ⟨⟨hsz, hP, hK, hD0, hE0⟩, hX0⟩, hT0⟩ := hv
  have hx := B.exec
  have hb := B.bytes
  have hr := B.returns
  have hts := atoms_spec (ws := wsL_draw) B.pre
  have hown : s.vm.findClass RL = some m.cls := findClass_of_methodNamed B.named
  have hlocks := B.notSynchronized
  subst hsz
  have hD := hD0.self (sz := s.heap.size)
  generalize hAe : va_A [] s.heap.size = A at hD hE0 hX0 hT0 ⊢
  have hA : ∀ q : Nat, s.heap.size ≤ q → A q := fun q h => by rw [← hAe]; exact Or.inr h
  have hS : va_S A s.heap s.heap [] := va_S.rf
  have hl := lv_entry ([.ref sc, .int (nI k), .int (nI mo)]) (n := 4) (Nat.le_of_ble_eq_true rfl)
  rw [lg_entry_eq]
  generalize (lg_sl ([.ref sc, .int (nI k), .int (nI mo)]) ++ List.replicate (4 - (lg_sl ([.ref sc, .int (nI k), .int (nI mo)])).length) Slot.unset).toArray = ls at hl ⊢
  have hl : lv_has ls 4 [(0, .ref sc), (1, .int (nI k)), (2, .int (nI mo))] := hl
  refine lv_iload_n hx hb dL_draw_0 rfl (lv_at hl 1 rfl) ?_
  refine lv_aload_n hx hb dL_draw_1 rfl (lv_at hl 0 rfl) ?_
  refine va_tlen hx hb hT0 hS (v := nI L) rfl dL_draw_2 ?_
  refine lv_icmp_ge (tgt := 12) hx hb dL_draw_3 (by decide) (fun c_1 => ?_) (fun c_1 => ?_)
  · have c_1 := (nI_leI (a := L) (b := k) (by omega) (by omega)).mp c_1
    refine lv_ldc (v := 1003087829) hx hb hown (hts (.constant RL 7 (1003087829)) (List.mem_of_getElem? (i := 1) rfl)) dL_draw_12 ?_
    refine lv_iload_n hx hb dL_draw_14 rfl (lv_at hl 1 rfl) ?_
    refine lv_sipush (v := 281) hx hb dL_draw_15 (by decide) ?_
    refine lv_iadd hx hb dL_draw_18 ?_
    refine z_top (y := (nI (k + 281))) (z_add k 281) ?_
    refine lv_imul hx hb dL_draw_19 ?_
    refine z_top (y := (nI (1003087829 * (k + 281)))) (z_mul 1003087829 (k + 281)) ?_
    refine lv_ldc (v := 1171497465) hx hb hown (hts (.constant RL 8 (1171497465)) (List.mem_of_getElem? (i := 2) rfl)) dL_draw_20 ?_
    refine lv_iadd hx hb dL_draw_22 ?_
    refine z_top (y := (nI (1003087829 * (k + 281) + 1171497465))) (z_add (1003087829 * (k + 281)) 1171497465) ?_
    refine lv_istore_n (lv' := [(3, .int (nI (1003087829 * (k + 281) + 1171497465))), (0, .ref sc), (1, .int (nI k)), (2, .int (nI mo))]) hx hb dL_draw_23 rfl hl (by decide) rfl (fun ls hl => ?_)
    refine lv_iload_n hx hb dL_draw_24 rfl (lv_at hl 0 rfl) ?_
    refine lv_ldc (v := 2147483647) hx hb hown (hts (.constant RL 9 (2147483647)) (List.mem_of_getElem? (i := 3) rfl)) dL_draw_25 ?_
    refine lv_iand hx hb dL_draw_27 ?_
    obtain ⟨zj, hzj, ezj⟩ := pk_andE (nI (1003087829 * (k + 281) + 1171497465)) (m := 2147483647) 31 (by decide)
    refine z_top (y := nI zj) ezj ?_
    refine lv_iload_n hx hb dL_draw_28 rfl (lv_at hl 3 rfl) ?_
    refine lv_irem hx hb dL_draw_29 (nI_n0 (by omega) (by omega)) ?_
    refine z_top (y := (nI (zj % mo))) (z_rem (a := zj) (d := mo) (by omega) (by omega) (by omega)) ?_
    refine W.widen (k := 0) (n := 0) (by omega) (by omega) ?_
    exact W.iret (v := (nI (zj % mo))) hx hb hr (fun t ht hW => ⟨⟨nI (zj % mo), (zj % mo), rfl, ⟨Nat.mod_lt _ hmo, rfl⟩, ⟨by rw [ht]; exact hP, by rw [hAe]; exact hD⟩⟩, hS.F ht⟩) hS.2.2 dL_draw_30
  · have c_1 := mt (nI_leI (a := L) (b := k) (by omega) (by omega)).mpr c_1
    refine lv_aload_n hx hb dL_draw_6 rfl (lv_at hl 0 rfl) ?_
    refine lv_iload_n hx hb dL_draw_7 rfl (lv_at hl 1 rfl) ?_
    refine z_scr (k := k) hx hb hT0 hS rfl (by omega) (by omega) dL_draw_8 ?_
    refine lv_goto (tgt := 23) hx hb dL_draw_9 (by decide) ?_
    refine lv_istore_n (lv' := [(3, .int (xs k)), (0, .ref sc), (1, .int (nI k)), (2, .int (nI mo))]) hx hb dL_draw_23 rfl hl (by decide) rfl (fun ls hl => ?_)
    refine lv_iload_n hx hb dL_draw_24 rfl (lv_at hl 0 rfl) ?_
    refine lv_ldc (v := 2147483647) hx hb hown (hts (.constant RL 9 (2147483647)) (List.mem_of_getElem? (i := 3) rfl)) dL_draw_25 ?_
    refine lv_iand hx hb dL_draw_27 ?_
    obtain ⟨zj, hzj, ezj⟩ := pk_andE (xs k) (m := 2147483647) 31 (by decide)
    refine z_top (y := nI zj) ezj ?_
    refine lv_iload_n hx hb dL_draw_28 rfl (lv_at hl 3 rfl) ?_
    refine lv_irem hx hb dL_draw_29 (nI_n0 (by omega) (by omega)) ?_
    refine z_top (y := (nI (zj % mo))) (z_rem (a := zj) (d := mo) (by omega) (by omega) (by omega)) ?_
    refine W.widen (k := 0) (n := 0) (by omega) (by omega) ?_
    exact W.iret (v := (nI (zj % mo))) hx hb hr (fun t ht hW => ⟨⟨nI (zj % mo), (zj % mo), rfl, ⟨Nat.mod_lt _ hmo, rfl⟩, ⟨by rw [ht]; exact hP, by rw [hAe]; exact hD⟩⟩, hS.F ht⟩) hS.2.2 dL_draw_30
set_option maxHeartbeats 4000000 in
set_option maxRecDepth 100000 in
theorem c_L_isShut (l : Launch) (D : va_G) (cA : Nat → ClassId) (sz : Nat) (us : Nat) (hus : us ≤ 7) : Met l yL_isShut wsL_isShut ({ frames := 0, cells := 0, slots := 0, locals := 0 }) (va_Pc [.int (nI us)] (zU D cA sz [])) (va_Qi (fun (r : Int32) (_ : Unit) => r = bI (us = 0 ∨ 5 < us)) (fun (_ : Unit) t => zB D [] sz [] t) (va_A [] sz)) 0 0 (va_A [] sz) := by
  refine Met.ofW (cc := cL_isShut) (maxL := 1) (ret := (some .boolean)) (by decide) rfl ?_
  intro p e s m args below meth c s₁ B hml hv
  obtain ⟨rfl, hsz, hP, hK, hD0⟩ := hv
  have hx := B.exec
  have hb := B.bytes
  have hr := B.returns
  have hts := atoms_spec (ws := wsL_isShut) B.pre
  have hown : s.vm.findClass RL = some m.cls := findClass_of_methodNamed B.named
  have hlocks := B.notSynchronized
  subst hsz
  have hD := hD0.self (sz := s.heap.size)
  generalize hAe : va_A [] s.heap.size = A at hD ⊢
  have hA : ∀ q : Nat, s.heap.size ≤ q → A q := fun q h => by rw [← hAe]; exact Or.inr h
  have hS : va_S A s.heap s.heap [] := va_S.rf
  have hl := lv_entry ([.int (nI us)]) (n := 1) (Nat.le_of_ble_eq_true rfl)
  rw [lg_entry_eq]
  generalize (lg_sl ([.int (nI us)]) ++ List.replicate (1 - (lg_sl ([.int (nI us)])).length) Slot.unset).toArray = ls at hl ⊢
  have hl : lv_has ls 1 [(0, .int (nI us))] := hl
  refine lv_iload_n hx hb dL_isShut_0 rfl (lv_at hl 0 rfl) ?_
  refine lv_if_eq (tgt := 9) hx hb dL_isShut_1 (by decide) (fun c_1 => ?_) (fun c_1 => ?_)
  · have c_1 := (nI_eq (a := us) (b := 0) (by omega) (by omega)).mp c_1
    refine lv_iconst (v := 1) hx hb dL_isShut_9 (by decide) ?_
    refine lv_goto (tgt := 14) hx hb dL_isShut_10 (by decide) ?_
    refine W.widen (k := 0) (n := 0) (by omega) (by omega) ?_
    exact W.zret (v := 1) hx hb hr rfl (fun t ht hW => ⟨⟨1, (), rfl, (bI1 (by omega)).symm, ⟨by rw [ht]; exact hP, by rw [hAe]; exact hD⟩⟩, hS.F ht⟩) hS.2.2 dL_isShut_14
  · have c_1 := mt (nI_eq (a := us) (b := 0) (by omega) (by omega)).mpr c_1
    refine lv_iload_n hx hb dL_isShut_4 rfl (lv_at hl 0 rfl) ?_
    refine lv_iconst (v := 5) hx hb dL_isShut_5 (by decide) ?_
    refine lv_icmp_le (tgt := 13) hx hb dL_isShut_6 (by decide) (fun c_2 => ?_) (fun c_2 => ?_)
    · have c_2 := (nI_leI (a := us) (b := 5) (by omega) (by omega)).mp c_2
      refine lv_iconst (v := 0) hx hb dL_isShut_13 (by decide) ?_
      refine W.widen (k := 0) (n := 0) (by omega) (by omega) ?_
      exact W.zret (v := 0) hx hb hr rfl (fun t ht hW => ⟨⟨0, (), rfl, (bI0 (by omega)).symm, ⟨by rw [ht]; exact hP, by rw [hAe]; exact hD⟩⟩, hS.F ht⟩) hS.2.2 dL_isShut_14
    · have c_2 := mt (nI_leI (a := us) (b := 5) (by omega) (by omega)).mpr c_2
      refine lv_iconst (v := 1) hx hb dL_isShut_9 (by decide) ?_
      refine lv_goto (tgt := 14) hx hb dL_isShut_10 (by decide) ?_
      refine W.widen (k := 0) (n := 0) (by omega) (by omega) ?_
      exact W.zret (v := 1) hx hb hr rfl (fun t ht hW => ⟨⟨1, (), rfl, (bI1 (by omega)).symm, ⟨by rw [ht]; exact hP, by rw [hAe]; exact hD⟩⟩, hS.F ht⟩) hS.2.2 dL_isShut_14
set_option maxHeartbeats 4000000 in
set_option maxRecDepth 100000 in
theorem c_L_opens_k (l : Launch) (D : va_G) (cA : Nat → ClassId) (sz : Nat) (o F G : Nat) (lo nw se : Int32) (pa : Nat → Nat) (an ln : Nat) (x y : Nat → Nat) (n : Int32) (xv yv : Nat → Int32) (xr yr : Nat → Nat → Int32) (xf yf : Nat) (QX QY : Qt)(mk : Int32) (f g : Nat → Int32) (he : en n F G (x 0) (y 0)) (hqx : rg xr xf QX) (hqy : rg yr yf QY) (hmk : inr mk 1 999) (hsh : sSh (xv 0)) : Met l yL_opens wsL_opens ({ frames := 5, cells := 0, slots := 0, locals := 118 }) (va_Pc [.ref o, .int n, .int mk] (zU D cA sz [(o, .inr (4, [.ref F, .ref G, .int lo, .int nw, .int se, .ref (pa 0), .ref an, .ref ln])), cE x xv, (x 9, .inr (3, [.ref (x 10), .ref (x 11), .ref (x 12), .ref (x 13), .int (nI xf), .int (nI QX.1)])), (x 10, .inl (cA 0, 12, .inl (xr 0))), (x 11, .inl (cA 0, 12, .inl (xr 1))), (x 12, .inl (cA 0, 12, .inl (xr 2))), (x 13, .inl (cA 0, 48, .inl (xr 3))), cE y yv, (y 9, .inr (3, [.ref (y 10), .ref (y 11), .ref (y 12), .ref (y 13), .int (nI yf), .int (nI QY.1)])), (y 10, .inl (cA 0, 12, .inl (yr 0))), (y 11, .inl (cA 0, 12, .inl (yr 1))), (y 12, .inl (cA 0, 12, .inl (yr 2))), (y 13, .inl (cA 0, 48, .inl (yr 3))), (x 1, .inl (cA 0, 4, .inl g)), (x 7, .inl (cA 0, 4, .inl f))])) (va_Qi (fun (r : Int32) (u : ((Nat → Int32) × (Nat → Nat → Int32) × (Nat → Nat → Int32) × Qt × Qt × Int32)) => u.1 = (rq lo (upd (upd (upd (upd xv 0 1) 3 10) 1 mk) 5 0) g QX QY se).1 ∧ u.2.2.2.1 = (rq lo (upd (upd (upd (upd xv 0 1) 3 10) 1 mk) 5 0) g QX QY se).2.1.1 ∧ u.2.2.2.2.1 = (rq lo (upd (upd (upd (upd xv 0 1) 3 10) 1 mk) 5 0) g QX QY se).2.1.2 ∧ u.2.2.2.2.2 = (rq lo (upd (upd (upd (upd xv 0 1) 3 10) 1 mk) 5 0) g QX QY se).2.2 ∧ rg u.2.1 xf u.2.2.2.1 ∧ rg u.2.2.1 yf u.2.2.2.2.1 ∧ r = 0) (fun (u : ((Nat → Int32) × (Nat → Nat → Int32) × (Nat → Nat → Int32) × Qt × Qt × Int32)) t => zB D [(o, .inr (4, [.ref F, .ref G, .int lo, .int nw, .int se, .ref (pa 0), .ref an, .ref ln])), cE x xv, (x 9, .inr (3, [.ref (x 10), .ref (x 11), .ref (x 12), .ref (x 13), .int (nI xf), .int (nI QX.1)])), (x 10, .inl (cA 0, 12, .inl (xr 0))), (x 11, .inl (cA 0, 12, .inl (xr 1))), (x 12, .inl (cA 0, 12, .inl (xr 2))), (x 13, .inl (cA 0, 48, .inl (xr 3))), cE y yv, (y 9, .inr (3, [.ref (y 10), .ref (y 11), .ref (y 12), .ref (y 13), .int (nI yf), .int (nI QY.1)])), (y 10, .inl (cA 0, 12, .inl (yr 0))), (y 11, .inl (cA 0, 12, .inl (yr 1))), (y 12, .inl (cA 0, 12, .inl (yr 2))), (y 13, .inl (cA 0, 48, .inl (yr 3))), (x 1, .inl (cA 0, 4, .inl g)), (x 7, .inl (cA 0, 4, .inl f))] sz [(o, .inr (4, [.ref F, .ref G, .int lo, .int nw, .int u.2.2.2.2.2, .ref (pa 0), .ref an, .ref ln])), cE x u.1, (x 9, .inr (3, [.ref (x 10), .ref (x 11), .ref (x 12), .ref (x 13), .int (nI xf), .int (nI u.2.2.2.1.1)])), (x 10, .inl (cA 0, 12, .inl (u.2.1 0))), (x 11, .inl (cA 0, 12, .inl (u.2.1 1))), (x 12, .inl (cA 0, 12, .inl (u.2.1 2))), (x 13, .inl (cA 0, 48, .inl (u.2.1 3))), cE y yv, (y 9, .inr (3, [.ref (y 10), .ref (y 11), .ref (y 12), .ref (y 13), .int (nI yf), .int (nI u.2.2.2.2.1.1)])), (y 10, .inl (cA 0, 12, .inl (u.2.2.1 0))), (y 11, .inl (cA 0, 12, .inl (u.2.2.1 1))), (y 12, .inl (cA 0, 12, .inl (u.2.2.1 2))), (y 13, .inl (cA 0, 48, .inl (u.2.2.1 3))), (x 1, .inl (cA 0, 4, .inl g)), (x 7, .inl (cA 0, 4, .inl g))] t) (va_A [(o, .inr (4, [.ref F, .ref G, .int lo, .int nw, .int se, .ref (pa 0), .ref an, .ref ln])), cE x xv, (x 9, .inr (3, [.ref (x 10), .ref (x 11), .ref (x 12), .ref (x 13), .int (nI xf), .int (nI QX.1)])), (x 10, .inl (cA 0, 12, .inl (xr 0))), (x 11, .inl (cA 0, 12, .inl (xr 1))), (x 12, .inl (cA 0, 12, .inl (xr 2))), (x 13, .inl (cA 0, 48, .inl (xr 3))), cE y yv, (y 9, .inr (3, [.ref (y 10), .ref (y 11), .ref (y 12), .ref (y 13), .int (nI yf), .int (nI QY.1)])), (y 10, .inl (cA 0, 12, .inl (yr 0))), (y 11, .inl (cA 0, 12, .inl (yr 1))), (y 12, .inl (cA 0, 12, .inl (yr 2))), (y 13, .inl (cA 0, 48, .inl (yr 3))), (x 1, .inl (cA 0, 4, .inl g)), (x 7, .inl (cA 0, 4, .inl f))] sz)) 0 0 (va_A [(o, .inr (4, [.ref F, .ref G, .int lo, .int nw, .int se, .ref (pa 0), .ref an, .ref ln])), cE x xv, (x 9, .inr (3, [.ref (x 10), .ref (x 11), .ref (x 12), .ref (x 13), .int (nI xf), .int (nI QX.1)])), (x 10, .inl (cA 0, 12, .inl (xr 0))), (x 11, .inl (cA 0, 12, .inl (xr 1))), (x 12, .inl (cA 0, 12, .inl (xr 2))), (x 13, .inl (cA 0, 48, .inl (xr 3))), cE y yv, (y 9, .inr (3, [.ref (y 10), .ref (y 11), .ref (y 12), .ref (y 13), .int (nI yf), .int (nI QY.1)])), (y 10, .inl (cA 0, 12, .inl (yr 0))), (y 11, .inl (cA 0, 12, .inl (yr 1))), (y 12, .inl (cA 0, 12, .inl (yr 2))), (y 13, .inl (cA 0, 48, .inl (yr 3))), (x 1, .inl (cA 0, 4, .inl g)), (x 7, .inl (cA 0, 4, .inl f))] sz) := by
  refine Met.ofW (cc := cL_opens) (maxL := 3) (ret := (some .int)) (by decide) rfl ?_
  intro p e s m args below meth c s₁ B hml hv
  obtain ⟨rfl, hsz, hP, hK, hD0⟩ := hv
  have hx := B.exec
  have hb := B.bytes
  have hr := B.returns
  have hts := atoms_spec (ws := wsL_opens) B.pre
  have hown : s.vm.findClass RL = some m.cls := findClass_of_methodNamed B.named
  have hlocks := B.notSynchronized
  subst hsz
  have hD := hD0.self (sz := s.heap.size)
  generalize hAe : va_A [(o, .inr (4, [.ref F, .ref G, .int lo, .int nw, .int se, .ref (pa 0), .ref an, .ref ln])), cE x xv, (x 9, .inr (3, [.ref (x 10), .ref (x 11), .ref (x 12), .ref (x 13), .int (nI xf), .int (nI QX.1)])), (x 10, .inl (cA 0, 12, .inl (xr 0))), (x 11, .inl (cA 0, 12, .inl (xr 1))), (x 12, .inl (cA 0, 12, .inl (xr 2))), (x 13, .inl (cA 0, 48, .inl (xr 3))), cE y yv, (y 9, .inr (3, [.ref (y 10), .ref (y 11), .ref (y 12), .ref (y 13), .int (nI yf), .int (nI QY.1)])), (y 10, .inl (cA 0, 12, .inl (yr 0))), (y 11, .inl (cA 0, 12, .inl (yr 1))), (y 12, .inl (cA 0, 12, .inl (yr 2))), (y 13, .inl (cA 0, 48, .inl (yr 3))), (x 1, .inl (cA 0, 4, .inl g)), (x 7, .inl (cA 0, 4, .inl f))] s.heap.size = A at hD ⊢
  have hA : ∀ q : Nat, s.heap.size ≤ q → A q := fun q h => by rw [← hAe]; exact Or.inr h
  have hS : va_S A s.heap s.heap [] := va_S.rf
  have hl := lv_entry ([.ref o, .int n, .int mk]) (n := 3) (Nat.le_of_ble_eq_true rfl)
  rw [lg_entry_eq]
  generalize (lg_sl ([.ref o, .int n, .int mk]) ++ List.replicate (3 - (lg_sl ([.ref o, .int n, .int mk])).length) Slot.unset).toArray = ls at hl ⊢
  have hl : lv_has ls 3 [(0, .ref o), (1, .int n), (2, .int mk)] := hl
  refine lv_aload_n hx hb dL_opens_0 rfl (lv_at hl 0 rfl) ?_
  refine lv_iload_n hx hb dL_opens_1 rfl (lv_at hl 1 rfl) ?_
  refine lv_iload_n hx hb dL_opens_2 rfl (lv_at hl 2 rfl) ?_
  have hPc := hP.sub (ws' := [(o, .inr (4, [.ref F, .ref G, .int lo, .int nw, .int se, .ref (pa 0), .ref an, .ref ln])), cE x xv, (x 9, .inr (3, [.ref (x 10), .ref (x 11), .ref (x 12), .ref (x 13), .int (nI xf), .int (nI QX.1)])), (x 10, .inl (cA 0, 12, .inl (xr 0))), (x 11, .inl (cA 0, 12, .inl (xr 1))), (x 12, .inl (cA 0, 12, .inl (xr 2))), (x 13, .inl (cA 0, 48, .inl (xr 3))), cE y yv, (y 9, .inr (3, [.ref (y 10), .ref (y 11), .ref (y 12), .ref (y 13), .int (nI yf), .int (nI QY.1)])), (y 10, .inl (cA 0, 12, .inl (yr 0))), (y 11, .inl (cA 0, 12, .inl (yr 1))), (y 12, .inl (cA 0, 12, .inl (yr 2))), (y 13, .inl (cA 0, 48, .inl (yr 3))), (x 1, .inl (cA 0, 4, .inl g)), (x 7, .inl (cA 0, 4, .inl f))]) [0, 1, 2, 3, 4, 5, 6, 7, 8, 9, 10, 11, 12, 13, 14] rfl
  have hDc := hD.sub (ws' := [(o, .inr (4, [.ref F, .ref G, .int lo, .int nw, .int se, .ref (pa 0), .ref an, .ref ln])), cE x xv, (x 9, .inr (3, [.ref (x 10), .ref (x 11), .ref (x 12), .ref (x 13), .int (nI xf), .int (nI QX.1)])), (x 10, .inl (cA 0, 12, .inl (xr 0))), (x 11, .inl (cA 0, 12, .inl (xr 1))), (x 12, .inl (cA 0, 12, .inl (xr 2))), (x 13, .inl (cA 0, 48, .inl (xr 3))), cE y yv, (y 9, .inr (3, [.ref (y 10), .ref (y 11), .ref (y 12), .ref (y 13), .int (nI yf), .int (nI QY.1)])), (y 10, .inl (cA 0, 12, .inl (yr 0))), (y 11, .inl (cA 0, 12, .inl (yr 1))), (y 12, .inl (cA 0, 12, .inl (yr 2))), (y 13, .inl (cA 0, 48, .inl (yr 3))), (x 1, .inl (cA 0, 4, .inl g)), (x 7, .inl (cA 0, 4, .inl f))]) [0, 1, 2, 3, 4, 5, 6, 7, 8, 9, 10, 11, 12, 13, 14] (by decide) rfl
  have hFc := va_free (wc := [(o, .inr (4, [.ref F, .ref G, .int lo, .int nw, .int se, .ref (pa 0), .ref an, .ref ln])), cE x xv, (x 9, .inr (3, [.ref (x 10), .ref (x 11), .ref (x 12), .ref (x 13), .int (nI xf), .int (nI QX.1)])), (x 10, .inl (cA 0, 12, .inl (xr 0))), (x 11, .inl (cA 0, 12, .inl (xr 1))), (x 12, .inl (cA 0, 12, .inl (xr 2))), (x 13, .inl (cA 0, 48, .inl (xr 3))), cE y yv, (y 9, .inr (3, [.ref (y 10), .ref (y 11), .ref (y 12), .ref (y 13), .int (nI yf), .int (nI QY.1)])), (y 10, .inl (cA 0, 12, .inl (yr 0))), (y 11, .inl (cA 0, 12, .inl (yr 1))), (y 12, .inl (cA 0, 12, .inl (yr 2))), (y 13, .inl (cA 0, 48, .inl (yr 3))), (x 1, .inl (cA 0, 4, .inl g)), (x 7, .inl (cA 0, 4, .inl f))]) hD hS hA [0, 1, 2, 3, 4, 5, 6, 7, 8, 9, 10, 11, 12, 13, 14] rfl
  refine va_callv (va_runV (As := [.int n, .int mk]) (rest := []) ⟨hx, hb, hml, hown, hts⟩ (c_X3_open_k l D cA s.heap.size o F G lo nw se pa an ln x y n xv yv xr yr xf yf QX QY mk f g (by assumption) (by assumption) (by assumption) (by assumption) (by assumption)) (cwV 2 hts gL_opens_X3_open rfl rfl rfl (by decide +kernel) ⟨Nat.le_of_ble_eq_true rfl, Nat.le_of_ble_eq_true rfl⟩) ⟨zU_blind, va_recv hK hPc (ci := 4) (q0 := 0) rfl rfl, fun U hU hW => ⟨rfl, zU_call hU hPc hW.alike hK hDc⟩⟩ rfl rfl hl.1 rfl (lv_room (Nat.le_of_ble_eq_true rfl)) dL_opens_3 ⟨(Nat.zero_le _), (Nat.zero_le _)⟩) hS (fun q _ h => hFc q h) hFc (fun u t H1 locs ht hvm hw hB hz1 hk1 hS => ?_)
  obtain ⟨xv'_1, xr'_1, yr'_1, QX'_1, QY'_1, se'_1⟩ := u
  obtain ⟨hP1, hD1⟩ := hB
  rw [ht] at hP1
  try dsimp only at hw hP1 hD1
  obtain ⟨hP, hD⟩ := va_join (wr := []) (w1 := [(o, .inr (4, [.ref F, .ref G, .int lo, .int nw, .int se'_1, .ref (pa 0), .ref an, .ref ln])), cE x xv'_1, (x 9, .inr (3, [.ref (x 10), .ref (x 11), .ref (x 12), .ref (x 13), .int (nI xf), .int (nI QX'_1.1)])), (x 10, .inl (cA 0, 12, .inl (xr'_1 0))), (x 11, .inl (cA 0, 12, .inl (xr'_1 1))), (x 12, .inl (cA 0, 12, .inl (xr'_1 2))), (x 13, .inl (cA 0, 48, .inl (xr'_1 3))), cE y yv, (y 9, .inr (3, [.ref (y 10), .ref (y 11), .ref (y 12), .ref (y 13), .int (nI yf), .int (nI QY'_1.1)])), (y 10, .inl (cA 0, 12, .inl (yr'_1 0))), (y 11, .inl (cA 0, 12, .inl (yr'_1 1))), (y 12, .inl (cA 0, 12, .inl (yr'_1 2))), (y 13, .inl (cA 0, 48, .inl (yr'_1 3))), (x 1, .inl (cA 0, 4, .inl g)), (x 7, .inl (cA 0, 4, .inl g))]) hP hD [0, 1, 2, 3, 4, 5, 6, 7, 8, 9, 10, 11, 12, 13, 14] [] rfl rfl (by decide) (by decide) hk1 hFc hP1 hD1
  generalize H1 = H at hP hS ⊢
  have hP := hP.sub (ws' := [(o, .inr (4, [.ref F, .ref G, .int lo, .int nw, .int se'_1, .ref (pa 0), .ref an, .ref ln])), cE x xv'_1, (x 9, .inr (3, [.ref (x 10), .ref (x 11), .ref (x 12), .ref (x 13), .int (nI xf), .int (nI QX'_1.1)])), (x 10, .inl (cA 0, 12, .inl (xr'_1 0))), (x 11, .inl (cA 0, 12, .inl (xr'_1 1))), (x 12, .inl (cA 0, 12, .inl (xr'_1 2))), (x 13, .inl (cA 0, 48, .inl (xr'_1 3))), cE y yv, (y 9, .inr (3, [.ref (y 10), .ref (y 11), .ref (y 12), .ref (y 13), .int (nI yf), .int (nI QY'_1.1)])), (y 10, .inl (cA 0, 12, .inl (yr'_1 0))), (y 11, .inl (cA 0, 12, .inl (yr'_1 1))), (y 12, .inl (cA 0, 12, .inl (yr'_1 2))), (y 13, .inl (cA 0, 48, .inl (yr'_1 3))), (x 1, .inl (cA 0, 4, .inl g)), (x 7, .inl (cA 0, 4, .inl g))]) [0, 1, 2, 3, 4, 5, 6, 7, 8, 9, 10, 11, 12, 13, 14] rfl
  have hD := hD.sub (ws' := [(o, .inr (4, [.ref F, .ref G, .int lo, .int nw, .int se'_1, .ref (pa 0), .ref an, .ref ln])), cE x xv'_1, (x 9, .inr (3, [.ref (x 10), .ref (x 11), .ref (x 12), .ref (x 13), .int (nI xf), .int (nI QX'_1.1)])), (x 10, .inl (cA 0, 12, .inl (xr'_1 0))), (x 11, .inl (cA 0, 12, .inl (xr'_1 1))), (x 12, .inl (cA 0, 12, .inl (xr'_1 2))), (x 13, .inl (cA 0, 48, .inl (xr'_1 3))), cE y yv, (y 9, .inr (3, [.ref (y 10), .ref (y 11), .ref (y 12), .ref (y 13), .int (nI yf), .int (nI QY'_1.1)])), (y 10, .inl (cA 0, 12, .inl (yr'_1 0))), (y 11, .inl (cA 0, 12, .inl (yr'_1 1))), (y 12, .inl (cA 0, 12, .inl (yr'_1 2))), (y 13, .inl (cA 0, 48, .inl (yr'_1 3))), (x 1, .inl (cA 0, 4, .inl g)), (x 7, .inl (cA 0, 4, .inl g))]) [0, 1, 2, 3, 4, 5, 6, 7, 8, 9, 10, 11, 12, 13, 14] (by decide) rfl
  clear hPc hDc hFc hP1 hD1 hk1 hz1
  obtain ⟨rfl, rfl, rfl, rfl, hw_1_0, hw_1_1⟩ := hw
  refine lv_iconst (v := 0) hx hb dL_opens_6 (by decide) ?_
  refine W.widen (k := 0) (n := 0) (by omega) (by omega) ?_
  exact W.iret (v := 0) hx hb hr (fun t ht hW => ⟨⟨0, (((rq lo (upd (upd (upd (upd xv 0 1) 3 10) 1 mk) 5 0) g QX QY se).1), xr'_1, yr'_1, (rq lo (upd (upd (upd (upd xv 0 1) 3 10) 1 mk) 5 0) g QX QY se).2.1.1, (rq lo (upd (upd (upd (upd xv 0 1) 3 10) 1 mk) 5 0) g QX QY se).2.1.2, ((rq lo (upd (upd (upd (upd xv 0 1) 3 10) 1 mk) 5 0) g QX QY se).2.2)), rfl, ⟨rfl, rfl, rfl, rfl, by assumption, by assumption, rfl⟩, ⟨by rw [ht]; exact hP, by rw [hAe]; exact hD⟩⟩, hS.F ht⟩) hS.2.2 dL_opens_7
set_option maxHeartbeats 4000000 in
set_option maxRecDepth 100000 in
theorem c_L_opens_s (l : Launch) (D : va_G) (cA : Nat → ClassId) (zv : Nat → Nat) (sz : Nat) (hl0 : l.stackTraces = false) (o F G : Nat) (lo nw se : Int32) (pa : Nat → Nat) (an ln : Nat) (x : Nat → Nat) (y0 : Nat) (n : Int32) (xv : Nat → Int32) (mk : Int32) (he : en n F G (x 0) y0) (hmk : inr mk 1 999) (hsh : ¬ sSh (xv 0)) : vx_Met l yL_opens wsL_opens ({ frames := 10, cells := 1, slots := 6, locals := 143 }) (va_Pc [.ref o, .int n, .int mk] (zUX D cA zv sz [(o, .inr (4, [.ref F, .ref G, .int lo, .int nw, .int se, .ref (pa 0), .ref an, .ref ln])), cE x xv])) (va_Qi (fun (_ : Int32) (_ : Unit) => False) (fun (_ : Unit) _ => True) (va_A [(o, .inr (4, [.ref F, .ref G, .int lo, .int nw, .int se, .ref (pa 0), .ref an, .ref ln])), cE x xv] sz)) (vx_X (fun (_ : Unit) => True) (fun E (_ : Unit) t => E = "java/lang/IllegalStateException" ∧ zB D [(o, .inr (4, [.ref F, .ref G, .int lo, .int nw, .int se, .ref (pa 0), .ref an, .ref ln])), cE x xv] sz [(o, .inr (4, [.ref F, .ref G, .int lo, .int nw, .int se, .ref (pa 0), .ref an, .ref ln])), cE x xv] t) (va_A [(o, .inr (4, [.ref F, .ref G, .int lo, .int nw, .int se, .ref (pa 0), .ref an, .ref ln])), cE x xv] sz)) 1 6 (va_A [(o, .inr (4, [.ref F, .ref G, .int lo, .int nw, .int se, .ref (pa 0), .ref an, .ref ln])), cE x xv] sz) := by
  refine vx_ofW (cc := cL_opens) (maxL := 3) (ret := (some .int)) (by decide) rfl ?_
  intro p e s m args below meth c s₁ B hml htab hv
  obtain ⟨rfl, ⟨hsz, hP, hK, hD0, hE0⟩, hX0⟩ := hv
  have hx := B.exec
  have hb := B.bytes
  have hr := B.returns
  have hts := atoms_spec (ws := wsL_opens) B.pre
  have hown : s.vm.findClass RL = some m.cls := findClass_of_methodNamed B.named
  have hlocks := B.notSynchronized
  subst hsz
  have hD := hD0.self (sz := s.heap.size)
  generalize hAe : va_A [(o, .inr (4, [.ref F, .ref G, .int lo, .int nw, .int se, .ref (pa 0), .ref an, .ref ln])), cE x xv] s.heap.size = A at hD hE0 hX0 ⊢
  have hA : ∀ q : Nat, s.heap.size ≤ q → A q := fun q h => by rw [← hAe]; exact Or.inr h
  have hS : va_S A s.heap s.heap [] := va_S.rf
  have hl := lv_entry ([.ref o, .int n, .int mk]) (n := 3) (Nat.le_of_ble_eq_true rfl)
  rw [lg_entry_eq]
  generalize (lg_sl ([.ref o, .int n, .int mk]) ++ List.replicate (3 - (lg_sl ([.ref o, .int n, .int mk])).length) Slot.unset).toArray = ls at hl ⊢
  have hl : lv_has ls 3 [(0, .ref o), (1, .int n), (2, .int mk)] := hl
  refine lv_aload_n hx hb dL_opens_0 rfl (lv_at hl 0 rfl) ?_
  refine lv_iload_n hx hb dL_opens_1 rfl (lv_at hl 1 rfl) ?_
  refine lv_iload_n hx hb dL_opens_2 rfl (lv_at hl 2 rfl) ?_
  have hPc := hP.sub (ws' := [(o, .inr (4, [.ref F, .ref G, .int lo, .int nw, .int se, .ref (pa 0), .ref an, .ref ln])), cE x xv]) [0, 1] rfl
  have hDc := hD.sub (ws' := [(o, .inr (4, [.ref F, .ref G, .int lo, .int nw, .int se, .ref (pa 0), .ref an, .ref ln])), cE x xv]) [0, 1] (by decide) rfl
  have hFc := va_free (wc := [(o, .inr (4, [.ref F, .ref G, .int lo, .int nw, .int se, .ref (pa 0), .ref an, .ref ln])), cE x xv]) hD hS hA [0, 1] rfl
  refine vx_callv (vx_runV (As := [.int n, .int mk]) (rest := []) ⟨hx, hb, hml, hown, hts⟩ (c_X3_open_s l D cA zv s.heap.size hl0 o F G lo nw se pa an ln x y0 n xv mk (by assumption) (by assumption) (by assumption)) (cwV 2 hts gL_opens_X3_open rfl rfl rfl (by decide +kernel) ⟨Nat.le_of_ble_eq_true rfl, Nat.le_of_ble_eq_true rfl⟩) ⟨zUX_blind, va_recv hK hPc (ci := 4) (q0 := 0) rfl rfl, fun U hU hW => ⟨rfl, zUX_call hE0 hX0 hS hFc hU hPc hW hK hDc⟩⟩ rfl rfl hl.1 rfl (lv_room (Nat.le_of_ble_eq_true rfl)) dL_opens_3 ⟨Nat.le_of_ble_eq_true rfl, Nat.le_of_ble_eq_true rfl⟩) hS (fun q _ h => hFc q h) hFc (fun q _ h => hFc q h) (fun E9 ce9 q9 u t H1 locs ht hvm hpx hB hz1 hk1 hS hcell hcv hcl => ?_) (fun u t H1 locs1 ht hvm hw _ _ _ _ => hw.elim)
  obtain ⟨rfl, hP1, hD1⟩ := hB
  rw [ht] at hP1
  obtain ⟨hP, hD⟩ := va_join (wr := []) (w1 := [(o, .inr (4, [.ref F, .ref G, .int lo, .int nw, .int se, .ref (pa 0), .ref an, .ref ln])), cE x xv]) hP hD [0, 1] [] rfl rfl (by decide) (by decide) hk1 hFc hP1 hD1
  have hP := hP.sub (ws' := [(o, .inr (4, [.ref F, .ref G, .int lo, .int nw, .int se, .ref (pa 0), .ref an, .ref ln])), cE x xv]) [0, 1] rfl
  have hD := hD.sub (ws' := [(o, .inr (4, [.ref F, .ref G, .int lo, .int nw, .int se, .ref (pa 0), .ref an, .ref ln])), cE x xv]) [0, 1] (by decide) rfl
  exact vx_out (fun x h => (htab x h).elim) hlocks hcell hcv hcl (fun t2 h7 h8 => z_thrO hP hD hS hAe h7) hS.2.2 (by omega) (by omega)
set_option maxHeartbeats 4000000 in
set_option maxRecDepth 100000 in
theorem c_L_closes_k (l : Launch) (D : va_G) (cA : Nat → ClassId) (zv : Nat → Nat) (sz : Nat) (o F G : Nat) (lo nw se : Int32) (pa : Nat → Nat) (an ln : Nat) (x y : Nat → Nat) (n : Int32) (xv yv : Nat → Int32) (xr yr : Nat → Nat → Int32) (xf yf : Nat) (QX QY : Qt) (he : en n F G (x 0) (y 0)) (hqx : rg xr xf QX) (hqy : rg yr yf QY) (hup : sUp (xv 0)) : Met l yL_closes wsL_closes ({ frames := 5, cells := 0, slots := 0, locals := 117 }) (va_Pc [.ref o, .int n] (zUE D cA zv sz [(o, .inr (4, [.ref F, .ref G, .int lo, .int nw, .int se, .ref (pa 0), .ref an, .ref ln])), cE x xv, (x 9, .inr (3, [.ref (x 10), .ref (x 11), .ref (x 12), .ref (x 13), .int (nI xf), .int (nI QX.1)])), (x 10, .inl (cA 0, 12, .inl (xr 0))), (x 11, .inl (cA 0, 12, .inl (xr 1))), (x 12, .inl (cA 0, 12, .inl (xr 2))), (x 13, .inl (cA 0, 48, .inl (xr 3))), cE y yv, (y 9, .inr (3, [.ref (y 10), .ref (y 11), .ref (y 12), .ref (y 13), .int (nI yf), .int (nI QY.1)])), (y 10, .inl (cA 0, 12, .inl (yr 0))), (y 11, .inl (cA 0, 12, .inl (yr 1))), (y 12, .inl (cA 0, 12, .inl (yr 2))), (y 13, .inl (cA 0, 48, .inl (yr 3)))])) (va_Qi (fun (r : Int32) (u : ((Nat → Int32) × (Nat → Nat → Int32) × (Nat → Nat → Int32) × Qt × Qt × Int32)) => u.1 = upd (upd (upd xv 0 5) 6 1) 4 2 ∧ u.2.2.2.1 = (sq lo (pk 4 0 0 nB) QX QY).1 ∧ u.2.2.2.2.1 = (sq lo (pk 4 0 0 nB) QX QY).2 ∧ u.2.2.2.2.2 = se + 1 ∧ rg u.2.1 xf u.2.2.2.1 ∧ rg u.2.2.1 yf u.2.2.2.2.1 ∧ r = 0) (fun (u : ((Nat → Int32) × (Nat → Nat → Int32) × (Nat → Nat → Int32) × Qt × Qt × Int32)) t => zB D [(o, .inr (4, [.ref F, .ref G, .int lo, .int nw, .int se, .ref (pa 0), .ref an, .ref ln])), cE x xv, (x 9, .inr (3, [.ref (x 10), .ref (x 11), .ref (x 12), .ref (x 13), .int (nI xf), .int (nI QX.1)])), (x 10, .inl (cA 0, 12, .inl (xr 0))), (x 11, .inl (cA 0, 12, .inl (xr 1))), (x 12, .inl (cA 0, 12, .inl (xr 2))), (x 13, .inl (cA 0, 48, .inl (xr 3))), cE y yv, (y 9, .inr (3, [.ref (y 10), .ref (y 11), .ref (y 12), .ref (y 13), .int (nI yf), .int (nI QY.1)])), (y 10, .inl (cA 0, 12, .inl (yr 0))), (y 11, .inl (cA 0, 12, .inl (yr 1))), (y 12, .inl (cA 0, 12, .inl (yr 2))), (y 13, .inl (cA 0, 48, .inl (yr 3)))] sz [(o, .inr (4, [.ref F, .ref G, .int lo, .int nw, .int u.2.2.2.2.2, .ref (pa 0), .ref an, .ref ln])), cE x u.1, (x 9, .inr (3, [.ref (x 10), .ref (x 11), .ref (x 12), .ref (x 13), .int (nI xf), .int (nI u.2.2.2.1.1)])), (x 10, .inl (cA 0, 12, .inl (u.2.1 0))), (x 11, .inl (cA 0, 12, .inl (u.2.1 1))), (x 12, .inl (cA 0, 12, .inl (u.2.1 2))), (x 13, .inl (cA 0, 48, .inl (u.2.1 3))), cE y yv, (y 9, .inr (3, [.ref (y 10), .ref (y 11), .ref (y 12), .ref (y 13), .int (nI yf), .int (nI u.2.2.2.2.1.1)])), (y 10, .inl (cA 0, 12, .inl (u.2.2.1 0))), (y 11, .inl (cA 0, 12, .inl (u.2.2.1 1))), (y 12, .inl (cA 0, 12, .inl (u.2.2.1 2))), (y 13, .inl (cA 0, 48, .inl (u.2.2.1 3)))] t) (va_A [(o, .inr (4, [.ref F, .ref G, .int lo, .int nw, .int se, .ref (pa 0), .ref an, .ref ln])), cE x xv, (x 9, .inr (3, [.ref (x 10), .ref (x 11), .ref (x 12), .ref (x 13), .int (nI xf), .int (nI QX.1)])), (x 10, .inl (cA 0, 12, .inl (xr 0))), (x 11, .inl (cA 0, 12, .inl (xr 1))), (x 12, .inl (cA 0, 12, .inl (xr 2))), (x 13, .inl (cA 0, 48, .inl (xr 3))), cE y yv, (y 9, .inr (3, [.ref (y 10), .ref (y 11), .ref (y 12), .ref (y 13), .int (nI yf), .int (nI QY.1)])), (y 10, .inl (cA 0, 12, .inl (yr 0))), (y 11, .inl (cA 0, 12, .inl (yr 1))), (y 12, .inl (cA 0, 12, .inl (yr 2))), (y 13, .inl (cA 0, 48, .inl (yr 3)))] sz)) 0 0 (va_A [(o, .inr (4, [.ref F, .ref G, .int lo, .int nw, .int se, .ref (pa 0), .ref an, .ref ln])), cE x xv, (x 9, .inr (3, [.ref (x 10), .ref (x 11), .ref (x 12), .ref (x 13), .int (nI xf), .int (nI QX.1)])), (x 10, .inl (cA 0, 12, .inl (xr 0))), (x 11, .inl (cA 0, 12, .inl (xr 1))), (x 12, .inl (cA 0, 12, .inl (xr 2))), (x 13, .inl (cA 0, 48, .inl (xr 3))), cE y yv, (y 9, .inr (3, [.ref (y 10), .ref (y 11), .ref (y 12), .ref (y 13), .int (nI yf), .int (nI QY.1)])), (y 10, .inl (cA 0, 12, .inl (yr 0))), (y 11, .inl (cA 0, 12, .inl (yr 1))), (y 12, .inl (cA 0, 12, .inl (yr 2))), (y 13, .inl (cA 0, 48, .inl (yr 3)))] sz) := by
  refine Met.ofW (cc := cL_closes) (maxL := 2) (ret := (some .int)) (by decide) rfl ?_
  intro p e s m args below meth c s₁ B hml hv
  obtain ⟨rfl, hsz, hP, hK, hD0, hE0⟩ := hv
  have hx := B.exec
  have hb := B.bytes
  have hr := B.returns
  have hts := atoms_spec (ws := wsL_closes) B.pre
  have hown : s.vm.findClass RL = some m.cls := findClass_of_methodNamed B.named
  have hlocks := B.notSynchronized
  subst hsz
  have hD := hD0.self (sz := s.heap.size)
  generalize hAe : va_A [(o, .inr (4, [.ref F, .ref G, .int lo, .int nw, .int se, .ref (pa 0), .ref an, .ref ln])), cE x xv, (x 9, .inr (3, [.ref (x 10), .ref (x 11), .ref (x 12), .ref (x 13), .int (nI xf), .int (nI QX.1)])), (x 10, .inl (cA 0, 12, .inl (xr 0))), (x 11, .inl (cA 0, 12, .inl (xr 1))), (x 12, .inl (cA 0, 12, .inl (xr 2))), (x 13, .inl (cA 0, 48, .inl (xr 3))), cE y yv, (y 9, .inr (3, [.ref (y 10), .ref (y 11), .ref (y 12), .ref (y 13), .int (nI yf), .int (nI QY.1)])), (y 10, .inl (cA 0, 12, .inl (yr 0))), (y 11, .inl (cA 0, 12, .inl (yr 1))), (y 12, .inl (cA 0, 12, .inl (yr 2))), (y 13, .inl (cA 0, 48, .inl (yr 3)))] s.heap.size = A at hD hE0 ⊢
  have hA : ∀ q : Nat, s.heap.size ≤ q → A q := fun q h => by rw [← hAe]; exact Or.inr h
  have hS : va_S A s.heap s.heap [] := va_S.rf
  have hl := lv_entry ([.ref o, .int n]) (n := 2) (Nat.le_of_ble_eq_true rfl)
  rw [lg_entry_eq]
  generalize (lg_sl ([.ref o, .int n]) ++ List.replicate (2 - (lg_sl ([.ref o, .int n])).length) Slot.unset).toArray = ls at hl ⊢
  have hl : lv_has ls 2 [(0, .ref o), (1, .int n)] := hl
  refine lv_aload_n hx hb dL_closes_0 rfl (lv_at hl 0 rfl) ?_
  refine lv_iload_n hx hb dL_closes_1 rfl (lv_at hl 1 rfl) ?_
  have hPc := hP.sub (ws' := [(o, .inr (4, [.ref F, .ref G, .int lo, .int nw, .int se, .ref (pa 0), .ref an, .ref ln])), cE x xv, (x 9, .inr (3, [.ref (x 10), .ref (x 11), .ref (x 12), .ref (x 13), .int (nI xf), .int (nI QX.1)])), (x 10, .inl (cA 0, 12, .inl (xr 0))), (x 11, .inl (cA 0, 12, .inl (xr 1))), (x 12, .inl (cA 0, 12, .inl (xr 2))), (x 13, .inl (cA 0, 48, .inl (xr 3))), cE y yv, (y 9, .inr (3, [.ref (y 10), .ref (y 11), .ref (y 12), .ref (y 13), .int (nI yf), .int (nI QY.1)])), (y 10, .inl (cA 0, 12, .inl (yr 0))), (y 11, .inl (cA 0, 12, .inl (yr 1))), (y 12, .inl (cA 0, 12, .inl (yr 2))), (y 13, .inl (cA 0, 48, .inl (yr 3)))]) [0, 1, 2, 3, 4, 5, 6, 7, 8, 9, 10, 11, 12] rfl
  have hDc := hD.sub (ws' := [(o, .inr (4, [.ref F, .ref G, .int lo, .int nw, .int se, .ref (pa 0), .ref an, .ref ln])), cE x xv, (x 9, .inr (3, [.ref (x 10), .ref (x 11), .ref (x 12), .ref (x 13), .int (nI xf), .int (nI QX.1)])), (x 10, .inl (cA 0, 12, .inl (xr 0))), (x 11, .inl (cA 0, 12, .inl (xr 1))), (x 12, .inl (cA 0, 12, .inl (xr 2))), (x 13, .inl (cA 0, 48, .inl (xr 3))), cE y yv, (y 9, .inr (3, [.ref (y 10), .ref (y 11), .ref (y 12), .ref (y 13), .int (nI yf), .int (nI QY.1)])), (y 10, .inl (cA 0, 12, .inl (yr 0))), (y 11, .inl (cA 0, 12, .inl (yr 1))), (y 12, .inl (cA 0, 12, .inl (yr 2))), (y 13, .inl (cA 0, 48, .inl (yr 3)))]) [0, 1, 2, 3, 4, 5, 6, 7, 8, 9, 10, 11, 12] (by decide) rfl
  have hFc := va_free (wc := [(o, .inr (4, [.ref F, .ref G, .int lo, .int nw, .int se, .ref (pa 0), .ref an, .ref ln])), cE x xv, (x 9, .inr (3, [.ref (x 10), .ref (x 11), .ref (x 12), .ref (x 13), .int (nI xf), .int (nI QX.1)])), (x 10, .inl (cA 0, 12, .inl (xr 0))), (x 11, .inl (cA 0, 12, .inl (xr 1))), (x 12, .inl (cA 0, 12, .inl (xr 2))), (x 13, .inl (cA 0, 48, .inl (xr 3))), cE y yv, (y 9, .inr (3, [.ref (y 10), .ref (y 11), .ref (y 12), .ref (y 13), .int (nI yf), .int (nI QY.1)])), (y 10, .inl (cA 0, 12, .inl (yr 0))), (y 11, .inl (cA 0, 12, .inl (yr 1))), (y 12, .inl (cA 0, 12, .inl (yr 2))), (y 13, .inl (cA 0, 48, .inl (yr 3)))]) hD hS hA [0, 1, 2, 3, 4, 5, 6, 7, 8, 9, 10, 11, 12] rfl
  refine va_callv (va_runV (As := [.int n]) (rest := []) ⟨hx, hb, hml, hown, hts⟩ (c_X3_close_k l D cA zv s.heap.size o F G lo nw se pa an ln x y n xv yv xr yr xf yf QX QY (by assumption) (by assumption) (by assumption) (by assumption)) (cwV 1 hts gL_closes_X3_close rfl rfl rfl (by decide +kernel) ⟨Nat.le_of_ble_eq_true rfl, Nat.le_of_ble_eq_true rfl⟩) ⟨zUE_blind, va_recv hK hPc (ci := 4) (q0 := 0) rfl rfl, fun U hU hW => ⟨rfl, zUE_call hE0 hS hFc hU hPc hW hK hDc⟩⟩ rfl rfl hl.1 rfl (lv_room (Nat.le_of_ble_eq_true rfl)) dL_closes_2 ⟨(Nat.zero_le _), (Nat.zero_le _)⟩) hS (fun q _ h => hFc q h) hFc (fun u t H1 locs ht hvm hw hB hz1 hk1 hS => ?_)
  obtain ⟨xv'_1, xr'_1, yr'_1, QX'_1, QY'_1, se'_1⟩ := u
  obtain ⟨hP1, hD1⟩ := hB
  rw [ht] at hP1
  try dsimp only at hw hP1 hD1
  obtain ⟨hP, hD⟩ := va_join (wr := []) (w1 := [(o, .inr (4, [.ref F, .ref G, .int lo, .int nw, .int se'_1, .ref (pa 0), .ref an, .ref ln])), cE x xv'_1, (x 9, .inr (3, [.ref (x 10), .ref (x 11), .ref (x 12), .ref (x 13), .int (nI xf), .int (nI QX'_1.1)])), (x 10, .inl (cA 0, 12, .inl (xr'_1 0))), (x 11, .inl (cA 0, 12, .inl (xr'_1 1))), (x 12, .inl (cA 0, 12, .inl (xr'_1 2))), (x 13, .inl (cA 0, 48, .inl (xr'_1 3))), cE y yv, (y 9, .inr (3, [.ref (y 10), .ref (y 11), .ref (y 12), .ref (y 13), .int (nI yf), .int (nI QY'_1.1)])), (y 10, .inl (cA 0, 12, .inl (yr'_1 0))), (y 11, .inl (cA 0, 12, .inl (yr'_1 1))), (y 12, .inl (cA 0, 12, .inl (yr'_1 2))), (y 13, .inl (cA 0, 48, .inl (yr'_1 3)))]) hP hD [0, 1, 2, 3, 4, 5, 6, 7, 8, 9, 10, 11, 12] [] rfl rfl (by decide) (by decide) hk1 hFc hP1 hD1
  generalize H1 = H at hP hS ⊢
  have hP := hP.sub (ws' := [(o, .inr (4, [.ref F, .ref G, .int lo, .int nw, .int se'_1, .ref (pa 0), .ref an, .ref ln])), cE x xv'_1, (x 9, .inr (3, [.ref (x 10), .ref (x 11), .ref (x 12), .ref (x 13), .int (nI xf), .int (nI QX'_1.1)])), (x 10, .inl (cA 0, 12, .inl (xr'_1 0))), (x 11, .inl (cA 0, 12, .inl (xr'_1 1))), (x 12, .inl (cA 0, 12, .inl (xr'_1 2))), (x 13, .inl (cA 0, 48, .inl (xr'_1 3))), cE y yv, (y 9, .inr (3, [.ref (y 10), .ref (y 11), .ref (y 12), .ref (y 13), .int (nI yf), .int (nI QY'_1.1)])), (y 10, .inl (cA 0, 12, .inl (yr'_1 0))), (y 11, .inl (cA 0, 12, .inl (yr'_1 1))), (y 12, .inl (cA 0, 12, .inl (yr'_1 2))), (y 13, .inl (cA 0, 48, .inl (yr'_1 3)))]) [0, 1, 2, 3, 4, 5, 6, 7, 8, 9, 10, 11, 12] rfl
  have hD := hD.sub (ws' := [(o, .inr (4, [.ref F, .ref G, .int lo, .int nw, .int se'_1, .ref (pa 0), .ref an, .ref ln])), cE x xv'_1, (x 9, .inr (3, [.ref (x 10), .ref (x 11), .ref (x 12), .ref (x 13), .int (nI xf), .int (nI QX'_1.1)])), (x 10, .inl (cA 0, 12, .inl (xr'_1 0))), (x 11, .inl (cA 0, 12, .inl (xr'_1 1))), (x 12, .inl (cA 0, 12, .inl (xr'_1 2))), (x 13, .inl (cA 0, 48, .inl (xr'_1 3))), cE y yv, (y 9, .inr (3, [.ref (y 10), .ref (y 11), .ref (y 12), .ref (y 13), .int (nI yf), .int (nI QY'_1.1)])), (y 10, .inl (cA 0, 12, .inl (yr'_1 0))), (y 11, .inl (cA 0, 12, .inl (yr'_1 1))), (y 12, .inl (cA 0, 12, .inl (yr'_1 2))), (y 13, .inl (cA 0, 48, .inl (yr'_1 3)))]) [0, 1, 2, 3, 4, 5, 6, 7, 8, 9, 10, 11, 12] (by decide) rfl
  clear hPc hDc hFc hP1 hD1 hk1 hz1
  obtain ⟨rfl, rfl, rfl, rfl, hw_1_0, hw_1_1⟩ := hw
  refine lv_iconst (v := 0) hx hb dL_closes_5 (by decide) ?_
  refine W.widen (k := 0) (n := 0) (by omega) (by omega) ?_
  exact W.iret (v := 0) hx hb hr (fun t ht hW => ⟨⟨0, ((upd (upd (upd xv 0 5) 6 1) 4 2), xr'_1, yr'_1, (sq lo (pk 4 0 0 nB) QX QY).1, (sq lo (pk 4 0 0 nB) QX QY).2, (se + 1)), rfl, ⟨rfl, rfl, rfl, rfl, by assumption, by assumption, rfl⟩, ⟨by rw [ht]; exact hP, by rw [hAe]; exact hD⟩⟩, hS.F ht⟩) hS.2.2 dL_closes_6
set_option maxHeartbeats 4000000 in
set_option maxRecDepth 100000 in
theorem c_L_closes_s (l : Launch) (D : va_G) (cA : Nat → ClassId) (zv : Nat → Nat) (sz : Nat) (hl0 : l.stackTraces = false) (o F G : Nat) (lo nw se : Int32) (pa : Nat → Nat) (an ln : Nat) (x : Nat → Nat) (y0 : Nat) (n : Int32) (xv : Nat → Int32)  (he : en n F G (x 0) y0) (hup : ¬ sUp (xv 0)) : vx_Met l yL_closes wsL_closes ({ frames := 9, cells := 1, slots := 6, locals := 122 }) (va_Pc [.ref o, .int n] (zUX D cA zv sz [(o, .inr (4, [.ref F, .ref G, .int lo, .int nw, .int se, .ref (pa 0), .ref an, .ref ln])), cE x xv])) (va_Qi (fun (_ : Int32) (_ : Unit) => False) (fun (_ : Unit) _ => True) (va_A [(o, .inr (4, [.ref F, .ref G, .int lo, .int nw, .int se, .ref (pa 0), .ref an, .ref ln])), cE x xv] sz)) (vx_X (fun (_ : Unit) => True) (fun E (_ : Unit) t => E = "java/lang/IllegalStateException" ∧ zB D [(o, .inr (4, [.ref F, .ref G, .int lo, .int nw, .int se, .ref (pa 0), .ref an, .ref ln])), cE x xv] sz [(o, .inr (4, [.ref F, .ref G, .int lo, .int nw, .int se, .ref (pa 0), .ref an, .ref ln])), cE x xv] t) (va_A [(o, .inr (4, [.ref F, .ref G, .int lo, .int nw, .int se, .ref (pa 0), .ref an, .ref ln])), cE x xv] sz)) 1 6 (va_A [(o, .inr (4, [.ref F, .ref G, .int lo, .int nw, .int se, .ref (pa 0), .ref an, .ref ln])), cE x xv] sz) := by
  refine vx_ofW (cc := cL_closes) (maxL := 2) (ret := (some .int)) (by decide) rfl ?_
  intro p e s m args below meth c s₁ B hml htab hv
  obtain ⟨rfl, ⟨hsz, hP, hK, hD0, hE0⟩, hX0⟩ := hv
  have hx := B.exec
  have hb := B.bytes
  have hr := B.returns
  have hts := atoms_spec (ws := wsL_closes) B.pre
  have hown : s.vm.findClass RL = some m.cls := findClass_of_methodNamed B.named
  have hlocks := B.notSynchronized
  subst hsz
  have hD := hD0.self (sz := s.heap.size)
  generalize hAe : va_A [(o, .inr (4, [.ref F, .ref G, .int lo, .int nw, .int se, .ref (pa 0), .ref an, .ref ln])), cE x xv] s.heap.size = A at hD hE0 hX0 ⊢
  have hA : ∀ q : Nat, s.heap.size ≤ q → A q := fun q h => by rw [← hAe]; exact Or.inr h
  have hS : va_S A s.heap s.heap [] := va_S.rf
  have hl := lv_entry ([.ref o, .int n]) (n := 2) (Nat.le_of_ble_eq_true rfl)
  rw [lg_entry_eq]
  generalize (lg_sl ([.ref o, .int n]) ++ List.replicate (2 - (lg_sl ([.ref o, .int n])).length) Slot.unset).toArray = ls at hl ⊢
  have hl : lv_has ls 2 [(0, .ref o), (1, .int n)] := hl
  refine lv_aload_n hx hb dL_closes_0 rfl (lv_at hl 0 rfl) ?_
  refine lv_iload_n hx hb dL_closes_1 rfl (lv_at hl 1 rfl) ?_
  have hPc := hP.sub (ws' := [(o, .inr (4, [.ref F, .ref G, .int lo, .int nw, .int se, .ref (pa 0), .ref an, .ref ln])), cE x xv]) [0, 1] rfl
  have hDc := hD.sub (ws' := [(o, .inr (4, [.ref F, .ref G, .int lo, .int nw, .int se, .ref (pa 0), .ref an, .ref ln])), cE x xv]) [0, 1] (by decide) rfl
  have hFc := va_free (wc := [(o, .inr (4, [.ref F, .ref G, .int lo, .int nw, .int se, .ref (pa 0), .ref an, .ref ln])), cE x xv]) hD hS hA [0, 1] rfl
  refine vx_callv (vx_runV (As := [.int n]) (rest := []) ⟨hx, hb, hml, hown, hts⟩ (c_X3_close_s l D cA zv s.heap.size hl0 o F G lo nw se pa an ln x y0 n xv (by assumption) (by assumption)) (cwV 1 hts gL_closes_X3_close rfl rfl rfl (by decide +kernel) ⟨Nat.le_of_ble_eq_true rfl, Nat.le_of_ble_eq_true rfl⟩) ⟨zUX_blind, va_recv hK hPc (ci := 4) (q0 := 0) rfl rfl, fun U hU hW => ⟨rfl, zUX_call hE0 hX0 hS hFc hU hPc hW hK hDc⟩⟩ rfl rfl hl.1 rfl (lv_room (Nat.le_of_ble_eq_true rfl)) dL_closes_2 ⟨Nat.le_of_ble_eq_true rfl, Nat.le_of_ble_eq_true rfl⟩) hS (fun q _ h => hFc q h) hFc (fun q _ h => hFc q h) (fun E9 ce9 q9 u t H1 locs ht hvm hpx hB hz1 hk1 hS hcell hcv hcl => ?_) (fun u t H1 locs1 ht hvm hw _ _ _ _ => hw.elim)
  obtain ⟨rfl, hP1, hD1⟩ := hB
  rw [ht] at hP1
  obtain ⟨hP, hD⟩ := va_join (wr := []) (w1 := [(o, .inr (4, [.ref F, .ref G, .int lo, .int nw, .int se, .ref (pa 0), .ref an, .ref ln])), cE x xv]) hP hD [0, 1] [] rfl rfl (by decide) (by decide) hk1 hFc hP1 hD1
  have hP := hP.sub (ws' := [(o, .inr (4, [.ref F, .ref G, .int lo, .int nw, .int se, .ref (pa 0), .ref an, .ref ln])), cE x xv]) [0, 1] rfl
  have hD := hD.sub (ws' := [(o, .inr (4, [.ref F, .ref G, .int lo, .int nw, .int se, .ref (pa 0), .ref an, .ref ln])), cE x xv]) [0, 1] (by decide) rfl
  exact vx_out (fun x h => (htab x h).elim) hlocks hcell hcv hcl (fun t2 h7 h8 => z_thrO hP hD hS hAe h7) hS.2.2 (by omega) (by omega)
set_option maxHeartbeats 4000000 in
set_option maxRecDepth 100000 in
theorem c_L_allows_k (l : Launch) (D : va_G) (cA : Nat → ClassId) (sz : Nat) (o F G : Nat) (lo nw se : Int32) (pa : Nat → Nat) (an ln : Nat) (x : Nat → Nat) (y0 : Nat) (n : Int32) (xv : Nat → Int32) (k : Nat) (le mo : Int32) (w3 w4 : Nat → Int32) (he : en n F G (x 0) y0) (hk : k < 4) (hsp : sSp le mo) (hsh : sSh (xv 0)) : Met l yL_allows wsL_allows ({ frames := 3, cells := 0, slots := 0, locals := 65 }) (va_Pc [.ref o, .int n, .int (nI k), .int le, .int mo] (zU D cA sz [(o, .inr (4, [.ref F, .ref G, .int lo, .int nw, .int se, .ref (pa 0), .ref an, .ref ln])), cE x xv, (x 4, .inl (cA 0, 4, .inl w3)), (x 5, .inl (cA 0, 4, .inl w4))])) (va_Qi (fun (r : Int32) (_ : Unit) => r = 0) (fun (_ : Unit) t => zB D [(o, .inr (4, [.ref F, .ref G, .int lo, .int nw, .int se, .ref (pa 0), .ref an, .ref ln])), cE x xv, (x 4, .inl (cA 0, 4, .inl w3)), (x 5, .inl (cA 0, 4, .inl w4))] sz [(o, .inr (4, [.ref F, .ref G, .int lo, .int nw, .int se, .ref (pa 0), .ref an, .ref ln])), cE x xv, (x 4, .inl (cA 0, 4, .inl (upd w3 k le))), (x 5, .inl (cA 0, 4, .inl (upd w4 k mo)))] t) (va_A [(o, .inr (4, [.ref F, .ref G, .int lo, .int nw, .int se, .ref (pa 0), .ref an, .ref ln])), cE x xv, (x 4, .inl (cA 0, 4, .inl w3)), (x 5, .inl (cA 0, 4, .inl w4))] sz)) 0 0 (va_A [(o, .inr (4, [.ref F, .ref G, .int lo, .int nw, .int se, .ref (pa 0), .ref an, .ref ln])), cE x xv, (x 4, .inl (cA 0, 4, .inl w3)), (x 5, .inl (cA 0, 4, .inl w4))] sz) := by
  refine Met.ofW (cc := cL_allows) (maxL := 5) (ret := (some .int)) (by decide) rfl ?_
  intro p e s m args below meth c s₁ B hml hv
  obtain ⟨rfl, hsz, hP, hK, hD0⟩ := hv
  have hx := B.exec
  have hb := B.bytes
  have hr := B.returns
  have hts := atoms_spec (ws := wsL_allows) B.pre
  have hown : s.vm.findClass RL = some m.cls := findClass_of_methodNamed B.named
  have hlocks := B.notSynchronized
  subst hsz
  have hD := hD0.self (sz := s.heap.size)
  generalize hAe : va_A [(o, .inr (4, [.ref F, .ref G, .int lo, .int nw, .int se, .ref (pa 0), .ref an, .ref ln])), cE x xv, (x 4, .inl (cA 0, 4, .inl w3)), (x 5, .inl (cA 0, 4, .inl w4))] s.heap.size = A at hD ⊢
  have hA : ∀ q : Nat, s.heap.size ≤ q → A q := fun q h => by rw [← hAe]; exact Or.inr h
  have hS : va_S A s.heap s.heap [] := va_S.rf
  have hl := lv_entry ([.ref o, .int n, .int (nI k), .int le, .int mo]) (n := 5) (Nat.le_of_ble_eq_true rfl)
  rw [lg_entry_eq]
  generalize (lg_sl ([.ref o, .int n, .int (nI k), .int le, .int mo]) ++ List.replicate (5 - (lg_sl ([.ref o, .int n, .int (nI k), .int le, .int mo])).length) Slot.unset).toArray = ls at hl ⊢
  have hl : lv_has ls 5 [(0, .ref o), (1, .int n), (2, .int (nI k)), (3, .int le), (4, .int mo)] := hl
  refine lv_aload_n hx hb dL_allows_0 rfl (lv_at hl 0 rfl) ?_
  refine lv_iload_n hx hb dL_allows_1 rfl (lv_at hl 1 rfl) ?_
  refine lv_iload_n hx hb dL_allows_2 rfl (lv_at hl 2 rfl) ?_
  refine lv_iload_n hx hb dL_allows_3 rfl (lv_at hl 3 rfl) ?_
  refine lv_iload hx hb dL_allows_4 (lv_at hl 4 rfl) ?_
  have hPc := hP.sub (ws' := [(o, .inr (4, [.ref F, .ref G, .int lo, .int nw, .int se, .ref (pa 0), .ref an, .ref ln])), cE x xv, (x 4, .inl (cA 0, 4, .inl w3)), (x 5, .inl (cA 0, 4, .inl w4))]) [0, 1, 2, 3] rfl
  have hDc := hD.sub (ws' := [(o, .inr (4, [.ref F, .ref G, .int lo, .int nw, .int se, .ref (pa 0), .ref an, .ref ln])), cE x xv, (x 4, .inl (cA 0, 4, .inl w3)), (x 5, .inl (cA 0, 4, .inl w4))]) [0, 1, 2, 3] (by decide) rfl
  have hFc := va_free (wc := [(o, .inr (4, [.ref F, .ref G, .int lo, .int nw, .int se, .ref (pa 0), .ref an, .ref ln])), cE x xv, (x 4, .inl (cA 0, 4, .inl w3)), (x 5, .inl (cA 0, 4, .inl w4))]) hD hS hA [0, 1, 2, 3] rfl
  refine va_callv (va_runV (As := [.int n, .int (nI k), .int le, .int mo]) (rest := []) ⟨hx, hb, hml, hown, hts⟩ (c_X3_allow_k l D cA s.heap.size o F G lo nw se pa an ln x y0 n xv k le mo w3 w4 (by assumption) (by assumption) (by assumption) (by assumption)) (cwV 4 hts gL_allows_X3_allow rfl rfl rfl (by decide +kernel) ⟨Nat.le_of_ble_eq_true rfl, Nat.le_of_ble_eq_true rfl⟩) ⟨zU_blind, va_recv hK hPc (ci := 4) (q0 := 0) rfl rfl, fun U hU hW => ⟨rfl, zU_call hU hPc hW.alike hK hDc⟩⟩ rfl rfl hl.1 rfl (lv_room (Nat.le_of_ble_eq_true rfl)) dL_allows_6 ⟨(Nat.zero_le _), (Nat.zero_le _)⟩) hS (fun q _ h => hFc q h) hFc (fun u t H1 locs ht hvm hw hB hz1 hk1 hS => ?_)
  obtain ⟨hP1, hD1⟩ := hB
  rw [ht] at hP1
  obtain ⟨hP, hD⟩ := va_join (wr := []) (w1 := [(o, .inr (4, [.ref F, .ref G, .int lo, .int nw, .int se, .ref (pa 0), .ref an, .ref ln])), cE x xv, (x 4, .inl (cA 0, 4, .inl (upd w3 k le))), (x 5, .inl (cA 0, 4, .inl (upd w4 k mo)))]) hP hD [0, 1, 2, 3] [] rfl rfl (by decide) (by decide) hk1 hFc hP1 hD1
  generalize H1 = H at hP hS ⊢
  have hP := hP.sub (ws' := [(o, .inr (4, [.ref F, .ref G, .int lo, .int nw, .int se, .ref (pa 0), .ref an, .ref ln])), cE x xv, (x 4, .inl (cA 0, 4, .inl (upd w3 k le))), (x 5, .inl (cA 0, 4, .inl (upd w4 k mo)))]) [0, 1, 2, 3] rfl
  have hD := hD.sub (ws' := [(o, .inr (4, [.ref F, .ref G, .int lo, .int nw, .int se, .ref (pa 0), .ref an, .ref ln])), cE x xv, (x 4, .inl (cA 0, 4, .inl (upd w3 k le))), (x 5, .inl (cA 0, 4, .inl (upd w4 k mo)))]) [0, 1, 2, 3] (by decide) rfl
  clear hPc hDc hFc hP1 hD1 hk1 hz1
  have hw_1 := hw
  refine lv_iconst (v := 0) hx hb dL_allows_9 (by decide) ?_
  refine W.widen (k := 0) (n := 0) (by omega) (by omega) ?_
  exact W.iret (v := 0) hx hb hr (fun t ht hW => ⟨⟨0, (), rfl, rfl, ⟨by rw [ht]; exact hP, by rw [hAe]; exact hD⟩⟩, hS.F ht⟩) hS.2.2 dL_allows_10
set_option maxHeartbeats 4000000 in
set_option maxRecDepth 100000 in
theorem c_L_allows_s (l : Launch) (D : va_G) (cA : Nat → ClassId) (zv : Nat → Nat) (sz : Nat) (hl0 : l.stackTraces = false) (o F G : Nat) (lo nw se : Int32) (pa : Nat → Nat) (an ln : Nat) (x : Nat → Nat) (y0 : Nat) (n : Int32) (xv : Nat → Int32) (k : Nat) (le mo : Int32) (he : en n F G (x 0) y0) (hk : k < 4) (hsp : sSp le mo) (hsh : ¬ sSh (xv 0)) : vx_Met l yL_allows wsL_allows ({ frames := 10, cells := 1, slots := 6, locals := 145 }) (va_Pc [.ref o, .int n, .int (nI k), .int le, .int mo] (zUX D cA zv sz [(o, .inr (4, [.ref F, .ref G, .int lo, .int nw, .int se, .ref (pa 0), .ref an, .ref ln])), cE x xv])) (va_Qi (fun (_ : Int32) (_ : Unit) => False) (fun (_ : Unit) _ => True) (va_A [(o, .inr (4, [.ref F, .ref G, .int lo, .int nw, .int se, .ref (pa 0), .ref an, .ref ln])), cE x xv] sz)) (vx_X (fun (_ : Unit) => True) (fun E (_ : Unit) t => E = "java/lang/IllegalStateException" ∧ zB D [(o, .inr (4, [.ref F, .ref G, .int lo, .int nw, .int se, .ref (pa 0), .ref an, .ref ln])), cE x xv] sz [(o, .inr (4, [.ref F, .ref G, .int lo, .int nw, .int se, .ref (pa 0), .ref an, .ref ln])), cE x xv] t) (va_A [(o, .inr (4, [.ref F, .ref G, .int lo, .int nw, .int se, .ref (pa 0), .ref an, .ref ln])), cE x xv] sz)) 1 6 (va_A [(o, .inr (4, [.ref F, .ref G, .int lo, .int nw, .int se, .ref (pa 0), .ref an, .ref ln])), cE x xv] sz) := by
  refine vx_ofW (cc := cL_allows) (maxL := 5) (ret := (some .int)) (by decide) rfl ?_
  intro p e s m args below meth c s₁ B hml htab hv
  obtain ⟨rfl, ⟨hsz, hP, hK, hD0, hE0⟩, hX0⟩ := hv
  have hx := B.exec
  have hb := B.bytes
  have hr := B.returns
  have hts := atoms_spec (ws := wsL_allows) B.pre
  have hown : s.vm.findClass RL = some m.cls := findClass_of_methodNamed B.named
  have hlocks := B.notSynchronized
  subst hsz
  have hD := hD0.self (sz := s.heap.size)
  generalize hAe : va_A [(o, .inr (4, [.ref F, .ref G, .int lo, .int nw, .int se, .ref (pa 0), .ref an, .ref ln])), cE x xv] s.heap.size = A at hD hE0 hX0 ⊢
  have hA : ∀ q : Nat, s.heap.size ≤ q → A q := fun q h => by rw [← hAe]; exact Or.inr h
  have hS : va_S A s.heap s.heap [] := va_S.rf
  have hl := lv_entry ([.ref o, .int n, .int (nI k), .int le, .int mo]) (n := 5) (Nat.le_of_ble_eq_true rfl)
  rw [lg_entry_eq]
  generalize (lg_sl ([.ref o, .int n, .int (nI k), .int le, .int mo]) ++ List.replicate (5 - (lg_sl ([.ref o, .int n, .int (nI k), .int le, .int mo])).length) Slot.unset).toArray = ls at hl ⊢
  have hl : lv_has ls 5 [(0, .ref o), (1, .int n), (2, .int (nI k)), (3, .int le), (4, .int mo)] := hl
  refine lv_aload_n hx hb dL_allows_0 rfl (lv_at hl 0 rfl) ?_
  refine lv_iload_n hx hb dL_allows_1 rfl (lv_at hl 1 rfl) ?_
  refine lv_iload_n hx hb dL_allows_2 rfl (lv_at hl 2 rfl) ?_
  refine lv_iload_n hx hb dL_allows_3 rfl (lv_at hl 3 rfl) ?_
  refine lv_iload hx hb dL_allows_4 (lv_at hl 4 rfl) ?_
  have hPc := hP.sub (ws' := [(o, .inr (4, [.ref F, .ref G, .int lo, .int nw, .int se, .ref (pa 0), .ref an, .ref ln])), cE x xv]) [0, 1] rfl
  have hDc := hD.sub (ws' := [(o, .inr (4, [.ref F, .ref G, .int lo, .int nw, .int se, .ref (pa 0), .ref an, .ref ln])), cE x xv]) [0, 1] (by decide) rfl
  have hFc := va_free (wc := [(o, .inr (4, [.ref F, .ref G, .int lo, .int nw, .int se, .ref (pa 0), .ref an, .ref ln])), cE x xv]) hD hS hA [0, 1] rfl
  refine vx_callv (vx_runV (As := [.int n, .int (nI k), .int le, .int mo]) (rest := []) ⟨hx, hb, hml, hown, hts⟩ (c_X3_allow_s l D cA zv s.heap.size hl0 o F G lo nw se pa an ln x y0 n xv k le mo (by assumption) (by assumption) (by assumption) (by assumption)) (cwV 4 hts gL_allows_X3_allow rfl rfl rfl (by decide +kernel) ⟨Nat.le_of_ble_eq_true rfl, Nat.le_of_ble_eq_true rfl⟩) ⟨zUX_blind, va_recv hK hPc (ci := 4) (q0 := 0) rfl rfl, fun U hU hW => ⟨rfl, zUX_call hE0 hX0 hS hFc hU hPc hW hK hDc⟩⟩ rfl rfl hl.1 rfl (lv_room (Nat.le_of_ble_eq_true rfl)) dL_allows_6 ⟨Nat.le_of_ble_eq_true rfl, Nat.le_of_ble_eq_true rfl⟩) hS (fun q _ h => hFc q h) hFc (fun q _ h => hFc q h) (fun E9 ce9 q9 u t H1 locs ht hvm hpx hB hz1 hk1 hS hcell hcv hcl => ?_) (fun u t H1 locs1 ht hvm hw _ _ _ _ => hw.elim)
  obtain ⟨rfl, hP1, hD1⟩ := hB
  rw [ht] at hP1
  obtain ⟨hP, hD⟩ := va_join (wr := []) (w1 := [(o, .inr (4, [.ref F, .ref G, .int lo, .int nw, .int se, .ref (pa 0), .ref an, .ref ln])), cE x xv]) hP hD [0, 1] [] rfl rfl (by decide) (by decide) hk1 hFc hP1 hD1
  have hP := hP.sub (ws' := [(o, .inr (4, [.ref F, .ref G, .int lo, .int nw, .int se, .ref (pa 0), .ref an, .ref ln])), cE x xv]) [0, 1] rfl
  have hD := hD.sub (ws' := [(o, .inr (4, [.ref F, .ref G, .int lo, .int nw, .int se, .ref (pa 0), .ref an, .ref ln])), cE x xv]) [0, 1] (by decide) rfl
  exact vx_out (fun x h => (htab x h).elim) hlocks hcell hcv hcl (fun t2 h7 h8 => z_thrO hP hD hS hAe h7) hS.2.2 (by omega) (by omega)
