set_option maxHeartbeats 4000000 in
set_option maxRecDepth 100000 in
/-- begins(o, end, letters): the line begins with the letters of the name of state k -/
theorem c_L_begins (l : Launch) (D : va_G) (cA : Nat → ClassId) (zv : Nat → Nat) (sz : Nat) (o F G : Nat) (lo nw se : Int32) (pa : Nat → Nat) (an ln : Nat) (x : Nat → Nat) (y0 : Nat) (n : Int32) (xv : Nat → Int32) (k vb nb ct : Nat) (ml : Int32) (f g : Nat → Int32) (b0 b1 b2 b3 b4 b5 b6 : Int32) (he : en n F G (x 0) y0) (hk : k < 8) (hk0 : xv 0 = nI k) (hok : ∀ j, j < 4 → okv (f j)) (hn : nb = 16 ∨ nb = 34) (hct : ct ≤ nb) (hfb : bfit nb g) (hbl : ∀ i, i < zLen.getD k 0 → bgL b0 b1 b2 b3 b4 b5 b6 i = (zByt.getD k []).getD i 0) (hbz : zLen.getD k 0 < 7 → bgL b0 b1 b2 b3 b4 b5 b6 (zLen.getD k 0) = 0) : Met l yL_begins wsL_begins ({ frames := 8, cells := 14, slots := 449, locals := 192 }) (va_Pc [.ref o, .int n, .int b0, .int b1, .int b2, .int b3, .int b4, .int b5, .int b6] (zUX D cA zv sz [(o, .inr (4, [.ref F, .ref G, .int lo, .int nw, .int se, .ref (pa 0), .ref an, .ref ln])), cE x xv, (x 7, .inl (cA 0, 4, .inl f)), (ln, .inr (0, [.ref vb, .int 0, .int ml, .int (nI ct)])), (vb, .inl (cA 2, nb, .inl g))])) (va_Qi (fun (r : Int32) (u : (Nat × Int32 × Nat × (Nat → Int32))) => okL k f u.2.2.1 u.2.2.2 ∧ r = nI (zLen.getD k 0)) (fun (u : (Nat × Int32 × Nat × (Nat → Int32))) t => zB D [(o, .inr (4, [.ref F, .ref G, .int lo, .int nw, .int se, .ref (pa 0), .ref an, .ref ln])), cE x xv, (x 7, .inl (cA 0, 4, .inl f)), (ln, .inr (0, [.ref vb, .int 0, .int ml, .int (nI ct)])), (vb, .inl (cA 2, nb, .inl g))] sz [(o, .inr (4, [.ref F, .ref G, .int lo, .int nw, .int se, .ref (pa 0), .ref an, .ref ln])), cE x xv, (x 7, .inl (cA 0, 4, .inl f)), (ln, .inr (0, [.ref u.1, .int 0, .int u.2.1, .int (nI ((lnT k f 4).length))])), (u.1, .inl (cA 2, u.2.2.1, .inl u.2.2.2))] t) (va_A [(o, .inr (4, [.ref F, .ref G, .int lo, .int nw, .int se, .ref (pa 0), .ref an, .ref ln])), cE x xv, (x 7, .inl (cA 0, 4, .inl f)), (ln, .inr (0, [.ref vb, .int 0, .int ml, .int (nI ct)])), (vb, .inl (cA 2, nb, .inl g))] sz)) 14 449 (va_A [(o, .inr (4, [.ref F, .ref G, .int lo, .int nw, .int se, .ref (pa 0), .ref an, .ref ln])), cE x xv, (x 7, .inl (cA 0, 4, .inl f)), (ln, .inr (0, [.ref vb, .int 0, .int ml, .int (nI ct)])), (vb, .inl (cA 2, nb, .inl g))] sz) := by
  refine Met.ofW (cc := cL_begins) (maxL := 11) (ret := (some .int)) (by decide) rfl ?_
  intro p e s m args below meth c s₁ B hml hv
  obtain ⟨rfl, ⟨hsz, hP, hK, hD0, hE0⟩, hX0⟩ := hv
  have hx := B.exec
  have hb := B.bytes
  have hr := B.returns
  have hts := atoms_spec (ws := wsL_begins) B.pre
  have hown : s.vm.findClass RL = some m.cls := findClass_of_methodNamed B.named
  have hlocks := B.notSynchronized
  subst hsz
  have hD := hD0.self (sz := s.heap.size)
  generalize hAe : va_A [(o, .inr (4, [.ref F, .ref G, .int lo, .int nw, .int se, .ref (pa 0), .ref an, .ref ln])), cE x xv, (x 7, .inl (cA 0, 4, .inl f)), (ln, .inr (0, [.ref vb, .int 0, .int ml, .int (nI ct)])), (vb, .inl (cA 2, nb, .inl g))] s.heap.size = A at hD hE0 hX0 ⊢
  have hA : ∀ q : Nat, s.heap.size ≤ q → A q := fun q h => by rw [← hAe]; exact Or.inr h
  have hS : va_S A s.heap s.heap [] := va_S.rf
  have hl := lv_entry ([.ref o, .int n, .int b0, .int b1, .int b2, .int b3, .int b4, .int b5, .int b6]) (n := 11) (Nat.le_of_ble_eq_true rfl)
  rw [lg_entry_eq]
  generalize (lg_sl ([.ref o, .int n, .int b0, .int b1, .int b2, .int b3, .int b4, .int b5, .int b6]) ++ List.replicate (11 - (lg_sl ([.ref o, .int n, .int b0, .int b1, .int b2, .int b3, .int b4, .int b5, .int b6])).length) Slot.unset).toArray = ls at hl ⊢
  have hl : lv_has ls 11 [(0, .ref o), (1, .int n), (2, .int b0), (3, .int b1), (4, .int b2), (5, .int b3), (6, .int b4), (7, .int b5), (8, .int b6)] := hl
  have hz7 := zlen7 hk
  have hz0 := zlen_pos hk
  have hl4 := lnT_l4 (f := f) hk
  refine lv_bipush (v := 7) hx hb dL_begins_0 (by decide) ?_
  refine z_newa (atype := .int) (ty := .int) (cA := cA 0) (a0 := (7, .inl zz0)) (N' := 7) hx hb (hts (.arrayClass .int) (List.mem_of_getElem? (i := 1) rfl)) rfl hK 0 rfl hP hD hS hA (fun _ => rfl) (fun _ h => h) (by decide) (by decide) (Nat.le_of_ble_eq_true rfl) (Nat.le_of_ble_eq_true rfl) (Nat.le_of_ble_eq_true rfl) dL_begins_2 (fun q1 H hP hD hS => ?_)
  have hP : va_P D vwCl [(o, .inr (4, [.ref F, .ref G, .int lo, .int nw, .int se, .ref (pa 0), .ref an, .ref ln])), cE x xv, (x 7, .inl (cA 0, 4, .inl f)), (ln, .inr (0, [.ref vb, .int 0, .int ml, .int (nI ct)])), (vb, .inl (cA 2, nb, .inl g)), (q1, .inl (cA 0, 7, .inl zz0))] H := hP
  have hD : va_D A [(o, .inr (4, [.ref F, .ref G, .int lo, .int nw, .int se, .ref (pa 0), .ref an, .ref ln])), cE x xv, (x 7, .inl (cA 0, 4, .inl f)), (ln, .inr (0, [.ref vb, .int 0, .int ml, .int (nI ct)])), (vb, .inl (cA 2, nb, .inl g)), (q1, .inl (cA 0, 7, .inl zz0))] := hD
  refine W.widen (k := 1) (n := 7) (by omega) (by omega) ?_
  refine lv_astore (lv' := [(9, .ref q1), (0, .ref o), (1, .int n), (2, .int b0), (3, .int b1), (4, .int b2), (5, .int b3), (6, .int b4), (7, .int b5), (8, .int b6)]) hx hb dL_begins_4 hl (by decide) rfl (fun ls hl => ?_)
  refine lv_aload hx hb dL_begins_6 (lv_at hl 0 rfl) ?_
  refine lv_iconst (v := 0) hx hb dL_begins_8 (by decide) ?_
  refine lv_iload_n hx hb dL_begins_9 rfl (lv_at hl 3 rfl) ?_
  refine z_iast (k := 0) hx hb hK hP hD hS 5 0 rfl rfl rfl (by omega) (by decide) dL_begins_10 (fun H locs hP hD hS => ?_)
  have hP : va_P D vwCl [(o, .inr (4, [.ref F, .ref G, .int lo, .int nw, .int se, .ref (pa 0), .ref an, .ref ln])), cE x xv, (x 7, .inl (cA 0, 4, .inl f)), (ln, .inr (0, [.ref vb, .int 0, .int ml, .int (nI ct)])), (vb, .inl (cA 2, nb, .inl g)), (q1, .inl (cA 0, 7, .inl (upd zz0 0 b0)))] H := hP
  have hD : va_D A [(o, .inr (4, [.ref F, .ref G, .int lo, .int nw, .int se, .ref (pa 0), .ref an, .ref ln])), cE x xv, (x 7, .inl (cA 0, 4, .inl f)), (ln, .inr (0, [.ref vb, .int 0, .int ml, .int (nI ct)])), (vb, .inl (cA 2, nb, .inl g)), (q1, .inl (cA 0, 7, .inl (upd zz0 0 b0)))] := hD
  refine lv_aload hx hb dL_begins_11 (lv_at hl 0 rfl) ?_
  refine lv_iconst (v := 1) hx hb dL_begins_13 (by decide) ?_
  refine lv_iload_n hx hb dL_begins_14 rfl (lv_at hl 4 rfl) ?_
  refine z_iast (k := 1) hx hb hK hP hD hS 5 0 rfl rfl rfl (by omega) (by decide) dL_begins_15 (fun H locs hP hD hS => ?_)
  have hP : va_P D vwCl [(o, .inr (4, [.ref F, .ref G, .int lo, .int nw, .int se, .ref (pa 0), .ref an, .ref ln])), cE x xv, (x 7, .inl (cA 0, 4, .inl f)), (ln, .inr (0, [.ref vb, .int 0, .int ml, .int (nI ct)])), (vb, .inl (cA 2, nb, .inl g)), (q1, .inl (cA 0, 7, .inl (upd (upd zz0 0 b0) 1 b1)))] H := hP
  have hD : va_D A [(o, .inr (4, [.ref F, .ref G, .int lo, .int nw, .int se, .ref (pa 0), .ref an, .ref ln])), cE x xv, (x 7, .inl (cA 0, 4, .inl f)), (ln, .inr (0, [.ref vb, .int 0, .int ml, .int (nI ct)])), (vb, .inl (cA 2, nb, .inl g)), (q1, .inl (cA 0, 7, .inl (upd (upd zz0 0 b0) 1 b1)))] := hD
  refine lv_aload hx hb dL_begins_16 (lv_at hl 0 rfl) ?_
  refine lv_iconst (v := 2) hx hb dL_begins_18 (by decide) ?_
  refine lv_iload hx hb dL_begins_19 (lv_at hl 5 rfl) ?_
  refine z_iast (k := 2) hx hb hK hP hD hS 5 0 rfl rfl rfl (by omega) (by decide) dL_begins_21 (fun H locs hP hD hS => ?_)
  have hP : va_P D vwCl [(o, .inr (4, [.ref F, .ref G, .int lo, .int nw, .int se, .ref (pa 0), .ref an, .ref ln])), cE x xv, (x 7, .inl (cA 0, 4, .inl f)), (ln, .inr (0, [.ref vb, .int 0, .int ml, .int (nI ct)])), (vb, .inl (cA 2, nb, .inl g)), (q1, .inl (cA 0, 7, .inl (upd (upd (upd zz0 0 b0) 1 b1) 2 b2)))] H := hP
  have hD : va_D A [(o, .inr (4, [.ref F, .ref G, .int lo, .int nw, .int se, .ref (pa 0), .ref an, .ref ln])), cE x xv, (x 7, .inl (cA 0, 4, .inl f)), (ln, .inr (0, [.ref vb, .int 0, .int ml, .int (nI ct)])), (vb, .inl (cA 2, nb, .inl g)), (q1, .inl (cA 0, 7, .inl (upd (upd (upd zz0 0 b0) 1 b1) 2 b2)))] := hD
  refine lv_aload hx hb dL_begins_22 (lv_at hl 0 rfl) ?_
  refine lv_iconst (v := 3) hx hb dL_begins_24 (by decide) ?_
  refine lv_iload hx hb dL_begins_25 (lv_at hl 6 rfl) ?_
  refine z_iast (k := 3) hx hb hK hP hD hS 5 0 rfl rfl rfl (by omega) (by decide) dL_begins_27 (fun H locs hP hD hS => ?_)
  have hP : va_P D vwCl [(o, .inr (4, [.ref F, .ref G, .int lo, .int nw, .int se, .ref (pa 0), .ref an, .ref ln])), cE x xv, (x 7, .inl (cA 0, 4, .inl f)), (ln, .inr (0, [.ref vb, .int 0, .int ml, .int (nI ct)])), (vb, .inl (cA 2, nb, .inl g)), (q1, .inl (cA 0, 7, .inl (upd (upd (upd (upd zz0 0 b0) 1 b1) 2 b2) 3 b3)))] H := hP
  have hD : va_D A [(o, .inr (4, [.ref F, .ref G, .int lo, .int nw, .int se, .ref (pa 0), .ref an, .ref ln])), cE x xv, (x 7, .inl (cA 0, 4, .inl f)), (ln, .inr (0, [.ref vb, .int 0, .int ml, .int (nI ct)])), (vb, .inl (cA 2, nb, .inl g)), (q1, .inl (cA 0, 7, .inl (upd (upd (upd (upd zz0 0 b0) 1 b1) 2 b2) 3 b3)))] := hD
  refine lv_aload hx hb dL_begins_28 (lv_at hl 0 rfl) ?_
  refine lv_iconst (v := 4) hx hb dL_begins_30 (by decide) ?_
  refine lv_iload hx hb dL_begins_31 (lv_at hl 7 rfl) ?_
  refine z_iast (k := 4) hx hb hK hP hD hS 5 0 rfl rfl rfl (by omega) (by decide) dL_begins_33 (fun H locs hP hD hS => ?_)
  have hP : va_P D vwCl [(o, .inr (4, [.ref F, .ref G, .int lo, .int nw, .int se, .ref (pa 0), .ref an, .ref ln])), cE x xv, (x 7, .inl (cA 0, 4, .inl f)), (ln, .inr (0, [.ref vb, .int 0, .int ml, .int (nI ct)])), (vb, .inl (cA 2, nb, .inl g)), (q1, .inl (cA 0, 7, .inl (upd (upd (upd (upd (upd zz0 0 b0) 1 b1) 2 b2) 3 b3) 4 b4)))] H := hP
  have hD : va_D A [(o, .inr (4, [.ref F, .ref G, .int lo, .int nw, .int se, .ref (pa 0), .ref an, .ref ln])), cE x xv, (x 7, .inl (cA 0, 4, .inl f)), (ln, .inr (0, [.ref vb, .int 0, .int ml, .int (nI ct)])), (vb, .inl (cA 2, nb, .inl g)), (q1, .inl (cA 0, 7, .inl (upd (upd (upd (upd (upd zz0 0 b0) 1 b1) 2 b2) 3 b3) 4 b4)))] := hD
  refine lv_aload hx hb dL_begins_34 (lv_at hl 0 rfl) ?_
  refine lv_iconst (v := 5) hx hb dL_begins_36 (by decide) ?_
  refine lv_iload hx hb dL_begins_37 (lv_at hl 8 rfl) ?_
  refine z_iast (k := 5) hx hb hK hP hD hS 5 0 rfl rfl rfl (by omega) (by decide) dL_begins_39 (fun H locs hP hD hS => ?_)
  have hP : va_P D vwCl [(o, .inr (4, [.ref F, .ref G, .int lo, .int nw, .int se, .ref (pa 0), .ref an, .ref ln])), cE x xv, (x 7, .inl (cA 0, 4, .inl f)), (ln, .inr (0, [.ref vb, .int 0, .int ml, .int (nI ct)])), (vb, .inl (cA 2, nb, .inl g)), (q1, .inl (cA 0, 7, .inl (upd (upd (upd (upd (upd (upd zz0 0 b0) 1 b1) 2 b2) 3 b3) 4 b4) 5 b5)))] H := hP
  have hD : va_D A [(o, .inr (4, [.ref F, .ref G, .int lo, .int nw, .int se, .ref (pa 0), .ref an, .ref ln])), cE x xv, (x 7, .inl (cA 0, 4, .inl f)), (ln, .inr (0, [.ref vb, .int 0, .int ml, .int (nI ct)])), (vb, .inl (cA 2, nb, .inl g)), (q1, .inl (cA 0, 7, .inl (upd (upd (upd (upd (upd (upd zz0 0 b0) 1 b1) 2 b2) 3 b3) 4 b4) 5 b5)))] := hD
  refine lv_aload hx hb dL_begins_40 (lv_at hl 0 rfl) ?_
  refine lv_bipush (v := 6) hx hb dL_begins_42 (by decide) ?_
  refine lv_iload hx hb dL_begins_44 (lv_at hl 9 rfl) ?_
  refine z_iast (k := 6) hx hb hK hP hD hS 5 0 rfl rfl rfl (by omega) (by decide) dL_begins_46 (fun H locs hP hD hS => ?_)
  have hP : va_P D vwCl [(o, .inr (4, [.ref F, .ref G, .int lo, .int nw, .int se, .ref (pa 0), .ref an, .ref ln])), cE x xv, (x 7, .inl (cA 0, 4, .inl f)), (ln, .inr (0, [.ref vb, .int 0, .int ml, .int (nI ct)])), (vb, .inl (cA 2, nb, .inl g)), (q1, .inl (cA 0, 7, .inl (upd (upd (upd (upd (upd (upd (upd zz0 0 b0) 1 b1) 2 b2) 3 b3) 4 b4) 5 b5) 6 b6)))] H := hP
  have hD : va_D A [(o, .inr (4, [.ref F, .ref G, .int lo, .int nw, .int se, .ref (pa 0), .ref an, .ref ln])), cE x xv, (x 7, .inl (cA 0, 4, .inl f)), (ln, .inr (0, [.ref vb, .int 0, .int ml, .int (nI ct)])), (vb, .inl (cA 2, nb, .inl g)), (q1, .inl (cA 0, 7, .inl (upd (upd (upd (upd (upd (upd (upd zz0 0 b0) 1 b1) 2 b2) 3 b3) 4 b4) 5 b5) 6 b6)))] := hD
  have hP : va_P D vwCl [(o, .inr (4, [.ref F, .ref G, .int lo, .int nw, .int se, .ref (pa 0), .ref an, .ref ln])), cE x xv, (x 7, .inl (cA 0, 4, .inl f)), (ln, .inr (0, [.ref vb, .int 0, .int ml, .int (nI ct)])), (vb, .inl (cA 2, nb, .inl g)), (q1, .inl (cA 0, 7, .inl (bgL b0 b1 b2 b3 b4 b5 b6)))] H := z_row hP 5 rfl bgL_of
  have hD : va_D A [(o, .inr (4, [.ref F, .ref G, .int lo, .int nw, .int se, .ref (pa 0), .ref an, .ref ln])), cE x xv, (x 7, .inl (cA 0, 4, .inl f)), (ln, .inr (0, [.ref vb, .int 0, .int ml, .int (nI ct)])), (vb, .inl (cA 2, nb, .inl g)), (q1, .inl (cA 0, 7, .inl (bgL b0 b1 b2 b3 b4 b5 b6)))] := hD.set (p := 5) rfl
  refine lv_iconst (v := 0) hx hb dL_begins_47 (by decide) ?_
  refine lv_istore (lv' := [(10, .int 0), (9, .ref q1), (0, .ref o), (1, .int n), (2, .int b0), (3, .int b1), (4, .int b2), (5, .int b3), (6, .int b4), (7, .int b5), (8, .int b6)]) hx hb dL_begins_48 hl (by decide) rfl (fun ls hl => ?_)
  refine lv_iload hx hb dL_begins_50 (lv_at hl 0 rfl) ?_
  refine lv_bipush (v := 7) hx hb dL_begins_52 (by decide) ?_
  refine lv_icmp_ge (tgt := 88) hx hb dL_begins_54 (by decide) (fun c_2 => absurd c_2 (by decide)) (fun _ => ?_)
  refine lv_aload hx hb dL_begins_57 (lv_at hl 1 rfl) ?_
  refine lv_iload hx hb dL_begins_59 (lv_at hl 0 rfl) ?_
  refine z_iald (k := 0) (v := ((zByt.getD k []).getD 0 0)) hx hb hK hP 5 0 rfl rfl rfl (by omega) (by decide) (hbl 0 (by omega)) dL_begins_61 ?_
  refine lv_if_le (tgt := 88) hx hb dL_begins_62 (by decide) (fun c_3 => ?_) (fun c_3 => ?_)
  · skip
    exact absurd c_3 (zB_pos hk (by omega))
  · skip
    refine lv_aload_n hx hb dL_begins_65 rfl (lv_at hl 2 rfl) ?_
    refine lv_iload_n hx hb dL_begins_66 rfl (lv_at hl 3 rfl) ?_
    refine lv_iload hx hb dL_begins_67 (lv_at hl 0 rfl) ?_
    have hPc := hP.sub (ws' := [(o, .inr (4, [.ref F, .ref G, .int lo, .int nw, .int se, .ref (pa 0), .ref an, .ref ln])), cE x xv, (x 7, .inl (cA 0, 4, .inl f)), (ln, .inr (0, [.ref vb, .int 0, .int ml, .int (nI ct)])), (vb, .inl (cA 2, nb, .inl g))]) [0, 1, 2, 3, 4] rfl
    have hDc := hD.sub (ws' := [(o, .inr (4, [.ref F, .ref G, .int lo, .int nw, .int se, .ref (pa 0), .ref an, .ref ln])), cE x xv, (x 7, .inl (cA 0, 4, .inl f)), (ln, .inr (0, [.ref vb, .int 0, .int ml, .int (nI ct)])), (vb, .inl (cA 2, nb, .inl g))]) [0, 1, 2, 3, 4] (by decide) rfl
    have hFc := va_free (wc := [(o, .inr (4, [.ref F, .ref G, .int lo, .int nw, .int se, .ref (pa 0), .ref an, .ref ln])), cE x xv, (x 7, .inl (cA 0, 4, .inl f)), (ln, .inr (0, [.ref vb, .int 0, .int ml, .int (nI ct)])), (vb, .inl (cA 2, nb, .inl g))]) hD hS hA [0, 1, 2, 3, 4] rfl
    refine va_calli (va_runV (As := [.int n, .int 0]) (rest := []) ⟨hx, hb, hml, hown, hts⟩ (c_X3_lineChar_k l D cA zv H.size o F G lo nw se pa an ln x y0 n xv k vb nb ct ml f g 0 he hk hk0 hok hn hct hfb (by omega)) (cwV 2 hts gL_begins_X3_lineChar rfl rfl rfl (by decide +kernel) ⟨Nat.le_of_ble_eq_true rfl, Nat.le_of_ble_eq_true rfl⟩) ⟨zUX_blind, va_recv hK hPc (ci := 4) (q0 := 0) rfl rfl, fun U hU hW => ⟨rfl, zUX_call hE0 hX0 hS hFc hU hPc hW hK hDc⟩⟩ rfl rfl hl.1 rfl (lv_room (Nat.le_of_ble_eq_true rfl)) dL_begins_69 ⟨Nat.le_of_ble_eq_true rfl, Nat.le_of_ble_eq_true rfl⟩) hS (fun q _ h => hFc q h) hFc (fun zr u t H1 locs ht hvm hw hB hz1 hk1 hS => ?_)
    obtain ⟨vb'_4, ml'_4, nb'_4, g'_4⟩ := u
    obtain ⟨hP1, hD1⟩ := hB
    rw [ht] at hP1
    try dsimp only at hw hP1 hD1
    obtain ⟨hP, hD⟩ := va_join (wr := [(q1, .inl (cA 0, 7, .inl (bgL b0 b1 b2 b3 b4 b5 b6)))]) (w1 := [(o, .inr (4, [.ref F, .ref G, .int lo, .int nw, .int se, .ref (pa 0), .ref an, .ref ln])), cE x xv, (x 7, .inl (cA 0, 4, .inl f)), (ln, .inr (0, [.ref vb'_4, .int 0, .int ml'_4, .int (nI ((lnT k f 4).length))])), (vb'_4, .inl (cA 2, nb'_4, .inl g'_4))]) hP hD [0, 1, 2, 3, 4] [5] rfl rfl (by decide) (by decide) hk1 hFc hP1 hD1
    generalize H1 = H at hP hS ⊢
    have hP := hP.sub (ws' := [(o, .inr (4, [.ref F, .ref G, .int lo, .int nw, .int se, .ref (pa 0), .ref an, .ref ln])), cE x xv, (x 7, .inl (cA 0, 4, .inl f)), (ln, .inr (0, [.ref vb'_4, .int 0, .int ml'_4, .int (nI ((lnT k f 4).length))])), (q1, .inl (cA 0, 7, .inl (bgL b0 b1 b2 b3 b4 b5 b6))), (vb'_4, .inl (cA 2, nb'_4, .inl g'_4))]) [1, 2, 3, 4, 0, 5] rfl
    have hD := hD.sub (ws' := [(o, .inr (4, [.ref F, .ref G, .int lo, .int nw, .int se, .ref (pa 0), .ref an, .ref ln])), cE x xv, (x 7, .inl (cA 0, 4, .inl f)), (ln, .inr (0, [.ref vb'_4, .int 0, .int ml'_4, .int (nI ((lnT k f 4).length))])), (q1, .inl (cA 0, 7, .inl (bgL b0 b1 b2 b3 b4 b5 b6))), (vb'_4, .inl (cA 2, nb'_4, .inl g'_4))]) [1, 2, 3, 4, 0, 5] (by decide) rfl
    clear hPc hDc hFc hP1 hD1 hk1 hz1
    refine W.widen (k := 14) (n := 449) (by omega) (by omega) ?_
    obtain ⟨hw_4_0, hw_4_1⟩ := hw
    obtain rfl := hw_4_1
    have hoL_5 := okL_of hw_4_0
    refine z_top (y := ((zByt.getD k []).getD 0 0)) (lnT_hd (f := f) hk (i := 0) (by omega)) ?_
    refine lv_aload hx hb dL_begins_72 (lv_at hl 1 rfl) ?_
    refine lv_iload hx hb dL_begins_74 (lv_at hl 0 rfl) ?_
    refine z_iald (k := 0) (v := ((zByt.getD k []).getD 0 0)) hx hb hK hP 4 0 rfl rfl rfl (by omega) (by decide) (hbl 0 (by omega)) dL_begins_76 ?_
    refine lv_icmp_eq (tgt := 82) hx hb dL_begins_77 (by decide) (fun _ => ?_) (fun c_6 => absurd rfl c_6)
    refine lv_iinc (v := 1) (lv' := [(10, .int 1), (9, .ref q1), (0, .ref o), (1, .int n), (2, .int b0), (3, .int b1), (4, .int b2), (5, .int b3), (6, .int b4), (7, .int b5), (8, .int b6)]) hx hb dL_begins_82 hl (k := 0) rfl (by decide) (by decide) rfl (fun ls hl => ?_)
    refine lv_goto (tgt := 50) hx hb dL_begins_85 (by decide) ?_
    refine z_loop (Inv := fun j H locs ls => ∃ (mlx : Int32), ∃ (gx : Nat → Int32), va_P D vwCl [(o, .inr (4, [.ref F, .ref G, .int lo, .int nw, .int se, .ref (pa 0), .ref an, .ref ln])), cE x xv, (x 7, .inl (cA 0, 4, .inl f)), (ln, .inr (0, [.ref vb'_4, .int 0, .int mlx, .int (nI ((lnT k f 4).length))])), (q1, .inl (cA 0, 7, .inl (bgL b0 b1 b2 b3 b4 b5 b6))), (vb'_4, .inl (cA 2, nb'_4, .inl gx))] H ∧ va_D A [(o, .inr (4, [.ref F, .ref G, .int lo, .int nw, .int se, .ref (pa 0), .ref an, .ref ln])), cE x xv, (x 7, .inl (cA 0, 4, .inl f)), (ln, .inr (0, [.ref vb'_4, .int 0, .int mlx, .int (nI ((lnT k f 4).length))])), (q1, .inl (cA 0, 7, .inl (bgL b0 b1 b2 b3 b4 b5 b6))), (vb'_4, .inl (cA 2, nb'_4, .inl gx))] ∧ va_S A s.heap H locs ∧ lv_has ls 11 [(10, .int (nI (j + 1))), (9, .ref q1), (0, .ref o), (1, .int n), (2, .int b0), (3, .int b1), (4, .int b2), (5, .int b3), (6, .int b4), (7, .int b5), (8, .int b6)] ∧ okL k f nb'_4 gx ∧ j + 1 ≤ zLen.getD k 0) 6 (fun j hj_j ih_j H locs ls hI => ?_) ⟨ml'_4, g'_4, hP, hD, hS, lv_sub hl [0, 1, 2, 3, 4, 5, 6, 7, 8, 9, 10] rfl, hoL_5, (by omega)⟩
    obtain ⟨mlx, gx, hP, hD, hS, hl, hoX, hjz⟩ := hI
    refine lv_iload hx hb dL_begins_50 (lv_at hl 0 rfl) ?_
    refine lv_bipush (v := 7) hx hb dL_begins_52 (by decide) ?_
    refine lv_icmp_ge (tgt := 88) hx hb dL_begins_54 (by decide) (fun c_7 => ?_) (fun c_7 => ?_)
    · have c_7 := (nI_leI (a := 7) (b := j + 1) (by omega) (by omega)).mp c_7
      refine lv_iload hx hb dL_begins_88 (lv_at hl 0 rfl) ?_
      have hP := hP.sub (ws' := [(o, .inr (4, [.ref F, .ref G, .int lo, .int nw, .int se, .ref (pa 0), .ref an, .ref ln])), cE x xv, (x 7, .inl (cA 0, 4, .inl f)), (ln, .inr (0, [.ref vb'_4, .int 0, .int mlx, .int (nI ((lnT k f 4).length))])), (vb'_4, .inl (cA 2, nb'_4, .inl gx))]) [0, 1, 2, 3, 5] rfl
      have hD := hD.sub (ws' := [(o, .inr (4, [.ref F, .ref G, .int lo, .int nw, .int se, .ref (pa 0), .ref an, .ref ln])), cE x xv, (x 7, .inl (cA 0, 4, .inl f)), (ln, .inr (0, [.ref vb'_4, .int 0, .int mlx, .int (nI ((lnT k f 4).length))])), (vb'_4, .inl (cA 2, nb'_4, .inl gx))]) [0, 1, 2, 3, 5] (by decide) rfl
      refine W.widen (k := 14) (n := 449) (by omega) (by omega) ?_
      exact W.iret (v := (nI (j + 1))) hx hb hr (fun t ht hW => ⟨⟨nI (j + 1), (vb'_4, mlx, nb'_4, gx), rfl, ⟨hoX, congrArg nI (by omega)⟩, ⟨by rw [ht]; exact hP, by rw [hAe]; exact hD⟩⟩, hS.F ht⟩) hS.2.2 dL_begins_90
    · have c_7 := mt (nI_leI (a := 7) (b := j + 1) (by omega) (by omega)).mpr c_7
      rcases (show j + 1 < zLen.getD k 0 ∨ zLen.getD k 0 = j + 1 by omega) with hlt | hlt
      · skip
        refine lv_aload hx hb dL_begins_57 (lv_at hl 1 rfl) ?_
        refine lv_iload hx hb dL_begins_59 (lv_at hl 0 rfl) ?_
        refine z_iald (k := (j + 1)) (v := ((zByt.getD k []).getD (j + 1) 0)) hx hb hK hP 4 0 rfl rfl rfl (by omega) (by decide) (hbl (j + 1) (by omega)) dL_begins_61 ?_
        refine lv_if_le (tgt := 88) hx hb dL_begins_62 (by decide) (fun c_8 => ?_) (fun c_8 => ?_)
        · skip
          exact absurd c_8 (zB_pos hk (by omega))
        · skip
          refine lv_aload_n hx hb dL_begins_65 rfl (lv_at hl 2 rfl) ?_
          refine lv_iload_n hx hb dL_begins_66 rfl (lv_at hl 3 rfl) ?_
          refine lv_iload hx hb dL_begins_67 (lv_at hl 0 rfl) ?_
          have hPc := hP.sub (ws' := [(o, .inr (4, [.ref F, .ref G, .int lo, .int nw, .int se, .ref (pa 0), .ref an, .ref ln])), cE x xv, (x 7, .inl (cA 0, 4, .inl f)), (ln, .inr (0, [.ref vb'_4, .int 0, .int mlx, .int (nI ((lnT k f 4).length))])), (vb'_4, .inl (cA 2, nb'_4, .inl gx))]) [0, 1, 2, 3, 5] rfl
          have hDc := hD.sub (ws' := [(o, .inr (4, [.ref F, .ref G, .int lo, .int nw, .int se, .ref (pa 0), .ref an, .ref ln])), cE x xv, (x 7, .inl (cA 0, 4, .inl f)), (ln, .inr (0, [.ref vb'_4, .int 0, .int mlx, .int (nI ((lnT k f 4).length))])), (vb'_4, .inl (cA 2, nb'_4, .inl gx))]) [0, 1, 2, 3, 5] (by decide) rfl
          have hFc := va_free (wc := [(o, .inr (4, [.ref F, .ref G, .int lo, .int nw, .int se, .ref (pa 0), .ref an, .ref ln])), cE x xv, (x 7, .inl (cA 0, 4, .inl f)), (ln, .inr (0, [.ref vb'_4, .int 0, .int mlx, .int (nI ((lnT k f 4).length))])), (vb'_4, .inl (cA 2, nb'_4, .inl gx))]) hD hS hA [0, 1, 2, 3, 5] rfl
          refine va_calli (va_runV (As := [.int n, .int (nI (j + 1))]) (rest := []) ⟨hx, hb, hml, hown, hts⟩ (c_n_lineChar l D cA zv H.size o F G lo nw se pa an ln x y0 n xv k vb'_4 nb'_4 ((lnT k f 4).length) mlx f gx (j + 1) he hk hk0 hok hoX.1 (by have q9 := hoX.2.1; omega) hoX.2.2.1 (okL_le hoX) (by omega)) (cwV 2 hts gL_begins_X3_lineChar rfl rfl rfl (by decide +kernel) ⟨Nat.le_of_ble_eq_true rfl, Nat.le_of_ble_eq_true rfl⟩) ⟨zUX_blind, va_recv hK hPc (ci := 4) (q0 := 0) rfl rfl, fun U hU hW => ⟨rfl, zUX_call hE0 hX0 hS hFc hU hPc hW hK hDc⟩⟩ rfl rfl hl.1 rfl (lv_room (Nat.le_of_ble_eq_true rfl)) dL_begins_69 ⟨Nat.le_of_ble_eq_true rfl, Nat.le_of_ble_eq_true rfl⟩) hS (fun q _ h => hFc q h) hFc (fun zr u t H1 locs ht hvm hw hB hz1 hk1 hS => ?_)
          obtain ⟨ml'_9, g'_9⟩ := u
          obtain ⟨hP1, hD1⟩ := hB
          rw [ht] at hP1
          try dsimp only at hw hP1 hD1
          obtain ⟨hP, hD⟩ := va_join (wr := [(q1, .inl (cA 0, 7, .inl (bgL b0 b1 b2 b3 b4 b5 b6)))]) (w1 := [(o, .inr (4, [.ref F, .ref G, .int lo, .int nw, .int se, .ref (pa 0), .ref an, .ref ln])), cE x xv, (x 7, .inl (cA 0, 4, .inl f)), (ln, .inr (0, [.ref vb'_4, .int 0, .int ml'_9, .int (nI ((lnT k f 4).length))])), (vb'_4, .inl (cA 2, nb'_4, .inl g'_9))]) hP hD [0, 1, 2, 3, 5] [4] rfl rfl (by decide) (by decide) hk1 hFc hP1 hD1
          generalize H1 = H at hP hS ⊢
          have hP := hP.sub (ws' := [(o, .inr (4, [.ref F, .ref G, .int lo, .int nw, .int se, .ref (pa 0), .ref an, .ref ln])), cE x xv, (x 7, .inl (cA 0, 4, .inl f)), (ln, .inr (0, [.ref vb'_4, .int 0, .int ml'_9, .int (nI ((lnT k f 4).length))])), (q1, .inl (cA 0, 7, .inl (bgL b0 b1 b2 b3 b4 b5 b6))), (vb'_4, .inl (cA 2, nb'_4, .inl g'_9))]) [1, 2, 3, 4, 0, 5] rfl
          have hD := hD.sub (ws' := [(o, .inr (4, [.ref F, .ref G, .int lo, .int nw, .int se, .ref (pa 0), .ref an, .ref ln])), cE x xv, (x 7, .inl (cA 0, 4, .inl f)), (ln, .inr (0, [.ref vb'_4, .int 0, .int ml'_9, .int (nI ((lnT k f 4).length))])), (q1, .inl (cA 0, 7, .inl (bgL b0 b1 b2 b3 b4 b5 b6))), (vb'_4, .inl (cA 2, nb'_4, .inl g'_9))]) [1, 2, 3, 4, 0, 5] (by decide) rfl
          clear hPc hDc hFc hP1 hD1 hk1 hz1
          obtain ⟨hw_9_0, hw_9_1⟩ := hw
          obtain rfl := hw_9_1
          have hoL_10 := okL_of hw_9_0
          refine z_top (y := ((zByt.getD k []).getD (j + 1) 0)) (lnT_hd (f := f) hk (i := j + 1) (by omega)) ?_
          refine lv_aload hx hb dL_begins_72 (lv_at hl 1 rfl) ?_
          refine lv_iload hx hb dL_begins_74 (lv_at hl 0 rfl) ?_
          refine z_iald (k := (j + 1)) (v := ((zByt.getD k []).getD (j + 1) 0)) hx hb hK hP 4 0 rfl rfl rfl (by omega) (by decide) (hbl (j + 1) (by omega)) dL_begins_76 ?_
          refine lv_icmp_eq (tgt := 82) hx hb dL_begins_77 (by decide) (fun _ => ?_) (fun c_11 => absurd rfl c_11)
          refine lv_iinc (v := nI (j + 2)) (lv' := [(10, .int (nI (j + 2))), (9, .ref q1), (0, .ref o), (1, .int n), (2, .int b0), (3, .int b1), (4, .int b2), (5, .int b3), (6, .int b4), (7, .int b5), (8, .int b6)]) hx hb dL_begins_82 hl (k := 0) rfl (z_inc (j + 1) 1) (by decide) rfl (fun ls hl => ?_)
          refine lv_goto (tgt := 50) hx hb dL_begins_85 (by decide) ?_
          exact ih_j _ _ _ (by omega) ⟨ml'_9, g'_9, hP, hD, hS, lv_sub hl [0, 1, 2, 3, 4, 5, 6, 7, 8, 9, 10] rfl, hoL_10, (by omega)⟩
      · skip
        refine lv_aload hx hb dL_begins_57 (lv_at hl 1 rfl) ?_
        refine lv_iload hx hb dL_begins_59 (lv_at hl 0 rfl) ?_
        refine z_iald (k := (j + 1)) (v := 0) hx hb hK hP 4 0 rfl rfl rfl (by omega) (by decide) (by rw [← hlt]; exact hbz (by omega)) dL_begins_61 ?_
        refine lv_if_le (tgt := 88) hx hb dL_begins_62 (by decide) (fun _ => ?_) (fun c_12 => absurd c_12 (by decide))
        refine lv_iload hx hb dL_begins_88 (lv_at hl 0 rfl) ?_
        have hP := hP.sub (ws' := [(o, .inr (4, [.ref F, .ref G, .int lo, .int nw, .int se, .ref (pa 0), .ref an, .ref ln])), cE x xv, (x 7, .inl (cA 0, 4, .inl f)), (ln, .inr (0, [.ref vb'_4, .int 0, .int mlx, .int (nI ((lnT k f 4).length))])), (vb'_4, .inl (cA 2, nb'_4, .inl gx))]) [0, 1, 2, 3, 5] rfl
        have hD := hD.sub (ws' := [(o, .inr (4, [.ref F, .ref G, .int lo, .int nw, .int se, .ref (pa 0), .ref an, .ref ln])), cE x xv, (x 7, .inl (cA 0, 4, .inl f)), (ln, .inr (0, [.ref vb'_4, .int 0, .int mlx, .int (nI ((lnT k f 4).length))])), (vb'_4, .inl (cA 2, nb'_4, .inl gx))]) [0, 1, 2, 3, 5] (by decide) rfl
        refine W.widen (k := 14) (n := 449) (by omega) (by omega) ?_
        exact W.iret (v := (nI (j + 1))) hx hb hr (fun t ht hW => ⟨⟨nI (j + 1), (vb'_4, mlx, nb'_4, gx), rfl, ⟨hoX, congrArg nI (by omega)⟩, ⟨by rw [ht]; exact hP, by rw [hAe]; exact hD⟩⟩, hS.F ht⟩) hS.2.2 dL_begins_90
