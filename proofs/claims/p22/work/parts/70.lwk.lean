theorem gr_y {v0 a : Int32} {s : Nat} (h : v0 = nI s) (hs : s = 2 ∨ s = 4) : (if v0 = 2 ∨ v0 = 4 then a else -1) = a := by
  rw [if_pos]
  rw [h]
  rcases hs with rfl | rfl
  · exact Or.inl rfl
  · exact Or.inr rfl
theorem gr_n {v0 a : Int32} {s : Nat} (h : v0 = nI s) (h7 : s ≤ 7) (hs : ¬ (s = 2 ∨ s = 4)) : (if v0 = 2 ∨ v0 = 4 then a else -1) = -1 := by
  rw [if_neg]
  rw [h]
  rintro (q | q)
  · exact hs (Or.inl (nIe (b := 2) q (by omega) (by decide)))
  · exact hs (Or.inr (nIe (b := 4) q (by omega) (by decide)))
theorem al_n {v0 a : Int32} {s : Nat} (h : v0 = nI s) (h7 : s ≤ 7) (hs : ¬ (s = 3 ∨ s = 4)) : (if v0 = 3 ∨ v0 = 4 then a else -1) = -1 := by
  rw [if_neg]
  rw [h]
  rintro (q | q)
  · exact hs (Or.inl (nIe (b := 3) q (by omega) (by decide)))
  · exact hs (Or.inr (nIe (b := 4) q (by omega) (by decide)))
theorem agr_x {g q s n t s' n' t' : Nat} {xv yv : Nat → Int32} {xd yd : Nat → Nat → Int32} {QX QY : Qt} (h : INV g q s n t xv xd QX s' n' t' yv yd QY) (g0 : g = 0) (h4 : s = 4) {o : Nat} (ho : o < 4) : yd 7 o = xd 6 o :=
  ((h.2.2.2.2.2 g0).2.1.2.2.2.2 ⟨by omega, by omega⟩ (Or.inr (Or.inl h4))).1 o ho
set_option maxHeartbeats 4000000 in
set_option maxRecDepth 100000 in
/-- isWire(o, c) -/
theorem c_isWire (l : Launch) (D : va_G) (cA : Nat → ClassId) (zv : Nat → Nat) (sz : Nat) (o F G : Nat) (lo nw se : Int32) (pa : Nat → Nat) (an ln : Nat) (x y : Nat → Nat) (xv yv : Nat → Int32) (xr yr : Nat → Nat → Int32) (xf yf : Nat) (QX QY : Qt) (xd yd : Nat → Nat → Int32) (B gv qv : Nat) (vb nb ct : Nat) (ml : Int32) (gb : Nat → Int32) (ca : Nat) (cc : Nat → Int32) (hl0 : l.stackTraces = false) (he : en 0 F G (x 0) (y 0)) (hqx : rg xr xf QX) (hqy : rg yr yf QY) (hPW : PW B gv qv xv xd QX yv yd QY) (hc0 : cc 0 = nw) (hc2 : cc 2 = nI gv) (hgv : gv ≤ 1) (hn : nb = 16 ∨ nb = 34) (hct : ct ≤ nb) (hfb : bfit nb gb) : Met l yL_isWire wsL_isWire ({ frames := 11, cells := 32, slots := 922, locals := 270 }) (va_Pc [.ref o, .ref ca] (zUX D cA zv sz [(o, .inr (4, [.ref F, .ref G, .int lo, .int nw, .int se, .ref (pa 0), .ref an, .ref ln])), cE x xv, (x 7, .inl (cA 0, 4, .inl (xd 6))), (x 8, .inl (cA 0, 4, .inl (xd 7))), (x 9, .inr (3, [.ref (x 10), .ref (x 11), .ref (x 12), .ref (x 13), .int (nI xf), .int (nI QX.1)])), (x 10, .inl (cA 0, 12, .inl (xr 0))), (x 11, .inl (cA 0, 12, .inl (xr 1))), (x 12, .inl (cA 0, 12, .inl (xr 2))), (x 13, .inl (cA 0, 48, .inl (xr 3))), cE y yv, (y 7, .inl (cA 0, 4, .inl (yd 6))), (y 8, .inl (cA 0, 4, .inl (yd 7))), (y 9, .inr (3, [.ref (y 10), .ref (y 11), .ref (y 12), .ref (y 13), .int (nI yf), .int (nI QY.1)])), (y 10, .inl (cA 0, 12, .inl (yr 0))), (y 11, .inl (cA 0, 12, .inl (yr 1))), (y 12, .inl (cA 0, 12, .inl (yr 2))), (y 13, .inl (cA 0, 48, .inl (yr 3))), (ln, .inr (0, [.ref vb, .int 0, .int ml, .int (nI ct)])), (vb, .inl (cA 2, nb, .inl gb)), (ca, .inl (cA 0, 3, .inl cc))])) (va_Qi (fun (r : Int32) (u : (Nat × Int32 × Nat × Nat × (Nat → Int32))) => (u.2.2.2.1 = 16 ∨ u.2.2.2.1 = 34) ∧ u.2.2.1 ≤ u.2.2.2.1 ∧ bfit u.2.2.2.1 u.2.2.2.2 ∧ r = 1) (fun (u : (Nat × Int32 × Nat × Nat × (Nat → Int32))) t => zB D [(o, .inr (4, [.ref F, .ref G, .int lo, .int nw, .int se, .ref (pa 0), .ref an, .ref ln])), cE x xv, (x 7, .inl (cA 0, 4, .inl (xd 6))), (x 8, .inl (cA 0, 4, .inl (xd 7))), (x 9, .inr (3, [.ref (x 10), .ref (x 11), .ref (x 12), .ref (x 13), .int (nI xf), .int (nI QX.1)])), (x 10, .inl (cA 0, 12, .inl (xr 0))), (x 11, .inl (cA 0, 12, .inl (xr 1))), (x 12, .inl (cA 0, 12, .inl (xr 2))), (x 13, .inl (cA 0, 48, .inl (xr 3))), cE y yv, (y 7, .inl (cA 0, 4, .inl (yd 6))), (y 8, .inl (cA 0, 4, .inl (yd 7))), (y 9, .inr (3, [.ref (y 10), .ref (y 11), .ref (y 12), .ref (y 13), .int (nI yf), .int (nI QY.1)])), (y 10, .inl (cA 0, 12, .inl (yr 0))), (y 11, .inl (cA 0, 12, .inl (yr 1))), (y 12, .inl (cA 0, 12, .inl (yr 2))), (y 13, .inl (cA 0, 48, .inl (yr 3))), (ln, .inr (0, [.ref vb, .int 0, .int ml, .int (nI ct)])), (vb, .inl (cA 2, nb, .inl gb)), (ca, .inl (cA 0, 3, .inl cc))] sz [(o, .inr (4, [.ref F, .ref G, .int lo, .int nw, .int se, .ref (pa 0), .ref an, .ref ln])), cE x xv, (x 7, .inl (cA 0, 4, .inl (xd 6))), (x 8, .inl (cA 0, 4, .inl (xd 7))), (x 9, .inr (3, [.ref (x 10), .ref (x 11), .ref (x 12), .ref (x 13), .int (nI xf), .int (nI QX.1)])), (x 10, .inl (cA 0, 12, .inl (xr 0))), (x 11, .inl (cA 0, 12, .inl (xr 1))), (x 12, .inl (cA 0, 12, .inl (xr 2))), (x 13, .inl (cA 0, 48, .inl (xr 3))), cE y yv, (y 7, .inl (cA 0, 4, .inl (yd 6))), (y 8, .inl (cA 0, 4, .inl (yd 7))), (y 9, .inr (3, [.ref (y 10), .ref (y 11), .ref (y 12), .ref (y 13), .int (nI yf), .int (nI QY.1)])), (y 10, .inl (cA 0, 12, .inl (yr 0))), (y 11, .inl (cA 0, 12, .inl (yr 1))), (y 12, .inl (cA 0, 12, .inl (yr 2))), (y 13, .inl (cA 0, 48, .inl (yr 3))), (ln, .inr (0, [.ref u.1, .int 0, .int u.2.1, .int (nI u.2.2.1)])), (u.1, .inl (cA 2, u.2.2.2.1, .inl u.2.2.2.2)), (ca, .inl (cA 0, 3, .inl cc))] t) (va_A [(o, .inr (4, [.ref F, .ref G, .int lo, .int nw, .int se, .ref (pa 0), .ref an, .ref ln])), cE x xv, (x 7, .inl (cA 0, 4, .inl (xd 6))), (x 8, .inl (cA 0, 4, .inl (xd 7))), (x 9, .inr (3, [.ref (x 10), .ref (x 11), .ref (x 12), .ref (x 13), .int (nI xf), .int (nI QX.1)])), (x 10, .inl (cA 0, 12, .inl (xr 0))), (x 11, .inl (cA 0, 12, .inl (xr 1))), (x 12, .inl (cA 0, 12, .inl (xr 2))), (x 13, .inl (cA 0, 48, .inl (xr 3))), cE y yv, (y 7, .inl (cA 0, 4, .inl (yd 6))), (y 8, .inl (cA 0, 4, .inl (yd 7))), (y 9, .inr (3, [.ref (y 10), .ref (y 11), .ref (y 12), .ref (y 13), .int (nI yf), .int (nI QY.1)])), (y 10, .inl (cA 0, 12, .inl (yr 0))), (y 11, .inl (cA 0, 12, .inl (yr 1))), (y 12, .inl (cA 0, 12, .inl (yr 2))), (y 13, .inl (cA 0, 48, .inl (yr 3))), (ln, .inr (0, [.ref vb, .int 0, .int ml, .int (nI ct)])), (vb, .inl (cA 2, nb, .inl gb)), (ca, .inl (cA 0, 3, .inl cc))] sz)) 32 922 (va_A [(o, .inr (4, [.ref F, .ref G, .int lo, .int nw, .int se, .ref (pa 0), .ref an, .ref ln])), cE x xv, (x 7, .inl (cA 0, 4, .inl (xd 6))), (x 8, .inl (cA 0, 4, .inl (xd 7))), (x 9, .inr (3, [.ref (x 10), .ref (x 11), .ref (x 12), .ref (x 13), .int (nI xf), .int (nI QX.1)])), (x 10, .inl (cA 0, 12, .inl (xr 0))), (x 11, .inl (cA 0, 12, .inl (xr 1))), (x 12, .inl (cA 0, 12, .inl (xr 2))), (x 13, .inl (cA 0, 48, .inl (xr 3))), cE y yv, (y 7, .inl (cA 0, 4, .inl (yd 6))), (y 8, .inl (cA 0, 4, .inl (yd 7))), (y 9, .inr (3, [.ref (y 10), .ref (y 11), .ref (y 12), .ref (y 13), .int (nI yf), .int (nI QY.1)])), (y 10, .inl (cA 0, 12, .inl (yr 0))), (y 11, .inl (cA 0, 12, .inl (yr 1))), (y 12, .inl (cA 0, 12, .inl (yr 2))), (y 13, .inl (cA 0, 48, .inl (yr 3))), (ln, .inr (0, [.ref vb, .int 0, .int ml, .int (nI ct)])), (vb, .inl (cA 2, nb, .inl gb)), (ca, .inl (cA 0, 3, .inl cc))] sz) := by
  refine Met.ofW (cc := cL_isWire) (maxL := 8) (ret := (some .boolean)) (by decide) rfl ?_
  intro p e s m args below meth c s₁ B hml hv
  obtain ⟨rfl, ⟨hsz, hP, hK, hD0, hE0⟩, hX0⟩ := hv
  have hx := B.exec
  have hb := B.bytes
  have hr := B.returns
  have hts := atoms_spec (ws := wsL_isWire) B.pre
  have hown : s.vm.findClass RL = some m.cls := findClass_of_methodNamed B.named
  have hlocks := B.notSynchronized
  subst hsz
  have hD := hD0.self (sz := s.heap.size)
  generalize hAe : va_A [(o, .inr (4, [.ref F, .ref G, .int lo, .int nw, .int se, .ref (pa 0), .ref an, .ref ln])), cE x xv, (x 7, .inl (cA 0, 4, .inl (xd 6))), (x 8, .inl (cA 0, 4, .inl (xd 7))), (x 9, .inr (3, [.ref (x 10), .ref (x 11), .ref (x 12), .ref (x 13), .int (nI xf), .int (nI QX.1)])), (x 10, .inl (cA 0, 12, .inl (xr 0))), (x 11, .inl (cA 0, 12, .inl (xr 1))), (x 12, .inl (cA 0, 12, .inl (xr 2))), (x 13, .inl (cA 0, 48, .inl (xr 3))), cE y yv, (y 7, .inl (cA 0, 4, .inl (yd 6))), (y 8, .inl (cA 0, 4, .inl (yd 7))), (y 9, .inr (3, [.ref (y 10), .ref (y 11), .ref (y 12), .ref (y 13), .int (nI yf), .int (nI QY.1)])), (y 10, .inl (cA 0, 12, .inl (yr 0))), (y 11, .inl (cA 0, 12, .inl (yr 1))), (y 12, .inl (cA 0, 12, .inl (yr 2))), (y 13, .inl (cA 0, 48, .inl (yr 3))), (ln, .inr (0, [.ref vb, .int 0, .int ml, .int (nI ct)])), (vb, .inl (cA 2, nb, .inl gb)), (ca, .inl (cA 0, 3, .inl cc))] s.heap.size = A at hD hE0 hX0 ⊢
  have hA : ∀ q : Nat, s.heap.size ≤ q → A q := fun q h => by rw [← hAe]; exact Or.inr h
  have hS : va_S A s.heap s.heap [] := va_S.rf
  have hl := lv_entry ([.ref o, .ref ca]) (n := 8) (Nat.le_of_ble_eq_true rfl)
  rw [lg_entry_eq]
  generalize (lg_sl ([.ref o, .ref ca]) ++ List.replicate (8 - (lg_sl ([.ref o, .ref ca])).length) Slot.unset).toArray = ls at hl ⊢
  have hl : lv_has ls 8 [(0, .ref o), (1, .ref ca)] := hl
  obtain ⟨sx, kx, tx, sy, ky, ty, hI, hbx, hby⟩ := hPW
  obtain ⟨hx0, hx2, hx3, hx7, hx10, hx4⟩ := id hI.1.1
  obtain ⟨hy0, hy2, hy3, hy7, hy10, hy4⟩ := id hI.1.2
  have hQx := hI.2.2.2.1.1
  have hQy := hI.2.2.2.1.2
  have hq1 := hI.2.2.2.2.1
  refine lv_aload_n hx hb dL_isWire_0 rfl (lv_at hl 0 rfl) ?_
  have hPc := hP.sub (ws' := [(o, .inr (4, [.ref F, .ref G, .int lo, .int nw, .int se, .ref (pa 0), .ref an, .ref ln]))]) [0] rfl
  have hDc := hD.sub (ws' := [(o, .inr (4, [.ref F, .ref G, .int lo, .int nw, .int se, .ref (pa 0), .ref an, .ref ln]))]) [0] (by decide) rfl
  have hFc := va_free (wc := [(o, .inr (4, [.ref F, .ref G, .int lo, .int nw, .int se, .ref (pa 0), .ref an, .ref ln]))]) hD hS hA [0] rfl
  refine va_calli (va_runV (As := []) (rest := []) ⟨hx, hb, hml, hown, hts⟩ (c_X3_time_k l D cA s.heap.size o F G lo nw se pa an ln) (cwV 0 hts gL_isWire_X3_time rfl rfl rfl (by decide +kernel) ⟨Nat.le_of_ble_eq_true rfl, Nat.le_of_ble_eq_true rfl⟩) ⟨zU_blind, va_recv hK hPc (ci := 4) (q0 := 0) rfl rfl, fun U hU hW => ⟨rfl, zU_call hU hPc hW.alike hK hDc⟩⟩ rfl rfl hl.1 rfl (lv_room (Nat.le_of_ble_eq_true rfl)) dL_isWire_1 ⟨(Nat.zero_le _), (Nat.zero_le _)⟩) hS (fun q _ h => hFc q h) hFc (fun zr u t H1 locs ht hvm hw hB hz1 hk1 hS => ?_)
  obtain ⟨hP1, hD1⟩ := hB
  rw [ht] at hP1
  obtain ⟨hP, hD⟩ := va_join (wr := [cE x xv, (x 7, .inl (cA 0, 4, .inl (xd 6))), (x 8, .inl (cA 0, 4, .inl (xd 7))), (x 9, .inr (3, [.ref (x 10), .ref (x 11), .ref (x 12), .ref (x 13), .int (nI xf), .int (nI QX.1)])), (x 10, .inl (cA 0, 12, .inl (xr 0))), (x 11, .inl (cA 0, 12, .inl (xr 1))), (x 12, .inl (cA 0, 12, .inl (xr 2))), (x 13, .inl (cA 0, 48, .inl (xr 3))), cE y yv, (y 7, .inl (cA 0, 4, .inl (yd 6))), (y 8, .inl (cA 0, 4, .inl (yd 7))), (y 9, .inr (3, [.ref (y 10), .ref (y 11), .ref (y 12), .ref (y 13), .int (nI yf), .int (nI QY.1)])), (y 10, .inl (cA 0, 12, .inl (yr 0))), (y 11, .inl (cA 0, 12, .inl (yr 1))), (y 12, .inl (cA 0, 12, .inl (yr 2))), (y 13, .inl (cA 0, 48, .inl (yr 3))), (ln, .inr (0, [.ref vb, .int 0, .int ml, .int (nI ct)])), (vb, .inl (cA 2, nb, .inl gb)), (ca, .inl (cA 0, 3, .inl cc))]) (w1 := [(o, .inr (4, [.ref F, .ref G, .int lo, .int nw, .int se, .ref (pa 0), .ref an, .ref ln]))]) hP hD [0] [1, 2, 3, 4, 5, 6, 7, 8, 9, 10, 11, 12, 13, 14, 15, 16, 17, 18, 19] rfl rfl (by decide) (by decide) hk1 hFc hP1 hD1
  generalize H1 = H at hP hS ⊢
  have hP := hP.sub (ws' := [(o, .inr (4, [.ref F, .ref G, .int lo, .int nw, .int se, .ref (pa 0), .ref an, .ref ln])), cE x xv, (x 7, .inl (cA 0, 4, .inl (xd 6))), (x 8, .inl (cA 0, 4, .inl (xd 7))), (x 9, .inr (3, [.ref (x 10), .ref (x 11), .ref (x 12), .ref (x 13), .int (nI xf), .int (nI QX.1)])), (x 10, .inl (cA 0, 12, .inl (xr 0))), (x 11, .inl (cA 0, 12, .inl (xr 1))), (x 12, .inl (cA 0, 12, .inl (xr 2))), (x 13, .inl (cA 0, 48, .inl (xr 3))), cE y yv, (y 7, .inl (cA 0, 4, .inl (yd 6))), (y 8, .inl (cA 0, 4, .inl (yd 7))), (y 9, .inr (3, [.ref (y 10), .ref (y 11), .ref (y 12), .ref (y 13), .int (nI yf), .int (nI QY.1)])), (y 10, .inl (cA 0, 12, .inl (yr 0))), (y 11, .inl (cA 0, 12, .inl (yr 1))), (y 12, .inl (cA 0, 12, .inl (yr 2))), (y 13, .inl (cA 0, 48, .inl (yr 3))), (ln, .inr (0, [.ref vb, .int 0, .int ml, .int (nI ct)])), (vb, .inl (cA 2, nb, .inl gb)), (ca, .inl (cA 0, 3, .inl cc))]) [19, 0, 1, 2, 3, 4, 5, 6, 7, 8, 9, 10, 11, 12, 13, 14, 15, 16, 17, 18] rfl
  have hD := hD.sub (ws' := [(o, .inr (4, [.ref F, .ref G, .int lo, .int nw, .int se, .ref (pa 0), .ref an, .ref ln])), cE x xv, (x 7, .inl (cA 0, 4, .inl (xd 6))), (x 8, .inl (cA 0, 4, .inl (xd 7))), (x 9, .inr (3, [.ref (x 10), .ref (x 11), .ref (x 12), .ref (x 13), .int (nI xf), .int (nI QX.1)])), (x 10, .inl (cA 0, 12, .inl (xr 0))), (x 11, .inl (cA 0, 12, .inl (xr 1))), (x 12, .inl (cA 0, 12, .inl (xr 2))), (x 13, .inl (cA 0, 48, .inl (xr 3))), cE y yv, (y 7, .inl (cA 0, 4, .inl (yd 6))), (y 8, .inl (cA 0, 4, .inl (yd 7))), (y 9, .inr (3, [.ref (y 10), .ref (y 11), .ref (y 12), .ref (y 13), .int (nI yf), .int (nI QY.1)])), (y 10, .inl (cA 0, 12, .inl (yr 0))), (y 11, .inl (cA 0, 12, .inl (yr 1))), (y 12, .inl (cA 0, 12, .inl (yr 2))), (y 13, .inl (cA 0, 48, .inl (yr 3))), (ln, .inr (0, [.ref vb, .int 0, .int ml, .int (nI ct)])), (vb, .inl (cA 2, nb, .inl gb)), (ca, .inl (cA 0, 3, .inl cc))]) [19, 0, 1, 2, 3, 4, 5, 6, 7, 8, 9, 10, 11, 12, 13, 14, 15, 16, 17, 18] (by decide) rfl
  clear hPc hDc hFc hP1 hD1 hk1 hz1
  have hw_1 := hw
  subst zr
  refine lv_aload_n hx hb dL_isWire_4 rfl (lv_at hl 1 rfl) ?_
  refine lv_iconst (v := 0) hx hb dL_isWire_5 (by decide) ?_
  refine z_iald (k := 0) (v := nw) hx hb hK hP 19 0 rfl rfl rfl (by omega) (by decide) hc0 dL_isWire_6 ?_
  refine lv_icmp_ne (tgt := 14) hx hb dL_isWire_7 (by decide) (fun c_2 => absurd rfl c_2) (fun _ => ?_)
  refine lv_iconst (v := 1) hx hb dL_isWire_10 (by decide) ?_
  refine lv_goto (tgt := 15) hx hb dL_isWire_11 (by decide) ?_
  refine lv_istore_n (lv' := [(2, .int 1), (0, .ref o), (1, .ref ca)]) hx hb dL_isWire_15 rfl hl (by decide) rfl (fun ls hl => ?_)
  refine lv_iconst (v := 0) hx hb dL_isWire_16 (by decide) ?_
  refine lv_istore_n (lv' := [(3, .int 0), (2, .int 1), (0, .ref o), (1, .ref ca)]) hx hb dL_isWire_17 rfl hl (by decide) rfl (fun ls hl => ?_)
  refine lv_iload_n hx hb dL_isWire_18 rfl (lv_at hl 0 rfl) ?_
  refine lv_iconst (v := 2) hx hb dL_isWire_19 (by decide) ?_
  refine lv_icmp_ge (tgt := 393) hx hb dL_isWire_20 (by decide) (fun c_3 => absurd c_3 (by decide)) (fun _ => ?_)
  refine lv_iload_n hx hb dL_isWire_23 rfl (lv_at hl 1 rfl) ?_
  refine lv_if_eq (tgt := 393) hx hb dL_isWire_24 (by decide) (fun c_4 => absurd c_4 (by decide)) (fun _ => ?_)
  refine lv_aload_n hx hb dL_isWire_27 rfl (lv_at hl 2 rfl) ?_
  refine lv_iload_n hx hb dL_isWire_28 rfl (lv_at hl 0 rfl) ?_
  have hPc := hP.sub (ws' := [(o, .inr (4, [.ref F, .ref G, .int lo, .int nw, .int se, .ref (pa 0), .ref an, .ref ln])), cE x xv]) [0, 1] rfl
  have hDc := hD.sub (ws' := [(o, .inr (4, [.ref F, .ref G, .int lo, .int nw, .int se, .ref (pa 0), .ref an, .ref ln])), cE x xv]) [0, 1] (by decide) rfl
  have hFc := va_free (wc := [(o, .inr (4, [.ref F, .ref G, .int lo, .int nw, .int se, .ref (pa 0), .ref an, .ref ln])), cE x xv]) hD hS hA [0, 1] rfl
  refine va_calli (va_runV (As := [.int 0]) (rest := []) ⟨hx, hb, hml, hown, hts⟩ (c_X3_state_k l D cA H.size o F G lo nw se pa an ln x (y 0) 0 xv (by first | exact he | exact en_flip he | exact en_01 he | exact en_10 he)) (cwV 1 hts gL_isWire_X3_state rfl rfl rfl (by decide +kernel) ⟨Nat.le_of_ble_eq_true rfl, Nat.le_of_ble_eq_true rfl⟩) ⟨zU_blind, va_recv hK hPc (ci := 4) (q0 := 0) rfl rfl, fun U hU hW => ⟨rfl, zU_call hU hPc hW.alike hK hDc⟩⟩ rfl rfl hl.1 rfl (lv_room (Nat.le_of_ble_eq_true rfl)) dL_isWire_29 ⟨(Nat.zero_le _), (Nat.zero_le _)⟩) hS (fun q _ h => hFc q h) hFc (fun zr u t H1 locs ht hvm hw hB hz1 hk1 hS => ?_)
  obtain ⟨hP1, hD1⟩ := hB
  rw [ht] at hP1
  obtain ⟨hP, hD⟩ := va_join (wr := [(x 7, .inl (cA 0, 4, .inl (xd 6))), (x 8, .inl (cA 0, 4, .inl (xd 7))), (x 9, .inr (3, [.ref (x 10), .ref (x 11), .ref (x 12), .ref (x 13), .int (nI xf), .int (nI QX.1)])), (x 10, .inl (cA 0, 12, .inl (xr 0))), (x 11, .inl (cA 0, 12, .inl (xr 1))), (x 12, .inl (cA 0, 12, .inl (xr 2))), (x 13, .inl (cA 0, 48, .inl (xr 3))), cE y yv, (y 7, .inl (cA 0, 4, .inl (yd 6))), (y 8, .inl (cA 0, 4, .inl (yd 7))), (y 9, .inr (3, [.ref (y 10), .ref (y 11), .ref (y 12), .ref (y 13), .int (nI yf), .int (nI QY.1)])), (y 10, .inl (cA 0, 12, .inl (yr 0))), (y 11, .inl (cA 0, 12, .inl (yr 1))), (y 12, .inl (cA 0, 12, .inl (yr 2))), (y 13, .inl (cA 0, 48, .inl (yr 3))), (ln, .inr (0, [.ref vb, .int 0, .int ml, .int (nI ct)])), (vb, .inl (cA 2, nb, .inl gb)), (ca, .inl (cA 0, 3, .inl cc))]) (w1 := [(o, .inr (4, [.ref F, .ref G, .int lo, .int nw, .int se, .ref (pa 0), .ref an, .ref ln])), cE x xv]) hP hD [0, 1] [2, 3, 4, 5, 6, 7, 8, 9, 10, 11, 12, 13, 14, 15, 16, 17, 18, 19] rfl rfl (by decide) (by decide) hk1 hFc hP1 hD1
  generalize H1 = H at hP hS ⊢
  have hP := hP.sub (ws' := [(o, .inr (4, [.ref F, .ref G, .int lo, .int nw, .int se, .ref (pa 0), .ref an, .ref ln])), cE x xv, (x 7, .inl (cA 0, 4, .inl (xd 6))), (x 8, .inl (cA 0, 4, .inl (xd 7))), (x 9, .inr (3, [.ref (x 10), .ref (x 11), .ref (x 12), .ref (x 13), .int (nI xf), .int (nI QX.1)])), (x 10, .inl (cA 0, 12, .inl (xr 0))), (x 11, .inl (cA 0, 12, .inl (xr 1))), (x 12, .inl (cA 0, 12, .inl (xr 2))), (x 13, .inl (cA 0, 48, .inl (xr 3))), cE y yv, (y 7, .inl (cA 0, 4, .inl (yd 6))), (y 8, .inl (cA 0, 4, .inl (yd 7))), (y 9, .inr (3, [.ref (y 10), .ref (y 11), .ref (y 12), .ref (y 13), .int (nI yf), .int (nI QY.1)])), (y 10, .inl (cA 0, 12, .inl (yr 0))), (y 11, .inl (cA 0, 12, .inl (yr 1))), (y 12, .inl (cA 0, 12, .inl (yr 2))), (y 13, .inl (cA 0, 48, .inl (yr 3))), (ln, .inr (0, [.ref vb, .int 0, .int ml, .int (nI ct)])), (vb, .inl (cA 2, nb, .inl gb)), (ca, .inl (cA 0, 3, .inl cc))]) [18, 19, 0, 1, 2, 3, 4, 5, 6, 7, 8, 9, 10, 11, 12, 13, 14, 15, 16, 17] rfl
  have hD := hD.sub (ws' := [(o, .inr (4, [.ref F, .ref G, .int lo, .int nw, .int se, .ref (pa 0), .ref an, .ref ln])), cE x xv, (x 7, .inl (cA 0, 4, .inl (xd 6))), (x 8, .inl (cA 0, 4, .inl (xd 7))), (x 9, .inr (3, [.ref (x 10), .ref (x 11), .ref (x 12), .ref (x 13), .int (nI xf), .int (nI QX.1)])), (x 10, .inl (cA 0, 12, .inl (xr 0))), (x 11, .inl (cA 0, 12, .inl (xr 1))), (x 12, .inl (cA 0, 12, .inl (xr 2))), (x 13, .inl (cA 0, 48, .inl (xr 3))), cE y yv, (y 7, .inl (cA 0, 4, .inl (yd 6))), (y 8, .inl (cA 0, 4, .inl (yd 7))), (y 9, .inr (3, [.ref (y 10), .ref (y 11), .ref (y 12), .ref (y 13), .int (nI yf), .int (nI QY.1)])), (y 10, .inl (cA 0, 12, .inl (yr 0))), (y 11, .inl (cA 0, 12, .inl (yr 1))), (y 12, .inl (cA 0, 12, .inl (yr 2))), (y 13, .inl (cA 0, 48, .inl (yr 3))), (ln, .inr (0, [.ref vb, .int 0, .int ml, .int (nI ct)])), (vb, .inl (cA 2, nb, .inl gb)), (ca, .inl (cA 0, 3, .inl cc))]) [18, 19, 0, 1, 2, 3, 4, 5, 6, 7, 8, 9, 10, 11, 12, 13, 14, 15, 16, 17] (by decide) rfl
  clear hPc hDc hFc hP1 hD1 hk1 hz1
  have hw_5 := hw
  obtain rfl := hw
  refine z_top (y := (nI sx)) hx0 ?_
  refine lv_istore (lv' := [(4, .int (nI sx)), (3, .int 0), (2, .int 1), (0, .ref o), (1, .ref ca)]) hx hb dL_isWire_32 hl (by decide) rfl (fun ls hl => ?_)
  refine lv_iload hx hb dL_isWire_34 (lv_at hl 0 rfl) ?_
  refine lv_if_lt (tgt := 130) hx hb dL_isWire_36 (by decide) (fun c_6 => ?_) (fun c_6 => ?_)
  · have c_6 := (nI_ltI (a := sx) (b := 0) (by omega) (by omega)).mp c_6
    omega
  · have c_6 := mt (nI_ltI (a := sx) (b := 0) (by omega) (by omega)).mpr c_6
    refine lv_iload hx hb dL_isWire_39 (lv_at hl 0 rfl) ?_
    refine lv_bipush (v := 7) hx hb dL_isWire_41 (by decide) ?_
    refine lv_icmp_gt (tgt := 130) hx hb dL_isWire_43 (by decide) (fun c_7 => ?_) (fun c_7 => ?_)
    · have c_7 := (nI_ltI (a := 7) (b := sx) (by omega) (by omega)).mp c_7
      omega
    · have c_7 := mt (nI_ltI (a := 7) (b := sx) (by omega) (by omega)).mpr c_7
      refine lv_aload_n hx hb dL_isWire_46 rfl (lv_at hl 3 rfl) ?_
      refine lv_iload_n hx hb dL_isWire_47 rfl (lv_at hl 1 rfl) ?_
      have hPc := hP.sub (ws' := [(o, .inr (4, [.ref F, .ref G, .int lo, .int nw, .int se, .ref (pa 0), .ref an, .ref ln])), cE x xv]) [0, 1] rfl
      have hDc := hD.sub (ws' := [(o, .inr (4, [.ref F, .ref G, .int lo, .int nw, .int se, .ref (pa 0), .ref an, .ref ln])), cE x xv]) [0, 1] (by decide) rfl
      have hFc := va_free (wc := [(o, .inr (4, [.ref F, .ref G, .int lo, .int nw, .int se, .ref (pa 0), .ref an, .ref ln])), cE x xv]) hD hS hA [0, 1] rfl
      refine va_calli (va_runV (As := [.int 0]) (rest := []) ⟨hx, hb, hml, hown, hts⟩ (c_X3_tries_k l D cA H.size o F G lo nw se pa an ln x (y 0) 0 xv (by first | exact he | exact en_flip he | exact en_01 he | exact en_10 he)) (cwV 1 hts gL_isWire_X3_tries rfl rfl rfl (by decide +kernel) ⟨Nat.le_of_ble_eq_true rfl, Nat.le_of_ble_eq_true rfl⟩) ⟨zU_blind, va_recv hK hPc (ci := 4) (q0 := 0) rfl rfl, fun U hU hW => ⟨rfl, zU_call hU hPc hW.alike hK hDc⟩⟩ rfl rfl hl.1 rfl (lv_room (Nat.le_of_ble_eq_true rfl)) dL_isWire_48 ⟨(Nat.zero_le _), (Nat.zero_le _)⟩) hS (fun q _ h => hFc q h) hFc (fun zr u t H1 locs ht hvm hw hB hz1 hk1 hS => ?_)
      obtain ⟨hP1, hD1⟩ := hB
      rw [ht] at hP1
      obtain ⟨hP, hD⟩ := va_join (wr := [(x 7, .inl (cA 0, 4, .inl (xd 6))), (x 8, .inl (cA 0, 4, .inl (xd 7))), (x 9, .inr (3, [.ref (x 10), .ref (x 11), .ref (x 12), .ref (x 13), .int (nI xf), .int (nI QX.1)])), (x 10, .inl (cA 0, 12, .inl (xr 0))), (x 11, .inl (cA 0, 12, .inl (xr 1))), (x 12, .inl (cA 0, 12, .inl (xr 2))), (x 13, .inl (cA 0, 48, .inl (xr 3))), cE y yv, (y 7, .inl (cA 0, 4, .inl (yd 6))), (y 8, .inl (cA 0, 4, .inl (yd 7))), (y 9, .inr (3, [.ref (y 10), .ref (y 11), .ref (y 12), .ref (y 13), .int (nI yf), .int (nI QY.1)])), (y 10, .inl (cA 0, 12, .inl (yr 0))), (y 11, .inl (cA 0, 12, .inl (yr 1))), (y 12, .inl (cA 0, 12, .inl (yr 2))), (y 13, .inl (cA 0, 48, .inl (yr 3))), (ln, .inr (0, [.ref vb, .int 0, .int ml, .int (nI ct)])), (vb, .inl (cA 2, nb, .inl gb)), (ca, .inl (cA 0, 3, .inl cc))]) (w1 := [(o, .inr (4, [.ref F, .ref G, .int lo, .int nw, .int se, .ref (pa 0), .ref an, .ref ln])), cE x xv]) hP hD [0, 1] [2, 3, 4, 5, 6, 7, 8, 9, 10, 11, 12, 13, 14, 15, 16, 17, 18, 19] rfl rfl (by decide) (by decide) hk1 hFc hP1 hD1
      generalize H1 = H at hP hS ⊢
      have hP := hP.sub (ws' := [(o, .inr (4, [.ref F, .ref G, .int lo, .int nw, .int se, .ref (pa 0), .ref an, .ref ln])), cE x xv, (x 7, .inl (cA 0, 4, .inl (xd 6))), (x 8, .inl (cA 0, 4, .inl (xd 7))), (x 9, .inr (3, [.ref (x 10), .ref (x 11), .ref (x 12), .ref (x 13), .int (nI xf), .int (nI QX.1)])), (x 10, .inl (cA 0, 12, .inl (xr 0))), (x 11, .inl (cA 0, 12, .inl (xr 1))), (x 12, .inl (cA 0, 12, .inl (xr 2))), (x 13, .inl (cA 0, 48, .inl (xr 3))), cE y yv, (y 7, .inl (cA 0, 4, .inl (yd 6))), (y 8, .inl (cA 0, 4, .inl (yd 7))), (y 9, .inr (3, [.ref (y 10), .ref (y 11), .ref (y 12), .ref (y 13), .int (nI yf), .int (nI QY.1)])), (y 10, .inl (cA 0, 12, .inl (yr 0))), (y 11, .inl (cA 0, 12, .inl (yr 1))), (y 12, .inl (cA 0, 12, .inl (yr 2))), (y 13, .inl (cA 0, 48, .inl (yr 3))), (ln, .inr (0, [.ref vb, .int 0, .int ml, .int (nI ct)])), (vb, .inl (cA 2, nb, .inl gb)), (ca, .inl (cA 0, 3, .inl cc))]) [18, 19, 0, 1, 2, 3, 4, 5, 6, 7, 8, 9, 10, 11, 12, 13, 14, 15, 16, 17] rfl
      have hD := hD.sub (ws' := [(o, .inr (4, [.ref F, .ref G, .int lo, .int nw, .int se, .ref (pa 0), .ref an, .ref ln])), cE x xv, (x 7, .inl (cA 0, 4, .inl (xd 6))), (x 8, .inl (cA 0, 4, .inl (xd 7))), (x 9, .inr (3, [.ref (x 10), .ref (x 11), .ref (x 12), .ref (x 13), .int (nI xf), .int (nI QX.1)])), (x 10, .inl (cA 0, 12, .inl (xr 0))), (x 11, .inl (cA 0, 12, .inl (xr 1))), (x 12, .inl (cA 0, 12, .inl (xr 2))), (x 13, .inl (cA 0, 48, .inl (xr 3))), cE y yv, (y 7, .inl (cA 0, 4, .inl (yd 6))), (y 8, .inl (cA 0, 4, .inl (yd 7))), (y 9, .inr (3, [.ref (y 10), .ref (y 11), .ref (y 12), .ref (y 13), .int (nI yf), .int (nI QY.1)])), (y 10, .inl (cA 0, 12, .inl (yr 0))), (y 11, .inl (cA 0, 12, .inl (yr 1))), (y 12, .inl (cA 0, 12, .inl (yr 2))), (y 13, .inl (cA 0, 48, .inl (yr 3))), (ln, .inr (0, [.ref vb, .int 0, .int ml, .int (nI ct)])), (vb, .inl (cA 2, nb, .inl gb)), (ca, .inl (cA 0, 3, .inl cc))]) [18, 19, 0, 1, 2, 3, 4, 5, 6, 7, 8, 9, 10, 11, 12, 13, 14, 15, 16, 17] (by decide) rfl
      clear hPc hDc hFc hP1 hD1 hk1 hz1
      have hw_8 := hw
      obtain rfl := hw
      refine z_top (y := (nI tx)) hx3 ?_
      refine lv_if_lt (tgt := 130) hx hb dL_isWire_51 (by decide) (fun c_9 => ?_) (fun c_9 => ?_)
      · have c_9 := (nI_ltI (a := tx) (b := 0) (by omega) (by omega)).mp c_9
        omega
      · have c_9 := mt (nI_ltI (a := tx) (b := 0) (by omega) (by omega)).mpr c_9
        refine lv_aload_n hx hb dL_isWire_54 rfl (lv_at hl 3 rfl) ?_
        refine lv_iload_n hx hb dL_isWire_55 rfl (lv_at hl 1 rfl) ?_
        have hPc := hP.sub (ws' := [(o, .inr (4, [.ref F, .ref G, .int lo, .int nw, .int se, .ref (pa 0), .ref an, .ref ln])), cE x xv]) [0, 1] rfl
        have hDc := hD.sub (ws' := [(o, .inr (4, [.ref F, .ref G, .int lo, .int nw, .int se, .ref (pa 0), .ref an, .ref ln])), cE x xv]) [0, 1] (by decide) rfl
        have hFc := va_free (wc := [(o, .inr (4, [.ref F, .ref G, .int lo, .int nw, .int se, .ref (pa 0), .ref an, .ref ln])), cE x xv]) hD hS hA [0, 1] rfl
        refine va_calli (va_runV (As := [.int 0]) (rest := []) ⟨hx, hb, hml, hown, hts⟩ (c_X3_tries_k l D cA H.size o F G lo nw se pa an ln x (y 0) 0 xv (by first | exact he | exact en_flip he | exact en_01 he | exact en_10 he)) (cwV 1 hts gL_isWire_X3_tries rfl rfl rfl (by decide +kernel) ⟨Nat.le_of_ble_eq_true rfl, Nat.le_of_ble_eq_true rfl⟩) ⟨zU_blind, va_recv hK hPc (ci := 4) (q0 := 0) rfl rfl, fun U hU hW => ⟨rfl, zU_call hU hPc hW.alike hK hDc⟩⟩ rfl rfl hl.1 rfl (lv_room (Nat.le_of_ble_eq_true rfl)) dL_isWire_56 ⟨(Nat.zero_le _), (Nat.zero_le _)⟩) hS (fun q _ h => hFc q h) hFc (fun zr u t H1 locs ht hvm hw hB hz1 hk1 hS => ?_)
        obtain ⟨hP1, hD1⟩ := hB
        rw [ht] at hP1
        obtain ⟨hP, hD⟩ := va_join (wr := [(x 7, .inl (cA 0, 4, .inl (xd 6))), (x 8, .inl (cA 0, 4, .inl (xd 7))), (x 9, .inr (3, [.ref (x 10), .ref (x 11), .ref (x 12), .ref (x 13), .int (nI xf), .int (nI QX.1)])), (x 10, .inl (cA 0, 12, .inl (xr 0))), (x 11, .inl (cA 0, 12, .inl (xr 1))), (x 12, .inl (cA 0, 12, .inl (xr 2))), (x 13, .inl (cA 0, 48, .inl (xr 3))), cE y yv, (y 7, .inl (cA 0, 4, .inl (yd 6))), (y 8, .inl (cA 0, 4, .inl (yd 7))), (y 9, .inr (3, [.ref (y 10), .ref (y 11), .ref (y 12), .ref (y 13), .int (nI yf), .int (nI QY.1)])), (y 10, .inl (cA 0, 12, .inl (yr 0))), (y 11, .inl (cA 0, 12, .inl (yr 1))), (y 12, .inl (cA 0, 12, .inl (yr 2))), (y 13, .inl (cA 0, 48, .inl (yr 3))), (ln, .inr (0, [.ref vb, .int 0, .int ml, .int (nI ct)])), (vb, .inl (cA 2, nb, .inl gb)), (ca, .inl (cA 0, 3, .inl cc))]) (w1 := [(o, .inr (4, [.ref F, .ref G, .int lo, .int nw, .int se, .ref (pa 0), .ref an, .ref ln])), cE x xv]) hP hD [0, 1] [2, 3, 4, 5, 6, 7, 8, 9, 10, 11, 12, 13, 14, 15, 16, 17, 18, 19] rfl rfl (by decide) (by decide) hk1 hFc hP1 hD1
        generalize H1 = H at hP hS ⊢
        have hP := hP.sub (ws' := [(o, .inr (4, [.ref F, .ref G, .int lo, .int nw, .int se, .ref (pa 0), .ref an, .ref ln])), cE x xv, (x 7, .inl (cA 0, 4, .inl (xd 6))), (x 8, .inl (cA 0, 4, .inl (xd 7))), (x 9, .inr (3, [.ref (x 10), .ref (x 11), .ref (x 12), .ref (x 13), .int (nI xf), .int (nI QX.1)])), (x 10, .inl (cA 0, 12, .inl (xr 0))), (x 11, .inl (cA 0, 12, .inl (xr 1))), (x 12, .inl (cA 0, 12, .inl (xr 2))), (x 13, .inl (cA 0, 48, .inl (xr 3))), cE y yv, (y 7, .inl (cA 0, 4, .inl (yd 6))), (y 8, .inl (cA 0, 4, .inl (yd 7))), (y 9, .inr (3, [.ref (y 10), .ref (y 11), .ref (y 12), .ref (y 13), .int (nI yf), .int (nI QY.1)])), (y 10, .inl (cA 0, 12, .inl (yr 0))), (y 11, .inl (cA 0, 12, .inl (yr 1))), (y 12, .inl (cA 0, 12, .inl (yr 2))), (y 13, .inl (cA 0, 48, .inl (yr 3))), (ln, .inr (0, [.ref vb, .int 0, .int ml, .int (nI ct)])), (vb, .inl (cA 2, nb, .inl gb)), (ca, .inl (cA 0, 3, .inl cc))]) [18, 19, 0, 1, 2, 3, 4, 5, 6, 7, 8, 9, 10, 11, 12, 13, 14, 15, 16, 17] rfl
        have hD := hD.sub (ws' := [(o, .inr (4, [.ref F, .ref G, .int lo, .int nw, .int se, .ref (pa 0), .ref an, .ref ln])), cE x xv, (x 7, .inl (cA 0, 4, .inl (xd 6))), (x 8, .inl (cA 0, 4, .inl (xd 7))), (x 9, .inr (3, [.ref (x 10), .ref (x 11), .ref (x 12), .ref (x 13), .int (nI xf), .int (nI QX.1)])), (x 10, .inl (cA 0, 12, .inl (xr 0))), (x 11, .inl (cA 0, 12, .inl (xr 1))), (x 12, .inl (cA 0, 12, .inl (xr 2))), (x 13, .inl (cA 0, 48, .inl (xr 3))), cE y yv, (y 7, .inl (cA 0, 4, .inl (yd 6))), (y 8, .inl (cA 0, 4, .inl (yd 7))), (y 9, .inr (3, [.ref (y 10), .ref (y 11), .ref (y 12), .ref (y 13), .int (nI yf), .int (nI QY.1)])), (y 10, .inl (cA 0, 12, .inl (yr 0))), (y 11, .inl (cA 0, 12, .inl (yr 1))), (y 12, .inl (cA 0, 12, .inl (yr 2))), (y 13, .inl (cA 0, 48, .inl (yr 3))), (ln, .inr (0, [.ref vb, .int 0, .int ml, .int (nI ct)])), (vb, .inl (cA 2, nb, .inl gb)), (ca, .inl (cA 0, 3, .inl cc))]) [18, 19, 0, 1, 2, 3, 4, 5, 6, 7, 8, 9, 10, 11, 12, 13, 14, 15, 16, 17] (by decide) rfl
        clear hPc hDc hFc hP1 hD1 hk1 hz1
        have hw_10 := hw
        obtain rfl := hw
        refine z_top (y := (nI tx)) hx3 ?_
        refine lv_bipush (v := 10) hx hb dL_isWire_59 (by decide) ?_
        refine lv_icmp_gt (tgt := 130) hx hb dL_isWire_61 (by decide) (fun c_11 => ?_) (fun c_11 => ?_)
        · have c_11 := (nI_ltI (a := 10) (b := tx) (by omega) (by omega)).mp c_11
          omega
        · have c_11 := mt (nI_ltI (a := 10) (b := tx) (by omega) (by omega)).mpr c_11
          refine lv_aload_n hx hb dL_isWire_64 rfl (lv_at hl 3 rfl) ?_
          refine lv_iload_n hx hb dL_isWire_65 rfl (lv_at hl 1 rfl) ?_
          have hPc := hP.sub (ws' := [(o, .inr (4, [.ref F, .ref G, .int lo, .int nw, .int se, .ref (pa 0), .ref an, .ref ln])), cE x xv, (x 9, .inr (3, [.ref (x 10), .ref (x 11), .ref (x 12), .ref (x 13), .int (nI xf), .int (nI QX.1)]))]) [0, 1, 4] rfl
          have hDc := hD.sub (ws' := [(o, .inr (4, [.ref F, .ref G, .int lo, .int nw, .int se, .ref (pa 0), .ref an, .ref ln])), cE x xv, (x 9, .inr (3, [.ref (x 10), .ref (x 11), .ref (x 12), .ref (x 13), .int (nI xf), .int (nI QX.1)]))]) [0, 1, 4] (by decide) rfl
          have hFc := va_free (wc := [(o, .inr (4, [.ref F, .ref G, .int lo, .int nw, .int se, .ref (pa 0), .ref an, .ref ln])), cE x xv, (x 9, .inr (3, [.ref (x 10), .ref (x 11), .ref (x 12), .ref (x 13), .int (nI xf), .int (nI QX.1)]))]) hD hS hA [0, 1, 4] rfl
          refine va_calli (va_runV (As := [.int 0]) (rest := []) ⟨hx, hb, hml, hown, hts⟩ (c_X3_waiting_k l D cA H.size o F G lo nw se pa an ln x (y 0) 0 xv xf QX (by first | exact he | exact en_flip he | exact en_01 he | exact en_10 he)) (cwV 1 hts gL_isWire_X3_waiting rfl rfl rfl (by decide +kernel) ⟨Nat.le_of_ble_eq_true rfl, Nat.le_of_ble_eq_true rfl⟩) ⟨zU_blind, va_recv hK hPc (ci := 4) (q0 := 0) rfl rfl, fun U hU hW => ⟨rfl, zU_call hU hPc hW.alike hK hDc⟩⟩ rfl rfl hl.1 rfl (lv_room (Nat.le_of_ble_eq_true rfl)) dL_isWire_66 ⟨(Nat.zero_le _), (Nat.zero_le _)⟩) hS (fun q _ h => hFc q h) hFc (fun zr u t H1 locs ht hvm hw hB hz1 hk1 hS => ?_)
          obtain ⟨hP1, hD1⟩ := hB
          rw [ht] at hP1
          obtain ⟨hP, hD⟩ := va_join (wr := [(x 7, .inl (cA 0, 4, .inl (xd 6))), (x 8, .inl (cA 0, 4, .inl (xd 7))), (x 10, .inl (cA 0, 12, .inl (xr 0))), (x 11, .inl (cA 0, 12, .inl (xr 1))), (x 12, .inl (cA 0, 12, .inl (xr 2))), (x 13, .inl (cA 0, 48, .inl (xr 3))), cE y yv, (y 7, .inl (cA 0, 4, .inl (yd 6))), (y 8, .inl (cA 0, 4, .inl (yd 7))), (y 9, .inr (3, [.ref (y 10), .ref (y 11), .ref (y 12), .ref (y 13), .int (nI yf), .int (nI QY.1)])), (y 10, .inl (cA 0, 12, .inl (yr 0))), (y 11, .inl (cA 0, 12, .inl (yr 1))), (y 12, .inl (cA 0, 12, .inl (yr 2))), (y 13, .inl (cA 0, 48, .inl (yr 3))), (ln, .inr (0, [.ref vb, .int 0, .int ml, .int (nI ct)])), (vb, .inl (cA 2, nb, .inl gb)), (ca, .inl (cA 0, 3, .inl cc))]) (w1 := [(o, .inr (4, [.ref F, .ref G, .int lo, .int nw, .int se, .ref (pa 0), .ref an, .ref ln])), cE x xv, (x 9, .inr (3, [.ref (x 10), .ref (x 11), .ref (x 12), .ref (x 13), .int (nI xf), .int (nI QX.1)]))]) hP hD [0, 1, 4] [2, 3, 5, 6, 7, 8, 9, 10, 11, 12, 13, 14, 15, 16, 17, 18, 19] rfl rfl (by decide) (by decide) hk1 hFc hP1 hD1
          generalize H1 = H at hP hS ⊢
          have hP := hP.sub (ws' := [(o, .inr (4, [.ref F, .ref G, .int lo, .int nw, .int se, .ref (pa 0), .ref an, .ref ln])), cE x xv, (x 7, .inl (cA 0, 4, .inl (xd 6))), (x 8, .inl (cA 0, 4, .inl (xd 7))), (x 9, .inr (3, [.ref (x 10), .ref (x 11), .ref (x 12), .ref (x 13), .int (nI xf), .int (nI QX.1)])), (x 10, .inl (cA 0, 12, .inl (xr 0))), (x 11, .inl (cA 0, 12, .inl (xr 1))), (x 12, .inl (cA 0, 12, .inl (xr 2))), (x 13, .inl (cA 0, 48, .inl (xr 3))), cE y yv, (y 7, .inl (cA 0, 4, .inl (yd 6))), (y 8, .inl (cA 0, 4, .inl (yd 7))), (y 9, .inr (3, [.ref (y 10), .ref (y 11), .ref (y 12), .ref (y 13), .int (nI yf), .int (nI QY.1)])), (y 10, .inl (cA 0, 12, .inl (yr 0))), (y 11, .inl (cA 0, 12, .inl (yr 1))), (y 12, .inl (cA 0, 12, .inl (yr 2))), (y 13, .inl (cA 0, 48, .inl (yr 3))), (ln, .inr (0, [.ref vb, .int 0, .int ml, .int (nI ct)])), (vb, .inl (cA 2, nb, .inl gb)), (ca, .inl (cA 0, 3, .inl cc))]) [17, 18, 0, 1, 19, 2, 3, 4, 5, 6, 7, 8, 9, 10, 11, 12, 13, 14, 15, 16] rfl
          have hD := hD.sub (ws' := [(o, .inr (4, [.ref F, .ref G, .int lo, .int nw, .int se, .ref (pa 0), .ref an, .ref ln])), cE x xv, (x 7, .inl (cA 0, 4, .inl (xd 6))), (x 8, .inl (cA 0, 4, .inl (xd 7))), (x 9, .inr (3, [.ref (x 10), .ref (x 11), .ref (x 12), .ref (x 13), .int (nI xf), .int (nI QX.1)])), (x 10, .inl (cA 0, 12, .inl (xr 0))), (x 11, .inl (cA 0, 12, .inl (xr 1))), (x 12, .inl (cA 0, 12, .inl (xr 2))), (x 13, .inl (cA 0, 48, .inl (xr 3))), cE y yv, (y 7, .inl (cA 0, 4, .inl (yd 6))), (y 8, .inl (cA 0, 4, .inl (yd 7))), (y 9, .inr (3, [.ref (y 10), .ref (y 11), .ref (y 12), .ref (y 13), .int (nI yf), .int (nI QY.1)])), (y 10, .inl (cA 0, 12, .inl (yr 0))), (y 11, .inl (cA 0, 12, .inl (yr 1))), (y 12, .inl (cA 0, 12, .inl (yr 2))), (y 13, .inl (cA 0, 48, .inl (yr 3))), (ln, .inr (0, [.ref vb, .int 0, .int ml, .int (nI ct)])), (vb, .inl (cA 2, nb, .inl gb)), (ca, .inl (cA 0, 3, .inl cc))]) [17, 18, 0, 1, 19, 2, 3, 4, 5, 6, 7, 8, 9, 10, 11, 12, 13, 14, 15, 16] (by decide) rfl
          clear hPc hDc hFc hP1 hD1 hk1 hz1
          have hw_12 := hw
          obtain rfl := hw
          refine lv_if_lt (tgt := 130) hx hb dL_isWire_69 (by decide) (fun c_13 => ?_) (fun c_13 => ?_)
          · have c_13 := (nI_ltI (a := QX.1) (b := 0) (by omega) (by omega)).mp c_13
            omega
          · have c_13 := mt (nI_ltI (a := QX.1) (b := 0) (by omega) (by omega)).mpr c_13
            refine lv_aload_n hx hb dL_isWire_72 rfl (lv_at hl 3 rfl) ?_
            refine lv_iload_n hx hb dL_isWire_73 rfl (lv_at hl 1 rfl) ?_
            have hPc := hP.sub (ws' := [(o, .inr (4, [.ref F, .ref G, .int lo, .int nw, .int se, .ref (pa 0), .ref an, .ref ln])), cE x xv, (x 9, .inr (3, [.ref (x 10), .ref (x 11), .ref (x 12), .ref (x 13), .int (nI xf), .int (nI QX.1)]))]) [0, 1, 4] rfl
            have hDc := hD.sub (ws' := [(o, .inr (4, [.ref F, .ref G, .int lo, .int nw, .int se, .ref (pa 0), .ref an, .ref ln])), cE x xv, (x 9, .inr (3, [.ref (x 10), .ref (x 11), .ref (x 12), .ref (x 13), .int (nI xf), .int (nI QX.1)]))]) [0, 1, 4] (by decide) rfl
            have hFc := va_free (wc := [(o, .inr (4, [.ref F, .ref G, .int lo, .int nw, .int se, .ref (pa 0), .ref an, .ref ln])), cE x xv, (x 9, .inr (3, [.ref (x 10), .ref (x 11), .ref (x 12), .ref (x 13), .int (nI xf), .int (nI QX.1)]))]) hD hS hA [0, 1, 4] rfl
            refine va_calli (va_runV (As := [.int 0]) (rest := []) ⟨hx, hb, hml, hown, hts⟩ (c_X3_waiting_k l D cA H.size o F G lo nw se pa an ln x (y 0) 0 xv xf QX (by first | exact he | exact en_flip he | exact en_01 he | exact en_10 he)) (cwV 1 hts gL_isWire_X3_waiting rfl rfl rfl (by decide +kernel) ⟨Nat.le_of_ble_eq_true rfl, Nat.le_of_ble_eq_true rfl⟩) ⟨zU_blind, va_recv hK hPc (ci := 4) (q0 := 0) rfl rfl, fun U hU hW => ⟨rfl, zU_call hU hPc hW.alike hK hDc⟩⟩ rfl rfl hl.1 rfl (lv_room (Nat.le_of_ble_eq_true rfl)) dL_isWire_74 ⟨(Nat.zero_le _), (Nat.zero_le _)⟩) hS (fun q _ h => hFc q h) hFc (fun zr u t H1 locs ht hvm hw hB hz1 hk1 hS => ?_)
            obtain ⟨hP1, hD1⟩ := hB
            rw [ht] at hP1
            obtain ⟨hP, hD⟩ := va_join (wr := [(x 7, .inl (cA 0, 4, .inl (xd 6))), (x 8, .inl (cA 0, 4, .inl (xd 7))), (x 10, .inl (cA 0, 12, .inl (xr 0))), (x 11, .inl (cA 0, 12, .inl (xr 1))), (x 12, .inl (cA 0, 12, .inl (xr 2))), (x 13, .inl (cA 0, 48, .inl (xr 3))), cE y yv, (y 7, .inl (cA 0, 4, .inl (yd 6))), (y 8, .inl (cA 0, 4, .inl (yd 7))), (y 9, .inr (3, [.ref (y 10), .ref (y 11), .ref (y 12), .ref (y 13), .int (nI yf), .int (nI QY.1)])), (y 10, .inl (cA 0, 12, .inl (yr 0))), (y 11, .inl (cA 0, 12, .inl (yr 1))), (y 12, .inl (cA 0, 12, .inl (yr 2))), (y 13, .inl (cA 0, 48, .inl (yr 3))), (ln, .inr (0, [.ref vb, .int 0, .int ml, .int (nI ct)])), (vb, .inl (cA 2, nb, .inl gb)), (ca, .inl (cA 0, 3, .inl cc))]) (w1 := [(o, .inr (4, [.ref F, .ref G, .int lo, .int nw, .int se, .ref (pa 0), .ref an, .ref ln])), cE x xv, (x 9, .inr (3, [.ref (x 10), .ref (x 11), .ref (x 12), .ref (x 13), .int (nI xf), .int (nI QX.1)]))]) hP hD [0, 1, 4] [2, 3, 5, 6, 7, 8, 9, 10, 11, 12, 13, 14, 15, 16, 17, 18, 19] rfl rfl (by decide) (by decide) hk1 hFc hP1 hD1
            generalize H1 = H at hP hS ⊢
            have hP := hP.sub (ws' := [(o, .inr (4, [.ref F, .ref G, .int lo, .int nw, .int se, .ref (pa 0), .ref an, .ref ln])), cE x xv, (x 7, .inl (cA 0, 4, .inl (xd 6))), (x 8, .inl (cA 0, 4, .inl (xd 7))), (x 9, .inr (3, [.ref (x 10), .ref (x 11), .ref (x 12), .ref (x 13), .int (nI xf), .int (nI QX.1)])), (x 10, .inl (cA 0, 12, .inl (xr 0))), (x 11, .inl (cA 0, 12, .inl (xr 1))), (x 12, .inl (cA 0, 12, .inl (xr 2))), (x 13, .inl (cA 0, 48, .inl (xr 3))), cE y yv, (y 7, .inl (cA 0, 4, .inl (yd 6))), (y 8, .inl (cA 0, 4, .inl (yd 7))), (y 9, .inr (3, [.ref (y 10), .ref (y 11), .ref (y 12), .ref (y 13), .int (nI yf), .int (nI QY.1)])), (y 10, .inl (cA 0, 12, .inl (yr 0))), (y 11, .inl (cA 0, 12, .inl (yr 1))), (y 12, .inl (cA 0, 12, .inl (yr 2))), (y 13, .inl (cA 0, 48, .inl (yr 3))), (ln, .inr (0, [.ref vb, .int 0, .int ml, .int (nI ct)])), (vb, .inl (cA 2, nb, .inl gb)), (ca, .inl (cA 0, 3, .inl cc))]) [17, 18, 0, 1, 19, 2, 3, 4, 5, 6, 7, 8, 9, 10, 11, 12, 13, 14, 15, 16] rfl
            have hD := hD.sub (ws' := [(o, .inr (4, [.ref F, .ref G, .int lo, .int nw, .int se, .ref (pa 0), .ref an, .ref ln])), cE x xv, (x 7, .inl (cA 0, 4, .inl (xd 6))), (x 8, .inl (cA 0, 4, .inl (xd 7))), (x 9, .inr (3, [.ref (x 10), .ref (x 11), .ref (x 12), .ref (x 13), .int (nI xf), .int (nI QX.1)])), (x 10, .inl (cA 0, 12, .inl (xr 0))), (x 11, .inl (cA 0, 12, .inl (xr 1))), (x 12, .inl (cA 0, 12, .inl (xr 2))), (x 13, .inl (cA 0, 48, .inl (xr 3))), cE y yv, (y 7, .inl (cA 0, 4, .inl (yd 6))), (y 8, .inl (cA 0, 4, .inl (yd 7))), (y 9, .inr (3, [.ref (y 10), .ref (y 11), .ref (y 12), .ref (y 13), .int (nI yf), .int (nI QY.1)])), (y 10, .inl (cA 0, 12, .inl (yr 0))), (y 11, .inl (cA 0, 12, .inl (yr 1))), (y 12, .inl (cA 0, 12, .inl (yr 2))), (y 13, .inl (cA 0, 48, .inl (yr 3))), (ln, .inr (0, [.ref vb, .int 0, .int ml, .int (nI ct)])), (vb, .inl (cA 2, nb, .inl gb)), (ca, .inl (cA 0, 3, .inl cc))]) [17, 18, 0, 1, 19, 2, 3, 4, 5, 6, 7, 8, 9, 10, 11, 12, 13, 14, 15, 16] (by decide) rfl
            clear hPc hDc hFc hP1 hD1 hk1 hz1
            have hw_14 := hw
            obtain rfl := hw
            refine lv_bipush (v := 12) hx hb dL_isWire_77 (by decide) ?_
            refine lv_icmp_gt (tgt := 130) hx hb dL_isWire_79 (by decide) (fun c_15 => ?_) (fun c_15 => ?_)
            · have c_15 := (nI_ltI (a := 12) (b := QX.1) (by omega) (by omega)).mp c_15
              omega
            · have c_15 := mt (nI_ltI (a := 12) (b := QX.1) (by omega) (by omega)).mpr c_15
              refine lv_aload_n hx hb dL_isWire_82 rfl (lv_at hl 3 rfl) ?_
              refine lv_iload_n hx hb dL_isWire_83 rfl (lv_at hl 1 rfl) ?_
              have hPc := hP.sub (ws' := [(o, .inr (4, [.ref F, .ref G, .int lo, .int nw, .int se, .ref (pa 0), .ref an, .ref ln])), cE x xv, (x 7, .inl (cA 0, 4, .inl (xd 6))), (ln, .inr (0, [.ref vb, .int 0, .int ml, .int (nI ct)])), (vb, .inl (cA 2, nb, .inl gb))]) [0, 1, 2, 17, 18] rfl
              have hDc := hD.sub (ws' := [(o, .inr (4, [.ref F, .ref G, .int lo, .int nw, .int se, .ref (pa 0), .ref an, .ref ln])), cE x xv, (x 7, .inl (cA 0, 4, .inl (xd 6))), (ln, .inr (0, [.ref vb, .int 0, .int ml, .int (nI ct)])), (vb, .inl (cA 2, nb, .inl gb))]) [0, 1, 2, 17, 18] (by decide) rfl
              have hFc := va_free (wc := [(o, .inr (4, [.ref F, .ref G, .int lo, .int nw, .int se, .ref (pa 0), .ref an, .ref ln])), cE x xv, (x 7, .inl (cA 0, 4, .inl (xd 6))), (ln, .inr (0, [.ref vb, .int 0, .int ml, .int (nI ct)])), (vb, .inl (cA 2, nb, .inl gb))]) hD hS hA [0, 1, 2, 17, 18] rfl
              refine va_calli (va_runS (As := [.ref o, .int 0]) (rest := []) ⟨hx, hb, hml, hown, hts⟩ (c_L_isLine l D cA zv H.size o F G lo nw se pa an ln x (y 0) 0 xv sx vb nb ct ml (xd 6) gb (by first | exact he | exact en_flip he | exact en_01 he | exact en_10 he) (by omega) hx0 (fun j hj => (hI.2.1.1.1 j hj).2.1) hn hct hfb) (va_cwS 2 hts gL_isWire_L_isLine rfl rfl rfl (by decide +kernel) ⟨Nat.le_of_ble_eq_true rfl, Nat.le_of_ble_eq_true rfl⟩) ⟨zUX_blind, fun U hU hW => ⟨rfl, zUX_call hE0 hX0 hS hFc hU hPc hW hK hDc⟩⟩ rfl rfl hl.1 rfl (lv_room (Nat.le_of_ble_eq_true rfl)) dL_isWire_84 ⟨Nat.le_of_ble_eq_true rfl, Nat.le_of_ble_eq_true rfl⟩) hS (fun q _ h => hFc q h) hFc (fun zr u t H1 locs ht hvm hw hB hz1 hk1 hS => ?_)
              obtain ⟨vb'_16, ml'_16, nb'_16, g'_16⟩ := u
              obtain ⟨hP1, hD1⟩ := hB
              rw [ht] at hP1
              try dsimp only at hw hP1 hD1
              obtain ⟨hP, hD⟩ := va_join (wr := [(x 8, .inl (cA 0, 4, .inl (xd 7))), (x 9, .inr (3, [.ref (x 10), .ref (x 11), .ref (x 12), .ref (x 13), .int (nI xf), .int (nI QX.1)])), (x 10, .inl (cA 0, 12, .inl (xr 0))), (x 11, .inl (cA 0, 12, .inl (xr 1))), (x 12, .inl (cA 0, 12, .inl (xr 2))), (x 13, .inl (cA 0, 48, .inl (xr 3))), cE y yv, (y 7, .inl (cA 0, 4, .inl (yd 6))), (y 8, .inl (cA 0, 4, .inl (yd 7))), (y 9, .inr (3, [.ref (y 10), .ref (y 11), .ref (y 12), .ref (y 13), .int (nI yf), .int (nI QY.1)])), (y 10, .inl (cA 0, 12, .inl (yr 0))), (y 11, .inl (cA 0, 12, .inl (yr 1))), (y 12, .inl (cA 0, 12, .inl (yr 2))), (y 13, .inl (cA 0, 48, .inl (yr 3))), (ca, .inl (cA 0, 3, .inl cc))]) (w1 := [(o, .inr (4, [.ref F, .ref G, .int lo, .int nw, .int se, .ref (pa 0), .ref an, .ref ln])), cE x xv, (x 7, .inl (cA 0, 4, .inl (xd 6))), (ln, .inr (0, [.ref vb'_16, .int 0, .int ml'_16, .int (nI ((lnT sx (xd 6) 4).length))])), (vb'_16, .inl (cA 2, nb'_16, .inl g'_16))]) hP hD [0, 1, 2, 17, 18] [3, 4, 5, 6, 7, 8, 9, 10, 11, 12, 13, 14, 15, 16, 19] rfl rfl (by decide) (by decide) hk1 hFc hP1 hD1
              generalize H1 = H at hP hS ⊢
              have hP := hP.sub (ws' := [(o, .inr (4, [.ref F, .ref G, .int lo, .int nw, .int se, .ref (pa 0), .ref an, .ref ln])), cE x xv, (x 7, .inl (cA 0, 4, .inl (xd 6))), (x 8, .inl (cA 0, 4, .inl (xd 7))), (x 9, .inr (3, [.ref (x 10), .ref (x 11), .ref (x 12), .ref (x 13), .int (nI xf), .int (nI QX.1)])), (x 10, .inl (cA 0, 12, .inl (xr 0))), (x 11, .inl (cA 0, 12, .inl (xr 1))), (x 12, .inl (cA 0, 12, .inl (xr 2))), (x 13, .inl (cA 0, 48, .inl (xr 3))), cE y yv, (y 7, .inl (cA 0, 4, .inl (yd 6))), (y 8, .inl (cA 0, 4, .inl (yd 7))), (y 9, .inr (3, [.ref (y 10), .ref (y 11), .ref (y 12), .ref (y 13), .int (nI yf), .int (nI QY.1)])), (y 10, .inl (cA 0, 12, .inl (yr 0))), (y 11, .inl (cA 0, 12, .inl (yr 1))), (y 12, .inl (cA 0, 12, .inl (yr 2))), (y 13, .inl (cA 0, 48, .inl (yr 3))), (ln, .inr (0, [.ref vb'_16, .int 0, .int ml'_16, .int (nI ((lnT sx (xd 6) 4).length))])), (ca, .inl (cA 0, 3, .inl cc)), (vb'_16, .inl (cA 2, nb'_16, .inl g'_16))]) [15, 16, 17, 0, 1, 2, 3, 4, 5, 6, 7, 8, 9, 10, 11, 12, 13, 18, 14, 19] rfl
              have hD := hD.sub (ws' := [(o, .inr (4, [.ref F, .ref G, .int lo, .int nw, .int se, .ref (pa 0), .ref an, .ref ln])), cE x xv, (x 7, .inl (cA 0, 4, .inl (xd 6))), (x 8, .inl (cA 0, 4, .inl (xd 7))), (x 9, .inr (3, [.ref (x 10), .ref (x 11), .ref (x 12), .ref (x 13), .int (nI xf), .int (nI QX.1)])), (x 10, .inl (cA 0, 12, .inl (xr 0))), (x 11, .inl (cA 0, 12, .inl (xr 1))), (x 12, .inl (cA 0, 12, .inl (xr 2))), (x 13, .inl (cA 0, 48, .inl (xr 3))), cE y yv, (y 7, .inl (cA 0, 4, .inl (yd 6))), (y 8, .inl (cA 0, 4, .inl (yd 7))), (y 9, .inr (3, [.ref (y 10), .ref (y 11), .ref (y 12), .ref (y 13), .int (nI yf), .int (nI QY.1)])), (y 10, .inl (cA 0, 12, .inl (yr 0))), (y 11, .inl (cA 0, 12, .inl (yr 1))), (y 12, .inl (cA 0, 12, .inl (yr 2))), (y 13, .inl (cA 0, 48, .inl (yr 3))), (ln, .inr (0, [.ref vb'_16, .int 0, .int ml'_16, .int (nI ((lnT sx (xd 6) 4).length))])), (ca, .inl (cA 0, 3, .inl cc)), (vb'_16, .inl (cA 2, nb'_16, .inl g'_16))]) [15, 16, 17, 0, 1, 2, 3, 4, 5, 6, 7, 8, 9, 10, 11, 12, 13, 18, 14, 19] (by decide) rfl
              clear hPc hDc hFc hP1 hD1 hk1 hz1
              refine W.widen (k := 14) (n := 449) (by omega) (by omega) ?_
              obtain ⟨hw_16_0, hw_16_1⟩ := hw
              obtain rfl := hw_16_1
              refine lv_if_eq (tgt := 130) hx hb dL_isWire_87 (by decide) (fun c_17 => absurd c_17 (by decide)) (fun _ => ?_)
              refine lv_aload_n hx hb dL_isWire_90 rfl (lv_at hl 3 rfl) ?_
              refine lv_bipush (v := 7) hx hb dL_isWire_91 (by decide) ?_
              refine lv_iload_n hx hb dL_isWire_93 rfl (lv_at hl 1 rfl) ?_
              refine lv_aload_n hx hb dL_isWire_94 rfl (lv_at hl 3 rfl) ?_
              refine lv_iload_n hx hb dL_isWire_95 rfl (lv_at hl 1 rfl) ?_
              have hPc := hP.sub (ws' := [(o, .inr (4, [.ref F, .ref G, .int lo, .int nw, .int se, .ref (pa 0), .ref an, .ref ln])), cE x xv, (x 9, .inr (3, [.ref (x 10), .ref (x 11), .ref (x 12), .ref (x 13), .int (nI xf), .int (nI QX.1)]))]) [0, 1, 4] rfl
              have hDc := hD.sub (ws' := [(o, .inr (4, [.ref F, .ref G, .int lo, .int nw, .int se, .ref (pa 0), .ref an, .ref ln])), cE x xv, (x 9, .inr (3, [.ref (x 10), .ref (x 11), .ref (x 12), .ref (x 13), .int (nI xf), .int (nI QX.1)]))]) [0, 1, 4] (by decide) rfl
              have hFc := va_free (wc := [(o, .inr (4, [.ref F, .ref G, .int lo, .int nw, .int se, .ref (pa 0), .ref an, .ref ln])), cE x xv, (x 9, .inr (3, [.ref (x 10), .ref (x 11), .ref (x 12), .ref (x 13), .int (nI xf), .int (nI QX.1)]))]) hD hS hA [0, 1, 4] rfl
              refine va_calli (va_runV (As := [.int 0]) (rest := [.int 0, .int 7, .ref o]) ⟨hx, hb, hml, hown, hts⟩ (c_X3_waiting_k l D cA H.size o F G lo nw se pa an ln x (y 0) 0 xv xf QX (by first | exact he | exact en_flip he | exact en_01 he | exact en_10 he)) (cwV 1 hts gL_isWire_X3_waiting rfl rfl rfl (by decide +kernel) ⟨Nat.le_of_ble_eq_true rfl, Nat.le_of_ble_eq_true rfl⟩) ⟨zU_blind, va_recv hK hPc (ci := 4) (q0 := 0) rfl rfl, fun U hU hW => ⟨rfl, zU_call hU hPc hW.alike hK hDc⟩⟩ rfl rfl hl.1 rfl (lv_room (Nat.le_of_ble_eq_true rfl)) dL_isWire_96 ⟨Nat.le_of_ble_eq_true rfl, Nat.le_of_ble_eq_true rfl⟩) hS (fun q _ h => hFc q h) hFc (fun zr u t H1 locs ht hvm hw hB hz1 hk1 hS => ?_)
              obtain ⟨hP1, hD1⟩ := hB
              rw [ht] at hP1
              obtain ⟨hP, hD⟩ := va_join (wr := [(x 7, .inl (cA 0, 4, .inl (xd 6))), (x 8, .inl (cA 0, 4, .inl (xd 7))), (x 10, .inl (cA 0, 12, .inl (xr 0))), (x 11, .inl (cA 0, 12, .inl (xr 1))), (x 12, .inl (cA 0, 12, .inl (xr 2))), (x 13, .inl (cA 0, 48, .inl (xr 3))), cE y yv, (y 7, .inl (cA 0, 4, .inl (yd 6))), (y 8, .inl (cA 0, 4, .inl (yd 7))), (y 9, .inr (3, [.ref (y 10), .ref (y 11), .ref (y 12), .ref (y 13), .int (nI yf), .int (nI QY.1)])), (y 10, .inl (cA 0, 12, .inl (yr 0))), (y 11, .inl (cA 0, 12, .inl (yr 1))), (y 12, .inl (cA 0, 12, .inl (yr 2))), (y 13, .inl (cA 0, 48, .inl (yr 3))), (ln, .inr (0, [.ref vb'_16, .int 0, .int ml'_16, .int (nI ((lnT sx (xd 6) 4).length))])), (ca, .inl (cA 0, 3, .inl cc)), (vb'_16, .inl (cA 2, nb'_16, .inl g'_16))]) (w1 := [(o, .inr (4, [.ref F, .ref G, .int lo, .int nw, .int se, .ref (pa 0), .ref an, .ref ln])), cE x xv, (x 9, .inr (3, [.ref (x 10), .ref (x 11), .ref (x 12), .ref (x 13), .int (nI xf), .int (nI QX.1)]))]) hP hD [0, 1, 4] [2, 3, 5, 6, 7, 8, 9, 10, 11, 12, 13, 14, 15, 16, 17, 18, 19] rfl rfl (by decide) (by decide) hk1 hFc hP1 hD1
              generalize H1 = H at hP hS ⊢
              have hP := hP.sub (ws' := [(o, .inr (4, [.ref F, .ref G, .int lo, .int nw, .int se, .ref (pa 0), .ref an, .ref ln])), cE x xv, (x 7, .inl (cA 0, 4, .inl (xd 6))), (x 8, .inl (cA 0, 4, .inl (xd 7))), (x 9, .inr (3, [.ref (x 10), .ref (x 11), .ref (x 12), .ref (x 13), .int (nI xf), .int (nI QX.1)])), (x 10, .inl (cA 0, 12, .inl (xr 0))), (x 11, .inl (cA 0, 12, .inl (xr 1))), (x 12, .inl (cA 0, 12, .inl (xr 2))), (x 13, .inl (cA 0, 48, .inl (xr 3))), cE y yv, (y 7, .inl (cA 0, 4, .inl (yd 6))), (y 8, .inl (cA 0, 4, .inl (yd 7))), (y 9, .inr (3, [.ref (y 10), .ref (y 11), .ref (y 12), .ref (y 13), .int (nI yf), .int (nI QY.1)])), (y 10, .inl (cA 0, 12, .inl (yr 0))), (y 11, .inl (cA 0, 12, .inl (yr 1))), (y 12, .inl (cA 0, 12, .inl (yr 2))), (y 13, .inl (cA 0, 48, .inl (yr 3))), (ln, .inr (0, [.ref vb'_16, .int 0, .int ml'_16, .int (nI ((lnT sx (xd 6) 4).length))])), (ca, .inl (cA 0, 3, .inl cc)), (vb'_16, .inl (cA 2, nb'_16, .inl g'_16))]) [17, 18, 0, 1, 19, 2, 3, 4, 5, 6, 7, 8, 9, 10, 11, 12, 13, 14, 15, 16] rfl
              have hD := hD.sub (ws' := [(o, .inr (4, [.ref F, .ref G, .int lo, .int nw, .int se, .ref (pa 0), .ref an, .ref ln])), cE x xv, (x 7, .inl (cA 0, 4, .inl (xd 6))), (x 8, .inl (cA 0, 4, .inl (xd 7))), (x 9, .inr (3, [.ref (x 10), .ref (x 11), .ref (x 12), .ref (x 13), .int (nI xf), .int (nI QX.1)])), (x 10, .inl (cA 0, 12, .inl (xr 0))), (x 11, .inl (cA 0, 12, .inl (xr 1))), (x 12, .inl (cA 0, 12, .inl (xr 2))), (x 13, .inl (cA 0, 48, .inl (xr 3))), cE y yv, (y 7, .inl (cA 0, 4, .inl (yd 6))), (y 8, .inl (cA 0, 4, .inl (yd 7))), (y 9, .inr (3, [.ref (y 10), .ref (y 11), .ref (y 12), .ref (y 13), .int (nI yf), .int (nI QY.1)])), (y 10, .inl (cA 0, 12, .inl (yr 0))), (y 11, .inl (cA 0, 12, .inl (yr 1))), (y 12, .inl (cA 0, 12, .inl (yr 2))), (y 13, .inl (cA 0, 48, .inl (yr 3))), (ln, .inr (0, [.ref vb'_16, .int 0, .int ml'_16, .int (nI ((lnT sx (xd 6) 4).length))])), (ca, .inl (cA 0, 3, .inl cc)), (vb'_16, .inl (cA 2, nb'_16, .inl g'_16))]) [17, 18, 0, 1, 19, 2, 3, 4, 5, 6, 7, 8, 9, 10, 11, 12, 13, 14, 15, 16] (by decide) rfl
              clear hPc hDc hFc hP1 hD1 hk1 hz1
              have hw_18 := hw
              obtain rfl := hw
              refine lv_iconst (v := 0) hx hb dL_isWire_99 (by decide) ?_
              refine lv_iconst (v := 0) hx hb dL_isWire_100 (by decide) ?_
              refine lv_iconst (v := 0) hx hb dL_isWire_101 (by decide) ?_
              have hPc := hP.sub (ws' := [(o, .inr (4, [.ref F, .ref G, .int lo, .int nw, .int se, .ref (pa 0), .ref an, .ref ln])), cE x xv, (x 9, .inr (3, [.ref (x 10), .ref (x 11), .ref (x 12), .ref (x 13), .int (nI xf), .int (nI QX.1)]))]) [0, 1, 4] rfl
              have hDc := hD.sub (ws' := [(o, .inr (4, [.ref F, .ref G, .int lo, .int nw, .int se, .ref (pa 0), .ref an, .ref ln])), cE x xv, (x 9, .inr (3, [.ref (x 10), .ref (x 11), .ref (x 12), .ref (x 13), .int (nI xf), .int (nI QX.1)]))]) [0, 1, 4] (by decide) rfl
              have hFc := va_free (wc := [(o, .inr (4, [.ref F, .ref G, .int lo, .int nw, .int se, .ref (pa 0), .ref an, .ref ln])), cE x xv, (x 9, .inr (3, [.ref (x 10), .ref (x 11), .ref (x 12), .ref (x 13), .int (nI xf), .int (nI QX.1)]))]) hD hS hA [0, 1, 4] rfl
              refine va_calli (vx_runSW (As := [.ref o, .int 7, .int 0, .int (nI QX.1), .int 0, .int 0, .int 0]) (rest := []) ⟨hx, hb, hml, hown, hts⟩ (c_asks_kind_p l D cA zv H.size o F G lo nw se pa an ln x (y 0) 0 xv xf QX (nI QX.1) 0 0 0 (by assumption) (by first | exact he | exact en_flip he | exact en_01 he | exact en_10 he) (by omega) (fun h => h.2 (rw_ex rfl (by omega)))) (vx_cwSW 7 hts gL_isWire_L_asks rfl rfl rfl (by decide +kernel) ⟨Nat.le_of_ble_eq_true rfl, Nat.le_of_ble_eq_true rfl⟩) ⟨zUX_blind, fun U hU hW => ⟨rfl, zUX_call hE0 hX0 hS hFc hU hPc hW hK hDc⟩⟩ rfl rfl hl.1 rfl (lv_room (Nat.le_of_ble_eq_true rfl)) dL_isWire_102 ⟨Nat.le_of_ble_eq_true rfl, Nat.le_of_ble_eq_true rfl⟩) hS (fun q _ h => hFc q h) hFc (fun zr u t H1 locs ht hvm hw hB hz1 hk1 hS => ?_)
              obtain ⟨hP1, hD1⟩ := hB
              rw [ht] at hP1
              obtain ⟨hP, hD⟩ := va_join (wr := [(x 7, .inl (cA 0, 4, .inl (xd 6))), (x 8, .inl (cA 0, 4, .inl (xd 7))), (x 10, .inl (cA 0, 12, .inl (xr 0))), (x 11, .inl (cA 0, 12, .inl (xr 1))), (x 12, .inl (cA 0, 12, .inl (xr 2))), (x 13, .inl (cA 0, 48, .inl (xr 3))), cE y yv, (y 7, .inl (cA 0, 4, .inl (yd 6))), (y 8, .inl (cA 0, 4, .inl (yd 7))), (y 9, .inr (3, [.ref (y 10), .ref (y 11), .ref (y 12), .ref (y 13), .int (nI yf), .int (nI QY.1)])), (y 10, .inl (cA 0, 12, .inl (yr 0))), (y 11, .inl (cA 0, 12, .inl (yr 1))), (y 12, .inl (cA 0, 12, .inl (yr 2))), (y 13, .inl (cA 0, 48, .inl (yr 3))), (ln, .inr (0, [.ref vb'_16, .int 0, .int ml'_16, .int (nI ((lnT sx (xd 6) 4).length))])), (ca, .inl (cA 0, 3, .inl cc)), (vb'_16, .inl (cA 2, nb'_16, .inl g'_16))]) (w1 := [(o, .inr (4, [.ref F, .ref G, .int lo, .int nw, .int se, .ref (pa 0), .ref an, .ref ln])), cE x xv, (x 9, .inr (3, [.ref (x 10), .ref (x 11), .ref (x 12), .ref (x 13), .int (nI xf), .int (nI QX.1)]))]) hP hD [0, 1, 4] [2, 3, 5, 6, 7, 8, 9, 10, 11, 12, 13, 14, 15, 16, 17, 18, 19] rfl rfl (by decide) (by decide) hk1 hFc hP1 hD1
              generalize H1 = H at hP hS ⊢
              have hP := hP.sub (ws' := [(o, .inr (4, [.ref F, .ref G, .int lo, .int nw, .int se, .ref (pa 0), .ref an, .ref ln])), cE x xv, (x 7, .inl (cA 0, 4, .inl (xd 6))), (x 8, .inl (cA 0, 4, .inl (xd 7))), (x 9, .inr (3, [.ref (x 10), .ref (x 11), .ref (x 12), .ref (x 13), .int (nI xf), .int (nI QX.1)])), (x 10, .inl (cA 0, 12, .inl (xr 0))), (x 11, .inl (cA 0, 12, .inl (xr 1))), (x 12, .inl (cA 0, 12, .inl (xr 2))), (x 13, .inl (cA 0, 48, .inl (xr 3))), cE y yv, (y 7, .inl (cA 0, 4, .inl (yd 6))), (y 8, .inl (cA 0, 4, .inl (yd 7))), (y 9, .inr (3, [.ref (y 10), .ref (y 11), .ref (y 12), .ref (y 13), .int (nI yf), .int (nI QY.1)])), (y 10, .inl (cA 0, 12, .inl (yr 0))), (y 11, .inl (cA 0, 12, .inl (yr 1))), (y 12, .inl (cA 0, 12, .inl (yr 2))), (y 13, .inl (cA 0, 48, .inl (yr 3))), (ln, .inr (0, [.ref vb'_16, .int 0, .int ml'_16, .int (nI ((lnT sx (xd 6) 4).length))])), (ca, .inl (cA 0, 3, .inl cc)), (vb'_16, .inl (cA 2, nb'_16, .inl g'_16))]) [17, 18, 0, 1, 19, 2, 3, 4, 5, 6, 7, 8, 9, 10, 11, 12, 13, 14, 15, 16] rfl
              have hD := hD.sub (ws' := [(o, .inr (4, [.ref F, .ref G, .int lo, .int nw, .int se, .ref (pa 0), .ref an, .ref ln])), cE x xv, (x 7, .inl (cA 0, 4, .inl (xd 6))), (x 8, .inl (cA 0, 4, .inl (xd 7))), (x 9, .inr (3, [.ref (x 10), .ref (x 11), .ref (x 12), .ref (x 13), .int (nI xf), .int (nI QX.1)])), (x 10, .inl (cA 0, 12, .inl (xr 0))), (x 11, .inl (cA 0, 12, .inl (xr 1))), (x 12, .inl (cA 0, 12, .inl (xr 2))), (x 13, .inl (cA 0, 48, .inl (xr 3))), cE y yv, (y 7, .inl (cA 0, 4, .inl (yd 6))), (y 8, .inl (cA 0, 4, .inl (yd 7))), (y 9, .inr (3, [.ref (y 10), .ref (y 11), .ref (y 12), .ref (y 13), .int (nI yf), .int (nI QY.1)])), (y 10, .inl (cA 0, 12, .inl (yr 0))), (y 11, .inl (cA 0, 12, .inl (yr 1))), (y 12, .inl (cA 0, 12, .inl (yr 2))), (y 13, .inl (cA 0, 48, .inl (yr 3))), (ln, .inr (0, [.ref vb'_16, .int 0, .int ml'_16, .int (nI ((lnT sx (xd 6) 4).length))])), (ca, .inl (cA 0, 3, .inl cc)), (vb'_16, .inl (cA 2, nb'_16, .inl g'_16))]) [17, 18, 0, 1, 19, 2, 3, 4, 5, 6, 7, 8, 9, 10, 11, 12, 13, 14, 15, 16] (by decide) rfl
              clear hPc hDc hFc hP1 hD1 hk1 hz1
              refine W.widen (k := 15) (n := 455) (by omega) (by omega) ?_
              have hw_19 := hw
              obtain rfl := hw
              refine lv_bipush (v := (-10)) hx hb dL_isWire_105 (by decide) ?_
              refine lv_icmp_ne (tgt := 130) hx hb dL_isWire_107 (by decide) (fun c_20 => absurd c_20 (by decide)) (fun _ => ?_)
              refine lv_aload_n hx hb dL_isWire_110 rfl (lv_at hl 3 rfl) ?_
              refine lv_bipush (v := 7) hx hb dL_isWire_111 (by decide) ?_
              refine lv_iload_n hx hb dL_isWire_113 rfl (lv_at hl 1 rfl) ?_
              refine lv_iconst (v := (-1)) hx hb dL_isWire_114 (by decide) ?_
              refine lv_iconst (v := 0) hx hb dL_isWire_115 (by decide) ?_
              refine lv_iconst (v := 0) hx hb dL_isWire_116 (by decide) ?_
              refine lv_iconst (v := 0) hx hb dL_isWire_117 (by decide) ?_
              have hPc := hP.sub (ws' := [(o, .inr (4, [.ref F, .ref G, .int lo, .int nw, .int se, .ref (pa 0), .ref an, .ref ln])), cE x xv, (x 9, .inr (3, [.ref (x 10), .ref (x 11), .ref (x 12), .ref (x 13), .int (nI xf), .int (nI QX.1)]))]) [0, 1, 4] rfl
              have hDc := hD.sub (ws' := [(o, .inr (4, [.ref F, .ref G, .int lo, .int nw, .int se, .ref (pa 0), .ref an, .ref ln])), cE x xv, (x 9, .inr (3, [.ref (x 10), .ref (x 11), .ref (x 12), .ref (x 13), .int (nI xf), .int (nI QX.1)]))]) [0, 1, 4] (by decide) rfl
              have hFc := va_free (wc := [(o, .inr (4, [.ref F, .ref G, .int lo, .int nw, .int se, .ref (pa 0), .ref an, .ref ln])), cE x xv, (x 9, .inr (3, [.ref (x 10), .ref (x 11), .ref (x 12), .ref (x 13), .int (nI xf), .int (nI QX.1)]))]) hD hS hA [0, 1, 4] rfl
              refine va_calli (vx_runSW (As := [.ref o, .int 7, .int 0, .int (-1), .int 0, .int 0, .int 0]) (rest := []) ⟨hx, hb, hml, hown, hts⟩ (c_asks_kind_p l D cA zv H.size o F G lo nw se pa an ln x (y 0) 0 xv xf QX (-1) 0 0 0 (by assumption) (by first | exact he | exact en_flip he | exact en_01 he | exact en_10 he) (by omega) (fun h => h.1 (by decide))) (vx_cwSW 7 hts gL_isWire_L_asks rfl rfl rfl (by decide +kernel) ⟨Nat.le_of_ble_eq_true rfl, Nat.le_of_ble_eq_true rfl⟩) ⟨zUX_blind, fun U hU hW => ⟨rfl, zUX_call hE0 hX0 hS hFc hU hPc hW hK hDc⟩⟩ rfl rfl hl.1 rfl (lv_room (Nat.le_of_ble_eq_true rfl)) dL_isWire_118 ⟨Nat.le_of_ble_eq_true rfl, Nat.le_of_ble_eq_true rfl⟩) hS (fun q _ h => hFc q h) hFc (fun zr u t H1 locs ht hvm hw hB hz1 hk1 hS => ?_)
              obtain ⟨hP1, hD1⟩ := hB
              rw [ht] at hP1
              obtain ⟨hP, hD⟩ := va_join (wr := [(x 7, .inl (cA 0, 4, .inl (xd 6))), (x 8, .inl (cA 0, 4, .inl (xd 7))), (x 10, .inl (cA 0, 12, .inl (xr 0))), (x 11, .inl (cA 0, 12, .inl (xr 1))), (x 12, .inl (cA 0, 12, .inl (xr 2))), (x 13, .inl (cA 0, 48, .inl (xr 3))), cE y yv, (y 7, .inl (cA 0, 4, .inl (yd 6))), (y 8, .inl (cA 0, 4, .inl (yd 7))), (y 9, .inr (3, [.ref (y 10), .ref (y 11), .ref (y 12), .ref (y 13), .int (nI yf), .int (nI QY.1)])), (y 10, .inl (cA 0, 12, .inl (yr 0))), (y 11, .inl (cA 0, 12, .inl (yr 1))), (y 12, .inl (cA 0, 12, .inl (yr 2))), (y 13, .inl (cA 0, 48, .inl (yr 3))), (ln, .inr (0, [.ref vb'_16, .int 0, .int ml'_16, .int (nI ((lnT sx (xd 6) 4).length))])), (ca, .inl (cA 0, 3, .inl cc)), (vb'_16, .inl (cA 2, nb'_16, .inl g'_16))]) (w1 := [(o, .inr (4, [.ref F, .ref G, .int lo, .int nw, .int se, .ref (pa 0), .ref an, .ref ln])), cE x xv, (x 9, .inr (3, [.ref (x 10), .ref (x 11), .ref (x 12), .ref (x 13), .int (nI xf), .int (nI QX.1)]))]) hP hD [0, 1, 4] [2, 3, 5, 6, 7, 8, 9, 10, 11, 12, 13, 14, 15, 16, 17, 18, 19] rfl rfl (by decide) (by decide) hk1 hFc hP1 hD1
              generalize H1 = H at hP hS ⊢
              have hP := hP.sub (ws' := [(o, .inr (4, [.ref F, .ref G, .int lo, .int nw, .int se, .ref (pa 0), .ref an, .ref ln])), cE x xv, (x 7, .inl (cA 0, 4, .inl (xd 6))), (x 8, .inl (cA 0, 4, .inl (xd 7))), (x 9, .inr (3, [.ref (x 10), .ref (x 11), .ref (x 12), .ref (x 13), .int (nI xf), .int (nI QX.1)])), (x 10, .inl (cA 0, 12, .inl (xr 0))), (x 11, .inl (cA 0, 12, .inl (xr 1))), (x 12, .inl (cA 0, 12, .inl (xr 2))), (x 13, .inl (cA 0, 48, .inl (xr 3))), cE y yv, (y 7, .inl (cA 0, 4, .inl (yd 6))), (y 8, .inl (cA 0, 4, .inl (yd 7))), (y 9, .inr (3, [.ref (y 10), .ref (y 11), .ref (y 12), .ref (y 13), .int (nI yf), .int (nI QY.1)])), (y 10, .inl (cA 0, 12, .inl (yr 0))), (y 11, .inl (cA 0, 12, .inl (yr 1))), (y 12, .inl (cA 0, 12, .inl (yr 2))), (y 13, .inl (cA 0, 48, .inl (yr 3))), (ln, .inr (0, [.ref vb'_16, .int 0, .int ml'_16, .int (nI ((lnT sx (xd 6) 4).length))])), (ca, .inl (cA 0, 3, .inl cc)), (vb'_16, .inl (cA 2, nb'_16, .inl g'_16))]) [17, 18, 0, 1, 19, 2, 3, 4, 5, 6, 7, 8, 9, 10, 11, 12, 13, 14, 15, 16] rfl
              have hD := hD.sub (ws' := [(o, .inr (4, [.ref F, .ref G, .int lo, .int nw, .int se, .ref (pa 0), .ref an, .ref ln])), cE x xv, (x 7, .inl (cA 0, 4, .inl (xd 6))), (x 8, .inl (cA 0, 4, .inl (xd 7))), (x 9, .inr (3, [.ref (x 10), .ref (x 11), .ref (x 12), .ref (x 13), .int (nI xf), .int (nI QX.1)])), (x 10, .inl (cA 0, 12, .inl (xr 0))), (x 11, .inl (cA 0, 12, .inl (xr 1))), (x 12, .inl (cA 0, 12, .inl (xr 2))), (x 13, .inl (cA 0, 48, .inl (xr 3))), cE y yv, (y 7, .inl (cA 0, 4, .inl (yd 6))), (y 8, .inl (cA 0, 4, .inl (yd 7))), (y 9, .inr (3, [.ref (y 10), .ref (y 11), .ref (y 12), .ref (y 13), .int (nI yf), .int (nI QY.1)])), (y 10, .inl (cA 0, 12, .inl (yr 0))), (y 11, .inl (cA 0, 12, .inl (yr 1))), (y 12, .inl (cA 0, 12, .inl (yr 2))), (y 13, .inl (cA 0, 48, .inl (yr 3))), (ln, .inr (0, [.ref vb'_16, .int 0, .int ml'_16, .int (nI ((lnT sx (xd 6) 4).length))])), (ca, .inl (cA 0, 3, .inl cc)), (vb'_16, .inl (cA 2, nb'_16, .inl g'_16))]) [17, 18, 0, 1, 19, 2, 3, 4, 5, 6, 7, 8, 9, 10, 11, 12, 13, 14, 15, 16] (by decide) rfl
              clear hPc hDc hFc hP1 hD1 hk1 hz1
              refine W.widen (k := 16) (n := 461) (by omega) (by omega) ?_
              have hw_21 := hw
              obtain rfl := hw
              refine lv_bipush (v := (-10)) hx hb dL_isWire_121 (by decide) ?_
              refine lv_icmp_ne (tgt := 130) hx hb dL_isWire_123 (by decide) (fun c_22 => absurd c_22 (by decide)) (fun _ => ?_)
              refine lv_iconst (v := 1) hx hb dL_isWire_126 (by decide) ?_
              refine lv_goto (tgt := 131) hx hb dL_isWire_127 (by decide) ?_
              refine lv_istore_n (lv' := [(2, .int 1), (4, .int (nI sx)), (3, .int 0), (0, .ref o), (1, .ref ca)]) hx hb dL_isWire_131 rfl hl (by decide) rfl (fun ls hl => ?_)
              refine z_cut (Inv := fun H locs ls st => st = [.int 1] ∧ va_P D vwCl [(o, .inr (4, [.ref F, .ref G, .int lo, .int nw, .int se, .ref (pa 0), .ref an, .ref ln])), cE x xv, (x 7, .inl (cA 0, 4, .inl (xd 6))), (x 8, .inl (cA 0, 4, .inl (xd 7))), (x 9, .inr (3, [.ref (x 10), .ref (x 11), .ref (x 12), .ref (x 13), .int (nI xf), .int (nI QX.1)])), (x 10, .inl (cA 0, 12, .inl (xr 0))), (x 11, .inl (cA 0, 12, .inl (xr 1))), (x 12, .inl (cA 0, 12, .inl (xr 2))), (x 13, .inl (cA 0, 48, .inl (xr 3))), cE y yv, (y 7, .inl (cA 0, 4, .inl (yd 6))), (y 8, .inl (cA 0, 4, .inl (yd 7))), (y 9, .inr (3, [.ref (y 10), .ref (y 11), .ref (y 12), .ref (y 13), .int (nI yf), .int (nI QY.1)])), (y 10, .inl (cA 0, 12, .inl (yr 0))), (y 11, .inl (cA 0, 12, .inl (yr 1))), (y 12, .inl (cA 0, 12, .inl (yr 2))), (y 13, .inl (cA 0, 48, .inl (yr 3))), (ln, .inr (0, [.ref vb'_16, .int 0, .int ml'_16, .int (nI ((lnT sx (xd 6) 4).length))])), (ca, .inl (cA 0, 3, .inl cc)), (vb'_16, .inl (cA 2, nb'_16, .inl g'_16))] H ∧ va_D A [(o, .inr (4, [.ref F, .ref G, .int lo, .int nw, .int se, .ref (pa 0), .ref an, .ref ln])), cE x xv, (x 7, .inl (cA 0, 4, .inl (xd 6))), (x 8, .inl (cA 0, 4, .inl (xd 7))), (x 9, .inr (3, [.ref (x 10), .ref (x 11), .ref (x 12), .ref (x 13), .int (nI xf), .int (nI QX.1)])), (x 10, .inl (cA 0, 12, .inl (xr 0))), (x 11, .inl (cA 0, 12, .inl (xr 1))), (x 12, .inl (cA 0, 12, .inl (xr 2))), (x 13, .inl (cA 0, 48, .inl (xr 3))), cE y yv, (y 7, .inl (cA 0, 4, .inl (yd 6))), (y 8, .inl (cA 0, 4, .inl (yd 7))), (y 9, .inr (3, [.ref (y 10), .ref (y 11), .ref (y 12), .ref (y 13), .int (nI yf), .int (nI QY.1)])), (y 10, .inl (cA 0, 12, .inl (yr 0))), (y 11, .inl (cA 0, 12, .inl (yr 1))), (y 12, .inl (cA 0, 12, .inl (yr 2))), (y 13, .inl (cA 0, 48, .inl (yr 3))), (ln, .inr (0, [.ref vb'_16, .int 0, .int ml'_16, .int (nI ((lnT sx (xd 6) 4).length))])), (ca, .inl (cA 0, 3, .inl cc)), (vb'_16, .inl (cA 2, nb'_16, .inl g'_16))] ∧ va_S A s.heap H locs ∧ lv_has ls 8 [(2, .int 1), (4, .int (nI sx)), (3, .int 0), (0, .ref o), (1, .ref ca)]) 157 (fun H locs ls st hQ9 => ?_) (fun kJ => ?_)
              · obtain ⟨rfl, hP, hD, hS, hl⟩ := hQ9
                refine lv_istore_n (lv' := [(2, .int 1), (4, .int (nI sx)), (3, .int 0), (0, .ref o), (1, .ref ca)]) hx hb dL_isWire_157 rfl hl (by decide) rfl (fun ls hl => ?_)
                refine lv_iconst (v := 0) hx hb dL_isWire_158 (by decide) ?_
                refine lv_istore (lv' := [(5, .int 0), (2, .int 1), (4, .int (nI sx)), (3, .int 0), (0, .ref o), (1, .ref ca)]) hx hb dL_isWire_159 hl (by decide) rfl (fun ls hl => ?_)
                refine z_loop (Inv := fun j H locs ls => va_P D vwCl [(o, .inr (4, [.ref F, .ref G, .int lo, .int nw, .int se, .ref (pa 0), .ref an, .ref ln])), cE x xv, (x 7, .inl (cA 0, 4, .inl (xd 6))), (x 8, .inl (cA 0, 4, .inl (xd 7))), (x 9, .inr (3, [.ref (x 10), .ref (x 11), .ref (x 12), .ref (x 13), .int (nI xf), .int (nI QX.1)])), (x 10, .inl (cA 0, 12, .inl (xr 0))), (x 11, .inl (cA 0, 12, .inl (xr 1))), (x 12, .inl (cA 0, 12, .inl (xr 2))), (x 13, .inl (cA 0, 48, .inl (xr 3))), cE y yv, (y 7, .inl (cA 0, 4, .inl (yd 6))), (y 8, .inl (cA 0, 4, .inl (yd 7))), (y 9, .inr (3, [.ref (y 10), .ref (y 11), .ref (y 12), .ref (y 13), .int (nI yf), .int (nI QY.1)])), (y 10, .inl (cA 0, 12, .inl (yr 0))), (y 11, .inl (cA 0, 12, .inl (yr 1))), (y 12, .inl (cA 0, 12, .inl (yr 2))), (y 13, .inl (cA 0, 48, .inl (yr 3))), (ln, .inr (0, [.ref vb'_16, .int 0, .int ml'_16, .int (nI ((lnT sx (xd 6) 4).length))])), (ca, .inl (cA 0, 3, .inl cc)), (vb'_16, .inl (cA 2, nb'_16, .inl g'_16))] H ∧ va_D A [(o, .inr (4, [.ref F, .ref G, .int lo, .int nw, .int se, .ref (pa 0), .ref an, .ref ln])), cE x xv, (x 7, .inl (cA 0, 4, .inl (xd 6))), (x 8, .inl (cA 0, 4, .inl (xd 7))), (x 9, .inr (3, [.ref (x 10), .ref (x 11), .ref (x 12), .ref (x 13), .int (nI xf), .int (nI QX.1)])), (x 10, .inl (cA 0, 12, .inl (xr 0))), (x 11, .inl (cA 0, 12, .inl (xr 1))), (x 12, .inl (cA 0, 12, .inl (xr 2))), (x 13, .inl (cA 0, 48, .inl (xr 3))), cE y yv, (y 7, .inl (cA 0, 4, .inl (yd 6))), (y 8, .inl (cA 0, 4, .inl (yd 7))), (y 9, .inr (3, [.ref (y 10), .ref (y 11), .ref (y 12), .ref (y 13), .int (nI yf), .int (nI QY.1)])), (y 10, .inl (cA 0, 12, .inl (yr 0))), (y 11, .inl (cA 0, 12, .inl (yr 1))), (y 12, .inl (cA 0, 12, .inl (yr 2))), (y 13, .inl (cA 0, 48, .inl (yr 3))), (ln, .inr (0, [.ref vb'_16, .int 0, .int ml'_16, .int (nI ((lnT sx (xd 6) 4).length))])), (ca, .inl (cA 0, 3, .inl cc)), (vb'_16, .inl (cA 2, nb'_16, .inl g'_16))] ∧ va_S A s.heap H locs ∧ lv_has ls 8 [(5, .int (nI j)), (2, .int 1), (4, .int (nI sx)), (3, .int 0), (0, .ref o), (1, .ref ca)]) 4 (fun j hj_j ih_j H locs ls hQ9 => ?_) ⟨hP, hD, hS, lv_sub hl [0, 1, 2, 3, 4, 5] rfl⟩
                obtain ⟨hP, hD, hS, hl⟩ := hQ9
                refine lv_iload hx hb dL_isWire_161 (lv_at hl 0 rfl) ?_
                refine lv_iconst (v := 4) hx hb dL_isWire_163 (by decide) ?_
                refine lv_icmp_ge (tgt := 327) hx hb dL_isWire_164 (by decide) (fun c_23 => ?_) (fun c_23 => ?_)
                · have c_23 := (nI_leI (a := 4) (b := j) (by omega) (by omega)).mp c_23
                  refine lv_iconst (v := 0) hx hb dL_isWire_327 (by decide) ?_
                  refine lv_istore (lv' := [(5, .int 0), (2, .int 1), (4, .int (nI sx)), (3, .int 0), (0, .ref o), (1, .ref ca)]) hx hb dL_isWire_328 hl (by decide) rfl (fun ls hl => ?_)
                  refine z_loop (Inv := fun j2 H locs ls => va_P D vwCl [(o, .inr (4, [.ref F, .ref G, .int lo, .int nw, .int se, .ref (pa 0), .ref an, .ref ln])), cE x xv, (x 7, .inl (cA 0, 4, .inl (xd 6))), (x 8, .inl (cA 0, 4, .inl (xd 7))), (x 9, .inr (3, [.ref (x 10), .ref (x 11), .ref (x 12), .ref (x 13), .int (nI xf), .int (nI QX.1)])), (x 10, .inl (cA 0, 12, .inl (xr 0))), (x 11, .inl (cA 0, 12, .inl (xr 1))), (x 12, .inl (cA 0, 12, .inl (xr 2))), (x 13, .inl (cA 0, 48, .inl (xr 3))), cE y yv, (y 7, .inl (cA 0, 4, .inl (yd 6))), (y 8, .inl (cA 0, 4, .inl (yd 7))), (y 9, .inr (3, [.ref (y 10), .ref (y 11), .ref (y 12), .ref (y 13), .int (nI yf), .int (nI QY.1)])), (y 10, .inl (cA 0, 12, .inl (yr 0))), (y 11, .inl (cA 0, 12, .inl (yr 1))), (y 12, .inl (cA 0, 12, .inl (yr 2))), (y 13, .inl (cA 0, 48, .inl (yr 3))), (ln, .inr (0, [.ref vb'_16, .int 0, .int ml'_16, .int (nI ((lnT sx (xd 6) 4).length))])), (ca, .inl (cA 0, 3, .inl cc)), (vb'_16, .inl (cA 2, nb'_16, .inl g'_16))] H ∧ va_D A [(o, .inr (4, [.ref F, .ref G, .int lo, .int nw, .int se, .ref (pa 0), .ref an, .ref ln])), cE x xv, (x 7, .inl (cA 0, 4, .inl (xd 6))), (x 8, .inl (cA 0, 4, .inl (xd 7))), (x 9, .inr (3, [.ref (x 10), .ref (x 11), .ref (x 12), .ref (x 13), .int (nI xf), .int (nI QX.1)])), (x 10, .inl (cA 0, 12, .inl (xr 0))), (x 11, .inl (cA 0, 12, .inl (xr 1))), (x 12, .inl (cA 0, 12, .inl (xr 2))), (x 13, .inl (cA 0, 48, .inl (xr 3))), cE y yv, (y 7, .inl (cA 0, 4, .inl (yd 6))), (y 8, .inl (cA 0, 4, .inl (yd 7))), (y 9, .inr (3, [.ref (y 10), .ref (y 11), .ref (y 12), .ref (y 13), .int (nI yf), .int (nI QY.1)])), (y 10, .inl (cA 0, 12, .inl (yr 0))), (y 11, .inl (cA 0, 12, .inl (yr 1))), (y 12, .inl (cA 0, 12, .inl (yr 2))), (y 13, .inl (cA 0, 48, .inl (yr 3))), (ln, .inr (0, [.ref vb'_16, .int 0, .int ml'_16, .int (nI ((lnT sx (xd 6) 4).length))])), (ca, .inl (cA 0, 3, .inl cc)), (vb'_16, .inl (cA 2, nb'_16, .inl g'_16))] ∧ va_S A s.heap H locs ∧ lv_has ls 8 [(5, .int (nI j2)), (2, .int 1), (4, .int (nI sx)), (3, .int 0), (0, .ref o), (1, .ref ca)]) QX.1 (fun j2 hj_j2 ih_j2 H locs ls hQ9 => ?_) ⟨hP, hD, hS, lv_sub hl [0, 1, 2, 3, 4, 5] rfl⟩
                  obtain ⟨hP, hD, hS, hl⟩ := hQ9
                  refine lv_iload hx hb dL_isWire_330 (lv_at hl 0 rfl) ?_
                  refine lv_aload_n hx hb dL_isWire_332 rfl (lv_at hl 4 rfl) ?_
                  refine lv_iload_n hx hb dL_isWire_333 rfl (lv_at hl 3 rfl) ?_
                  have hPc := hP.sub (ws' := [(o, .inr (4, [.ref F, .ref G, .int lo, .int nw, .int se, .ref (pa 0), .ref an, .ref ln])), cE x xv, (x 9, .inr (3, [.ref (x 10), .ref (x 11), .ref (x 12), .ref (x 13), .int (nI xf), .int (nI QX.1)]))]) [0, 1, 4] rfl
                  have hDc := hD.sub (ws' := [(o, .inr (4, [.ref F, .ref G, .int lo, .int nw, .int se, .ref (pa 0), .ref an, .ref ln])), cE x xv, (x 9, .inr (3, [.ref (x 10), .ref (x 11), .ref (x 12), .ref (x 13), .int (nI xf), .int (nI QX.1)]))]) [0, 1, 4] (by decide) rfl
                  have hFc := va_free (wc := [(o, .inr (4, [.ref F, .ref G, .int lo, .int nw, .int se, .ref (pa 0), .ref an, .ref ln])), cE x xv, (x 9, .inr (3, [.ref (x 10), .ref (x 11), .ref (x 12), .ref (x 13), .int (nI xf), .int (nI QX.1)]))]) hD hS hA [0, 1, 4] rfl
                  refine va_calli (va_runV (As := [.int 0]) (rest := [.int (nI j2)]) ⟨hx, hb, hml, hown, hts⟩ (c_X3_waiting_k l D cA H.size o F G lo nw se pa an ln x (y 0) 0 xv xf QX (by first | exact he | exact en_flip he | exact en_01 he | exact en_10 he)) (cwV 1 hts gL_isWire_X3_waiting rfl rfl rfl (by decide +kernel) ⟨Nat.le_of_ble_eq_true rfl, Nat.le_of_ble_eq_true rfl⟩) ⟨zU_blind, va_recv hK hPc (ci := 4) (q0 := 0) rfl rfl, fun U hU hW => ⟨rfl, zU_call hU hPc hW.alike hK hDc⟩⟩ rfl rfl hl.1 rfl (lv_room (Nat.le_of_ble_eq_true rfl)) dL_isWire_334 ⟨Nat.le_of_ble_eq_true rfl, Nat.le_of_ble_eq_true rfl⟩) hS (fun q _ h => hFc q h) hFc (fun zr u t H1 locs ht hvm hw hB hz1 hk1 hS => ?_)
                  obtain ⟨hP1, hD1⟩ := hB
                  rw [ht] at hP1
                  obtain ⟨hP, hD⟩ := va_join (wr := [(x 7, .inl (cA 0, 4, .inl (xd 6))), (x 8, .inl (cA 0, 4, .inl (xd 7))), (x 10, .inl (cA 0, 12, .inl (xr 0))), (x 11, .inl (cA 0, 12, .inl (xr 1))), (x 12, .inl (cA 0, 12, .inl (xr 2))), (x 13, .inl (cA 0, 48, .inl (xr 3))), cE y yv, (y 7, .inl (cA 0, 4, .inl (yd 6))), (y 8, .inl (cA 0, 4, .inl (yd 7))), (y 9, .inr (3, [.ref (y 10), .ref (y 11), .ref (y 12), .ref (y 13), .int (nI yf), .int (nI QY.1)])), (y 10, .inl (cA 0, 12, .inl (yr 0))), (y 11, .inl (cA 0, 12, .inl (yr 1))), (y 12, .inl (cA 0, 12, .inl (yr 2))), (y 13, .inl (cA 0, 48, .inl (yr 3))), (ln, .inr (0, [.ref vb'_16, .int 0, .int ml'_16, .int (nI ((lnT sx (xd 6) 4).length))])), (ca, .inl (cA 0, 3, .inl cc)), (vb'_16, .inl (cA 2, nb'_16, .inl g'_16))]) (w1 := [(o, .inr (4, [.ref F, .ref G, .int lo, .int nw, .int se, .ref (pa 0), .ref an, .ref ln])), cE x xv, (x 9, .inr (3, [.ref (x 10), .ref (x 11), .ref (x 12), .ref (x 13), .int (nI xf), .int (nI QX.1)]))]) hP hD [0, 1, 4] [2, 3, 5, 6, 7, 8, 9, 10, 11, 12, 13, 14, 15, 16, 17, 18, 19] rfl rfl (by decide) (by decide) hk1 hFc hP1 hD1
                  generalize H1 = H at hP hS ⊢
                  have hP := hP.sub (ws' := [(o, .inr (4, [.ref F, .ref G, .int lo, .int nw, .int se, .ref (pa 0), .ref an, .ref ln])), cE x xv, (x 7, .inl (cA 0, 4, .inl (xd 6))), (x 8, .inl (cA 0, 4, .inl (xd 7))), (x 9, .inr (3, [.ref (x 10), .ref (x 11), .ref (x 12), .ref (x 13), .int (nI xf), .int (nI QX.1)])), (x 10, .inl (cA 0, 12, .inl (xr 0))), (x 11, .inl (cA 0, 12, .inl (xr 1))), (x 12, .inl (cA 0, 12, .inl (xr 2))), (x 13, .inl (cA 0, 48, .inl (xr 3))), cE y yv, (y 7, .inl (cA 0, 4, .inl (yd 6))), (y 8, .inl (cA 0, 4, .inl (yd 7))), (y 9, .inr (3, [.ref (y 10), .ref (y 11), .ref (y 12), .ref (y 13), .int (nI yf), .int (nI QY.1)])), (y 10, .inl (cA 0, 12, .inl (yr 0))), (y 11, .inl (cA 0, 12, .inl (yr 1))), (y 12, .inl (cA 0, 12, .inl (yr 2))), (y 13, .inl (cA 0, 48, .inl (yr 3))), (ln, .inr (0, [.ref vb'_16, .int 0, .int ml'_16, .int (nI ((lnT sx (xd 6) 4).length))])), (ca, .inl (cA 0, 3, .inl cc)), (vb'_16, .inl (cA 2, nb'_16, .inl g'_16))]) [17, 18, 0, 1, 19, 2, 3, 4, 5, 6, 7, 8, 9, 10, 11, 12, 13, 14, 15, 16] rfl
                  have hD := hD.sub (ws' := [(o, .inr (4, [.ref F, .ref G, .int lo, .int nw, .int se, .ref (pa 0), .ref an, .ref ln])), cE x xv, (x 7, .inl (cA 0, 4, .inl (xd 6))), (x 8, .inl (cA 0, 4, .inl (xd 7))), (x 9, .inr (3, [.ref (x 10), .ref (x 11), .ref (x 12), .ref (x 13), .int (nI xf), .int (nI QX.1)])), (x 10, .inl (cA 0, 12, .inl (xr 0))), (x 11, .inl (cA 0, 12, .inl (xr 1))), (x 12, .inl (cA 0, 12, .inl (xr 2))), (x 13, .inl (cA 0, 48, .inl (xr 3))), cE y yv, (y 7, .inl (cA 0, 4, .inl (yd 6))), (y 8, .inl (cA 0, 4, .inl (yd 7))), (y 9, .inr (3, [.ref (y 10), .ref (y 11), .ref (y 12), .ref (y 13), .int (nI yf), .int (nI QY.1)])), (y 10, .inl (cA 0, 12, .inl (yr 0))), (y 11, .inl (cA 0, 12, .inl (yr 1))), (y 12, .inl (cA 0, 12, .inl (yr 2))), (y 13, .inl (cA 0, 48, .inl (yr 3))), (ln, .inr (0, [.ref vb'_16, .int 0, .int ml'_16, .int (nI ((lnT sx (xd 6) 4).length))])), (ca, .inl (cA 0, 3, .inl cc)), (vb'_16, .inl (cA 2, nb'_16, .inl g'_16))]) [17, 18, 0, 1, 19, 2, 3, 4, 5, 6, 7, 8, 9, 10, 11, 12, 13, 14, 15, 16] (by decide) rfl
                  clear hPc hDc hFc hP1 hD1 hk1 hz1
                  have hw_24 := hw
                  obtain rfl := hw
                  refine lv_icmp_ge (tgt := 387) hx hb dL_isWire_337 (by decide) (fun c_25 => ?_) (fun c_25 => ?_)
                  · have c_25 := (nI_leI (a := QX.1) (b := j2) (by omega) (by omega)).mp c_25
                    refine lv_iinc (v := 1) (lv' := [(3, .int 1), (5, .int (nI j2)), (2, .int 1), (4, .int (nI sx)), (0, .ref o), (1, .ref ca)]) hx hb dL_isWire_387 hl (k := 3) rfl (by decide) (by decide) rfl (fun ls hl => ?_)
                    refine lv_goto (tgt := 18) hx hb dL_isWire_390 (by decide) ?_
                    refine lv_iload_n hx hb dL_isWire_18 rfl (lv_at hl 0 rfl) ?_
                    refine lv_iconst (v := 2) hx hb dL_isWire_19 (by decide) ?_
                    refine lv_icmp_ge (tgt := 393) hx hb dL_isWire_20 (by decide) (fun c_26 => absurd c_26 (by decide)) (fun _ => ?_)
                    refine lv_iload_n hx hb dL_isWire_23 rfl (lv_at hl 2 rfl) ?_
                    refine lv_if_eq (tgt := 393) hx hb dL_isWire_24 (by decide) (fun c_27 => absurd c_27 (by decide)) (fun _ => ?_)
                    refine lv_aload_n hx hb dL_isWire_27 rfl (lv_at hl 4 rfl) ?_
                    refine lv_iload_n hx hb dL_isWire_28 rfl (lv_at hl 0 rfl) ?_
                    have hPc := hP.sub (ws' := [(o, .inr (4, [.ref F, .ref G, .int lo, .int nw, .int se, .ref (pa 0), .ref an, .ref ln])), cE y yv]) [0, 9] rfl
                    have hDc := hD.sub (ws' := [(o, .inr (4, [.ref F, .ref G, .int lo, .int nw, .int se, .ref (pa 0), .ref an, .ref ln])), cE y yv]) [0, 9] (by decide) rfl
                    have hFc := va_free (wc := [(o, .inr (4, [.ref F, .ref G, .int lo, .int nw, .int se, .ref (pa 0), .ref an, .ref ln])), cE y yv]) hD hS hA [0, 9] rfl
                    refine va_calli (va_runV (As := [.int 1]) (rest := []) ⟨hx, hb, hml, hown, hts⟩ (c_X3_state_k l D cA H.size o F G lo nw se pa an ln y (x 0) 1 yv (by first | exact he | exact en_flip he | exact en_01 he | exact en_10 he)) (cwV 1 hts gL_isWire_X3_state rfl rfl rfl (by decide +kernel) ⟨Nat.le_of_ble_eq_true rfl, Nat.le_of_ble_eq_true rfl⟩) ⟨zU_blind, va_recv hK hPc (ci := 4) (q0 := 0) rfl rfl, fun U hU hW => ⟨rfl, zU_call hU hPc hW.alike hK hDc⟩⟩ rfl rfl hl.1 rfl (lv_room (Nat.le_of_ble_eq_true rfl)) dL_isWire_29 ⟨Nat.le_of_ble_eq_true rfl, Nat.le_of_ble_eq_true rfl⟩) hS (fun q _ h => hFc q h) hFc (fun zr u t H1 locs ht hvm hw hB hz1 hk1 hS => ?_)
                    obtain ⟨hP1, hD1⟩ := hB
                    rw [ht] at hP1
                    obtain ⟨hP, hD⟩ := va_join (wr := [cE x xv, (x 7, .inl (cA 0, 4, .inl (xd 6))), (x 8, .inl (cA 0, 4, .inl (xd 7))), (x 9, .inr (3, [.ref (x 10), .ref (x 11), .ref (x 12), .ref (x 13), .int (nI xf), .int (nI QX.1)])), (x 10, .inl (cA 0, 12, .inl (xr 0))), (x 11, .inl (cA 0, 12, .inl (xr 1))), (x 12, .inl (cA 0, 12, .inl (xr 2))), (x 13, .inl (cA 0, 48, .inl (xr 3))), (y 7, .inl (cA 0, 4, .inl (yd 6))), (y 8, .inl (cA 0, 4, .inl (yd 7))), (y 9, .inr (3, [.ref (y 10), .ref (y 11), .ref (y 12), .ref (y 13), .int (nI yf), .int (nI QY.1)])), (y 10, .inl (cA 0, 12, .inl (yr 0))), (y 11, .inl (cA 0, 12, .inl (yr 1))), (y 12, .inl (cA 0, 12, .inl (yr 2))), (y 13, .inl (cA 0, 48, .inl (yr 3))), (ln, .inr (0, [.ref vb'_16, .int 0, .int ml'_16, .int (nI ((lnT sx (xd 6) 4).length))])), (ca, .inl (cA 0, 3, .inl cc)), (vb'_16, .inl (cA 2, nb'_16, .inl g'_16))]) (w1 := [(o, .inr (4, [.ref F, .ref G, .int lo, .int nw, .int se, .ref (pa 0), .ref an, .ref ln])), cE y yv]) hP hD [0, 9] [1, 2, 3, 4, 5, 6, 7, 8, 10, 11, 12, 13, 14, 15, 16, 17, 18, 19] rfl rfl (by decide) (by decide) hk1 hFc hP1 hD1
                    generalize H1 = H at hP hS ⊢
                    have hP := hP.sub (ws' := [(o, .inr (4, [.ref F, .ref G, .int lo, .int nw, .int se, .ref (pa 0), .ref an, .ref ln])), cE x xv, (x 7, .inl (cA 0, 4, .inl (xd 6))), (x 8, .inl (cA 0, 4, .inl (xd 7))), (x 9, .inr (3, [.ref (x 10), .ref (x 11), .ref (x 12), .ref (x 13), .int (nI xf), .int (nI QX.1)])), (x 10, .inl (cA 0, 12, .inl (xr 0))), (x 11, .inl (cA 0, 12, .inl (xr 1))), (x 12, .inl (cA 0, 12, .inl (xr 2))), (x 13, .inl (cA 0, 48, .inl (xr 3))), cE y yv, (y 7, .inl (cA 0, 4, .inl (yd 6))), (y 8, .inl (cA 0, 4, .inl (yd 7))), (y 9, .inr (3, [.ref (y 10), .ref (y 11), .ref (y 12), .ref (y 13), .int (nI yf), .int (nI QY.1)])), (y 10, .inl (cA 0, 12, .inl (yr 0))), (y 11, .inl (cA 0, 12, .inl (yr 1))), (y 12, .inl (cA 0, 12, .inl (yr 2))), (y 13, .inl (cA 0, 48, .inl (yr 3))), (ln, .inr (0, [.ref vb'_16, .int 0, .int ml'_16, .int (nI ((lnT sx (xd 6) 4).length))])), (ca, .inl (cA 0, 3, .inl cc)), (vb'_16, .inl (cA 2, nb'_16, .inl g'_16))]) [18, 0, 1, 2, 3, 4, 5, 6, 7, 19, 8, 9, 10, 11, 12, 13, 14, 15, 16, 17] rfl
                    have hD := hD.sub (ws' := [(o, .inr (4, [.ref F, .ref G, .int lo, .int nw, .int se, .ref (pa 0), .ref an, .ref ln])), cE x xv, (x 7, .inl (cA 0, 4, .inl (xd 6))), (x 8, .inl (cA 0, 4, .inl (xd 7))), (x 9, .inr (3, [.ref (x 10), .ref (x 11), .ref (x 12), .ref (x 13), .int (nI xf), .int (nI QX.1)])), (x 10, .inl (cA 0, 12, .inl (xr 0))), (x 11, .inl (cA 0, 12, .inl (xr 1))), (x 12, .inl (cA 0, 12, .inl (xr 2))), (x 13, .inl (cA 0, 48, .inl (xr 3))), cE y yv, (y 7, .inl (cA 0, 4, .inl (yd 6))), (y 8, .inl (cA 0, 4, .inl (yd 7))), (y 9, .inr (3, [.ref (y 10), .ref (y 11), .ref (y 12), .ref (y 13), .int (nI yf), .int (nI QY.1)])), (y 10, .inl (cA 0, 12, .inl (yr 0))), (y 11, .inl (cA 0, 12, .inl (yr 1))), (y 12, .inl (cA 0, 12, .inl (yr 2))), (y 13, .inl (cA 0, 48, .inl (yr 3))), (ln, .inr (0, [.ref vb'_16, .int 0, .int ml'_16, .int (nI ((lnT sx (xd 6) 4).length))])), (ca, .inl (cA 0, 3, .inl cc)), (vb'_16, .inl (cA 2, nb'_16, .inl g'_16))]) [18, 0, 1, 2, 3, 4, 5, 6, 7, 19, 8, 9, 10, 11, 12, 13, 14, 15, 16, 17] (by decide) rfl
                    clear hPc hDc hFc hP1 hD1 hk1 hz1
                    have hw_28 := hw
                    obtain rfl := hw
                    refine z_top (y := (nI sy)) hy0 ?_
                    refine lv_istore (lv' := [(4, .int (nI sy)), (3, .int 1), (5, .int (nI j2)), (2, .int 1), (0, .ref o), (1, .ref ca)]) hx hb dL_isWire_32 hl (by decide) rfl (fun ls hl => ?_)
                    refine lv_iload hx hb dL_isWire_34 (lv_at hl 0 rfl) ?_
                    refine lv_if_lt (tgt := 130) hx hb dL_isWire_36 (by decide) (fun c_29 => ?_) (fun c_29 => ?_)
                    · have c_29 := (nI_ltI (a := sy) (b := 0) (by omega) (by omega)).mp c_29
                      omega
                    · have c_29 := mt (nI_ltI (a := sy) (b := 0) (by omega) (by omega)).mpr c_29
                      refine lv_iload hx hb dL_isWire_39 (lv_at hl 0 rfl) ?_
                      refine lv_bipush (v := 7) hx hb dL_isWire_41 (by decide) ?_
                      refine lv_icmp_gt (tgt := 130) hx hb dL_isWire_43 (by decide) (fun c_30 => ?_) (fun c_30 => ?_)
                      · have c_30 := (nI_ltI (a := 7) (b := sy) (by omega) (by omega)).mp c_30
                        omega
                      · have c_30 := mt (nI_ltI (a := 7) (b := sy) (by omega) (by omega)).mpr c_30
                        refine lv_aload_n hx hb dL_isWire_46 rfl (lv_at hl 4 rfl) ?_
                        refine lv_iload_n hx hb dL_isWire_47 rfl (lv_at hl 1 rfl) ?_
                        have hPc := hP.sub (ws' := [(o, .inr (4, [.ref F, .ref G, .int lo, .int nw, .int se, .ref (pa 0), .ref an, .ref ln])), cE y yv]) [0, 9] rfl
                        have hDc := hD.sub (ws' := [(o, .inr (4, [.ref F, .ref G, .int lo, .int nw, .int se, .ref (pa 0), .ref an, .ref ln])), cE y yv]) [0, 9] (by decide) rfl
                        have hFc := va_free (wc := [(o, .inr (4, [.ref F, .ref G, .int lo, .int nw, .int se, .ref (pa 0), .ref an, .ref ln])), cE y yv]) hD hS hA [0, 9] rfl
                        refine va_calli (va_runV (As := [.int 1]) (rest := []) ⟨hx, hb, hml, hown, hts⟩ (c_X3_tries_k l D cA H.size o F G lo nw se pa an ln y (x 0) 1 yv (by first | exact he | exact en_flip he | exact en_01 he | exact en_10 he)) (cwV 1 hts gL_isWire_X3_tries rfl rfl rfl (by decide +kernel) ⟨Nat.le_of_ble_eq_true rfl, Nat.le_of_ble_eq_true rfl⟩) ⟨zU_blind, va_recv hK hPc (ci := 4) (q0 := 0) rfl rfl, fun U hU hW => ⟨rfl, zU_call hU hPc hW.alike hK hDc⟩⟩ rfl rfl hl.1 rfl (lv_room (Nat.le_of_ble_eq_true rfl)) dL_isWire_48 ⟨Nat.le_of_ble_eq_true rfl, Nat.le_of_ble_eq_true rfl⟩) hS (fun q _ h => hFc q h) hFc (fun zr u t H1 locs ht hvm hw hB hz1 hk1 hS => ?_)
                        obtain ⟨hP1, hD1⟩ := hB
                        rw [ht] at hP1
                        obtain ⟨hP, hD⟩ := va_join (wr := [cE x xv, (x 7, .inl (cA 0, 4, .inl (xd 6))), (x 8, .inl (cA 0, 4, .inl (xd 7))), (x 9, .inr (3, [.ref (x 10), .ref (x 11), .ref (x 12), .ref (x 13), .int (nI xf), .int (nI QX.1)])), (x 10, .inl (cA 0, 12, .inl (xr 0))), (x 11, .inl (cA 0, 12, .inl (xr 1))), (x 12, .inl (cA 0, 12, .inl (xr 2))), (x 13, .inl (cA 0, 48, .inl (xr 3))), (y 7, .inl (cA 0, 4, .inl (yd 6))), (y 8, .inl (cA 0, 4, .inl (yd 7))), (y 9, .inr (3, [.ref (y 10), .ref (y 11), .ref (y 12), .ref (y 13), .int (nI yf), .int (nI QY.1)])), (y 10, .inl (cA 0, 12, .inl (yr 0))), (y 11, .inl (cA 0, 12, .inl (yr 1))), (y 12, .inl (cA 0, 12, .inl (yr 2))), (y 13, .inl (cA 0, 48, .inl (yr 3))), (ln, .inr (0, [.ref vb'_16, .int 0, .int ml'_16, .int (nI ((lnT sx (xd 6) 4).length))])), (ca, .inl (cA 0, 3, .inl cc)), (vb'_16, .inl (cA 2, nb'_16, .inl g'_16))]) (w1 := [(o, .inr (4, [.ref F, .ref G, .int lo, .int nw, .int se, .ref (pa 0), .ref an, .ref ln])), cE y yv]) hP hD [0, 9] [1, 2, 3, 4, 5, 6, 7, 8, 10, 11, 12, 13, 14, 15, 16, 17, 18, 19] rfl rfl (by decide) (by decide) hk1 hFc hP1 hD1
                        generalize H1 = H at hP hS ⊢
                        have hP := hP.sub (ws' := [(o, .inr (4, [.ref F, .ref G, .int lo, .int nw, .int se, .ref (pa 0), .ref an, .ref ln])), cE x xv, (x 7, .inl (cA 0, 4, .inl (xd 6))), (x 8, .inl (cA 0, 4, .inl (xd 7))), (x 9, .inr (3, [.ref (x 10), .ref (x 11), .ref (x 12), .ref (x 13), .int (nI xf), .int (nI QX.1)])), (x 10, .inl (cA 0, 12, .inl (xr 0))), (x 11, .inl (cA 0, 12, .inl (xr 1))), (x 12, .inl (cA 0, 12, .inl (xr 2))), (x 13, .inl (cA 0, 48, .inl (xr 3))), cE y yv, (y 7, .inl (cA 0, 4, .inl (yd 6))), (y 8, .inl (cA 0, 4, .inl (yd 7))), (y 9, .inr (3, [.ref (y 10), .ref (y 11), .ref (y 12), .ref (y 13), .int (nI yf), .int (nI QY.1)])), (y 10, .inl (cA 0, 12, .inl (yr 0))), (y 11, .inl (cA 0, 12, .inl (yr 1))), (y 12, .inl (cA 0, 12, .inl (yr 2))), (y 13, .inl (cA 0, 48, .inl (yr 3))), (ln, .inr (0, [.ref vb'_16, .int 0, .int ml'_16, .int (nI ((lnT sx (xd 6) 4).length))])), (ca, .inl (cA 0, 3, .inl cc)), (vb'_16, .inl (cA 2, nb'_16, .inl g'_16))]) [18, 0, 1, 2, 3, 4, 5, 6, 7, 19, 8, 9, 10, 11, 12, 13, 14, 15, 16, 17] rfl
                        have hD := hD.sub (ws' := [(o, .inr (4, [.ref F, .ref G, .int lo, .int nw, .int se, .ref (pa 0), .ref an, .ref ln])), cE x xv, (x 7, .inl (cA 0, 4, .inl (xd 6))), (x 8, .inl (cA 0, 4, .inl (xd 7))), (x 9, .inr (3, [.ref (x 10), .ref (x 11), .ref (x 12), .ref (x 13), .int (nI xf), .int (nI QX.1)])), (x 10, .inl (cA 0, 12, .inl (xr 0))), (x 11, .inl (cA 0, 12, .inl (xr 1))), (x 12, .inl (cA 0, 12, .inl (xr 2))), (x 13, .inl (cA 0, 48, .inl (xr 3))), cE y yv, (y 7, .inl (cA 0, 4, .inl (yd 6))), (y 8, .inl (cA 0, 4, .inl (yd 7))), (y 9, .inr (3, [.ref (y 10), .ref (y 11), .ref (y 12), .ref (y 13), .int (nI yf), .int (nI QY.1)])), (y 10, .inl (cA 0, 12, .inl (yr 0))), (y 11, .inl (cA 0, 12, .inl (yr 1))), (y 12, .inl (cA 0, 12, .inl (yr 2))), (y 13, .inl (cA 0, 48, .inl (yr 3))), (ln, .inr (0, [.ref vb'_16, .int 0, .int ml'_16, .int (nI ((lnT sx (xd 6) 4).length))])), (ca, .inl (cA 0, 3, .inl cc)), (vb'_16, .inl (cA 2, nb'_16, .inl g'_16))]) [18, 0, 1, 2, 3, 4, 5, 6, 7, 19, 8, 9, 10, 11, 12, 13, 14, 15, 16, 17] (by decide) rfl
                        clear hPc hDc hFc hP1 hD1 hk1 hz1
                        have hw_31 := hw
                        obtain rfl := hw
                        refine z_top (y := (nI ty)) hy3 ?_
                        refine lv_if_lt (tgt := 130) hx hb dL_isWire_51 (by decide) (fun c_32 => ?_) (fun c_32 => ?_)
                        · have c_32 := (nI_ltI (a := ty) (b := 0) (by omega) (by omega)).mp c_32
                          omega
                        · have c_32 := mt (nI_ltI (a := ty) (b := 0) (by omega) (by omega)).mpr c_32
                          refine lv_aload_n hx hb dL_isWire_54 rfl (lv_at hl 4 rfl) ?_
                          refine lv_iload_n hx hb dL_isWire_55 rfl (lv_at hl 1 rfl) ?_
                          have hPc := hP.sub (ws' := [(o, .inr (4, [.ref F, .ref G, .int lo, .int nw, .int se, .ref (pa 0), .ref an, .ref ln])), cE y yv]) [0, 9] rfl
                          have hDc := hD.sub (ws' := [(o, .inr (4, [.ref F, .ref G, .int lo, .int nw, .int se, .ref (pa 0), .ref an, .ref ln])), cE y yv]) [0, 9] (by decide) rfl
                          have hFc := va_free (wc := [(o, .inr (4, [.ref F, .ref G, .int lo, .int nw, .int se, .ref (pa 0), .ref an, .ref ln])), cE y yv]) hD hS hA [0, 9] rfl
                          refine va_calli (va_runV (As := [.int 1]) (rest := []) ⟨hx, hb, hml, hown, hts⟩ (c_X3_tries_k l D cA H.size o F G lo nw se pa an ln y (x 0) 1 yv (by first | exact he | exact en_flip he | exact en_01 he | exact en_10 he)) (cwV 1 hts gL_isWire_X3_tries rfl rfl rfl (by decide +kernel) ⟨Nat.le_of_ble_eq_true rfl, Nat.le_of_ble_eq_true rfl⟩) ⟨zU_blind, va_recv hK hPc (ci := 4) (q0 := 0) rfl rfl, fun U hU hW => ⟨rfl, zU_call hU hPc hW.alike hK hDc⟩⟩ rfl rfl hl.1 rfl (lv_room (Nat.le_of_ble_eq_true rfl)) dL_isWire_56 ⟨Nat.le_of_ble_eq_true rfl, Nat.le_of_ble_eq_true rfl⟩) hS (fun q _ h => hFc q h) hFc (fun zr u t H1 locs ht hvm hw hB hz1 hk1 hS => ?_)
                          obtain ⟨hP1, hD1⟩ := hB
                          rw [ht] at hP1
                          obtain ⟨hP, hD⟩ := va_join (wr := [cE x xv, (x 7, .inl (cA 0, 4, .inl (xd 6))), (x 8, .inl (cA 0, 4, .inl (xd 7))), (x 9, .inr (3, [.ref (x 10), .ref (x 11), .ref (x 12), .ref (x 13), .int (nI xf), .int (nI QX.1)])), (x 10, .inl (cA 0, 12, .inl (xr 0))), (x 11, .inl (cA 0, 12, .inl (xr 1))), (x 12, .inl (cA 0, 12, .inl (xr 2))), (x 13, .inl (cA 0, 48, .inl (xr 3))), (y 7, .inl (cA 0, 4, .inl (yd 6))), (y 8, .inl (cA 0, 4, .inl (yd 7))), (y 9, .inr (3, [.ref (y 10), .ref (y 11), .ref (y 12), .ref (y 13), .int (nI yf), .int (nI QY.1)])), (y 10, .inl (cA 0, 12, .inl (yr 0))), (y 11, .inl (cA 0, 12, .inl (yr 1))), (y 12, .inl (cA 0, 12, .inl (yr 2))), (y 13, .inl (cA 0, 48, .inl (yr 3))), (ln, .inr (0, [.ref vb'_16, .int 0, .int ml'_16, .int (nI ((lnT sx (xd 6) 4).length))])), (ca, .inl (cA 0, 3, .inl cc)), (vb'_16, .inl (cA 2, nb'_16, .inl g'_16))]) (w1 := [(o, .inr (4, [.ref F, .ref G, .int lo, .int nw, .int se, .ref (pa 0), .ref an, .ref ln])), cE y yv]) hP hD [0, 9] [1, 2, 3, 4, 5, 6, 7, 8, 10, 11, 12, 13, 14, 15, 16, 17, 18, 19] rfl rfl (by decide) (by decide) hk1 hFc hP1 hD1
                          generalize H1 = H at hP hS ⊢
                          have hP := hP.sub (ws' := [(o, .inr (4, [.ref F, .ref G, .int lo, .int nw, .int se, .ref (pa 0), .ref an, .ref ln])), cE x xv, (x 7, .inl (cA 0, 4, .inl (xd 6))), (x 8, .inl (cA 0, 4, .inl (xd 7))), (x 9, .inr (3, [.ref (x 10), .ref (x 11), .ref (x 12), .ref (x 13), .int (nI xf), .int (nI QX.1)])), (x 10, .inl (cA 0, 12, .inl (xr 0))), (x 11, .inl (cA 0, 12, .inl (xr 1))), (x 12, .inl (cA 0, 12, .inl (xr 2))), (x 13, .inl (cA 0, 48, .inl (xr 3))), cE y yv, (y 7, .inl (cA 0, 4, .inl (yd 6))), (y 8, .inl (cA 0, 4, .inl (yd 7))), (y 9, .inr (3, [.ref (y 10), .ref (y 11), .ref (y 12), .ref (y 13), .int (nI yf), .int (nI QY.1)])), (y 10, .inl (cA 0, 12, .inl (yr 0))), (y 11, .inl (cA 0, 12, .inl (yr 1))), (y 12, .inl (cA 0, 12, .inl (yr 2))), (y 13, .inl (cA 0, 48, .inl (yr 3))), (ln, .inr (0, [.ref vb'_16, .int 0, .int ml'_16, .int (nI ((lnT sx (xd 6) 4).length))])), (ca, .inl (cA 0, 3, .inl cc)), (vb'_16, .inl (cA 2, nb'_16, .inl g'_16))]) [18, 0, 1, 2, 3, 4, 5, 6, 7, 19, 8, 9, 10, 11, 12, 13, 14, 15, 16, 17] rfl
                          have hD := hD.sub (ws' := [(o, .inr (4, [.ref F, .ref G, .int lo, .int nw, .int se, .ref (pa 0), .ref an, .ref ln])), cE x xv, (x 7, .inl (cA 0, 4, .inl (xd 6))), (x 8, .inl (cA 0, 4, .inl (xd 7))), (x 9, .inr (3, [.ref (x 10), .ref (x 11), .ref (x 12), .ref (x 13), .int (nI xf), .int (nI QX.1)])), (x 10, .inl (cA 0, 12, .inl (xr 0))), (x 11, .inl (cA 0, 12, .inl (xr 1))), (x 12, .inl (cA 0, 12, .inl (xr 2))), (x 13, .inl (cA 0, 48, .inl (xr 3))), cE y yv, (y 7, .inl (cA 0, 4, .inl (yd 6))), (y 8, .inl (cA 0, 4, .inl (yd 7))), (y 9, .inr (3, [.ref (y 10), .ref (y 11), .ref (y 12), .ref (y 13), .int (nI yf), .int (nI QY.1)])), (y 10, .inl (cA 0, 12, .inl (yr 0))), (y 11, .inl (cA 0, 12, .inl (yr 1))), (y 12, .inl (cA 0, 12, .inl (yr 2))), (y 13, .inl (cA 0, 48, .inl (yr 3))), (ln, .inr (0, [.ref vb'_16, .int 0, .int ml'_16, .int (nI ((lnT sx (xd 6) 4).length))])), (ca, .inl (cA 0, 3, .inl cc)), (vb'_16, .inl (cA 2, nb'_16, .inl g'_16))]) [18, 0, 1, 2, 3, 4, 5, 6, 7, 19, 8, 9, 10, 11, 12, 13, 14, 15, 16, 17] (by decide) rfl
                          clear hPc hDc hFc hP1 hD1 hk1 hz1
                          have hw_33 := hw
                          obtain rfl := hw
                          refine z_top (y := (nI ty)) hy3 ?_
                          refine lv_bipush (v := 10) hx hb dL_isWire_59 (by decide) ?_
                          refine lv_icmp_gt (tgt := 130) hx hb dL_isWire_61 (by decide) (fun c_34 => ?_) (fun c_34 => ?_)
                          · have c_34 := (nI_ltI (a := 10) (b := ty) (by omega) (by omega)).mp c_34
                            omega
                          · have c_34 := mt (nI_ltI (a := 10) (b := ty) (by omega) (by omega)).mpr c_34
                            refine lv_aload_n hx hb dL_isWire_64 rfl (lv_at hl 4 rfl) ?_
                            refine lv_iload_n hx hb dL_isWire_65 rfl (lv_at hl 1 rfl) ?_
                            have hPc := hP.sub (ws' := [(o, .inr (4, [.ref F, .ref G, .int lo, .int nw, .int se, .ref (pa 0), .ref an, .ref ln])), cE y yv, (y 9, .inr (3, [.ref (y 10), .ref (y 11), .ref (y 12), .ref (y 13), .int (nI yf), .int (nI QY.1)]))]) [0, 9, 12] rfl
                            have hDc := hD.sub (ws' := [(o, .inr (4, [.ref F, .ref G, .int lo, .int nw, .int se, .ref (pa 0), .ref an, .ref ln])), cE y yv, (y 9, .inr (3, [.ref (y 10), .ref (y 11), .ref (y 12), .ref (y 13), .int (nI yf), .int (nI QY.1)]))]) [0, 9, 12] (by decide) rfl
                            have hFc := va_free (wc := [(o, .inr (4, [.ref F, .ref G, .int lo, .int nw, .int se, .ref (pa 0), .ref an, .ref ln])), cE y yv, (y 9, .inr (3, [.ref (y 10), .ref (y 11), .ref (y 12), .ref (y 13), .int (nI yf), .int (nI QY.1)]))]) hD hS hA [0, 9, 12] rfl
                            refine va_calli (va_runV (As := [.int 1]) (rest := []) ⟨hx, hb, hml, hown, hts⟩ (c_X3_waiting_k l D cA H.size o F G lo nw se pa an ln y (x 0) 1 yv yf QY (by first | exact he | exact en_flip he | exact en_01 he | exact en_10 he)) (cwV 1 hts gL_isWire_X3_waiting rfl rfl rfl (by decide +kernel) ⟨Nat.le_of_ble_eq_true rfl, Nat.le_of_ble_eq_true rfl⟩) ⟨zU_blind, va_recv hK hPc (ci := 4) (q0 := 0) rfl rfl, fun U hU hW => ⟨rfl, zU_call hU hPc hW.alike hK hDc⟩⟩ rfl rfl hl.1 rfl (lv_room (Nat.le_of_ble_eq_true rfl)) dL_isWire_66 ⟨Nat.le_of_ble_eq_true rfl, Nat.le_of_ble_eq_true rfl⟩) hS (fun q _ h => hFc q h) hFc (fun zr u t H1 locs ht hvm hw hB hz1 hk1 hS => ?_)
                            obtain ⟨hP1, hD1⟩ := hB
                            rw [ht] at hP1
                            obtain ⟨hP, hD⟩ := va_join (wr := [cE x xv, (x 7, .inl (cA 0, 4, .inl (xd 6))), (x 8, .inl (cA 0, 4, .inl (xd 7))), (x 9, .inr (3, [.ref (x 10), .ref (x 11), .ref (x 12), .ref (x 13), .int (nI xf), .int (nI QX.1)])), (x 10, .inl (cA 0, 12, .inl (xr 0))), (x 11, .inl (cA 0, 12, .inl (xr 1))), (x 12, .inl (cA 0, 12, .inl (xr 2))), (x 13, .inl (cA 0, 48, .inl (xr 3))), (y 7, .inl (cA 0, 4, .inl (yd 6))), (y 8, .inl (cA 0, 4, .inl (yd 7))), (y 10, .inl (cA 0, 12, .inl (yr 0))), (y 11, .inl (cA 0, 12, .inl (yr 1))), (y 12, .inl (cA 0, 12, .inl (yr 2))), (y 13, .inl (cA 0, 48, .inl (yr 3))), (ln, .inr (0, [.ref vb'_16, .int 0, .int ml'_16, .int (nI ((lnT sx (xd 6) 4).length))])), (ca, .inl (cA 0, 3, .inl cc)), (vb'_16, .inl (cA 2, nb'_16, .inl g'_16))]) (w1 := [(o, .inr (4, [.ref F, .ref G, .int lo, .int nw, .int se, .ref (pa 0), .ref an, .ref ln])), cE y yv, (y 9, .inr (3, [.ref (y 10), .ref (y 11), .ref (y 12), .ref (y 13), .int (nI yf), .int (nI QY.1)]))]) hP hD [0, 9, 12] [1, 2, 3, 4, 5, 6, 7, 8, 10, 11, 13, 14, 15, 16, 17, 18, 19] rfl rfl (by decide) (by decide) hk1 hFc hP1 hD1
                            generalize H1 = H at hP hS ⊢
                            have hP := hP.sub (ws' := [(o, .inr (4, [.ref F, .ref G, .int lo, .int nw, .int se, .ref (pa 0), .ref an, .ref ln])), cE x xv, (x 7, .inl (cA 0, 4, .inl (xd 6))), (x 8, .inl (cA 0, 4, .inl (xd 7))), (x 9, .inr (3, [.ref (x 10), .ref (x 11), .ref (x 12), .ref (x 13), .int (nI xf), .int (nI QX.1)])), (x 10, .inl (cA 0, 12, .inl (xr 0))), (x 11, .inl (cA 0, 12, .inl (xr 1))), (x 12, .inl (cA 0, 12, .inl (xr 2))), (x 13, .inl (cA 0, 48, .inl (xr 3))), cE y yv, (y 7, .inl (cA 0, 4, .inl (yd 6))), (y 8, .inl (cA 0, 4, .inl (yd 7))), (y 9, .inr (3, [.ref (y 10), .ref (y 11), .ref (y 12), .ref (y 13), .int (nI yf), .int (nI QY.1)])), (y 10, .inl (cA 0, 12, .inl (yr 0))), (y 11, .inl (cA 0, 12, .inl (yr 1))), (y 12, .inl (cA 0, 12, .inl (yr 2))), (y 13, .inl (cA 0, 48, .inl (yr 3))), (ln, .inr (0, [.ref vb'_16, .int 0, .int ml'_16, .int (nI ((lnT sx (xd 6) 4).length))])), (ca, .inl (cA 0, 3, .inl cc)), (vb'_16, .inl (cA 2, nb'_16, .inl g'_16))]) [17, 0, 1, 2, 3, 4, 5, 6, 7, 18, 8, 9, 19, 10, 11, 12, 13, 14, 15, 16] rfl
                            have hD := hD.sub (ws' := [(o, .inr (4, [.ref F, .ref G, .int lo, .int nw, .int se, .ref (pa 0), .ref an, .ref ln])), cE x xv, (x 7, .inl (cA 0, 4, .inl (xd 6))), (x 8, .inl (cA 0, 4, .inl (xd 7))), (x 9, .inr (3, [.ref (x 10), .ref (x 11), .ref (x 12), .ref (x 13), .int (nI xf), .int (nI QX.1)])), (x 10, .inl (cA 0, 12, .inl (xr 0))), (x 11, .inl (cA 0, 12, .inl (xr 1))), (x 12, .inl (cA 0, 12, .inl (xr 2))), (x 13, .inl (cA 0, 48, .inl (xr 3))), cE y yv, (y 7, .inl (cA 0, 4, .inl (yd 6))), (y 8, .inl (cA 0, 4, .inl (yd 7))), (y 9, .inr (3, [.ref (y 10), .ref (y 11), .ref (y 12), .ref (y 13), .int (nI yf), .int (nI QY.1)])), (y 10, .inl (cA 0, 12, .inl (yr 0))), (y 11, .inl (cA 0, 12, .inl (yr 1))), (y 12, .inl (cA 0, 12, .inl (yr 2))), (y 13, .inl (cA 0, 48, .inl (yr 3))), (ln, .inr (0, [.ref vb'_16, .int 0, .int ml'_16, .int (nI ((lnT sx (xd 6) 4).length))])), (ca, .inl (cA 0, 3, .inl cc)), (vb'_16, .inl (cA 2, nb'_16, .inl g'_16))]) [17, 0, 1, 2, 3, 4, 5, 6, 7, 18, 8, 9, 19, 10, 11, 12, 13, 14, 15, 16] (by decide) rfl
                            clear hPc hDc hFc hP1 hD1 hk1 hz1
                            have hw_35 := hw
                            obtain rfl := hw
                            refine lv_if_lt (tgt := 130) hx hb dL_isWire_69 (by decide) (fun c_36 => ?_) (fun c_36 => ?_)
                            · have c_36 := (nI_ltI (a := QY.1) (b := 0) (by omega) (by omega)).mp c_36
                              omega
                            · have c_36 := mt (nI_ltI (a := QY.1) (b := 0) (by omega) (by omega)).mpr c_36
                              refine lv_aload_n hx hb dL_isWire_72 rfl (lv_at hl 4 rfl) ?_
                              refine lv_iload_n hx hb dL_isWire_73 rfl (lv_at hl 1 rfl) ?_
                              have hPc := hP.sub (ws' := [(o, .inr (4, [.ref F, .ref G, .int lo, .int nw, .int se, .ref (pa 0), .ref an, .ref ln])), cE y yv, (y 9, .inr (3, [.ref (y 10), .ref (y 11), .ref (y 12), .ref (y 13), .int (nI yf), .int (nI QY.1)]))]) [0, 9, 12] rfl
                              have hDc := hD.sub (ws' := [(o, .inr (4, [.ref F, .ref G, .int lo, .int nw, .int se, .ref (pa 0), .ref an, .ref ln])), cE y yv, (y 9, .inr (3, [.ref (y 10), .ref (y 11), .ref (y 12), .ref (y 13), .int (nI yf), .int (nI QY.1)]))]) [0, 9, 12] (by decide) rfl
                              have hFc := va_free (wc := [(o, .inr (4, [.ref F, .ref G, .int lo, .int nw, .int se, .ref (pa 0), .ref an, .ref ln])), cE y yv, (y 9, .inr (3, [.ref (y 10), .ref (y 11), .ref (y 12), .ref (y 13), .int (nI yf), .int (nI QY.1)]))]) hD hS hA [0, 9, 12] rfl
                              refine va_calli (va_runV (As := [.int 1]) (rest := []) ⟨hx, hb, hml, hown, hts⟩ (c_X3_waiting_k l D cA H.size o F G lo nw se pa an ln y (x 0) 1 yv yf QY (by first | exact he | exact en_flip he | exact en_01 he | exact en_10 he)) (cwV 1 hts gL_isWire_X3_waiting rfl rfl rfl (by decide +kernel) ⟨Nat.le_of_ble_eq_true rfl, Nat.le_of_ble_eq_true rfl⟩) ⟨zU_blind, va_recv hK hPc (ci := 4) (q0 := 0) rfl rfl, fun U hU hW => ⟨rfl, zU_call hU hPc hW.alike hK hDc⟩⟩ rfl rfl hl.1 rfl (lv_room (Nat.le_of_ble_eq_true rfl)) dL_isWire_74 ⟨Nat.le_of_ble_eq_true rfl, Nat.le_of_ble_eq_true rfl⟩) hS (fun q _ h => hFc q h) hFc (fun zr u t H1 locs ht hvm hw hB hz1 hk1 hS => ?_)
                              obtain ⟨hP1, hD1⟩ := hB
                              rw [ht] at hP1
                              obtain ⟨hP, hD⟩ := va_join (wr := [cE x xv, (x 7, .inl (cA 0, 4, .inl (xd 6))), (x 8, .inl (cA 0, 4, .inl (xd 7))), (x 9, .inr (3, [.ref (x 10), .ref (x 11), .ref (x 12), .ref (x 13), .int (nI xf), .int (nI QX.1)])), (x 10, .inl (cA 0, 12, .inl (xr 0))), (x 11, .inl (cA 0, 12, .inl (xr 1))), (x 12, .inl (cA 0, 12, .inl (xr 2))), (x 13, .inl (cA 0, 48, .inl (xr 3))), (y 7, .inl (cA 0, 4, .inl (yd 6))), (y 8, .inl (cA 0, 4, .inl (yd 7))), (y 10, .inl (cA 0, 12, .inl (yr 0))), (y 11, .inl (cA 0, 12, .inl (yr 1))), (y 12, .inl (cA 0, 12, .inl (yr 2))), (y 13, .inl (cA 0, 48, .inl (yr 3))), (ln, .inr (0, [.ref vb'_16, .int 0, .int ml'_16, .int (nI ((lnT sx (xd 6) 4).length))])), (ca, .inl (cA 0, 3, .inl cc)), (vb'_16, .inl (cA 2, nb'_16, .inl g'_16))]) (w1 := [(o, .inr (4, [.ref F, .ref G, .int lo, .int nw, .int se, .ref (pa 0), .ref an, .ref ln])), cE y yv, (y 9, .inr (3, [.ref (y 10), .ref (y 11), .ref (y 12), .ref (y 13), .int (nI yf), .int (nI QY.1)]))]) hP hD [0, 9, 12] [1, 2, 3, 4, 5, 6, 7, 8, 10, 11, 13, 14, 15, 16, 17, 18, 19] rfl rfl (by decide) (by decide) hk1 hFc hP1 hD1
                              generalize H1 = H at hP hS ⊢
                              have hP := hP.sub (ws' := [(o, .inr (4, [.ref F, .ref G, .int lo, .int nw, .int se, .ref (pa 0), .ref an, .ref ln])), cE x xv, (x 7, .inl (cA 0, 4, .inl (xd 6))), (x 8, .inl (cA 0, 4, .inl (xd 7))), (x 9, .inr (3, [.ref (x 10), .ref (x 11), .ref (x 12), .ref (x 13), .int (nI xf), .int (nI QX.1)])), (x 10, .inl (cA 0, 12, .inl (xr 0))), (x 11, .inl (cA 0, 12, .inl (xr 1))), (x 12, .inl (cA 0, 12, .inl (xr 2))), (x 13, .inl (cA 0, 48, .inl (xr 3))), cE y yv, (y 7, .inl (cA 0, 4, .inl (yd 6))), (y 8, .inl (cA 0, 4, .inl (yd 7))), (y 9, .inr (3, [.ref (y 10), .ref (y 11), .ref (y 12), .ref (y 13), .int (nI yf), .int (nI QY.1)])), (y 10, .inl (cA 0, 12, .inl (yr 0))), (y 11, .inl (cA 0, 12, .inl (yr 1))), (y 12, .inl (cA 0, 12, .inl (yr 2))), (y 13, .inl (cA 0, 48, .inl (yr 3))), (ln, .inr (0, [.ref vb'_16, .int 0, .int ml'_16, .int (nI ((lnT sx (xd 6) 4).length))])), (ca, .inl (cA 0, 3, .inl cc)), (vb'_16, .inl (cA 2, nb'_16, .inl g'_16))]) [17, 0, 1, 2, 3, 4, 5, 6, 7, 18, 8, 9, 19, 10, 11, 12, 13, 14, 15, 16] rfl
                              have hD := hD.sub (ws' := [(o, .inr (4, [.ref F, .ref G, .int lo, .int nw, .int se, .ref (pa 0), .ref an, .ref ln])), cE x xv, (x 7, .inl (cA 0, 4, .inl (xd 6))), (x 8, .inl (cA 0, 4, .inl (xd 7))), (x 9, .inr (3, [.ref (x 10), .ref (x 11), .ref (x 12), .ref (x 13), .int (nI xf), .int (nI QX.1)])), (x 10, .inl (cA 0, 12, .inl (xr 0))), (x 11, .inl (cA 0, 12, .inl (xr 1))), (x 12, .inl (cA 0, 12, .inl (xr 2))), (x 13, .inl (cA 0, 48, .inl (xr 3))), cE y yv, (y 7, .inl (cA 0, 4, .inl (yd 6))), (y 8, .inl (cA 0, 4, .inl (yd 7))), (y 9, .inr (3, [.ref (y 10), .ref (y 11), .ref (y 12), .ref (y 13), .int (nI yf), .int (nI QY.1)])), (y 10, .inl (cA 0, 12, .inl (yr 0))), (y 11, .inl (cA 0, 12, .inl (yr 1))), (y 12, .inl (cA 0, 12, .inl (yr 2))), (y 13, .inl (cA 0, 48, .inl (yr 3))), (ln, .inr (0, [.ref vb'_16, .int 0, .int ml'_16, .int (nI ((lnT sx (xd 6) 4).length))])), (ca, .inl (cA 0, 3, .inl cc)), (vb'_16, .inl (cA 2, nb'_16, .inl g'_16))]) [17, 0, 1, 2, 3, 4, 5, 6, 7, 18, 8, 9, 19, 10, 11, 12, 13, 14, 15, 16] (by decide) rfl
                              clear hPc hDc hFc hP1 hD1 hk1 hz1
                              have hw_37 := hw
                              obtain rfl := hw
                              refine lv_bipush (v := 12) hx hb dL_isWire_77 (by decide) ?_
                              refine lv_icmp_gt (tgt := 130) hx hb dL_isWire_79 (by decide) (fun c_38 => ?_) (fun c_38 => ?_)
                              · have c_38 := (nI_ltI (a := 12) (b := QY.1) (by omega) (by omega)).mp c_38
                                omega
                              · have c_38 := mt (nI_ltI (a := 12) (b := QY.1) (by omega) (by omega)).mpr c_38
                                refine lv_aload_n hx hb dL_isWire_82 rfl (lv_at hl 4 rfl) ?_
                                refine lv_iload_n hx hb dL_isWire_83 rfl (lv_at hl 1 rfl) ?_
                                have hPc := hP.sub (ws' := [(o, .inr (4, [.ref F, .ref G, .int lo, .int nw, .int se, .ref (pa 0), .ref an, .ref ln])), cE y yv, (y 7, .inl (cA 0, 4, .inl (yd 6))), (ln, .inr (0, [.ref vb'_16, .int 0, .int ml'_16, .int (nI ((lnT sx (xd 6) 4).length))])), (vb'_16, .inl (cA 2, nb'_16, .inl g'_16))]) [0, 9, 10, 17, 19] rfl
                                have hDc := hD.sub (ws' := [(o, .inr (4, [.ref F, .ref G, .int lo, .int nw, .int se, .ref (pa 0), .ref an, .ref ln])), cE y yv, (y 7, .inl (cA 0, 4, .inl (yd 6))), (ln, .inr (0, [.ref vb'_16, .int 0, .int ml'_16, .int (nI ((lnT sx (xd 6) 4).length))])), (vb'_16, .inl (cA 2, nb'_16, .inl g'_16))]) [0, 9, 10, 17, 19] (by decide) rfl
                                have hFc := va_free (wc := [(o, .inr (4, [.ref F, .ref G, .int lo, .int nw, .int se, .ref (pa 0), .ref an, .ref ln])), cE y yv, (y 7, .inl (cA 0, 4, .inl (yd 6))), (ln, .inr (0, [.ref vb'_16, .int 0, .int ml'_16, .int (nI ((lnT sx (xd 6) 4).length))])), (vb'_16, .inl (cA 2, nb'_16, .inl g'_16))]) hD hS hA [0, 9, 10, 17, 19] rfl
                                refine va_calli (va_runS (As := [.ref o, .int 1]) (rest := []) ⟨hx, hb, hml, hown, hts⟩ (c_L_isLine l D cA zv H.size o F G lo nw se pa an ln y (x 0) 1 yv sy vb'_16 nb'_16 ((lnT sx (xd 6) 4).length) ml'_16 (yd 6) g'_16 (by first | exact he | exact en_flip he | exact en_01 he | exact en_10 he) (by omega) hy0 (fun j hj => (hI.sw.2.1.1.1 j hj).2.1) hw_16_0.1 (by have q9 := hw_16_0.2.1; omega) hw_16_0.2.2.1) (va_cwS 2 hts gL_isWire_L_isLine rfl rfl rfl (by decide +kernel) ⟨Nat.le_of_ble_eq_true rfl, Nat.le_of_ble_eq_true rfl⟩) ⟨zUX_blind, fun U hU hW => ⟨rfl, zUX_call hE0 hX0 hS hFc hU hPc hW hK hDc⟩⟩ rfl rfl hl.1 rfl (lv_room (Nat.le_of_ble_eq_true rfl)) dL_isWire_84 ⟨Nat.le_of_ble_eq_true rfl, Nat.le_of_ble_eq_true rfl⟩) hS (fun q _ h => hFc q h) hFc (fun zr u t H1 locs ht hvm hw hB hz1 hk1 hS => ?_)
                                obtain ⟨vb'_39, ml'_39, nb'_39, g'_39⟩ := u
                                obtain ⟨hP1, hD1⟩ := hB
                                rw [ht] at hP1
                                try dsimp only at hw hP1 hD1
                                obtain ⟨hP, hD⟩ := va_join (wr := [cE x xv, (x 7, .inl (cA 0, 4, .inl (xd 6))), (x 8, .inl (cA 0, 4, .inl (xd 7))), (x 9, .inr (3, [.ref (x 10), .ref (x 11), .ref (x 12), .ref (x 13), .int (nI xf), .int (nI QX.1)])), (x 10, .inl (cA 0, 12, .inl (xr 0))), (x 11, .inl (cA 0, 12, .inl (xr 1))), (x 12, .inl (cA 0, 12, .inl (xr 2))), (x 13, .inl (cA 0, 48, .inl (xr 3))), (y 8, .inl (cA 0, 4, .inl (yd 7))), (y 9, .inr (3, [.ref (y 10), .ref (y 11), .ref (y 12), .ref (y 13), .int (nI yf), .int (nI QY.1)])), (y 10, .inl (cA 0, 12, .inl (yr 0))), (y 11, .inl (cA 0, 12, .inl (yr 1))), (y 12, .inl (cA 0, 12, .inl (yr 2))), (y 13, .inl (cA 0, 48, .inl (yr 3))), (ca, .inl (cA 0, 3, .inl cc))]) (w1 := [(o, .inr (4, [.ref F, .ref G, .int lo, .int nw, .int se, .ref (pa 0), .ref an, .ref ln])), cE y yv, (y 7, .inl (cA 0, 4, .inl (yd 6))), (ln, .inr (0, [.ref vb'_39, .int 0, .int ml'_39, .int (nI ((lnT sy (yd 6) 4).length))])), (vb'_39, .inl (cA 2, nb'_39, .inl g'_39))]) hP hD [0, 9, 10, 17, 19] [1, 2, 3, 4, 5, 6, 7, 8, 11, 12, 13, 14, 15, 16, 18] rfl rfl (by decide) (by decide) hk1 hFc hP1 hD1
                                generalize H1 = H at hP hS ⊢
                                have hP := hP.sub (ws' := [(o, .inr (4, [.ref F, .ref G, .int lo, .int nw, .int se, .ref (pa 0), .ref an, .ref ln])), cE x xv, (x 7, .inl (cA 0, 4, .inl (xd 6))), (x 8, .inl (cA 0, 4, .inl (xd 7))), (x 9, .inr (3, [.ref (x 10), .ref (x 11), .ref (x 12), .ref (x 13), .int (nI xf), .int (nI QX.1)])), (x 10, .inl (cA 0, 12, .inl (xr 0))), (x 11, .inl (cA 0, 12, .inl (xr 1))), (x 12, .inl (cA 0, 12, .inl (xr 2))), (x 13, .inl (cA 0, 48, .inl (xr 3))), cE y yv, (y 7, .inl (cA 0, 4, .inl (yd 6))), (y 8, .inl (cA 0, 4, .inl (yd 7))), (y 9, .inr (3, [.ref (y 10), .ref (y 11), .ref (y 12), .ref (y 13), .int (nI yf), .int (nI QY.1)])), (y 10, .inl (cA 0, 12, .inl (yr 0))), (y 11, .inl (cA 0, 12, .inl (yr 1))), (y 12, .inl (cA 0, 12, .inl (yr 2))), (y 13, .inl (cA 0, 48, .inl (yr 3))), (ln, .inr (0, [.ref vb'_39, .int 0, .int ml'_39, .int (nI ((lnT sy (yd 6) 4).length))])), (ca, .inl (cA 0, 3, .inl cc)), (vb'_39, .inl (cA 2, nb'_39, .inl g'_39))]) [15, 0, 1, 2, 3, 4, 5, 6, 7, 16, 17, 8, 9, 10, 11, 12, 13, 18, 14, 19] rfl
                                have hD := hD.sub (ws' := [(o, .inr (4, [.ref F, .ref G, .int lo, .int nw, .int se, .ref (pa 0), .ref an, .ref ln])), cE x xv, (x 7, .inl (cA 0, 4, .inl (xd 6))), (x 8, .inl (cA 0, 4, .inl (xd 7))), (x 9, .inr (3, [.ref (x 10), .ref (x 11), .ref (x 12), .ref (x 13), .int (nI xf), .int (nI QX.1)])), (x 10, .inl (cA 0, 12, .inl (xr 0))), (x 11, .inl (cA 0, 12, .inl (xr 1))), (x 12, .inl (cA 0, 12, .inl (xr 2))), (x 13, .inl (cA 0, 48, .inl (xr 3))), cE y yv, (y 7, .inl (cA 0, 4, .inl (yd 6))), (y 8, .inl (cA 0, 4, .inl (yd 7))), (y 9, .inr (3, [.ref (y 10), .ref (y 11), .ref (y 12), .ref (y 13), .int (nI yf), .int (nI QY.1)])), (y 10, .inl (cA 0, 12, .inl (yr 0))), (y 11, .inl (cA 0, 12, .inl (yr 1))), (y 12, .inl (cA 0, 12, .inl (yr 2))), (y 13, .inl (cA 0, 48, .inl (yr 3))), (ln, .inr (0, [.ref vb'_39, .int 0, .int ml'_39, .int (nI ((lnT sy (yd 6) 4).length))])), (ca, .inl (cA 0, 3, .inl cc)), (vb'_39, .inl (cA 2, nb'_39, .inl g'_39))]) [15, 0, 1, 2, 3, 4, 5, 6, 7, 16, 17, 8, 9, 10, 11, 12, 13, 18, 14, 19] (by decide) rfl
                                clear hPc hDc hFc hP1 hD1 hk1 hz1
                                refine W.widen (k := 30) (n := 910) (by omega) (by omega) ?_
                                obtain ⟨hw_39_0, hw_39_1⟩ := hw
                                obtain rfl := hw_39_1
                                refine lv_if_eq (tgt := 130) hx hb dL_isWire_87 (by decide) (fun c_40 => absurd c_40 (by decide)) (fun _ => ?_)
                                refine lv_aload_n hx hb dL_isWire_90 rfl (lv_at hl 4 rfl) ?_
                                refine lv_bipush (v := 7) hx hb dL_isWire_91 (by decide) ?_
                                refine lv_iload_n hx hb dL_isWire_93 rfl (lv_at hl 1 rfl) ?_
                                refine lv_aload_n hx hb dL_isWire_94 rfl (lv_at hl 4 rfl) ?_
                                refine lv_iload_n hx hb dL_isWire_95 rfl (lv_at hl 1 rfl) ?_
                                have hPc := hP.sub (ws' := [(o, .inr (4, [.ref F, .ref G, .int lo, .int nw, .int se, .ref (pa 0), .ref an, .ref ln])), cE y yv, (y 9, .inr (3, [.ref (y 10), .ref (y 11), .ref (y 12), .ref (y 13), .int (nI yf), .int (nI QY.1)]))]) [0, 9, 12] rfl
                                have hDc := hD.sub (ws' := [(o, .inr (4, [.ref F, .ref G, .int lo, .int nw, .int se, .ref (pa 0), .ref an, .ref ln])), cE y yv, (y 9, .inr (3, [.ref (y 10), .ref (y 11), .ref (y 12), .ref (y 13), .int (nI yf), .int (nI QY.1)]))]) [0, 9, 12] (by decide) rfl
                                have hFc := va_free (wc := [(o, .inr (4, [.ref F, .ref G, .int lo, .int nw, .int se, .ref (pa 0), .ref an, .ref ln])), cE y yv, (y 9, .inr (3, [.ref (y 10), .ref (y 11), .ref (y 12), .ref (y 13), .int (nI yf), .int (nI QY.1)]))]) hD hS hA [0, 9, 12] rfl
                                refine va_calli (va_runV (As := [.int 1]) (rest := [.int 1, .int 7, .ref o]) ⟨hx, hb, hml, hown, hts⟩ (c_X3_waiting_k l D cA H.size o F G lo nw se pa an ln y (x 0) 1 yv yf QY (by first | exact he | exact en_flip he | exact en_01 he | exact en_10 he)) (cwV 1 hts gL_isWire_X3_waiting rfl rfl rfl (by decide +kernel) ⟨Nat.le_of_ble_eq_true rfl, Nat.le_of_ble_eq_true rfl⟩) ⟨zU_blind, va_recv hK hPc (ci := 4) (q0 := 0) rfl rfl, fun U hU hW => ⟨rfl, zU_call hU hPc hW.alike hK hDc⟩⟩ rfl rfl hl.1 rfl (lv_room (Nat.le_of_ble_eq_true rfl)) dL_isWire_96 ⟨Nat.le_of_ble_eq_true rfl, Nat.le_of_ble_eq_true rfl⟩) hS (fun q _ h => hFc q h) hFc (fun zr u t H1 locs ht hvm hw hB hz1 hk1 hS => ?_)
                                obtain ⟨hP1, hD1⟩ := hB
                                rw [ht] at hP1
                                obtain ⟨hP, hD⟩ := va_join (wr := [cE x xv, (x 7, .inl (cA 0, 4, .inl (xd 6))), (x 8, .inl (cA 0, 4, .inl (xd 7))), (x 9, .inr (3, [.ref (x 10), .ref (x 11), .ref (x 12), .ref (x 13), .int (nI xf), .int (nI QX.1)])), (x 10, .inl (cA 0, 12, .inl (xr 0))), (x 11, .inl (cA 0, 12, .inl (xr 1))), (x 12, .inl (cA 0, 12, .inl (xr 2))), (x 13, .inl (cA 0, 48, .inl (xr 3))), (y 7, .inl (cA 0, 4, .inl (yd 6))), (y 8, .inl (cA 0, 4, .inl (yd 7))), (y 10, .inl (cA 0, 12, .inl (yr 0))), (y 11, .inl (cA 0, 12, .inl (yr 1))), (y 12, .inl (cA 0, 12, .inl (yr 2))), (y 13, .inl (cA 0, 48, .inl (yr 3))), (ln, .inr (0, [.ref vb'_39, .int 0, .int ml'_39, .int (nI ((lnT sy (yd 6) 4).length))])), (ca, .inl (cA 0, 3, .inl cc)), (vb'_39, .inl (cA 2, nb'_39, .inl g'_39))]) (w1 := [(o, .inr (4, [.ref F, .ref G, .int lo, .int nw, .int se, .ref (pa 0), .ref an, .ref ln])), cE y yv, (y 9, .inr (3, [.ref (y 10), .ref (y 11), .ref (y 12), .ref (y 13), .int (nI yf), .int (nI QY.1)]))]) hP hD [0, 9, 12] [1, 2, 3, 4, 5, 6, 7, 8, 10, 11, 13, 14, 15, 16, 17, 18, 19] rfl rfl (by decide) (by decide) hk1 hFc hP1 hD1
                                generalize H1 = H at hP hS ⊢
                                have hP := hP.sub (ws' := [(o, .inr (4, [.ref F, .ref G, .int lo, .int nw, .int se, .ref (pa 0), .ref an, .ref ln])), cE x xv, (x 7, .inl (cA 0, 4, .inl (xd 6))), (x 8, .inl (cA 0, 4, .inl (xd 7))), (x 9, .inr (3, [.ref (x 10), .ref (x 11), .ref (x 12), .ref (x 13), .int (nI xf), .int (nI QX.1)])), (x 10, .inl (cA 0, 12, .inl (xr 0))), (x 11, .inl (cA 0, 12, .inl (xr 1))), (x 12, .inl (cA 0, 12, .inl (xr 2))), (x 13, .inl (cA 0, 48, .inl (xr 3))), cE y yv, (y 7, .inl (cA 0, 4, .inl (yd 6))), (y 8, .inl (cA 0, 4, .inl (yd 7))), (y 9, .inr (3, [.ref (y 10), .ref (y 11), .ref (y 12), .ref (y 13), .int (nI yf), .int (nI QY.1)])), (y 10, .inl (cA 0, 12, .inl (yr 0))), (y 11, .inl (cA 0, 12, .inl (yr 1))), (y 12, .inl (cA 0, 12, .inl (yr 2))), (y 13, .inl (cA 0, 48, .inl (yr 3))), (ln, .inr (0, [.ref vb'_39, .int 0, .int ml'_39, .int (nI ((lnT sy (yd 6) 4).length))])), (ca, .inl (cA 0, 3, .inl cc)), (vb'_39, .inl (cA 2, nb'_39, .inl g'_39))]) [17, 0, 1, 2, 3, 4, 5, 6, 7, 18, 8, 9, 19, 10, 11, 12, 13, 14, 15, 16] rfl
                                have hD := hD.sub (ws' := [(o, .inr (4, [.ref F, .ref G, .int lo, .int nw, .int se, .ref (pa 0), .ref an, .ref ln])), cE x xv, (x 7, .inl (cA 0, 4, .inl (xd 6))), (x 8, .inl (cA 0, 4, .inl (xd 7))), (x 9, .inr (3, [.ref (x 10), .ref (x 11), .ref (x 12), .ref (x 13), .int (nI xf), .int (nI QX.1)])), (x 10, .inl (cA 0, 12, .inl (xr 0))), (x 11, .inl (cA 0, 12, .inl (xr 1))), (x 12, .inl (cA 0, 12, .inl (xr 2))), (x 13, .inl (cA 0, 48, .inl (xr 3))), cE y yv, (y 7, .inl (cA 0, 4, .inl (yd 6))), (y 8, .inl (cA 0, 4, .inl (yd 7))), (y 9, .inr (3, [.ref (y 10), .ref (y 11), .ref (y 12), .ref (y 13), .int (nI yf), .int (nI QY.1)])), (y 10, .inl (cA 0, 12, .inl (yr 0))), (y 11, .inl (cA 0, 12, .inl (yr 1))), (y 12, .inl (cA 0, 12, .inl (yr 2))), (y 13, .inl (cA 0, 48, .inl (yr 3))), (ln, .inr (0, [.ref vb'_39, .int 0, .int ml'_39, .int (nI ((lnT sy (yd 6) 4).length))])), (ca, .inl (cA 0, 3, .inl cc)), (vb'_39, .inl (cA 2, nb'_39, .inl g'_39))]) [17, 0, 1, 2, 3, 4, 5, 6, 7, 18, 8, 9, 19, 10, 11, 12, 13, 14, 15, 16] (by decide) rfl
                                clear hPc hDc hFc hP1 hD1 hk1 hz1
                                have hw_41 := hw
                                obtain rfl := hw
                                refine lv_iconst (v := 0) hx hb dL_isWire_99 (by decide) ?_
                                refine lv_iconst (v := 0) hx hb dL_isWire_100 (by decide) ?_
                                refine lv_iconst (v := 0) hx hb dL_isWire_101 (by decide) ?_
                                have hPc := hP.sub (ws' := [(o, .inr (4, [.ref F, .ref G, .int lo, .int nw, .int se, .ref (pa 0), .ref an, .ref ln])), cE y yv, (y 9, .inr (3, [.ref (y 10), .ref (y 11), .ref (y 12), .ref (y 13), .int (nI yf), .int (nI QY.1)]))]) [0, 9, 12] rfl
                                have hDc := hD.sub (ws' := [(o, .inr (4, [.ref F, .ref G, .int lo, .int nw, .int se, .ref (pa 0), .ref an, .ref ln])), cE y yv, (y 9, .inr (3, [.ref (y 10), .ref (y 11), .ref (y 12), .ref (y 13), .int (nI yf), .int (nI QY.1)]))]) [0, 9, 12] (by decide) rfl
                                have hFc := va_free (wc := [(o, .inr (4, [.ref F, .ref G, .int lo, .int nw, .int se, .ref (pa 0), .ref an, .ref ln])), cE y yv, (y 9, .inr (3, [.ref (y 10), .ref (y 11), .ref (y 12), .ref (y 13), .int (nI yf), .int (nI QY.1)]))]) hD hS hA [0, 9, 12] rfl
                                refine va_calli (vx_runSW (As := [.ref o, .int 7, .int 1, .int (nI QY.1), .int 0, .int 0, .int 0]) (rest := []) ⟨hx, hb, hml, hown, hts⟩ (c_asks_kind_p l D cA zv H.size o F G lo nw se pa an ln y (x 0) 1 yv yf QY (nI QY.1) 0 0 0 (by assumption) (by first | exact he | exact en_flip he | exact en_01 he | exact en_10 he) (by omega) (fun h => h.2 (rw_ex rfl (by omega)))) (vx_cwSW 7 hts gL_isWire_L_asks rfl rfl rfl (by decide +kernel) ⟨Nat.le_of_ble_eq_true rfl, Nat.le_of_ble_eq_true rfl⟩) ⟨zUX_blind, fun U hU hW => ⟨rfl, zUX_call hE0 hX0 hS hFc hU hPc hW hK hDc⟩⟩ rfl rfl hl.1 rfl (lv_room (Nat.le_of_ble_eq_true rfl)) dL_isWire_102 ⟨Nat.le_of_ble_eq_true rfl, Nat.le_of_ble_eq_true rfl⟩) hS (fun q _ h => hFc q h) hFc (fun zr u t H1 locs ht hvm hw hB hz1 hk1 hS => ?_)
                                obtain ⟨hP1, hD1⟩ := hB
                                rw [ht] at hP1
                                obtain ⟨hP, hD⟩ := va_join (wr := [cE x xv, (x 7, .inl (cA 0, 4, .inl (xd 6))), (x 8, .inl (cA 0, 4, .inl (xd 7))), (x 9, .inr (3, [.ref (x 10), .ref (x 11), .ref (x 12), .ref (x 13), .int (nI xf), .int (nI QX.1)])), (x 10, .inl (cA 0, 12, .inl (xr 0))), (x 11, .inl (cA 0, 12, .inl (xr 1))), (x 12, .inl (cA 0, 12, .inl (xr 2))), (x 13, .inl (cA 0, 48, .inl (xr 3))), (y 7, .inl (cA 0, 4, .inl (yd 6))), (y 8, .inl (cA 0, 4, .inl (yd 7))), (y 10, .inl (cA 0, 12, .inl (yr 0))), (y 11, .inl (cA 0, 12, .inl (yr 1))), (y 12, .inl (cA 0, 12, .inl (yr 2))), (y 13, .inl (cA 0, 48, .inl (yr 3))), (ln, .inr (0, [.ref vb'_39, .int 0, .int ml'_39, .int (nI ((lnT sy (yd 6) 4).length))])), (ca, .inl (cA 0, 3, .inl cc)), (vb'_39, .inl (cA 2, nb'_39, .inl g'_39))]) (w1 := [(o, .inr (4, [.ref F, .ref G, .int lo, .int nw, .int se, .ref (pa 0), .ref an, .ref ln])), cE y yv, (y 9, .inr (3, [.ref (y 10), .ref (y 11), .ref (y 12), .ref (y 13), .int (nI yf), .int (nI QY.1)]))]) hP hD [0, 9, 12] [1, 2, 3, 4, 5, 6, 7, 8, 10, 11, 13, 14, 15, 16, 17, 18, 19] rfl rfl (by decide) (by decide) hk1 hFc hP1 hD1
                                generalize H1 = H at hP hS ⊢
                                have hP := hP.sub (ws' := [(o, .inr (4, [.ref F, .ref G, .int lo, .int nw, .int se, .ref (pa 0), .ref an, .ref ln])), cE x xv, (x 7, .inl (cA 0, 4, .inl (xd 6))), (x 8, .inl (cA 0, 4, .inl (xd 7))), (x 9, .inr (3, [.ref (x 10), .ref (x 11), .ref (x 12), .ref (x 13), .int (nI xf), .int (nI QX.1)])), (x 10, .inl (cA 0, 12, .inl (xr 0))), (x 11, .inl (cA 0, 12, .inl (xr 1))), (x 12, .inl (cA 0, 12, .inl (xr 2))), (x 13, .inl (cA 0, 48, .inl (xr 3))), cE y yv, (y 7, .inl (cA 0, 4, .inl (yd 6))), (y 8, .inl (cA 0, 4, .inl (yd 7))), (y 9, .inr (3, [.ref (y 10), .ref (y 11), .ref (y 12), .ref (y 13), .int (nI yf), .int (nI QY.1)])), (y 10, .inl (cA 0, 12, .inl (yr 0))), (y 11, .inl (cA 0, 12, .inl (yr 1))), (y 12, .inl (cA 0, 12, .inl (yr 2))), (y 13, .inl (cA 0, 48, .inl (yr 3))), (ln, .inr (0, [.ref vb'_39, .int 0, .int ml'_39, .int (nI ((lnT sy (yd 6) 4).length))])), (ca, .inl (cA 0, 3, .inl cc)), (vb'_39, .inl (cA 2, nb'_39, .inl g'_39))]) [17, 0, 1, 2, 3, 4, 5, 6, 7, 18, 8, 9, 19, 10, 11, 12, 13, 14, 15, 16] rfl
                                have hD := hD.sub (ws' := [(o, .inr (4, [.ref F, .ref G, .int lo, .int nw, .int se, .ref (pa 0), .ref an, .ref ln])), cE x xv, (x 7, .inl (cA 0, 4, .inl (xd 6))), (x 8, .inl (cA 0, 4, .inl (xd 7))), (x 9, .inr (3, [.ref (x 10), .ref (x 11), .ref (x 12), .ref (x 13), .int (nI xf), .int (nI QX.1)])), (x 10, .inl (cA 0, 12, .inl (xr 0))), (x 11, .inl (cA 0, 12, .inl (xr 1))), (x 12, .inl (cA 0, 12, .inl (xr 2))), (x 13, .inl (cA 0, 48, .inl (xr 3))), cE y yv, (y 7, .inl (cA 0, 4, .inl (yd 6))), (y 8, .inl (cA 0, 4, .inl (yd 7))), (y 9, .inr (3, [.ref (y 10), .ref (y 11), .ref (y 12), .ref (y 13), .int (nI yf), .int (nI QY.1)])), (y 10, .inl (cA 0, 12, .inl (yr 0))), (y 11, .inl (cA 0, 12, .inl (yr 1))), (y 12, .inl (cA 0, 12, .inl (yr 2))), (y 13, .inl (cA 0, 48, .inl (yr 3))), (ln, .inr (0, [.ref vb'_39, .int 0, .int ml'_39, .int (nI ((lnT sy (yd 6) 4).length))])), (ca, .inl (cA 0, 3, .inl cc)), (vb'_39, .inl (cA 2, nb'_39, .inl g'_39))]) [17, 0, 1, 2, 3, 4, 5, 6, 7, 18, 8, 9, 19, 10, 11, 12, 13, 14, 15, 16] (by decide) rfl
                                clear hPc hDc hFc hP1 hD1 hk1 hz1
                                refine W.widen (k := 31) (n := 916) (by omega) (by omega) ?_
                                have hw_42 := hw
                                obtain rfl := hw
                                refine lv_bipush (v := (-10)) hx hb dL_isWire_105 (by decide) ?_
                                refine lv_icmp_ne (tgt := 130) hx hb dL_isWire_107 (by decide) (fun c_43 => absurd c_43 (by decide)) (fun _ => ?_)
                                refine lv_aload_n hx hb dL_isWire_110 rfl (lv_at hl 4 rfl) ?_
                                refine lv_bipush (v := 7) hx hb dL_isWire_111 (by decide) ?_
                                refine lv_iload_n hx hb dL_isWire_113 rfl (lv_at hl 1 rfl) ?_
                                refine lv_iconst (v := (-1)) hx hb dL_isWire_114 (by decide) ?_
                                refine lv_iconst (v := 0) hx hb dL_isWire_115 (by decide) ?_
                                refine lv_iconst (v := 0) hx hb dL_isWire_116 (by decide) ?_
                                refine lv_iconst (v := 0) hx hb dL_isWire_117 (by decide) ?_
                                have hPc := hP.sub (ws' := [(o, .inr (4, [.ref F, .ref G, .int lo, .int nw, .int se, .ref (pa 0), .ref an, .ref ln])), cE y yv, (y 9, .inr (3, [.ref (y 10), .ref (y 11), .ref (y 12), .ref (y 13), .int (nI yf), .int (nI QY.1)]))]) [0, 9, 12] rfl
                                have hDc := hD.sub (ws' := [(o, .inr (4, [.ref F, .ref G, .int lo, .int nw, .int se, .ref (pa 0), .ref an, .ref ln])), cE y yv, (y 9, .inr (3, [.ref (y 10), .ref (y 11), .ref (y 12), .ref (y 13), .int (nI yf), .int (nI QY.1)]))]) [0, 9, 12] (by decide) rfl
                                have hFc := va_free (wc := [(o, .inr (4, [.ref F, .ref G, .int lo, .int nw, .int se, .ref (pa 0), .ref an, .ref ln])), cE y yv, (y 9, .inr (3, [.ref (y 10), .ref (y 11), .ref (y 12), .ref (y 13), .int (nI yf), .int (nI QY.1)]))]) hD hS hA [0, 9, 12] rfl
                                refine va_calli (vx_runSW (As := [.ref o, .int 7, .int 1, .int (-1), .int 0, .int 0, .int 0]) (rest := []) ⟨hx, hb, hml, hown, hts⟩ (c_asks_kind_p l D cA zv H.size o F G lo nw se pa an ln y (x 0) 1 yv yf QY (-1) 0 0 0 (by assumption) (by first | exact he | exact en_flip he | exact en_01 he | exact en_10 he) (by omega) (fun h => h.1 (by decide))) (vx_cwSW 7 hts gL_isWire_L_asks rfl rfl rfl (by decide +kernel) ⟨Nat.le_of_ble_eq_true rfl, Nat.le_of_ble_eq_true rfl⟩) ⟨zUX_blind, fun U hU hW => ⟨rfl, zUX_call hE0 hX0 hS hFc hU hPc hW hK hDc⟩⟩ rfl rfl hl.1 rfl (lv_room (Nat.le_of_ble_eq_true rfl)) dL_isWire_118 ⟨Nat.le_of_ble_eq_true rfl, Nat.le_of_ble_eq_true rfl⟩) hS (fun q _ h => hFc q h) hFc (fun zr u t H1 locs ht hvm hw hB hz1 hk1 hS => ?_)
                                obtain ⟨hP1, hD1⟩ := hB
                                rw [ht] at hP1
                                obtain ⟨hP, hD⟩ := va_join (wr := [cE x xv, (x 7, .inl (cA 0, 4, .inl (xd 6))), (x 8, .inl (cA 0, 4, .inl (xd 7))), (x 9, .inr (3, [.ref (x 10), .ref (x 11), .ref (x 12), .ref (x 13), .int (nI xf), .int (nI QX.1)])), (x 10, .inl (cA 0, 12, .inl (xr 0))), (x 11, .inl (cA 0, 12, .inl (xr 1))), (x 12, .inl (cA 0, 12, .inl (xr 2))), (x 13, .inl (cA 0, 48, .inl (xr 3))), (y 7, .inl (cA 0, 4, .inl (yd 6))), (y 8, .inl (cA 0, 4, .inl (yd 7))), (y 10, .inl (cA 0, 12, .inl (yr 0))), (y 11, .inl (cA 0, 12, .inl (yr 1))), (y 12, .inl (cA 0, 12, .inl (yr 2))), (y 13, .inl (cA 0, 48, .inl (yr 3))), (ln, .inr (0, [.ref vb'_39, .int 0, .int ml'_39, .int (nI ((lnT sy (yd 6) 4).length))])), (ca, .inl (cA 0, 3, .inl cc)), (vb'_39, .inl (cA 2, nb'_39, .inl g'_39))]) (w1 := [(o, .inr (4, [.ref F, .ref G, .int lo, .int nw, .int se, .ref (pa 0), .ref an, .ref ln])), cE y yv, (y 9, .inr (3, [.ref (y 10), .ref (y 11), .ref (y 12), .ref (y 13), .int (nI yf), .int (nI QY.1)]))]) hP hD [0, 9, 12] [1, 2, 3, 4, 5, 6, 7, 8, 10, 11, 13, 14, 15, 16, 17, 18, 19] rfl rfl (by decide) (by decide) hk1 hFc hP1 hD1
                                generalize H1 = H at hP hS ⊢
                                have hP := hP.sub (ws' := [(o, .inr (4, [.ref F, .ref G, .int lo, .int nw, .int se, .ref (pa 0), .ref an, .ref ln])), cE x xv, (x 7, .inl (cA 0, 4, .inl (xd 6))), (x 8, .inl (cA 0, 4, .inl (xd 7))), (x 9, .inr (3, [.ref (x 10), .ref (x 11), .ref (x 12), .ref (x 13), .int (nI xf), .int (nI QX.1)])), (x 10, .inl (cA 0, 12, .inl (xr 0))), (x 11, .inl (cA 0, 12, .inl (xr 1))), (x 12, .inl (cA 0, 12, .inl (xr 2))), (x 13, .inl (cA 0, 48, .inl (xr 3))), cE y yv, (y 7, .inl (cA 0, 4, .inl (yd 6))), (y 8, .inl (cA 0, 4, .inl (yd 7))), (y 9, .inr (3, [.ref (y 10), .ref (y 11), .ref (y 12), .ref (y 13), .int (nI yf), .int (nI QY.1)])), (y 10, .inl (cA 0, 12, .inl (yr 0))), (y 11, .inl (cA 0, 12, .inl (yr 1))), (y 12, .inl (cA 0, 12, .inl (yr 2))), (y 13, .inl (cA 0, 48, .inl (yr 3))), (ln, .inr (0, [.ref vb'_39, .int 0, .int ml'_39, .int (nI ((lnT sy (yd 6) 4).length))])), (ca, .inl (cA 0, 3, .inl cc)), (vb'_39, .inl (cA 2, nb'_39, .inl g'_39))]) [17, 0, 1, 2, 3, 4, 5, 6, 7, 18, 8, 9, 19, 10, 11, 12, 13, 14, 15, 16] rfl
                                have hD := hD.sub (ws' := [(o, .inr (4, [.ref F, .ref G, .int lo, .int nw, .int se, .ref (pa 0), .ref an, .ref ln])), cE x xv, (x 7, .inl (cA 0, 4, .inl (xd 6))), (x 8, .inl (cA 0, 4, .inl (xd 7))), (x 9, .inr (3, [.ref (x 10), .ref (x 11), .ref (x 12), .ref (x 13), .int (nI xf), .int (nI QX.1)])), (x 10, .inl (cA 0, 12, .inl (xr 0))), (x 11, .inl (cA 0, 12, .inl (xr 1))), (x 12, .inl (cA 0, 12, .inl (xr 2))), (x 13, .inl (cA 0, 48, .inl (xr 3))), cE y yv, (y 7, .inl (cA 0, 4, .inl (yd 6))), (y 8, .inl (cA 0, 4, .inl (yd 7))), (y 9, .inr (3, [.ref (y 10), .ref (y 11), .ref (y 12), .ref (y 13), .int (nI yf), .int (nI QY.1)])), (y 10, .inl (cA 0, 12, .inl (yr 0))), (y 11, .inl (cA 0, 12, .inl (yr 1))), (y 12, .inl (cA 0, 12, .inl (yr 2))), (y 13, .inl (cA 0, 48, .inl (yr 3))), (ln, .inr (0, [.ref vb'_39, .int 0, .int ml'_39, .int (nI ((lnT sy (yd 6) 4).length))])), (ca, .inl (cA 0, 3, .inl cc)), (vb'_39, .inl (cA 2, nb'_39, .inl g'_39))]) [17, 0, 1, 2, 3, 4, 5, 6, 7, 18, 8, 9, 19, 10, 11, 12, 13, 14, 15, 16] (by decide) rfl
                                clear hPc hDc hFc hP1 hD1 hk1 hz1
                                refine W.widen (k := 32) (n := 922) (by omega) (by omega) ?_
                                have hw_44 := hw
                                obtain rfl := hw
                                refine lv_bipush (v := (-10)) hx hb dL_isWire_121 (by decide) ?_
                                refine lv_icmp_ne (tgt := 130) hx hb dL_isWire_123 (by decide) (fun c_45 => absurd c_45 (by decide)) (fun _ => ?_)
                                refine lv_iconst (v := 1) hx hb dL_isWire_126 (by decide) ?_
                                refine lv_goto (tgt := 131) hx hb dL_isWire_127 (by decide) ?_
                                refine lv_istore_n (lv' := [(2, .int 1), (4, .int (nI sy)), (3, .int 1), (5, .int (nI j2)), (0, .ref o), (1, .ref ca)]) hx hb dL_isWire_131 rfl hl (by decide) rfl (fun ls hl => ?_)
                                refine z_cut (Inv := fun H locs ls st => st = [.int 1] ∧ va_P D vwCl [(o, .inr (4, [.ref F, .ref G, .int lo, .int nw, .int se, .ref (pa 0), .ref an, .ref ln])), cE x xv, (x 7, .inl (cA 0, 4, .inl (xd 6))), (x 8, .inl (cA 0, 4, .inl (xd 7))), (x 9, .inr (3, [.ref (x 10), .ref (x 11), .ref (x 12), .ref (x 13), .int (nI xf), .int (nI QX.1)])), (x 10, .inl (cA 0, 12, .inl (xr 0))), (x 11, .inl (cA 0, 12, .inl (xr 1))), (x 12, .inl (cA 0, 12, .inl (xr 2))), (x 13, .inl (cA 0, 48, .inl (xr 3))), cE y yv, (y 7, .inl (cA 0, 4, .inl (yd 6))), (y 8, .inl (cA 0, 4, .inl (yd 7))), (y 9, .inr (3, [.ref (y 10), .ref (y 11), .ref (y 12), .ref (y 13), .int (nI yf), .int (nI QY.1)])), (y 10, .inl (cA 0, 12, .inl (yr 0))), (y 11, .inl (cA 0, 12, .inl (yr 1))), (y 12, .inl (cA 0, 12, .inl (yr 2))), (y 13, .inl (cA 0, 48, .inl (yr 3))), (ln, .inr (0, [.ref vb'_39, .int 0, .int ml'_39, .int (nI ((lnT sy (yd 6) 4).length))])), (ca, .inl (cA 0, 3, .inl cc)), (vb'_39, .inl (cA 2, nb'_39, .inl g'_39))] H ∧ va_D A [(o, .inr (4, [.ref F, .ref G, .int lo, .int nw, .int se, .ref (pa 0), .ref an, .ref ln])), cE x xv, (x 7, .inl (cA 0, 4, .inl (xd 6))), (x 8, .inl (cA 0, 4, .inl (xd 7))), (x 9, .inr (3, [.ref (x 10), .ref (x 11), .ref (x 12), .ref (x 13), .int (nI xf), .int (nI QX.1)])), (x 10, .inl (cA 0, 12, .inl (xr 0))), (x 11, .inl (cA 0, 12, .inl (xr 1))), (x 12, .inl (cA 0, 12, .inl (xr 2))), (x 13, .inl (cA 0, 48, .inl (xr 3))), cE y yv, (y 7, .inl (cA 0, 4, .inl (yd 6))), (y 8, .inl (cA 0, 4, .inl (yd 7))), (y 9, .inr (3, [.ref (y 10), .ref (y 11), .ref (y 12), .ref (y 13), .int (nI yf), .int (nI QY.1)])), (y 10, .inl (cA 0, 12, .inl (yr 0))), (y 11, .inl (cA 0, 12, .inl (yr 1))), (y 12, .inl (cA 0, 12, .inl (yr 2))), (y 13, .inl (cA 0, 48, .inl (yr 3))), (ln, .inr (0, [.ref vb'_39, .int 0, .int ml'_39, .int (nI ((lnT sy (yd 6) 4).length))])), (ca, .inl (cA 0, 3, .inl cc)), (vb'_39, .inl (cA 2, nb'_39, .inl g'_39))] ∧ va_S A s.heap H locs ∧ lv_has ls 8 [(2, .int 1), (4, .int (nI sy)), (3, .int 1), (5, .int (nI j2)), (0, .ref o), (1, .ref ca)]) 157 (fun H locs ls st hQ9 => ?_) (fun kJ => ?_)
                                · obtain ⟨rfl, hP, hD, hS, hl⟩ := hQ9
                                  refine lv_istore_n (lv' := [(2, .int 1), (4, .int (nI sy)), (3, .int 1), (5, .int (nI j2)), (0, .ref o), (1, .ref ca)]) hx hb dL_isWire_157 rfl hl (by decide) rfl (fun ls hl => ?_)
                                  refine lv_iconst (v := 0) hx hb dL_isWire_158 (by decide) ?_
                                  refine lv_istore (lv' := [(5, .int 0), (2, .int 1), (4, .int (nI sy)), (3, .int 1), (0, .ref o), (1, .ref ca)]) hx hb dL_isWire_159 hl (by decide) rfl (fun ls hl => ?_)
                                  refine z_loop (Inv := fun j H locs ls => va_P D vwCl [(o, .inr (4, [.ref F, .ref G, .int lo, .int nw, .int se, .ref (pa 0), .ref an, .ref ln])), cE x xv, (x 7, .inl (cA 0, 4, .inl (xd 6))), (x 8, .inl (cA 0, 4, .inl (xd 7))), (x 9, .inr (3, [.ref (x 10), .ref (x 11), .ref (x 12), .ref (x 13), .int (nI xf), .int (nI QX.1)])), (x 10, .inl (cA 0, 12, .inl (xr 0))), (x 11, .inl (cA 0, 12, .inl (xr 1))), (x 12, .inl (cA 0, 12, .inl (xr 2))), (x 13, .inl (cA 0, 48, .inl (xr 3))), cE y yv, (y 7, .inl (cA 0, 4, .inl (yd 6))), (y 8, .inl (cA 0, 4, .inl (yd 7))), (y 9, .inr (3, [.ref (y 10), .ref (y 11), .ref (y 12), .ref (y 13), .int (nI yf), .int (nI QY.1)])), (y 10, .inl (cA 0, 12, .inl (yr 0))), (y 11, .inl (cA 0, 12, .inl (yr 1))), (y 12, .inl (cA 0, 12, .inl (yr 2))), (y 13, .inl (cA 0, 48, .inl (yr 3))), (ln, .inr (0, [.ref vb'_39, .int 0, .int ml'_39, .int (nI ((lnT sy (yd 6) 4).length))])), (ca, .inl (cA 0, 3, .inl cc)), (vb'_39, .inl (cA 2, nb'_39, .inl g'_39))] H ∧ va_D A [(o, .inr (4, [.ref F, .ref G, .int lo, .int nw, .int se, .ref (pa 0), .ref an, .ref ln])), cE x xv, (x 7, .inl (cA 0, 4, .inl (xd 6))), (x 8, .inl (cA 0, 4, .inl (xd 7))), (x 9, .inr (3, [.ref (x 10), .ref (x 11), .ref (x 12), .ref (x 13), .int (nI xf), .int (nI QX.1)])), (x 10, .inl (cA 0, 12, .inl (xr 0))), (x 11, .inl (cA 0, 12, .inl (xr 1))), (x 12, .inl (cA 0, 12, .inl (xr 2))), (x 13, .inl (cA 0, 48, .inl (xr 3))), cE y yv, (y 7, .inl (cA 0, 4, .inl (yd 6))), (y 8, .inl (cA 0, 4, .inl (yd 7))), (y 9, .inr (3, [.ref (y 10), .ref (y 11), .ref (y 12), .ref (y 13), .int (nI yf), .int (nI QY.1)])), (y 10, .inl (cA 0, 12, .inl (yr 0))), (y 11, .inl (cA 0, 12, .inl (yr 1))), (y 12, .inl (cA 0, 12, .inl (yr 2))), (y 13, .inl (cA 0, 48, .inl (yr 3))), (ln, .inr (0, [.ref vb'_39, .int 0, .int ml'_39, .int (nI ((lnT sy (yd 6) 4).length))])), (ca, .inl (cA 0, 3, .inl cc)), (vb'_39, .inl (cA 2, nb'_39, .inl g'_39))] ∧ va_S A s.heap H locs ∧ lv_has ls 8 [(5, .int (nI j)), (2, .int 1), (4, .int (nI sy)), (3, .int 1), (0, .ref o), (1, .ref ca)]) 4 (fun j hj_j ih_j H locs ls hQ9 => ?_) ⟨hP, hD, hS, lv_sub hl [0, 1, 2, 3, 4, 5] rfl⟩
                                  obtain ⟨hP, hD, hS, hl⟩ := hQ9
                                  refine lv_iload hx hb dL_isWire_161 (lv_at hl 0 rfl) ?_
                                  refine lv_iconst (v := 4) hx hb dL_isWire_163 (by decide) ?_
                                  refine lv_icmp_ge (tgt := 327) hx hb dL_isWire_164 (by decide) (fun c_46 => ?_) (fun c_46 => ?_)
                                  · have c_46 := (nI_leI (a := 4) (b := j) (by omega) (by omega)).mp c_46
                                    refine lv_iconst (v := 0) hx hb dL_isWire_327 (by decide) ?_
                                    refine lv_istore (lv' := [(5, .int 0), (2, .int 1), (4, .int (nI sy)), (3, .int 1), (0, .ref o), (1, .ref ca)]) hx hb dL_isWire_328 hl (by decide) rfl (fun ls hl => ?_)
                                    refine z_loop (Inv := fun j2 H locs ls => va_P D vwCl [(o, .inr (4, [.ref F, .ref G, .int lo, .int nw, .int se, .ref (pa 0), .ref an, .ref ln])), cE x xv, (x 7, .inl (cA 0, 4, .inl (xd 6))), (x 8, .inl (cA 0, 4, .inl (xd 7))), (x 9, .inr (3, [.ref (x 10), .ref (x 11), .ref (x 12), .ref (x 13), .int (nI xf), .int (nI QX.1)])), (x 10, .inl (cA 0, 12, .inl (xr 0))), (x 11, .inl (cA 0, 12, .inl (xr 1))), (x 12, .inl (cA 0, 12, .inl (xr 2))), (x 13, .inl (cA 0, 48, .inl (xr 3))), cE y yv, (y 7, .inl (cA 0, 4, .inl (yd 6))), (y 8, .inl (cA 0, 4, .inl (yd 7))), (y 9, .inr (3, [.ref (y 10), .ref (y 11), .ref (y 12), .ref (y 13), .int (nI yf), .int (nI QY.1)])), (y 10, .inl (cA 0, 12, .inl (yr 0))), (y 11, .inl (cA 0, 12, .inl (yr 1))), (y 12, .inl (cA 0, 12, .inl (yr 2))), (y 13, .inl (cA 0, 48, .inl (yr 3))), (ln, .inr (0, [.ref vb'_39, .int 0, .int ml'_39, .int (nI ((lnT sy (yd 6) 4).length))])), (ca, .inl (cA 0, 3, .inl cc)), (vb'_39, .inl (cA 2, nb'_39, .inl g'_39))] H ∧ va_D A [(o, .inr (4, [.ref F, .ref G, .int lo, .int nw, .int se, .ref (pa 0), .ref an, .ref ln])), cE x xv, (x 7, .inl (cA 0, 4, .inl (xd 6))), (x 8, .inl (cA 0, 4, .inl (xd 7))), (x 9, .inr (3, [.ref (x 10), .ref (x 11), .ref (x 12), .ref (x 13), .int (nI xf), .int (nI QX.1)])), (x 10, .inl (cA 0, 12, .inl (xr 0))), (x 11, .inl (cA 0, 12, .inl (xr 1))), (x 12, .inl (cA 0, 12, .inl (xr 2))), (x 13, .inl (cA 0, 48, .inl (xr 3))), cE y yv, (y 7, .inl (cA 0, 4, .inl (yd 6))), (y 8, .inl (cA 0, 4, .inl (yd 7))), (y 9, .inr (3, [.ref (y 10), .ref (y 11), .ref (y 12), .ref (y 13), .int (nI yf), .int (nI QY.1)])), (y 10, .inl (cA 0, 12, .inl (yr 0))), (y 11, .inl (cA 0, 12, .inl (yr 1))), (y 12, .inl (cA 0, 12, .inl (yr 2))), (y 13, .inl (cA 0, 48, .inl (yr 3))), (ln, .inr (0, [.ref vb'_39, .int 0, .int ml'_39, .int (nI ((lnT sy (yd 6) 4).length))])), (ca, .inl (cA 0, 3, .inl cc)), (vb'_39, .inl (cA 2, nb'_39, .inl g'_39))] ∧ va_S A s.heap H locs ∧ lv_has ls 8 [(5, .int (nI j2)), (2, .int 1), (4, .int (nI sy)), (3, .int 1), (0, .ref o), (1, .ref ca)]) QY.1 (fun j2 hj_j2 ih_j2 H locs ls hQ9 => ?_) ⟨hP, hD, hS, lv_sub hl [0, 1, 2, 3, 4, 5] rfl⟩
                                    obtain ⟨hP, hD, hS, hl⟩ := hQ9
                                    refine lv_iload hx hb dL_isWire_330 (lv_at hl 0 rfl) ?_
                                    refine lv_aload_n hx hb dL_isWire_332 rfl (lv_at hl 4 rfl) ?_
                                    refine lv_iload_n hx hb dL_isWire_333 rfl (lv_at hl 3 rfl) ?_
                                    have hPc := hP.sub (ws' := [(o, .inr (4, [.ref F, .ref G, .int lo, .int nw, .int se, .ref (pa 0), .ref an, .ref ln])), cE y yv, (y 9, .inr (3, [.ref (y 10), .ref (y 11), .ref (y 12), .ref (y 13), .int (nI yf), .int (nI QY.1)]))]) [0, 9, 12] rfl
                                    have hDc := hD.sub (ws' := [(o, .inr (4, [.ref F, .ref G, .int lo, .int nw, .int se, .ref (pa 0), .ref an, .ref ln])), cE y yv, (y 9, .inr (3, [.ref (y 10), .ref (y 11), .ref (y 12), .ref (y 13), .int (nI yf), .int (nI QY.1)]))]) [0, 9, 12] (by decide) rfl
                                    have hFc := va_free (wc := [(o, .inr (4, [.ref F, .ref G, .int lo, .int nw, .int se, .ref (pa 0), .ref an, .ref ln])), cE y yv, (y 9, .inr (3, [.ref (y 10), .ref (y 11), .ref (y 12), .ref (y 13), .int (nI yf), .int (nI QY.1)]))]) hD hS hA [0, 9, 12] rfl
                                    refine va_calli (va_runV (As := [.int 1]) (rest := [.int (nI j2)]) ⟨hx, hb, hml, hown, hts⟩ (c_X3_waiting_k l D cA H.size o F G lo nw se pa an ln y (x 0) 1 yv yf QY (by first | exact he | exact en_flip he | exact en_01 he | exact en_10 he)) (cwV 1 hts gL_isWire_X3_waiting rfl rfl rfl (by decide +kernel) ⟨Nat.le_of_ble_eq_true rfl, Nat.le_of_ble_eq_true rfl⟩) ⟨zU_blind, va_recv hK hPc (ci := 4) (q0 := 0) rfl rfl, fun U hU hW => ⟨rfl, zU_call hU hPc hW.alike hK hDc⟩⟩ rfl rfl hl.1 rfl (lv_room (Nat.le_of_ble_eq_true rfl)) dL_isWire_334 ⟨Nat.le_of_ble_eq_true rfl, Nat.le_of_ble_eq_true rfl⟩) hS (fun q _ h => hFc q h) hFc (fun zr u t H1 locs ht hvm hw hB hz1 hk1 hS => ?_)
                                    obtain ⟨hP1, hD1⟩ := hB
                                    rw [ht] at hP1
                                    obtain ⟨hP, hD⟩ := va_join (wr := [cE x xv, (x 7, .inl (cA 0, 4, .inl (xd 6))), (x 8, .inl (cA 0, 4, .inl (xd 7))), (x 9, .inr (3, [.ref (x 10), .ref (x 11), .ref (x 12), .ref (x 13), .int (nI xf), .int (nI QX.1)])), (x 10, .inl (cA 0, 12, .inl (xr 0))), (x 11, .inl (cA 0, 12, .inl (xr 1))), (x 12, .inl (cA 0, 12, .inl (xr 2))), (x 13, .inl (cA 0, 48, .inl (xr 3))), (y 7, .inl (cA 0, 4, .inl (yd 6))), (y 8, .inl (cA 0, 4, .inl (yd 7))), (y 10, .inl (cA 0, 12, .inl (yr 0))), (y 11, .inl (cA 0, 12, .inl (yr 1))), (y 12, .inl (cA 0, 12, .inl (yr 2))), (y 13, .inl (cA 0, 48, .inl (yr 3))), (ln, .inr (0, [.ref vb'_39, .int 0, .int ml'_39, .int (nI ((lnT sy (yd 6) 4).length))])), (ca, .inl (cA 0, 3, .inl cc)), (vb'_39, .inl (cA 2, nb'_39, .inl g'_39))]) (w1 := [(o, .inr (4, [.ref F, .ref G, .int lo, .int nw, .int se, .ref (pa 0), .ref an, .ref ln])), cE y yv, (y 9, .inr (3, [.ref (y 10), .ref (y 11), .ref (y 12), .ref (y 13), .int (nI yf), .int (nI QY.1)]))]) hP hD [0, 9, 12] [1, 2, 3, 4, 5, 6, 7, 8, 10, 11, 13, 14, 15, 16, 17, 18, 19] rfl rfl (by decide) (by decide) hk1 hFc hP1 hD1
                                    generalize H1 = H at hP hS ⊢
                                    have hP := hP.sub (ws' := [(o, .inr (4, [.ref F, .ref G, .int lo, .int nw, .int se, .ref (pa 0), .ref an, .ref ln])), cE x xv, (x 7, .inl (cA 0, 4, .inl (xd 6))), (x 8, .inl (cA 0, 4, .inl (xd 7))), (x 9, .inr (3, [.ref (x 10), .ref (x 11), .ref (x 12), .ref (x 13), .int (nI xf), .int (nI QX.1)])), (x 10, .inl (cA 0, 12, .inl (xr 0))), (x 11, .inl (cA 0, 12, .inl (xr 1))), (x 12, .inl (cA 0, 12, .inl (xr 2))), (x 13, .inl (cA 0, 48, .inl (xr 3))), cE y yv, (y 7, .inl (cA 0, 4, .inl (yd 6))), (y 8, .inl (cA 0, 4, .inl (yd 7))), (y 9, .inr (3, [.ref (y 10), .ref (y 11), .ref (y 12), .ref (y 13), .int (nI yf), .int (nI QY.1)])), (y 10, .inl (cA 0, 12, .inl (yr 0))), (y 11, .inl (cA 0, 12, .inl (yr 1))), (y 12, .inl (cA 0, 12, .inl (yr 2))), (y 13, .inl (cA 0, 48, .inl (yr 3))), (ln, .inr (0, [.ref vb'_39, .int 0, .int ml'_39, .int (nI ((lnT sy (yd 6) 4).length))])), (ca, .inl (cA 0, 3, .inl cc)), (vb'_39, .inl (cA 2, nb'_39, .inl g'_39))]) [17, 0, 1, 2, 3, 4, 5, 6, 7, 18, 8, 9, 19, 10, 11, 12, 13, 14, 15, 16] rfl
                                    have hD := hD.sub (ws' := [(o, .inr (4, [.ref F, .ref G, .int lo, .int nw, .int se, .ref (pa 0), .ref an, .ref ln])), cE x xv, (x 7, .inl (cA 0, 4, .inl (xd 6))), (x 8, .inl (cA 0, 4, .inl (xd 7))), (x 9, .inr (3, [.ref (x 10), .ref (x 11), .ref (x 12), .ref (x 13), .int (nI xf), .int (nI QX.1)])), (x 10, .inl (cA 0, 12, .inl (xr 0))), (x 11, .inl (cA 0, 12, .inl (xr 1))), (x 12, .inl (cA 0, 12, .inl (xr 2))), (x 13, .inl (cA 0, 48, .inl (xr 3))), cE y yv, (y 7, .inl (cA 0, 4, .inl (yd 6))), (y 8, .inl (cA 0, 4, .inl (yd 7))), (y 9, .inr (3, [.ref (y 10), .ref (y 11), .ref (y 12), .ref (y 13), .int (nI yf), .int (nI QY.1)])), (y 10, .inl (cA 0, 12, .inl (yr 0))), (y 11, .inl (cA 0, 12, .inl (yr 1))), (y 12, .inl (cA 0, 12, .inl (yr 2))), (y 13, .inl (cA 0, 48, .inl (yr 3))), (ln, .inr (0, [.ref vb'_39, .int 0, .int ml'_39, .int (nI ((lnT sy (yd 6) 4).length))])), (ca, .inl (cA 0, 3, .inl cc)), (vb'_39, .inl (cA 2, nb'_39, .inl g'_39))]) [17, 0, 1, 2, 3, 4, 5, 6, 7, 18, 8, 9, 19, 10, 11, 12, 13, 14, 15, 16] (by decide) rfl
                                    clear hPc hDc hFc hP1 hD1 hk1 hz1
                                    have hw_47 := hw
                                    obtain rfl := hw
                                    refine lv_icmp_ge (tgt := 387) hx hb dL_isWire_337 (by decide) (fun c_48 => ?_) (fun c_48 => ?_)
                                    · have c_48 := (nI_leI (a := QY.1) (b := j2) (by omega) (by omega)).mp c_48
                                      refine lv_iinc (v := 2) (lv' := [(3, .int 2), (5, .int (nI j2)), (2, .int 1), (4, .int (nI sy)), (0, .ref o), (1, .ref ca)]) hx hb dL_isWire_387 hl (k := 3) rfl (by decide) (by decide) rfl (fun ls hl => ?_)
                                      refine lv_goto (tgt := 18) hx hb dL_isWire_390 (by decide) ?_
                                      refine lv_iload_n hx hb dL_isWire_18 rfl (lv_at hl 0 rfl) ?_
                                      refine lv_iconst (v := 2) hx hb dL_isWire_19 (by decide) ?_
                                      refine lv_icmp_ge (tgt := 393) hx hb dL_isWire_20 (by decide) (fun _ => ?_) (fun c_49 => absurd c_49 (by decide))
                                      refine lv_iload_n hx hb dL_isWire_393 rfl (lv_at hl 2 rfl) ?_
                                      have hP := hP.sub (ws' := [(o, .inr (4, [.ref F, .ref G, .int lo, .int nw, .int se, .ref (pa 0), .ref an, .ref ln])), cE x xv, (x 7, .inl (cA 0, 4, .inl (xd 6))), (x 8, .inl (cA 0, 4, .inl (xd 7))), (x 9, .inr (3, [.ref (x 10), .ref (x 11), .ref (x 12), .ref (x 13), .int (nI xf), .int (nI QX.1)])), (x 10, .inl (cA 0, 12, .inl (xr 0))), (x 11, .inl (cA 0, 12, .inl (xr 1))), (x 12, .inl (cA 0, 12, .inl (xr 2))), (x 13, .inl (cA 0, 48, .inl (xr 3))), cE y yv, (y 7, .inl (cA 0, 4, .inl (yd 6))), (y 8, .inl (cA 0, 4, .inl (yd 7))), (y 9, .inr (3, [.ref (y 10), .ref (y 11), .ref (y 12), .ref (y 13), .int (nI yf), .int (nI QY.1)])), (y 10, .inl (cA 0, 12, .inl (yr 0))), (y 11, .inl (cA 0, 12, .inl (yr 1))), (y 12, .inl (cA 0, 12, .inl (yr 2))), (y 13, .inl (cA 0, 48, .inl (yr 3))), (ln, .inr (0, [.ref vb'_39, .int 0, .int ml'_39, .int (nI ((lnT sy (yd 6) 4).length))])), (vb'_39, .inl (cA 2, nb'_39, .inl g'_39)), (ca, .inl (cA 0, 3, .inl cc))]) [0, 1, 2, 3, 4, 5, 6, 7, 8, 9, 10, 11, 12, 13, 14, 15, 16, 17, 19, 18] rfl
                                      have hD := hD.sub (ws' := [(o, .inr (4, [.ref F, .ref G, .int lo, .int nw, .int se, .ref (pa 0), .ref an, .ref ln])), cE x xv, (x 7, .inl (cA 0, 4, .inl (xd 6))), (x 8, .inl (cA 0, 4, .inl (xd 7))), (x 9, .inr (3, [.ref (x 10), .ref (x 11), .ref (x 12), .ref (x 13), .int (nI xf), .int (nI QX.1)])), (x 10, .inl (cA 0, 12, .inl (xr 0))), (x 11, .inl (cA 0, 12, .inl (xr 1))), (x 12, .inl (cA 0, 12, .inl (xr 2))), (x 13, .inl (cA 0, 48, .inl (xr 3))), cE y yv, (y 7, .inl (cA 0, 4, .inl (yd 6))), (y 8, .inl (cA 0, 4, .inl (yd 7))), (y 9, .inr (3, [.ref (y 10), .ref (y 11), .ref (y 12), .ref (y 13), .int (nI yf), .int (nI QY.1)])), (y 10, .inl (cA 0, 12, .inl (yr 0))), (y 11, .inl (cA 0, 12, .inl (yr 1))), (y 12, .inl (cA 0, 12, .inl (yr 2))), (y 13, .inl (cA 0, 48, .inl (yr 3))), (ln, .inr (0, [.ref vb'_39, .int 0, .int ml'_39, .int (nI ((lnT sy (yd 6) 4).length))])), (vb'_39, .inl (cA 2, nb'_39, .inl g'_39)), (ca, .inl (cA 0, 3, .inl cc))]) [0, 1, 2, 3, 4, 5, 6, 7, 8, 9, 10, 11, 12, 13, 14, 15, 16, 17, 19, 18] (by decide) rfl
                                      refine W.widen (k := 32) (n := 922) (by omega) (by omega) ?_
                                      exact W.zret (v := 1) hx hb hr rfl (fun t ht hW => ⟨⟨1, (vb'_39, ml'_39, (lnT sy (yd 6) 4).length, nb'_39, g'_39), rfl, ⟨hw_39_0.1, okL_le hw_39_0, hw_39_0.2.2.1, rfl⟩, ⟨by rw [ht]; exact hP, by rw [hAe]; exact hD⟩⟩, hS.F ht⟩) hS.2.2 dL_isWire_394
                                    · have c_48 := mt (nI_leI (a := QY.1) (b := j2) (by omega) (by omega)).mpr c_48
                                      refine lv_iload_n hx hb dL_isWire_340 rfl (lv_at hl 1 rfl) ?_
                                      refine lv_if_eq (tgt := 387) hx hb dL_isWire_341 (by decide) (fun c_50 => absurd c_50 (by decide)) (fun _ => ?_)
                                      obtain ⟨kk, hkk5, hkk⟩ := (hI.sw.2.2.1.1 j2 (by omega)).1
                                      refine lv_aload_n hx hb dL_isWire_344 rfl (lv_at hl 4 rfl) ?_
                                      refine lv_bipush (v := 7) hx hb dL_isWire_345 (by decide) ?_
                                      refine lv_iload_n hx hb dL_isWire_347 rfl (lv_at hl 3 rfl) ?_
                                      refine lv_iload hx hb dL_isWire_348 (lv_at hl 0 rfl) ?_
                                      refine lv_iconst (v := 0) hx hb dL_isWire_350 (by decide) ?_
                                      refine lv_iconst (v := 0) hx hb dL_isWire_351 (by decide) ?_
                                      refine lv_iconst (v := 0) hx hb dL_isWire_352 (by decide) ?_
                                      have hPc := hP.sub (ws' := [(o, .inr (4, [.ref F, .ref G, .int lo, .int nw, .int se, .ref (pa 0), .ref an, .ref ln])), cE y yv, (y 9, .inr (3, [.ref (y 10), .ref (y 11), .ref (y 12), .ref (y 13), .int (nI yf), .int (nI QY.1)])), (y 10, .inl (cA 0, 12, .inl (yr 0))), (y 11, .inl (cA 0, 12, .inl (yr 1))), (y 12, .inl (cA 0, 12, .inl (yr 2))), (y 13, .inl (cA 0, 48, .inl (yr 3)))]) [0, 9, 12, 13, 14, 15, 16] rfl
                                      have hDc := hD.sub (ws' := [(o, .inr (4, [.ref F, .ref G, .int lo, .int nw, .int se, .ref (pa 0), .ref an, .ref ln])), cE y yv, (y 9, .inr (3, [.ref (y 10), .ref (y 11), .ref (y 12), .ref (y 13), .int (nI yf), .int (nI QY.1)])), (y 10, .inl (cA 0, 12, .inl (yr 0))), (y 11, .inl (cA 0, 12, .inl (yr 1))), (y 12, .inl (cA 0, 12, .inl (yr 2))), (y 13, .inl (cA 0, 48, .inl (yr 3)))]) [0, 9, 12, 13, 14, 15, 16] (by decide) rfl
                                      have hFc := va_free (wc := [(o, .inr (4, [.ref F, .ref G, .int lo, .int nw, .int se, .ref (pa 0), .ref an, .ref ln])), cE y yv, (y 9, .inr (3, [.ref (y 10), .ref (y 11), .ref (y 12), .ref (y 13), .int (nI yf), .int (nI QY.1)])), (y 10, .inl (cA 0, 12, .inl (yr 0))), (y 11, .inl (cA 0, 12, .inl (yr 1))), (y 12, .inl (cA 0, 12, .inl (yr 2))), (y 13, .inl (cA 0, 48, .inl (yr 3)))]) hD hS hA [0, 9, 12, 13, 14, 15, 16] rfl
                                      refine va_calli (vx_runSW (As := [.ref o, .int 7, .int 1, .int (nI j2), .int 0, .int 0, .int 0]) (rest := []) ⟨hx, hb, hml, hown, hts⟩ (c_asks_kind_k l D cA H.size o F G lo nw se pa an ln y (x 0) 1 yv yr yf QY j2 0 0 0 (by first | exact he | exact en_flip he | exact en_01 he | exact en_10 he) (by assumption) (by omega)) (vx_cwSW 7 hts gL_isWire_L_asks rfl rfl rfl (by decide +kernel) ⟨Nat.le_of_ble_eq_true rfl, Nat.le_of_ble_eq_true rfl⟩) ⟨zU_blind, fun U hU hW => ⟨rfl, zU_call hU hPc hW.alike hK hDc⟩⟩ rfl rfl hl.1 rfl (lv_room (Nat.le_of_ble_eq_true rfl)) dL_isWire_353 ⟨Nat.le_of_ble_eq_true rfl, Nat.le_of_ble_eq_true rfl⟩) hS (fun q _ h => hFc q h) hFc (fun zr u t H1 locs ht hvm hw hB hz1 hk1 hS => ?_)
                                      obtain ⟨hP1, hD1⟩ := hB
                                      rw [ht] at hP1
                                      obtain ⟨hP, hD⟩ := va_join (wr := [cE x xv, (x 7, .inl (cA 0, 4, .inl (xd 6))), (x 8, .inl (cA 0, 4, .inl (xd 7))), (x 9, .inr (3, [.ref (x 10), .ref (x 11), .ref (x 12), .ref (x 13), .int (nI xf), .int (nI QX.1)])), (x 10, .inl (cA 0, 12, .inl (xr 0))), (x 11, .inl (cA 0, 12, .inl (xr 1))), (x 12, .inl (cA 0, 12, .inl (xr 2))), (x 13, .inl (cA 0, 48, .inl (xr 3))), (y 7, .inl (cA 0, 4, .inl (yd 6))), (y 8, .inl (cA 0, 4, .inl (yd 7))), (ln, .inr (0, [.ref vb'_39, .int 0, .int ml'_39, .int (nI ((lnT sy (yd 6) 4).length))])), (ca, .inl (cA 0, 3, .inl cc)), (vb'_39, .inl (cA 2, nb'_39, .inl g'_39))]) (w1 := [(o, .inr (4, [.ref F, .ref G, .int lo, .int nw, .int se, .ref (pa 0), .ref an, .ref ln])), cE y yv, (y 9, .inr (3, [.ref (y 10), .ref (y 11), .ref (y 12), .ref (y 13), .int (nI yf), .int (nI QY.1)])), (y 10, .inl (cA 0, 12, .inl (yr 0))), (y 11, .inl (cA 0, 12, .inl (yr 1))), (y 12, .inl (cA 0, 12, .inl (yr 2))), (y 13, .inl (cA 0, 48, .inl (yr 3)))]) hP hD [0, 9, 12, 13, 14, 15, 16] [1, 2, 3, 4, 5, 6, 7, 8, 10, 11, 17, 18, 19] rfl rfl (by decide) (by decide) hk1 hFc hP1 hD1
                                      generalize H1 = H at hP hS ⊢
                                      have hP := hP.sub (ws' := [(o, .inr (4, [.ref F, .ref G, .int lo, .int nw, .int se, .ref (pa 0), .ref an, .ref ln])), cE x xv, (x 7, .inl (cA 0, 4, .inl (xd 6))), (x 8, .inl (cA 0, 4, .inl (xd 7))), (x 9, .inr (3, [.ref (x 10), .ref (x 11), .ref (x 12), .ref (x 13), .int (nI xf), .int (nI QX.1)])), (x 10, .inl (cA 0, 12, .inl (xr 0))), (x 11, .inl (cA 0, 12, .inl (xr 1))), (x 12, .inl (cA 0, 12, .inl (xr 2))), (x 13, .inl (cA 0, 48, .inl (xr 3))), cE y yv, (y 7, .inl (cA 0, 4, .inl (yd 6))), (y 8, .inl (cA 0, 4, .inl (yd 7))), (y 9, .inr (3, [.ref (y 10), .ref (y 11), .ref (y 12), .ref (y 13), .int (nI yf), .int (nI QY.1)])), (y 10, .inl (cA 0, 12, .inl (yr 0))), (y 11, .inl (cA 0, 12, .inl (yr 1))), (y 12, .inl (cA 0, 12, .inl (yr 2))), (y 13, .inl (cA 0, 48, .inl (yr 3))), (ln, .inr (0, [.ref vb'_39, .int 0, .int ml'_39, .int (nI ((lnT sy (yd 6) 4).length))])), (ca, .inl (cA 0, 3, .inl cc)), (vb'_39, .inl (cA 2, nb'_39, .inl g'_39))]) [13, 0, 1, 2, 3, 4, 5, 6, 7, 14, 8, 9, 15, 16, 17, 18, 19, 10, 11, 12] rfl
                                      have hD := hD.sub (ws' := [(o, .inr (4, [.ref F, .ref G, .int lo, .int nw, .int se, .ref (pa 0), .ref an, .ref ln])), cE x xv, (x 7, .inl (cA 0, 4, .inl (xd 6))), (x 8, .inl (cA 0, 4, .inl (xd 7))), (x 9, .inr (3, [.ref (x 10), .ref (x 11), .ref (x 12), .ref (x 13), .int (nI xf), .int (nI QX.1)])), (x 10, .inl (cA 0, 12, .inl (xr 0))), (x 11, .inl (cA 0, 12, .inl (xr 1))), (x 12, .inl (cA 0, 12, .inl (xr 2))), (x 13, .inl (cA 0, 48, .inl (xr 3))), cE y yv, (y 7, .inl (cA 0, 4, .inl (yd 6))), (y 8, .inl (cA 0, 4, .inl (yd 7))), (y 9, .inr (3, [.ref (y 10), .ref (y 11), .ref (y 12), .ref (y 13), .int (nI yf), .int (nI QY.1)])), (y 10, .inl (cA 0, 12, .inl (yr 0))), (y 11, .inl (cA 0, 12, .inl (yr 1))), (y 12, .inl (cA 0, 12, .inl (yr 2))), (y 13, .inl (cA 0, 48, .inl (yr 3))), (ln, .inr (0, [.ref vb'_39, .int 0, .int ml'_39, .int (nI ((lnT sy (yd 6) 4).length))])), (ca, .inl (cA 0, 3, .inl cc)), (vb'_39, .inl (cA 2, nb'_39, .inl g'_39))]) [13, 0, 1, 2, 3, 4, 5, 6, 7, 14, 8, 9, 15, 16, 17, 18, 19, 10, 11, 12] (by decide) rfl
                                      clear hPc hDc hFc hP1 hD1 hk1 hz1
                                      have hw_51 := hw
                                      obtain rfl := hw
                                      refine z_top (y := (nI kk)) hkk ?_
                                      refine lv_if_lt (tgt := 379) hx hb dL_isWire_356 (by decide) (fun c_52 => ?_) (fun c_52 => ?_)
                                      · have c_52 := (nI_ltI (a := kk) (b := 0) (by omega) (by omega)).mp c_52
                                        omega
                                      · have c_52 := mt (nI_ltI (a := kk) (b := 0) (by omega) (by omega)).mpr c_52
                                        refine lv_aload_n hx hb dL_isWire_359 rfl (lv_at hl 4 rfl) ?_
                                        refine lv_bipush (v := 7) hx hb dL_isWire_360 (by decide) ?_
                                        refine lv_iload_n hx hb dL_isWire_362 rfl (lv_at hl 3 rfl) ?_
                                        refine lv_iload hx hb dL_isWire_363 (lv_at hl 0 rfl) ?_
                                        refine lv_iconst (v := 0) hx hb dL_isWire_365 (by decide) ?_
                                        refine lv_iconst (v := 0) hx hb dL_isWire_366 (by decide) ?_
                                        refine lv_iconst (v := 0) hx hb dL_isWire_367 (by decide) ?_
                                        have hPc := hP.sub (ws' := [(o, .inr (4, [.ref F, .ref G, .int lo, .int nw, .int se, .ref (pa 0), .ref an, .ref ln])), cE y yv, (y 9, .inr (3, [.ref (y 10), .ref (y 11), .ref (y 12), .ref (y 13), .int (nI yf), .int (nI QY.1)])), (y 10, .inl (cA 0, 12, .inl (yr 0))), (y 11, .inl (cA 0, 12, .inl (yr 1))), (y 12, .inl (cA 0, 12, .inl (yr 2))), (y 13, .inl (cA 0, 48, .inl (yr 3)))]) [0, 9, 12, 13, 14, 15, 16] rfl
                                        have hDc := hD.sub (ws' := [(o, .inr (4, [.ref F, .ref G, .int lo, .int nw, .int se, .ref (pa 0), .ref an, .ref ln])), cE y yv, (y 9, .inr (3, [.ref (y 10), .ref (y 11), .ref (y 12), .ref (y 13), .int (nI yf), .int (nI QY.1)])), (y 10, .inl (cA 0, 12, .inl (yr 0))), (y 11, .inl (cA 0, 12, .inl (yr 1))), (y 12, .inl (cA 0, 12, .inl (yr 2))), (y 13, .inl (cA 0, 48, .inl (yr 3)))]) [0, 9, 12, 13, 14, 15, 16] (by decide) rfl
                                        have hFc := va_free (wc := [(o, .inr (4, [.ref F, .ref G, .int lo, .int nw, .int se, .ref (pa 0), .ref an, .ref ln])), cE y yv, (y 9, .inr (3, [.ref (y 10), .ref (y 11), .ref (y 12), .ref (y 13), .int (nI yf), .int (nI QY.1)])), (y 10, .inl (cA 0, 12, .inl (yr 0))), (y 11, .inl (cA 0, 12, .inl (yr 1))), (y 12, .inl (cA 0, 12, .inl (yr 2))), (y 13, .inl (cA 0, 48, .inl (yr 3)))]) hD hS hA [0, 9, 12, 13, 14, 15, 16] rfl
                                        refine va_calli (vx_runSW (As := [.ref o, .int 7, .int 1, .int (nI j2), .int 0, .int 0, .int 0]) (rest := []) ⟨hx, hb, hml, hown, hts⟩ (c_asks_kind_k l D cA H.size o F G lo nw se pa an ln y (x 0) 1 yv yr yf QY j2 0 0 0 (by first | exact he | exact en_flip he | exact en_01 he | exact en_10 he) (by assumption) (by omega)) (vx_cwSW 7 hts gL_isWire_L_asks rfl rfl rfl (by decide +kernel) ⟨Nat.le_of_ble_eq_true rfl, Nat.le_of_ble_eq_true rfl⟩) ⟨zU_blind, fun U hU hW => ⟨rfl, zU_call hU hPc hW.alike hK hDc⟩⟩ rfl rfl hl.1 rfl (lv_room (Nat.le_of_ble_eq_true rfl)) dL_isWire_368 ⟨Nat.le_of_ble_eq_true rfl, Nat.le_of_ble_eq_true rfl⟩) hS (fun q _ h => hFc q h) hFc (fun zr u t H1 locs ht hvm hw hB hz1 hk1 hS => ?_)
                                        obtain ⟨hP1, hD1⟩ := hB
                                        rw [ht] at hP1
                                        obtain ⟨hP, hD⟩ := va_join (wr := [cE x xv, (x 7, .inl (cA 0, 4, .inl (xd 6))), (x 8, .inl (cA 0, 4, .inl (xd 7))), (x 9, .inr (3, [.ref (x 10), .ref (x 11), .ref (x 12), .ref (x 13), .int (nI xf), .int (nI QX.1)])), (x 10, .inl (cA 0, 12, .inl (xr 0))), (x 11, .inl (cA 0, 12, .inl (xr 1))), (x 12, .inl (cA 0, 12, .inl (xr 2))), (x 13, .inl (cA 0, 48, .inl (xr 3))), (y 7, .inl (cA 0, 4, .inl (yd 6))), (y 8, .inl (cA 0, 4, .inl (yd 7))), (ln, .inr (0, [.ref vb'_39, .int 0, .int ml'_39, .int (nI ((lnT sy (yd 6) 4).length))])), (ca, .inl (cA 0, 3, .inl cc)), (vb'_39, .inl (cA 2, nb'_39, .inl g'_39))]) (w1 := [(o, .inr (4, [.ref F, .ref G, .int lo, .int nw, .int se, .ref (pa 0), .ref an, .ref ln])), cE y yv, (y 9, .inr (3, [.ref (y 10), .ref (y 11), .ref (y 12), .ref (y 13), .int (nI yf), .int (nI QY.1)])), (y 10, .inl (cA 0, 12, .inl (yr 0))), (y 11, .inl (cA 0, 12, .inl (yr 1))), (y 12, .inl (cA 0, 12, .inl (yr 2))), (y 13, .inl (cA 0, 48, .inl (yr 3)))]) hP hD [0, 9, 12, 13, 14, 15, 16] [1, 2, 3, 4, 5, 6, 7, 8, 10, 11, 17, 18, 19] rfl rfl (by decide) (by decide) hk1 hFc hP1 hD1
                                        generalize H1 = H at hP hS ⊢
                                        have hP := hP.sub (ws' := [(o, .inr (4, [.ref F, .ref G, .int lo, .int nw, .int se, .ref (pa 0), .ref an, .ref ln])), cE x xv, (x 7, .inl (cA 0, 4, .inl (xd 6))), (x 8, .inl (cA 0, 4, .inl (xd 7))), (x 9, .inr (3, [.ref (x 10), .ref (x 11), .ref (x 12), .ref (x 13), .int (nI xf), .int (nI QX.1)])), (x 10, .inl (cA 0, 12, .inl (xr 0))), (x 11, .inl (cA 0, 12, .inl (xr 1))), (x 12, .inl (cA 0, 12, .inl (xr 2))), (x 13, .inl (cA 0, 48, .inl (xr 3))), cE y yv, (y 7, .inl (cA 0, 4, .inl (yd 6))), (y 8, .inl (cA 0, 4, .inl (yd 7))), (y 9, .inr (3, [.ref (y 10), .ref (y 11), .ref (y 12), .ref (y 13), .int (nI yf), .int (nI QY.1)])), (y 10, .inl (cA 0, 12, .inl (yr 0))), (y 11, .inl (cA 0, 12, .inl (yr 1))), (y 12, .inl (cA 0, 12, .inl (yr 2))), (y 13, .inl (cA 0, 48, .inl (yr 3))), (ln, .inr (0, [.ref vb'_39, .int 0, .int ml'_39, .int (nI ((lnT sy (yd 6) 4).length))])), (ca, .inl (cA 0, 3, .inl cc)), (vb'_39, .inl (cA 2, nb'_39, .inl g'_39))]) [13, 0, 1, 2, 3, 4, 5, 6, 7, 14, 8, 9, 15, 16, 17, 18, 19, 10, 11, 12] rfl
                                        have hD := hD.sub (ws' := [(o, .inr (4, [.ref F, .ref G, .int lo, .int nw, .int se, .ref (pa 0), .ref an, .ref ln])), cE x xv, (x 7, .inl (cA 0, 4, .inl (xd 6))), (x 8, .inl (cA 0, 4, .inl (xd 7))), (x 9, .inr (3, [.ref (x 10), .ref (x 11), .ref (x 12), .ref (x 13), .int (nI xf), .int (nI QX.1)])), (x 10, .inl (cA 0, 12, .inl (xr 0))), (x 11, .inl (cA 0, 12, .inl (xr 1))), (x 12, .inl (cA 0, 12, .inl (xr 2))), (x 13, .inl (cA 0, 48, .inl (xr 3))), cE y yv, (y 7, .inl (cA 0, 4, .inl (yd 6))), (y 8, .inl (cA 0, 4, .inl (yd 7))), (y 9, .inr (3, [.ref (y 10), .ref (y 11), .ref (y 12), .ref (y 13), .int (nI yf), .int (nI QY.1)])), (y 10, .inl (cA 0, 12, .inl (yr 0))), (y 11, .inl (cA 0, 12, .inl (yr 1))), (y 12, .inl (cA 0, 12, .inl (yr 2))), (y 13, .inl (cA 0, 48, .inl (yr 3))), (ln, .inr (0, [.ref vb'_39, .int 0, .int ml'_39, .int (nI ((lnT sy (yd 6) 4).length))])), (ca, .inl (cA 0, 3, .inl cc)), (vb'_39, .inl (cA 2, nb'_39, .inl g'_39))]) [13, 0, 1, 2, 3, 4, 5, 6, 7, 14, 8, 9, 15, 16, 17, 18, 19, 10, 11, 12] (by decide) rfl
                                        clear hPc hDc hFc hP1 hD1 hk1 hz1
                                        have hw_53 := hw
                                        obtain rfl := hw
                                        refine z_top (y := (nI kk)) hkk ?_
                                        refine lv_iconst (v := 5) hx hb dL_isWire_371 (by decide) ?_
                                        refine lv_icmp_gt (tgt := 379) hx hb dL_isWire_372 (by decide) (fun c_54 => ?_) (fun c_54 => ?_)
                                        · have c_54 := (nI_ltI (a := 5) (b := kk) (by omega) (by omega)).mp c_54
                                          omega
                                        · have c_54 := mt (nI_ltI (a := 5) (b := kk) (by omega) (by omega)).mpr c_54
                                          refine lv_iconst (v := 1) hx hb dL_isWire_375 (by decide) ?_
                                          refine lv_goto (tgt := 380) hx hb dL_isWire_376 (by decide) ?_
                                          refine lv_istore_n (lv' := [(2, .int 1), (5, .int (nI j2)), (4, .int (nI sy)), (3, .int 1), (0, .ref o), (1, .ref ca)]) hx hb dL_isWire_380 rfl hl (by decide) rfl (fun ls hl => ?_)
                                          refine lv_iinc (v := nI (j2 + 1)) (lv' := [(5, .int (nI (j2 + 1))), (2, .int 1), (4, .int (nI sy)), (3, .int 1), (0, .ref o), (1, .ref ca)]) hx hb dL_isWire_381 hl (k := 1) rfl (z_inc j2 1) (by decide) rfl (fun ls hl => ?_)
                                          refine lv_goto (tgt := 330) hx hb dL_isWire_384 (by decide) ?_
                                          exact ih_j2 _ _ _ (by omega) ⟨hP, hD, hS, lv_sub hl [0, 1, 2, 3, 4, 5] rfl⟩
                                  · have c_46 := mt (nI_leI (a := 4) (b := j) (by omega) (by omega)).mpr c_46
                                    refine lv_iload_n hx hb dL_isWire_167 rfl (lv_at hl 1 rfl) ?_
                                    refine lv_if_eq (tgt := 327) hx hb dL_isWire_168 (by decide) (fun c_55 => absurd c_55 (by decide)) (fun _ => ?_)
                                    refine z_cut (Inv := fun H locs ls st => st = [.int 1] ∧ va_P D vwCl [(o, .inr (4, [.ref F, .ref G, .int lo, .int nw, .int se, .ref (pa 0), .ref an, .ref ln])), cE x xv, (x 7, .inl (cA 0, 4, .inl (xd 6))), (x 8, .inl (cA 0, 4, .inl (xd 7))), (x 9, .inr (3, [.ref (x 10), .ref (x 11), .ref (x 12), .ref (x 13), .int (nI xf), .int (nI QX.1)])), (x 10, .inl (cA 0, 12, .inl (xr 0))), (x 11, .inl (cA 0, 12, .inl (xr 1))), (x 12, .inl (cA 0, 12, .inl (xr 2))), (x 13, .inl (cA 0, 48, .inl (xr 3))), cE y yv, (y 7, .inl (cA 0, 4, .inl (yd 6))), (y 8, .inl (cA 0, 4, .inl (yd 7))), (y 9, .inr (3, [.ref (y 10), .ref (y 11), .ref (y 12), .ref (y 13), .int (nI yf), .int (nI QY.1)])), (y 10, .inl (cA 0, 12, .inl (yr 0))), (y 11, .inl (cA 0, 12, .inl (yr 1))), (y 12, .inl (cA 0, 12, .inl (yr 2))), (y 13, .inl (cA 0, 48, .inl (yr 3))), (ln, .inr (0, [.ref vb'_39, .int 0, .int ml'_39, .int (nI ((lnT sy (yd 6) 4).length))])), (ca, .inl (cA 0, 3, .inl cc)), (vb'_39, .inl (cA 2, nb'_39, .inl g'_39))] H ∧ va_D A [(o, .inr (4, [.ref F, .ref G, .int lo, .int nw, .int se, .ref (pa 0), .ref an, .ref ln])), cE x xv, (x 7, .inl (cA 0, 4, .inl (xd 6))), (x 8, .inl (cA 0, 4, .inl (xd 7))), (x 9, .inr (3, [.ref (x 10), .ref (x 11), .ref (x 12), .ref (x 13), .int (nI xf), .int (nI QX.1)])), (x 10, .inl (cA 0, 12, .inl (xr 0))), (x 11, .inl (cA 0, 12, .inl (xr 1))), (x 12, .inl (cA 0, 12, .inl (xr 2))), (x 13, .inl (cA 0, 48, .inl (xr 3))), cE y yv, (y 7, .inl (cA 0, 4, .inl (yd 6))), (y 8, .inl (cA 0, 4, .inl (yd 7))), (y 9, .inr (3, [.ref (y 10), .ref (y 11), .ref (y 12), .ref (y 13), .int (nI yf), .int (nI QY.1)])), (y 10, .inl (cA 0, 12, .inl (yr 0))), (y 11, .inl (cA 0, 12, .inl (yr 1))), (y 12, .inl (cA 0, 12, .inl (yr 2))), (y 13, .inl (cA 0, 48, .inl (yr 3))), (ln, .inr (0, [.ref vb'_39, .int 0, .int ml'_39, .int (nI ((lnT sy (yd 6) 4).length))])), (ca, .inl (cA 0, 3, .inl cc)), (vb'_39, .inl (cA 2, nb'_39, .inl g'_39))] ∧ va_S A s.heap H locs ∧ lv_has ls 8 [(5, .int (nI j)), (2, .int 1), (4, .int (nI sy)), (3, .int 1), (0, .ref o), (1, .ref ca)]) 266 (fun H locs ls st hQ9 => ?_) (fun kJ => ?_)
                                    · obtain ⟨rfl, hP, hD, hS, hl⟩ := hQ9
                                      refine lv_istore_n (lv' := [(2, .int 1), (5, .int (nI j)), (4, .int (nI sy)), (3, .int 1), (0, .ref o), (1, .ref ca)]) hx hb dL_isWire_266 rfl hl (by decide) rfl (fun ls hl => ?_)
                                      refine z_cut (Inv := fun H locs ls st => st = [.int 1] ∧ va_P D vwCl [(o, .inr (4, [.ref F, .ref G, .int lo, .int nw, .int se, .ref (pa 0), .ref an, .ref ln])), cE x xv, (x 7, .inl (cA 0, 4, .inl (xd 6))), (x 8, .inl (cA 0, 4, .inl (xd 7))), (x 9, .inr (3, [.ref (x 10), .ref (x 11), .ref (x 12), .ref (x 13), .int (nI xf), .int (nI QX.1)])), (x 10, .inl (cA 0, 12, .inl (xr 0))), (x 11, .inl (cA 0, 12, .inl (xr 1))), (x 12, .inl (cA 0, 12, .inl (xr 2))), (x 13, .inl (cA 0, 48, .inl (xr 3))), cE y yv, (y 7, .inl (cA 0, 4, .inl (yd 6))), (y 8, .inl (cA 0, 4, .inl (yd 7))), (y 9, .inr (3, [.ref (y 10), .ref (y 11), .ref (y 12), .ref (y 13), .int (nI yf), .int (nI QY.1)])), (y 10, .inl (cA 0, 12, .inl (yr 0))), (y 11, .inl (cA 0, 12, .inl (yr 1))), (y 12, .inl (cA 0, 12, .inl (yr 2))), (y 13, .inl (cA 0, 48, .inl (yr 3))), (ln, .inr (0, [.ref vb'_39, .int 0, .int ml'_39, .int (nI ((lnT sy (yd 6) 4).length))])), (ca, .inl (cA 0, 3, .inl cc)), (vb'_39, .inl (cA 2, nb'_39, .inl g'_39))] H ∧ va_D A [(o, .inr (4, [.ref F, .ref G, .int lo, .int nw, .int se, .ref (pa 0), .ref an, .ref ln])), cE x xv, (x 7, .inl (cA 0, 4, .inl (xd 6))), (x 8, .inl (cA 0, 4, .inl (xd 7))), (x 9, .inr (3, [.ref (x 10), .ref (x 11), .ref (x 12), .ref (x 13), .int (nI xf), .int (nI QX.1)])), (x 10, .inl (cA 0, 12, .inl (xr 0))), (x 11, .inl (cA 0, 12, .inl (xr 1))), (x 12, .inl (cA 0, 12, .inl (xr 2))), (x 13, .inl (cA 0, 48, .inl (xr 3))), cE y yv, (y 7, .inl (cA 0, 4, .inl (yd 6))), (y 8, .inl (cA 0, 4, .inl (yd 7))), (y 9, .inr (3, [.ref (y 10), .ref (y 11), .ref (y 12), .ref (y 13), .int (nI yf), .int (nI QY.1)])), (y 10, .inl (cA 0, 12, .inl (yr 0))), (y 11, .inl (cA 0, 12, .inl (yr 1))), (y 12, .inl (cA 0, 12, .inl (yr 2))), (y 13, .inl (cA 0, 48, .inl (yr 3))), (ln, .inr (0, [.ref vb'_39, .int 0, .int ml'_39, .int (nI ((lnT sy (yd 6) 4).length))])), (ca, .inl (cA 0, 3, .inl cc)), (vb'_39, .inl (cA 2, nb'_39, .inl g'_39))] ∧ va_S A s.heap H locs ∧ lv_has ls 8 [(2, .int 1), (5, .int (nI j)), (4, .int (nI sy)), (3, .int 1), (0, .ref o), (1, .ref ca)]) 320 (fun H locs ls st hQ9 => ?_) (fun kJ => ?_)
                                      · obtain ⟨rfl, hP, hD, hS, hl⟩ := hQ9
                                        refine lv_istore_n (lv' := [(2, .int 1), (5, .int (nI j)), (4, .int (nI sy)), (3, .int 1), (0, .ref o), (1, .ref ca)]) hx hb dL_isWire_320 rfl hl (by decide) rfl (fun ls hl => ?_)
                                        refine lv_iinc (v := nI (j + 1)) (lv' := [(5, .int (nI (j + 1))), (2, .int 1), (4, .int (nI sy)), (3, .int 1), (0, .ref o), (1, .ref ca)]) hx hb dL_isWire_321 hl (k := 1) rfl (z_inc j 1) (by decide) rfl (fun ls hl => ?_)
                                        refine lv_goto (tgt := 161) hx hb dL_isWire_324 (by decide) ?_
                                        exact ih_j _ _ _ (by omega) ⟨hP, hD, hS, lv_sub hl [0, 1, 2, 3, 4, 5] rfl⟩
                                      · skip
                                        refine lv_iload_n hx hb dL_isWire_267 rfl (lv_at hl 0 rfl) ?_
                                        refine lv_if_eq (tgt := 319) hx hb dL_isWire_268 (by decide) (fun c_56 => absurd c_56 (by decide)) (fun _ => ?_)
                                        refine lv_aload_n hx hb dL_isWire_271 rfl (lv_at hl 5 rfl) ?_
                                        refine lv_iconst (v := 2) hx hb dL_isWire_272 (by decide) ?_
                                        refine z_iald (k := 2) (v := (nI gv)) hx hb hK hP 18 0 rfl rfl rfl (by omega) (by decide) hc2 dL_isWire_273 ?_
                                        refine lv_iconst (v := 1) hx hb dL_isWire_274 (by decide) ?_
                                        refine lv_icmp_eq (tgt := 315) hx hb dL_isWire_275 (by decide) (fun c_57 => ?_) (fun c_57 => ?_)
                                        · have c_57 := (nI_eq (a := gv) (b := 1) (by omega) (by omega)).mp c_57
                                          refine lv_iconst (v := 1) hx hb dL_isWire_315 (by decide) ?_
                                          refine lv_goto (tgt := 320) hx hb dL_isWire_316 (by decide) ?_
                                          exact kJ _ _ _ _ ⟨rfl, hP, hD, hS, lv_sub hl [0, 1, 2, 3, 4, 5] rfl⟩
                                        · have c_57 := mt (nI_eq (a := gv) (b := 1) (by omega) (by omega)).mpr c_57
                                          refine lv_aload_n hx hb dL_isWire_278 rfl (lv_at hl 4 rfl) ?_
                                          refine lv_iconst (v := 0) hx hb dL_isWire_279 (by decide) ?_
                                          have hPc := hP.sub (ws' := [(o, .inr (4, [.ref F, .ref G, .int lo, .int nw, .int se, .ref (pa 0), .ref an, .ref ln])), cE x xv]) [0, 1] rfl
                                          have hDc := hD.sub (ws' := [(o, .inr (4, [.ref F, .ref G, .int lo, .int nw, .int se, .ref (pa 0), .ref an, .ref ln])), cE x xv]) [0, 1] (by decide) rfl
                                          have hFc := va_free (wc := [(o, .inr (4, [.ref F, .ref G, .int lo, .int nw, .int se, .ref (pa 0), .ref an, .ref ln])), cE x xv]) hD hS hA [0, 1] rfl
                                          refine va_calli (va_runV (As := [.int 0]) (rest := []) ⟨hx, hb, hml, hown, hts⟩ (c_X3_state_k l D cA H.size o F G lo nw se pa an ln x (y 0) 0 xv (by first | exact he | exact en_flip he | exact en_01 he | exact en_10 he)) (cwV 1 hts gL_isWire_X3_state rfl rfl rfl (by decide +kernel) ⟨Nat.le_of_ble_eq_true rfl, Nat.le_of_ble_eq_true rfl⟩) ⟨zU_blind, va_recv hK hPc (ci := 4) (q0 := 0) rfl rfl, fun U hU hW => ⟨rfl, zU_call hU hPc hW.alike hK hDc⟩⟩ rfl rfl hl.1 rfl (lv_room (Nat.le_of_ble_eq_true rfl)) dL_isWire_280 ⟨Nat.le_of_ble_eq_true rfl, Nat.le_of_ble_eq_true rfl⟩) hS (fun q _ h => hFc q h) hFc (fun zr u t H1 locs ht hvm hw hB hz1 hk1 hS => ?_)
                                          obtain ⟨hP1, hD1⟩ := hB
                                          rw [ht] at hP1
                                          obtain ⟨hP, hD⟩ := va_join (wr := [(x 7, .inl (cA 0, 4, .inl (xd 6))), (x 8, .inl (cA 0, 4, .inl (xd 7))), (x 9, .inr (3, [.ref (x 10), .ref (x 11), .ref (x 12), .ref (x 13), .int (nI xf), .int (nI QX.1)])), (x 10, .inl (cA 0, 12, .inl (xr 0))), (x 11, .inl (cA 0, 12, .inl (xr 1))), (x 12, .inl (cA 0, 12, .inl (xr 2))), (x 13, .inl (cA 0, 48, .inl (xr 3))), cE y yv, (y 7, .inl (cA 0, 4, .inl (yd 6))), (y 8, .inl (cA 0, 4, .inl (yd 7))), (y 9, .inr (3, [.ref (y 10), .ref (y 11), .ref (y 12), .ref (y 13), .int (nI yf), .int (nI QY.1)])), (y 10, .inl (cA 0, 12, .inl (yr 0))), (y 11, .inl (cA 0, 12, .inl (yr 1))), (y 12, .inl (cA 0, 12, .inl (yr 2))), (y 13, .inl (cA 0, 48, .inl (yr 3))), (ln, .inr (0, [.ref vb'_39, .int 0, .int ml'_39, .int (nI ((lnT sy (yd 6) 4).length))])), (ca, .inl (cA 0, 3, .inl cc)), (vb'_39, .inl (cA 2, nb'_39, .inl g'_39))]) (w1 := [(o, .inr (4, [.ref F, .ref G, .int lo, .int nw, .int se, .ref (pa 0), .ref an, .ref ln])), cE x xv]) hP hD [0, 1] [2, 3, 4, 5, 6, 7, 8, 9, 10, 11, 12, 13, 14, 15, 16, 17, 18, 19] rfl rfl (by decide) (by decide) hk1 hFc hP1 hD1
                                          generalize H1 = H at hP hS ⊢
                                          have hP := hP.sub (ws' := [(o, .inr (4, [.ref F, .ref G, .int lo, .int nw, .int se, .ref (pa 0), .ref an, .ref ln])), cE x xv, (x 7, .inl (cA 0, 4, .inl (xd 6))), (x 8, .inl (cA 0, 4, .inl (xd 7))), (x 9, .inr (3, [.ref (x 10), .ref (x 11), .ref (x 12), .ref (x 13), .int (nI xf), .int (nI QX.1)])), (x 10, .inl (cA 0, 12, .inl (xr 0))), (x 11, .inl (cA 0, 12, .inl (xr 1))), (x 12, .inl (cA 0, 12, .inl (xr 2))), (x 13, .inl (cA 0, 48, .inl (xr 3))), cE y yv, (y 7, .inl (cA 0, 4, .inl (yd 6))), (y 8, .inl (cA 0, 4, .inl (yd 7))), (y 9, .inr (3, [.ref (y 10), .ref (y 11), .ref (y 12), .ref (y 13), .int (nI yf), .int (nI QY.1)])), (y 10, .inl (cA 0, 12, .inl (yr 0))), (y 11, .inl (cA 0, 12, .inl (yr 1))), (y 12, .inl (cA 0, 12, .inl (yr 2))), (y 13, .inl (cA 0, 48, .inl (yr 3))), (ln, .inr (0, [.ref vb'_39, .int 0, .int ml'_39, .int (nI ((lnT sy (yd 6) 4).length))])), (ca, .inl (cA 0, 3, .inl cc)), (vb'_39, .inl (cA 2, nb'_39, .inl g'_39))]) [18, 19, 0, 1, 2, 3, 4, 5, 6, 7, 8, 9, 10, 11, 12, 13, 14, 15, 16, 17] rfl
                                          have hD := hD.sub (ws' := [(o, .inr (4, [.ref F, .ref G, .int lo, .int nw, .int se, .ref (pa 0), .ref an, .ref ln])), cE x xv, (x 7, .inl (cA 0, 4, .inl (xd 6))), (x 8, .inl (cA 0, 4, .inl (xd 7))), (x 9, .inr (3, [.ref (x 10), .ref (x 11), .ref (x 12), .ref (x 13), .int (nI xf), .int (nI QX.1)])), (x 10, .inl (cA 0, 12, .inl (xr 0))), (x 11, .inl (cA 0, 12, .inl (xr 1))), (x 12, .inl (cA 0, 12, .inl (xr 2))), (x 13, .inl (cA 0, 48, .inl (xr 3))), cE y yv, (y 7, .inl (cA 0, 4, .inl (yd 6))), (y 8, .inl (cA 0, 4, .inl (yd 7))), (y 9, .inr (3, [.ref (y 10), .ref (y 11), .ref (y 12), .ref (y 13), .int (nI yf), .int (nI QY.1)])), (y 10, .inl (cA 0, 12, .inl (yr 0))), (y 11, .inl (cA 0, 12, .inl (yr 1))), (y 12, .inl (cA 0, 12, .inl (yr 2))), (y 13, .inl (cA 0, 48, .inl (yr 3))), (ln, .inr (0, [.ref vb'_39, .int 0, .int ml'_39, .int (nI ((lnT sy (yd 6) 4).length))])), (ca, .inl (cA 0, 3, .inl cc)), (vb'_39, .inl (cA 2, nb'_39, .inl g'_39))]) [18, 19, 0, 1, 2, 3, 4, 5, 6, 7, 8, 9, 10, 11, 12, 13, 14, 15, 16, 17] (by decide) rfl
                                          clear hPc hDc hFc hP1 hD1 hk1 hz1
                                          have hw_58 := hw
                                          obtain rfl := hw
                                          refine z_top (y := (nI sx)) hx0 ?_
                                          refine lv_iconst (v := 4) hx hb dL_isWire_283 (by decide) ?_
                                          refine lv_icmp_ne (tgt := 315) hx hb dL_isWire_284 (by decide) (fun c_59 => ?_) (fun c_59 => ?_)
                                          · have c_59 := mt (nI_eq (a := sx) (b := 4) (by omega) (by omega)).mpr c_59
                                            refine lv_iconst (v := 1) hx hb dL_isWire_315 (by decide) ?_
                                            refine lv_goto (tgt := 320) hx hb dL_isWire_316 (by decide) ?_
                                            exact kJ _ _ _ _ ⟨rfl, hP, hD, hS, lv_sub hl [0, 1, 2, 3, 4, 5] rfl⟩
                                          · have c_59 := (nI_eq (a := sx) (b := 4) (by omega) (by omega)).mp c_59
                                            refine lv_aload_n hx hb dL_isWire_287 rfl (lv_at hl 4 rfl) ?_
                                            refine lv_iconst (v := 1) hx hb dL_isWire_288 (by decide) ?_
                                            have hPc := hP.sub (ws' := [(o, .inr (4, [.ref F, .ref G, .int lo, .int nw, .int se, .ref (pa 0), .ref an, .ref ln])), cE y yv]) [0, 9] rfl
                                            have hDc := hD.sub (ws' := [(o, .inr (4, [.ref F, .ref G, .int lo, .int nw, .int se, .ref (pa 0), .ref an, .ref ln])), cE y yv]) [0, 9] (by decide) rfl
                                            have hFc := va_free (wc := [(o, .inr (4, [.ref F, .ref G, .int lo, .int nw, .int se, .ref (pa 0), .ref an, .ref ln])), cE y yv]) hD hS hA [0, 9] rfl
                                            refine va_calli (va_runV (As := [.int 1]) (rest := []) ⟨hx, hb, hml, hown, hts⟩ (c_X3_state_k l D cA H.size o F G lo nw se pa an ln y (x 0) 1 yv (by first | exact he | exact en_flip he | exact en_01 he | exact en_10 he)) (cwV 1 hts gL_isWire_X3_state rfl rfl rfl (by decide +kernel) ⟨Nat.le_of_ble_eq_true rfl, Nat.le_of_ble_eq_true rfl⟩) ⟨zU_blind, va_recv hK hPc (ci := 4) (q0 := 0) rfl rfl, fun U hU hW => ⟨rfl, zU_call hU hPc hW.alike hK hDc⟩⟩ rfl rfl hl.1 rfl (lv_room (Nat.le_of_ble_eq_true rfl)) dL_isWire_289 ⟨Nat.le_of_ble_eq_true rfl, Nat.le_of_ble_eq_true rfl⟩) hS (fun q _ h => hFc q h) hFc (fun zr u t H1 locs ht hvm hw hB hz1 hk1 hS => ?_)
                                            obtain ⟨hP1, hD1⟩ := hB
                                            rw [ht] at hP1
                                            obtain ⟨hP, hD⟩ := va_join (wr := [cE x xv, (x 7, .inl (cA 0, 4, .inl (xd 6))), (x 8, .inl (cA 0, 4, .inl (xd 7))), (x 9, .inr (3, [.ref (x 10), .ref (x 11), .ref (x 12), .ref (x 13), .int (nI xf), .int (nI QX.1)])), (x 10, .inl (cA 0, 12, .inl (xr 0))), (x 11, .inl (cA 0, 12, .inl (xr 1))), (x 12, .inl (cA 0, 12, .inl (xr 2))), (x 13, .inl (cA 0, 48, .inl (xr 3))), (y 7, .inl (cA 0, 4, .inl (yd 6))), (y 8, .inl (cA 0, 4, .inl (yd 7))), (y 9, .inr (3, [.ref (y 10), .ref (y 11), .ref (y 12), .ref (y 13), .int (nI yf), .int (nI QY.1)])), (y 10, .inl (cA 0, 12, .inl (yr 0))), (y 11, .inl (cA 0, 12, .inl (yr 1))), (y 12, .inl (cA 0, 12, .inl (yr 2))), (y 13, .inl (cA 0, 48, .inl (yr 3))), (ln, .inr (0, [.ref vb'_39, .int 0, .int ml'_39, .int (nI ((lnT sy (yd 6) 4).length))])), (ca, .inl (cA 0, 3, .inl cc)), (vb'_39, .inl (cA 2, nb'_39, .inl g'_39))]) (w1 := [(o, .inr (4, [.ref F, .ref G, .int lo, .int nw, .int se, .ref (pa 0), .ref an, .ref ln])), cE y yv]) hP hD [0, 9] [1, 2, 3, 4, 5, 6, 7, 8, 10, 11, 12, 13, 14, 15, 16, 17, 18, 19] rfl rfl (by decide) (by decide) hk1 hFc hP1 hD1
                                            generalize H1 = H at hP hS ⊢
                                            have hP := hP.sub (ws' := [(o, .inr (4, [.ref F, .ref G, .int lo, .int nw, .int se, .ref (pa 0), .ref an, .ref ln])), cE x xv, (x 7, .inl (cA 0, 4, .inl (xd 6))), (x 8, .inl (cA 0, 4, .inl (xd 7))), (x 9, .inr (3, [.ref (x 10), .ref (x 11), .ref (x 12), .ref (x 13), .int (nI xf), .int (nI QX.1)])), (x 10, .inl (cA 0, 12, .inl (xr 0))), (x 11, .inl (cA 0, 12, .inl (xr 1))), (x 12, .inl (cA 0, 12, .inl (xr 2))), (x 13, .inl (cA 0, 48, .inl (xr 3))), cE y yv, (y 7, .inl (cA 0, 4, .inl (yd 6))), (y 8, .inl (cA 0, 4, .inl (yd 7))), (y 9, .inr (3, [.ref (y 10), .ref (y 11), .ref (y 12), .ref (y 13), .int (nI yf), .int (nI QY.1)])), (y 10, .inl (cA 0, 12, .inl (yr 0))), (y 11, .inl (cA 0, 12, .inl (yr 1))), (y 12, .inl (cA 0, 12, .inl (yr 2))), (y 13, .inl (cA 0, 48, .inl (yr 3))), (ln, .inr (0, [.ref vb'_39, .int 0, .int ml'_39, .int (nI ((lnT sy (yd 6) 4).length))])), (ca, .inl (cA 0, 3, .inl cc)), (vb'_39, .inl (cA 2, nb'_39, .inl g'_39))]) [18, 0, 1, 2, 3, 4, 5, 6, 7, 19, 8, 9, 10, 11, 12, 13, 14, 15, 16, 17] rfl
                                            have hD := hD.sub (ws' := [(o, .inr (4, [.ref F, .ref G, .int lo, .int nw, .int se, .ref (pa 0), .ref an, .ref ln])), cE x xv, (x 7, .inl (cA 0, 4, .inl (xd 6))), (x 8, .inl (cA 0, 4, .inl (xd 7))), (x 9, .inr (3, [.ref (x 10), .ref (x 11), .ref (x 12), .ref (x 13), .int (nI xf), .int (nI QX.1)])), (x 10, .inl (cA 0, 12, .inl (xr 0))), (x 11, .inl (cA 0, 12, .inl (xr 1))), (x 12, .inl (cA 0, 12, .inl (xr 2))), (x 13, .inl (cA 0, 48, .inl (xr 3))), cE y yv, (y 7, .inl (cA 0, 4, .inl (yd 6))), (y 8, .inl (cA 0, 4, .inl (yd 7))), (y 9, .inr (3, [.ref (y 10), .ref (y 11), .ref (y 12), .ref (y 13), .int (nI yf), .int (nI QY.1)])), (y 10, .inl (cA 0, 12, .inl (yr 0))), (y 11, .inl (cA 0, 12, .inl (yr 1))), (y 12, .inl (cA 0, 12, .inl (yr 2))), (y 13, .inl (cA 0, 48, .inl (yr 3))), (ln, .inr (0, [.ref vb'_39, .int 0, .int ml'_39, .int (nI ((lnT sy (yd 6) 4).length))])), (ca, .inl (cA 0, 3, .inl cc)), (vb'_39, .inl (cA 2, nb'_39, .inl g'_39))]) [18, 0, 1, 2, 3, 4, 5, 6, 7, 19, 8, 9, 10, 11, 12, 13, 14, 15, 16, 17] (by decide) rfl
                                            clear hPc hDc hFc hP1 hD1 hk1 hz1
                                            have hw_60 := hw
                                            obtain rfl := hw
                                            refine z_top (y := (nI sy)) hy0 ?_
                                            refine lv_iconst (v := 4) hx hb dL_isWire_292 (by decide) ?_
                                            refine lv_icmp_ne (tgt := 315) hx hb dL_isWire_293 (by decide) (fun c_61 => ?_) (fun c_61 => ?_)
                                            · have c_61 := mt (nI_eq (a := sy) (b := 4) (by omega) (by omega)).mpr c_61
                                              refine lv_iconst (v := 1) hx hb dL_isWire_315 (by decide) ?_
                                              refine lv_goto (tgt := 320) hx hb dL_isWire_316 (by decide) ?_
                                              exact kJ _ _ _ _ ⟨rfl, hP, hD, hS, lv_sub hl [0, 1, 2, 3, 4, 5] rfl⟩
                                            · have c_61 := (nI_eq (a := sy) (b := 4) (by omega) (by omega)).mp c_61
                                              refine lv_aload_n hx hb dL_isWire_296 rfl (lv_at hl 4 rfl) ?_
                                              refine lv_iload_n hx hb dL_isWire_297 rfl (lv_at hl 3 rfl) ?_
                                              refine lv_iload hx hb dL_isWire_298 (lv_at hl 1 rfl) ?_
                                              have hPc := hP.sub (ws' := [(o, .inr (4, [.ref F, .ref G, .int lo, .int nw, .int se, .ref (pa 0), .ref an, .ref ln])), cE y yv, (y 7, .inl (cA 0, 4, .inl (yd 6)))]) [0, 9, 10] rfl
                                              have hDc := hD.sub (ws' := [(o, .inr (4, [.ref F, .ref G, .int lo, .int nw, .int se, .ref (pa 0), .ref an, .ref ln])), cE y yv, (y 7, .inl (cA 0, 4, .inl (yd 6)))]) [0, 9, 10] (by decide) rfl
                                              have hFc := va_free (wc := [(o, .inr (4, [.ref F, .ref G, .int lo, .int nw, .int se, .ref (pa 0), .ref an, .ref ln])), cE y yv, (y 7, .inl (cA 0, 4, .inl (yd 6)))]) hD hS hA [0, 9, 10] rfl
                                              refine va_calli (va_runV (As := [.int 1, .int (nI j)]) (rest := []) ⟨hx, hb, hml, hown, hts⟩ (c_X3_granted_k l D cA H.size o F G lo nw se pa an ln y (x 0) 1 yv j (yd 6) (by first | exact he | exact en_flip he | exact en_01 he | exact en_10 he) (by omega)) (cwV 2 hts gL_isWire_X3_granted rfl rfl rfl (by decide +kernel) ⟨Nat.le_of_ble_eq_true rfl, Nat.le_of_ble_eq_true rfl⟩) ⟨zU_blind, va_recv hK hPc (ci := 4) (q0 := 0) rfl rfl, fun U hU hW => ⟨rfl, zU_call hU hPc hW.alike hK hDc⟩⟩ rfl rfl hl.1 rfl (lv_room (Nat.le_of_ble_eq_true rfl)) dL_isWire_300 ⟨Nat.le_of_ble_eq_true rfl, Nat.le_of_ble_eq_true rfl⟩) hS (fun q _ h => hFc q h) hFc (fun zr u t H1 locs ht hvm hw hB hz1 hk1 hS => ?_)
                                              obtain ⟨hP1, hD1⟩ := hB
                                              rw [ht] at hP1
                                              obtain ⟨hP, hD⟩ := va_join (wr := [cE x xv, (x 7, .inl (cA 0, 4, .inl (xd 6))), (x 8, .inl (cA 0, 4, .inl (xd 7))), (x 9, .inr (3, [.ref (x 10), .ref (x 11), .ref (x 12), .ref (x 13), .int (nI xf), .int (nI QX.1)])), (x 10, .inl (cA 0, 12, .inl (xr 0))), (x 11, .inl (cA 0, 12, .inl (xr 1))), (x 12, .inl (cA 0, 12, .inl (xr 2))), (x 13, .inl (cA 0, 48, .inl (xr 3))), (y 8, .inl (cA 0, 4, .inl (yd 7))), (y 9, .inr (3, [.ref (y 10), .ref (y 11), .ref (y 12), .ref (y 13), .int (nI yf), .int (nI QY.1)])), (y 10, .inl (cA 0, 12, .inl (yr 0))), (y 11, .inl (cA 0, 12, .inl (yr 1))), (y 12, .inl (cA 0, 12, .inl (yr 2))), (y 13, .inl (cA 0, 48, .inl (yr 3))), (ln, .inr (0, [.ref vb'_39, .int 0, .int ml'_39, .int (nI ((lnT sy (yd 6) 4).length))])), (ca, .inl (cA 0, 3, .inl cc)), (vb'_39, .inl (cA 2, nb'_39, .inl g'_39))]) (w1 := [(o, .inr (4, [.ref F, .ref G, .int lo, .int nw, .int se, .ref (pa 0), .ref an, .ref ln])), cE y yv, (y 7, .inl (cA 0, 4, .inl (yd 6)))]) hP hD [0, 9, 10] [1, 2, 3, 4, 5, 6, 7, 8, 11, 12, 13, 14, 15, 16, 17, 18, 19] rfl rfl (by decide) (by decide) hk1 hFc hP1 hD1
                                              generalize H1 = H at hP hS ⊢
                                              have hP := hP.sub (ws' := [(o, .inr (4, [.ref F, .ref G, .int lo, .int nw, .int se, .ref (pa 0), .ref an, .ref ln])), cE x xv, (x 7, .inl (cA 0, 4, .inl (xd 6))), (x 8, .inl (cA 0, 4, .inl (xd 7))), (x 9, .inr (3, [.ref (x 10), .ref (x 11), .ref (x 12), .ref (x 13), .int (nI xf), .int (nI QX.1)])), (x 10, .inl (cA 0, 12, .inl (xr 0))), (x 11, .inl (cA 0, 12, .inl (xr 1))), (x 12, .inl (cA 0, 12, .inl (xr 2))), (x 13, .inl (cA 0, 48, .inl (xr 3))), cE y yv, (y 7, .inl (cA 0, 4, .inl (yd 6))), (y 8, .inl (cA 0, 4, .inl (yd 7))), (y 9, .inr (3, [.ref (y 10), .ref (y 11), .ref (y 12), .ref (y 13), .int (nI yf), .int (nI QY.1)])), (y 10, .inl (cA 0, 12, .inl (yr 0))), (y 11, .inl (cA 0, 12, .inl (yr 1))), (y 12, .inl (cA 0, 12, .inl (yr 2))), (y 13, .inl (cA 0, 48, .inl (yr 3))), (ln, .inr (0, [.ref vb'_39, .int 0, .int ml'_39, .int (nI ((lnT sy (yd 6) 4).length))])), (ca, .inl (cA 0, 3, .inl cc)), (vb'_39, .inl (cA 2, nb'_39, .inl g'_39))]) [17, 0, 1, 2, 3, 4, 5, 6, 7, 18, 19, 8, 9, 10, 11, 12, 13, 14, 15, 16] rfl
                                              have hD := hD.sub (ws' := [(o, .inr (4, [.ref F, .ref G, .int lo, .int nw, .int se, .ref (pa 0), .ref an, .ref ln])), cE x xv, (x 7, .inl (cA 0, 4, .inl (xd 6))), (x 8, .inl (cA 0, 4, .inl (xd 7))), (x 9, .inr (3, [.ref (x 10), .ref (x 11), .ref (x 12), .ref (x 13), .int (nI xf), .int (nI QX.1)])), (x 10, .inl (cA 0, 12, .inl (xr 0))), (x 11, .inl (cA 0, 12, .inl (xr 1))), (x 12, .inl (cA 0, 12, .inl (xr 2))), (x 13, .inl (cA 0, 48, .inl (xr 3))), cE y yv, (y 7, .inl (cA 0, 4, .inl (yd 6))), (y 8, .inl (cA 0, 4, .inl (yd 7))), (y 9, .inr (3, [.ref (y 10), .ref (y 11), .ref (y 12), .ref (y 13), .int (nI yf), .int (nI QY.1)])), (y 10, .inl (cA 0, 12, .inl (yr 0))), (y 11, .inl (cA 0, 12, .inl (yr 1))), (y 12, .inl (cA 0, 12, .inl (yr 2))), (y 13, .inl (cA 0, 48, .inl (yr 3))), (ln, .inr (0, [.ref vb'_39, .int 0, .int ml'_39, .int (nI ((lnT sy (yd 6) 4).length))])), (ca, .inl (cA 0, 3, .inl cc)), (vb'_39, .inl (cA 2, nb'_39, .inl g'_39))]) [17, 0, 1, 2, 3, 4, 5, 6, 7, 18, 19, 8, 9, 10, 11, 12, 13, 14, 15, 16] (by decide) rfl
                                              clear hPc hDc hFc hP1 hD1 hk1 hz1
                                              have hw_62 := hw
                                              obtain rfl := hw
                                              refine z_top (y := yd 6 j) (gr_y hy0 (by omega)) ?_
                                              refine lv_aload_n hx hb dL_isWire_303 rfl (lv_at hl 4 rfl) ?_
                                              refine lv_iconst (v := 1) hx hb dL_isWire_304 (by decide) ?_
                                              refine lv_iload_n hx hb dL_isWire_305 rfl (lv_at hl 3 rfl) ?_
                                              refine lv_isub hx hb dL_isWire_306 ?_
                                              refine z_top (y := 0) (by decide) ?_
                                              refine lv_iload hx hb dL_isWire_307 (lv_at hl 1 rfl) ?_
                                              have hPc := hP.sub (ws' := [(o, .inr (4, [.ref F, .ref G, .int lo, .int nw, .int se, .ref (pa 0), .ref an, .ref ln])), cE x xv, (x 8, .inl (cA 0, 4, .inl (xd 7)))]) [0, 1, 3] rfl
                                              have hDc := hD.sub (ws' := [(o, .inr (4, [.ref F, .ref G, .int lo, .int nw, .int se, .ref (pa 0), .ref an, .ref ln])), cE x xv, (x 8, .inl (cA 0, 4, .inl (xd 7)))]) [0, 1, 3] (by decide) rfl
                                              have hFc := va_free (wc := [(o, .inr (4, [.ref F, .ref G, .int lo, .int nw, .int se, .ref (pa 0), .ref an, .ref ln])), cE x xv, (x 8, .inl (cA 0, 4, .inl (xd 7)))]) hD hS hA [0, 1, 3] rfl
                                              refine va_calli (va_runV (As := [.int 0, .int (nI j)]) (rest := [.int (yd 6 j)]) ⟨hx, hb, hml, hown, hts⟩ (c_X3_allowed_k l D cA H.size o F G lo nw se pa an ln x (y 0) 0 xv j (xd 7) (by first | exact he | exact en_flip he | exact en_01 he | exact en_10 he) (by omega)) (cwV 2 hts gL_isWire_X3_allowed rfl rfl rfl (by decide +kernel) ⟨Nat.le_of_ble_eq_true rfl, Nat.le_of_ble_eq_true rfl⟩) ⟨zU_blind, va_recv hK hPc (ci := 4) (q0 := 0) rfl rfl, fun U hU hW => ⟨rfl, zU_call hU hPc hW.alike hK hDc⟩⟩ rfl rfl hl.1 rfl (lv_room (Nat.le_of_ble_eq_true rfl)) dL_isWire_309 ⟨Nat.le_of_ble_eq_true rfl, Nat.le_of_ble_eq_true rfl⟩) hS (fun q _ h => hFc q h) hFc (fun zr u t H1 locs ht hvm hw hB hz1 hk1 hS => ?_)
                                              obtain ⟨hP1, hD1⟩ := hB
                                              rw [ht] at hP1
                                              obtain ⟨hP, hD⟩ := va_join (wr := [(x 7, .inl (cA 0, 4, .inl (xd 6))), (x 9, .inr (3, [.ref (x 10), .ref (x 11), .ref (x 12), .ref (x 13), .int (nI xf), .int (nI QX.1)])), (x 10, .inl (cA 0, 12, .inl (xr 0))), (x 11, .inl (cA 0, 12, .inl (xr 1))), (x 12, .inl (cA 0, 12, .inl (xr 2))), (x 13, .inl (cA 0, 48, .inl (xr 3))), cE y yv, (y 7, .inl (cA 0, 4, .inl (yd 6))), (y 8, .inl (cA 0, 4, .inl (yd 7))), (y 9, .inr (3, [.ref (y 10), .ref (y 11), .ref (y 12), .ref (y 13), .int (nI yf), .int (nI QY.1)])), (y 10, .inl (cA 0, 12, .inl (yr 0))), (y 11, .inl (cA 0, 12, .inl (yr 1))), (y 12, .inl (cA 0, 12, .inl (yr 2))), (y 13, .inl (cA 0, 48, .inl (yr 3))), (ln, .inr (0, [.ref vb'_39, .int 0, .int ml'_39, .int (nI ((lnT sy (yd 6) 4).length))])), (ca, .inl (cA 0, 3, .inl cc)), (vb'_39, .inl (cA 2, nb'_39, .inl g'_39))]) (w1 := [(o, .inr (4, [.ref F, .ref G, .int lo, .int nw, .int se, .ref (pa 0), .ref an, .ref ln])), cE x xv, (x 8, .inl (cA 0, 4, .inl (xd 7)))]) hP hD [0, 1, 3] [2, 4, 5, 6, 7, 8, 9, 10, 11, 12, 13, 14, 15, 16, 17, 18, 19] rfl rfl (by decide) (by decide) hk1 hFc hP1 hD1
                                              generalize H1 = H at hP hS ⊢
                                              have hP := hP.sub (ws' := [(o, .inr (4, [.ref F, .ref G, .int lo, .int nw, .int se, .ref (pa 0), .ref an, .ref ln])), cE x xv, (x 7, .inl (cA 0, 4, .inl (xd 6))), (x 8, .inl (cA 0, 4, .inl (xd 7))), (x 9, .inr (3, [.ref (x 10), .ref (x 11), .ref (x 12), .ref (x 13), .int (nI xf), .int (nI QX.1)])), (x 10, .inl (cA 0, 12, .inl (xr 0))), (x 11, .inl (cA 0, 12, .inl (xr 1))), (x 12, .inl (cA 0, 12, .inl (xr 2))), (x 13, .inl (cA 0, 48, .inl (xr 3))), cE y yv, (y 7, .inl (cA 0, 4, .inl (yd 6))), (y 8, .inl (cA 0, 4, .inl (yd 7))), (y 9, .inr (3, [.ref (y 10), .ref (y 11), .ref (y 12), .ref (y 13), .int (nI yf), .int (nI QY.1)])), (y 10, .inl (cA 0, 12, .inl (yr 0))), (y 11, .inl (cA 0, 12, .inl (yr 1))), (y 12, .inl (cA 0, 12, .inl (yr 2))), (y 13, .inl (cA 0, 48, .inl (yr 3))), (ln, .inr (0, [.ref vb'_39, .int 0, .int ml'_39, .int (nI ((lnT sy (yd 6) 4).length))])), (ca, .inl (cA 0, 3, .inl cc)), (vb'_39, .inl (cA 2, nb'_39, .inl g'_39))]) [17, 18, 0, 19, 1, 2, 3, 4, 5, 6, 7, 8, 9, 10, 11, 12, 13, 14, 15, 16] rfl
                                              have hD := hD.sub (ws' := [(o, .inr (4, [.ref F, .ref G, .int lo, .int nw, .int se, .ref (pa 0), .ref an, .ref ln])), cE x xv, (x 7, .inl (cA 0, 4, .inl (xd 6))), (x 8, .inl (cA 0, 4, .inl (xd 7))), (x 9, .inr (3, [.ref (x 10), .ref (x 11), .ref (x 12), .ref (x 13), .int (nI xf), .int (nI QX.1)])), (x 10, .inl (cA 0, 12, .inl (xr 0))), (x 11, .inl (cA 0, 12, .inl (xr 1))), (x 12, .inl (cA 0, 12, .inl (xr 2))), (x 13, .inl (cA 0, 48, .inl (xr 3))), cE y yv, (y 7, .inl (cA 0, 4, .inl (yd 6))), (y 8, .inl (cA 0, 4, .inl (yd 7))), (y 9, .inr (3, [.ref (y 10), .ref (y 11), .ref (y 12), .ref (y 13), .int (nI yf), .int (nI QY.1)])), (y 10, .inl (cA 0, 12, .inl (yr 0))), (y 11, .inl (cA 0, 12, .inl (yr 1))), (y 12, .inl (cA 0, 12, .inl (yr 2))), (y 13, .inl (cA 0, 48, .inl (yr 3))), (ln, .inr (0, [.ref vb'_39, .int 0, .int ml'_39, .int (nI ((lnT sy (yd 6) 4).length))])), (ca, .inl (cA 0, 3, .inl cc)), (vb'_39, .inl (cA 2, nb'_39, .inl g'_39))]) [17, 18, 0, 19, 1, 2, 3, 4, 5, 6, 7, 8, 9, 10, 11, 12, 13, 14, 15, 16] (by decide) rfl
                                              clear hPc hDc hFc hP1 hD1 hk1 hz1
                                              have hw_63 := hw
                                              obtain rfl := hw
                                              refine z_top (y := xd 7 j) (al_v hx0 (by omega)) ?_
                                              refine z_top (y := yd 6 j) (agr_x hI.sw (by omega) (by omega) (by omega)) ?_
                                              refine lv_icmp_ne (tgt := 319) hx hb dL_isWire_312 (by decide) (fun c_64 => absurd rfl c_64) (fun _ => ?_)
                                              refine lv_iconst (v := 1) hx hb dL_isWire_315 (by decide) ?_
                                              refine lv_goto (tgt := 320) hx hb dL_isWire_316 (by decide) ?_
                                              exact kJ _ _ _ _ ⟨rfl, hP, hD, hS, lv_sub hl [0, 1, 2, 3, 4, 5] rfl⟩
                                    · skip
                                      refine lv_aload_n hx hb dL_isWire_171 rfl (lv_at hl 4 rfl) ?_
                                      refine lv_iload_n hx hb dL_isWire_172 rfl (lv_at hl 3 rfl) ?_
                                      refine lv_iload hx hb dL_isWire_173 (lv_at hl 0 rfl) ?_
                                      have hPc := hP.sub (ws' := [(o, .inr (4, [.ref F, .ref G, .int lo, .int nw, .int se, .ref (pa 0), .ref an, .ref ln])), cE y yv, (y 7, .inl (cA 0, 4, .inl (yd 6)))]) [0, 9, 10] rfl
                                      have hDc := hD.sub (ws' := [(o, .inr (4, [.ref F, .ref G, .int lo, .int nw, .int se, .ref (pa 0), .ref an, .ref ln])), cE y yv, (y 7, .inl (cA 0, 4, .inl (yd 6)))]) [0, 9, 10] (by decide) rfl
                                      have hFc := va_free (wc := [(o, .inr (4, [.ref F, .ref G, .int lo, .int nw, .int se, .ref (pa 0), .ref an, .ref ln])), cE y yv, (y 7, .inl (cA 0, 4, .inl (yd 6)))]) hD hS hA [0, 9, 10] rfl
                                      refine va_calli (va_runV (As := [.int 1, .int (nI j)]) (rest := []) ⟨hx, hb, hml, hown, hts⟩ (c_X3_asked_k l D cA H.size o F G lo nw se pa an ln y (x 0) 1 yv j (yd 6) (by first | exact he | exact en_flip he | exact en_01 he | exact en_10 he) (by omega)) (cwV 2 hts gL_isWire_X3_asked rfl rfl rfl (by decide +kernel) ⟨Nat.le_of_ble_eq_true rfl, Nat.le_of_ble_eq_true rfl⟩) ⟨zU_blind, va_recv hK hPc (ci := 4) (q0 := 0) rfl rfl, fun U hU hW => ⟨rfl, zU_call hU hPc hW.alike hK hDc⟩⟩ rfl rfl hl.1 rfl (lv_room (Nat.le_of_ble_eq_true rfl)) dL_isWire_175 ⟨Nat.le_of_ble_eq_true rfl, Nat.le_of_ble_eq_true rfl⟩) hS (fun q _ h => hFc q h) hFc (fun zr u t H1 locs ht hvm hw hB hz1 hk1 hS => ?_)
                                      obtain ⟨hP1, hD1⟩ := hB
                                      rw [ht] at hP1
                                      obtain ⟨hP, hD⟩ := va_join (wr := [cE x xv, (x 7, .inl (cA 0, 4, .inl (xd 6))), (x 8, .inl (cA 0, 4, .inl (xd 7))), (x 9, .inr (3, [.ref (x 10), .ref (x 11), .ref (x 12), .ref (x 13), .int (nI xf), .int (nI QX.1)])), (x 10, .inl (cA 0, 12, .inl (xr 0))), (x 11, .inl (cA 0, 12, .inl (xr 1))), (x 12, .inl (cA 0, 12, .inl (xr 2))), (x 13, .inl (cA 0, 48, .inl (xr 3))), (y 8, .inl (cA 0, 4, .inl (yd 7))), (y 9, .inr (3, [.ref (y 10), .ref (y 11), .ref (y 12), .ref (y 13), .int (nI yf), .int (nI QY.1)])), (y 10, .inl (cA 0, 12, .inl (yr 0))), (y 11, .inl (cA 0, 12, .inl (yr 1))), (y 12, .inl (cA 0, 12, .inl (yr 2))), (y 13, .inl (cA 0, 48, .inl (yr 3))), (ln, .inr (0, [.ref vb'_39, .int 0, .int ml'_39, .int (nI ((lnT sy (yd 6) 4).length))])), (ca, .inl (cA 0, 3, .inl cc)), (vb'_39, .inl (cA 2, nb'_39, .inl g'_39))]) (w1 := [(o, .inr (4, [.ref F, .ref G, .int lo, .int nw, .int se, .ref (pa 0), .ref an, .ref ln])), cE y yv, (y 7, .inl (cA 0, 4, .inl (yd 6)))]) hP hD [0, 9, 10] [1, 2, 3, 4, 5, 6, 7, 8, 11, 12, 13, 14, 15, 16, 17, 18, 19] rfl rfl (by decide) (by decide) hk1 hFc hP1 hD1
                                      generalize H1 = H at hP hS ⊢
                                      have hP := hP.sub (ws' := [(o, .inr (4, [.ref F, .ref G, .int lo, .int nw, .int se, .ref (pa 0), .ref an, .ref ln])), cE x xv, (x 7, .inl (cA 0, 4, .inl (xd 6))), (x 8, .inl (cA 0, 4, .inl (xd 7))), (x 9, .inr (3, [.ref (x 10), .ref (x 11), .ref (x 12), .ref (x 13), .int (nI xf), .int (nI QX.1)])), (x 10, .inl (cA 0, 12, .inl (xr 0))), (x 11, .inl (cA 0, 12, .inl (xr 1))), (x 12, .inl (cA 0, 12, .inl (xr 2))), (x 13, .inl (cA 0, 48, .inl (xr 3))), cE y yv, (y 7, .inl (cA 0, 4, .inl (yd 6))), (y 8, .inl (cA 0, 4, .inl (yd 7))), (y 9, .inr (3, [.ref (y 10), .ref (y 11), .ref (y 12), .ref (y 13), .int (nI yf), .int (nI QY.1)])), (y 10, .inl (cA 0, 12, .inl (yr 0))), (y 11, .inl (cA 0, 12, .inl (yr 1))), (y 12, .inl (cA 0, 12, .inl (yr 2))), (y 13, .inl (cA 0, 48, .inl (yr 3))), (ln, .inr (0, [.ref vb'_39, .int 0, .int ml'_39, .int (nI ((lnT sy (yd 6) 4).length))])), (ca, .inl (cA 0, 3, .inl cc)), (vb'_39, .inl (cA 2, nb'_39, .inl g'_39))]) [17, 0, 1, 2, 3, 4, 5, 6, 7, 18, 19, 8, 9, 10, 11, 12, 13, 14, 15, 16] rfl
                                      have hD := hD.sub (ws' := [(o, .inr (4, [.ref F, .ref G, .int lo, .int nw, .int se, .ref (pa 0), .ref an, .ref ln])), cE x xv, (x 7, .inl (cA 0, 4, .inl (xd 6))), (x 8, .inl (cA 0, 4, .inl (xd 7))), (x 9, .inr (3, [.ref (x 10), .ref (x 11), .ref (x 12), .ref (x 13), .int (nI xf), .int (nI QX.1)])), (x 10, .inl (cA 0, 12, .inl (xr 0))), (x 11, .inl (cA 0, 12, .inl (xr 1))), (x 12, .inl (cA 0, 12, .inl (xr 2))), (x 13, .inl (cA 0, 48, .inl (xr 3))), cE y yv, (y 7, .inl (cA 0, 4, .inl (yd 6))), (y 8, .inl (cA 0, 4, .inl (yd 7))), (y 9, .inr (3, [.ref (y 10), .ref (y 11), .ref (y 12), .ref (y 13), .int (nI yf), .int (nI QY.1)])), (y 10, .inl (cA 0, 12, .inl (yr 0))), (y 11, .inl (cA 0, 12, .inl (yr 1))), (y 12, .inl (cA 0, 12, .inl (yr 2))), (y 13, .inl (cA 0, 48, .inl (yr 3))), (ln, .inr (0, [.ref vb'_39, .int 0, .int ml'_39, .int (nI ((lnT sy (yd 6) 4).length))])), (ca, .inl (cA 0, 3, .inl cc)), (vb'_39, .inl (cA 2, nb'_39, .inl g'_39))]) [17, 0, 1, 2, 3, 4, 5, 6, 7, 18, 19, 8, 9, 10, 11, 12, 13, 14, 15, 16] (by decide) rfl
                                      clear hPc hDc hFc hP1 hD1 hk1 hz1
                                      have hw_65 := hw
                                      obtain rfl := hw
                                      rcases (hI.sw.2.1.1.1 j (by omega)).2.1 with hva | ⟨va, hvb, hva⟩
                                      · skip
                                        refine z_top (y := (-1)) hva ?_
                                        refine lv_istore (lv' := [(6, .int (-1)), (5, .int (nI j)), (2, .int 1), (4, .int (nI sy)), (3, .int 1), (0, .ref o), (1, .ref ca)]) hx hb dL_isWire_178 hl (by decide) rfl (fun ls hl => ?_)
                                        refine lv_aload_n hx hb dL_isWire_180 rfl (lv_at hl 5 rfl) ?_
                                        refine lv_iload_n hx hb dL_isWire_181 rfl (lv_at hl 4 rfl) ?_
                                        refine lv_iload hx hb dL_isWire_182 (lv_at hl 1 rfl) ?_
                                        have hPc := hP.sub (ws' := [(o, .inr (4, [.ref F, .ref G, .int lo, .int nw, .int se, .ref (pa 0), .ref an, .ref ln])), cE y yv, (y 8, .inl (cA 0, 4, .inl (yd 7)))]) [0, 9, 11] rfl
                                        have hDc := hD.sub (ws' := [(o, .inr (4, [.ref F, .ref G, .int lo, .int nw, .int se, .ref (pa 0), .ref an, .ref ln])), cE y yv, (y 8, .inl (cA 0, 4, .inl (yd 7)))]) [0, 9, 11] (by decide) rfl
                                        have hFc := va_free (wc := [(o, .inr (4, [.ref F, .ref G, .int lo, .int nw, .int se, .ref (pa 0), .ref an, .ref ln])), cE y yv, (y 8, .inl (cA 0, 4, .inl (yd 7)))]) hD hS hA [0, 9, 11] rfl
                                        refine va_calli (va_runV (As := [.int 1, .int (nI j)]) (rest := []) ⟨hx, hb, hml, hown, hts⟩ (c_X3_allowed_k l D cA H.size o F G lo nw se pa an ln y (x 0) 1 yv j (yd 7) (by first | exact he | exact en_flip he | exact en_01 he | exact en_10 he) (by omega)) (cwV 2 hts gL_isWire_X3_allowed rfl rfl rfl (by decide +kernel) ⟨Nat.le_of_ble_eq_true rfl, Nat.le_of_ble_eq_true rfl⟩) ⟨zU_blind, va_recv hK hPc (ci := 4) (q0 := 0) rfl rfl, fun U hU hW => ⟨rfl, zU_call hU hPc hW.alike hK hDc⟩⟩ rfl rfl hl.1 rfl (lv_room (Nat.le_of_ble_eq_true rfl)) dL_isWire_184 ⟨Nat.le_of_ble_eq_true rfl, Nat.le_of_ble_eq_true rfl⟩) hS (fun q _ h => hFc q h) hFc (fun zr u t H1 locs ht hvm hw hB hz1 hk1 hS => ?_)
                                        obtain ⟨hP1, hD1⟩ := hB
                                        rw [ht] at hP1
                                        obtain ⟨hP, hD⟩ := va_join (wr := [cE x xv, (x 7, .inl (cA 0, 4, .inl (xd 6))), (x 8, .inl (cA 0, 4, .inl (xd 7))), (x 9, .inr (3, [.ref (x 10), .ref (x 11), .ref (x 12), .ref (x 13), .int (nI xf), .int (nI QX.1)])), (x 10, .inl (cA 0, 12, .inl (xr 0))), (x 11, .inl (cA 0, 12, .inl (xr 1))), (x 12, .inl (cA 0, 12, .inl (xr 2))), (x 13, .inl (cA 0, 48, .inl (xr 3))), (y 7, .inl (cA 0, 4, .inl (yd 6))), (y 9, .inr (3, [.ref (y 10), .ref (y 11), .ref (y 12), .ref (y 13), .int (nI yf), .int (nI QY.1)])), (y 10, .inl (cA 0, 12, .inl (yr 0))), (y 11, .inl (cA 0, 12, .inl (yr 1))), (y 12, .inl (cA 0, 12, .inl (yr 2))), (y 13, .inl (cA 0, 48, .inl (yr 3))), (ln, .inr (0, [.ref vb'_39, .int 0, .int ml'_39, .int (nI ((lnT sy (yd 6) 4).length))])), (ca, .inl (cA 0, 3, .inl cc)), (vb'_39, .inl (cA 2, nb'_39, .inl g'_39))]) (w1 := [(o, .inr (4, [.ref F, .ref G, .int lo, .int nw, .int se, .ref (pa 0), .ref an, .ref ln])), cE y yv, (y 8, .inl (cA 0, 4, .inl (yd 7)))]) hP hD [0, 9, 11] [1, 2, 3, 4, 5, 6, 7, 8, 10, 12, 13, 14, 15, 16, 17, 18, 19] rfl rfl (by decide) (by decide) hk1 hFc hP1 hD1
                                        generalize H1 = H at hP hS ⊢
                                        have hP := hP.sub (ws' := [(o, .inr (4, [.ref F, .ref G, .int lo, .int nw, .int se, .ref (pa 0), .ref an, .ref ln])), cE x xv, (x 7, .inl (cA 0, 4, .inl (xd 6))), (x 8, .inl (cA 0, 4, .inl (xd 7))), (x 9, .inr (3, [.ref (x 10), .ref (x 11), .ref (x 12), .ref (x 13), .int (nI xf), .int (nI QX.1)])), (x 10, .inl (cA 0, 12, .inl (xr 0))), (x 11, .inl (cA 0, 12, .inl (xr 1))), (x 12, .inl (cA 0, 12, .inl (xr 2))), (x 13, .inl (cA 0, 48, .inl (xr 3))), cE y yv, (y 7, .inl (cA 0, 4, .inl (yd 6))), (y 8, .inl (cA 0, 4, .inl (yd 7))), (y 9, .inr (3, [.ref (y 10), .ref (y 11), .ref (y 12), .ref (y 13), .int (nI yf), .int (nI QY.1)])), (y 10, .inl (cA 0, 12, .inl (yr 0))), (y 11, .inl (cA 0, 12, .inl (yr 1))), (y 12, .inl (cA 0, 12, .inl (yr 2))), (y 13, .inl (cA 0, 48, .inl (yr 3))), (ln, .inr (0, [.ref vb'_39, .int 0, .int ml'_39, .int (nI ((lnT sy (yd 6) 4).length))])), (ca, .inl (cA 0, 3, .inl cc)), (vb'_39, .inl (cA 2, nb'_39, .inl g'_39))]) [17, 0, 1, 2, 3, 4, 5, 6, 7, 18, 8, 19, 9, 10, 11, 12, 13, 14, 15, 16] rfl
                                        have hD := hD.sub (ws' := [(o, .inr (4, [.ref F, .ref G, .int lo, .int nw, .int se, .ref (pa 0), .ref an, .ref ln])), cE x xv, (x 7, .inl (cA 0, 4, .inl (xd 6))), (x 8, .inl (cA 0, 4, .inl (xd 7))), (x 9, .inr (3, [.ref (x 10), .ref (x 11), .ref (x 12), .ref (x 13), .int (nI xf), .int (nI QX.1)])), (x 10, .inl (cA 0, 12, .inl (xr 0))), (x 11, .inl (cA 0, 12, .inl (xr 1))), (x 12, .inl (cA 0, 12, .inl (xr 2))), (x 13, .inl (cA 0, 48, .inl (xr 3))), cE y yv, (y 7, .inl (cA 0, 4, .inl (yd 6))), (y 8, .inl (cA 0, 4, .inl (yd 7))), (y 9, .inr (3, [.ref (y 10), .ref (y 11), .ref (y 12), .ref (y 13), .int (nI yf), .int (nI QY.1)])), (y 10, .inl (cA 0, 12, .inl (yr 0))), (y 11, .inl (cA 0, 12, .inl (yr 1))), (y 12, .inl (cA 0, 12, .inl (yr 2))), (y 13, .inl (cA 0, 48, .inl (yr 3))), (ln, .inr (0, [.ref vb'_39, .int 0, .int ml'_39, .int (nI ((lnT sy (yd 6) 4).length))])), (ca, .inl (cA 0, 3, .inl cc)), (vb'_39, .inl (cA 2, nb'_39, .inl g'_39))]) [17, 0, 1, 2, 3, 4, 5, 6, 7, 18, 8, 19, 9, 10, 11, 12, 13, 14, 15, 16] (by decide) rfl
                                        clear hPc hDc hFc hP1 hD1 hk1 hz1
                                        have hw_66 := hw
                                        obtain rfl := hw
                                        by_cases hal : sy = 3 ∨ sy = 4
                                        · refine z_top (y := yd 7 j) (al_v hy0 hal) ?_
                                          rcases (hI.sw.2.1.1.1 j (by omega)).2.2.1 with hvl | ⟨vl, hvm, hvl⟩
                                          · skip
                                            refine z_top (y := (-1)) hvl ?_
                                            refine lv_istore (lv' := [(7, .int (-1)), (6, .int (-1)), (5, .int (nI j)), (2, .int 1), (4, .int (nI sy)), (3, .int 1), (0, .ref o), (1, .ref ca)]) hx hb dL_isWire_187 hl (by decide) rfl (fun ls hl => ?_)
                                            refine lv_iload hx hb dL_isWire_189 (lv_at hl 1 rfl) ?_
                                            refine lv_iconst (v := (-1)) hx hb dL_isWire_191 (by decide) ?_
                                            refine lv_icmp_lt (tgt := 265) hx hb dL_isWire_192 (by decide) (fun c_67 => absurd c_67 (by decide)) (fun _ => ?_)
                                            refine lv_iload hx hb dL_isWire_195 (lv_at hl 1 rfl) ?_
                                            refine lv_bipush (v := 100) hx hb dL_isWire_197 (by decide) ?_
                                            refine lv_icmp_gt (tgt := 265) hx hb dL_isWire_199 (by decide) (fun c_68 => absurd c_68 (by decide)) (fun _ => ?_)
                                            refine lv_aload_n hx hb dL_isWire_202 rfl (lv_at hl 6 rfl) ?_
                                            refine lv_iload_n hx hb dL_isWire_203 rfl (lv_at hl 5 rfl) ?_
                                            refine lv_iload hx hb dL_isWire_204 (lv_at hl 2 rfl) ?_
                                            have hPc := hP.sub (ws' := [(o, .inr (4, [.ref F, .ref G, .int lo, .int nw, .int se, .ref (pa 0), .ref an, .ref ln])), cE y yv, (y 7, .inl (cA 0, 4, .inl (yd 6)))]) [0, 9, 10] rfl
                                            have hDc := hD.sub (ws' := [(o, .inr (4, [.ref F, .ref G, .int lo, .int nw, .int se, .ref (pa 0), .ref an, .ref ln])), cE y yv, (y 7, .inl (cA 0, 4, .inl (yd 6)))]) [0, 9, 10] (by decide) rfl
                                            have hFc := va_free (wc := [(o, .inr (4, [.ref F, .ref G, .int lo, .int nw, .int se, .ref (pa 0), .ref an, .ref ln])), cE y yv, (y 7, .inl (cA 0, 4, .inl (yd 6)))]) hD hS hA [0, 9, 10] rfl
                                            refine va_calli (va_runV (As := [.int 1, .int (nI j)]) (rest := []) ⟨hx, hb, hml, hown, hts⟩ (c_X3_granted_k l D cA H.size o F G lo nw se pa an ln y (x 0) 1 yv j (yd 6) (by first | exact he | exact en_flip he | exact en_01 he | exact en_10 he) (by omega)) (cwV 2 hts gL_isWire_X3_granted rfl rfl rfl (by decide +kernel) ⟨Nat.le_of_ble_eq_true rfl, Nat.le_of_ble_eq_true rfl⟩) ⟨zU_blind, va_recv hK hPc (ci := 4) (q0 := 0) rfl rfl, fun U hU hW => ⟨rfl, zU_call hU hPc hW.alike hK hDc⟩⟩ rfl rfl hl.1 rfl (lv_room (Nat.le_of_ble_eq_true rfl)) dL_isWire_206 ⟨Nat.le_of_ble_eq_true rfl, Nat.le_of_ble_eq_true rfl⟩) hS (fun q _ h => hFc q h) hFc (fun zr u t H1 locs ht hvm hw hB hz1 hk1 hS => ?_)
                                            obtain ⟨hP1, hD1⟩ := hB
                                            rw [ht] at hP1
                                            obtain ⟨hP, hD⟩ := va_join (wr := [cE x xv, (x 7, .inl (cA 0, 4, .inl (xd 6))), (x 8, .inl (cA 0, 4, .inl (xd 7))), (x 9, .inr (3, [.ref (x 10), .ref (x 11), .ref (x 12), .ref (x 13), .int (nI xf), .int (nI QX.1)])), (x 10, .inl (cA 0, 12, .inl (xr 0))), (x 11, .inl (cA 0, 12, .inl (xr 1))), (x 12, .inl (cA 0, 12, .inl (xr 2))), (x 13, .inl (cA 0, 48, .inl (xr 3))), (y 8, .inl (cA 0, 4, .inl (yd 7))), (y 9, .inr (3, [.ref (y 10), .ref (y 11), .ref (y 12), .ref (y 13), .int (nI yf), .int (nI QY.1)])), (y 10, .inl (cA 0, 12, .inl (yr 0))), (y 11, .inl (cA 0, 12, .inl (yr 1))), (y 12, .inl (cA 0, 12, .inl (yr 2))), (y 13, .inl (cA 0, 48, .inl (yr 3))), (ln, .inr (0, [.ref vb'_39, .int 0, .int ml'_39, .int (nI ((lnT sy (yd 6) 4).length))])), (ca, .inl (cA 0, 3, .inl cc)), (vb'_39, .inl (cA 2, nb'_39, .inl g'_39))]) (w1 := [(o, .inr (4, [.ref F, .ref G, .int lo, .int nw, .int se, .ref (pa 0), .ref an, .ref ln])), cE y yv, (y 7, .inl (cA 0, 4, .inl (yd 6)))]) hP hD [0, 9, 10] [1, 2, 3, 4, 5, 6, 7, 8, 11, 12, 13, 14, 15, 16, 17, 18, 19] rfl rfl (by decide) (by decide) hk1 hFc hP1 hD1
                                            generalize H1 = H at hP hS ⊢
                                            have hP := hP.sub (ws' := [(o, .inr (4, [.ref F, .ref G, .int lo, .int nw, .int se, .ref (pa 0), .ref an, .ref ln])), cE x xv, (x 7, .inl (cA 0, 4, .inl (xd 6))), (x 8, .inl (cA 0, 4, .inl (xd 7))), (x 9, .inr (3, [.ref (x 10), .ref (x 11), .ref (x 12), .ref (x 13), .int (nI xf), .int (nI QX.1)])), (x 10, .inl (cA 0, 12, .inl (xr 0))), (x 11, .inl (cA 0, 12, .inl (xr 1))), (x 12, .inl (cA 0, 12, .inl (xr 2))), (x 13, .inl (cA 0, 48, .inl (xr 3))), cE y yv, (y 7, .inl (cA 0, 4, .inl (yd 6))), (y 8, .inl (cA 0, 4, .inl (yd 7))), (y 9, .inr (3, [.ref (y 10), .ref (y 11), .ref (y 12), .ref (y 13), .int (nI yf), .int (nI QY.1)])), (y 10, .inl (cA 0, 12, .inl (yr 0))), (y 11, .inl (cA 0, 12, .inl (yr 1))), (y 12, .inl (cA 0, 12, .inl (yr 2))), (y 13, .inl (cA 0, 48, .inl (yr 3))), (ln, .inr (0, [.ref vb'_39, .int 0, .int ml'_39, .int (nI ((lnT sy (yd 6) 4).length))])), (ca, .inl (cA 0, 3, .inl cc)), (vb'_39, .inl (cA 2, nb'_39, .inl g'_39))]) [17, 0, 1, 2, 3, 4, 5, 6, 7, 18, 19, 8, 9, 10, 11, 12, 13, 14, 15, 16] rfl
                                            have hD := hD.sub (ws' := [(o, .inr (4, [.ref F, .ref G, .int lo, .int nw, .int se, .ref (pa 0), .ref an, .ref ln])), cE x xv, (x 7, .inl (cA 0, 4, .inl (xd 6))), (x 8, .inl (cA 0, 4, .inl (xd 7))), (x 9, .inr (3, [.ref (x 10), .ref (x 11), .ref (x 12), .ref (x 13), .int (nI xf), .int (nI QX.1)])), (x 10, .inl (cA 0, 12, .inl (xr 0))), (x 11, .inl (cA 0, 12, .inl (xr 1))), (x 12, .inl (cA 0, 12, .inl (xr 2))), (x 13, .inl (cA 0, 48, .inl (xr 3))), cE y yv, (y 7, .inl (cA 0, 4, .inl (yd 6))), (y 8, .inl (cA 0, 4, .inl (yd 7))), (y 9, .inr (3, [.ref (y 10), .ref (y 11), .ref (y 12), .ref (y 13), .int (nI yf), .int (nI QY.1)])), (y 10, .inl (cA 0, 12, .inl (yr 0))), (y 11, .inl (cA 0, 12, .inl (yr 1))), (y 12, .inl (cA 0, 12, .inl (yr 2))), (y 13, .inl (cA 0, 48, .inl (yr 3))), (ln, .inr (0, [.ref vb'_39, .int 0, .int ml'_39, .int (nI ((lnT sy (yd 6) 4).length))])), (ca, .inl (cA 0, 3, .inl cc)), (vb'_39, .inl (cA 2, nb'_39, .inl g'_39))]) [17, 0, 1, 2, 3, 4, 5, 6, 7, 18, 19, 8, 9, 10, 11, 12, 13, 14, 15, 16] (by decide) rfl
                                            clear hPc hDc hFc hP1 hD1 hk1 hz1
                                            have hw_69 := hw
                                            obtain rfl := hw
                                            by_cases hgr : sy = 2 ∨ sy = 4
                                            · refine z_top (y := yd 6 j) (gr_y hy0 hgr) ?_
                                              refine z_top (y := (-1)) hva ?_
                                              refine lv_iload hx hb dL_isWire_209 (lv_at hl 4 rfl) ?_
                                              refine lv_iconst (v := 2) hx hb dL_isWire_211 (by decide) ?_
                                              refine lv_icmp_eq (tgt := 221) hx hb dL_isWire_212 (by decide) (fun c_70 => ?_) (fun c_70 => ?_)
                                              · have c_70 := (nI_eq (a := sy) (b := 2) (by omega) (by omega)).mp c_70
                                                refine lv_iload hx hb dL_isWire_221 (lv_at hl 1 rfl) ?_
                                                refine lv_goto (tgt := 227) hx hb dL_isWire_223 (by decide) ?_
                                                refine lv_icmp_ne (tgt := 265) hx hb dL_isWire_227 (by decide) (fun c_71 => absurd c_71 (by decide)) (fun _ => ?_)
                                                refine lv_iload hx hb dL_isWire_230 (lv_at hl 0 rfl) ?_
                                                refine lv_iconst (v := (-1)) hx hb dL_isWire_232 (by decide) ?_
                                                refine lv_icmp_lt (tgt := 265) hx hb dL_isWire_233 (by decide) (fun c_72 => absurd c_72 (by decide)) (fun _ => ?_)
                                                refine lv_iload hx hb dL_isWire_236 (lv_at hl 0 rfl) ?_
                                                refine lv_bipush (v := 100) hx hb dL_isWire_238 (by decide) ?_
                                                refine lv_icmp_gt (tgt := 265) hx hb dL_isWire_240 (by decide) (fun c_73 => absurd c_73 (by decide)) (fun _ => ?_)
                                                refine lv_iload hx hb dL_isWire_243 (lv_at hl 0 rfl) ?_
                                                refine lv_iconst (v := (-1)) hx hb dL_isWire_245 (by decide) ?_
                                                refine lv_icmp_eq (tgt := 261) hx hb dL_isWire_246 (by decide) (fun _ => ?_) (fun c_74 => absurd c_74 (by decide))
                                                refine lv_iconst (v := 1) hx hb dL_isWire_261 (by decide) ?_
                                                refine lv_goto (tgt := 266) hx hb dL_isWire_262 (by decide) ?_
                                                exact kJ _ _ _ _ ⟨rfl, hP, hD, hS, lv_sub hl [2, 3, 4, 5, 6, 7] rfl⟩
                                              · have c_70 := mt (nI_eq (a := sy) (b := 2) (by omega) (by omega)).mpr c_70
                                                refine lv_iload hx hb dL_isWire_215 (lv_at hl 4 rfl) ?_
                                                refine lv_iconst (v := 4) hx hb dL_isWire_217 (by decide) ?_
                                                refine lv_icmp_ne (tgt := 226) hx hb dL_isWire_218 (by decide) (fun c_75 => ?_) (fun c_75 => ?_)
                                                · have c_75 := mt (nI_eq (a := sy) (b := 4) (by omega) (by omega)).mpr c_75
                                                  omega
                                                · have c_75 := (nI_eq (a := sy) (b := 4) (by omega) (by omega)).mp c_75
                                                  refine lv_iload hx hb dL_isWire_221 (lv_at hl 1 rfl) ?_
                                                  refine lv_goto (tgt := 227) hx hb dL_isWire_223 (by decide) ?_
                                                  refine lv_icmp_ne (tgt := 265) hx hb dL_isWire_227 (by decide) (fun c_76 => absurd c_76 (by decide)) (fun _ => ?_)
                                                  refine lv_iload hx hb dL_isWire_230 (lv_at hl 0 rfl) ?_
                                                  refine lv_iconst (v := (-1)) hx hb dL_isWire_232 (by decide) ?_
                                                  refine lv_icmp_lt (tgt := 265) hx hb dL_isWire_233 (by decide) (fun c_77 => absurd c_77 (by decide)) (fun _ => ?_)
                                                  refine lv_iload hx hb dL_isWire_236 (lv_at hl 0 rfl) ?_
                                                  refine lv_bipush (v := 100) hx hb dL_isWire_238 (by decide) ?_
                                                  refine lv_icmp_gt (tgt := 265) hx hb dL_isWire_240 (by decide) (fun c_78 => absurd c_78 (by decide)) (fun _ => ?_)
                                                  refine lv_iload hx hb dL_isWire_243 (lv_at hl 0 rfl) ?_
                                                  refine lv_iconst (v := (-1)) hx hb dL_isWire_245 (by decide) ?_
                                                  refine lv_icmp_eq (tgt := 261) hx hb dL_isWire_246 (by decide) (fun _ => ?_) (fun c_79 => absurd c_79 (by decide))
                                                  refine lv_iconst (v := 1) hx hb dL_isWire_261 (by decide) ?_
                                                  refine lv_goto (tgt := 266) hx hb dL_isWire_262 (by decide) ?_
                                                  exact kJ _ _ _ _ ⟨rfl, hP, hD, hS, lv_sub hl [2, 3, 4, 5, 6, 7] rfl⟩
                                            · skip
                                              refine z_top (y := (-1)) (gr_n hy0 hy7 hgr) ?_
                                              refine lv_iload hx hb dL_isWire_209 (lv_at hl 4 rfl) ?_
                                              refine lv_iconst (v := 2) hx hb dL_isWire_211 (by decide) ?_
                                              refine lv_icmp_eq (tgt := 221) hx hb dL_isWire_212 (by decide) (fun c_80 => ?_) (fun c_80 => ?_)
                                              · have c_80 := (nI_eq (a := sy) (b := 2) (by omega) (by omega)).mp c_80
                                                omega
                                              · have c_80 := mt (nI_eq (a := sy) (b := 2) (by omega) (by omega)).mpr c_80
                                                refine lv_iload hx hb dL_isWire_215 (lv_at hl 4 rfl) ?_
                                                refine lv_iconst (v := 4) hx hb dL_isWire_217 (by decide) ?_
                                                refine lv_icmp_ne (tgt := 226) hx hb dL_isWire_218 (by decide) (fun c_81 => ?_) (fun c_81 => ?_)
                                                · have c_81 := mt (nI_eq (a := sy) (b := 4) (by omega) (by omega)).mpr c_81
                                                  refine lv_iconst (v := (-1)) hx hb dL_isWire_226 (by decide) ?_
                                                  refine lv_icmp_ne (tgt := 265) hx hb dL_isWire_227 (by decide) (fun c_82 => absurd c_82 (by decide)) (fun _ => ?_)
                                                  refine lv_iload hx hb dL_isWire_230 (lv_at hl 0 rfl) ?_
                                                  refine lv_iconst (v := (-1)) hx hb dL_isWire_232 (by decide) ?_
                                                  refine lv_icmp_lt (tgt := 265) hx hb dL_isWire_233 (by decide) (fun c_83 => absurd c_83 (by decide)) (fun _ => ?_)
                                                  refine lv_iload hx hb dL_isWire_236 (lv_at hl 0 rfl) ?_
                                                  refine lv_bipush (v := 100) hx hb dL_isWire_238 (by decide) ?_
                                                  refine lv_icmp_gt (tgt := 265) hx hb dL_isWire_240 (by decide) (fun c_84 => absurd c_84 (by decide)) (fun _ => ?_)
                                                  refine lv_iload hx hb dL_isWire_243 (lv_at hl 0 rfl) ?_
                                                  refine lv_iconst (v := (-1)) hx hb dL_isWire_245 (by decide) ?_
                                                  refine lv_icmp_eq (tgt := 261) hx hb dL_isWire_246 (by decide) (fun _ => ?_) (fun c_85 => absurd c_85 (by decide))
                                                  refine lv_iconst (v := 1) hx hb dL_isWire_261 (by decide) ?_
                                                  refine lv_goto (tgt := 266) hx hb dL_isWire_262 (by decide) ?_
                                                  exact kJ _ _ _ _ ⟨rfl, hP, hD, hS, lv_sub hl [2, 3, 4, 5, 6, 7] rfl⟩
                                                · have c_81 := (nI_eq (a := sy) (b := 4) (by omega) (by omega)).mp c_81
                                                  omega
                                          · skip
                                            refine z_top (y := (nI vl)) hvl ?_
                                            refine lv_istore (lv' := [(7, .int (nI vl)), (6, .int (-1)), (5, .int (nI j)), (2, .int 1), (4, .int (nI sy)), (3, .int 1), (0, .ref o), (1, .ref ca)]) hx hb dL_isWire_187 hl (by decide) rfl (fun ls hl => ?_)
                                            refine lv_iload hx hb dL_isWire_189 (lv_at hl 1 rfl) ?_
                                            refine lv_iconst (v := (-1)) hx hb dL_isWire_191 (by decide) ?_
                                            refine lv_icmp_lt (tgt := 265) hx hb dL_isWire_192 (by decide) (fun c_86 => absurd c_86 (by decide)) (fun _ => ?_)
                                            refine lv_iload hx hb dL_isWire_195 (lv_at hl 1 rfl) ?_
                                            refine lv_bipush (v := 100) hx hb dL_isWire_197 (by decide) ?_
                                            refine lv_icmp_gt (tgt := 265) hx hb dL_isWire_199 (by decide) (fun c_87 => absurd c_87 (by decide)) (fun _ => ?_)
                                            refine lv_aload_n hx hb dL_isWire_202 rfl (lv_at hl 6 rfl) ?_
                                            refine lv_iload_n hx hb dL_isWire_203 rfl (lv_at hl 5 rfl) ?_
                                            refine lv_iload hx hb dL_isWire_204 (lv_at hl 2 rfl) ?_
                                            have hPc := hP.sub (ws' := [(o, .inr (4, [.ref F, .ref G, .int lo, .int nw, .int se, .ref (pa 0), .ref an, .ref ln])), cE y yv, (y 7, .inl (cA 0, 4, .inl (yd 6)))]) [0, 9, 10] rfl
                                            have hDc := hD.sub (ws' := [(o, .inr (4, [.ref F, .ref G, .int lo, .int nw, .int se, .ref (pa 0), .ref an, .ref ln])), cE y yv, (y 7, .inl (cA 0, 4, .inl (yd 6)))]) [0, 9, 10] (by decide) rfl
                                            have hFc := va_free (wc := [(o, .inr (4, [.ref F, .ref G, .int lo, .int nw, .int se, .ref (pa 0), .ref an, .ref ln])), cE y yv, (y 7, .inl (cA 0, 4, .inl (yd 6)))]) hD hS hA [0, 9, 10] rfl
                                            refine va_calli (va_runV (As := [.int 1, .int (nI j)]) (rest := []) ⟨hx, hb, hml, hown, hts⟩ (c_X3_granted_k l D cA H.size o F G lo nw se pa an ln y (x 0) 1 yv j (yd 6) (by first | exact he | exact en_flip he | exact en_01 he | exact en_10 he) (by omega)) (cwV 2 hts gL_isWire_X3_granted rfl rfl rfl (by decide +kernel) ⟨Nat.le_of_ble_eq_true rfl, Nat.le_of_ble_eq_true rfl⟩) ⟨zU_blind, va_recv hK hPc (ci := 4) (q0 := 0) rfl rfl, fun U hU hW => ⟨rfl, zU_call hU hPc hW.alike hK hDc⟩⟩ rfl rfl hl.1 rfl (lv_room (Nat.le_of_ble_eq_true rfl)) dL_isWire_206 ⟨Nat.le_of_ble_eq_true rfl, Nat.le_of_ble_eq_true rfl⟩) hS (fun q _ h => hFc q h) hFc (fun zr u t H1 locs ht hvm hw hB hz1 hk1 hS => ?_)
                                            obtain ⟨hP1, hD1⟩ := hB
                                            rw [ht] at hP1
                                            obtain ⟨hP, hD⟩ := va_join (wr := [cE x xv, (x 7, .inl (cA 0, 4, .inl (xd 6))), (x 8, .inl (cA 0, 4, .inl (xd 7))), (x 9, .inr (3, [.ref (x 10), .ref (x 11), .ref (x 12), .ref (x 13), .int (nI xf), .int (nI QX.1)])), (x 10, .inl (cA 0, 12, .inl (xr 0))), (x 11, .inl (cA 0, 12, .inl (xr 1))), (x 12, .inl (cA 0, 12, .inl (xr 2))), (x 13, .inl (cA 0, 48, .inl (xr 3))), (y 8, .inl (cA 0, 4, .inl (yd 7))), (y 9, .inr (3, [.ref (y 10), .ref (y 11), .ref (y 12), .ref (y 13), .int (nI yf), .int (nI QY.1)])), (y 10, .inl (cA 0, 12, .inl (yr 0))), (y 11, .inl (cA 0, 12, .inl (yr 1))), (y 12, .inl (cA 0, 12, .inl (yr 2))), (y 13, .inl (cA 0, 48, .inl (yr 3))), (ln, .inr (0, [.ref vb'_39, .int 0, .int ml'_39, .int (nI ((lnT sy (yd 6) 4).length))])), (ca, .inl (cA 0, 3, .inl cc)), (vb'_39, .inl (cA 2, nb'_39, .inl g'_39))]) (w1 := [(o, .inr (4, [.ref F, .ref G, .int lo, .int nw, .int se, .ref (pa 0), .ref an, .ref ln])), cE y yv, (y 7, .inl (cA 0, 4, .inl (yd 6)))]) hP hD [0, 9, 10] [1, 2, 3, 4, 5, 6, 7, 8, 11, 12, 13, 14, 15, 16, 17, 18, 19] rfl rfl (by decide) (by decide) hk1 hFc hP1 hD1
                                            generalize H1 = H at hP hS ⊢
                                            have hP := hP.sub (ws' := [(o, .inr (4, [.ref F, .ref G, .int lo, .int nw, .int se, .ref (pa 0), .ref an, .ref ln])), cE x xv, (x 7, .inl (cA 0, 4, .inl (xd 6))), (x 8, .inl (cA 0, 4, .inl (xd 7))), (x 9, .inr (3, [.ref (x 10), .ref (x 11), .ref (x 12), .ref (x 13), .int (nI xf), .int (nI QX.1)])), (x 10, .inl (cA 0, 12, .inl (xr 0))), (x 11, .inl (cA 0, 12, .inl (xr 1))), (x 12, .inl (cA 0, 12, .inl (xr 2))), (x 13, .inl (cA 0, 48, .inl (xr 3))), cE y yv, (y 7, .inl (cA 0, 4, .inl (yd 6))), (y 8, .inl (cA 0, 4, .inl (yd 7))), (y 9, .inr (3, [.ref (y 10), .ref (y 11), .ref (y 12), .ref (y 13), .int (nI yf), .int (nI QY.1)])), (y 10, .inl (cA 0, 12, .inl (yr 0))), (y 11, .inl (cA 0, 12, .inl (yr 1))), (y 12, .inl (cA 0, 12, .inl (yr 2))), (y 13, .inl (cA 0, 48, .inl (yr 3))), (ln, .inr (0, [.ref vb'_39, .int 0, .int ml'_39, .int (nI ((lnT sy (yd 6) 4).length))])), (ca, .inl (cA 0, 3, .inl cc)), (vb'_39, .inl (cA 2, nb'_39, .inl g'_39))]) [17, 0, 1, 2, 3, 4, 5, 6, 7, 18, 19, 8, 9, 10, 11, 12, 13, 14, 15, 16] rfl
                                            have hD := hD.sub (ws' := [(o, .inr (4, [.ref F, .ref G, .int lo, .int nw, .int se, .ref (pa 0), .ref an, .ref ln])), cE x xv, (x 7, .inl (cA 0, 4, .inl (xd 6))), (x 8, .inl (cA 0, 4, .inl (xd 7))), (x 9, .inr (3, [.ref (x 10), .ref (x 11), .ref (x 12), .ref (x 13), .int (nI xf), .int (nI QX.1)])), (x 10, .inl (cA 0, 12, .inl (xr 0))), (x 11, .inl (cA 0, 12, .inl (xr 1))), (x 12, .inl (cA 0, 12, .inl (xr 2))), (x 13, .inl (cA 0, 48, .inl (xr 3))), cE y yv, (y 7, .inl (cA 0, 4, .inl (yd 6))), (y 8, .inl (cA 0, 4, .inl (yd 7))), (y 9, .inr (3, [.ref (y 10), .ref (y 11), .ref (y 12), .ref (y 13), .int (nI yf), .int (nI QY.1)])), (y 10, .inl (cA 0, 12, .inl (yr 0))), (y 11, .inl (cA 0, 12, .inl (yr 1))), (y 12, .inl (cA 0, 12, .inl (yr 2))), (y 13, .inl (cA 0, 48, .inl (yr 3))), (ln, .inr (0, [.ref vb'_39, .int 0, .int ml'_39, .int (nI ((lnT sy (yd 6) 4).length))])), (ca, .inl (cA 0, 3, .inl cc)), (vb'_39, .inl (cA 2, nb'_39, .inl g'_39))]) [17, 0, 1, 2, 3, 4, 5, 6, 7, 18, 19, 8, 9, 10, 11, 12, 13, 14, 15, 16] (by decide) rfl
                                            clear hPc hDc hFc hP1 hD1 hk1 hz1
                                            have hw_88 := hw
                                            obtain rfl := hw
                                            by_cases hgr : sy = 2 ∨ sy = 4
                                            · refine z_top (y := yd 6 j) (gr_y hy0 hgr) ?_
                                              refine z_top (y := (-1)) hva ?_
                                              refine lv_iload hx hb dL_isWire_209 (lv_at hl 4 rfl) ?_
                                              refine lv_iconst (v := 2) hx hb dL_isWire_211 (by decide) ?_
                                              refine lv_icmp_eq (tgt := 221) hx hb dL_isWire_212 (by decide) (fun c_89 => ?_) (fun c_89 => ?_)
                                              · have c_89 := (nI_eq (a := sy) (b := 2) (by omega) (by omega)).mp c_89
                                                refine lv_iload hx hb dL_isWire_221 (lv_at hl 1 rfl) ?_
                                                refine lv_goto (tgt := 227) hx hb dL_isWire_223 (by decide) ?_
                                                refine lv_icmp_ne (tgt := 265) hx hb dL_isWire_227 (by decide) (fun c_90 => absurd c_90 (by decide)) (fun _ => ?_)
                                                refine lv_iload hx hb dL_isWire_230 (lv_at hl 0 rfl) ?_
                                                refine lv_iconst (v := (-1)) hx hb dL_isWire_232 (by decide) ?_
                                                refine lv_icmp_lt (tgt := 265) hx hb dL_isWire_233 (by decide) (fun c_91 => absurd c_91 (nneg_lt (by omega) (by decide))) (fun _ => ?_)
                                                refine lv_iload hx hb dL_isWire_236 (lv_at hl 0 rfl) ?_
                                                refine lv_bipush (v := 100) hx hb dL_isWire_238 (by decide) ?_
                                                refine lv_icmp_gt (tgt := 265) hx hb dL_isWire_240 (by decide) (fun c_92 => ?_) (fun c_92 => ?_)
                                                · have c_92 := (nI_ltI (a := 100) (b := vl) (by omega) (by omega)).mp c_92
                                                  refine lv_iconst (v := 0) hx hb dL_isWire_265 (by decide) ?_
                                                  exfalso; omega
                                                · have c_92 := mt (nI_ltI (a := 100) (b := vl) (by omega) (by omega)).mpr c_92
                                                  refine lv_iload hx hb dL_isWire_243 (lv_at hl 0 rfl) ?_
                                                  refine lv_iconst (v := (-1)) hx hb dL_isWire_245 (by decide) ?_
                                                  refine lv_icmp_eq (tgt := 261) hx hb dL_isWire_246 (by decide) (fun c_93 => absurd c_93 (nneg_eq (by omega) (by decide))) (fun _ => ?_)
                                                  refine lv_iload hx hb dL_isWire_249 (lv_at hl 4 rfl) ?_
                                                  refine lv_iconst (v := 3) hx hb dL_isWire_251 (by decide) ?_
                                                  refine lv_icmp_eq (tgt := 261) hx hb dL_isWire_252 (by decide) (fun c_94 => ?_) (fun c_94 => ?_)
                                                  · have c_94 := (nI_eq (a := sy) (b := 3) (by omega) (by omega)).mp c_94
                                                    exact absurd (c_89.symm.trans c_94) (by decide)
                                                  · have c_94 := mt (nI_eq (a := sy) (b := 3) (by omega) (by omega)).mpr c_94
                                                    refine lv_iload hx hb dL_isWire_255 (lv_at hl 4 rfl) ?_
                                                    refine lv_iconst (v := 4) hx hb dL_isWire_257 (by decide) ?_
                                                    refine lv_icmp_ne (tgt := 265) hx hb dL_isWire_258 (by decide) (fun c_95 => ?_) (fun c_95 => ?_)
                                                    · have c_95 := mt (nI_eq (a := sy) (b := 4) (by omega) (by omega)).mpr c_95
                                                      refine lv_iconst (v := 0) hx hb dL_isWire_265 (by decide) ?_
                                                      exfalso; omega
                                                    · have c_95 := (nI_eq (a := sy) (b := 4) (by omega) (by omega)).mp c_95
                                                      exact absurd (c_89.symm.trans c_95) (by decide)
                                              · have c_89 := mt (nI_eq (a := sy) (b := 2) (by omega) (by omega)).mpr c_89
                                                refine lv_iload hx hb dL_isWire_215 (lv_at hl 4 rfl) ?_
                                                refine lv_iconst (v := 4) hx hb dL_isWire_217 (by decide) ?_
                                                refine lv_icmp_ne (tgt := 226) hx hb dL_isWire_218 (by decide) (fun c_96 => ?_) (fun c_96 => ?_)
                                                · have c_96 := mt (nI_eq (a := sy) (b := 4) (by omega) (by omega)).mpr c_96
                                                  omega
                                                · have c_96 := (nI_eq (a := sy) (b := 4) (by omega) (by omega)).mp c_96
                                                  refine lv_iload hx hb dL_isWire_221 (lv_at hl 1 rfl) ?_
                                                  refine lv_goto (tgt := 227) hx hb dL_isWire_223 (by decide) ?_
                                                  refine lv_icmp_ne (tgt := 265) hx hb dL_isWire_227 (by decide) (fun c_97 => absurd c_97 (by decide)) (fun _ => ?_)
                                                  refine lv_iload hx hb dL_isWire_230 (lv_at hl 0 rfl) ?_
                                                  refine lv_iconst (v := (-1)) hx hb dL_isWire_232 (by decide) ?_
                                                  refine lv_icmp_lt (tgt := 265) hx hb dL_isWire_233 (by decide) (fun c_98 => absurd c_98 (nneg_lt (by omega) (by decide))) (fun _ => ?_)
                                                  refine lv_iload hx hb dL_isWire_236 (lv_at hl 0 rfl) ?_
                                                  refine lv_bipush (v := 100) hx hb dL_isWire_238 (by decide) ?_
                                                  refine lv_icmp_gt (tgt := 265) hx hb dL_isWire_240 (by decide) (fun c_99 => ?_) (fun c_99 => ?_)
                                                  · have c_99 := (nI_ltI (a := 100) (b := vl) (by omega) (by omega)).mp c_99
                                                    refine lv_iconst (v := 0) hx hb dL_isWire_265 (by decide) ?_
                                                    exfalso; omega
                                                  · have c_99 := mt (nI_ltI (a := 100) (b := vl) (by omega) (by omega)).mpr c_99
                                                    refine lv_iload hx hb dL_isWire_243 (lv_at hl 0 rfl) ?_
                                                    refine lv_iconst (v := (-1)) hx hb dL_isWire_245 (by decide) ?_
                                                    refine lv_icmp_eq (tgt := 261) hx hb dL_isWire_246 (by decide) (fun c_100 => absurd c_100 (nneg_eq (by omega) (by decide))) (fun _ => ?_)
                                                    refine lv_iload hx hb dL_isWire_249 (lv_at hl 4 rfl) ?_
                                                    refine lv_iconst (v := 3) hx hb dL_isWire_251 (by decide) ?_
                                                    refine lv_icmp_eq (tgt := 261) hx hb dL_isWire_252 (by decide) (fun c_101 => ?_) (fun c_101 => ?_)
                                                    · have c_101 := (nI_eq (a := sy) (b := 3) (by omega) (by omega)).mp c_101
                                                      exact absurd (c_96.symm.trans c_101) (by decide)
                                                    · have c_101 := mt (nI_eq (a := sy) (b := 3) (by omega) (by omega)).mpr c_101
                                                      refine lv_iload hx hb dL_isWire_255 (lv_at hl 4 rfl) ?_
                                                      refine lv_iconst (v := 4) hx hb dL_isWire_257 (by decide) ?_
                                                      refine lv_icmp_ne (tgt := 265) hx hb dL_isWire_258 (by decide) (fun c_102 => ?_) (fun c_102 => ?_)
                                                      · have c_102 := mt (nI_eq (a := sy) (b := 4) (by omega) (by omega)).mpr c_102
                                                        exact absurd c_96 c_102
                                                      · have c_102 := (nI_eq (a := sy) (b := 4) (by omega) (by omega)).mp c_102
                                                        refine lv_iconst (v := 1) hx hb dL_isWire_261 (by decide) ?_
                                                        refine lv_goto (tgt := 266) hx hb dL_isWire_262 (by decide) ?_
                                                        exact kJ _ _ _ _ ⟨rfl, hP, hD, hS, lv_sub hl [2, 3, 4, 5, 6, 7] rfl⟩
                                            · skip
                                              refine z_top (y := (-1)) (gr_n hy0 hy7 hgr) ?_
                                              refine lv_iload hx hb dL_isWire_209 (lv_at hl 4 rfl) ?_
                                              refine lv_iconst (v := 2) hx hb dL_isWire_211 (by decide) ?_
                                              refine lv_icmp_eq (tgt := 221) hx hb dL_isWire_212 (by decide) (fun c_103 => ?_) (fun c_103 => ?_)
                                              · have c_103 := (nI_eq (a := sy) (b := 2) (by omega) (by omega)).mp c_103
                                                omega
                                              · have c_103 := mt (nI_eq (a := sy) (b := 2) (by omega) (by omega)).mpr c_103
                                                refine lv_iload hx hb dL_isWire_215 (lv_at hl 4 rfl) ?_
                                                refine lv_iconst (v := 4) hx hb dL_isWire_217 (by decide) ?_
                                                refine lv_icmp_ne (tgt := 226) hx hb dL_isWire_218 (by decide) (fun c_104 => ?_) (fun c_104 => ?_)
                                                · have c_104 := mt (nI_eq (a := sy) (b := 4) (by omega) (by omega)).mpr c_104
                                                  refine lv_iconst (v := (-1)) hx hb dL_isWire_226 (by decide) ?_
                                                  refine lv_icmp_ne (tgt := 265) hx hb dL_isWire_227 (by decide) (fun c_105 => absurd c_105 (by decide)) (fun _ => ?_)
                                                  refine lv_iload hx hb dL_isWire_230 (lv_at hl 0 rfl) ?_
                                                  refine lv_iconst (v := (-1)) hx hb dL_isWire_232 (by decide) ?_
                                                  refine lv_icmp_lt (tgt := 265) hx hb dL_isWire_233 (by decide) (fun c_106 => absurd c_106 (nneg_lt (by omega) (by decide))) (fun _ => ?_)
                                                  refine lv_iload hx hb dL_isWire_236 (lv_at hl 0 rfl) ?_
                                                  refine lv_bipush (v := 100) hx hb dL_isWire_238 (by decide) ?_
                                                  refine lv_icmp_gt (tgt := 265) hx hb dL_isWire_240 (by decide) (fun c_107 => ?_) (fun c_107 => ?_)
                                                  · have c_107 := (nI_ltI (a := 100) (b := vl) (by omega) (by omega)).mp c_107
                                                    refine lv_iconst (v := 0) hx hb dL_isWire_265 (by decide) ?_
                                                    exfalso; omega
                                                  · have c_107 := mt (nI_ltI (a := 100) (b := vl) (by omega) (by omega)).mpr c_107
                                                    refine lv_iload hx hb dL_isWire_243 (lv_at hl 0 rfl) ?_
                                                    refine lv_iconst (v := (-1)) hx hb dL_isWire_245 (by decide) ?_
                                                    refine lv_icmp_eq (tgt := 261) hx hb dL_isWire_246 (by decide) (fun c_108 => absurd c_108 (nneg_eq (by omega) (by decide))) (fun _ => ?_)
                                                    refine lv_iload hx hb dL_isWire_249 (lv_at hl 4 rfl) ?_
                                                    refine lv_iconst (v := 3) hx hb dL_isWire_251 (by decide) ?_
                                                    refine lv_icmp_eq (tgt := 261) hx hb dL_isWire_252 (by decide) (fun c_109 => ?_) (fun c_109 => ?_)
                                                    · have c_109 := (nI_eq (a := sy) (b := 3) (by omega) (by omega)).mp c_109
                                                      refine lv_iconst (v := 1) hx hb dL_isWire_261 (by decide) ?_
                                                      refine lv_goto (tgt := 266) hx hb dL_isWire_262 (by decide) ?_
                                                      exact kJ _ _ _ _ ⟨rfl, hP, hD, hS, lv_sub hl [2, 3, 4, 5, 6, 7] rfl⟩
                                                    · have c_109 := mt (nI_eq (a := sy) (b := 3) (by omega) (by omega)).mpr c_109
                                                      refine lv_iload hx hb dL_isWire_255 (lv_at hl 4 rfl) ?_
                                                      refine lv_iconst (v := 4) hx hb dL_isWire_257 (by decide) ?_
                                                      refine lv_icmp_ne (tgt := 265) hx hb dL_isWire_258 (by decide) (fun c_110 => ?_) (fun c_110 => ?_)
                                                      · have c_110 := mt (nI_eq (a := sy) (b := 4) (by omega) (by omega)).mpr c_110
                                                        refine lv_iconst (v := 0) hx hb dL_isWire_265 (by decide) ?_
                                                        exfalso; omega
                                                      · have c_110 := (nI_eq (a := sy) (b := 4) (by omega) (by omega)).mp c_110
                                                        exact absurd c_110 c_104
                                                · have c_104 := (nI_eq (a := sy) (b := 4) (by omega) (by omega)).mp c_104
                                                  omega
                                        · skip
                                          refine z_top (y := (-1)) (al_n hy0 hy7 hal) ?_
                                          refine lv_istore (lv' := [(7, .int (-1)), (6, .int (-1)), (5, .int (nI j)), (2, .int 1), (4, .int (nI sy)), (3, .int 1), (0, .ref o), (1, .ref ca)]) hx hb dL_isWire_187 hl (by decide) rfl (fun ls hl => ?_)
                                          refine lv_iload hx hb dL_isWire_189 (lv_at hl 1 rfl) ?_
                                          refine lv_iconst (v := (-1)) hx hb dL_isWire_191 (by decide) ?_
                                          refine lv_icmp_lt (tgt := 265) hx hb dL_isWire_192 (by decide) (fun c_111 => absurd c_111 (by decide)) (fun _ => ?_)
                                          refine lv_iload hx hb dL_isWire_195 (lv_at hl 1 rfl) ?_
                                          refine lv_bipush (v := 100) hx hb dL_isWire_197 (by decide) ?_
                                          refine lv_icmp_gt (tgt := 265) hx hb dL_isWire_199 (by decide) (fun c_112 => absurd c_112 (by decide)) (fun _ => ?_)
                                          refine lv_aload_n hx hb dL_isWire_202 rfl (lv_at hl 6 rfl) ?_
                                          refine lv_iload_n hx hb dL_isWire_203 rfl (lv_at hl 5 rfl) ?_
                                          refine lv_iload hx hb dL_isWire_204 (lv_at hl 2 rfl) ?_
                                          have hPc := hP.sub (ws' := [(o, .inr (4, [.ref F, .ref G, .int lo, .int nw, .int se, .ref (pa 0), .ref an, .ref ln])), cE y yv, (y 7, .inl (cA 0, 4, .inl (yd 6)))]) [0, 9, 10] rfl
                                          have hDc := hD.sub (ws' := [(o, .inr (4, [.ref F, .ref G, .int lo, .int nw, .int se, .ref (pa 0), .ref an, .ref ln])), cE y yv, (y 7, .inl (cA 0, 4, .inl (yd 6)))]) [0, 9, 10] (by decide) rfl
                                          have hFc := va_free (wc := [(o, .inr (4, [.ref F, .ref G, .int lo, .int nw, .int se, .ref (pa 0), .ref an, .ref ln])), cE y yv, (y 7, .inl (cA 0, 4, .inl (yd 6)))]) hD hS hA [0, 9, 10] rfl
                                          refine va_calli (va_runV (As := [.int 1, .int (nI j)]) (rest := []) ⟨hx, hb, hml, hown, hts⟩ (c_X3_granted_k l D cA H.size o F G lo nw se pa an ln y (x 0) 1 yv j (yd 6) (by first | exact he | exact en_flip he | exact en_01 he | exact en_10 he) (by omega)) (cwV 2 hts gL_isWire_X3_granted rfl rfl rfl (by decide +kernel) ⟨Nat.le_of_ble_eq_true rfl, Nat.le_of_ble_eq_true rfl⟩) ⟨zU_blind, va_recv hK hPc (ci := 4) (q0 := 0) rfl rfl, fun U hU hW => ⟨rfl, zU_call hU hPc hW.alike hK hDc⟩⟩ rfl rfl hl.1 rfl (lv_room (Nat.le_of_ble_eq_true rfl)) dL_isWire_206 ⟨Nat.le_of_ble_eq_true rfl, Nat.le_of_ble_eq_true rfl⟩) hS (fun q _ h => hFc q h) hFc (fun zr u t H1 locs ht hvm hw hB hz1 hk1 hS => ?_)
                                          obtain ⟨hP1, hD1⟩ := hB
                                          rw [ht] at hP1
                                          obtain ⟨hP, hD⟩ := va_join (wr := [cE x xv, (x 7, .inl (cA 0, 4, .inl (xd 6))), (x 8, .inl (cA 0, 4, .inl (xd 7))), (x 9, .inr (3, [.ref (x 10), .ref (x 11), .ref (x 12), .ref (x 13), .int (nI xf), .int (nI QX.1)])), (x 10, .inl (cA 0, 12, .inl (xr 0))), (x 11, .inl (cA 0, 12, .inl (xr 1))), (x 12, .inl (cA 0, 12, .inl (xr 2))), (x 13, .inl (cA 0, 48, .inl (xr 3))), (y 8, .inl (cA 0, 4, .inl (yd 7))), (y 9, .inr (3, [.ref (y 10), .ref (y 11), .ref (y 12), .ref (y 13), .int (nI yf), .int (nI QY.1)])), (y 10, .inl (cA 0, 12, .inl (yr 0))), (y 11, .inl (cA 0, 12, .inl (yr 1))), (y 12, .inl (cA 0, 12, .inl (yr 2))), (y 13, .inl (cA 0, 48, .inl (yr 3))), (ln, .inr (0, [.ref vb'_39, .int 0, .int ml'_39, .int (nI ((lnT sy (yd 6) 4).length))])), (ca, .inl (cA 0, 3, .inl cc)), (vb'_39, .inl (cA 2, nb'_39, .inl g'_39))]) (w1 := [(o, .inr (4, [.ref F, .ref G, .int lo, .int nw, .int se, .ref (pa 0), .ref an, .ref ln])), cE y yv, (y 7, .inl (cA 0, 4, .inl (yd 6)))]) hP hD [0, 9, 10] [1, 2, 3, 4, 5, 6, 7, 8, 11, 12, 13, 14, 15, 16, 17, 18, 19] rfl rfl (by decide) (by decide) hk1 hFc hP1 hD1
                                          generalize H1 = H at hP hS ⊢
                                          have hP := hP.sub (ws' := [(o, .inr (4, [.ref F, .ref G, .int lo, .int nw, .int se, .ref (pa 0), .ref an, .ref ln])), cE x xv, (x 7, .inl (cA 0, 4, .inl (xd 6))), (x 8, .inl (cA 0, 4, .inl (xd 7))), (x 9, .inr (3, [.ref (x 10), .ref (x 11), .ref (x 12), .ref (x 13), .int (nI xf), .int (nI QX.1)])), (x 10, .inl (cA 0, 12, .inl (xr 0))), (x 11, .inl (cA 0, 12, .inl (xr 1))), (x 12, .inl (cA 0, 12, .inl (xr 2))), (x 13, .inl (cA 0, 48, .inl (xr 3))), cE y yv, (y 7, .inl (cA 0, 4, .inl (yd 6))), (y 8, .inl (cA 0, 4, .inl (yd 7))), (y 9, .inr (3, [.ref (y 10), .ref (y 11), .ref (y 12), .ref (y 13), .int (nI yf), .int (nI QY.1)])), (y 10, .inl (cA 0, 12, .inl (yr 0))), (y 11, .inl (cA 0, 12, .inl (yr 1))), (y 12, .inl (cA 0, 12, .inl (yr 2))), (y 13, .inl (cA 0, 48, .inl (yr 3))), (ln, .inr (0, [.ref vb'_39, .int 0, .int ml'_39, .int (nI ((lnT sy (yd 6) 4).length))])), (ca, .inl (cA 0, 3, .inl cc)), (vb'_39, .inl (cA 2, nb'_39, .inl g'_39))]) [17, 0, 1, 2, 3, 4, 5, 6, 7, 18, 19, 8, 9, 10, 11, 12, 13, 14, 15, 16] rfl
                                          have hD := hD.sub (ws' := [(o, .inr (4, [.ref F, .ref G, .int lo, .int nw, .int se, .ref (pa 0), .ref an, .ref ln])), cE x xv, (x 7, .inl (cA 0, 4, .inl (xd 6))), (x 8, .inl (cA 0, 4, .inl (xd 7))), (x 9, .inr (3, [.ref (x 10), .ref (x 11), .ref (x 12), .ref (x 13), .int (nI xf), .int (nI QX.1)])), (x 10, .inl (cA 0, 12, .inl (xr 0))), (x 11, .inl (cA 0, 12, .inl (xr 1))), (x 12, .inl (cA 0, 12, .inl (xr 2))), (x 13, .inl (cA 0, 48, .inl (xr 3))), cE y yv, (y 7, .inl (cA 0, 4, .inl (yd 6))), (y 8, .inl (cA 0, 4, .inl (yd 7))), (y 9, .inr (3, [.ref (y 10), .ref (y 11), .ref (y 12), .ref (y 13), .int (nI yf), .int (nI QY.1)])), (y 10, .inl (cA 0, 12, .inl (yr 0))), (y 11, .inl (cA 0, 12, .inl (yr 1))), (y 12, .inl (cA 0, 12, .inl (yr 2))), (y 13, .inl (cA 0, 48, .inl (yr 3))), (ln, .inr (0, [.ref vb'_39, .int 0, .int ml'_39, .int (nI ((lnT sy (yd 6) 4).length))])), (ca, .inl (cA 0, 3, .inl cc)), (vb'_39, .inl (cA 2, nb'_39, .inl g'_39))]) [17, 0, 1, 2, 3, 4, 5, 6, 7, 18, 19, 8, 9, 10, 11, 12, 13, 14, 15, 16] (by decide) rfl
                                          clear hPc hDc hFc hP1 hD1 hk1 hz1
                                          have hw_113 := hw
                                          obtain rfl := hw
                                          by_cases hgr : sy = 2 ∨ sy = 4
                                          · refine z_top (y := yd 6 j) (gr_y hy0 hgr) ?_
                                            refine z_top (y := (-1)) hva ?_
                                            refine lv_iload hx hb dL_isWire_209 (lv_at hl 4 rfl) ?_
                                            refine lv_iconst (v := 2) hx hb dL_isWire_211 (by decide) ?_
                                            refine lv_icmp_eq (tgt := 221) hx hb dL_isWire_212 (by decide) (fun c_114 => ?_) (fun c_114 => ?_)
                                            · have c_114 := (nI_eq (a := sy) (b := 2) (by omega) (by omega)).mp c_114
                                              refine lv_iload hx hb dL_isWire_221 (lv_at hl 1 rfl) ?_
                                              refine lv_goto (tgt := 227) hx hb dL_isWire_223 (by decide) ?_
                                              refine lv_icmp_ne (tgt := 265) hx hb dL_isWire_227 (by decide) (fun c_115 => absurd c_115 (by decide)) (fun _ => ?_)
                                              refine lv_iload hx hb dL_isWire_230 (lv_at hl 0 rfl) ?_
                                              refine lv_iconst (v := (-1)) hx hb dL_isWire_232 (by decide) ?_
                                              refine lv_icmp_lt (tgt := 265) hx hb dL_isWire_233 (by decide) (fun c_116 => absurd c_116 (by decide)) (fun _ => ?_)
                                              refine lv_iload hx hb dL_isWire_236 (lv_at hl 0 rfl) ?_
                                              refine lv_bipush (v := 100) hx hb dL_isWire_238 (by decide) ?_
                                              refine lv_icmp_gt (tgt := 265) hx hb dL_isWire_240 (by decide) (fun c_117 => absurd c_117 (by decide)) (fun _ => ?_)
                                              refine lv_iload hx hb dL_isWire_243 (lv_at hl 0 rfl) ?_
                                              refine lv_iconst (v := (-1)) hx hb dL_isWire_245 (by decide) ?_
                                              refine lv_icmp_eq (tgt := 261) hx hb dL_isWire_246 (by decide) (fun _ => ?_) (fun c_118 => absurd c_118 (by decide))
                                              refine lv_iconst (v := 1) hx hb dL_isWire_261 (by decide) ?_
                                              refine lv_goto (tgt := 266) hx hb dL_isWire_262 (by decide) ?_
                                              exact kJ _ _ _ _ ⟨rfl, hP, hD, hS, lv_sub hl [2, 3, 4, 5, 6, 7] rfl⟩
                                            · have c_114 := mt (nI_eq (a := sy) (b := 2) (by omega) (by omega)).mpr c_114
                                              refine lv_iload hx hb dL_isWire_215 (lv_at hl 4 rfl) ?_
                                              refine lv_iconst (v := 4) hx hb dL_isWire_217 (by decide) ?_
                                              refine lv_icmp_ne (tgt := 226) hx hb dL_isWire_218 (by decide) (fun c_119 => ?_) (fun c_119 => ?_)
                                              · have c_119 := mt (nI_eq (a := sy) (b := 4) (by omega) (by omega)).mpr c_119
                                                omega
                                              · have c_119 := (nI_eq (a := sy) (b := 4) (by omega) (by omega)).mp c_119
                                                refine lv_iload hx hb dL_isWire_221 (lv_at hl 1 rfl) ?_
                                                refine lv_goto (tgt := 227) hx hb dL_isWire_223 (by decide) ?_
                                                refine lv_icmp_ne (tgt := 265) hx hb dL_isWire_227 (by decide) (fun c_120 => absurd c_120 (by decide)) (fun _ => ?_)
                                                refine lv_iload hx hb dL_isWire_230 (lv_at hl 0 rfl) ?_
                                                refine lv_iconst (v := (-1)) hx hb dL_isWire_232 (by decide) ?_
                                                refine lv_icmp_lt (tgt := 265) hx hb dL_isWire_233 (by decide) (fun c_121 => absurd c_121 (by decide)) (fun _ => ?_)
                                                refine lv_iload hx hb dL_isWire_236 (lv_at hl 0 rfl) ?_
                                                refine lv_bipush (v := 100) hx hb dL_isWire_238 (by decide) ?_
                                                refine lv_icmp_gt (tgt := 265) hx hb dL_isWire_240 (by decide) (fun c_122 => absurd c_122 (by decide)) (fun _ => ?_)
                                                refine lv_iload hx hb dL_isWire_243 (lv_at hl 0 rfl) ?_
                                                refine lv_iconst (v := (-1)) hx hb dL_isWire_245 (by decide) ?_
                                                refine lv_icmp_eq (tgt := 261) hx hb dL_isWire_246 (by decide) (fun _ => ?_) (fun c_123 => absurd c_123 (by decide))
                                                refine lv_iconst (v := 1) hx hb dL_isWire_261 (by decide) ?_
                                                refine lv_goto (tgt := 266) hx hb dL_isWire_262 (by decide) ?_
                                                exact kJ _ _ _ _ ⟨rfl, hP, hD, hS, lv_sub hl [2, 3, 4, 5, 6, 7] rfl⟩
                                          · skip
                                            refine z_top (y := (-1)) (gr_n hy0 hy7 hgr) ?_
                                            refine lv_iload hx hb dL_isWire_209 (lv_at hl 4 rfl) ?_
                                            refine lv_iconst (v := 2) hx hb dL_isWire_211 (by decide) ?_
                                            refine lv_icmp_eq (tgt := 221) hx hb dL_isWire_212 (by decide) (fun c_124 => ?_) (fun c_124 => ?_)
                                            · have c_124 := (nI_eq (a := sy) (b := 2) (by omega) (by omega)).mp c_124
                                              omega
                                            · have c_124 := mt (nI_eq (a := sy) (b := 2) (by omega) (by omega)).mpr c_124
                                              refine lv_iload hx hb dL_isWire_215 (lv_at hl 4 rfl) ?_
                                              refine lv_iconst (v := 4) hx hb dL_isWire_217 (by decide) ?_
                                              refine lv_icmp_ne (tgt := 226) hx hb dL_isWire_218 (by decide) (fun c_125 => ?_) (fun c_125 => ?_)
                                              · have c_125 := mt (nI_eq (a := sy) (b := 4) (by omega) (by omega)).mpr c_125
                                                refine lv_iconst (v := (-1)) hx hb dL_isWire_226 (by decide) ?_
                                                refine lv_icmp_ne (tgt := 265) hx hb dL_isWire_227 (by decide) (fun c_126 => absurd c_126 (by decide)) (fun _ => ?_)
                                                refine lv_iload hx hb dL_isWire_230 (lv_at hl 0 rfl) ?_
                                                refine lv_iconst (v := (-1)) hx hb dL_isWire_232 (by decide) ?_
                                                refine lv_icmp_lt (tgt := 265) hx hb dL_isWire_233 (by decide) (fun c_127 => absurd c_127 (by decide)) (fun _ => ?_)
                                                refine lv_iload hx hb dL_isWire_236 (lv_at hl 0 rfl) ?_
                                                refine lv_bipush (v := 100) hx hb dL_isWire_238 (by decide) ?_
                                                refine lv_icmp_gt (tgt := 265) hx hb dL_isWire_240 (by decide) (fun c_128 => absurd c_128 (by decide)) (fun _ => ?_)
                                                refine lv_iload hx hb dL_isWire_243 (lv_at hl 0 rfl) ?_
                                                refine lv_iconst (v := (-1)) hx hb dL_isWire_245 (by decide) ?_
                                                refine lv_icmp_eq (tgt := 261) hx hb dL_isWire_246 (by decide) (fun _ => ?_) (fun c_129 => absurd c_129 (by decide))
                                                refine lv_iconst (v := 1) hx hb dL_isWire_261 (by decide) ?_
                                                refine lv_goto (tgt := 266) hx hb dL_isWire_262 (by decide) ?_
                                                exact kJ _ _ _ _ ⟨rfl, hP, hD, hS, lv_sub hl [2, 3, 4, 5, 6, 7] rfl⟩
                                              · have c_125 := (nI_eq (a := sy) (b := 4) (by omega) (by omega)).mp c_125
                                                omega
                                      · skip
                                        refine z_top (y := (nI va)) hva ?_
                                        refine lv_istore (lv' := [(6, .int (nI va)), (5, .int (nI j)), (2, .int 1), (4, .int (nI sy)), (3, .int 1), (0, .ref o), (1, .ref ca)]) hx hb dL_isWire_178 hl (by decide) rfl (fun ls hl => ?_)
                                        refine lv_aload_n hx hb dL_isWire_180 rfl (lv_at hl 5 rfl) ?_
                                        refine lv_iload_n hx hb dL_isWire_181 rfl (lv_at hl 4 rfl) ?_
                                        refine lv_iload hx hb dL_isWire_182 (lv_at hl 1 rfl) ?_
                                        have hPc := hP.sub (ws' := [(o, .inr (4, [.ref F, .ref G, .int lo, .int nw, .int se, .ref (pa 0), .ref an, .ref ln])), cE y yv, (y 8, .inl (cA 0, 4, .inl (yd 7)))]) [0, 9, 11] rfl
                                        have hDc := hD.sub (ws' := [(o, .inr (4, [.ref F, .ref G, .int lo, .int nw, .int se, .ref (pa 0), .ref an, .ref ln])), cE y yv, (y 8, .inl (cA 0, 4, .inl (yd 7)))]) [0, 9, 11] (by decide) rfl
                                        have hFc := va_free (wc := [(o, .inr (4, [.ref F, .ref G, .int lo, .int nw, .int se, .ref (pa 0), .ref an, .ref ln])), cE y yv, (y 8, .inl (cA 0, 4, .inl (yd 7)))]) hD hS hA [0, 9, 11] rfl
                                        refine va_calli (va_runV (As := [.int 1, .int (nI j)]) (rest := []) ⟨hx, hb, hml, hown, hts⟩ (c_X3_allowed_k l D cA H.size o F G lo nw se pa an ln y (x 0) 1 yv j (yd 7) (by first | exact he | exact en_flip he | exact en_01 he | exact en_10 he) (by omega)) (cwV 2 hts gL_isWire_X3_allowed rfl rfl rfl (by decide +kernel) ⟨Nat.le_of_ble_eq_true rfl, Nat.le_of_ble_eq_true rfl⟩) ⟨zU_blind, va_recv hK hPc (ci := 4) (q0 := 0) rfl rfl, fun U hU hW => ⟨rfl, zU_call hU hPc hW.alike hK hDc⟩⟩ rfl rfl hl.1 rfl (lv_room (Nat.le_of_ble_eq_true rfl)) dL_isWire_184 ⟨Nat.le_of_ble_eq_true rfl, Nat.le_of_ble_eq_true rfl⟩) hS (fun q _ h => hFc q h) hFc (fun zr u t H1 locs ht hvm hw hB hz1 hk1 hS => ?_)
                                        obtain ⟨hP1, hD1⟩ := hB
                                        rw [ht] at hP1
                                        obtain ⟨hP, hD⟩ := va_join (wr := [cE x xv, (x 7, .inl (cA 0, 4, .inl (xd 6))), (x 8, .inl (cA 0, 4, .inl (xd 7))), (x 9, .inr (3, [.ref (x 10), .ref (x 11), .ref (x 12), .ref (x 13), .int (nI xf), .int (nI QX.1)])), (x 10, .inl (cA 0, 12, .inl (xr 0))), (x 11, .inl (cA 0, 12, .inl (xr 1))), (x 12, .inl (cA 0, 12, .inl (xr 2))), (x 13, .inl (cA 0, 48, .inl (xr 3))), (y 7, .inl (cA 0, 4, .inl (yd 6))), (y 9, .inr (3, [.ref (y 10), .ref (y 11), .ref (y 12), .ref (y 13), .int (nI yf), .int (nI QY.1)])), (y 10, .inl (cA 0, 12, .inl (yr 0))), (y 11, .inl (cA 0, 12, .inl (yr 1))), (y 12, .inl (cA 0, 12, .inl (yr 2))), (y 13, .inl (cA 0, 48, .inl (yr 3))), (ln, .inr (0, [.ref vb'_39, .int 0, .int ml'_39, .int (nI ((lnT sy (yd 6) 4).length))])), (ca, .inl (cA 0, 3, .inl cc)), (vb'_39, .inl (cA 2, nb'_39, .inl g'_39))]) (w1 := [(o, .inr (4, [.ref F, .ref G, .int lo, .int nw, .int se, .ref (pa 0), .ref an, .ref ln])), cE y yv, (y 8, .inl (cA 0, 4, .inl (yd 7)))]) hP hD [0, 9, 11] [1, 2, 3, 4, 5, 6, 7, 8, 10, 12, 13, 14, 15, 16, 17, 18, 19] rfl rfl (by decide) (by decide) hk1 hFc hP1 hD1
                                        generalize H1 = H at hP hS ⊢
                                        have hP := hP.sub (ws' := [(o, .inr (4, [.ref F, .ref G, .int lo, .int nw, .int se, .ref (pa 0), .ref an, .ref ln])), cE x xv, (x 7, .inl (cA 0, 4, .inl (xd 6))), (x 8, .inl (cA 0, 4, .inl (xd 7))), (x 9, .inr (3, [.ref (x 10), .ref (x 11), .ref (x 12), .ref (x 13), .int (nI xf), .int (nI QX.1)])), (x 10, .inl (cA 0, 12, .inl (xr 0))), (x 11, .inl (cA 0, 12, .inl (xr 1))), (x 12, .inl (cA 0, 12, .inl (xr 2))), (x 13, .inl (cA 0, 48, .inl (xr 3))), cE y yv, (y 7, .inl (cA 0, 4, .inl (yd 6))), (y 8, .inl (cA 0, 4, .inl (yd 7))), (y 9, .inr (3, [.ref (y 10), .ref (y 11), .ref (y 12), .ref (y 13), .int (nI yf), .int (nI QY.1)])), (y 10, .inl (cA 0, 12, .inl (yr 0))), (y 11, .inl (cA 0, 12, .inl (yr 1))), (y 12, .inl (cA 0, 12, .inl (yr 2))), (y 13, .inl (cA 0, 48, .inl (yr 3))), (ln, .inr (0, [.ref vb'_39, .int 0, .int ml'_39, .int (nI ((lnT sy (yd 6) 4).length))])), (ca, .inl (cA 0, 3, .inl cc)), (vb'_39, .inl (cA 2, nb'_39, .inl g'_39))]) [17, 0, 1, 2, 3, 4, 5, 6, 7, 18, 8, 19, 9, 10, 11, 12, 13, 14, 15, 16] rfl
                                        have hD := hD.sub (ws' := [(o, .inr (4, [.ref F, .ref G, .int lo, .int nw, .int se, .ref (pa 0), .ref an, .ref ln])), cE x xv, (x 7, .inl (cA 0, 4, .inl (xd 6))), (x 8, .inl (cA 0, 4, .inl (xd 7))), (x 9, .inr (3, [.ref (x 10), .ref (x 11), .ref (x 12), .ref (x 13), .int (nI xf), .int (nI QX.1)])), (x 10, .inl (cA 0, 12, .inl (xr 0))), (x 11, .inl (cA 0, 12, .inl (xr 1))), (x 12, .inl (cA 0, 12, .inl (xr 2))), (x 13, .inl (cA 0, 48, .inl (xr 3))), cE y yv, (y 7, .inl (cA 0, 4, .inl (yd 6))), (y 8, .inl (cA 0, 4, .inl (yd 7))), (y 9, .inr (3, [.ref (y 10), .ref (y 11), .ref (y 12), .ref (y 13), .int (nI yf), .int (nI QY.1)])), (y 10, .inl (cA 0, 12, .inl (yr 0))), (y 11, .inl (cA 0, 12, .inl (yr 1))), (y 12, .inl (cA 0, 12, .inl (yr 2))), (y 13, .inl (cA 0, 48, .inl (yr 3))), (ln, .inr (0, [.ref vb'_39, .int 0, .int ml'_39, .int (nI ((lnT sy (yd 6) 4).length))])), (ca, .inl (cA 0, 3, .inl cc)), (vb'_39, .inl (cA 2, nb'_39, .inl g'_39))]) [17, 0, 1, 2, 3, 4, 5, 6, 7, 18, 8, 19, 9, 10, 11, 12, 13, 14, 15, 16] (by decide) rfl
                                        clear hPc hDc hFc hP1 hD1 hk1 hz1
                                        have hw_130 := hw
                                        obtain rfl := hw
                                        by_cases hal : sy = 3 ∨ sy = 4
                                        · refine z_top (y := yd 7 j) (al_v hy0 hal) ?_
                                          rcases (hI.sw.2.1.1.1 j (by omega)).2.2.1 with hvl | ⟨vl, hvm, hvl⟩
                                          · skip
                                            refine z_top (y := (-1)) hvl ?_
                                            refine lv_istore (lv' := [(7, .int (-1)), (6, .int (nI va)), (5, .int (nI j)), (2, .int 1), (4, .int (nI sy)), (3, .int 1), (0, .ref o), (1, .ref ca)]) hx hb dL_isWire_187 hl (by decide) rfl (fun ls hl => ?_)
                                            refine lv_iload hx hb dL_isWire_189 (lv_at hl 1 rfl) ?_
                                            refine lv_iconst (v := (-1)) hx hb dL_isWire_191 (by decide) ?_
                                            refine lv_icmp_lt (tgt := 265) hx hb dL_isWire_192 (by decide) (fun c_131 => absurd c_131 (nneg_lt (by omega) (by decide))) (fun _ => ?_)
                                            refine lv_iload hx hb dL_isWire_195 (lv_at hl 1 rfl) ?_
                                            refine lv_bipush (v := 100) hx hb dL_isWire_197 (by decide) ?_
                                            refine lv_icmp_gt (tgt := 265) hx hb dL_isWire_199 (by decide) (fun c_132 => ?_) (fun c_132 => ?_)
                                            · have c_132 := (nI_ltI (a := 100) (b := va) (by omega) (by omega)).mp c_132
                                              refine lv_iconst (v := 0) hx hb dL_isWire_265 (by decide) ?_
                                              exfalso; omega
                                            · have c_132 := mt (nI_ltI (a := 100) (b := va) (by omega) (by omega)).mpr c_132
                                              refine lv_aload_n hx hb dL_isWire_202 rfl (lv_at hl 6 rfl) ?_
                                              refine lv_iload_n hx hb dL_isWire_203 rfl (lv_at hl 5 rfl) ?_
                                              refine lv_iload hx hb dL_isWire_204 (lv_at hl 2 rfl) ?_
                                              have hPc := hP.sub (ws' := [(o, .inr (4, [.ref F, .ref G, .int lo, .int nw, .int se, .ref (pa 0), .ref an, .ref ln])), cE y yv, (y 7, .inl (cA 0, 4, .inl (yd 6)))]) [0, 9, 10] rfl
                                              have hDc := hD.sub (ws' := [(o, .inr (4, [.ref F, .ref G, .int lo, .int nw, .int se, .ref (pa 0), .ref an, .ref ln])), cE y yv, (y 7, .inl (cA 0, 4, .inl (yd 6)))]) [0, 9, 10] (by decide) rfl
                                              have hFc := va_free (wc := [(o, .inr (4, [.ref F, .ref G, .int lo, .int nw, .int se, .ref (pa 0), .ref an, .ref ln])), cE y yv, (y 7, .inl (cA 0, 4, .inl (yd 6)))]) hD hS hA [0, 9, 10] rfl
                                              refine va_calli (va_runV (As := [.int 1, .int (nI j)]) (rest := []) ⟨hx, hb, hml, hown, hts⟩ (c_X3_granted_k l D cA H.size o F G lo nw se pa an ln y (x 0) 1 yv j (yd 6) (by first | exact he | exact en_flip he | exact en_01 he | exact en_10 he) (by omega)) (cwV 2 hts gL_isWire_X3_granted rfl rfl rfl (by decide +kernel) ⟨Nat.le_of_ble_eq_true rfl, Nat.le_of_ble_eq_true rfl⟩) ⟨zU_blind, va_recv hK hPc (ci := 4) (q0 := 0) rfl rfl, fun U hU hW => ⟨rfl, zU_call hU hPc hW.alike hK hDc⟩⟩ rfl rfl hl.1 rfl (lv_room (Nat.le_of_ble_eq_true rfl)) dL_isWire_206 ⟨Nat.le_of_ble_eq_true rfl, Nat.le_of_ble_eq_true rfl⟩) hS (fun q _ h => hFc q h) hFc (fun zr u t H1 locs ht hvm hw hB hz1 hk1 hS => ?_)
                                              obtain ⟨hP1, hD1⟩ := hB
                                              rw [ht] at hP1
                                              obtain ⟨hP, hD⟩ := va_join (wr := [cE x xv, (x 7, .inl (cA 0, 4, .inl (xd 6))), (x 8, .inl (cA 0, 4, .inl (xd 7))), (x 9, .inr (3, [.ref (x 10), .ref (x 11), .ref (x 12), .ref (x 13), .int (nI xf), .int (nI QX.1)])), (x 10, .inl (cA 0, 12, .inl (xr 0))), (x 11, .inl (cA 0, 12, .inl (xr 1))), (x 12, .inl (cA 0, 12, .inl (xr 2))), (x 13, .inl (cA 0, 48, .inl (xr 3))), (y 8, .inl (cA 0, 4, .inl (yd 7))), (y 9, .inr (3, [.ref (y 10), .ref (y 11), .ref (y 12), .ref (y 13), .int (nI yf), .int (nI QY.1)])), (y 10, .inl (cA 0, 12, .inl (yr 0))), (y 11, .inl (cA 0, 12, .inl (yr 1))), (y 12, .inl (cA 0, 12, .inl (yr 2))), (y 13, .inl (cA 0, 48, .inl (yr 3))), (ln, .inr (0, [.ref vb'_39, .int 0, .int ml'_39, .int (nI ((lnT sy (yd 6) 4).length))])), (ca, .inl (cA 0, 3, .inl cc)), (vb'_39, .inl (cA 2, nb'_39, .inl g'_39))]) (w1 := [(o, .inr (4, [.ref F, .ref G, .int lo, .int nw, .int se, .ref (pa 0), .ref an, .ref ln])), cE y yv, (y 7, .inl (cA 0, 4, .inl (yd 6)))]) hP hD [0, 9, 10] [1, 2, 3, 4, 5, 6, 7, 8, 11, 12, 13, 14, 15, 16, 17, 18, 19] rfl rfl (by decide) (by decide) hk1 hFc hP1 hD1
                                              generalize H1 = H at hP hS ⊢
                                              have hP := hP.sub (ws' := [(o, .inr (4, [.ref F, .ref G, .int lo, .int nw, .int se, .ref (pa 0), .ref an, .ref ln])), cE x xv, (x 7, .inl (cA 0, 4, .inl (xd 6))), (x 8, .inl (cA 0, 4, .inl (xd 7))), (x 9, .inr (3, [.ref (x 10), .ref (x 11), .ref (x 12), .ref (x 13), .int (nI xf), .int (nI QX.1)])), (x 10, .inl (cA 0, 12, .inl (xr 0))), (x 11, .inl (cA 0, 12, .inl (xr 1))), (x 12, .inl (cA 0, 12, .inl (xr 2))), (x 13, .inl (cA 0, 48, .inl (xr 3))), cE y yv, (y 7, .inl (cA 0, 4, .inl (yd 6))), (y 8, .inl (cA 0, 4, .inl (yd 7))), (y 9, .inr (3, [.ref (y 10), .ref (y 11), .ref (y 12), .ref (y 13), .int (nI yf), .int (nI QY.1)])), (y 10, .inl (cA 0, 12, .inl (yr 0))), (y 11, .inl (cA 0, 12, .inl (yr 1))), (y 12, .inl (cA 0, 12, .inl (yr 2))), (y 13, .inl (cA 0, 48, .inl (yr 3))), (ln, .inr (0, [.ref vb'_39, .int 0, .int ml'_39, .int (nI ((lnT sy (yd 6) 4).length))])), (ca, .inl (cA 0, 3, .inl cc)), (vb'_39, .inl (cA 2, nb'_39, .inl g'_39))]) [17, 0, 1, 2, 3, 4, 5, 6, 7, 18, 19, 8, 9, 10, 11, 12, 13, 14, 15, 16] rfl
                                              have hD := hD.sub (ws' := [(o, .inr (4, [.ref F, .ref G, .int lo, .int nw, .int se, .ref (pa 0), .ref an, .ref ln])), cE x xv, (x 7, .inl (cA 0, 4, .inl (xd 6))), (x 8, .inl (cA 0, 4, .inl (xd 7))), (x 9, .inr (3, [.ref (x 10), .ref (x 11), .ref (x 12), .ref (x 13), .int (nI xf), .int (nI QX.1)])), (x 10, .inl (cA 0, 12, .inl (xr 0))), (x 11, .inl (cA 0, 12, .inl (xr 1))), (x 12, .inl (cA 0, 12, .inl (xr 2))), (x 13, .inl (cA 0, 48, .inl (xr 3))), cE y yv, (y 7, .inl (cA 0, 4, .inl (yd 6))), (y 8, .inl (cA 0, 4, .inl (yd 7))), (y 9, .inr (3, [.ref (y 10), .ref (y 11), .ref (y 12), .ref (y 13), .int (nI yf), .int (nI QY.1)])), (y 10, .inl (cA 0, 12, .inl (yr 0))), (y 11, .inl (cA 0, 12, .inl (yr 1))), (y 12, .inl (cA 0, 12, .inl (yr 2))), (y 13, .inl (cA 0, 48, .inl (yr 3))), (ln, .inr (0, [.ref vb'_39, .int 0, .int ml'_39, .int (nI ((lnT sy (yd 6) 4).length))])), (ca, .inl (cA 0, 3, .inl cc)), (vb'_39, .inl (cA 2, nb'_39, .inl g'_39))]) [17, 0, 1, 2, 3, 4, 5, 6, 7, 18, 19, 8, 9, 10, 11, 12, 13, 14, 15, 16] (by decide) rfl
                                              clear hPc hDc hFc hP1 hD1 hk1 hz1
                                              have hw_133 := hw
                                              obtain rfl := hw
                                              by_cases hgr : sy = 2 ∨ sy = 4
                                              · refine z_top (y := yd 6 j) (gr_y hy0 hgr) ?_
                                                refine z_top (y := (nI va)) hva ?_
                                                refine lv_iload hx hb dL_isWire_209 (lv_at hl 4 rfl) ?_
                                                refine lv_iconst (v := 2) hx hb dL_isWire_211 (by decide) ?_
                                                refine lv_icmp_eq (tgt := 221) hx hb dL_isWire_212 (by decide) (fun c_134 => ?_) (fun c_134 => ?_)
                                                · have c_134 := (nI_eq (a := sy) (b := 2) (by omega) (by omega)).mp c_134
                                                  refine lv_iload hx hb dL_isWire_221 (lv_at hl 1 rfl) ?_
                                                  refine lv_goto (tgt := 227) hx hb dL_isWire_223 (by decide) ?_
                                                  refine lv_icmp_ne (tgt := 265) hx hb dL_isWire_227 (by decide) (fun c_135 => absurd rfl c_135) (fun _ => ?_)
                                                  refine lv_iload hx hb dL_isWire_230 (lv_at hl 0 rfl) ?_
                                                  refine lv_iconst (v := (-1)) hx hb dL_isWire_232 (by decide) ?_
                                                  refine lv_icmp_lt (tgt := 265) hx hb dL_isWire_233 (by decide) (fun c_136 => absurd c_136 (by decide)) (fun _ => ?_)
                                                  refine lv_iload hx hb dL_isWire_236 (lv_at hl 0 rfl) ?_
                                                  refine lv_bipush (v := 100) hx hb dL_isWire_238 (by decide) ?_
                                                  refine lv_icmp_gt (tgt := 265) hx hb dL_isWire_240 (by decide) (fun c_137 => absurd c_137 (by decide)) (fun _ => ?_)
                                                  refine lv_iload hx hb dL_isWire_243 (lv_at hl 0 rfl) ?_
                                                  refine lv_iconst (v := (-1)) hx hb dL_isWire_245 (by decide) ?_
                                                  refine lv_icmp_eq (tgt := 261) hx hb dL_isWire_246 (by decide) (fun _ => ?_) (fun c_138 => absurd c_138 (by decide))
                                                  refine lv_iconst (v := 1) hx hb dL_isWire_261 (by decide) ?_
                                                  refine lv_goto (tgt := 266) hx hb dL_isWire_262 (by decide) ?_
                                                  exact kJ _ _ _ _ ⟨rfl, hP, hD, hS, lv_sub hl [2, 3, 4, 5, 6, 7] rfl⟩
                                                · have c_134 := mt (nI_eq (a := sy) (b := 2) (by omega) (by omega)).mpr c_134
                                                  refine lv_iload hx hb dL_isWire_215 (lv_at hl 4 rfl) ?_
                                                  refine lv_iconst (v := 4) hx hb dL_isWire_217 (by decide) ?_
                                                  refine lv_icmp_ne (tgt := 226) hx hb dL_isWire_218 (by decide) (fun c_139 => ?_) (fun c_139 => ?_)
                                                  · have c_139 := mt (nI_eq (a := sy) (b := 4) (by omega) (by omega)).mpr c_139
                                                    omega
                                                  · have c_139 := (nI_eq (a := sy) (b := 4) (by omega) (by omega)).mp c_139
                                                    refine lv_iload hx hb dL_isWire_221 (lv_at hl 1 rfl) ?_
                                                    refine lv_goto (tgt := 227) hx hb dL_isWire_223 (by decide) ?_
                                                    refine lv_icmp_ne (tgt := 265) hx hb dL_isWire_227 (by decide) (fun c_140 => absurd rfl c_140) (fun _ => ?_)
                                                    refine lv_iload hx hb dL_isWire_230 (lv_at hl 0 rfl) ?_
                                                    refine lv_iconst (v := (-1)) hx hb dL_isWire_232 (by decide) ?_
                                                    refine lv_icmp_lt (tgt := 265) hx hb dL_isWire_233 (by decide) (fun c_141 => absurd c_141 (by decide)) (fun _ => ?_)
                                                    refine lv_iload hx hb dL_isWire_236 (lv_at hl 0 rfl) ?_
                                                    refine lv_bipush (v := 100) hx hb dL_isWire_238 (by decide) ?_
                                                    refine lv_icmp_gt (tgt := 265) hx hb dL_isWire_240 (by decide) (fun c_142 => absurd c_142 (by decide)) (fun _ => ?_)
                                                    refine lv_iload hx hb dL_isWire_243 (lv_at hl 0 rfl) ?_
                                                    refine lv_iconst (v := (-1)) hx hb dL_isWire_245 (by decide) ?_
                                                    refine lv_icmp_eq (tgt := 261) hx hb dL_isWire_246 (by decide) (fun _ => ?_) (fun c_143 => absurd c_143 (by decide))
                                                    refine lv_iconst (v := 1) hx hb dL_isWire_261 (by decide) ?_
                                                    refine lv_goto (tgt := 266) hx hb dL_isWire_262 (by decide) ?_
                                                    exact kJ _ _ _ _ ⟨rfl, hP, hD, hS, lv_sub hl [2, 3, 4, 5, 6, 7] rfl⟩
                                              · skip
                                                refine z_top (y := (-1)) (gr_n hy0 hy7 hgr) ?_
                                                refine lv_iload hx hb dL_isWire_209 (lv_at hl 4 rfl) ?_
                                                refine lv_iconst (v := 2) hx hb dL_isWire_211 (by decide) ?_
                                                refine lv_icmp_eq (tgt := 221) hx hb dL_isWire_212 (by decide) (fun c_144 => ?_) (fun c_144 => ?_)
                                                · have c_144 := (nI_eq (a := sy) (b := 2) (by omega) (by omega)).mp c_144
                                                  omega
                                                · have c_144 := mt (nI_eq (a := sy) (b := 2) (by omega) (by omega)).mpr c_144
                                                  refine lv_iload hx hb dL_isWire_215 (lv_at hl 4 rfl) ?_
                                                  refine lv_iconst (v := 4) hx hb dL_isWire_217 (by decide) ?_
                                                  refine lv_icmp_ne (tgt := 226) hx hb dL_isWire_218 (by decide) (fun c_145 => ?_) (fun c_145 => ?_)
                                                  · have c_145 := mt (nI_eq (a := sy) (b := 4) (by omega) (by omega)).mpr c_145
                                                    refine lv_iconst (v := (-1)) hx hb dL_isWire_226 (by decide) ?_
                                                    refine lv_icmp_ne (tgt := 265) hx hb dL_isWire_227 (by decide) (fun c_146 => absurd c_146 (by decide)) (fun _ => ?_)
                                                    refine lv_iload hx hb dL_isWire_230 (lv_at hl 0 rfl) ?_
                                                    refine lv_iconst (v := (-1)) hx hb dL_isWire_232 (by decide) ?_
                                                    refine lv_icmp_lt (tgt := 265) hx hb dL_isWire_233 (by decide) (fun c_147 => absurd c_147 (by decide)) (fun _ => ?_)
                                                    refine lv_iload hx hb dL_isWire_236 (lv_at hl 0 rfl) ?_
                                                    refine lv_bipush (v := 100) hx hb dL_isWire_238 (by decide) ?_
                                                    refine lv_icmp_gt (tgt := 265) hx hb dL_isWire_240 (by decide) (fun c_148 => absurd c_148 (by decide)) (fun _ => ?_)
                                                    refine lv_iload hx hb dL_isWire_243 (lv_at hl 0 rfl) ?_
                                                    refine lv_iconst (v := (-1)) hx hb dL_isWire_245 (by decide) ?_
                                                    refine lv_icmp_eq (tgt := 261) hx hb dL_isWire_246 (by decide) (fun _ => ?_) (fun c_149 => absurd c_149 (by decide))
                                                    refine lv_iconst (v := 1) hx hb dL_isWire_261 (by decide) ?_
                                                    refine lv_goto (tgt := 266) hx hb dL_isWire_262 (by decide) ?_
                                                    exact kJ _ _ _ _ ⟨rfl, hP, hD, hS, lv_sub hl [2, 3, 4, 5, 6, 7] rfl⟩
                                                  · have c_145 := (nI_eq (a := sy) (b := 4) (by omega) (by omega)).mp c_145
                                                    omega
                                          · skip
                                            refine z_top (y := (nI vl)) hvl ?_
                                            refine lv_istore (lv' := [(7, .int (nI vl)), (6, .int (nI va)), (5, .int (nI j)), (2, .int 1), (4, .int (nI sy)), (3, .int 1), (0, .ref o), (1, .ref ca)]) hx hb dL_isWire_187 hl (by decide) rfl (fun ls hl => ?_)
                                            refine lv_iload hx hb dL_isWire_189 (lv_at hl 1 rfl) ?_
                                            refine lv_iconst (v := (-1)) hx hb dL_isWire_191 (by decide) ?_
                                            refine lv_icmp_lt (tgt := 265) hx hb dL_isWire_192 (by decide) (fun c_150 => absurd c_150 (nneg_lt (by omega) (by decide))) (fun _ => ?_)
                                            refine lv_iload hx hb dL_isWire_195 (lv_at hl 1 rfl) ?_
                                            refine lv_bipush (v := 100) hx hb dL_isWire_197 (by decide) ?_
                                            refine lv_icmp_gt (tgt := 265) hx hb dL_isWire_199 (by decide) (fun c_151 => ?_) (fun c_151 => ?_)
                                            · have c_151 := (nI_ltI (a := 100) (b := va) (by omega) (by omega)).mp c_151
                                              refine lv_iconst (v := 0) hx hb dL_isWire_265 (by decide) ?_
                                              exfalso; omega
                                            · have c_151 := mt (nI_ltI (a := 100) (b := va) (by omega) (by omega)).mpr c_151
                                              refine lv_aload_n hx hb dL_isWire_202 rfl (lv_at hl 6 rfl) ?_
                                              refine lv_iload_n hx hb dL_isWire_203 rfl (lv_at hl 5 rfl) ?_
                                              refine lv_iload hx hb dL_isWire_204 (lv_at hl 2 rfl) ?_
                                              have hPc := hP.sub (ws' := [(o, .inr (4, [.ref F, .ref G, .int lo, .int nw, .int se, .ref (pa 0), .ref an, .ref ln])), cE y yv, (y 7, .inl (cA 0, 4, .inl (yd 6)))]) [0, 9, 10] rfl
                                              have hDc := hD.sub (ws' := [(o, .inr (4, [.ref F, .ref G, .int lo, .int nw, .int se, .ref (pa 0), .ref an, .ref ln])), cE y yv, (y 7, .inl (cA 0, 4, .inl (yd 6)))]) [0, 9, 10] (by decide) rfl
                                              have hFc := va_free (wc := [(o, .inr (4, [.ref F, .ref G, .int lo, .int nw, .int se, .ref (pa 0), .ref an, .ref ln])), cE y yv, (y 7, .inl (cA 0, 4, .inl (yd 6)))]) hD hS hA [0, 9, 10] rfl
                                              refine va_calli (va_runV (As := [.int 1, .int (nI j)]) (rest := []) ⟨hx, hb, hml, hown, hts⟩ (c_X3_granted_k l D cA H.size o F G lo nw se pa an ln y (x 0) 1 yv j (yd 6) (by first | exact he | exact en_flip he | exact en_01 he | exact en_10 he) (by omega)) (cwV 2 hts gL_isWire_X3_granted rfl rfl rfl (by decide +kernel) ⟨Nat.le_of_ble_eq_true rfl, Nat.le_of_ble_eq_true rfl⟩) ⟨zU_blind, va_recv hK hPc (ci := 4) (q0 := 0) rfl rfl, fun U hU hW => ⟨rfl, zU_call hU hPc hW.alike hK hDc⟩⟩ rfl rfl hl.1 rfl (lv_room (Nat.le_of_ble_eq_true rfl)) dL_isWire_206 ⟨Nat.le_of_ble_eq_true rfl, Nat.le_of_ble_eq_true rfl⟩) hS (fun q _ h => hFc q h) hFc (fun zr u t H1 locs ht hvm hw hB hz1 hk1 hS => ?_)
                                              obtain ⟨hP1, hD1⟩ := hB
                                              rw [ht] at hP1
                                              obtain ⟨hP, hD⟩ := va_join (wr := [cE x xv, (x 7, .inl (cA 0, 4, .inl (xd 6))), (x 8, .inl (cA 0, 4, .inl (xd 7))), (x 9, .inr (3, [.ref (x 10), .ref (x 11), .ref (x 12), .ref (x 13), .int (nI xf), .int (nI QX.1)])), (x 10, .inl (cA 0, 12, .inl (xr 0))), (x 11, .inl (cA 0, 12, .inl (xr 1))), (x 12, .inl (cA 0, 12, .inl (xr 2))), (x 13, .inl (cA 0, 48, .inl (xr 3))), (y 8, .inl (cA 0, 4, .inl (yd 7))), (y 9, .inr (3, [.ref (y 10), .ref (y 11), .ref (y 12), .ref (y 13), .int (nI yf), .int (nI QY.1)])), (y 10, .inl (cA 0, 12, .inl (yr 0))), (y 11, .inl (cA 0, 12, .inl (yr 1))), (y 12, .inl (cA 0, 12, .inl (yr 2))), (y 13, .inl (cA 0, 48, .inl (yr 3))), (ln, .inr (0, [.ref vb'_39, .int 0, .int ml'_39, .int (nI ((lnT sy (yd 6) 4).length))])), (ca, .inl (cA 0, 3, .inl cc)), (vb'_39, .inl (cA 2, nb'_39, .inl g'_39))]) (w1 := [(o, .inr (4, [.ref F, .ref G, .int lo, .int nw, .int se, .ref (pa 0), .ref an, .ref ln])), cE y yv, (y 7, .inl (cA 0, 4, .inl (yd 6)))]) hP hD [0, 9, 10] [1, 2, 3, 4, 5, 6, 7, 8, 11, 12, 13, 14, 15, 16, 17, 18, 19] rfl rfl (by decide) (by decide) hk1 hFc hP1 hD1
                                              generalize H1 = H at hP hS ⊢
                                              have hP := hP.sub (ws' := [(o, .inr (4, [.ref F, .ref G, .int lo, .int nw, .int se, .ref (pa 0), .ref an, .ref ln])), cE x xv, (x 7, .inl (cA 0, 4, .inl (xd 6))), (x 8, .inl (cA 0, 4, .inl (xd 7))), (x 9, .inr (3, [.ref (x 10), .ref (x 11), .ref (x 12), .ref (x 13), .int (nI xf), .int (nI QX.1)])), (x 10, .inl (cA 0, 12, .inl (xr 0))), (x 11, .inl (cA 0, 12, .inl (xr 1))), (x 12, .inl (cA 0, 12, .inl (xr 2))), (x 13, .inl (cA 0, 48, .inl (xr 3))), cE y yv, (y 7, .inl (cA 0, 4, .inl (yd 6))), (y 8, .inl (cA 0, 4, .inl (yd 7))), (y 9, .inr (3, [.ref (y 10), .ref (y 11), .ref (y 12), .ref (y 13), .int (nI yf), .int (nI QY.1)])), (y 10, .inl (cA 0, 12, .inl (yr 0))), (y 11, .inl (cA 0, 12, .inl (yr 1))), (y 12, .inl (cA 0, 12, .inl (yr 2))), (y 13, .inl (cA 0, 48, .inl (yr 3))), (ln, .inr (0, [.ref vb'_39, .int 0, .int ml'_39, .int (nI ((lnT sy (yd 6) 4).length))])), (ca, .inl (cA 0, 3, .inl cc)), (vb'_39, .inl (cA 2, nb'_39, .inl g'_39))]) [17, 0, 1, 2, 3, 4, 5, 6, 7, 18, 19, 8, 9, 10, 11, 12, 13, 14, 15, 16] rfl
                                              have hD := hD.sub (ws' := [(o, .inr (4, [.ref F, .ref G, .int lo, .int nw, .int se, .ref (pa 0), .ref an, .ref ln])), cE x xv, (x 7, .inl (cA 0, 4, .inl (xd 6))), (x 8, .inl (cA 0, 4, .inl (xd 7))), (x 9, .inr (3, [.ref (x 10), .ref (x 11), .ref (x 12), .ref (x 13), .int (nI xf), .int (nI QX.1)])), (x 10, .inl (cA 0, 12, .inl (xr 0))), (x 11, .inl (cA 0, 12, .inl (xr 1))), (x 12, .inl (cA 0, 12, .inl (xr 2))), (x 13, .inl (cA 0, 48, .inl (xr 3))), cE y yv, (y 7, .inl (cA 0, 4, .inl (yd 6))), (y 8, .inl (cA 0, 4, .inl (yd 7))), (y 9, .inr (3, [.ref (y 10), .ref (y 11), .ref (y 12), .ref (y 13), .int (nI yf), .int (nI QY.1)])), (y 10, .inl (cA 0, 12, .inl (yr 0))), (y 11, .inl (cA 0, 12, .inl (yr 1))), (y 12, .inl (cA 0, 12, .inl (yr 2))), (y 13, .inl (cA 0, 48, .inl (yr 3))), (ln, .inr (0, [.ref vb'_39, .int 0, .int ml'_39, .int (nI ((lnT sy (yd 6) 4).length))])), (ca, .inl (cA 0, 3, .inl cc)), (vb'_39, .inl (cA 2, nb'_39, .inl g'_39))]) [17, 0, 1, 2, 3, 4, 5, 6, 7, 18, 19, 8, 9, 10, 11, 12, 13, 14, 15, 16] (by decide) rfl
                                              clear hPc hDc hFc hP1 hD1 hk1 hz1
                                              have hw_152 := hw
                                              obtain rfl := hw
                                              by_cases hgr : sy = 2 ∨ sy = 4
                                              · refine z_top (y := yd 6 j) (gr_y hy0 hgr) ?_
                                                refine z_top (y := (nI va)) hva ?_
                                                refine lv_iload hx hb dL_isWire_209 (lv_at hl 4 rfl) ?_
                                                refine lv_iconst (v := 2) hx hb dL_isWire_211 (by decide) ?_
                                                refine lv_icmp_eq (tgt := 221) hx hb dL_isWire_212 (by decide) (fun c_153 => ?_) (fun c_153 => ?_)
                                                · have c_153 := (nI_eq (a := sy) (b := 2) (by omega) (by omega)).mp c_153
                                                  refine lv_iload hx hb dL_isWire_221 (lv_at hl 1 rfl) ?_
                                                  refine lv_goto (tgt := 227) hx hb dL_isWire_223 (by decide) ?_
                                                  refine lv_icmp_ne (tgt := 265) hx hb dL_isWire_227 (by decide) (fun c_154 => absurd rfl c_154) (fun _ => ?_)
                                                  refine lv_iload hx hb dL_isWire_230 (lv_at hl 0 rfl) ?_
                                                  refine lv_iconst (v := (-1)) hx hb dL_isWire_232 (by decide) ?_
                                                  refine lv_icmp_lt (tgt := 265) hx hb dL_isWire_233 (by decide) (fun c_155 => absurd c_155 (nneg_lt (by omega) (by decide))) (fun _ => ?_)
                                                  refine lv_iload hx hb dL_isWire_236 (lv_at hl 0 rfl) ?_
                                                  refine lv_bipush (v := 100) hx hb dL_isWire_238 (by decide) ?_
                                                  refine lv_icmp_gt (tgt := 265) hx hb dL_isWire_240 (by decide) (fun c_156 => ?_) (fun c_156 => ?_)
                                                  · have c_156 := (nI_ltI (a := 100) (b := vl) (by omega) (by omega)).mp c_156
                                                    refine lv_iconst (v := 0) hx hb dL_isWire_265 (by decide) ?_
                                                    exfalso; omega
                                                  · have c_156 := mt (nI_ltI (a := 100) (b := vl) (by omega) (by omega)).mpr c_156
                                                    refine lv_iload hx hb dL_isWire_243 (lv_at hl 0 rfl) ?_
                                                    refine lv_iconst (v := (-1)) hx hb dL_isWire_245 (by decide) ?_
                                                    refine lv_icmp_eq (tgt := 261) hx hb dL_isWire_246 (by decide) (fun c_157 => absurd c_157 (nneg_eq (by omega) (by decide))) (fun _ => ?_)
                                                    refine lv_iload hx hb dL_isWire_249 (lv_at hl 4 rfl) ?_
                                                    refine lv_iconst (v := 3) hx hb dL_isWire_251 (by decide) ?_
                                                    refine lv_icmp_eq (tgt := 261) hx hb dL_isWire_252 (by decide) (fun c_158 => ?_) (fun c_158 => ?_)
                                                    · have c_158 := (nI_eq (a := sy) (b := 3) (by omega) (by omega)).mp c_158
                                                      exact absurd (c_153.symm.trans c_158) (by decide)
                                                    · have c_158 := mt (nI_eq (a := sy) (b := 3) (by omega) (by omega)).mpr c_158
                                                      refine lv_iload hx hb dL_isWire_255 (lv_at hl 4 rfl) ?_
                                                      refine lv_iconst (v := 4) hx hb dL_isWire_257 (by decide) ?_
                                                      refine lv_icmp_ne (tgt := 265) hx hb dL_isWire_258 (by decide) (fun c_159 => ?_) (fun c_159 => ?_)
                                                      · have c_159 := mt (nI_eq (a := sy) (b := 4) (by omega) (by omega)).mpr c_159
                                                        refine lv_iconst (v := 0) hx hb dL_isWire_265 (by decide) ?_
                                                        exfalso; omega
                                                      · have c_159 := (nI_eq (a := sy) (b := 4) (by omega) (by omega)).mp c_159
                                                        exact absurd (c_153.symm.trans c_159) (by decide)
                                                · have c_153 := mt (nI_eq (a := sy) (b := 2) (by omega) (by omega)).mpr c_153
                                                  refine lv_iload hx hb dL_isWire_215 (lv_at hl 4 rfl) ?_
                                                  refine lv_iconst (v := 4) hx hb dL_isWire_217 (by decide) ?_
                                                  refine lv_icmp_ne (tgt := 226) hx hb dL_isWire_218 (by decide) (fun c_160 => ?_) (fun c_160 => ?_)
                                                  · have c_160 := mt (nI_eq (a := sy) (b := 4) (by omega) (by omega)).mpr c_160
                                                    omega
                                                  · have c_160 := (nI_eq (a := sy) (b := 4) (by omega) (by omega)).mp c_160
                                                    refine lv_iload hx hb dL_isWire_221 (lv_at hl 1 rfl) ?_
                                                    refine lv_goto (tgt := 227) hx hb dL_isWire_223 (by decide) ?_
                                                    refine lv_icmp_ne (tgt := 265) hx hb dL_isWire_227 (by decide) (fun c_161 => absurd rfl c_161) (fun _ => ?_)
                                                    refine lv_iload hx hb dL_isWire_230 (lv_at hl 0 rfl) ?_
                                                    refine lv_iconst (v := (-1)) hx hb dL_isWire_232 (by decide) ?_
                                                    refine lv_icmp_lt (tgt := 265) hx hb dL_isWire_233 (by decide) (fun c_162 => absurd c_162 (nneg_lt (by omega) (by decide))) (fun _ => ?_)
                                                    refine lv_iload hx hb dL_isWire_236 (lv_at hl 0 rfl) ?_
                                                    refine lv_bipush (v := 100) hx hb dL_isWire_238 (by decide) ?_
                                                    refine lv_icmp_gt (tgt := 265) hx hb dL_isWire_240 (by decide) (fun c_163 => ?_) (fun c_163 => ?_)
                                                    · have c_163 := (nI_ltI (a := 100) (b := vl) (by omega) (by omega)).mp c_163
                                                      refine lv_iconst (v := 0) hx hb dL_isWire_265 (by decide) ?_
                                                      exfalso; omega
                                                    · have c_163 := mt (nI_ltI (a := 100) (b := vl) (by omega) (by omega)).mpr c_163
                                                      refine lv_iload hx hb dL_isWire_243 (lv_at hl 0 rfl) ?_
                                                      refine lv_iconst (v := (-1)) hx hb dL_isWire_245 (by decide) ?_
                                                      refine lv_icmp_eq (tgt := 261) hx hb dL_isWire_246 (by decide) (fun c_164 => absurd c_164 (nneg_eq (by omega) (by decide))) (fun _ => ?_)
                                                      refine lv_iload hx hb dL_isWire_249 (lv_at hl 4 rfl) ?_
                                                      refine lv_iconst (v := 3) hx hb dL_isWire_251 (by decide) ?_
                                                      refine lv_icmp_eq (tgt := 261) hx hb dL_isWire_252 (by decide) (fun c_165 => ?_) (fun c_165 => ?_)
                                                      · have c_165 := (nI_eq (a := sy) (b := 3) (by omega) (by omega)).mp c_165
                                                        exact absurd (c_160.symm.trans c_165) (by decide)
                                                      · have c_165 := mt (nI_eq (a := sy) (b := 3) (by omega) (by omega)).mpr c_165
                                                        refine lv_iload hx hb dL_isWire_255 (lv_at hl 4 rfl) ?_
                                                        refine lv_iconst (v := 4) hx hb dL_isWire_257 (by decide) ?_
                                                        refine lv_icmp_ne (tgt := 265) hx hb dL_isWire_258 (by decide) (fun c_166 => ?_) (fun c_166 => ?_)
                                                        · have c_166 := mt (nI_eq (a := sy) (b := 4) (by omega) (by omega)).mpr c_166
                                                          exact absurd c_160 c_166
                                                        · have c_166 := (nI_eq (a := sy) (b := 4) (by omega) (by omega)).mp c_166
                                                          refine lv_iconst (v := 1) hx hb dL_isWire_261 (by decide) ?_
                                                          refine lv_goto (tgt := 266) hx hb dL_isWire_262 (by decide) ?_
                                                          exact kJ _ _ _ _ ⟨rfl, hP, hD, hS, lv_sub hl [2, 3, 4, 5, 6, 7] rfl⟩
                                              · skip
                                                refine z_top (y := (-1)) (gr_n hy0 hy7 hgr) ?_
                                                refine lv_iload hx hb dL_isWire_209 (lv_at hl 4 rfl) ?_
                                                refine lv_iconst (v := 2) hx hb dL_isWire_211 (by decide) ?_
                                                refine lv_icmp_eq (tgt := 221) hx hb dL_isWire_212 (by decide) (fun c_167 => ?_) (fun c_167 => ?_)
                                                · have c_167 := (nI_eq (a := sy) (b := 2) (by omega) (by omega)).mp c_167
                                                  omega
                                                · have c_167 := mt (nI_eq (a := sy) (b := 2) (by omega) (by omega)).mpr c_167
                                                  refine lv_iload hx hb dL_isWire_215 (lv_at hl 4 rfl) ?_
                                                  refine lv_iconst (v := 4) hx hb dL_isWire_217 (by decide) ?_
                                                  refine lv_icmp_ne (tgt := 226) hx hb dL_isWire_218 (by decide) (fun c_168 => ?_) (fun c_168 => ?_)
                                                  · have c_168 := mt (nI_eq (a := sy) (b := 4) (by omega) (by omega)).mpr c_168
                                                    refine lv_iconst (v := (-1)) hx hb dL_isWire_226 (by decide) ?_
                                                    refine lv_icmp_ne (tgt := 265) hx hb dL_isWire_227 (by decide) (fun c_169 => absurd c_169 (by decide)) (fun _ => ?_)
                                                    refine lv_iload hx hb dL_isWire_230 (lv_at hl 0 rfl) ?_
                                                    refine lv_iconst (v := (-1)) hx hb dL_isWire_232 (by decide) ?_
                                                    refine lv_icmp_lt (tgt := 265) hx hb dL_isWire_233 (by decide) (fun c_170 => absurd c_170 (nneg_lt (by omega) (by decide))) (fun _ => ?_)
                                                    refine lv_iload hx hb dL_isWire_236 (lv_at hl 0 rfl) ?_
                                                    refine lv_bipush (v := 100) hx hb dL_isWire_238 (by decide) ?_
                                                    refine lv_icmp_gt (tgt := 265) hx hb dL_isWire_240 (by decide) (fun c_171 => ?_) (fun c_171 => ?_)
                                                    · have c_171 := (nI_ltI (a := 100) (b := vl) (by omega) (by omega)).mp c_171
                                                      refine lv_iconst (v := 0) hx hb dL_isWire_265 (by decide) ?_
                                                      exfalso; omega
                                                    · have c_171 := mt (nI_ltI (a := 100) (b := vl) (by omega) (by omega)).mpr c_171
                                                      refine lv_iload hx hb dL_isWire_243 (lv_at hl 0 rfl) ?_
                                                      refine lv_iconst (v := (-1)) hx hb dL_isWire_245 (by decide) ?_
                                                      refine lv_icmp_eq (tgt := 261) hx hb dL_isWire_246 (by decide) (fun c_172 => absurd c_172 (nneg_eq (by omega) (by decide))) (fun _ => ?_)
                                                      refine lv_iload hx hb dL_isWire_249 (lv_at hl 4 rfl) ?_
                                                      refine lv_iconst (v := 3) hx hb dL_isWire_251 (by decide) ?_
                                                      refine lv_icmp_eq (tgt := 261) hx hb dL_isWire_252 (by decide) (fun c_173 => ?_) (fun c_173 => ?_)
                                                      · have c_173 := (nI_eq (a := sy) (b := 3) (by omega) (by omega)).mp c_173
                                                        refine lv_iconst (v := 1) hx hb dL_isWire_261 (by decide) ?_
                                                        refine lv_goto (tgt := 266) hx hb dL_isWire_262 (by decide) ?_
                                                        exact kJ _ _ _ _ ⟨rfl, hP, hD, hS, lv_sub hl [2, 3, 4, 5, 6, 7] rfl⟩
                                                      · have c_173 := mt (nI_eq (a := sy) (b := 3) (by omega) (by omega)).mpr c_173
                                                        refine lv_iload hx hb dL_isWire_255 (lv_at hl 4 rfl) ?_
                                                        refine lv_iconst (v := 4) hx hb dL_isWire_257 (by decide) ?_
                                                        refine lv_icmp_ne (tgt := 265) hx hb dL_isWire_258 (by decide) (fun c_174 => ?_) (fun c_174 => ?_)
                                                        · have c_174 := mt (nI_eq (a := sy) (b := 4) (by omega) (by omega)).mpr c_174
                                                          refine lv_iconst (v := 0) hx hb dL_isWire_265 (by decide) ?_
                                                          exfalso; omega
                                                        · have c_174 := (nI_eq (a := sy) (b := 4) (by omega) (by omega)).mp c_174
                                                          exact absurd c_174 c_168
                                                  · have c_168 := (nI_eq (a := sy) (b := 4) (by omega) (by omega)).mp c_168
                                                    omega
                                        · skip
                                          refine z_top (y := (-1)) (al_n hy0 hy7 hal) ?_
                                          refine lv_istore (lv' := [(7, .int (-1)), (6, .int (nI va)), (5, .int (nI j)), (2, .int 1), (4, .int (nI sy)), (3, .int 1), (0, .ref o), (1, .ref ca)]) hx hb dL_isWire_187 hl (by decide) rfl (fun ls hl => ?_)
                                          refine lv_iload hx hb dL_isWire_189 (lv_at hl 1 rfl) ?_
                                          refine lv_iconst (v := (-1)) hx hb dL_isWire_191 (by decide) ?_
                                          refine lv_icmp_lt (tgt := 265) hx hb dL_isWire_192 (by decide) (fun c_175 => absurd c_175 (nneg_lt (by omega) (by decide))) (fun _ => ?_)
                                          refine lv_iload hx hb dL_isWire_195 (lv_at hl 1 rfl) ?_
                                          refine lv_bipush (v := 100) hx hb dL_isWire_197 (by decide) ?_
                                          refine lv_icmp_gt (tgt := 265) hx hb dL_isWire_199 (by decide) (fun c_176 => ?_) (fun c_176 => ?_)
                                          · have c_176 := (nI_ltI (a := 100) (b := va) (by omega) (by omega)).mp c_176
                                            refine lv_iconst (v := 0) hx hb dL_isWire_265 (by decide) ?_
                                            exfalso; omega
                                          · have c_176 := mt (nI_ltI (a := 100) (b := va) (by omega) (by omega)).mpr c_176
                                            refine lv_aload_n hx hb dL_isWire_202 rfl (lv_at hl 6 rfl) ?_
                                            refine lv_iload_n hx hb dL_isWire_203 rfl (lv_at hl 5 rfl) ?_
                                            refine lv_iload hx hb dL_isWire_204 (lv_at hl 2 rfl) ?_
                                            have hPc := hP.sub (ws' := [(o, .inr (4, [.ref F, .ref G, .int lo, .int nw, .int se, .ref (pa 0), .ref an, .ref ln])), cE y yv, (y 7, .inl (cA 0, 4, .inl (yd 6)))]) [0, 9, 10] rfl
                                            have hDc := hD.sub (ws' := [(o, .inr (4, [.ref F, .ref G, .int lo, .int nw, .int se, .ref (pa 0), .ref an, .ref ln])), cE y yv, (y 7, .inl (cA 0, 4, .inl (yd 6)))]) [0, 9, 10] (by decide) rfl
                                            have hFc := va_free (wc := [(o, .inr (4, [.ref F, .ref G, .int lo, .int nw, .int se, .ref (pa 0), .ref an, .ref ln])), cE y yv, (y 7, .inl (cA 0, 4, .inl (yd 6)))]) hD hS hA [0, 9, 10] rfl
                                            refine va_calli (va_runV (As := [.int 1, .int (nI j)]) (rest := []) ⟨hx, hb, hml, hown, hts⟩ (c_X3_granted_k l D cA H.size o F G lo nw se pa an ln y (x 0) 1 yv j (yd 6) (by first | exact he | exact en_flip he | exact en_01 he | exact en_10 he) (by omega)) (cwV 2 hts gL_isWire_X3_granted rfl rfl rfl (by decide +kernel) ⟨Nat.le_of_ble_eq_true rfl, Nat.le_of_ble_eq_true rfl⟩) ⟨zU_blind, va_recv hK hPc (ci := 4) (q0 := 0) rfl rfl, fun U hU hW => ⟨rfl, zU_call hU hPc hW.alike hK hDc⟩⟩ rfl rfl hl.1 rfl (lv_room (Nat.le_of_ble_eq_true rfl)) dL_isWire_206 ⟨Nat.le_of_ble_eq_true rfl, Nat.le_of_ble_eq_true rfl⟩) hS (fun q _ h => hFc q h) hFc (fun zr u t H1 locs ht hvm hw hB hz1 hk1 hS => ?_)
                                            obtain ⟨hP1, hD1⟩ := hB
                                            rw [ht] at hP1
                                            obtain ⟨hP, hD⟩ := va_join (wr := [cE x xv, (x 7, .inl (cA 0, 4, .inl (xd 6))), (x 8, .inl (cA 0, 4, .inl (xd 7))), (x 9, .inr (3, [.ref (x 10), .ref (x 11), .ref (x 12), .ref (x 13), .int (nI xf), .int (nI QX.1)])), (x 10, .inl (cA 0, 12, .inl (xr 0))), (x 11, .inl (cA 0, 12, .inl (xr 1))), (x 12, .inl (cA 0, 12, .inl (xr 2))), (x 13, .inl (cA 0, 48, .inl (xr 3))), (y 8, .inl (cA 0, 4, .inl (yd 7))), (y 9, .inr (3, [.ref (y 10), .ref (y 11), .ref (y 12), .ref (y 13), .int (nI yf), .int (nI QY.1)])), (y 10, .inl (cA 0, 12, .inl (yr 0))), (y 11, .inl (cA 0, 12, .inl (yr 1))), (y 12, .inl (cA 0, 12, .inl (yr 2))), (y 13, .inl (cA 0, 48, .inl (yr 3))), (ln, .inr (0, [.ref vb'_39, .int 0, .int ml'_39, .int (nI ((lnT sy (yd 6) 4).length))])), (ca, .inl (cA 0, 3, .inl cc)), (vb'_39, .inl (cA 2, nb'_39, .inl g'_39))]) (w1 := [(o, .inr (4, [.ref F, .ref G, .int lo, .int nw, .int se, .ref (pa 0), .ref an, .ref ln])), cE y yv, (y 7, .inl (cA 0, 4, .inl (yd 6)))]) hP hD [0, 9, 10] [1, 2, 3, 4, 5, 6, 7, 8, 11, 12, 13, 14, 15, 16, 17, 18, 19] rfl rfl (by decide) (by decide) hk1 hFc hP1 hD1
                                            generalize H1 = H at hP hS ⊢
                                            have hP := hP.sub (ws' := [(o, .inr (4, [.ref F, .ref G, .int lo, .int nw, .int se, .ref (pa 0), .ref an, .ref ln])), cE x xv, (x 7, .inl (cA 0, 4, .inl (xd 6))), (x 8, .inl (cA 0, 4, .inl (xd 7))), (x 9, .inr (3, [.ref (x 10), .ref (x 11), .ref (x 12), .ref (x 13), .int (nI xf), .int (nI QX.1)])), (x 10, .inl (cA 0, 12, .inl (xr 0))), (x 11, .inl (cA 0, 12, .inl (xr 1))), (x 12, .inl (cA 0, 12, .inl (xr 2))), (x 13, .inl (cA 0, 48, .inl (xr 3))), cE y yv, (y 7, .inl (cA 0, 4, .inl (yd 6))), (y 8, .inl (cA 0, 4, .inl (yd 7))), (y 9, .inr (3, [.ref (y 10), .ref (y 11), .ref (y 12), .ref (y 13), .int (nI yf), .int (nI QY.1)])), (y 10, .inl (cA 0, 12, .inl (yr 0))), (y 11, .inl (cA 0, 12, .inl (yr 1))), (y 12, .inl (cA 0, 12, .inl (yr 2))), (y 13, .inl (cA 0, 48, .inl (yr 3))), (ln, .inr (0, [.ref vb'_39, .int 0, .int ml'_39, .int (nI ((lnT sy (yd 6) 4).length))])), (ca, .inl (cA 0, 3, .inl cc)), (vb'_39, .inl (cA 2, nb'_39, .inl g'_39))]) [17, 0, 1, 2, 3, 4, 5, 6, 7, 18, 19, 8, 9, 10, 11, 12, 13, 14, 15, 16] rfl
                                            have hD := hD.sub (ws' := [(o, .inr (4, [.ref F, .ref G, .int lo, .int nw, .int se, .ref (pa 0), .ref an, .ref ln])), cE x xv, (x 7, .inl (cA 0, 4, .inl (xd 6))), (x 8, .inl (cA 0, 4, .inl (xd 7))), (x 9, .inr (3, [.ref (x 10), .ref (x 11), .ref (x 12), .ref (x 13), .int (nI xf), .int (nI QX.1)])), (x 10, .inl (cA 0, 12, .inl (xr 0))), (x 11, .inl (cA 0, 12, .inl (xr 1))), (x 12, .inl (cA 0, 12, .inl (xr 2))), (x 13, .inl (cA 0, 48, .inl (xr 3))), cE y yv, (y 7, .inl (cA 0, 4, .inl (yd 6))), (y 8, .inl (cA 0, 4, .inl (yd 7))), (y 9, .inr (3, [.ref (y 10), .ref (y 11), .ref (y 12), .ref (y 13), .int (nI yf), .int (nI QY.1)])), (y 10, .inl (cA 0, 12, .inl (yr 0))), (y 11, .inl (cA 0, 12, .inl (yr 1))), (y 12, .inl (cA 0, 12, .inl (yr 2))), (y 13, .inl (cA 0, 48, .inl (yr 3))), (ln, .inr (0, [.ref vb'_39, .int 0, .int ml'_39, .int (nI ((lnT sy (yd 6) 4).length))])), (ca, .inl (cA 0, 3, .inl cc)), (vb'_39, .inl (cA 2, nb'_39, .inl g'_39))]) [17, 0, 1, 2, 3, 4, 5, 6, 7, 18, 19, 8, 9, 10, 11, 12, 13, 14, 15, 16] (by decide) rfl
                                            clear hPc hDc hFc hP1 hD1 hk1 hz1
                                            have hw_177 := hw
                                            obtain rfl := hw
                                            by_cases hgr : sy = 2 ∨ sy = 4
                                            · refine z_top (y := yd 6 j) (gr_y hy0 hgr) ?_
                                              refine z_top (y := (nI va)) hva ?_
                                              refine lv_iload hx hb dL_isWire_209 (lv_at hl 4 rfl) ?_
                                              refine lv_iconst (v := 2) hx hb dL_isWire_211 (by decide) ?_
                                              refine lv_icmp_eq (tgt := 221) hx hb dL_isWire_212 (by decide) (fun c_178 => ?_) (fun c_178 => ?_)
                                              · have c_178 := (nI_eq (a := sy) (b := 2) (by omega) (by omega)).mp c_178
                                                refine lv_iload hx hb dL_isWire_221 (lv_at hl 1 rfl) ?_
                                                refine lv_goto (tgt := 227) hx hb dL_isWire_223 (by decide) ?_
                                                refine lv_icmp_ne (tgt := 265) hx hb dL_isWire_227 (by decide) (fun c_179 => absurd rfl c_179) (fun _ => ?_)
                                                refine lv_iload hx hb dL_isWire_230 (lv_at hl 0 rfl) ?_
                                                refine lv_iconst (v := (-1)) hx hb dL_isWire_232 (by decide) ?_
                                                refine lv_icmp_lt (tgt := 265) hx hb dL_isWire_233 (by decide) (fun c_180 => absurd c_180 (by decide)) (fun _ => ?_)
                                                refine lv_iload hx hb dL_isWire_236 (lv_at hl 0 rfl) ?_
                                                refine lv_bipush (v := 100) hx hb dL_isWire_238 (by decide) ?_
                                                refine lv_icmp_gt (tgt := 265) hx hb dL_isWire_240 (by decide) (fun c_181 => absurd c_181 (by decide)) (fun _ => ?_)
                                                refine lv_iload hx hb dL_isWire_243 (lv_at hl 0 rfl) ?_
                                                refine lv_iconst (v := (-1)) hx hb dL_isWire_245 (by decide) ?_
                                                refine lv_icmp_eq (tgt := 261) hx hb dL_isWire_246 (by decide) (fun _ => ?_) (fun c_182 => absurd c_182 (by decide))
                                                refine lv_iconst (v := 1) hx hb dL_isWire_261 (by decide) ?_
                                                refine lv_goto (tgt := 266) hx hb dL_isWire_262 (by decide) ?_
                                                exact kJ _ _ _ _ ⟨rfl, hP, hD, hS, lv_sub hl [2, 3, 4, 5, 6, 7] rfl⟩
                                              · have c_178 := mt (nI_eq (a := sy) (b := 2) (by omega) (by omega)).mpr c_178
                                                refine lv_iload hx hb dL_isWire_215 (lv_at hl 4 rfl) ?_
                                                refine lv_iconst (v := 4) hx hb dL_isWire_217 (by decide) ?_
                                                refine lv_icmp_ne (tgt := 226) hx hb dL_isWire_218 (by decide) (fun c_183 => ?_) (fun c_183 => ?_)
                                                · have c_183 := mt (nI_eq (a := sy) (b := 4) (by omega) (by omega)).mpr c_183
                                                  omega
                                                · have c_183 := (nI_eq (a := sy) (b := 4) (by omega) (by omega)).mp c_183
                                                  refine lv_iload hx hb dL_isWire_221 (lv_at hl 1 rfl) ?_
                                                  refine lv_goto (tgt := 227) hx hb dL_isWire_223 (by decide) ?_
                                                  refine lv_icmp_ne (tgt := 265) hx hb dL_isWire_227 (by decide) (fun c_184 => absurd rfl c_184) (fun _ => ?_)
                                                  refine lv_iload hx hb dL_isWire_230 (lv_at hl 0 rfl) ?_
                                                  refine lv_iconst (v := (-1)) hx hb dL_isWire_232 (by decide) ?_
                                                  refine lv_icmp_lt (tgt := 265) hx hb dL_isWire_233 (by decide) (fun c_185 => absurd c_185 (by decide)) (fun _ => ?_)
                                                  refine lv_iload hx hb dL_isWire_236 (lv_at hl 0 rfl) ?_
                                                  refine lv_bipush (v := 100) hx hb dL_isWire_238 (by decide) ?_
                                                  refine lv_icmp_gt (tgt := 265) hx hb dL_isWire_240 (by decide) (fun c_186 => absurd c_186 (by decide)) (fun _ => ?_)
                                                  refine lv_iload hx hb dL_isWire_243 (lv_at hl 0 rfl) ?_
                                                  refine lv_iconst (v := (-1)) hx hb dL_isWire_245 (by decide) ?_
                                                  refine lv_icmp_eq (tgt := 261) hx hb dL_isWire_246 (by decide) (fun _ => ?_) (fun c_187 => absurd c_187 (by decide))
                                                  refine lv_iconst (v := 1) hx hb dL_isWire_261 (by decide) ?_
                                                  refine lv_goto (tgt := 266) hx hb dL_isWire_262 (by decide) ?_
                                                  exact kJ _ _ _ _ ⟨rfl, hP, hD, hS, lv_sub hl [2, 3, 4, 5, 6, 7] rfl⟩
                                            · skip
                                              refine z_top (y := (-1)) (gr_n hy0 hy7 hgr) ?_
                                              refine lv_iload hx hb dL_isWire_209 (lv_at hl 4 rfl) ?_
                                              refine lv_iconst (v := 2) hx hb dL_isWire_211 (by decide) ?_
                                              refine lv_icmp_eq (tgt := 221) hx hb dL_isWire_212 (by decide) (fun c_188 => ?_) (fun c_188 => ?_)
                                              · have c_188 := (nI_eq (a := sy) (b := 2) (by omega) (by omega)).mp c_188
                                                omega
                                              · have c_188 := mt (nI_eq (a := sy) (b := 2) (by omega) (by omega)).mpr c_188
                                                refine lv_iload hx hb dL_isWire_215 (lv_at hl 4 rfl) ?_
                                                refine lv_iconst (v := 4) hx hb dL_isWire_217 (by decide) ?_
                                                refine lv_icmp_ne (tgt := 226) hx hb dL_isWire_218 (by decide) (fun c_189 => ?_) (fun c_189 => ?_)
                                                · have c_189 := mt (nI_eq (a := sy) (b := 4) (by omega) (by omega)).mpr c_189
                                                  refine lv_iconst (v := (-1)) hx hb dL_isWire_226 (by decide) ?_
                                                  refine lv_icmp_ne (tgt := 265) hx hb dL_isWire_227 (by decide) (fun c_190 => absurd c_190 (by decide)) (fun _ => ?_)
                                                  refine lv_iload hx hb dL_isWire_230 (lv_at hl 0 rfl) ?_
                                                  refine lv_iconst (v := (-1)) hx hb dL_isWire_232 (by decide) ?_
                                                  refine lv_icmp_lt (tgt := 265) hx hb dL_isWire_233 (by decide) (fun c_191 => absurd c_191 (by decide)) (fun _ => ?_)
                                                  refine lv_iload hx hb dL_isWire_236 (lv_at hl 0 rfl) ?_
                                                  refine lv_bipush (v := 100) hx hb dL_isWire_238 (by decide) ?_
                                                  refine lv_icmp_gt (tgt := 265) hx hb dL_isWire_240 (by decide) (fun c_192 => absurd c_192 (by decide)) (fun _ => ?_)
                                                  refine lv_iload hx hb dL_isWire_243 (lv_at hl 0 rfl) ?_
                                                  refine lv_iconst (v := (-1)) hx hb dL_isWire_245 (by decide) ?_
                                                  refine lv_icmp_eq (tgt := 261) hx hb dL_isWire_246 (by decide) (fun _ => ?_) (fun c_193 => absurd c_193 (by decide))
                                                  refine lv_iconst (v := 1) hx hb dL_isWire_261 (by decide) ?_
                                                  refine lv_goto (tgt := 266) hx hb dL_isWire_262 (by decide) ?_
                                                  exact kJ _ _ _ _ ⟨rfl, hP, hD, hS, lv_sub hl [2, 3, 4, 5, 6, 7] rfl⟩
                                                · have c_189 := (nI_eq (a := sy) (b := 4) (by omega) (by omega)).mp c_189
                                                  omega
                                · skip
                                  refine lv_iload_n hx hb dL_isWire_132 rfl (lv_at hl 0 rfl) ?_
                                  refine lv_if_eq (tgt := 156) hx hb dL_isWire_133 (by decide) (fun c_194 => absurd c_194 (by decide)) (fun _ => ?_)
                                  refine lv_iload hx hb dL_isWire_136 (lv_at hl 1 rfl) ?_
                                  refine lv_iconst (v := 4) hx hb dL_isWire_138 (by decide) ?_
                                  refine lv_icmp_ne (tgt := 152) hx hb dL_isWire_139 (by decide) (fun c_195 => ?_) (fun c_195 => ?_)
                                  · have c_195 := mt (nI_eq (a := sy) (b := 4) (by omega) (by omega)).mpr c_195
                                    refine lv_iconst (v := 1) hx hb dL_isWire_152 (by decide) ?_
                                    refine lv_goto (tgt := 157) hx hb dL_isWire_153 (by decide) ?_
                                    exact kJ _ _ _ _ ⟨rfl, hP, hD, hS, lv_sub hl [0, 1, 2, 3, 4, 5] rfl⟩
                                  · have c_195 := (nI_eq (a := sy) (b := 4) (by omega) (by omega)).mp c_195
                                    refine lv_aload_n hx hb dL_isWire_142 rfl (lv_at hl 4 rfl) ?_
                                    refine lv_iload_n hx hb dL_isWire_143 rfl (lv_at hl 2 rfl) ?_
                                    have hPc := hP.sub (ws' := [(o, .inr (4, [.ref F, .ref G, .int lo, .int nw, .int se, .ref (pa 0), .ref an, .ref ln])), cE y yv]) [0, 9] rfl
                                    have hDc := hD.sub (ws' := [(o, .inr (4, [.ref F, .ref G, .int lo, .int nw, .int se, .ref (pa 0), .ref an, .ref ln])), cE y yv]) [0, 9] (by decide) rfl
                                    have hFc := va_free (wc := [(o, .inr (4, [.ref F, .ref G, .int lo, .int nw, .int se, .ref (pa 0), .ref an, .ref ln])), cE y yv]) hD hS hA [0, 9] rfl
                                    refine va_calli (va_runV (As := [.int 1]) (rest := []) ⟨hx, hb, hml, hown, hts⟩ (c_X3_tries_k l D cA H.size o F G lo nw se pa an ln y (x 0) 1 yv (by first | exact he | exact en_flip he | exact en_01 he | exact en_10 he)) (cwV 1 hts gL_isWire_X3_tries rfl rfl rfl (by decide +kernel) ⟨Nat.le_of_ble_eq_true rfl, Nat.le_of_ble_eq_true rfl⟩) ⟨zU_blind, va_recv hK hPc (ci := 4) (q0 := 0) rfl rfl, fun U hU hW => ⟨rfl, zU_call hU hPc hW.alike hK hDc⟩⟩ rfl rfl hl.1 rfl (lv_room (Nat.le_of_ble_eq_true rfl)) dL_isWire_144 ⟨Nat.le_of_ble_eq_true rfl, Nat.le_of_ble_eq_true rfl⟩) hS (fun q _ h => hFc q h) hFc (fun zr u t H1 locs ht hvm hw hB hz1 hk1 hS => ?_)
                                    obtain ⟨hP1, hD1⟩ := hB
                                    rw [ht] at hP1
                                    obtain ⟨hP, hD⟩ := va_join (wr := [cE x xv, (x 7, .inl (cA 0, 4, .inl (xd 6))), (x 8, .inl (cA 0, 4, .inl (xd 7))), (x 9, .inr (3, [.ref (x 10), .ref (x 11), .ref (x 12), .ref (x 13), .int (nI xf), .int (nI QX.1)])), (x 10, .inl (cA 0, 12, .inl (xr 0))), (x 11, .inl (cA 0, 12, .inl (xr 1))), (x 12, .inl (cA 0, 12, .inl (xr 2))), (x 13, .inl (cA 0, 48, .inl (xr 3))), (y 7, .inl (cA 0, 4, .inl (yd 6))), (y 8, .inl (cA 0, 4, .inl (yd 7))), (y 9, .inr (3, [.ref (y 10), .ref (y 11), .ref (y 12), .ref (y 13), .int (nI yf), .int (nI QY.1)])), (y 10, .inl (cA 0, 12, .inl (yr 0))), (y 11, .inl (cA 0, 12, .inl (yr 1))), (y 12, .inl (cA 0, 12, .inl (yr 2))), (y 13, .inl (cA 0, 48, .inl (yr 3))), (ln, .inr (0, [.ref vb'_39, .int 0, .int ml'_39, .int (nI ((lnT sy (yd 6) 4).length))])), (ca, .inl (cA 0, 3, .inl cc)), (vb'_39, .inl (cA 2, nb'_39, .inl g'_39))]) (w1 := [(o, .inr (4, [.ref F, .ref G, .int lo, .int nw, .int se, .ref (pa 0), .ref an, .ref ln])), cE y yv]) hP hD [0, 9] [1, 2, 3, 4, 5, 6, 7, 8, 10, 11, 12, 13, 14, 15, 16, 17, 18, 19] rfl rfl (by decide) (by decide) hk1 hFc hP1 hD1
                                    generalize H1 = H at hP hS ⊢
                                    have hP := hP.sub (ws' := [(o, .inr (4, [.ref F, .ref G, .int lo, .int nw, .int se, .ref (pa 0), .ref an, .ref ln])), cE x xv, (x 7, .inl (cA 0, 4, .inl (xd 6))), (x 8, .inl (cA 0, 4, .inl (xd 7))), (x 9, .inr (3, [.ref (x 10), .ref (x 11), .ref (x 12), .ref (x 13), .int (nI xf), .int (nI QX.1)])), (x 10, .inl (cA 0, 12, .inl (xr 0))), (x 11, .inl (cA 0, 12, .inl (xr 1))), (x 12, .inl (cA 0, 12, .inl (xr 2))), (x 13, .inl (cA 0, 48, .inl (xr 3))), cE y yv, (y 7, .inl (cA 0, 4, .inl (yd 6))), (y 8, .inl (cA 0, 4, .inl (yd 7))), (y 9, .inr (3, [.ref (y 10), .ref (y 11), .ref (y 12), .ref (y 13), .int (nI yf), .int (nI QY.1)])), (y 10, .inl (cA 0, 12, .inl (yr 0))), (y 11, .inl (cA 0, 12, .inl (yr 1))), (y 12, .inl (cA 0, 12, .inl (yr 2))), (y 13, .inl (cA 0, 48, .inl (yr 3))), (ln, .inr (0, [.ref vb'_39, .int 0, .int ml'_39, .int (nI ((lnT sy (yd 6) 4).length))])), (ca, .inl (cA 0, 3, .inl cc)), (vb'_39, .inl (cA 2, nb'_39, .inl g'_39))]) [18, 0, 1, 2, 3, 4, 5, 6, 7, 19, 8, 9, 10, 11, 12, 13, 14, 15, 16, 17] rfl
                                    have hD := hD.sub (ws' := [(o, .inr (4, [.ref F, .ref G, .int lo, .int nw, .int se, .ref (pa 0), .ref an, .ref ln])), cE x xv, (x 7, .inl (cA 0, 4, .inl (xd 6))), (x 8, .inl (cA 0, 4, .inl (xd 7))), (x 9, .inr (3, [.ref (x 10), .ref (x 11), .ref (x 12), .ref (x 13), .int (nI xf), .int (nI QX.1)])), (x 10, .inl (cA 0, 12, .inl (xr 0))), (x 11, .inl (cA 0, 12, .inl (xr 1))), (x 12, .inl (cA 0, 12, .inl (xr 2))), (x 13, .inl (cA 0, 48, .inl (xr 3))), cE y yv, (y 7, .inl (cA 0, 4, .inl (yd 6))), (y 8, .inl (cA 0, 4, .inl (yd 7))), (y 9, .inr (3, [.ref (y 10), .ref (y 11), .ref (y 12), .ref (y 13), .int (nI yf), .int (nI QY.1)])), (y 10, .inl (cA 0, 12, .inl (yr 0))), (y 11, .inl (cA 0, 12, .inl (yr 1))), (y 12, .inl (cA 0, 12, .inl (yr 2))), (y 13, .inl (cA 0, 48, .inl (yr 3))), (ln, .inr (0, [.ref vb'_39, .int 0, .int ml'_39, .int (nI ((lnT sy (yd 6) 4).length))])), (ca, .inl (cA 0, 3, .inl cc)), (vb'_39, .inl (cA 2, nb'_39, .inl g'_39))]) [18, 0, 1, 2, 3, 4, 5, 6, 7, 19, 8, 9, 10, 11, 12, 13, 14, 15, 16, 17] (by decide) rfl
                                    clear hPc hDc hFc hP1 hD1 hk1 hz1
                                    have hw_196 := hw
                                    obtain rfl := hw
                                    refine z_top (y := (nI ty)) hy3 ?_
                                    refine lv_bipush (v := 10) hx hb dL_isWire_147 (by decide) ?_
                                    refine lv_icmp_ne (tgt := 156) hx hb dL_isWire_149 (by decide) (fun c_197 => ?_) (fun c_197 => ?_)
                                    · have c_197 := mt (nI_eq (a := ty) (b := 10) (by omega) (by omega)).mpr c_197
                                      refine lv_iconst (v := 0) hx hb dL_isWire_156 (by decide) ?_
                                      exfalso; omega
                                    · have c_197 := (nI_eq (a := ty) (b := 10) (by omega) (by omega)).mp c_197
                                      refine lv_iconst (v := 1) hx hb dL_isWire_152 (by decide) ?_
                                      refine lv_goto (tgt := 157) hx hb dL_isWire_153 (by decide) ?_
                                      exact kJ _ _ _ _ ⟨rfl, hP, hD, hS, lv_sub hl [0, 1, 2, 3, 4, 5] rfl⟩
                  · have c_25 := mt (nI_leI (a := QX.1) (b := j2) (by omega) (by omega)).mpr c_25
                    refine lv_iload_n hx hb dL_isWire_340 rfl (lv_at hl 1 rfl) ?_
                    refine lv_if_eq (tgt := 387) hx hb dL_isWire_341 (by decide) (fun c_198 => absurd c_198 (by decide)) (fun _ => ?_)
                    obtain ⟨kk, hkk5, hkk⟩ := (hI.2.2.1.1 j2 (by omega)).1
                    refine lv_aload_n hx hb dL_isWire_344 rfl (lv_at hl 4 rfl) ?_
                    refine lv_bipush (v := 7) hx hb dL_isWire_345 (by decide) ?_
                    refine lv_iload_n hx hb dL_isWire_347 rfl (lv_at hl 3 rfl) ?_
                    refine lv_iload hx hb dL_isWire_348 (lv_at hl 0 rfl) ?_
                    refine lv_iconst (v := 0) hx hb dL_isWire_350 (by decide) ?_
                    refine lv_iconst (v := 0) hx hb dL_isWire_351 (by decide) ?_
                    refine lv_iconst (v := 0) hx hb dL_isWire_352 (by decide) ?_
                    have hPc := hP.sub (ws' := [(o, .inr (4, [.ref F, .ref G, .int lo, .int nw, .int se, .ref (pa 0), .ref an, .ref ln])), cE x xv, (x 9, .inr (3, [.ref (x 10), .ref (x 11), .ref (x 12), .ref (x 13), .int (nI xf), .int (nI QX.1)])), (x 10, .inl (cA 0, 12, .inl (xr 0))), (x 11, .inl (cA 0, 12, .inl (xr 1))), (x 12, .inl (cA 0, 12, .inl (xr 2))), (x 13, .inl (cA 0, 48, .inl (xr 3)))]) [0, 1, 4, 5, 6, 7, 8] rfl
                    have hDc := hD.sub (ws' := [(o, .inr (4, [.ref F, .ref G, .int lo, .int nw, .int se, .ref (pa 0), .ref an, .ref ln])), cE x xv, (x 9, .inr (3, [.ref (x 10), .ref (x 11), .ref (x 12), .ref (x 13), .int (nI xf), .int (nI QX.1)])), (x 10, .inl (cA 0, 12, .inl (xr 0))), (x 11, .inl (cA 0, 12, .inl (xr 1))), (x 12, .inl (cA 0, 12, .inl (xr 2))), (x 13, .inl (cA 0, 48, .inl (xr 3)))]) [0, 1, 4, 5, 6, 7, 8] (by decide) rfl
                    have hFc := va_free (wc := [(o, .inr (4, [.ref F, .ref G, .int lo, .int nw, .int se, .ref (pa 0), .ref an, .ref ln])), cE x xv, (x 9, .inr (3, [.ref (x 10), .ref (x 11), .ref (x 12), .ref (x 13), .int (nI xf), .int (nI QX.1)])), (x 10, .inl (cA 0, 12, .inl (xr 0))), (x 11, .inl (cA 0, 12, .inl (xr 1))), (x 12, .inl (cA 0, 12, .inl (xr 2))), (x 13, .inl (cA 0, 48, .inl (xr 3)))]) hD hS hA [0, 1, 4, 5, 6, 7, 8] rfl
                    refine va_calli (vx_runSW (As := [.ref o, .int 7, .int 0, .int (nI j2), .int 0, .int 0, .int 0]) (rest := []) ⟨hx, hb, hml, hown, hts⟩ (c_asks_kind_k l D cA H.size o F G lo nw se pa an ln x (y 0) 0 xv xr xf QX j2 0 0 0 (by first | exact he | exact en_flip he | exact en_01 he | exact en_10 he) (by assumption) (by omega)) (vx_cwSW 7 hts gL_isWire_L_asks rfl rfl rfl (by decide +kernel) ⟨Nat.le_of_ble_eq_true rfl, Nat.le_of_ble_eq_true rfl⟩) ⟨zU_blind, fun U hU hW => ⟨rfl, zU_call hU hPc hW.alike hK hDc⟩⟩ rfl rfl hl.1 rfl (lv_room (Nat.le_of_ble_eq_true rfl)) dL_isWire_353 ⟨Nat.le_of_ble_eq_true rfl, Nat.le_of_ble_eq_true rfl⟩) hS (fun q _ h => hFc q h) hFc (fun zr u t H1 locs ht hvm hw hB hz1 hk1 hS => ?_)
                    obtain ⟨hP1, hD1⟩ := hB
                    rw [ht] at hP1
                    obtain ⟨hP, hD⟩ := va_join (wr := [(x 7, .inl (cA 0, 4, .inl (xd 6))), (x 8, .inl (cA 0, 4, .inl (xd 7))), cE y yv, (y 7, .inl (cA 0, 4, .inl (yd 6))), (y 8, .inl (cA 0, 4, .inl (yd 7))), (y 9, .inr (3, [.ref (y 10), .ref (y 11), .ref (y 12), .ref (y 13), .int (nI yf), .int (nI QY.1)])), (y 10, .inl (cA 0, 12, .inl (yr 0))), (y 11, .inl (cA 0, 12, .inl (yr 1))), (y 12, .inl (cA 0, 12, .inl (yr 2))), (y 13, .inl (cA 0, 48, .inl (yr 3))), (ln, .inr (0, [.ref vb'_16, .int 0, .int ml'_16, .int (nI ((lnT sx (xd 6) 4).length))])), (ca, .inl (cA 0, 3, .inl cc)), (vb'_16, .inl (cA 2, nb'_16, .inl g'_16))]) (w1 := [(o, .inr (4, [.ref F, .ref G, .int lo, .int nw, .int se, .ref (pa 0), .ref an, .ref ln])), cE x xv, (x 9, .inr (3, [.ref (x 10), .ref (x 11), .ref (x 12), .ref (x 13), .int (nI xf), .int (nI QX.1)])), (x 10, .inl (cA 0, 12, .inl (xr 0))), (x 11, .inl (cA 0, 12, .inl (xr 1))), (x 12, .inl (cA 0, 12, .inl (xr 2))), (x 13, .inl (cA 0, 48, .inl (xr 3)))]) hP hD [0, 1, 4, 5, 6, 7, 8] [2, 3, 9, 10, 11, 12, 13, 14, 15, 16, 17, 18, 19] rfl rfl (by decide) (by decide) hk1 hFc hP1 hD1
                    generalize H1 = H at hP hS ⊢
                    have hP := hP.sub (ws' := [(o, .inr (4, [.ref F, .ref G, .int lo, .int nw, .int se, .ref (pa 0), .ref an, .ref ln])), cE x xv, (x 7, .inl (cA 0, 4, .inl (xd 6))), (x 8, .inl (cA 0, 4, .inl (xd 7))), (x 9, .inr (3, [.ref (x 10), .ref (x 11), .ref (x 12), .ref (x 13), .int (nI xf), .int (nI QX.1)])), (x 10, .inl (cA 0, 12, .inl (xr 0))), (x 11, .inl (cA 0, 12, .inl (xr 1))), (x 12, .inl (cA 0, 12, .inl (xr 2))), (x 13, .inl (cA 0, 48, .inl (xr 3))), cE y yv, (y 7, .inl (cA 0, 4, .inl (yd 6))), (y 8, .inl (cA 0, 4, .inl (yd 7))), (y 9, .inr (3, [.ref (y 10), .ref (y 11), .ref (y 12), .ref (y 13), .int (nI yf), .int (nI QY.1)])), (y 10, .inl (cA 0, 12, .inl (yr 0))), (y 11, .inl (cA 0, 12, .inl (yr 1))), (y 12, .inl (cA 0, 12, .inl (yr 2))), (y 13, .inl (cA 0, 48, .inl (yr 3))), (ln, .inr (0, [.ref vb'_16, .int 0, .int ml'_16, .int (nI ((lnT sx (xd 6) 4).length))])), (ca, .inl (cA 0, 3, .inl cc)), (vb'_16, .inl (cA 2, nb'_16, .inl g'_16))]) [13, 14, 0, 1, 15, 16, 17, 18, 19, 2, 3, 4, 5, 6, 7, 8, 9, 10, 11, 12] rfl
                    have hD := hD.sub (ws' := [(o, .inr (4, [.ref F, .ref G, .int lo, .int nw, .int se, .ref (pa 0), .ref an, .ref ln])), cE x xv, (x 7, .inl (cA 0, 4, .inl (xd 6))), (x 8, .inl (cA 0, 4, .inl (xd 7))), (x 9, .inr (3, [.ref (x 10), .ref (x 11), .ref (x 12), .ref (x 13), .int (nI xf), .int (nI QX.1)])), (x 10, .inl (cA 0, 12, .inl (xr 0))), (x 11, .inl (cA 0, 12, .inl (xr 1))), (x 12, .inl (cA 0, 12, .inl (xr 2))), (x 13, .inl (cA 0, 48, .inl (xr 3))), cE y yv, (y 7, .inl (cA 0, 4, .inl (yd 6))), (y 8, .inl (cA 0, 4, .inl (yd 7))), (y 9, .inr (3, [.ref (y 10), .ref (y 11), .ref (y 12), .ref (y 13), .int (nI yf), .int (nI QY.1)])), (y 10, .inl (cA 0, 12, .inl (yr 0))), (y 11, .inl (cA 0, 12, .inl (yr 1))), (y 12, .inl (cA 0, 12, .inl (yr 2))), (y 13, .inl (cA 0, 48, .inl (yr 3))), (ln, .inr (0, [.ref vb'_16, .int 0, .int ml'_16, .int (nI ((lnT sx (xd 6) 4).length))])), (ca, .inl (cA 0, 3, .inl cc)), (vb'_16, .inl (cA 2, nb'_16, .inl g'_16))]) [13, 14, 0, 1, 15, 16, 17, 18, 19, 2, 3, 4, 5, 6, 7, 8, 9, 10, 11, 12] (by decide) rfl
                    clear hPc hDc hFc hP1 hD1 hk1 hz1
                    have hw_199 := hw
                    obtain rfl := hw
                    refine z_top (y := (nI kk)) hkk ?_
                    refine lv_if_lt (tgt := 379) hx hb dL_isWire_356 (by decide) (fun c_200 => ?_) (fun c_200 => ?_)
                    · have c_200 := (nI_ltI (a := kk) (b := 0) (by omega) (by omega)).mp c_200
                      omega
                    · have c_200 := mt (nI_ltI (a := kk) (b := 0) (by omega) (by omega)).mpr c_200
                      refine lv_aload_n hx hb dL_isWire_359 rfl (lv_at hl 4 rfl) ?_
                      refine lv_bipush (v := 7) hx hb dL_isWire_360 (by decide) ?_
                      refine lv_iload_n hx hb dL_isWire_362 rfl (lv_at hl 3 rfl) ?_
                      refine lv_iload hx hb dL_isWire_363 (lv_at hl 0 rfl) ?_
                      refine lv_iconst (v := 0) hx hb dL_isWire_365 (by decide) ?_
                      refine lv_iconst (v := 0) hx hb dL_isWire_366 (by decide) ?_
                      refine lv_iconst (v := 0) hx hb dL_isWire_367 (by decide) ?_
                      have hPc := hP.sub (ws' := [(o, .inr (4, [.ref F, .ref G, .int lo, .int nw, .int se, .ref (pa 0), .ref an, .ref ln])), cE x xv, (x 9, .inr (3, [.ref (x 10), .ref (x 11), .ref (x 12), .ref (x 13), .int (nI xf), .int (nI QX.1)])), (x 10, .inl (cA 0, 12, .inl (xr 0))), (x 11, .inl (cA 0, 12, .inl (xr 1))), (x 12, .inl (cA 0, 12, .inl (xr 2))), (x 13, .inl (cA 0, 48, .inl (xr 3)))]) [0, 1, 4, 5, 6, 7, 8] rfl
                      have hDc := hD.sub (ws' := [(o, .inr (4, [.ref F, .ref G, .int lo, .int nw, .int se, .ref (pa 0), .ref an, .ref ln])), cE x xv, (x 9, .inr (3, [.ref (x 10), .ref (x 11), .ref (x 12), .ref (x 13), .int (nI xf), .int (nI QX.1)])), (x 10, .inl (cA 0, 12, .inl (xr 0))), (x 11, .inl (cA 0, 12, .inl (xr 1))), (x 12, .inl (cA 0, 12, .inl (xr 2))), (x 13, .inl (cA 0, 48, .inl (xr 3)))]) [0, 1, 4, 5, 6, 7, 8] (by decide) rfl
                      have hFc := va_free (wc := [(o, .inr (4, [.ref F, .ref G, .int lo, .int nw, .int se, .ref (pa 0), .ref an, .ref ln])), cE x xv, (x 9, .inr (3, [.ref (x 10), .ref (x 11), .ref (x 12), .ref (x 13), .int (nI xf), .int (nI QX.1)])), (x 10, .inl (cA 0, 12, .inl (xr 0))), (x 11, .inl (cA 0, 12, .inl (xr 1))), (x 12, .inl (cA 0, 12, .inl (xr 2))), (x 13, .inl (cA 0, 48, .inl (xr 3)))]) hD hS hA [0, 1, 4, 5, 6, 7, 8] rfl
                      refine va_calli (vx_runSW (As := [.ref o, .int 7, .int 0, .int (nI j2), .int 0, .int 0, .int 0]) (rest := []) ⟨hx, hb, hml, hown, hts⟩ (c_asks_kind_k l D cA H.size o F G lo nw se pa an ln x (y 0) 0 xv xr xf QX j2 0 0 0 (by first | exact he | exact en_flip he | exact en_01 he | exact en_10 he) (by assumption) (by omega)) (vx_cwSW 7 hts gL_isWire_L_asks rfl rfl rfl (by decide +kernel) ⟨Nat.le_of_ble_eq_true rfl, Nat.le_of_ble_eq_true rfl⟩) ⟨zU_blind, fun U hU hW => ⟨rfl, zU_call hU hPc hW.alike hK hDc⟩⟩ rfl rfl hl.1 rfl (lv_room (Nat.le_of_ble_eq_true rfl)) dL_isWire_368 ⟨Nat.le_of_ble_eq_true rfl, Nat.le_of_ble_eq_true rfl⟩) hS (fun q _ h => hFc q h) hFc (fun zr u t H1 locs ht hvm hw hB hz1 hk1 hS => ?_)
                      obtain ⟨hP1, hD1⟩ := hB
                      rw [ht] at hP1
                      obtain ⟨hP, hD⟩ := va_join (wr := [(x 7, .inl (cA 0, 4, .inl (xd 6))), (x 8, .inl (cA 0, 4, .inl (xd 7))), cE y yv, (y 7, .inl (cA 0, 4, .inl (yd 6))), (y 8, .inl (cA 0, 4, .inl (yd 7))), (y 9, .inr (3, [.ref (y 10), .ref (y 11), .ref (y 12), .ref (y 13), .int (nI yf), .int (nI QY.1)])), (y 10, .inl (cA 0, 12, .inl (yr 0))), (y 11, .inl (cA 0, 12, .inl (yr 1))), (y 12, .inl (cA 0, 12, .inl (yr 2))), (y 13, .inl (cA 0, 48, .inl (yr 3))), (ln, .inr (0, [.ref vb'_16, .int 0, .int ml'_16, .int (nI ((lnT sx (xd 6) 4).length))])), (ca, .inl (cA 0, 3, .inl cc)), (vb'_16, .inl (cA 2, nb'_16, .inl g'_16))]) (w1 := [(o, .inr (4, [.ref F, .ref G, .int lo, .int nw, .int se, .ref (pa 0), .ref an, .ref ln])), cE x xv, (x 9, .inr (3, [.ref (x 10), .ref (x 11), .ref (x 12), .ref (x 13), .int (nI xf), .int (nI QX.1)])), (x 10, .inl (cA 0, 12, .inl (xr 0))), (x 11, .inl (cA 0, 12, .inl (xr 1))), (x 12, .inl (cA 0, 12, .inl (xr 2))), (x 13, .inl (cA 0, 48, .inl (xr 3)))]) hP hD [0, 1, 4, 5, 6, 7, 8] [2, 3, 9, 10, 11, 12, 13, 14, 15, 16, 17, 18, 19] rfl rfl (by decide) (by decide) hk1 hFc hP1 hD1
                      generalize H1 = H at hP hS ⊢
                      have hP := hP.sub (ws' := [(o, .inr (4, [.ref F, .ref G, .int lo, .int nw, .int se, .ref (pa 0), .ref an, .ref ln])), cE x xv, (x 7, .inl (cA 0, 4, .inl (xd 6))), (x 8, .inl (cA 0, 4, .inl (xd 7))), (x 9, .inr (3, [.ref (x 10), .ref (x 11), .ref (x 12), .ref (x 13), .int (nI xf), .int (nI QX.1)])), (x 10, .inl (cA 0, 12, .inl (xr 0))), (x 11, .inl (cA 0, 12, .inl (xr 1))), (x 12, .inl (cA 0, 12, .inl (xr 2))), (x 13, .inl (cA 0, 48, .inl (xr 3))), cE y yv, (y 7, .inl (cA 0, 4, .inl (yd 6))), (y 8, .inl (cA 0, 4, .inl (yd 7))), (y 9, .inr (3, [.ref (y 10), .ref (y 11), .ref (y 12), .ref (y 13), .int (nI yf), .int (nI QY.1)])), (y 10, .inl (cA 0, 12, .inl (yr 0))), (y 11, .inl (cA 0, 12, .inl (yr 1))), (y 12, .inl (cA 0, 12, .inl (yr 2))), (y 13, .inl (cA 0, 48, .inl (yr 3))), (ln, .inr (0, [.ref vb'_16, .int 0, .int ml'_16, .int (nI ((lnT sx (xd 6) 4).length))])), (ca, .inl (cA 0, 3, .inl cc)), (vb'_16, .inl (cA 2, nb'_16, .inl g'_16))]) [13, 14, 0, 1, 15, 16, 17, 18, 19, 2, 3, 4, 5, 6, 7, 8, 9, 10, 11, 12] rfl
                      have hD := hD.sub (ws' := [(o, .inr (4, [.ref F, .ref G, .int lo, .int nw, .int se, .ref (pa 0), .ref an, .ref ln])), cE x xv, (x 7, .inl (cA 0, 4, .inl (xd 6))), (x 8, .inl (cA 0, 4, .inl (xd 7))), (x 9, .inr (3, [.ref (x 10), .ref (x 11), .ref (x 12), .ref (x 13), .int (nI xf), .int (nI QX.1)])), (x 10, .inl (cA 0, 12, .inl (xr 0))), (x 11, .inl (cA 0, 12, .inl (xr 1))), (x 12, .inl (cA 0, 12, .inl (xr 2))), (x 13, .inl (cA 0, 48, .inl (xr 3))), cE y yv, (y 7, .inl (cA 0, 4, .inl (yd 6))), (y 8, .inl (cA 0, 4, .inl (yd 7))), (y 9, .inr (3, [.ref (y 10), .ref (y 11), .ref (y 12), .ref (y 13), .int (nI yf), .int (nI QY.1)])), (y 10, .inl (cA 0, 12, .inl (yr 0))), (y 11, .inl (cA 0, 12, .inl (yr 1))), (y 12, .inl (cA 0, 12, .inl (yr 2))), (y 13, .inl (cA 0, 48, .inl (yr 3))), (ln, .inr (0, [.ref vb'_16, .int 0, .int ml'_16, .int (nI ((lnT sx (xd 6) 4).length))])), (ca, .inl (cA 0, 3, .inl cc)), (vb'_16, .inl (cA 2, nb'_16, .inl g'_16))]) [13, 14, 0, 1, 15, 16, 17, 18, 19, 2, 3, 4, 5, 6, 7, 8, 9, 10, 11, 12] (by decide) rfl
                      clear hPc hDc hFc hP1 hD1 hk1 hz1
                      have hw_201 := hw
                      obtain rfl := hw
                      refine z_top (y := (nI kk)) hkk ?_
                      refine lv_iconst (v := 5) hx hb dL_isWire_371 (by decide) ?_
                      refine lv_icmp_gt (tgt := 379) hx hb dL_isWire_372 (by decide) (fun c_202 => ?_) (fun c_202 => ?_)
                      · have c_202 := (nI_ltI (a := 5) (b := kk) (by omega) (by omega)).mp c_202
                        omega
                      · have c_202 := mt (nI_ltI (a := 5) (b := kk) (by omega) (by omega)).mpr c_202
                        refine lv_iconst (v := 1) hx hb dL_isWire_375 (by decide) ?_
                        refine lv_goto (tgt := 380) hx hb dL_isWire_376 (by decide) ?_
                        refine lv_istore_n (lv' := [(2, .int 1), (5, .int (nI j2)), (4, .int (nI sx)), (3, .int 0), (0, .ref o), (1, .ref ca)]) hx hb dL_isWire_380 rfl hl (by decide) rfl (fun ls hl => ?_)
                        refine lv_iinc (v := nI (j2 + 1)) (lv' := [(5, .int (nI (j2 + 1))), (2, .int 1), (4, .int (nI sx)), (3, .int 0), (0, .ref o), (1, .ref ca)]) hx hb dL_isWire_381 hl (k := 1) rfl (z_inc j2 1) (by decide) rfl (fun ls hl => ?_)
                        refine lv_goto (tgt := 330) hx hb dL_isWire_384 (by decide) ?_
                        exact ih_j2 _ _ _ (by omega) ⟨hP, hD, hS, lv_sub hl [0, 1, 2, 3, 4, 5] rfl⟩
                · have c_23 := mt (nI_leI (a := 4) (b := j) (by omega) (by omega)).mpr c_23
                  refine lv_iload_n hx hb dL_isWire_167 rfl (lv_at hl 1 rfl) ?_
                  refine lv_if_eq (tgt := 327) hx hb dL_isWire_168 (by decide) (fun c_203 => absurd c_203 (by decide)) (fun _ => ?_)
                  refine z_cut (Inv := fun H locs ls st => st = [.int 1] ∧ va_P D vwCl [(o, .inr (4, [.ref F, .ref G, .int lo, .int nw, .int se, .ref (pa 0), .ref an, .ref ln])), cE x xv, (x 7, .inl (cA 0, 4, .inl (xd 6))), (x 8, .inl (cA 0, 4, .inl (xd 7))), (x 9, .inr (3, [.ref (x 10), .ref (x 11), .ref (x 12), .ref (x 13), .int (nI xf), .int (nI QX.1)])), (x 10, .inl (cA 0, 12, .inl (xr 0))), (x 11, .inl (cA 0, 12, .inl (xr 1))), (x 12, .inl (cA 0, 12, .inl (xr 2))), (x 13, .inl (cA 0, 48, .inl (xr 3))), cE y yv, (y 7, .inl (cA 0, 4, .inl (yd 6))), (y 8, .inl (cA 0, 4, .inl (yd 7))), (y 9, .inr (3, [.ref (y 10), .ref (y 11), .ref (y 12), .ref (y 13), .int (nI yf), .int (nI QY.1)])), (y 10, .inl (cA 0, 12, .inl (yr 0))), (y 11, .inl (cA 0, 12, .inl (yr 1))), (y 12, .inl (cA 0, 12, .inl (yr 2))), (y 13, .inl (cA 0, 48, .inl (yr 3))), (ln, .inr (0, [.ref vb'_16, .int 0, .int ml'_16, .int (nI ((lnT sx (xd 6) 4).length))])), (ca, .inl (cA 0, 3, .inl cc)), (vb'_16, .inl (cA 2, nb'_16, .inl g'_16))] H ∧ va_D A [(o, .inr (4, [.ref F, .ref G, .int lo, .int nw, .int se, .ref (pa 0), .ref an, .ref ln])), cE x xv, (x 7, .inl (cA 0, 4, .inl (xd 6))), (x 8, .inl (cA 0, 4, .inl (xd 7))), (x 9, .inr (3, [.ref (x 10), .ref (x 11), .ref (x 12), .ref (x 13), .int (nI xf), .int (nI QX.1)])), (x 10, .inl (cA 0, 12, .inl (xr 0))), (x 11, .inl (cA 0, 12, .inl (xr 1))), (x 12, .inl (cA 0, 12, .inl (xr 2))), (x 13, .inl (cA 0, 48, .inl (xr 3))), cE y yv, (y 7, .inl (cA 0, 4, .inl (yd 6))), (y 8, .inl (cA 0, 4, .inl (yd 7))), (y 9, .inr (3, [.ref (y 10), .ref (y 11), .ref (y 12), .ref (y 13), .int (nI yf), .int (nI QY.1)])), (y 10, .inl (cA 0, 12, .inl (yr 0))), (y 11, .inl (cA 0, 12, .inl (yr 1))), (y 12, .inl (cA 0, 12, .inl (yr 2))), (y 13, .inl (cA 0, 48, .inl (yr 3))), (ln, .inr (0, [.ref vb'_16, .int 0, .int ml'_16, .int (nI ((lnT sx (xd 6) 4).length))])), (ca, .inl (cA 0, 3, .inl cc)), (vb'_16, .inl (cA 2, nb'_16, .inl g'_16))] ∧ va_S A s.heap H locs ∧ lv_has ls 8 [(5, .int (nI j)), (2, .int 1), (4, .int (nI sx)), (3, .int 0), (0, .ref o), (1, .ref ca)]) 266 (fun H locs ls st hQ9 => ?_) (fun kJ => ?_)
                  · obtain ⟨rfl, hP, hD, hS, hl⟩ := hQ9
                    refine lv_istore_n (lv' := [(2, .int 1), (5, .int (nI j)), (4, .int (nI sx)), (3, .int 0), (0, .ref o), (1, .ref ca)]) hx hb dL_isWire_266 rfl hl (by decide) rfl (fun ls hl => ?_)
                    refine z_cut (Inv := fun H locs ls st => st = [.int 1] ∧ va_P D vwCl [(o, .inr (4, [.ref F, .ref G, .int lo, .int nw, .int se, .ref (pa 0), .ref an, .ref ln])), cE x xv, (x 7, .inl (cA 0, 4, .inl (xd 6))), (x 8, .inl (cA 0, 4, .inl (xd 7))), (x 9, .inr (3, [.ref (x 10), .ref (x 11), .ref (x 12), .ref (x 13), .int (nI xf), .int (nI QX.1)])), (x 10, .inl (cA 0, 12, .inl (xr 0))), (x 11, .inl (cA 0, 12, .inl (xr 1))), (x 12, .inl (cA 0, 12, .inl (xr 2))), (x 13, .inl (cA 0, 48, .inl (xr 3))), cE y yv, (y 7, .inl (cA 0, 4, .inl (yd 6))), (y 8, .inl (cA 0, 4, .inl (yd 7))), (y 9, .inr (3, [.ref (y 10), .ref (y 11), .ref (y 12), .ref (y 13), .int (nI yf), .int (nI QY.1)])), (y 10, .inl (cA 0, 12, .inl (yr 0))), (y 11, .inl (cA 0, 12, .inl (yr 1))), (y 12, .inl (cA 0, 12, .inl (yr 2))), (y 13, .inl (cA 0, 48, .inl (yr 3))), (ln, .inr (0, [.ref vb'_16, .int 0, .int ml'_16, .int (nI ((lnT sx (xd 6) 4).length))])), (ca, .inl (cA 0, 3, .inl cc)), (vb'_16, .inl (cA 2, nb'_16, .inl g'_16))] H ∧ va_D A [(o, .inr (4, [.ref F, .ref G, .int lo, .int nw, .int se, .ref (pa 0), .ref an, .ref ln])), cE x xv, (x 7, .inl (cA 0, 4, .inl (xd 6))), (x 8, .inl (cA 0, 4, .inl (xd 7))), (x 9, .inr (3, [.ref (x 10), .ref (x 11), .ref (x 12), .ref (x 13), .int (nI xf), .int (nI QX.1)])), (x 10, .inl (cA 0, 12, .inl (xr 0))), (x 11, .inl (cA 0, 12, .inl (xr 1))), (x 12, .inl (cA 0, 12, .inl (xr 2))), (x 13, .inl (cA 0, 48, .inl (xr 3))), cE y yv, (y 7, .inl (cA 0, 4, .inl (yd 6))), (y 8, .inl (cA 0, 4, .inl (yd 7))), (y 9, .inr (3, [.ref (y 10), .ref (y 11), .ref (y 12), .ref (y 13), .int (nI yf), .int (nI QY.1)])), (y 10, .inl (cA 0, 12, .inl (yr 0))), (y 11, .inl (cA 0, 12, .inl (yr 1))), (y 12, .inl (cA 0, 12, .inl (yr 2))), (y 13, .inl (cA 0, 48, .inl (yr 3))), (ln, .inr (0, [.ref vb'_16, .int 0, .int ml'_16, .int (nI ((lnT sx (xd 6) 4).length))])), (ca, .inl (cA 0, 3, .inl cc)), (vb'_16, .inl (cA 2, nb'_16, .inl g'_16))] ∧ va_S A s.heap H locs ∧ lv_has ls 8 [(2, .int 1), (5, .int (nI j)), (4, .int (nI sx)), (3, .int 0), (0, .ref o), (1, .ref ca)]) 320 (fun H locs ls st hQ9 => ?_) (fun kJ => ?_)
                    · obtain ⟨rfl, hP, hD, hS, hl⟩ := hQ9
                      refine lv_istore_n (lv' := [(2, .int 1), (5, .int (nI j)), (4, .int (nI sx)), (3, .int 0), (0, .ref o), (1, .ref ca)]) hx hb dL_isWire_320 rfl hl (by decide) rfl (fun ls hl => ?_)
                      refine lv_iinc (v := nI (j + 1)) (lv' := [(5, .int (nI (j + 1))), (2, .int 1), (4, .int (nI sx)), (3, .int 0), (0, .ref o), (1, .ref ca)]) hx hb dL_isWire_321 hl (k := 1) rfl (z_inc j 1) (by decide) rfl (fun ls hl => ?_)
                      refine lv_goto (tgt := 161) hx hb dL_isWire_324 (by decide) ?_
                      exact ih_j _ _ _ (by omega) ⟨hP, hD, hS, lv_sub hl [0, 1, 2, 3, 4, 5] rfl⟩
                    · skip
                      refine lv_iload_n hx hb dL_isWire_267 rfl (lv_at hl 0 rfl) ?_
                      refine lv_if_eq (tgt := 319) hx hb dL_isWire_268 (by decide) (fun c_204 => absurd c_204 (by decide)) (fun _ => ?_)
                      refine lv_aload_n hx hb dL_isWire_271 rfl (lv_at hl 5 rfl) ?_
                      refine lv_iconst (v := 2) hx hb dL_isWire_272 (by decide) ?_
                      refine z_iald (k := 2) (v := (nI gv)) hx hb hK hP 18 0 rfl rfl rfl (by omega) (by decide) hc2 dL_isWire_273 ?_
                      refine lv_iconst (v := 1) hx hb dL_isWire_274 (by decide) ?_
                      refine lv_icmp_eq (tgt := 315) hx hb dL_isWire_275 (by decide) (fun c_205 => ?_) (fun c_205 => ?_)
                      · have c_205 := (nI_eq (a := gv) (b := 1) (by omega) (by omega)).mp c_205
                        refine lv_iconst (v := 1) hx hb dL_isWire_315 (by decide) ?_
                        refine lv_goto (tgt := 320) hx hb dL_isWire_316 (by decide) ?_
                        exact kJ _ _ _ _ ⟨rfl, hP, hD, hS, lv_sub hl [0, 1, 2, 3, 4, 5] rfl⟩
                      · have c_205 := mt (nI_eq (a := gv) (b := 1) (by omega) (by omega)).mpr c_205
                        refine lv_aload_n hx hb dL_isWire_278 rfl (lv_at hl 4 rfl) ?_
                        refine lv_iconst (v := 0) hx hb dL_isWire_279 (by decide) ?_
                        have hPc := hP.sub (ws' := [(o, .inr (4, [.ref F, .ref G, .int lo, .int nw, .int se, .ref (pa 0), .ref an, .ref ln])), cE x xv]) [0, 1] rfl
                        have hDc := hD.sub (ws' := [(o, .inr (4, [.ref F, .ref G, .int lo, .int nw, .int se, .ref (pa 0), .ref an, .ref ln])), cE x xv]) [0, 1] (by decide) rfl
                        have hFc := va_free (wc := [(o, .inr (4, [.ref F, .ref G, .int lo, .int nw, .int se, .ref (pa 0), .ref an, .ref ln])), cE x xv]) hD hS hA [0, 1] rfl
                        refine va_calli (va_runV (As := [.int 0]) (rest := []) ⟨hx, hb, hml, hown, hts⟩ (c_X3_state_k l D cA H.size o F G lo nw se pa an ln x (y 0) 0 xv (by first | exact he | exact en_flip he | exact en_01 he | exact en_10 he)) (cwV 1 hts gL_isWire_X3_state rfl rfl rfl (by decide +kernel) ⟨Nat.le_of_ble_eq_true rfl, Nat.le_of_ble_eq_true rfl⟩) ⟨zU_blind, va_recv hK hPc (ci := 4) (q0 := 0) rfl rfl, fun U hU hW => ⟨rfl, zU_call hU hPc hW.alike hK hDc⟩⟩ rfl rfl hl.1 rfl (lv_room (Nat.le_of_ble_eq_true rfl)) dL_isWire_280 ⟨Nat.le_of_ble_eq_true rfl, Nat.le_of_ble_eq_true rfl⟩) hS (fun q _ h => hFc q h) hFc (fun zr u t H1 locs ht hvm hw hB hz1 hk1 hS => ?_)
                        obtain ⟨hP1, hD1⟩ := hB
                        rw [ht] at hP1
                        obtain ⟨hP, hD⟩ := va_join (wr := [(x 7, .inl (cA 0, 4, .inl (xd 6))), (x 8, .inl (cA 0, 4, .inl (xd 7))), (x 9, .inr (3, [.ref (x 10), .ref (x 11), .ref (x 12), .ref (x 13), .int (nI xf), .int (nI QX.1)])), (x 10, .inl (cA 0, 12, .inl (xr 0))), (x 11, .inl (cA 0, 12, .inl (xr 1))), (x 12, .inl (cA 0, 12, .inl (xr 2))), (x 13, .inl (cA 0, 48, .inl (xr 3))), cE y yv, (y 7, .inl (cA 0, 4, .inl (yd 6))), (y 8, .inl (cA 0, 4, .inl (yd 7))), (y 9, .inr (3, [.ref (y 10), .ref (y 11), .ref (y 12), .ref (y 13), .int (nI yf), .int (nI QY.1)])), (y 10, .inl (cA 0, 12, .inl (yr 0))), (y 11, .inl (cA 0, 12, .inl (yr 1))), (y 12, .inl (cA 0, 12, .inl (yr 2))), (y 13, .inl (cA 0, 48, .inl (yr 3))), (ln, .inr (0, [.ref vb'_16, .int 0, .int ml'_16, .int (nI ((lnT sx (xd 6) 4).length))])), (ca, .inl (cA 0, 3, .inl cc)), (vb'_16, .inl (cA 2, nb'_16, .inl g'_16))]) (w1 := [(o, .inr (4, [.ref F, .ref G, .int lo, .int nw, .int se, .ref (pa 0), .ref an, .ref ln])), cE x xv]) hP hD [0, 1] [2, 3, 4, 5, 6, 7, 8, 9, 10, 11, 12, 13, 14, 15, 16, 17, 18, 19] rfl rfl (by decide) (by decide) hk1 hFc hP1 hD1
                        generalize H1 = H at hP hS ⊢
                        have hP := hP.sub (ws' := [(o, .inr (4, [.ref F, .ref G, .int lo, .int nw, .int se, .ref (pa 0), .ref an, .ref ln])), cE x xv, (x 7, .inl (cA 0, 4, .inl (xd 6))), (x 8, .inl (cA 0, 4, .inl (xd 7))), (x 9, .inr (3, [.ref (x 10), .ref (x 11), .ref (x 12), .ref (x 13), .int (nI xf), .int (nI QX.1)])), (x 10, .inl (cA 0, 12, .inl (xr 0))), (x 11, .inl (cA 0, 12, .inl (xr 1))), (x 12, .inl (cA 0, 12, .inl (xr 2))), (x 13, .inl (cA 0, 48, .inl (xr 3))), cE y yv, (y 7, .inl (cA 0, 4, .inl (yd 6))), (y 8, .inl (cA 0, 4, .inl (yd 7))), (y 9, .inr (3, [.ref (y 10), .ref (y 11), .ref (y 12), .ref (y 13), .int (nI yf), .int (nI QY.1)])), (y 10, .inl (cA 0, 12, .inl (yr 0))), (y 11, .inl (cA 0, 12, .inl (yr 1))), (y 12, .inl (cA 0, 12, .inl (yr 2))), (y 13, .inl (cA 0, 48, .inl (yr 3))), (ln, .inr (0, [.ref vb'_16, .int 0, .int ml'_16, .int (nI ((lnT sx (xd 6) 4).length))])), (ca, .inl (cA 0, 3, .inl cc)), (vb'_16, .inl (cA 2, nb'_16, .inl g'_16))]) [18, 19, 0, 1, 2, 3, 4, 5, 6, 7, 8, 9, 10, 11, 12, 13, 14, 15, 16, 17] rfl
                        have hD := hD.sub (ws' := [(o, .inr (4, [.ref F, .ref G, .int lo, .int nw, .int se, .ref (pa 0), .ref an, .ref ln])), cE x xv, (x 7, .inl (cA 0, 4, .inl (xd 6))), (x 8, .inl (cA 0, 4, .inl (xd 7))), (x 9, .inr (3, [.ref (x 10), .ref (x 11), .ref (x 12), .ref (x 13), .int (nI xf), .int (nI QX.1)])), (x 10, .inl (cA 0, 12, .inl (xr 0))), (x 11, .inl (cA 0, 12, .inl (xr 1))), (x 12, .inl (cA 0, 12, .inl (xr 2))), (x 13, .inl (cA 0, 48, .inl (xr 3))), cE y yv, (y 7, .inl (cA 0, 4, .inl (yd 6))), (y 8, .inl (cA 0, 4, .inl (yd 7))), (y 9, .inr (3, [.ref (y 10), .ref (y 11), .ref (y 12), .ref (y 13), .int (nI yf), .int (nI QY.1)])), (y 10, .inl (cA 0, 12, .inl (yr 0))), (y 11, .inl (cA 0, 12, .inl (yr 1))), (y 12, .inl (cA 0, 12, .inl (yr 2))), (y 13, .inl (cA 0, 48, .inl (yr 3))), (ln, .inr (0, [.ref vb'_16, .int 0, .int ml'_16, .int (nI ((lnT sx (xd 6) 4).length))])), (ca, .inl (cA 0, 3, .inl cc)), (vb'_16, .inl (cA 2, nb'_16, .inl g'_16))]) [18, 19, 0, 1, 2, 3, 4, 5, 6, 7, 8, 9, 10, 11, 12, 13, 14, 15, 16, 17] (by decide) rfl
                        clear hPc hDc hFc hP1 hD1 hk1 hz1
                        have hw_206 := hw
                        obtain rfl := hw
                        refine z_top (y := (nI sx)) hx0 ?_
                        refine lv_iconst (v := 4) hx hb dL_isWire_283 (by decide) ?_
                        refine lv_icmp_ne (tgt := 315) hx hb dL_isWire_284 (by decide) (fun c_207 => ?_) (fun c_207 => ?_)
                        · have c_207 := mt (nI_eq (a := sx) (b := 4) (by omega) (by omega)).mpr c_207
                          refine lv_iconst (v := 1) hx hb dL_isWire_315 (by decide) ?_
                          refine lv_goto (tgt := 320) hx hb dL_isWire_316 (by decide) ?_
                          exact kJ _ _ _ _ ⟨rfl, hP, hD, hS, lv_sub hl [0, 1, 2, 3, 4, 5] rfl⟩
                        · have c_207 := (nI_eq (a := sx) (b := 4) (by omega) (by omega)).mp c_207
                          refine lv_aload_n hx hb dL_isWire_287 rfl (lv_at hl 4 rfl) ?_
                          refine lv_iconst (v := 1) hx hb dL_isWire_288 (by decide) ?_
                          have hPc := hP.sub (ws' := [(o, .inr (4, [.ref F, .ref G, .int lo, .int nw, .int se, .ref (pa 0), .ref an, .ref ln])), cE y yv]) [0, 9] rfl
                          have hDc := hD.sub (ws' := [(o, .inr (4, [.ref F, .ref G, .int lo, .int nw, .int se, .ref (pa 0), .ref an, .ref ln])), cE y yv]) [0, 9] (by decide) rfl
                          have hFc := va_free (wc := [(o, .inr (4, [.ref F, .ref G, .int lo, .int nw, .int se, .ref (pa 0), .ref an, .ref ln])), cE y yv]) hD hS hA [0, 9] rfl
                          refine va_calli (va_runV (As := [.int 1]) (rest := []) ⟨hx, hb, hml, hown, hts⟩ (c_X3_state_k l D cA H.size o F G lo nw se pa an ln y (x 0) 1 yv (by first | exact he | exact en_flip he | exact en_01 he | exact en_10 he)) (cwV 1 hts gL_isWire_X3_state rfl rfl rfl (by decide +kernel) ⟨Nat.le_of_ble_eq_true rfl, Nat.le_of_ble_eq_true rfl⟩) ⟨zU_blind, va_recv hK hPc (ci := 4) (q0 := 0) rfl rfl, fun U hU hW => ⟨rfl, zU_call hU hPc hW.alike hK hDc⟩⟩ rfl rfl hl.1 rfl (lv_room (Nat.le_of_ble_eq_true rfl)) dL_isWire_289 ⟨Nat.le_of_ble_eq_true rfl, Nat.le_of_ble_eq_true rfl⟩) hS (fun q _ h => hFc q h) hFc (fun zr u t H1 locs ht hvm hw hB hz1 hk1 hS => ?_)
                          obtain ⟨hP1, hD1⟩ := hB
                          rw [ht] at hP1
                          obtain ⟨hP, hD⟩ := va_join (wr := [cE x xv, (x 7, .inl (cA 0, 4, .inl (xd 6))), (x 8, .inl (cA 0, 4, .inl (xd 7))), (x 9, .inr (3, [.ref (x 10), .ref (x 11), .ref (x 12), .ref (x 13), .int (nI xf), .int (nI QX.1)])), (x 10, .inl (cA 0, 12, .inl (xr 0))), (x 11, .inl (cA 0, 12, .inl (xr 1))), (x 12, .inl (cA 0, 12, .inl (xr 2))), (x 13, .inl (cA 0, 48, .inl (xr 3))), (y 7, .inl (cA 0, 4, .inl (yd 6))), (y 8, .inl (cA 0, 4, .inl (yd 7))), (y 9, .inr (3, [.ref (y 10), .ref (y 11), .ref (y 12), .ref (y 13), .int (nI yf), .int (nI QY.1)])), (y 10, .inl (cA 0, 12, .inl (yr 0))), (y 11, .inl (cA 0, 12, .inl (yr 1))), (y 12, .inl (cA 0, 12, .inl (yr 2))), (y 13, .inl (cA 0, 48, .inl (yr 3))), (ln, .inr (0, [.ref vb'_16, .int 0, .int ml'_16, .int (nI ((lnT sx (xd 6) 4).length))])), (ca, .inl (cA 0, 3, .inl cc)), (vb'_16, .inl (cA 2, nb'_16, .inl g'_16))]) (w1 := [(o, .inr (4, [.ref F, .ref G, .int lo, .int nw, .int se, .ref (pa 0), .ref an, .ref ln])), cE y yv]) hP hD [0, 9] [1, 2, 3, 4, 5, 6, 7, 8, 10, 11, 12, 13, 14, 15, 16, 17, 18, 19] rfl rfl (by decide) (by decide) hk1 hFc hP1 hD1
                          generalize H1 = H at hP hS ⊢
                          have hP := hP.sub (ws' := [(o, .inr (4, [.ref F, .ref G, .int lo, .int nw, .int se, .ref (pa 0), .ref an, .ref ln])), cE x xv, (x 7, .inl (cA 0, 4, .inl (xd 6))), (x 8, .inl (cA 0, 4, .inl (xd 7))), (x 9, .inr (3, [.ref (x 10), .ref (x 11), .ref (x 12), .ref (x 13), .int (nI xf), .int (nI QX.1)])), (x 10, .inl (cA 0, 12, .inl (xr 0))), (x 11, .inl (cA 0, 12, .inl (xr 1))), (x 12, .inl (cA 0, 12, .inl (xr 2))), (x 13, .inl (cA 0, 48, .inl (xr 3))), cE y yv, (y 7, .inl (cA 0, 4, .inl (yd 6))), (y 8, .inl (cA 0, 4, .inl (yd 7))), (y 9, .inr (3, [.ref (y 10), .ref (y 11), .ref (y 12), .ref (y 13), .int (nI yf), .int (nI QY.1)])), (y 10, .inl (cA 0, 12, .inl (yr 0))), (y 11, .inl (cA 0, 12, .inl (yr 1))), (y 12, .inl (cA 0, 12, .inl (yr 2))), (y 13, .inl (cA 0, 48, .inl (yr 3))), (ln, .inr (0, [.ref vb'_16, .int 0, .int ml'_16, .int (nI ((lnT sx (xd 6) 4).length))])), (ca, .inl (cA 0, 3, .inl cc)), (vb'_16, .inl (cA 2, nb'_16, .inl g'_16))]) [18, 0, 1, 2, 3, 4, 5, 6, 7, 19, 8, 9, 10, 11, 12, 13, 14, 15, 16, 17] rfl
                          have hD := hD.sub (ws' := [(o, .inr (4, [.ref F, .ref G, .int lo, .int nw, .int se, .ref (pa 0), .ref an, .ref ln])), cE x xv, (x 7, .inl (cA 0, 4, .inl (xd 6))), (x 8, .inl (cA 0, 4, .inl (xd 7))), (x 9, .inr (3, [.ref (x 10), .ref (x 11), .ref (x 12), .ref (x 13), .int (nI xf), .int (nI QX.1)])), (x 10, .inl (cA 0, 12, .inl (xr 0))), (x 11, .inl (cA 0, 12, .inl (xr 1))), (x 12, .inl (cA 0, 12, .inl (xr 2))), (x 13, .inl (cA 0, 48, .inl (xr 3))), cE y yv, (y 7, .inl (cA 0, 4, .inl (yd 6))), (y 8, .inl (cA 0, 4, .inl (yd 7))), (y 9, .inr (3, [.ref (y 10), .ref (y 11), .ref (y 12), .ref (y 13), .int (nI yf), .int (nI QY.1)])), (y 10, .inl (cA 0, 12, .inl (yr 0))), (y 11, .inl (cA 0, 12, .inl (yr 1))), (y 12, .inl (cA 0, 12, .inl (yr 2))), (y 13, .inl (cA 0, 48, .inl (yr 3))), (ln, .inr (0, [.ref vb'_16, .int 0, .int ml'_16, .int (nI ((lnT sx (xd 6) 4).length))])), (ca, .inl (cA 0, 3, .inl cc)), (vb'_16, .inl (cA 2, nb'_16, .inl g'_16))]) [18, 0, 1, 2, 3, 4, 5, 6, 7, 19, 8, 9, 10, 11, 12, 13, 14, 15, 16, 17] (by decide) rfl
                          clear hPc hDc hFc hP1 hD1 hk1 hz1
                          have hw_208 := hw
                          obtain rfl := hw
                          refine z_top (y := (nI sy)) hy0 ?_
                          refine lv_iconst (v := 4) hx hb dL_isWire_292 (by decide) ?_
                          refine lv_icmp_ne (tgt := 315) hx hb dL_isWire_293 (by decide) (fun c_209 => ?_) (fun c_209 => ?_)
                          · have c_209 := mt (nI_eq (a := sy) (b := 4) (by omega) (by omega)).mpr c_209
                            refine lv_iconst (v := 1) hx hb dL_isWire_315 (by decide) ?_
                            refine lv_goto (tgt := 320) hx hb dL_isWire_316 (by decide) ?_
                            exact kJ _ _ _ _ ⟨rfl, hP, hD, hS, lv_sub hl [0, 1, 2, 3, 4, 5] rfl⟩
                          · have c_209 := (nI_eq (a := sy) (b := 4) (by omega) (by omega)).mp c_209
                            refine lv_aload_n hx hb dL_isWire_296 rfl (lv_at hl 4 rfl) ?_
                            refine lv_iload_n hx hb dL_isWire_297 rfl (lv_at hl 3 rfl) ?_
                            refine lv_iload hx hb dL_isWire_298 (lv_at hl 1 rfl) ?_
                            have hPc := hP.sub (ws' := [(o, .inr (4, [.ref F, .ref G, .int lo, .int nw, .int se, .ref (pa 0), .ref an, .ref ln])), cE x xv, (x 7, .inl (cA 0, 4, .inl (xd 6)))]) [0, 1, 2] rfl
                            have hDc := hD.sub (ws' := [(o, .inr (4, [.ref F, .ref G, .int lo, .int nw, .int se, .ref (pa 0), .ref an, .ref ln])), cE x xv, (x 7, .inl (cA 0, 4, .inl (xd 6)))]) [0, 1, 2] (by decide) rfl
                            have hFc := va_free (wc := [(o, .inr (4, [.ref F, .ref G, .int lo, .int nw, .int se, .ref (pa 0), .ref an, .ref ln])), cE x xv, (x 7, .inl (cA 0, 4, .inl (xd 6)))]) hD hS hA [0, 1, 2] rfl
                            refine va_calli (va_runV (As := [.int 0, .int (nI j)]) (rest := []) ⟨hx, hb, hml, hown, hts⟩ (c_X3_granted_k l D cA H.size o F G lo nw se pa an ln x (y 0) 0 xv j (xd 6) (by first | exact he | exact en_flip he | exact en_01 he | exact en_10 he) (by omega)) (cwV 2 hts gL_isWire_X3_granted rfl rfl rfl (by decide +kernel) ⟨Nat.le_of_ble_eq_true rfl, Nat.le_of_ble_eq_true rfl⟩) ⟨zU_blind, va_recv hK hPc (ci := 4) (q0 := 0) rfl rfl, fun U hU hW => ⟨rfl, zU_call hU hPc hW.alike hK hDc⟩⟩ rfl rfl hl.1 rfl (lv_room (Nat.le_of_ble_eq_true rfl)) dL_isWire_300 ⟨Nat.le_of_ble_eq_true rfl, Nat.le_of_ble_eq_true rfl⟩) hS (fun q _ h => hFc q h) hFc (fun zr u t H1 locs ht hvm hw hB hz1 hk1 hS => ?_)
                            obtain ⟨hP1, hD1⟩ := hB
                            rw [ht] at hP1
                            obtain ⟨hP, hD⟩ := va_join (wr := [(x 8, .inl (cA 0, 4, .inl (xd 7))), (x 9, .inr (3, [.ref (x 10), .ref (x 11), .ref (x 12), .ref (x 13), .int (nI xf), .int (nI QX.1)])), (x 10, .inl (cA 0, 12, .inl (xr 0))), (x 11, .inl (cA 0, 12, .inl (xr 1))), (x 12, .inl (cA 0, 12, .inl (xr 2))), (x 13, .inl (cA 0, 48, .inl (xr 3))), cE y yv, (y 7, .inl (cA 0, 4, .inl (yd 6))), (y 8, .inl (cA 0, 4, .inl (yd 7))), (y 9, .inr (3, [.ref (y 10), .ref (y 11), .ref (y 12), .ref (y 13), .int (nI yf), .int (nI QY.1)])), (y 10, .inl (cA 0, 12, .inl (yr 0))), (y 11, .inl (cA 0, 12, .inl (yr 1))), (y 12, .inl (cA 0, 12, .inl (yr 2))), (y 13, .inl (cA 0, 48, .inl (yr 3))), (ln, .inr (0, [.ref vb'_16, .int 0, .int ml'_16, .int (nI ((lnT sx (xd 6) 4).length))])), (ca, .inl (cA 0, 3, .inl cc)), (vb'_16, .inl (cA 2, nb'_16, .inl g'_16))]) (w1 := [(o, .inr (4, [.ref F, .ref G, .int lo, .int nw, .int se, .ref (pa 0), .ref an, .ref ln])), cE x xv, (x 7, .inl (cA 0, 4, .inl (xd 6)))]) hP hD [0, 1, 2] [3, 4, 5, 6, 7, 8, 9, 10, 11, 12, 13, 14, 15, 16, 17, 18, 19] rfl rfl (by decide) (by decide) hk1 hFc hP1 hD1
                            generalize H1 = H at hP hS ⊢
                            have hP := hP.sub (ws' := [(o, .inr (4, [.ref F, .ref G, .int lo, .int nw, .int se, .ref (pa 0), .ref an, .ref ln])), cE x xv, (x 7, .inl (cA 0, 4, .inl (xd 6))), (x 8, .inl (cA 0, 4, .inl (xd 7))), (x 9, .inr (3, [.ref (x 10), .ref (x 11), .ref (x 12), .ref (x 13), .int (nI xf), .int (nI QX.1)])), (x 10, .inl (cA 0, 12, .inl (xr 0))), (x 11, .inl (cA 0, 12, .inl (xr 1))), (x 12, .inl (cA 0, 12, .inl (xr 2))), (x 13, .inl (cA 0, 48, .inl (xr 3))), cE y yv, (y 7, .inl (cA 0, 4, .inl (yd 6))), (y 8, .inl (cA 0, 4, .inl (yd 7))), (y 9, .inr (3, [.ref (y 10), .ref (y 11), .ref (y 12), .ref (y 13), .int (nI yf), .int (nI QY.1)])), (y 10, .inl (cA 0, 12, .inl (yr 0))), (y 11, .inl (cA 0, 12, .inl (yr 1))), (y 12, .inl (cA 0, 12, .inl (yr 2))), (y 13, .inl (cA 0, 48, .inl (yr 3))), (ln, .inr (0, [.ref vb'_16, .int 0, .int ml'_16, .int (nI ((lnT sx (xd 6) 4).length))])), (ca, .inl (cA 0, 3, .inl cc)), (vb'_16, .inl (cA 2, nb'_16, .inl g'_16))]) [17, 18, 19, 0, 1, 2, 3, 4, 5, 6, 7, 8, 9, 10, 11, 12, 13, 14, 15, 16] rfl
                            have hD := hD.sub (ws' := [(o, .inr (4, [.ref F, .ref G, .int lo, .int nw, .int se, .ref (pa 0), .ref an, .ref ln])), cE x xv, (x 7, .inl (cA 0, 4, .inl (xd 6))), (x 8, .inl (cA 0, 4, .inl (xd 7))), (x 9, .inr (3, [.ref (x 10), .ref (x 11), .ref (x 12), .ref (x 13), .int (nI xf), .int (nI QX.1)])), (x 10, .inl (cA 0, 12, .inl (xr 0))), (x 11, .inl (cA 0, 12, .inl (xr 1))), (x 12, .inl (cA 0, 12, .inl (xr 2))), (x 13, .inl (cA 0, 48, .inl (xr 3))), cE y yv, (y 7, .inl (cA 0, 4, .inl (yd 6))), (y 8, .inl (cA 0, 4, .inl (yd 7))), (y 9, .inr (3, [.ref (y 10), .ref (y 11), .ref (y 12), .ref (y 13), .int (nI yf), .int (nI QY.1)])), (y 10, .inl (cA 0, 12, .inl (yr 0))), (y 11, .inl (cA 0, 12, .inl (yr 1))), (y 12, .inl (cA 0, 12, .inl (yr 2))), (y 13, .inl (cA 0, 48, .inl (yr 3))), (ln, .inr (0, [.ref vb'_16, .int 0, .int ml'_16, .int (nI ((lnT sx (xd 6) 4).length))])), (ca, .inl (cA 0, 3, .inl cc)), (vb'_16, .inl (cA 2, nb'_16, .inl g'_16))]) [17, 18, 19, 0, 1, 2, 3, 4, 5, 6, 7, 8, 9, 10, 11, 12, 13, 14, 15, 16] (by decide) rfl
                            clear hPc hDc hFc hP1 hD1 hk1 hz1
                            have hw_210 := hw
                            obtain rfl := hw
                            refine z_top (y := xd 6 j) (gr_y hx0 (by omega)) ?_
                            refine lv_aload_n hx hb dL_isWire_303 rfl (lv_at hl 4 rfl) ?_
                            refine lv_iconst (v := 1) hx hb dL_isWire_304 (by decide) ?_
                            refine lv_iload_n hx hb dL_isWire_305 rfl (lv_at hl 3 rfl) ?_
                            refine lv_isub hx hb dL_isWire_306 ?_
                            refine z_top (y := 1) (by decide) ?_
                            refine lv_iload hx hb dL_isWire_307 (lv_at hl 1 rfl) ?_
                            have hPc := hP.sub (ws' := [(o, .inr (4, [.ref F, .ref G, .int lo, .int nw, .int se, .ref (pa 0), .ref an, .ref ln])), cE y yv, (y 8, .inl (cA 0, 4, .inl (yd 7)))]) [0, 9, 11] rfl
                            have hDc := hD.sub (ws' := [(o, .inr (4, [.ref F, .ref G, .int lo, .int nw, .int se, .ref (pa 0), .ref an, .ref ln])), cE y yv, (y 8, .inl (cA 0, 4, .inl (yd 7)))]) [0, 9, 11] (by decide) rfl
                            have hFc := va_free (wc := [(o, .inr (4, [.ref F, .ref G, .int lo, .int nw, .int se, .ref (pa 0), .ref an, .ref ln])), cE y yv, (y 8, .inl (cA 0, 4, .inl (yd 7)))]) hD hS hA [0, 9, 11] rfl
                            refine va_calli (va_runV (As := [.int 1, .int (nI j)]) (rest := [.int (xd 6 j)]) ⟨hx, hb, hml, hown, hts⟩ (c_X3_allowed_k l D cA H.size o F G lo nw se pa an ln y (x 0) 1 yv j (yd 7) (by first | exact he | exact en_flip he | exact en_01 he | exact en_10 he) (by omega)) (cwV 2 hts gL_isWire_X3_allowed rfl rfl rfl (by decide +kernel) ⟨Nat.le_of_ble_eq_true rfl, Nat.le_of_ble_eq_true rfl⟩) ⟨zU_blind, va_recv hK hPc (ci := 4) (q0 := 0) rfl rfl, fun U hU hW => ⟨rfl, zU_call hU hPc hW.alike hK hDc⟩⟩ rfl rfl hl.1 rfl (lv_room (Nat.le_of_ble_eq_true rfl)) dL_isWire_309 ⟨Nat.le_of_ble_eq_true rfl, Nat.le_of_ble_eq_true rfl⟩) hS (fun q _ h => hFc q h) hFc (fun zr u t H1 locs ht hvm hw hB hz1 hk1 hS => ?_)
                            obtain ⟨hP1, hD1⟩ := hB
                            rw [ht] at hP1
                            obtain ⟨hP, hD⟩ := va_join (wr := [cE x xv, (x 7, .inl (cA 0, 4, .inl (xd 6))), (x 8, .inl (cA 0, 4, .inl (xd 7))), (x 9, .inr (3, [.ref (x 10), .ref (x 11), .ref (x 12), .ref (x 13), .int (nI xf), .int (nI QX.1)])), (x 10, .inl (cA 0, 12, .inl (xr 0))), (x 11, .inl (cA 0, 12, .inl (xr 1))), (x 12, .inl (cA 0, 12, .inl (xr 2))), (x 13, .inl (cA 0, 48, .inl (xr 3))), (y 7, .inl (cA 0, 4, .inl (yd 6))), (y 9, .inr (3, [.ref (y 10), .ref (y 11), .ref (y 12), .ref (y 13), .int (nI yf), .int (nI QY.1)])), (y 10, .inl (cA 0, 12, .inl (yr 0))), (y 11, .inl (cA 0, 12, .inl (yr 1))), (y 12, .inl (cA 0, 12, .inl (yr 2))), (y 13, .inl (cA 0, 48, .inl (yr 3))), (ln, .inr (0, [.ref vb'_16, .int 0, .int ml'_16, .int (nI ((lnT sx (xd 6) 4).length))])), (ca, .inl (cA 0, 3, .inl cc)), (vb'_16, .inl (cA 2, nb'_16, .inl g'_16))]) (w1 := [(o, .inr (4, [.ref F, .ref G, .int lo, .int nw, .int se, .ref (pa 0), .ref an, .ref ln])), cE y yv, (y 8, .inl (cA 0, 4, .inl (yd 7)))]) hP hD [0, 9, 11] [1, 2, 3, 4, 5, 6, 7, 8, 10, 12, 13, 14, 15, 16, 17, 18, 19] rfl rfl (by decide) (by decide) hk1 hFc hP1 hD1
                            generalize H1 = H at hP hS ⊢
                            have hP := hP.sub (ws' := [(o, .inr (4, [.ref F, .ref G, .int lo, .int nw, .int se, .ref (pa 0), .ref an, .ref ln])), cE x xv, (x 7, .inl (cA 0, 4, .inl (xd 6))), (x 8, .inl (cA 0, 4, .inl (xd 7))), (x 9, .inr (3, [.ref (x 10), .ref (x 11), .ref (x 12), .ref (x 13), .int (nI xf), .int (nI QX.1)])), (x 10, .inl (cA 0, 12, .inl (xr 0))), (x 11, .inl (cA 0, 12, .inl (xr 1))), (x 12, .inl (cA 0, 12, .inl (xr 2))), (x 13, .inl (cA 0, 48, .inl (xr 3))), cE y yv, (y 7, .inl (cA 0, 4, .inl (yd 6))), (y 8, .inl (cA 0, 4, .inl (yd 7))), (y 9, .inr (3, [.ref (y 10), .ref (y 11), .ref (y 12), .ref (y 13), .int (nI yf), .int (nI QY.1)])), (y 10, .inl (cA 0, 12, .inl (yr 0))), (y 11, .inl (cA 0, 12, .inl (yr 1))), (y 12, .inl (cA 0, 12, .inl (yr 2))), (y 13, .inl (cA 0, 48, .inl (yr 3))), (ln, .inr (0, [.ref vb'_16, .int 0, .int ml'_16, .int (nI ((lnT sx (xd 6) 4).length))])), (ca, .inl (cA 0, 3, .inl cc)), (vb'_16, .inl (cA 2, nb'_16, .inl g'_16))]) [17, 0, 1, 2, 3, 4, 5, 6, 7, 18, 8, 19, 9, 10, 11, 12, 13, 14, 15, 16] rfl
                            have hD := hD.sub (ws' := [(o, .inr (4, [.ref F, .ref G, .int lo, .int nw, .int se, .ref (pa 0), .ref an, .ref ln])), cE x xv, (x 7, .inl (cA 0, 4, .inl (xd 6))), (x 8, .inl (cA 0, 4, .inl (xd 7))), (x 9, .inr (3, [.ref (x 10), .ref (x 11), .ref (x 12), .ref (x 13), .int (nI xf), .int (nI QX.1)])), (x 10, .inl (cA 0, 12, .inl (xr 0))), (x 11, .inl (cA 0, 12, .inl (xr 1))), (x 12, .inl (cA 0, 12, .inl (xr 2))), (x 13, .inl (cA 0, 48, .inl (xr 3))), cE y yv, (y 7, .inl (cA 0, 4, .inl (yd 6))), (y 8, .inl (cA 0, 4, .inl (yd 7))), (y 9, .inr (3, [.ref (y 10), .ref (y 11), .ref (y 12), .ref (y 13), .int (nI yf), .int (nI QY.1)])), (y 10, .inl (cA 0, 12, .inl (yr 0))), (y 11, .inl (cA 0, 12, .inl (yr 1))), (y 12, .inl (cA 0, 12, .inl (yr 2))), (y 13, .inl (cA 0, 48, .inl (yr 3))), (ln, .inr (0, [.ref vb'_16, .int 0, .int ml'_16, .int (nI ((lnT sx (xd 6) 4).length))])), (ca, .inl (cA 0, 3, .inl cc)), (vb'_16, .inl (cA 2, nb'_16, .inl g'_16))]) [17, 0, 1, 2, 3, 4, 5, 6, 7, 18, 8, 19, 9, 10, 11, 12, 13, 14, 15, 16] (by decide) rfl
                            clear hPc hDc hFc hP1 hD1 hk1 hz1
                            have hw_211 := hw
                            obtain rfl := hw
                            refine z_top (y := yd 7 j) (al_v hy0 (by omega)) ?_
                            refine z_top (y := xd 6 j) (agr_x hI (by omega) (by omega) (by omega)) ?_
                            refine lv_icmp_ne (tgt := 319) hx hb dL_isWire_312 (by decide) (fun c_212 => absurd rfl c_212) (fun _ => ?_)
                            refine lv_iconst (v := 1) hx hb dL_isWire_315 (by decide) ?_
                            refine lv_goto (tgt := 320) hx hb dL_isWire_316 (by decide) ?_
                            exact kJ _ _ _ _ ⟨rfl, hP, hD, hS, lv_sub hl [0, 1, 2, 3, 4, 5] rfl⟩
                  · skip
                    refine lv_aload_n hx hb dL_isWire_171 rfl (lv_at hl 4 rfl) ?_
                    refine lv_iload_n hx hb dL_isWire_172 rfl (lv_at hl 3 rfl) ?_
                    refine lv_iload hx hb dL_isWire_173 (lv_at hl 0 rfl) ?_
                    have hPc := hP.sub (ws' := [(o, .inr (4, [.ref F, .ref G, .int lo, .int nw, .int se, .ref (pa 0), .ref an, .ref ln])), cE x xv, (x 7, .inl (cA 0, 4, .inl (xd 6)))]) [0, 1, 2] rfl
                    have hDc := hD.sub (ws' := [(o, .inr (4, [.ref F, .ref G, .int lo, .int nw, .int se, .ref (pa 0), .ref an, .ref ln])), cE x xv, (x 7, .inl (cA 0, 4, .inl (xd 6)))]) [0, 1, 2] (by decide) rfl
                    have hFc := va_free (wc := [(o, .inr (4, [.ref F, .ref G, .int lo, .int nw, .int se, .ref (pa 0), .ref an, .ref ln])), cE x xv, (x 7, .inl (cA 0, 4, .inl (xd 6)))]) hD hS hA [0, 1, 2] rfl
                    refine va_calli (va_runV (As := [.int 0, .int (nI j)]) (rest := []) ⟨hx, hb, hml, hown, hts⟩ (c_X3_asked_k l D cA H.size o F G lo nw se pa an ln x (y 0) 0 xv j (xd 6) (by first | exact he | exact en_flip he | exact en_01 he | exact en_10 he) (by omega)) (cwV 2 hts gL_isWire_X3_asked rfl rfl rfl (by decide +kernel) ⟨Nat.le_of_ble_eq_true rfl, Nat.le_of_ble_eq_true rfl⟩) ⟨zU_blind, va_recv hK hPc (ci := 4) (q0 := 0) rfl rfl, fun U hU hW => ⟨rfl, zU_call hU hPc hW.alike hK hDc⟩⟩ rfl rfl hl.1 rfl (lv_room (Nat.le_of_ble_eq_true rfl)) dL_isWire_175 ⟨Nat.le_of_ble_eq_true rfl, Nat.le_of_ble_eq_true rfl⟩) hS (fun q _ h => hFc q h) hFc (fun zr u t H1 locs ht hvm hw hB hz1 hk1 hS => ?_)
                    obtain ⟨hP1, hD1⟩ := hB
                    rw [ht] at hP1
                    obtain ⟨hP, hD⟩ := va_join (wr := [(x 8, .inl (cA 0, 4, .inl (xd 7))), (x 9, .inr (3, [.ref (x 10), .ref (x 11), .ref (x 12), .ref (x 13), .int (nI xf), .int (nI QX.1)])), (x 10, .inl (cA 0, 12, .inl (xr 0))), (x 11, .inl (cA 0, 12, .inl (xr 1))), (x 12, .inl (cA 0, 12, .inl (xr 2))), (x 13, .inl (cA 0, 48, .inl (xr 3))), cE y yv, (y 7, .inl (cA 0, 4, .inl (yd 6))), (y 8, .inl (cA 0, 4, .inl (yd 7))), (y 9, .inr (3, [.ref (y 10), .ref (y 11), .ref (y 12), .ref (y 13), .int (nI yf), .int (nI QY.1)])), (y 10, .inl (cA 0, 12, .inl (yr 0))), (y 11, .inl (cA 0, 12, .inl (yr 1))), (y 12, .inl (cA 0, 12, .inl (yr 2))), (y 13, .inl (cA 0, 48, .inl (yr 3))), (ln, .inr (0, [.ref vb'_16, .int 0, .int ml'_16, .int (nI ((lnT sx (xd 6) 4).length))])), (ca, .inl (cA 0, 3, .inl cc)), (vb'_16, .inl (cA 2, nb'_16, .inl g'_16))]) (w1 := [(o, .inr (4, [.ref F, .ref G, .int lo, .int nw, .int se, .ref (pa 0), .ref an, .ref ln])), cE x xv, (x 7, .inl (cA 0, 4, .inl (xd 6)))]) hP hD [0, 1, 2] [3, 4, 5, 6, 7, 8, 9, 10, 11, 12, 13, 14, 15, 16, 17, 18, 19] rfl rfl (by decide) (by decide) hk1 hFc hP1 hD1
                    generalize H1 = H at hP hS ⊢
                    have hP := hP.sub (ws' := [(o, .inr (4, [.ref F, .ref G, .int lo, .int nw, .int se, .ref (pa 0), .ref an, .ref ln])), cE x xv, (x 7, .inl (cA 0, 4, .inl (xd 6))), (x 8, .inl (cA 0, 4, .inl (xd 7))), (x 9, .inr (3, [.ref (x 10), .ref (x 11), .ref (x 12), .ref (x 13), .int (nI xf), .int (nI QX.1)])), (x 10, .inl (cA 0, 12, .inl (xr 0))), (x 11, .inl (cA 0, 12, .inl (xr 1))), (x 12, .inl (cA 0, 12, .inl (xr 2))), (x 13, .inl (cA 0, 48, .inl (xr 3))), cE y yv, (y 7, .inl (cA 0, 4, .inl (yd 6))), (y 8, .inl (cA 0, 4, .inl (yd 7))), (y 9, .inr (3, [.ref (y 10), .ref (y 11), .ref (y 12), .ref (y 13), .int (nI yf), .int (nI QY.1)])), (y 10, .inl (cA 0, 12, .inl (yr 0))), (y 11, .inl (cA 0, 12, .inl (yr 1))), (y 12, .inl (cA 0, 12, .inl (yr 2))), (y 13, .inl (cA 0, 48, .inl (yr 3))), (ln, .inr (0, [.ref vb'_16, .int 0, .int ml'_16, .int (nI ((lnT sx (xd 6) 4).length))])), (ca, .inl (cA 0, 3, .inl cc)), (vb'_16, .inl (cA 2, nb'_16, .inl g'_16))]) [17, 18, 19, 0, 1, 2, 3, 4, 5, 6, 7, 8, 9, 10, 11, 12, 13, 14, 15, 16] rfl
                    have hD := hD.sub (ws' := [(o, .inr (4, [.ref F, .ref G, .int lo, .int nw, .int se, .ref (pa 0), .ref an, .ref ln])), cE x xv, (x 7, .inl (cA 0, 4, .inl (xd 6))), (x 8, .inl (cA 0, 4, .inl (xd 7))), (x 9, .inr (3, [.ref (x 10), .ref (x 11), .ref (x 12), .ref (x 13), .int (nI xf), .int (nI QX.1)])), (x 10, .inl (cA 0, 12, .inl (xr 0))), (x 11, .inl (cA 0, 12, .inl (xr 1))), (x 12, .inl (cA 0, 12, .inl (xr 2))), (x 13, .inl (cA 0, 48, .inl (xr 3))), cE y yv, (y 7, .inl (cA 0, 4, .inl (yd 6))), (y 8, .inl (cA 0, 4, .inl (yd 7))), (y 9, .inr (3, [.ref (y 10), .ref (y 11), .ref (y 12), .ref (y 13), .int (nI yf), .int (nI QY.1)])), (y 10, .inl (cA 0, 12, .inl (yr 0))), (y 11, .inl (cA 0, 12, .inl (yr 1))), (y 12, .inl (cA 0, 12, .inl (yr 2))), (y 13, .inl (cA 0, 48, .inl (yr 3))), (ln, .inr (0, [.ref vb'_16, .int 0, .int ml'_16, .int (nI ((lnT sx (xd 6) 4).length))])), (ca, .inl (cA 0, 3, .inl cc)), (vb'_16, .inl (cA 2, nb'_16, .inl g'_16))]) [17, 18, 19, 0, 1, 2, 3, 4, 5, 6, 7, 8, 9, 10, 11, 12, 13, 14, 15, 16] (by decide) rfl
                    clear hPc hDc hFc hP1 hD1 hk1 hz1
                    have hw_213 := hw
                    obtain rfl := hw
                    rcases (hI.2.1.1.1 j (by omega)).2.1 with hva | ⟨va, hvb, hva⟩
                    · skip
                      refine z_top (y := (-1)) hva ?_
                      refine lv_istore (lv' := [(6, .int (-1)), (5, .int (nI j)), (2, .int 1), (4, .int (nI sx)), (3, .int 0), (0, .ref o), (1, .ref ca)]) hx hb dL_isWire_178 hl (by decide) rfl (fun ls hl => ?_)
                      refine lv_aload_n hx hb dL_isWire_180 rfl (lv_at hl 5 rfl) ?_
                      refine lv_iload_n hx hb dL_isWire_181 rfl (lv_at hl 4 rfl) ?_
                      refine lv_iload hx hb dL_isWire_182 (lv_at hl 1 rfl) ?_
                      have hPc := hP.sub (ws' := [(o, .inr (4, [.ref F, .ref G, .int lo, .int nw, .int se, .ref (pa 0), .ref an, .ref ln])), cE x xv, (x 8, .inl (cA 0, 4, .inl (xd 7)))]) [0, 1, 3] rfl
                      have hDc := hD.sub (ws' := [(o, .inr (4, [.ref F, .ref G, .int lo, .int nw, .int se, .ref (pa 0), .ref an, .ref ln])), cE x xv, (x 8, .inl (cA 0, 4, .inl (xd 7)))]) [0, 1, 3] (by decide) rfl
                      have hFc := va_free (wc := [(o, .inr (4, [.ref F, .ref G, .int lo, .int nw, .int se, .ref (pa 0), .ref an, .ref ln])), cE x xv, (x 8, .inl (cA 0, 4, .inl (xd 7)))]) hD hS hA [0, 1, 3] rfl
                      refine va_calli (va_runV (As := [.int 0, .int (nI j)]) (rest := []) ⟨hx, hb, hml, hown, hts⟩ (c_X3_allowed_k l D cA H.size o F G lo nw se pa an ln x (y 0) 0 xv j (xd 7) (by first | exact he | exact en_flip he | exact en_01 he | exact en_10 he) (by omega)) (cwV 2 hts gL_isWire_X3_allowed rfl rfl rfl (by decide +kernel) ⟨Nat.le_of_ble_eq_true rfl, Nat.le_of_ble_eq_true rfl⟩) ⟨zU_blind, va_recv hK hPc (ci := 4) (q0 := 0) rfl rfl, fun U hU hW => ⟨rfl, zU_call hU hPc hW.alike hK hDc⟩⟩ rfl rfl hl.1 rfl (lv_room (Nat.le_of_ble_eq_true rfl)) dL_isWire_184 ⟨Nat.le_of_ble_eq_true rfl, Nat.le_of_ble_eq_true rfl⟩) hS (fun q _ h => hFc q h) hFc (fun zr u t H1 locs ht hvm hw hB hz1 hk1 hS => ?_)
                      obtain ⟨hP1, hD1⟩ := hB
                      rw [ht] at hP1
                      obtain ⟨hP, hD⟩ := va_join (wr := [(x 7, .inl (cA 0, 4, .inl (xd 6))), (x 9, .inr (3, [.ref (x 10), .ref (x 11), .ref (x 12), .ref (x 13), .int (nI xf), .int (nI QX.1)])), (x 10, .inl (cA 0, 12, .inl (xr 0))), (x 11, .inl (cA 0, 12, .inl (xr 1))), (x 12, .inl (cA 0, 12, .inl (xr 2))), (x 13, .inl (cA 0, 48, .inl (xr 3))), cE y yv, (y 7, .inl (cA 0, 4, .inl (yd 6))), (y 8, .inl (cA 0, 4, .inl (yd 7))), (y 9, .inr (3, [.ref (y 10), .ref (y 11), .ref (y 12), .ref (y 13), .int (nI yf), .int (nI QY.1)])), (y 10, .inl (cA 0, 12, .inl (yr 0))), (y 11, .inl (cA 0, 12, .inl (yr 1))), (y 12, .inl (cA 0, 12, .inl (yr 2))), (y 13, .inl (cA 0, 48, .inl (yr 3))), (ln, .inr (0, [.ref vb'_16, .int 0, .int ml'_16, .int (nI ((lnT sx (xd 6) 4).length))])), (ca, .inl (cA 0, 3, .inl cc)), (vb'_16, .inl (cA 2, nb'_16, .inl g'_16))]) (w1 := [(o, .inr (4, [.ref F, .ref G, .int lo, .int nw, .int se, .ref (pa 0), .ref an, .ref ln])), cE x xv, (x 8, .inl (cA 0, 4, .inl (xd 7)))]) hP hD [0, 1, 3] [2, 4, 5, 6, 7, 8, 9, 10, 11, 12, 13, 14, 15, 16, 17, 18, 19] rfl rfl (by decide) (by decide) hk1 hFc hP1 hD1
                      generalize H1 = H at hP hS ⊢
                      have hP := hP.sub (ws' := [(o, .inr (4, [.ref F, .ref G, .int lo, .int nw, .int se, .ref (pa 0), .ref an, .ref ln])), cE x xv, (x 7, .inl (cA 0, 4, .inl (xd 6))), (x 8, .inl (cA 0, 4, .inl (xd 7))), (x 9, .inr (3, [.ref (x 10), .ref (x 11), .ref (x 12), .ref (x 13), .int (nI xf), .int (nI QX.1)])), (x 10, .inl (cA 0, 12, .inl (xr 0))), (x 11, .inl (cA 0, 12, .inl (xr 1))), (x 12, .inl (cA 0, 12, .inl (xr 2))), (x 13, .inl (cA 0, 48, .inl (xr 3))), cE y yv, (y 7, .inl (cA 0, 4, .inl (yd 6))), (y 8, .inl (cA 0, 4, .inl (yd 7))), (y 9, .inr (3, [.ref (y 10), .ref (y 11), .ref (y 12), .ref (y 13), .int (nI yf), .int (nI QY.1)])), (y 10, .inl (cA 0, 12, .inl (yr 0))), (y 11, .inl (cA 0, 12, .inl (yr 1))), (y 12, .inl (cA 0, 12, .inl (yr 2))), (y 13, .inl (cA 0, 48, .inl (yr 3))), (ln, .inr (0, [.ref vb'_16, .int 0, .int ml'_16, .int (nI ((lnT sx (xd 6) 4).length))])), (ca, .inl (cA 0, 3, .inl cc)), (vb'_16, .inl (cA 2, nb'_16, .inl g'_16))]) [17, 18, 0, 19, 1, 2, 3, 4, 5, 6, 7, 8, 9, 10, 11, 12, 13, 14, 15, 16] rfl
                      have hD := hD.sub (ws' := [(o, .inr (4, [.ref F, .ref G, .int lo, .int nw, .int se, .ref (pa 0), .ref an, .ref ln])), cE x xv, (x 7, .inl (cA 0, 4, .inl (xd 6))), (x 8, .inl (cA 0, 4, .inl (xd 7))), (x 9, .inr (3, [.ref (x 10), .ref (x 11), .ref (x 12), .ref (x 13), .int (nI xf), .int (nI QX.1)])), (x 10, .inl (cA 0, 12, .inl (xr 0))), (x 11, .inl (cA 0, 12, .inl (xr 1))), (x 12, .inl (cA 0, 12, .inl (xr 2))), (x 13, .inl (cA 0, 48, .inl (xr 3))), cE y yv, (y 7, .inl (cA 0, 4, .inl (yd 6))), (y 8, .inl (cA 0, 4, .inl (yd 7))), (y 9, .inr (3, [.ref (y 10), .ref (y 11), .ref (y 12), .ref (y 13), .int (nI yf), .int (nI QY.1)])), (y 10, .inl (cA 0, 12, .inl (yr 0))), (y 11, .inl (cA 0, 12, .inl (yr 1))), (y 12, .inl (cA 0, 12, .inl (yr 2))), (y 13, .inl (cA 0, 48, .inl (yr 3))), (ln, .inr (0, [.ref vb'_16, .int 0, .int ml'_16, .int (nI ((lnT sx (xd 6) 4).length))])), (ca, .inl (cA 0, 3, .inl cc)), (vb'_16, .inl (cA 2, nb'_16, .inl g'_16))]) [17, 18, 0, 19, 1, 2, 3, 4, 5, 6, 7, 8, 9, 10, 11, 12, 13, 14, 15, 16] (by decide) rfl
                      clear hPc hDc hFc hP1 hD1 hk1 hz1
                      have hw_214 := hw
                      obtain rfl := hw
                      by_cases hal : sx = 3 ∨ sx = 4
                      · refine z_top (y := xd 7 j) (al_v hx0 hal) ?_
                        rcases (hI.2.1.1.1 j (by omega)).2.2.1 with hvl | ⟨vl, hvm, hvl⟩
                        · skip
                          refine z_top (y := (-1)) hvl ?_
                          refine lv_istore (lv' := [(7, .int (-1)), (6, .int (-1)), (5, .int (nI j)), (2, .int 1), (4, .int (nI sx)), (3, .int 0), (0, .ref o), (1, .ref ca)]) hx hb dL_isWire_187 hl (by decide) rfl (fun ls hl => ?_)
                          refine lv_iload hx hb dL_isWire_189 (lv_at hl 1 rfl) ?_
                          refine lv_iconst (v := (-1)) hx hb dL_isWire_191 (by decide) ?_
                          refine lv_icmp_lt (tgt := 265) hx hb dL_isWire_192 (by decide) (fun c_215 => absurd c_215 (by decide)) (fun _ => ?_)
                          refine lv_iload hx hb dL_isWire_195 (lv_at hl 1 rfl) ?_
                          refine lv_bipush (v := 100) hx hb dL_isWire_197 (by decide) ?_
                          refine lv_icmp_gt (tgt := 265) hx hb dL_isWire_199 (by decide) (fun c_216 => absurd c_216 (by decide)) (fun _ => ?_)
                          refine lv_aload_n hx hb dL_isWire_202 rfl (lv_at hl 6 rfl) ?_
                          refine lv_iload_n hx hb dL_isWire_203 rfl (lv_at hl 5 rfl) ?_
                          refine lv_iload hx hb dL_isWire_204 (lv_at hl 2 rfl) ?_
                          have hPc := hP.sub (ws' := [(o, .inr (4, [.ref F, .ref G, .int lo, .int nw, .int se, .ref (pa 0), .ref an, .ref ln])), cE x xv, (x 7, .inl (cA 0, 4, .inl (xd 6)))]) [0, 1, 2] rfl
                          have hDc := hD.sub (ws' := [(o, .inr (4, [.ref F, .ref G, .int lo, .int nw, .int se, .ref (pa 0), .ref an, .ref ln])), cE x xv, (x 7, .inl (cA 0, 4, .inl (xd 6)))]) [0, 1, 2] (by decide) rfl
                          have hFc := va_free (wc := [(o, .inr (4, [.ref F, .ref G, .int lo, .int nw, .int se, .ref (pa 0), .ref an, .ref ln])), cE x xv, (x 7, .inl (cA 0, 4, .inl (xd 6)))]) hD hS hA [0, 1, 2] rfl
                          refine va_calli (va_runV (As := [.int 0, .int (nI j)]) (rest := []) ⟨hx, hb, hml, hown, hts⟩ (c_X3_granted_k l D cA H.size o F G lo nw se pa an ln x (y 0) 0 xv j (xd 6) (by first | exact he | exact en_flip he | exact en_01 he | exact en_10 he) (by omega)) (cwV 2 hts gL_isWire_X3_granted rfl rfl rfl (by decide +kernel) ⟨Nat.le_of_ble_eq_true rfl, Nat.le_of_ble_eq_true rfl⟩) ⟨zU_blind, va_recv hK hPc (ci := 4) (q0 := 0) rfl rfl, fun U hU hW => ⟨rfl, zU_call hU hPc hW.alike hK hDc⟩⟩ rfl rfl hl.1 rfl (lv_room (Nat.le_of_ble_eq_true rfl)) dL_isWire_206 ⟨Nat.le_of_ble_eq_true rfl, Nat.le_of_ble_eq_true rfl⟩) hS (fun q _ h => hFc q h) hFc (fun zr u t H1 locs ht hvm hw hB hz1 hk1 hS => ?_)
                          obtain ⟨hP1, hD1⟩ := hB
                          rw [ht] at hP1
                          obtain ⟨hP, hD⟩ := va_join (wr := [(x 8, .inl (cA 0, 4, .inl (xd 7))), (x 9, .inr (3, [.ref (x 10), .ref (x 11), .ref (x 12), .ref (x 13), .int (nI xf), .int (nI QX.1)])), (x 10, .inl (cA 0, 12, .inl (xr 0))), (x 11, .inl (cA 0, 12, .inl (xr 1))), (x 12, .inl (cA 0, 12, .inl (xr 2))), (x 13, .inl (cA 0, 48, .inl (xr 3))), cE y yv, (y 7, .inl (cA 0, 4, .inl (yd 6))), (y 8, .inl (cA 0, 4, .inl (yd 7))), (y 9, .inr (3, [.ref (y 10), .ref (y 11), .ref (y 12), .ref (y 13), .int (nI yf), .int (nI QY.1)])), (y 10, .inl (cA 0, 12, .inl (yr 0))), (y 11, .inl (cA 0, 12, .inl (yr 1))), (y 12, .inl (cA 0, 12, .inl (yr 2))), (y 13, .inl (cA 0, 48, .inl (yr 3))), (ln, .inr (0, [.ref vb'_16, .int 0, .int ml'_16, .int (nI ((lnT sx (xd 6) 4).length))])), (ca, .inl (cA 0, 3, .inl cc)), (vb'_16, .inl (cA 2, nb'_16, .inl g'_16))]) (w1 := [(o, .inr (4, [.ref F, .ref G, .int lo, .int nw, .int se, .ref (pa 0), .ref an, .ref ln])), cE x xv, (x 7, .inl (cA 0, 4, .inl (xd 6)))]) hP hD [0, 1, 2] [3, 4, 5, 6, 7, 8, 9, 10, 11, 12, 13, 14, 15, 16, 17, 18, 19] rfl rfl (by decide) (by decide) hk1 hFc hP1 hD1
                          generalize H1 = H at hP hS ⊢
                          have hP := hP.sub (ws' := [(o, .inr (4, [.ref F, .ref G, .int lo, .int nw, .int se, .ref (pa 0), .ref an, .ref ln])), cE x xv, (x 7, .inl (cA 0, 4, .inl (xd 6))), (x 8, .inl (cA 0, 4, .inl (xd 7))), (x 9, .inr (3, [.ref (x 10), .ref (x 11), .ref (x 12), .ref (x 13), .int (nI xf), .int (nI QX.1)])), (x 10, .inl (cA 0, 12, .inl (xr 0))), (x 11, .inl (cA 0, 12, .inl (xr 1))), (x 12, .inl (cA 0, 12, .inl (xr 2))), (x 13, .inl (cA 0, 48, .inl (xr 3))), cE y yv, (y 7, .inl (cA 0, 4, .inl (yd 6))), (y 8, .inl (cA 0, 4, .inl (yd 7))), (y 9, .inr (3, [.ref (y 10), .ref (y 11), .ref (y 12), .ref (y 13), .int (nI yf), .int (nI QY.1)])), (y 10, .inl (cA 0, 12, .inl (yr 0))), (y 11, .inl (cA 0, 12, .inl (yr 1))), (y 12, .inl (cA 0, 12, .inl (yr 2))), (y 13, .inl (cA 0, 48, .inl (yr 3))), (ln, .inr (0, [.ref vb'_16, .int 0, .int ml'_16, .int (nI ((lnT sx (xd 6) 4).length))])), (ca, .inl (cA 0, 3, .inl cc)), (vb'_16, .inl (cA 2, nb'_16, .inl g'_16))]) [17, 18, 19, 0, 1, 2, 3, 4, 5, 6, 7, 8, 9, 10, 11, 12, 13, 14, 15, 16] rfl
                          have hD := hD.sub (ws' := [(o, .inr (4, [.ref F, .ref G, .int lo, .int nw, .int se, .ref (pa 0), .ref an, .ref ln])), cE x xv, (x 7, .inl (cA 0, 4, .inl (xd 6))), (x 8, .inl (cA 0, 4, .inl (xd 7))), (x 9, .inr (3, [.ref (x 10), .ref (x 11), .ref (x 12), .ref (x 13), .int (nI xf), .int (nI QX.1)])), (x 10, .inl (cA 0, 12, .inl (xr 0))), (x 11, .inl (cA 0, 12, .inl (xr 1))), (x 12, .inl (cA 0, 12, .inl (xr 2))), (x 13, .inl (cA 0, 48, .inl (xr 3))), cE y yv, (y 7, .inl (cA 0, 4, .inl (yd 6))), (y 8, .inl (cA 0, 4, .inl (yd 7))), (y 9, .inr (3, [.ref (y 10), .ref (y 11), .ref (y 12), .ref (y 13), .int (nI yf), .int (nI QY.1)])), (y 10, .inl (cA 0, 12, .inl (yr 0))), (y 11, .inl (cA 0, 12, .inl (yr 1))), (y 12, .inl (cA 0, 12, .inl (yr 2))), (y 13, .inl (cA 0, 48, .inl (yr 3))), (ln, .inr (0, [.ref vb'_16, .int 0, .int ml'_16, .int (nI ((lnT sx (xd 6) 4).length))])), (ca, .inl (cA 0, 3, .inl cc)), (vb'_16, .inl (cA 2, nb'_16, .inl g'_16))]) [17, 18, 19, 0, 1, 2, 3, 4, 5, 6, 7, 8, 9, 10, 11, 12, 13, 14, 15, 16] (by decide) rfl
                          clear hPc hDc hFc hP1 hD1 hk1 hz1
                          have hw_217 := hw
                          obtain rfl := hw
                          by_cases hgr : sx = 2 ∨ sx = 4
                          · refine z_top (y := xd 6 j) (gr_y hx0 hgr) ?_
                            refine z_top (y := (-1)) hva ?_
                            refine lv_iload hx hb dL_isWire_209 (lv_at hl 4 rfl) ?_
                            refine lv_iconst (v := 2) hx hb dL_isWire_211 (by decide) ?_
                            refine lv_icmp_eq (tgt := 221) hx hb dL_isWire_212 (by decide) (fun c_218 => ?_) (fun c_218 => ?_)
                            · have c_218 := (nI_eq (a := sx) (b := 2) (by omega) (by omega)).mp c_218
                              refine lv_iload hx hb dL_isWire_221 (lv_at hl 1 rfl) ?_
                              refine lv_goto (tgt := 227) hx hb dL_isWire_223 (by decide) ?_
                              refine lv_icmp_ne (tgt := 265) hx hb dL_isWire_227 (by decide) (fun c_219 => absurd c_219 (by decide)) (fun _ => ?_)
                              refine lv_iload hx hb dL_isWire_230 (lv_at hl 0 rfl) ?_
                              refine lv_iconst (v := (-1)) hx hb dL_isWire_232 (by decide) ?_
                              refine lv_icmp_lt (tgt := 265) hx hb dL_isWire_233 (by decide) (fun c_220 => absurd c_220 (by decide)) (fun _ => ?_)
                              refine lv_iload hx hb dL_isWire_236 (lv_at hl 0 rfl) ?_
                              refine lv_bipush (v := 100) hx hb dL_isWire_238 (by decide) ?_
                              refine lv_icmp_gt (tgt := 265) hx hb dL_isWire_240 (by decide) (fun c_221 => absurd c_221 (by decide)) (fun _ => ?_)
                              refine lv_iload hx hb dL_isWire_243 (lv_at hl 0 rfl) ?_
                              refine lv_iconst (v := (-1)) hx hb dL_isWire_245 (by decide) ?_
                              refine lv_icmp_eq (tgt := 261) hx hb dL_isWire_246 (by decide) (fun _ => ?_) (fun c_222 => absurd c_222 (by decide))
                              refine lv_iconst (v := 1) hx hb dL_isWire_261 (by decide) ?_
                              refine lv_goto (tgt := 266) hx hb dL_isWire_262 (by decide) ?_
                              exact kJ _ _ _ _ ⟨rfl, hP, hD, hS, lv_sub hl [2, 3, 4, 5, 6, 7] rfl⟩
                            · have c_218 := mt (nI_eq (a := sx) (b := 2) (by omega) (by omega)).mpr c_218
                              refine lv_iload hx hb dL_isWire_215 (lv_at hl 4 rfl) ?_
                              refine lv_iconst (v := 4) hx hb dL_isWire_217 (by decide) ?_
                              refine lv_icmp_ne (tgt := 226) hx hb dL_isWire_218 (by decide) (fun c_223 => ?_) (fun c_223 => ?_)
                              · have c_223 := mt (nI_eq (a := sx) (b := 4) (by omega) (by omega)).mpr c_223
                                omega
                              · have c_223 := (nI_eq (a := sx) (b := 4) (by omega) (by omega)).mp c_223
                                refine lv_iload hx hb dL_isWire_221 (lv_at hl 1 rfl) ?_
                                refine lv_goto (tgt := 227) hx hb dL_isWire_223 (by decide) ?_
                                refine lv_icmp_ne (tgt := 265) hx hb dL_isWire_227 (by decide) (fun c_224 => absurd c_224 (by decide)) (fun _ => ?_)
                                refine lv_iload hx hb dL_isWire_230 (lv_at hl 0 rfl) ?_
                                refine lv_iconst (v := (-1)) hx hb dL_isWire_232 (by decide) ?_
                                refine lv_icmp_lt (tgt := 265) hx hb dL_isWire_233 (by decide) (fun c_225 => absurd c_225 (by decide)) (fun _ => ?_)
                                refine lv_iload hx hb dL_isWire_236 (lv_at hl 0 rfl) ?_
                                refine lv_bipush (v := 100) hx hb dL_isWire_238 (by decide) ?_
                                refine lv_icmp_gt (tgt := 265) hx hb dL_isWire_240 (by decide) (fun c_226 => absurd c_226 (by decide)) (fun _ => ?_)
                                refine lv_iload hx hb dL_isWire_243 (lv_at hl 0 rfl) ?_
                                refine lv_iconst (v := (-1)) hx hb dL_isWire_245 (by decide) ?_
                                refine lv_icmp_eq (tgt := 261) hx hb dL_isWire_246 (by decide) (fun _ => ?_) (fun c_227 => absurd c_227 (by decide))
                                refine lv_iconst (v := 1) hx hb dL_isWire_261 (by decide) ?_
                                refine lv_goto (tgt := 266) hx hb dL_isWire_262 (by decide) ?_
                                exact kJ _ _ _ _ ⟨rfl, hP, hD, hS, lv_sub hl [2, 3, 4, 5, 6, 7] rfl⟩
                          · skip
                            refine z_top (y := (-1)) (gr_n hx0 hx7 hgr) ?_
                            refine lv_iload hx hb dL_isWire_209 (lv_at hl 4 rfl) ?_
                            refine lv_iconst (v := 2) hx hb dL_isWire_211 (by decide) ?_
                            refine lv_icmp_eq (tgt := 221) hx hb dL_isWire_212 (by decide) (fun c_228 => ?_) (fun c_228 => ?_)
                            · have c_228 := (nI_eq (a := sx) (b := 2) (by omega) (by omega)).mp c_228
                              omega
                            · have c_228 := mt (nI_eq (a := sx) (b := 2) (by omega) (by omega)).mpr c_228
                              refine lv_iload hx hb dL_isWire_215 (lv_at hl 4 rfl) ?_
                              refine lv_iconst (v := 4) hx hb dL_isWire_217 (by decide) ?_
                              refine lv_icmp_ne (tgt := 226) hx hb dL_isWire_218 (by decide) (fun c_229 => ?_) (fun c_229 => ?_)
                              · have c_229 := mt (nI_eq (a := sx) (b := 4) (by omega) (by omega)).mpr c_229
                                refine lv_iconst (v := (-1)) hx hb dL_isWire_226 (by decide) ?_
                                refine lv_icmp_ne (tgt := 265) hx hb dL_isWire_227 (by decide) (fun c_230 => absurd c_230 (by decide)) (fun _ => ?_)
                                refine lv_iload hx hb dL_isWire_230 (lv_at hl 0 rfl) ?_
                                refine lv_iconst (v := (-1)) hx hb dL_isWire_232 (by decide) ?_
                                refine lv_icmp_lt (tgt := 265) hx hb dL_isWire_233 (by decide) (fun c_231 => absurd c_231 (by decide)) (fun _ => ?_)
                                refine lv_iload hx hb dL_isWire_236 (lv_at hl 0 rfl) ?_
                                refine lv_bipush (v := 100) hx hb dL_isWire_238 (by decide) ?_
                                refine lv_icmp_gt (tgt := 265) hx hb dL_isWire_240 (by decide) (fun c_232 => absurd c_232 (by decide)) (fun _ => ?_)
                                refine lv_iload hx hb dL_isWire_243 (lv_at hl 0 rfl) ?_
                                refine lv_iconst (v := (-1)) hx hb dL_isWire_245 (by decide) ?_
                                refine lv_icmp_eq (tgt := 261) hx hb dL_isWire_246 (by decide) (fun _ => ?_) (fun c_233 => absurd c_233 (by decide))
                                refine lv_iconst (v := 1) hx hb dL_isWire_261 (by decide) ?_
                                refine lv_goto (tgt := 266) hx hb dL_isWire_262 (by decide) ?_
                                exact kJ _ _ _ _ ⟨rfl, hP, hD, hS, lv_sub hl [2, 3, 4, 5, 6, 7] rfl⟩
                              · have c_229 := (nI_eq (a := sx) (b := 4) (by omega) (by omega)).mp c_229
                                omega
                        · skip
                          refine z_top (y := (nI vl)) hvl ?_
                          refine lv_istore (lv' := [(7, .int (nI vl)), (6, .int (-1)), (5, .int (nI j)), (2, .int 1), (4, .int (nI sx)), (3, .int 0), (0, .ref o), (1, .ref ca)]) hx hb dL_isWire_187 hl (by decide) rfl (fun ls hl => ?_)
                          refine lv_iload hx hb dL_isWire_189 (lv_at hl 1 rfl) ?_
                          refine lv_iconst (v := (-1)) hx hb dL_isWire_191 (by decide) ?_
                          refine lv_icmp_lt (tgt := 265) hx hb dL_isWire_192 (by decide) (fun c_234 => absurd c_234 (by decide)) (fun _ => ?_)
                          refine lv_iload hx hb dL_isWire_195 (lv_at hl 1 rfl) ?_
                          refine lv_bipush (v := 100) hx hb dL_isWire_197 (by decide) ?_
                          refine lv_icmp_gt (tgt := 265) hx hb dL_isWire_199 (by decide) (fun c_235 => absurd c_235 (by decide)) (fun _ => ?_)
                          refine lv_aload_n hx hb dL_isWire_202 rfl (lv_at hl 6 rfl) ?_
                          refine lv_iload_n hx hb dL_isWire_203 rfl (lv_at hl 5 rfl) ?_
                          refine lv_iload hx hb dL_isWire_204 (lv_at hl 2 rfl) ?_
                          have hPc := hP.sub (ws' := [(o, .inr (4, [.ref F, .ref G, .int lo, .int nw, .int se, .ref (pa 0), .ref an, .ref ln])), cE x xv, (x 7, .inl (cA 0, 4, .inl (xd 6)))]) [0, 1, 2] rfl
                          have hDc := hD.sub (ws' := [(o, .inr (4, [.ref F, .ref G, .int lo, .int nw, .int se, .ref (pa 0), .ref an, .ref ln])), cE x xv, (x 7, .inl (cA 0, 4, .inl (xd 6)))]) [0, 1, 2] (by decide) rfl
                          have hFc := va_free (wc := [(o, .inr (4, [.ref F, .ref G, .int lo, .int nw, .int se, .ref (pa 0), .ref an, .ref ln])), cE x xv, (x 7, .inl (cA 0, 4, .inl (xd 6)))]) hD hS hA [0, 1, 2] rfl
                          refine va_calli (va_runV (As := [.int 0, .int (nI j)]) (rest := []) ⟨hx, hb, hml, hown, hts⟩ (c_X3_granted_k l D cA H.size o F G lo nw se pa an ln x (y 0) 0 xv j (xd 6) (by first | exact he | exact en_flip he | exact en_01 he | exact en_10 he) (by omega)) (cwV 2 hts gL_isWire_X3_granted rfl rfl rfl (by decide +kernel) ⟨Nat.le_of_ble_eq_true rfl, Nat.le_of_ble_eq_true rfl⟩) ⟨zU_blind, va_recv hK hPc (ci := 4) (q0 := 0) rfl rfl, fun U hU hW => ⟨rfl, zU_call hU hPc hW.alike hK hDc⟩⟩ rfl rfl hl.1 rfl (lv_room (Nat.le_of_ble_eq_true rfl)) dL_isWire_206 ⟨Nat.le_of_ble_eq_true rfl, Nat.le_of_ble_eq_true rfl⟩) hS (fun q _ h => hFc q h) hFc (fun zr u t H1 locs ht hvm hw hB hz1 hk1 hS => ?_)
                          obtain ⟨hP1, hD1⟩ := hB
                          rw [ht] at hP1
                          obtain ⟨hP, hD⟩ := va_join (wr := [(x 8, .inl (cA 0, 4, .inl (xd 7))), (x 9, .inr (3, [.ref (x 10), .ref (x 11), .ref (x 12), .ref (x 13), .int (nI xf), .int (nI QX.1)])), (x 10, .inl (cA 0, 12, .inl (xr 0))), (x 11, .inl (cA 0, 12, .inl (xr 1))), (x 12, .inl (cA 0, 12, .inl (xr 2))), (x 13, .inl (cA 0, 48, .inl (xr 3))), cE y yv, (y 7, .inl (cA 0, 4, .inl (yd 6))), (y 8, .inl (cA 0, 4, .inl (yd 7))), (y 9, .inr (3, [.ref (y 10), .ref (y 11), .ref (y 12), .ref (y 13), .int (nI yf), .int (nI QY.1)])), (y 10, .inl (cA 0, 12, .inl (yr 0))), (y 11, .inl (cA 0, 12, .inl (yr 1))), (y 12, .inl (cA 0, 12, .inl (yr 2))), (y 13, .inl (cA 0, 48, .inl (yr 3))), (ln, .inr (0, [.ref vb'_16, .int 0, .int ml'_16, .int (nI ((lnT sx (xd 6) 4).length))])), (ca, .inl (cA 0, 3, .inl cc)), (vb'_16, .inl (cA 2, nb'_16, .inl g'_16))]) (w1 := [(o, .inr (4, [.ref F, .ref G, .int lo, .int nw, .int se, .ref (pa 0), .ref an, .ref ln])), cE x xv, (x 7, .inl (cA 0, 4, .inl (xd 6)))]) hP hD [0, 1, 2] [3, 4, 5, 6, 7, 8, 9, 10, 11, 12, 13, 14, 15, 16, 17, 18, 19] rfl rfl (by decide) (by decide) hk1 hFc hP1 hD1
                          generalize H1 = H at hP hS ⊢
                          have hP := hP.sub (ws' := [(o, .inr (4, [.ref F, .ref G, .int lo, .int nw, .int se, .ref (pa 0), .ref an, .ref ln])), cE x xv, (x 7, .inl (cA 0, 4, .inl (xd 6))), (x 8, .inl (cA 0, 4, .inl (xd 7))), (x 9, .inr (3, [.ref (x 10), .ref (x 11), .ref (x 12), .ref (x 13), .int (nI xf), .int (nI QX.1)])), (x 10, .inl (cA 0, 12, .inl (xr 0))), (x 11, .inl (cA 0, 12, .inl (xr 1))), (x 12, .inl (cA 0, 12, .inl (xr 2))), (x 13, .inl (cA 0, 48, .inl (xr 3))), cE y yv, (y 7, .inl (cA 0, 4, .inl (yd 6))), (y 8, .inl (cA 0, 4, .inl (yd 7))), (y 9, .inr (3, [.ref (y 10), .ref (y 11), .ref (y 12), .ref (y 13), .int (nI yf), .int (nI QY.1)])), (y 10, .inl (cA 0, 12, .inl (yr 0))), (y 11, .inl (cA 0, 12, .inl (yr 1))), (y 12, .inl (cA 0, 12, .inl (yr 2))), (y 13, .inl (cA 0, 48, .inl (yr 3))), (ln, .inr (0, [.ref vb'_16, .int 0, .int ml'_16, .int (nI ((lnT sx (xd 6) 4).length))])), (ca, .inl (cA 0, 3, .inl cc)), (vb'_16, .inl (cA 2, nb'_16, .inl g'_16))]) [17, 18, 19, 0, 1, 2, 3, 4, 5, 6, 7, 8, 9, 10, 11, 12, 13, 14, 15, 16] rfl
                          have hD := hD.sub (ws' := [(o, .inr (4, [.ref F, .ref G, .int lo, .int nw, .int se, .ref (pa 0), .ref an, .ref ln])), cE x xv, (x 7, .inl (cA 0, 4, .inl (xd 6))), (x 8, .inl (cA 0, 4, .inl (xd 7))), (x 9, .inr (3, [.ref (x 10), .ref (x 11), .ref (x 12), .ref (x 13), .int (nI xf), .int (nI QX.1)])), (x 10, .inl (cA 0, 12, .inl (xr 0))), (x 11, .inl (cA 0, 12, .inl (xr 1))), (x 12, .inl (cA 0, 12, .inl (xr 2))), (x 13, .inl (cA 0, 48, .inl (xr 3))), cE y yv, (y 7, .inl (cA 0, 4, .inl (yd 6))), (y 8, .inl (cA 0, 4, .inl (yd 7))), (y 9, .inr (3, [.ref (y 10), .ref (y 11), .ref (y 12), .ref (y 13), .int (nI yf), .int (nI QY.1)])), (y 10, .inl (cA 0, 12, .inl (yr 0))), (y 11, .inl (cA 0, 12, .inl (yr 1))), (y 12, .inl (cA 0, 12, .inl (yr 2))), (y 13, .inl (cA 0, 48, .inl (yr 3))), (ln, .inr (0, [.ref vb'_16, .int 0, .int ml'_16, .int (nI ((lnT sx (xd 6) 4).length))])), (ca, .inl (cA 0, 3, .inl cc)), (vb'_16, .inl (cA 2, nb'_16, .inl g'_16))]) [17, 18, 19, 0, 1, 2, 3, 4, 5, 6, 7, 8, 9, 10, 11, 12, 13, 14, 15, 16] (by decide) rfl
                          clear hPc hDc hFc hP1 hD1 hk1 hz1
                          have hw_236 := hw
                          obtain rfl := hw
                          by_cases hgr : sx = 2 ∨ sx = 4
                          · refine z_top (y := xd 6 j) (gr_y hx0 hgr) ?_
                            refine z_top (y := (-1)) hva ?_
                            refine lv_iload hx hb dL_isWire_209 (lv_at hl 4 rfl) ?_
                            refine lv_iconst (v := 2) hx hb dL_isWire_211 (by decide) ?_
                            refine lv_icmp_eq (tgt := 221) hx hb dL_isWire_212 (by decide) (fun c_237 => ?_) (fun c_237 => ?_)
                            · have c_237 := (nI_eq (a := sx) (b := 2) (by omega) (by omega)).mp c_237
                              refine lv_iload hx hb dL_isWire_221 (lv_at hl 1 rfl) ?_
                              refine lv_goto (tgt := 227) hx hb dL_isWire_223 (by decide) ?_
                              refine lv_icmp_ne (tgt := 265) hx hb dL_isWire_227 (by decide) (fun c_238 => absurd c_238 (by decide)) (fun _ => ?_)
                              refine lv_iload hx hb dL_isWire_230 (lv_at hl 0 rfl) ?_
                              refine lv_iconst (v := (-1)) hx hb dL_isWire_232 (by decide) ?_
                              refine lv_icmp_lt (tgt := 265) hx hb dL_isWire_233 (by decide) (fun c_239 => absurd c_239 (nneg_lt (by omega) (by decide))) (fun _ => ?_)
                              refine lv_iload hx hb dL_isWire_236 (lv_at hl 0 rfl) ?_
                              refine lv_bipush (v := 100) hx hb dL_isWire_238 (by decide) ?_
                              refine lv_icmp_gt (tgt := 265) hx hb dL_isWire_240 (by decide) (fun c_240 => ?_) (fun c_240 => ?_)
                              · have c_240 := (nI_ltI (a := 100) (b := vl) (by omega) (by omega)).mp c_240
                                refine lv_iconst (v := 0) hx hb dL_isWire_265 (by decide) ?_
                                exfalso; omega
                              · have c_240 := mt (nI_ltI (a := 100) (b := vl) (by omega) (by omega)).mpr c_240
                                refine lv_iload hx hb dL_isWire_243 (lv_at hl 0 rfl) ?_
                                refine lv_iconst (v := (-1)) hx hb dL_isWire_245 (by decide) ?_
                                refine lv_icmp_eq (tgt := 261) hx hb dL_isWire_246 (by decide) (fun c_241 => absurd c_241 (nneg_eq (by omega) (by decide))) (fun _ => ?_)
                                refine lv_iload hx hb dL_isWire_249 (lv_at hl 4 rfl) ?_
                                refine lv_iconst (v := 3) hx hb dL_isWire_251 (by decide) ?_
                                refine lv_icmp_eq (tgt := 261) hx hb dL_isWire_252 (by decide) (fun c_242 => ?_) (fun c_242 => ?_)
                                · have c_242 := (nI_eq (a := sx) (b := 3) (by omega) (by omega)).mp c_242
                                  exact absurd (c_237.symm.trans c_242) (by decide)
                                · have c_242 := mt (nI_eq (a := sx) (b := 3) (by omega) (by omega)).mpr c_242
                                  refine lv_iload hx hb dL_isWire_255 (lv_at hl 4 rfl) ?_
                                  refine lv_iconst (v := 4) hx hb dL_isWire_257 (by decide) ?_
                                  refine lv_icmp_ne (tgt := 265) hx hb dL_isWire_258 (by decide) (fun c_243 => ?_) (fun c_243 => ?_)
                                  · have c_243 := mt (nI_eq (a := sx) (b := 4) (by omega) (by omega)).mpr c_243
                                    refine lv_iconst (v := 0) hx hb dL_isWire_265 (by decide) ?_
                                    exfalso; omega
                                  · have c_243 := (nI_eq (a := sx) (b := 4) (by omega) (by omega)).mp c_243
                                    exact absurd (c_237.symm.trans c_243) (by decide)
                            · have c_237 := mt (nI_eq (a := sx) (b := 2) (by omega) (by omega)).mpr c_237
                              refine lv_iload hx hb dL_isWire_215 (lv_at hl 4 rfl) ?_
                              refine lv_iconst (v := 4) hx hb dL_isWire_217 (by decide) ?_
                              refine lv_icmp_ne (tgt := 226) hx hb dL_isWire_218 (by decide) (fun c_244 => ?_) (fun c_244 => ?_)
                              · have c_244 := mt (nI_eq (a := sx) (b := 4) (by omega) (by omega)).mpr c_244
                                omega
                              · have c_244 := (nI_eq (a := sx) (b := 4) (by omega) (by omega)).mp c_244
                                refine lv_iload hx hb dL_isWire_221 (lv_at hl 1 rfl) ?_
                                refine lv_goto (tgt := 227) hx hb dL_isWire_223 (by decide) ?_
                                refine lv_icmp_ne (tgt := 265) hx hb dL_isWire_227 (by decide) (fun c_245 => absurd c_245 (by decide)) (fun _ => ?_)
                                refine lv_iload hx hb dL_isWire_230 (lv_at hl 0 rfl) ?_
                                refine lv_iconst (v := (-1)) hx hb dL_isWire_232 (by decide) ?_
                                refine lv_icmp_lt (tgt := 265) hx hb dL_isWire_233 (by decide) (fun c_246 => absurd c_246 (nneg_lt (by omega) (by decide))) (fun _ => ?_)
                                refine lv_iload hx hb dL_isWire_236 (lv_at hl 0 rfl) ?_
                                refine lv_bipush (v := 100) hx hb dL_isWire_238 (by decide) ?_
                                refine lv_icmp_gt (tgt := 265) hx hb dL_isWire_240 (by decide) (fun c_247 => ?_) (fun c_247 => ?_)
                                · have c_247 := (nI_ltI (a := 100) (b := vl) (by omega) (by omega)).mp c_247
                                  refine lv_iconst (v := 0) hx hb dL_isWire_265 (by decide) ?_
                                  exfalso; omega
                                · have c_247 := mt (nI_ltI (a := 100) (b := vl) (by omega) (by omega)).mpr c_247
                                  refine lv_iload hx hb dL_isWire_243 (lv_at hl 0 rfl) ?_
                                  refine lv_iconst (v := (-1)) hx hb dL_isWire_245 (by decide) ?_
                                  refine lv_icmp_eq (tgt := 261) hx hb dL_isWire_246 (by decide) (fun c_248 => absurd c_248 (nneg_eq (by omega) (by decide))) (fun _ => ?_)
                                  refine lv_iload hx hb dL_isWire_249 (lv_at hl 4 rfl) ?_
                                  refine lv_iconst (v := 3) hx hb dL_isWire_251 (by decide) ?_
                                  refine lv_icmp_eq (tgt := 261) hx hb dL_isWire_252 (by decide) (fun c_249 => ?_) (fun c_249 => ?_)
                                  · have c_249 := (nI_eq (a := sx) (b := 3) (by omega) (by omega)).mp c_249
                                    exact absurd (c_244.symm.trans c_249) (by decide)
                                  · have c_249 := mt (nI_eq (a := sx) (b := 3) (by omega) (by omega)).mpr c_249
                                    refine lv_iload hx hb dL_isWire_255 (lv_at hl 4 rfl) ?_
                                    refine lv_iconst (v := 4) hx hb dL_isWire_257 (by decide) ?_
                                    refine lv_icmp_ne (tgt := 265) hx hb dL_isWire_258 (by decide) (fun c_250 => ?_) (fun c_250 => ?_)
                                    · have c_250 := mt (nI_eq (a := sx) (b := 4) (by omega) (by omega)).mpr c_250
                                      exact absurd c_244 c_250
                                    · have c_250 := (nI_eq (a := sx) (b := 4) (by omega) (by omega)).mp c_250
                                      refine lv_iconst (v := 1) hx hb dL_isWire_261 (by decide) ?_
                                      refine lv_goto (tgt := 266) hx hb dL_isWire_262 (by decide) ?_
                                      exact kJ _ _ _ _ ⟨rfl, hP, hD, hS, lv_sub hl [2, 3, 4, 5, 6, 7] rfl⟩
                          · skip
                            refine z_top (y := (-1)) (gr_n hx0 hx7 hgr) ?_
                            refine lv_iload hx hb dL_isWire_209 (lv_at hl 4 rfl) ?_
                            refine lv_iconst (v := 2) hx hb dL_isWire_211 (by decide) ?_
                            refine lv_icmp_eq (tgt := 221) hx hb dL_isWire_212 (by decide) (fun c_251 => ?_) (fun c_251 => ?_)
                            · have c_251 := (nI_eq (a := sx) (b := 2) (by omega) (by omega)).mp c_251
                              omega
                            · have c_251 := mt (nI_eq (a := sx) (b := 2) (by omega) (by omega)).mpr c_251
                              refine lv_iload hx hb dL_isWire_215 (lv_at hl 4 rfl) ?_
                              refine lv_iconst (v := 4) hx hb dL_isWire_217 (by decide) ?_
                              refine lv_icmp_ne (tgt := 226) hx hb dL_isWire_218 (by decide) (fun c_252 => ?_) (fun c_252 => ?_)
                              · have c_252 := mt (nI_eq (a := sx) (b := 4) (by omega) (by omega)).mpr c_252
                                refine lv_iconst (v := (-1)) hx hb dL_isWire_226 (by decide) ?_
                                refine lv_icmp_ne (tgt := 265) hx hb dL_isWire_227 (by decide) (fun c_253 => absurd c_253 (by decide)) (fun _ => ?_)
                                refine lv_iload hx hb dL_isWire_230 (lv_at hl 0 rfl) ?_
                                refine lv_iconst (v := (-1)) hx hb dL_isWire_232 (by decide) ?_
                                refine lv_icmp_lt (tgt := 265) hx hb dL_isWire_233 (by decide) (fun c_254 => absurd c_254 (nneg_lt (by omega) (by decide))) (fun _ => ?_)
                                refine lv_iload hx hb dL_isWire_236 (lv_at hl 0 rfl) ?_
                                refine lv_bipush (v := 100) hx hb dL_isWire_238 (by decide) ?_
                                refine lv_icmp_gt (tgt := 265) hx hb dL_isWire_240 (by decide) (fun c_255 => ?_) (fun c_255 => ?_)
                                · have c_255 := (nI_ltI (a := 100) (b := vl) (by omega) (by omega)).mp c_255
                                  refine lv_iconst (v := 0) hx hb dL_isWire_265 (by decide) ?_
                                  exfalso; omega
                                · have c_255 := mt (nI_ltI (a := 100) (b := vl) (by omega) (by omega)).mpr c_255
                                  refine lv_iload hx hb dL_isWire_243 (lv_at hl 0 rfl) ?_
                                  refine lv_iconst (v := (-1)) hx hb dL_isWire_245 (by decide) ?_
                                  refine lv_icmp_eq (tgt := 261) hx hb dL_isWire_246 (by decide) (fun c_256 => absurd c_256 (nneg_eq (by omega) (by decide))) (fun _ => ?_)
                                  refine lv_iload hx hb dL_isWire_249 (lv_at hl 4 rfl) ?_
                                  refine lv_iconst (v := 3) hx hb dL_isWire_251 (by decide) ?_
                                  refine lv_icmp_eq (tgt := 261) hx hb dL_isWire_252 (by decide) (fun c_257 => ?_) (fun c_257 => ?_)
                                  · have c_257 := (nI_eq (a := sx) (b := 3) (by omega) (by omega)).mp c_257
                                    refine lv_iconst (v := 1) hx hb dL_isWire_261 (by decide) ?_
                                    refine lv_goto (tgt := 266) hx hb dL_isWire_262 (by decide) ?_
                                    exact kJ _ _ _ _ ⟨rfl, hP, hD, hS, lv_sub hl [2, 3, 4, 5, 6, 7] rfl⟩
                                  · have c_257 := mt (nI_eq (a := sx) (b := 3) (by omega) (by omega)).mpr c_257
                                    refine lv_iload hx hb dL_isWire_255 (lv_at hl 4 rfl) ?_
                                    refine lv_iconst (v := 4) hx hb dL_isWire_257 (by decide) ?_
                                    refine lv_icmp_ne (tgt := 265) hx hb dL_isWire_258 (by decide) (fun c_258 => ?_) (fun c_258 => ?_)
                                    · have c_258 := mt (nI_eq (a := sx) (b := 4) (by omega) (by omega)).mpr c_258
                                      refine lv_iconst (v := 0) hx hb dL_isWire_265 (by decide) ?_
                                      exfalso; omega
                                    · have c_258 := (nI_eq (a := sx) (b := 4) (by omega) (by omega)).mp c_258
                                      exact absurd c_258 c_252
                              · have c_252 := (nI_eq (a := sx) (b := 4) (by omega) (by omega)).mp c_252
                                omega
                      · skip
                        refine z_top (y := (-1)) (al_n hx0 hx7 hal) ?_
                        refine lv_istore (lv' := [(7, .int (-1)), (6, .int (-1)), (5, .int (nI j)), (2, .int 1), (4, .int (nI sx)), (3, .int 0), (0, .ref o), (1, .ref ca)]) hx hb dL_isWire_187 hl (by decide) rfl (fun ls hl => ?_)
                        refine lv_iload hx hb dL_isWire_189 (lv_at hl 1 rfl) ?_
                        refine lv_iconst (v := (-1)) hx hb dL_isWire_191 (by decide) ?_
                        refine lv_icmp_lt (tgt := 265) hx hb dL_isWire_192 (by decide) (fun c_259 => absurd c_259 (by decide)) (fun _ => ?_)
                        refine lv_iload hx hb dL_isWire_195 (lv_at hl 1 rfl) ?_
                        refine lv_bipush (v := 100) hx hb dL_isWire_197 (by decide) ?_
                        refine lv_icmp_gt (tgt := 265) hx hb dL_isWire_199 (by decide) (fun c_260 => absurd c_260 (by decide)) (fun _ => ?_)
                        refine lv_aload_n hx hb dL_isWire_202 rfl (lv_at hl 6 rfl) ?_
                        refine lv_iload_n hx hb dL_isWire_203 rfl (lv_at hl 5 rfl) ?_
                        refine lv_iload hx hb dL_isWire_204 (lv_at hl 2 rfl) ?_
                        have hPc := hP.sub (ws' := [(o, .inr (4, [.ref F, .ref G, .int lo, .int nw, .int se, .ref (pa 0), .ref an, .ref ln])), cE x xv, (x 7, .inl (cA 0, 4, .inl (xd 6)))]) [0, 1, 2] rfl
                        have hDc := hD.sub (ws' := [(o, .inr (4, [.ref F, .ref G, .int lo, .int nw, .int se, .ref (pa 0), .ref an, .ref ln])), cE x xv, (x 7, .inl (cA 0, 4, .inl (xd 6)))]) [0, 1, 2] (by decide) rfl
                        have hFc := va_free (wc := [(o, .inr (4, [.ref F, .ref G, .int lo, .int nw, .int se, .ref (pa 0), .ref an, .ref ln])), cE x xv, (x 7, .inl (cA 0, 4, .inl (xd 6)))]) hD hS hA [0, 1, 2] rfl
                        refine va_calli (va_runV (As := [.int 0, .int (nI j)]) (rest := []) ⟨hx, hb, hml, hown, hts⟩ (c_X3_granted_k l D cA H.size o F G lo nw se pa an ln x (y 0) 0 xv j (xd 6) (by first | exact he | exact en_flip he | exact en_01 he | exact en_10 he) (by omega)) (cwV 2 hts gL_isWire_X3_granted rfl rfl rfl (by decide +kernel) ⟨Nat.le_of_ble_eq_true rfl, Nat.le_of_ble_eq_true rfl⟩) ⟨zU_blind, va_recv hK hPc (ci := 4) (q0 := 0) rfl rfl, fun U hU hW => ⟨rfl, zU_call hU hPc hW.alike hK hDc⟩⟩ rfl rfl hl.1 rfl (lv_room (Nat.le_of_ble_eq_true rfl)) dL_isWire_206 ⟨Nat.le_of_ble_eq_true rfl, Nat.le_of_ble_eq_true rfl⟩) hS (fun q _ h => hFc q h) hFc (fun zr u t H1 locs ht hvm hw hB hz1 hk1 hS => ?_)
                        obtain ⟨hP1, hD1⟩ := hB
                        rw [ht] at hP1
                        obtain ⟨hP, hD⟩ := va_join (wr := [(x 8, .inl (cA 0, 4, .inl (xd 7))), (x 9, .inr (3, [.ref (x 10), .ref (x 11), .ref (x 12), .ref (x 13), .int (nI xf), .int (nI QX.1)])), (x 10, .inl (cA 0, 12, .inl (xr 0))), (x 11, .inl (cA 0, 12, .inl (xr 1))), (x 12, .inl (cA 0, 12, .inl (xr 2))), (x 13, .inl (cA 0, 48, .inl (xr 3))), cE y yv, (y 7, .inl (cA 0, 4, .inl (yd 6))), (y 8, .inl (cA 0, 4, .inl (yd 7))), (y 9, .inr (3, [.ref (y 10), .ref (y 11), .ref (y 12), .ref (y 13), .int (nI yf), .int (nI QY.1)])), (y 10, .inl (cA 0, 12, .inl (yr 0))), (y 11, .inl (cA 0, 12, .inl (yr 1))), (y 12, .inl (cA 0, 12, .inl (yr 2))), (y 13, .inl (cA 0, 48, .inl (yr 3))), (ln, .inr (0, [.ref vb'_16, .int 0, .int ml'_16, .int (nI ((lnT sx (xd 6) 4).length))])), (ca, .inl (cA 0, 3, .inl cc)), (vb'_16, .inl (cA 2, nb'_16, .inl g'_16))]) (w1 := [(o, .inr (4, [.ref F, .ref G, .int lo, .int nw, .int se, .ref (pa 0), .ref an, .ref ln])), cE x xv, (x 7, .inl (cA 0, 4, .inl (xd 6)))]) hP hD [0, 1, 2] [3, 4, 5, 6, 7, 8, 9, 10, 11, 12, 13, 14, 15, 16, 17, 18, 19] rfl rfl (by decide) (by decide) hk1 hFc hP1 hD1
                        generalize H1 = H at hP hS ⊢
                        have hP := hP.sub (ws' := [(o, .inr (4, [.ref F, .ref G, .int lo, .int nw, .int se, .ref (pa 0), .ref an, .ref ln])), cE x xv, (x 7, .inl (cA 0, 4, .inl (xd 6))), (x 8, .inl (cA 0, 4, .inl (xd 7))), (x 9, .inr (3, [.ref (x 10), .ref (x 11), .ref (x 12), .ref (x 13), .int (nI xf), .int (nI QX.1)])), (x 10, .inl (cA 0, 12, .inl (xr 0))), (x 11, .inl (cA 0, 12, .inl (xr 1))), (x 12, .inl (cA 0, 12, .inl (xr 2))), (x 13, .inl (cA 0, 48, .inl (xr 3))), cE y yv, (y 7, .inl (cA 0, 4, .inl (yd 6))), (y 8, .inl (cA 0, 4, .inl (yd 7))), (y 9, .inr (3, [.ref (y 10), .ref (y 11), .ref (y 12), .ref (y 13), .int (nI yf), .int (nI QY.1)])), (y 10, .inl (cA 0, 12, .inl (yr 0))), (y 11, .inl (cA 0, 12, .inl (yr 1))), (y 12, .inl (cA 0, 12, .inl (yr 2))), (y 13, .inl (cA 0, 48, .inl (yr 3))), (ln, .inr (0, [.ref vb'_16, .int 0, .int ml'_16, .int (nI ((lnT sx (xd 6) 4).length))])), (ca, .inl (cA 0, 3, .inl cc)), (vb'_16, .inl (cA 2, nb'_16, .inl g'_16))]) [17, 18, 19, 0, 1, 2, 3, 4, 5, 6, 7, 8, 9, 10, 11, 12, 13, 14, 15, 16] rfl
                        have hD := hD.sub (ws' := [(o, .inr (4, [.ref F, .ref G, .int lo, .int nw, .int se, .ref (pa 0), .ref an, .ref ln])), cE x xv, (x 7, .inl (cA 0, 4, .inl (xd 6))), (x 8, .inl (cA 0, 4, .inl (xd 7))), (x 9, .inr (3, [.ref (x 10), .ref (x 11), .ref (x 12), .ref (x 13), .int (nI xf), .int (nI QX.1)])), (x 10, .inl (cA 0, 12, .inl (xr 0))), (x 11, .inl (cA 0, 12, .inl (xr 1))), (x 12, .inl (cA 0, 12, .inl (xr 2))), (x 13, .inl (cA 0, 48, .inl (xr 3))), cE y yv, (y 7, .inl (cA 0, 4, .inl (yd 6))), (y 8, .inl (cA 0, 4, .inl (yd 7))), (y 9, .inr (3, [.ref (y 10), .ref (y 11), .ref (y 12), .ref (y 13), .int (nI yf), .int (nI QY.1)])), (y 10, .inl (cA 0, 12, .inl (yr 0))), (y 11, .inl (cA 0, 12, .inl (yr 1))), (y 12, .inl (cA 0, 12, .inl (yr 2))), (y 13, .inl (cA 0, 48, .inl (yr 3))), (ln, .inr (0, [.ref vb'_16, .int 0, .int ml'_16, .int (nI ((lnT sx (xd 6) 4).length))])), (ca, .inl (cA 0, 3, .inl cc)), (vb'_16, .inl (cA 2, nb'_16, .inl g'_16))]) [17, 18, 19, 0, 1, 2, 3, 4, 5, 6, 7, 8, 9, 10, 11, 12, 13, 14, 15, 16] (by decide) rfl
                        clear hPc hDc hFc hP1 hD1 hk1 hz1
                        have hw_261 := hw
                        obtain rfl := hw
                        by_cases hgr : sx = 2 ∨ sx = 4
                        · refine z_top (y := xd 6 j) (gr_y hx0 hgr) ?_
                          refine z_top (y := (-1)) hva ?_
                          refine lv_iload hx hb dL_isWire_209 (lv_at hl 4 rfl) ?_
                          refine lv_iconst (v := 2) hx hb dL_isWire_211 (by decide) ?_
                          refine lv_icmp_eq (tgt := 221) hx hb dL_isWire_212 (by decide) (fun c_262 => ?_) (fun c_262 => ?_)
                          · have c_262 := (nI_eq (a := sx) (b := 2) (by omega) (by omega)).mp c_262
                            refine lv_iload hx hb dL_isWire_221 (lv_at hl 1 rfl) ?_
                            refine lv_goto (tgt := 227) hx hb dL_isWire_223 (by decide) ?_
                            refine lv_icmp_ne (tgt := 265) hx hb dL_isWire_227 (by decide) (fun c_263 => absurd c_263 (by decide)) (fun _ => ?_)
                            refine lv_iload hx hb dL_isWire_230 (lv_at hl 0 rfl) ?_
                            refine lv_iconst (v := (-1)) hx hb dL_isWire_232 (by decide) ?_
                            refine lv_icmp_lt (tgt := 265) hx hb dL_isWire_233 (by decide) (fun c_264 => absurd c_264 (by decide)) (fun _ => ?_)
                            refine lv_iload hx hb dL_isWire_236 (lv_at hl 0 rfl) ?_
                            refine lv_bipush (v := 100) hx hb dL_isWire_238 (by decide) ?_
                            refine lv_icmp_gt (tgt := 265) hx hb dL_isWire_240 (by decide) (fun c_265 => absurd c_265 (by decide)) (fun _ => ?_)
                            refine lv_iload hx hb dL_isWire_243 (lv_at hl 0 rfl) ?_
                            refine lv_iconst (v := (-1)) hx hb dL_isWire_245 (by decide) ?_
                            refine lv_icmp_eq (tgt := 261) hx hb dL_isWire_246 (by decide) (fun _ => ?_) (fun c_266 => absurd c_266 (by decide))
                            refine lv_iconst (v := 1) hx hb dL_isWire_261 (by decide) ?_
                            refine lv_goto (tgt := 266) hx hb dL_isWire_262 (by decide) ?_
                            exact kJ _ _ _ _ ⟨rfl, hP, hD, hS, lv_sub hl [2, 3, 4, 5, 6, 7] rfl⟩
                          · have c_262 := mt (nI_eq (a := sx) (b := 2) (by omega) (by omega)).mpr c_262
                            refine lv_iload hx hb dL_isWire_215 (lv_at hl 4 rfl) ?_
                            refine lv_iconst (v := 4) hx hb dL_isWire_217 (by decide) ?_
                            refine lv_icmp_ne (tgt := 226) hx hb dL_isWire_218 (by decide) (fun c_267 => ?_) (fun c_267 => ?_)
                            · have c_267 := mt (nI_eq (a := sx) (b := 4) (by omega) (by omega)).mpr c_267
                              omega
                            · have c_267 := (nI_eq (a := sx) (b := 4) (by omega) (by omega)).mp c_267
                              refine lv_iload hx hb dL_isWire_221 (lv_at hl 1 rfl) ?_
                              refine lv_goto (tgt := 227) hx hb dL_isWire_223 (by decide) ?_
                              refine lv_icmp_ne (tgt := 265) hx hb dL_isWire_227 (by decide) (fun c_268 => absurd c_268 (by decide)) (fun _ => ?_)
                              refine lv_iload hx hb dL_isWire_230 (lv_at hl 0 rfl) ?_
                              refine lv_iconst (v := (-1)) hx hb dL_isWire_232 (by decide) ?_
                              refine lv_icmp_lt (tgt := 265) hx hb dL_isWire_233 (by decide) (fun c_269 => absurd c_269 (by decide)) (fun _ => ?_)
                              refine lv_iload hx hb dL_isWire_236 (lv_at hl 0 rfl) ?_
                              refine lv_bipush (v := 100) hx hb dL_isWire_238 (by decide) ?_
                              refine lv_icmp_gt (tgt := 265) hx hb dL_isWire_240 (by decide) (fun c_270 => absurd c_270 (by decide)) (fun _ => ?_)
                              refine lv_iload hx hb dL_isWire_243 (lv_at hl 0 rfl) ?_
                              refine lv_iconst (v := (-1)) hx hb dL_isWire_245 (by decide) ?_
                              refine lv_icmp_eq (tgt := 261) hx hb dL_isWire_246 (by decide) (fun _ => ?_) (fun c_271 => absurd c_271 (by decide))
                              refine lv_iconst (v := 1) hx hb dL_isWire_261 (by decide) ?_
                              refine lv_goto (tgt := 266) hx hb dL_isWire_262 (by decide) ?_
                              exact kJ _ _ _ _ ⟨rfl, hP, hD, hS, lv_sub hl [2, 3, 4, 5, 6, 7] rfl⟩
                        · skip
                          refine z_top (y := (-1)) (gr_n hx0 hx7 hgr) ?_
                          refine lv_iload hx hb dL_isWire_209 (lv_at hl 4 rfl) ?_
                          refine lv_iconst (v := 2) hx hb dL_isWire_211 (by decide) ?_
                          refine lv_icmp_eq (tgt := 221) hx hb dL_isWire_212 (by decide) (fun c_272 => ?_) (fun c_272 => ?_)
                          · have c_272 := (nI_eq (a := sx) (b := 2) (by omega) (by omega)).mp c_272
                            omega
                          · have c_272 := mt (nI_eq (a := sx) (b := 2) (by omega) (by omega)).mpr c_272
                            refine lv_iload hx hb dL_isWire_215 (lv_at hl 4 rfl) ?_
                            refine lv_iconst (v := 4) hx hb dL_isWire_217 (by decide) ?_
                            refine lv_icmp_ne (tgt := 226) hx hb dL_isWire_218 (by decide) (fun c_273 => ?_) (fun c_273 => ?_)
                            · have c_273 := mt (nI_eq (a := sx) (b := 4) (by omega) (by omega)).mpr c_273
                              refine lv_iconst (v := (-1)) hx hb dL_isWire_226 (by decide) ?_
                              refine lv_icmp_ne (tgt := 265) hx hb dL_isWire_227 (by decide) (fun c_274 => absurd c_274 (by decide)) (fun _ => ?_)
                              refine lv_iload hx hb dL_isWire_230 (lv_at hl 0 rfl) ?_
                              refine lv_iconst (v := (-1)) hx hb dL_isWire_232 (by decide) ?_
                              refine lv_icmp_lt (tgt := 265) hx hb dL_isWire_233 (by decide) (fun c_275 => absurd c_275 (by decide)) (fun _ => ?_)
                              refine lv_iload hx hb dL_isWire_236 (lv_at hl 0 rfl) ?_
                              refine lv_bipush (v := 100) hx hb dL_isWire_238 (by decide) ?_
                              refine lv_icmp_gt (tgt := 265) hx hb dL_isWire_240 (by decide) (fun c_276 => absurd c_276 (by decide)) (fun _ => ?_)
                              refine lv_iload hx hb dL_isWire_243 (lv_at hl 0 rfl) ?_
                              refine lv_iconst (v := (-1)) hx hb dL_isWire_245 (by decide) ?_
                              refine lv_icmp_eq (tgt := 261) hx hb dL_isWire_246 (by decide) (fun _ => ?_) (fun c_277 => absurd c_277 (by decide))
                              refine lv_iconst (v := 1) hx hb dL_isWire_261 (by decide) ?_
                              refine lv_goto (tgt := 266) hx hb dL_isWire_262 (by decide) ?_
                              exact kJ _ _ _ _ ⟨rfl, hP, hD, hS, lv_sub hl [2, 3, 4, 5, 6, 7] rfl⟩
                            · have c_273 := (nI_eq (a := sx) (b := 4) (by omega) (by omega)).mp c_273
                              omega
                    · skip
                      refine z_top (y := (nI va)) hva ?_
                      refine lv_istore (lv' := [(6, .int (nI va)), (5, .int (nI j)), (2, .int 1), (4, .int (nI sx)), (3, .int 0), (0, .ref o), (1, .ref ca)]) hx hb dL_isWire_178 hl (by decide) rfl (fun ls hl => ?_)
                      refine lv_aload_n hx hb dL_isWire_180 rfl (lv_at hl 5 rfl) ?_
                      refine lv_iload_n hx hb dL_isWire_181 rfl (lv_at hl 4 rfl) ?_
                      refine lv_iload hx hb dL_isWire_182 (lv_at hl 1 rfl) ?_
                      have hPc := hP.sub (ws' := [(o, .inr (4, [.ref F, .ref G, .int lo, .int nw, .int se, .ref (pa 0), .ref an, .ref ln])), cE x xv, (x 8, .inl (cA 0, 4, .inl (xd 7)))]) [0, 1, 3] rfl
                      have hDc := hD.sub (ws' := [(o, .inr (4, [.ref F, .ref G, .int lo, .int nw, .int se, .ref (pa 0), .ref an, .ref ln])), cE x xv, (x 8, .inl (cA 0, 4, .inl (xd 7)))]) [0, 1, 3] (by decide) rfl
                      have hFc := va_free (wc := [(o, .inr (4, [.ref F, .ref G, .int lo, .int nw, .int se, .ref (pa 0), .ref an, .ref ln])), cE x xv, (x 8, .inl (cA 0, 4, .inl (xd 7)))]) hD hS hA [0, 1, 3] rfl
                      refine va_calli (va_runV (As := [.int 0, .int (nI j)]) (rest := []) ⟨hx, hb, hml, hown, hts⟩ (c_X3_allowed_k l D cA H.size o F G lo nw se pa an ln x (y 0) 0 xv j (xd 7) (by first | exact he | exact en_flip he | exact en_01 he | exact en_10 he) (by omega)) (cwV 2 hts gL_isWire_X3_allowed rfl rfl rfl (by decide +kernel) ⟨Nat.le_of_ble_eq_true rfl, Nat.le_of_ble_eq_true rfl⟩) ⟨zU_blind, va_recv hK hPc (ci := 4) (q0 := 0) rfl rfl, fun U hU hW => ⟨rfl, zU_call hU hPc hW.alike hK hDc⟩⟩ rfl rfl hl.1 rfl (lv_room (Nat.le_of_ble_eq_true rfl)) dL_isWire_184 ⟨Nat.le_of_ble_eq_true rfl, Nat.le_of_ble_eq_true rfl⟩) hS (fun q _ h => hFc q h) hFc (fun zr u t H1 locs ht hvm hw hB hz1 hk1 hS => ?_)
                      obtain ⟨hP1, hD1⟩ := hB
                      rw [ht] at hP1
                      obtain ⟨hP, hD⟩ := va_join (wr := [(x 7, .inl (cA 0, 4, .inl (xd 6))), (x 9, .inr (3, [.ref (x 10), .ref (x 11), .ref (x 12), .ref (x 13), .int (nI xf), .int (nI QX.1)])), (x 10, .inl (cA 0, 12, .inl (xr 0))), (x 11, .inl (cA 0, 12, .inl (xr 1))), (x 12, .inl (cA 0, 12, .inl (xr 2))), (x 13, .inl (cA 0, 48, .inl (xr 3))), cE y yv, (y 7, .inl (cA 0, 4, .inl (yd 6))), (y 8, .inl (cA 0, 4, .inl (yd 7))), (y 9, .inr (3, [.ref (y 10), .ref (y 11), .ref (y 12), .ref (y 13), .int (nI yf), .int (nI QY.1)])), (y 10, .inl (cA 0, 12, .inl (yr 0))), (y 11, .inl (cA 0, 12, .inl (yr 1))), (y 12, .inl (cA 0, 12, .inl (yr 2))), (y 13, .inl (cA 0, 48, .inl (yr 3))), (ln, .inr (0, [.ref vb'_16, .int 0, .int ml'_16, .int (nI ((lnT sx (xd 6) 4).length))])), (ca, .inl (cA 0, 3, .inl cc)), (vb'_16, .inl (cA 2, nb'_16, .inl g'_16))]) (w1 := [(o, .inr (4, [.ref F, .ref G, .int lo, .int nw, .int se, .ref (pa 0), .ref an, .ref ln])), cE x xv, (x 8, .inl (cA 0, 4, .inl (xd 7)))]) hP hD [0, 1, 3] [2, 4, 5, 6, 7, 8, 9, 10, 11, 12, 13, 14, 15, 16, 17, 18, 19] rfl rfl (by decide) (by decide) hk1 hFc hP1 hD1
                      generalize H1 = H at hP hS ⊢
                      have hP := hP.sub (ws' := [(o, .inr (4, [.ref F, .ref G, .int lo, .int nw, .int se, .ref (pa 0), .ref an, .ref ln])), cE x xv, (x 7, .inl (cA 0, 4, .inl (xd 6))), (x 8, .inl (cA 0, 4, .inl (xd 7))), (x 9, .inr (3, [.ref (x 10), .ref (x 11), .ref (x 12), .ref (x 13), .int (nI xf), .int (nI QX.1)])), (x 10, .inl (cA 0, 12, .inl (xr 0))), (x 11, .inl (cA 0, 12, .inl (xr 1))), (x 12, .inl (cA 0, 12, .inl (xr 2))), (x 13, .inl (cA 0, 48, .inl (xr 3))), cE y yv, (y 7, .inl (cA 0, 4, .inl (yd 6))), (y 8, .inl (cA 0, 4, .inl (yd 7))), (y 9, .inr (3, [.ref (y 10), .ref (y 11), .ref (y 12), .ref (y 13), .int (nI yf), .int (nI QY.1)])), (y 10, .inl (cA 0, 12, .inl (yr 0))), (y 11, .inl (cA 0, 12, .inl (yr 1))), (y 12, .inl (cA 0, 12, .inl (yr 2))), (y 13, .inl (cA 0, 48, .inl (yr 3))), (ln, .inr (0, [.ref vb'_16, .int 0, .int ml'_16, .int (nI ((lnT sx (xd 6) 4).length))])), (ca, .inl (cA 0, 3, .inl cc)), (vb'_16, .inl (cA 2, nb'_16, .inl g'_16))]) [17, 18, 0, 19, 1, 2, 3, 4, 5, 6, 7, 8, 9, 10, 11, 12, 13, 14, 15, 16] rfl
                      have hD := hD.sub (ws' := [(o, .inr (4, [.ref F, .ref G, .int lo, .int nw, .int se, .ref (pa 0), .ref an, .ref ln])), cE x xv, (x 7, .inl (cA 0, 4, .inl (xd 6))), (x 8, .inl (cA 0, 4, .inl (xd 7))), (x 9, .inr (3, [.ref (x 10), .ref (x 11), .ref (x 12), .ref (x 13), .int (nI xf), .int (nI QX.1)])), (x 10, .inl (cA 0, 12, .inl (xr 0))), (x 11, .inl (cA 0, 12, .inl (xr 1))), (x 12, .inl (cA 0, 12, .inl (xr 2))), (x 13, .inl (cA 0, 48, .inl (xr 3))), cE y yv, (y 7, .inl (cA 0, 4, .inl (yd 6))), (y 8, .inl (cA 0, 4, .inl (yd 7))), (y 9, .inr (3, [.ref (y 10), .ref (y 11), .ref (y 12), .ref (y 13), .int (nI yf), .int (nI QY.1)])), (y 10, .inl (cA 0, 12, .inl (yr 0))), (y 11, .inl (cA 0, 12, .inl (yr 1))), (y 12, .inl (cA 0, 12, .inl (yr 2))), (y 13, .inl (cA 0, 48, .inl (yr 3))), (ln, .inr (0, [.ref vb'_16, .int 0, .int ml'_16, .int (nI ((lnT sx (xd 6) 4).length))])), (ca, .inl (cA 0, 3, .inl cc)), (vb'_16, .inl (cA 2, nb'_16, .inl g'_16))]) [17, 18, 0, 19, 1, 2, 3, 4, 5, 6, 7, 8, 9, 10, 11, 12, 13, 14, 15, 16] (by decide) rfl
                      clear hPc hDc hFc hP1 hD1 hk1 hz1
                      have hw_278 := hw
                      obtain rfl := hw
                      by_cases hal : sx = 3 ∨ sx = 4
                      · refine z_top (y := xd 7 j) (al_v hx0 hal) ?_
                        rcases (hI.2.1.1.1 j (by omega)).2.2.1 with hvl | ⟨vl, hvm, hvl⟩
                        · skip
                          refine z_top (y := (-1)) hvl ?_
                          refine lv_istore (lv' := [(7, .int (-1)), (6, .int (nI va)), (5, .int (nI j)), (2, .int 1), (4, .int (nI sx)), (3, .int 0), (0, .ref o), (1, .ref ca)]) hx hb dL_isWire_187 hl (by decide) rfl (fun ls hl => ?_)
                          refine lv_iload hx hb dL_isWire_189 (lv_at hl 1 rfl) ?_
                          refine lv_iconst (v := (-1)) hx hb dL_isWire_191 (by decide) ?_
                          refine lv_icmp_lt (tgt := 265) hx hb dL_isWire_192 (by decide) (fun c_279 => absurd c_279 (nneg_lt (by omega) (by decide))) (fun _ => ?_)
                          refine lv_iload hx hb dL_isWire_195 (lv_at hl 1 rfl) ?_
                          refine lv_bipush (v := 100) hx hb dL_isWire_197 (by decide) ?_
                          refine lv_icmp_gt (tgt := 265) hx hb dL_isWire_199 (by decide) (fun c_280 => ?_) (fun c_280 => ?_)
                          · have c_280 := (nI_ltI (a := 100) (b := va) (by omega) (by omega)).mp c_280
                            refine lv_iconst (v := 0) hx hb dL_isWire_265 (by decide) ?_
                            exfalso; omega
                          · have c_280 := mt (nI_ltI (a := 100) (b := va) (by omega) (by omega)).mpr c_280
                            refine lv_aload_n hx hb dL_isWire_202 rfl (lv_at hl 6 rfl) ?_
                            refine lv_iload_n hx hb dL_isWire_203 rfl (lv_at hl 5 rfl) ?_
                            refine lv_iload hx hb dL_isWire_204 (lv_at hl 2 rfl) ?_
                            have hPc := hP.sub (ws' := [(o, .inr (4, [.ref F, .ref G, .int lo, .int nw, .int se, .ref (pa 0), .ref an, .ref ln])), cE x xv, (x 7, .inl (cA 0, 4, .inl (xd 6)))]) [0, 1, 2] rfl
                            have hDc := hD.sub (ws' := [(o, .inr (4, [.ref F, .ref G, .int lo, .int nw, .int se, .ref (pa 0), .ref an, .ref ln])), cE x xv, (x 7, .inl (cA 0, 4, .inl (xd 6)))]) [0, 1, 2] (by decide) rfl
                            have hFc := va_free (wc := [(o, .inr (4, [.ref F, .ref G, .int lo, .int nw, .int se, .ref (pa 0), .ref an, .ref ln])), cE x xv, (x 7, .inl (cA 0, 4, .inl (xd 6)))]) hD hS hA [0, 1, 2] rfl
                            refine va_calli (va_runV (As := [.int 0, .int (nI j)]) (rest := []) ⟨hx, hb, hml, hown, hts⟩ (c_X3_granted_k l D cA H.size o F G lo nw se pa an ln x (y 0) 0 xv j (xd 6) (by first | exact he | exact en_flip he | exact en_01 he | exact en_10 he) (by omega)) (cwV 2 hts gL_isWire_X3_granted rfl rfl rfl (by decide +kernel) ⟨Nat.le_of_ble_eq_true rfl, Nat.le_of_ble_eq_true rfl⟩) ⟨zU_blind, va_recv hK hPc (ci := 4) (q0 := 0) rfl rfl, fun U hU hW => ⟨rfl, zU_call hU hPc hW.alike hK hDc⟩⟩ rfl rfl hl.1 rfl (lv_room (Nat.le_of_ble_eq_true rfl)) dL_isWire_206 ⟨Nat.le_of_ble_eq_true rfl, Nat.le_of_ble_eq_true rfl⟩) hS (fun q _ h => hFc q h) hFc (fun zr u t H1 locs ht hvm hw hB hz1 hk1 hS => ?_)
                            obtain ⟨hP1, hD1⟩ := hB
                            rw [ht] at hP1
                            obtain ⟨hP, hD⟩ := va_join (wr := [(x 8, .inl (cA 0, 4, .inl (xd 7))), (x 9, .inr (3, [.ref (x 10), .ref (x 11), .ref (x 12), .ref (x 13), .int (nI xf), .int (nI QX.1)])), (x 10, .inl (cA 0, 12, .inl (xr 0))), (x 11, .inl (cA 0, 12, .inl (xr 1))), (x 12, .inl (cA 0, 12, .inl (xr 2))), (x 13, .inl (cA 0, 48, .inl (xr 3))), cE y yv, (y 7, .inl (cA 0, 4, .inl (yd 6))), (y 8, .inl (cA 0, 4, .inl (yd 7))), (y 9, .inr (3, [.ref (y 10), .ref (y 11), .ref (y 12), .ref (y 13), .int (nI yf), .int (nI QY.1)])), (y 10, .inl (cA 0, 12, .inl (yr 0))), (y 11, .inl (cA 0, 12, .inl (yr 1))), (y 12, .inl (cA 0, 12, .inl (yr 2))), (y 13, .inl (cA 0, 48, .inl (yr 3))), (ln, .inr (0, [.ref vb'_16, .int 0, .int ml'_16, .int (nI ((lnT sx (xd 6) 4).length))])), (ca, .inl (cA 0, 3, .inl cc)), (vb'_16, .inl (cA 2, nb'_16, .inl g'_16))]) (w1 := [(o, .inr (4, [.ref F, .ref G, .int lo, .int nw, .int se, .ref (pa 0), .ref an, .ref ln])), cE x xv, (x 7, .inl (cA 0, 4, .inl (xd 6)))]) hP hD [0, 1, 2] [3, 4, 5, 6, 7, 8, 9, 10, 11, 12, 13, 14, 15, 16, 17, 18, 19] rfl rfl (by decide) (by decide) hk1 hFc hP1 hD1
                            generalize H1 = H at hP hS ⊢
                            have hP := hP.sub (ws' := [(o, .inr (4, [.ref F, .ref G, .int lo, .int nw, .int se, .ref (pa 0), .ref an, .ref ln])), cE x xv, (x 7, .inl (cA 0, 4, .inl (xd 6))), (x 8, .inl (cA 0, 4, .inl (xd 7))), (x 9, .inr (3, [.ref (x 10), .ref (x 11), .ref (x 12), .ref (x 13), .int (nI xf), .int (nI QX.1)])), (x 10, .inl (cA 0, 12, .inl (xr 0))), (x 11, .inl (cA 0, 12, .inl (xr 1))), (x 12, .inl (cA 0, 12, .inl (xr 2))), (x 13, .inl (cA 0, 48, .inl (xr 3))), cE y yv, (y 7, .inl (cA 0, 4, .inl (yd 6))), (y 8, .inl (cA 0, 4, .inl (yd 7))), (y 9, .inr (3, [.ref (y 10), .ref (y 11), .ref (y 12), .ref (y 13), .int (nI yf), .int (nI QY.1)])), (y 10, .inl (cA 0, 12, .inl (yr 0))), (y 11, .inl (cA 0, 12, .inl (yr 1))), (y 12, .inl (cA 0, 12, .inl (yr 2))), (y 13, .inl (cA 0, 48, .inl (yr 3))), (ln, .inr (0, [.ref vb'_16, .int 0, .int ml'_16, .int (nI ((lnT sx (xd 6) 4).length))])), (ca, .inl (cA 0, 3, .inl cc)), (vb'_16, .inl (cA 2, nb'_16, .inl g'_16))]) [17, 18, 19, 0, 1, 2, 3, 4, 5, 6, 7, 8, 9, 10, 11, 12, 13, 14, 15, 16] rfl
                            have hD := hD.sub (ws' := [(o, .inr (4, [.ref F, .ref G, .int lo, .int nw, .int se, .ref (pa 0), .ref an, .ref ln])), cE x xv, (x 7, .inl (cA 0, 4, .inl (xd 6))), (x 8, .inl (cA 0, 4, .inl (xd 7))), (x 9, .inr (3, [.ref (x 10), .ref (x 11), .ref (x 12), .ref (x 13), .int (nI xf), .int (nI QX.1)])), (x 10, .inl (cA 0, 12, .inl (xr 0))), (x 11, .inl (cA 0, 12, .inl (xr 1))), (x 12, .inl (cA 0, 12, .inl (xr 2))), (x 13, .inl (cA 0, 48, .inl (xr 3))), cE y yv, (y 7, .inl (cA 0, 4, .inl (yd 6))), (y 8, .inl (cA 0, 4, .inl (yd 7))), (y 9, .inr (3, [.ref (y 10), .ref (y 11), .ref (y 12), .ref (y 13), .int (nI yf), .int (nI QY.1)])), (y 10, .inl (cA 0, 12, .inl (yr 0))), (y 11, .inl (cA 0, 12, .inl (yr 1))), (y 12, .inl (cA 0, 12, .inl (yr 2))), (y 13, .inl (cA 0, 48, .inl (yr 3))), (ln, .inr (0, [.ref vb'_16, .int 0, .int ml'_16, .int (nI ((lnT sx (xd 6) 4).length))])), (ca, .inl (cA 0, 3, .inl cc)), (vb'_16, .inl (cA 2, nb'_16, .inl g'_16))]) [17, 18, 19, 0, 1, 2, 3, 4, 5, 6, 7, 8, 9, 10, 11, 12, 13, 14, 15, 16] (by decide) rfl
                            clear hPc hDc hFc hP1 hD1 hk1 hz1
                            have hw_281 := hw
                            obtain rfl := hw
                            by_cases hgr : sx = 2 ∨ sx = 4
                            · refine z_top (y := xd 6 j) (gr_y hx0 hgr) ?_
                              refine z_top (y := (nI va)) hva ?_
                              refine lv_iload hx hb dL_isWire_209 (lv_at hl 4 rfl) ?_
                              refine lv_iconst (v := 2) hx hb dL_isWire_211 (by decide) ?_
                              refine lv_icmp_eq (tgt := 221) hx hb dL_isWire_212 (by decide) (fun c_282 => ?_) (fun c_282 => ?_)
                              · have c_282 := (nI_eq (a := sx) (b := 2) (by omega) (by omega)).mp c_282
                                refine lv_iload hx hb dL_isWire_221 (lv_at hl 1 rfl) ?_
                                refine lv_goto (tgt := 227) hx hb dL_isWire_223 (by decide) ?_
                                refine lv_icmp_ne (tgt := 265) hx hb dL_isWire_227 (by decide) (fun c_283 => absurd rfl c_283) (fun _ => ?_)
                                refine lv_iload hx hb dL_isWire_230 (lv_at hl 0 rfl) ?_
                                refine lv_iconst (v := (-1)) hx hb dL_isWire_232 (by decide) ?_
                                refine lv_icmp_lt (tgt := 265) hx hb dL_isWire_233 (by decide) (fun c_284 => absurd c_284 (by decide)) (fun _ => ?_)
                                refine lv_iload hx hb dL_isWire_236 (lv_at hl 0 rfl) ?_
                                refine lv_bipush (v := 100) hx hb dL_isWire_238 (by decide) ?_
                                refine lv_icmp_gt (tgt := 265) hx hb dL_isWire_240 (by decide) (fun c_285 => absurd c_285 (by decide)) (fun _ => ?_)
                                refine lv_iload hx hb dL_isWire_243 (lv_at hl 0 rfl) ?_
                                refine lv_iconst (v := (-1)) hx hb dL_isWire_245 (by decide) ?_
                                refine lv_icmp_eq (tgt := 261) hx hb dL_isWire_246 (by decide) (fun _ => ?_) (fun c_286 => absurd c_286 (by decide))
                                refine lv_iconst (v := 1) hx hb dL_isWire_261 (by decide) ?_
                                refine lv_goto (tgt := 266) hx hb dL_isWire_262 (by decide) ?_
                                exact kJ _ _ _ _ ⟨rfl, hP, hD, hS, lv_sub hl [2, 3, 4, 5, 6, 7] rfl⟩
                              · have c_282 := mt (nI_eq (a := sx) (b := 2) (by omega) (by omega)).mpr c_282
                                refine lv_iload hx hb dL_isWire_215 (lv_at hl 4 rfl) ?_
                                refine lv_iconst (v := 4) hx hb dL_isWire_217 (by decide) ?_
                                refine lv_icmp_ne (tgt := 226) hx hb dL_isWire_218 (by decide) (fun c_287 => ?_) (fun c_287 => ?_)
                                · have c_287 := mt (nI_eq (a := sx) (b := 4) (by omega) (by omega)).mpr c_287
                                  omega
                                · have c_287 := (nI_eq (a := sx) (b := 4) (by omega) (by omega)).mp c_287
                                  refine lv_iload hx hb dL_isWire_221 (lv_at hl 1 rfl) ?_
                                  refine lv_goto (tgt := 227) hx hb dL_isWire_223 (by decide) ?_
                                  refine lv_icmp_ne (tgt := 265) hx hb dL_isWire_227 (by decide) (fun c_288 => absurd rfl c_288) (fun _ => ?_)
                                  refine lv_iload hx hb dL_isWire_230 (lv_at hl 0 rfl) ?_
                                  refine lv_iconst (v := (-1)) hx hb dL_isWire_232 (by decide) ?_
                                  refine lv_icmp_lt (tgt := 265) hx hb dL_isWire_233 (by decide) (fun c_289 => absurd c_289 (by decide)) (fun _ => ?_)
                                  refine lv_iload hx hb dL_isWire_236 (lv_at hl 0 rfl) ?_
                                  refine lv_bipush (v := 100) hx hb dL_isWire_238 (by decide) ?_
                                  refine lv_icmp_gt (tgt := 265) hx hb dL_isWire_240 (by decide) (fun c_290 => absurd c_290 (by decide)) (fun _ => ?_)
                                  refine lv_iload hx hb dL_isWire_243 (lv_at hl 0 rfl) ?_
                                  refine lv_iconst (v := (-1)) hx hb dL_isWire_245 (by decide) ?_
                                  refine lv_icmp_eq (tgt := 261) hx hb dL_isWire_246 (by decide) (fun _ => ?_) (fun c_291 => absurd c_291 (by decide))
                                  refine lv_iconst (v := 1) hx hb dL_isWire_261 (by decide) ?_
                                  refine lv_goto (tgt := 266) hx hb dL_isWire_262 (by decide) ?_
                                  exact kJ _ _ _ _ ⟨rfl, hP, hD, hS, lv_sub hl [2, 3, 4, 5, 6, 7] rfl⟩
                            · skip
                              refine z_top (y := (-1)) (gr_n hx0 hx7 hgr) ?_
                              refine lv_iload hx hb dL_isWire_209 (lv_at hl 4 rfl) ?_
                              refine lv_iconst (v := 2) hx hb dL_isWire_211 (by decide) ?_
                              refine lv_icmp_eq (tgt := 221) hx hb dL_isWire_212 (by decide) (fun c_292 => ?_) (fun c_292 => ?_)
                              · have c_292 := (nI_eq (a := sx) (b := 2) (by omega) (by omega)).mp c_292
                                omega
                              · have c_292 := mt (nI_eq (a := sx) (b := 2) (by omega) (by omega)).mpr c_292
                                refine lv_iload hx hb dL_isWire_215 (lv_at hl 4 rfl) ?_
                                refine lv_iconst (v := 4) hx hb dL_isWire_217 (by decide) ?_
                                refine lv_icmp_ne (tgt := 226) hx hb dL_isWire_218 (by decide) (fun c_293 => ?_) (fun c_293 => ?_)
                                · have c_293 := mt (nI_eq (a := sx) (b := 4) (by omega) (by omega)).mpr c_293
                                  refine lv_iconst (v := (-1)) hx hb dL_isWire_226 (by decide) ?_
                                  refine lv_icmp_ne (tgt := 265) hx hb dL_isWire_227 (by decide) (fun c_294 => absurd c_294 (by decide)) (fun _ => ?_)
                                  refine lv_iload hx hb dL_isWire_230 (lv_at hl 0 rfl) ?_
                                  refine lv_iconst (v := (-1)) hx hb dL_isWire_232 (by decide) ?_
                                  refine lv_icmp_lt (tgt := 265) hx hb dL_isWire_233 (by decide) (fun c_295 => absurd c_295 (by decide)) (fun _ => ?_)
                                  refine lv_iload hx hb dL_isWire_236 (lv_at hl 0 rfl) ?_
                                  refine lv_bipush (v := 100) hx hb dL_isWire_238 (by decide) ?_
                                  refine lv_icmp_gt (tgt := 265) hx hb dL_isWire_240 (by decide) (fun c_296 => absurd c_296 (by decide)) (fun _ => ?_)
                                  refine lv_iload hx hb dL_isWire_243 (lv_at hl 0 rfl) ?_
                                  refine lv_iconst (v := (-1)) hx hb dL_isWire_245 (by decide) ?_
                                  refine lv_icmp_eq (tgt := 261) hx hb dL_isWire_246 (by decide) (fun _ => ?_) (fun c_297 => absurd c_297 (by decide))
                                  refine lv_iconst (v := 1) hx hb dL_isWire_261 (by decide) ?_
                                  refine lv_goto (tgt := 266) hx hb dL_isWire_262 (by decide) ?_
                                  exact kJ _ _ _ _ ⟨rfl, hP, hD, hS, lv_sub hl [2, 3, 4, 5, 6, 7] rfl⟩
                                · have c_293 := (nI_eq (a := sx) (b := 4) (by omega) (by omega)).mp c_293
                                  omega
                        · skip
                          refine z_top (y := (nI vl)) hvl ?_
                          refine lv_istore (lv' := [(7, .int (nI vl)), (6, .int (nI va)), (5, .int (nI j)), (2, .int 1), (4, .int (nI sx)), (3, .int 0), (0, .ref o), (1, .ref ca)]) hx hb dL_isWire_187 hl (by decide) rfl (fun ls hl => ?_)
                          refine lv_iload hx hb dL_isWire_189 (lv_at hl 1 rfl) ?_
                          refine lv_iconst (v := (-1)) hx hb dL_isWire_191 (by decide) ?_
                          refine lv_icmp_lt (tgt := 265) hx hb dL_isWire_192 (by decide) (fun c_298 => absurd c_298 (nneg_lt (by omega) (by decide))) (fun _ => ?_)
                          refine lv_iload hx hb dL_isWire_195 (lv_at hl 1 rfl) ?_
                          refine lv_bipush (v := 100) hx hb dL_isWire_197 (by decide) ?_
                          refine lv_icmp_gt (tgt := 265) hx hb dL_isWire_199 (by decide) (fun c_299 => ?_) (fun c_299 => ?_)
                          · have c_299 := (nI_ltI (a := 100) (b := va) (by omega) (by omega)).mp c_299
                            refine lv_iconst (v := 0) hx hb dL_isWire_265 (by decide) ?_
                            exfalso; omega
                          · have c_299 := mt (nI_ltI (a := 100) (b := va) (by omega) (by omega)).mpr c_299
                            refine lv_aload_n hx hb dL_isWire_202 rfl (lv_at hl 6 rfl) ?_
                            refine lv_iload_n hx hb dL_isWire_203 rfl (lv_at hl 5 rfl) ?_
                            refine lv_iload hx hb dL_isWire_204 (lv_at hl 2 rfl) ?_
                            have hPc := hP.sub (ws' := [(o, .inr (4, [.ref F, .ref G, .int lo, .int nw, .int se, .ref (pa 0), .ref an, .ref ln])), cE x xv, (x 7, .inl (cA 0, 4, .inl (xd 6)))]) [0, 1, 2] rfl
                            have hDc := hD.sub (ws' := [(o, .inr (4, [.ref F, .ref G, .int lo, .int nw, .int se, .ref (pa 0), .ref an, .ref ln])), cE x xv, (x 7, .inl (cA 0, 4, .inl (xd 6)))]) [0, 1, 2] (by decide) rfl
                            have hFc := va_free (wc := [(o, .inr (4, [.ref F, .ref G, .int lo, .int nw, .int se, .ref (pa 0), .ref an, .ref ln])), cE x xv, (x 7, .inl (cA 0, 4, .inl (xd 6)))]) hD hS hA [0, 1, 2] rfl
                            refine va_calli (va_runV (As := [.int 0, .int (nI j)]) (rest := []) ⟨hx, hb, hml, hown, hts⟩ (c_X3_granted_k l D cA H.size o F G lo nw se pa an ln x (y 0) 0 xv j (xd 6) (by first | exact he | exact en_flip he | exact en_01 he | exact en_10 he) (by omega)) (cwV 2 hts gL_isWire_X3_granted rfl rfl rfl (by decide +kernel) ⟨Nat.le_of_ble_eq_true rfl, Nat.le_of_ble_eq_true rfl⟩) ⟨zU_blind, va_recv hK hPc (ci := 4) (q0 := 0) rfl rfl, fun U hU hW => ⟨rfl, zU_call hU hPc hW.alike hK hDc⟩⟩ rfl rfl hl.1 rfl (lv_room (Nat.le_of_ble_eq_true rfl)) dL_isWire_206 ⟨Nat.le_of_ble_eq_true rfl, Nat.le_of_ble_eq_true rfl⟩) hS (fun q _ h => hFc q h) hFc (fun zr u t H1 locs ht hvm hw hB hz1 hk1 hS => ?_)
                            obtain ⟨hP1, hD1⟩ := hB
                            rw [ht] at hP1
                            obtain ⟨hP, hD⟩ := va_join (wr := [(x 8, .inl (cA 0, 4, .inl (xd 7))), (x 9, .inr (3, [.ref (x 10), .ref (x 11), .ref (x 12), .ref (x 13), .int (nI xf), .int (nI QX.1)])), (x 10, .inl (cA 0, 12, .inl (xr 0))), (x 11, .inl (cA 0, 12, .inl (xr 1))), (x 12, .inl (cA 0, 12, .inl (xr 2))), (x 13, .inl (cA 0, 48, .inl (xr 3))), cE y yv, (y 7, .inl (cA 0, 4, .inl (yd 6))), (y 8, .inl (cA 0, 4, .inl (yd 7))), (y 9, .inr (3, [.ref (y 10), .ref (y 11), .ref (y 12), .ref (y 13), .int (nI yf), .int (nI QY.1)])), (y 10, .inl (cA 0, 12, .inl (yr 0))), (y 11, .inl (cA 0, 12, .inl (yr 1))), (y 12, .inl (cA 0, 12, .inl (yr 2))), (y 13, .inl (cA 0, 48, .inl (yr 3))), (ln, .inr (0, [.ref vb'_16, .int 0, .int ml'_16, .int (nI ((lnT sx (xd 6) 4).length))])), (ca, .inl (cA 0, 3, .inl cc)), (vb'_16, .inl (cA 2, nb'_16, .inl g'_16))]) (w1 := [(o, .inr (4, [.ref F, .ref G, .int lo, .int nw, .int se, .ref (pa 0), .ref an, .ref ln])), cE x xv, (x 7, .inl (cA 0, 4, .inl (xd 6)))]) hP hD [0, 1, 2] [3, 4, 5, 6, 7, 8, 9, 10, 11, 12, 13, 14, 15, 16, 17, 18, 19] rfl rfl (by decide) (by decide) hk1 hFc hP1 hD1
                            generalize H1 = H at hP hS ⊢
                            have hP := hP.sub (ws' := [(o, .inr (4, [.ref F, .ref G, .int lo, .int nw, .int se, .ref (pa 0), .ref an, .ref ln])), cE x xv, (x 7, .inl (cA 0, 4, .inl (xd 6))), (x 8, .inl (cA 0, 4, .inl (xd 7))), (x 9, .inr (3, [.ref (x 10), .ref (x 11), .ref (x 12), .ref (x 13), .int (nI xf), .int (nI QX.1)])), (x 10, .inl (cA 0, 12, .inl (xr 0))), (x 11, .inl (cA 0, 12, .inl (xr 1))), (x 12, .inl (cA 0, 12, .inl (xr 2))), (x 13, .inl (cA 0, 48, .inl (xr 3))), cE y yv, (y 7, .inl (cA 0, 4, .inl (yd 6))), (y 8, .inl (cA 0, 4, .inl (yd 7))), (y 9, .inr (3, [.ref (y 10), .ref (y 11), .ref (y 12), .ref (y 13), .int (nI yf), .int (nI QY.1)])), (y 10, .inl (cA 0, 12, .inl (yr 0))), (y 11, .inl (cA 0, 12, .inl (yr 1))), (y 12, .inl (cA 0, 12, .inl (yr 2))), (y 13, .inl (cA 0, 48, .inl (yr 3))), (ln, .inr (0, [.ref vb'_16, .int 0, .int ml'_16, .int (nI ((lnT sx (xd 6) 4).length))])), (ca, .inl (cA 0, 3, .inl cc)), (vb'_16, .inl (cA 2, nb'_16, .inl g'_16))]) [17, 18, 19, 0, 1, 2, 3, 4, 5, 6, 7, 8, 9, 10, 11, 12, 13, 14, 15, 16] rfl
                            have hD := hD.sub (ws' := [(o, .inr (4, [.ref F, .ref G, .int lo, .int nw, .int se, .ref (pa 0), .ref an, .ref ln])), cE x xv, (x 7, .inl (cA 0, 4, .inl (xd 6))), (x 8, .inl (cA 0, 4, .inl (xd 7))), (x 9, .inr (3, [.ref (x 10), .ref (x 11), .ref (x 12), .ref (x 13), .int (nI xf), .int (nI QX.1)])), (x 10, .inl (cA 0, 12, .inl (xr 0))), (x 11, .inl (cA 0, 12, .inl (xr 1))), (x 12, .inl (cA 0, 12, .inl (xr 2))), (x 13, .inl (cA 0, 48, .inl (xr 3))), cE y yv, (y 7, .inl (cA 0, 4, .inl (yd 6))), (y 8, .inl (cA 0, 4, .inl (yd 7))), (y 9, .inr (3, [.ref (y 10), .ref (y 11), .ref (y 12), .ref (y 13), .int (nI yf), .int (nI QY.1)])), (y 10, .inl (cA 0, 12, .inl (yr 0))), (y 11, .inl (cA 0, 12, .inl (yr 1))), (y 12, .inl (cA 0, 12, .inl (yr 2))), (y 13, .inl (cA 0, 48, .inl (yr 3))), (ln, .inr (0, [.ref vb'_16, .int 0, .int ml'_16, .int (nI ((lnT sx (xd 6) 4).length))])), (ca, .inl (cA 0, 3, .inl cc)), (vb'_16, .inl (cA 2, nb'_16, .inl g'_16))]) [17, 18, 19, 0, 1, 2, 3, 4, 5, 6, 7, 8, 9, 10, 11, 12, 13, 14, 15, 16] (by decide) rfl
                            clear hPc hDc hFc hP1 hD1 hk1 hz1
                            have hw_300 := hw
                            obtain rfl := hw
                            by_cases hgr : sx = 2 ∨ sx = 4
                            · refine z_top (y := xd 6 j) (gr_y hx0 hgr) ?_
                              refine z_top (y := (nI va)) hva ?_
                              refine lv_iload hx hb dL_isWire_209 (lv_at hl 4 rfl) ?_
                              refine lv_iconst (v := 2) hx hb dL_isWire_211 (by decide) ?_
                              refine lv_icmp_eq (tgt := 221) hx hb dL_isWire_212 (by decide) (fun c_301 => ?_) (fun c_301 => ?_)
                              · have c_301 := (nI_eq (a := sx) (b := 2) (by omega) (by omega)).mp c_301
                                refine lv_iload hx hb dL_isWire_221 (lv_at hl 1 rfl) ?_
                                refine lv_goto (tgt := 227) hx hb dL_isWire_223 (by decide) ?_
                                refine lv_icmp_ne (tgt := 265) hx hb dL_isWire_227 (by decide) (fun c_302 => absurd rfl c_302) (fun _ => ?_)
                                refine lv_iload hx hb dL_isWire_230 (lv_at hl 0 rfl) ?_
                                refine lv_iconst (v := (-1)) hx hb dL_isWire_232 (by decide) ?_
                                refine lv_icmp_lt (tgt := 265) hx hb dL_isWire_233 (by decide) (fun c_303 => absurd c_303 (nneg_lt (by omega) (by decide))) (fun _ => ?_)
                                refine lv_iload hx hb dL_isWire_236 (lv_at hl 0 rfl) ?_
                                refine lv_bipush (v := 100) hx hb dL_isWire_238 (by decide) ?_
                                refine lv_icmp_gt (tgt := 265) hx hb dL_isWire_240 (by decide) (fun c_304 => ?_) (fun c_304 => ?_)
                                · have c_304 := (nI_ltI (a := 100) (b := vl) (by omega) (by omega)).mp c_304
                                  refine lv_iconst (v := 0) hx hb dL_isWire_265 (by decide) ?_
                                  exfalso; omega
                                · have c_304 := mt (nI_ltI (a := 100) (b := vl) (by omega) (by omega)).mpr c_304
                                  refine lv_iload hx hb dL_isWire_243 (lv_at hl 0 rfl) ?_
                                  refine lv_iconst (v := (-1)) hx hb dL_isWire_245 (by decide) ?_
                                  refine lv_icmp_eq (tgt := 261) hx hb dL_isWire_246 (by decide) (fun c_305 => absurd c_305 (nneg_eq (by omega) (by decide))) (fun _ => ?_)
                                  refine lv_iload hx hb dL_isWire_249 (lv_at hl 4 rfl) ?_
                                  refine lv_iconst (v := 3) hx hb dL_isWire_251 (by decide) ?_
                                  refine lv_icmp_eq (tgt := 261) hx hb dL_isWire_252 (by decide) (fun c_306 => ?_) (fun c_306 => ?_)
                                  · have c_306 := (nI_eq (a := sx) (b := 3) (by omega) (by omega)).mp c_306
                                    exact absurd (c_301.symm.trans c_306) (by decide)
                                  · have c_306 := mt (nI_eq (a := sx) (b := 3) (by omega) (by omega)).mpr c_306
                                    refine lv_iload hx hb dL_isWire_255 (lv_at hl 4 rfl) ?_
                                    refine lv_iconst (v := 4) hx hb dL_isWire_257 (by decide) ?_
                                    refine lv_icmp_ne (tgt := 265) hx hb dL_isWire_258 (by decide) (fun c_307 => ?_) (fun c_307 => ?_)
                                    · have c_307 := mt (nI_eq (a := sx) (b := 4) (by omega) (by omega)).mpr c_307
                                      refine lv_iconst (v := 0) hx hb dL_isWire_265 (by decide) ?_
                                      exfalso; omega
                                    · have c_307 := (nI_eq (a := sx) (b := 4) (by omega) (by omega)).mp c_307
                                      exact absurd (c_301.symm.trans c_307) (by decide)
                              · have c_301 := mt (nI_eq (a := sx) (b := 2) (by omega) (by omega)).mpr c_301
                                refine lv_iload hx hb dL_isWire_215 (lv_at hl 4 rfl) ?_
                                refine lv_iconst (v := 4) hx hb dL_isWire_217 (by decide) ?_
                                refine lv_icmp_ne (tgt := 226) hx hb dL_isWire_218 (by decide) (fun c_308 => ?_) (fun c_308 => ?_)
                                · have c_308 := mt (nI_eq (a := sx) (b := 4) (by omega) (by omega)).mpr c_308
                                  omega
                                · have c_308 := (nI_eq (a := sx) (b := 4) (by omega) (by omega)).mp c_308
                                  refine lv_iload hx hb dL_isWire_221 (lv_at hl 1 rfl) ?_
                                  refine lv_goto (tgt := 227) hx hb dL_isWire_223 (by decide) ?_
                                  refine lv_icmp_ne (tgt := 265) hx hb dL_isWire_227 (by decide) (fun c_309 => absurd rfl c_309) (fun _ => ?_)
                                  refine lv_iload hx hb dL_isWire_230 (lv_at hl 0 rfl) ?_
                                  refine lv_iconst (v := (-1)) hx hb dL_isWire_232 (by decide) ?_
                                  refine lv_icmp_lt (tgt := 265) hx hb dL_isWire_233 (by decide) (fun c_310 => absurd c_310 (nneg_lt (by omega) (by decide))) (fun _ => ?_)
                                  refine lv_iload hx hb dL_isWire_236 (lv_at hl 0 rfl) ?_
                                  refine lv_bipush (v := 100) hx hb dL_isWire_238 (by decide) ?_
                                  refine lv_icmp_gt (tgt := 265) hx hb dL_isWire_240 (by decide) (fun c_311 => ?_) (fun c_311 => ?_)
                                  · have c_311 := (nI_ltI (a := 100) (b := vl) (by omega) (by omega)).mp c_311
                                    refine lv_iconst (v := 0) hx hb dL_isWire_265 (by decide) ?_
                                    exfalso; omega
                                  · have c_311 := mt (nI_ltI (a := 100) (b := vl) (by omega) (by omega)).mpr c_311
                                    refine lv_iload hx hb dL_isWire_243 (lv_at hl 0 rfl) ?_
                                    refine lv_iconst (v := (-1)) hx hb dL_isWire_245 (by decide) ?_
                                    refine lv_icmp_eq (tgt := 261) hx hb dL_isWire_246 (by decide) (fun c_312 => absurd c_312 (nneg_eq (by omega) (by decide))) (fun _ => ?_)
                                    refine lv_iload hx hb dL_isWire_249 (lv_at hl 4 rfl) ?_
                                    refine lv_iconst (v := 3) hx hb dL_isWire_251 (by decide) ?_
                                    refine lv_icmp_eq (tgt := 261) hx hb dL_isWire_252 (by decide) (fun c_313 => ?_) (fun c_313 => ?_)
                                    · have c_313 := (nI_eq (a := sx) (b := 3) (by omega) (by omega)).mp c_313
                                      exact absurd (c_308.symm.trans c_313) (by decide)
                                    · have c_313 := mt (nI_eq (a := sx) (b := 3) (by omega) (by omega)).mpr c_313
                                      refine lv_iload hx hb dL_isWire_255 (lv_at hl 4 rfl) ?_
                                      refine lv_iconst (v := 4) hx hb dL_isWire_257 (by decide) ?_
                                      refine lv_icmp_ne (tgt := 265) hx hb dL_isWire_258 (by decide) (fun c_314 => ?_) (fun c_314 => ?_)
                                      · have c_314 := mt (nI_eq (a := sx) (b := 4) (by omega) (by omega)).mpr c_314
                                        exact absurd c_308 c_314
                                      · have c_314 := (nI_eq (a := sx) (b := 4) (by omega) (by omega)).mp c_314
                                        refine lv_iconst (v := 1) hx hb dL_isWire_261 (by decide) ?_
                                        refine lv_goto (tgt := 266) hx hb dL_isWire_262 (by decide) ?_
                                        exact kJ _ _ _ _ ⟨rfl, hP, hD, hS, lv_sub hl [2, 3, 4, 5, 6, 7] rfl⟩
                            · skip
                              refine z_top (y := (-1)) (gr_n hx0 hx7 hgr) ?_
                              refine lv_iload hx hb dL_isWire_209 (lv_at hl 4 rfl) ?_
                              refine lv_iconst (v := 2) hx hb dL_isWire_211 (by decide) ?_
                              refine lv_icmp_eq (tgt := 221) hx hb dL_isWire_212 (by decide) (fun c_315 => ?_) (fun c_315 => ?_)
                              · have c_315 := (nI_eq (a := sx) (b := 2) (by omega) (by omega)).mp c_315
                                omega
                              · have c_315 := mt (nI_eq (a := sx) (b := 2) (by omega) (by omega)).mpr c_315
                                refine lv_iload hx hb dL_isWire_215 (lv_at hl 4 rfl) ?_
                                refine lv_iconst (v := 4) hx hb dL_isWire_217 (by decide) ?_
                                refine lv_icmp_ne (tgt := 226) hx hb dL_isWire_218 (by decide) (fun c_316 => ?_) (fun c_316 => ?_)
                                · have c_316 := mt (nI_eq (a := sx) (b := 4) (by omega) (by omega)).mpr c_316
                                  refine lv_iconst (v := (-1)) hx hb dL_isWire_226 (by decide) ?_
                                  refine lv_icmp_ne (tgt := 265) hx hb dL_isWire_227 (by decide) (fun c_317 => absurd c_317 (by decide)) (fun _ => ?_)
                                  refine lv_iload hx hb dL_isWire_230 (lv_at hl 0 rfl) ?_
                                  refine lv_iconst (v := (-1)) hx hb dL_isWire_232 (by decide) ?_
                                  refine lv_icmp_lt (tgt := 265) hx hb dL_isWire_233 (by decide) (fun c_318 => absurd c_318 (nneg_lt (by omega) (by decide))) (fun _ => ?_)
                                  refine lv_iload hx hb dL_isWire_236 (lv_at hl 0 rfl) ?_
                                  refine lv_bipush (v := 100) hx hb dL_isWire_238 (by decide) ?_
                                  refine lv_icmp_gt (tgt := 265) hx hb dL_isWire_240 (by decide) (fun c_319 => ?_) (fun c_319 => ?_)
                                  · have c_319 := (nI_ltI (a := 100) (b := vl) (by omega) (by omega)).mp c_319
                                    refine lv_iconst (v := 0) hx hb dL_isWire_265 (by decide) ?_
                                    exfalso; omega
                                  · have c_319 := mt (nI_ltI (a := 100) (b := vl) (by omega) (by omega)).mpr c_319
                                    refine lv_iload hx hb dL_isWire_243 (lv_at hl 0 rfl) ?_
                                    refine lv_iconst (v := (-1)) hx hb dL_isWire_245 (by decide) ?_
                                    refine lv_icmp_eq (tgt := 261) hx hb dL_isWire_246 (by decide) (fun c_320 => absurd c_320 (nneg_eq (by omega) (by decide))) (fun _ => ?_)
                                    refine lv_iload hx hb dL_isWire_249 (lv_at hl 4 rfl) ?_
                                    refine lv_iconst (v := 3) hx hb dL_isWire_251 (by decide) ?_
                                    refine lv_icmp_eq (tgt := 261) hx hb dL_isWire_252 (by decide) (fun c_321 => ?_) (fun c_321 => ?_)
                                    · have c_321 := (nI_eq (a := sx) (b := 3) (by omega) (by omega)).mp c_321
                                      refine lv_iconst (v := 1) hx hb dL_isWire_261 (by decide) ?_
                                      refine lv_goto (tgt := 266) hx hb dL_isWire_262 (by decide) ?_
                                      exact kJ _ _ _ _ ⟨rfl, hP, hD, hS, lv_sub hl [2, 3, 4, 5, 6, 7] rfl⟩
                                    · have c_321 := mt (nI_eq (a := sx) (b := 3) (by omega) (by omega)).mpr c_321
                                      refine lv_iload hx hb dL_isWire_255 (lv_at hl 4 rfl) ?_
                                      refine lv_iconst (v := 4) hx hb dL_isWire_257 (by decide) ?_
                                      refine lv_icmp_ne (tgt := 265) hx hb dL_isWire_258 (by decide) (fun c_322 => ?_) (fun c_322 => ?_)
                                      · have c_322 := mt (nI_eq (a := sx) (b := 4) (by omega) (by omega)).mpr c_322
                                        refine lv_iconst (v := 0) hx hb dL_isWire_265 (by decide) ?_
                                        exfalso; omega
                                      · have c_322 := (nI_eq (a := sx) (b := 4) (by omega) (by omega)).mp c_322
                                        exact absurd c_322 c_316
                                · have c_316 := (nI_eq (a := sx) (b := 4) (by omega) (by omega)).mp c_316
                                  omega
                      · skip
                        refine z_top (y := (-1)) (al_n hx0 hx7 hal) ?_
                        refine lv_istore (lv' := [(7, .int (-1)), (6, .int (nI va)), (5, .int (nI j)), (2, .int 1), (4, .int (nI sx)), (3, .int 0), (0, .ref o), (1, .ref ca)]) hx hb dL_isWire_187 hl (by decide) rfl (fun ls hl => ?_)
                        refine lv_iload hx hb dL_isWire_189 (lv_at hl 1 rfl) ?_
                        refine lv_iconst (v := (-1)) hx hb dL_isWire_191 (by decide) ?_
                        refine lv_icmp_lt (tgt := 265) hx hb dL_isWire_192 (by decide) (fun c_323 => absurd c_323 (nneg_lt (by omega) (by decide))) (fun _ => ?_)
                        refine lv_iload hx hb dL_isWire_195 (lv_at hl 1 rfl) ?_
                        refine lv_bipush (v := 100) hx hb dL_isWire_197 (by decide) ?_
                        refine lv_icmp_gt (tgt := 265) hx hb dL_isWire_199 (by decide) (fun c_324 => ?_) (fun c_324 => ?_)
                        · have c_324 := (nI_ltI (a := 100) (b := va) (by omega) (by omega)).mp c_324
                          refine lv_iconst (v := 0) hx hb dL_isWire_265 (by decide) ?_
                          exfalso; omega
                        · have c_324 := mt (nI_ltI (a := 100) (b := va) (by omega) (by omega)).mpr c_324
                          refine lv_aload_n hx hb dL_isWire_202 rfl (lv_at hl 6 rfl) ?_
                          refine lv_iload_n hx hb dL_isWire_203 rfl (lv_at hl 5 rfl) ?_
                          refine lv_iload hx hb dL_isWire_204 (lv_at hl 2 rfl) ?_
                          have hPc := hP.sub (ws' := [(o, .inr (4, [.ref F, .ref G, .int lo, .int nw, .int se, .ref (pa 0), .ref an, .ref ln])), cE x xv, (x 7, .inl (cA 0, 4, .inl (xd 6)))]) [0, 1, 2] rfl
                          have hDc := hD.sub (ws' := [(o, .inr (4, [.ref F, .ref G, .int lo, .int nw, .int se, .ref (pa 0), .ref an, .ref ln])), cE x xv, (x 7, .inl (cA 0, 4, .inl (xd 6)))]) [0, 1, 2] (by decide) rfl
                          have hFc := va_free (wc := [(o, .inr (4, [.ref F, .ref G, .int lo, .int nw, .int se, .ref (pa 0), .ref an, .ref ln])), cE x xv, (x 7, .inl (cA 0, 4, .inl (xd 6)))]) hD hS hA [0, 1, 2] rfl
                          refine va_calli (va_runV (As := [.int 0, .int (nI j)]) (rest := []) ⟨hx, hb, hml, hown, hts⟩ (c_X3_granted_k l D cA H.size o F G lo nw se pa an ln x (y 0) 0 xv j (xd 6) (by first | exact he | exact en_flip he | exact en_01 he | exact en_10 he) (by omega)) (cwV 2 hts gL_isWire_X3_granted rfl rfl rfl (by decide +kernel) ⟨Nat.le_of_ble_eq_true rfl, Nat.le_of_ble_eq_true rfl⟩) ⟨zU_blind, va_recv hK hPc (ci := 4) (q0 := 0) rfl rfl, fun U hU hW => ⟨rfl, zU_call hU hPc hW.alike hK hDc⟩⟩ rfl rfl hl.1 rfl (lv_room (Nat.le_of_ble_eq_true rfl)) dL_isWire_206 ⟨Nat.le_of_ble_eq_true rfl, Nat.le_of_ble_eq_true rfl⟩) hS (fun q _ h => hFc q h) hFc (fun zr u t H1 locs ht hvm hw hB hz1 hk1 hS => ?_)
                          obtain ⟨hP1, hD1⟩ := hB
                          rw [ht] at hP1
                          obtain ⟨hP, hD⟩ := va_join (wr := [(x 8, .inl (cA 0, 4, .inl (xd 7))), (x 9, .inr (3, [.ref (x 10), .ref (x 11), .ref (x 12), .ref (x 13), .int (nI xf), .int (nI QX.1)])), (x 10, .inl (cA 0, 12, .inl (xr 0))), (x 11, .inl (cA 0, 12, .inl (xr 1))), (x 12, .inl (cA 0, 12, .inl (xr 2))), (x 13, .inl (cA 0, 48, .inl (xr 3))), cE y yv, (y 7, .inl (cA 0, 4, .inl (yd 6))), (y 8, .inl (cA 0, 4, .inl (yd 7))), (y 9, .inr (3, [.ref (y 10), .ref (y 11), .ref (y 12), .ref (y 13), .int (nI yf), .int (nI QY.1)])), (y 10, .inl (cA 0, 12, .inl (yr 0))), (y 11, .inl (cA 0, 12, .inl (yr 1))), (y 12, .inl (cA 0, 12, .inl (yr 2))), (y 13, .inl (cA 0, 48, .inl (yr 3))), (ln, .inr (0, [.ref vb'_16, .int 0, .int ml'_16, .int (nI ((lnT sx (xd 6) 4).length))])), (ca, .inl (cA 0, 3, .inl cc)), (vb'_16, .inl (cA 2, nb'_16, .inl g'_16))]) (w1 := [(o, .inr (4, [.ref F, .ref G, .int lo, .int nw, .int se, .ref (pa 0), .ref an, .ref ln])), cE x xv, (x 7, .inl (cA 0, 4, .inl (xd 6)))]) hP hD [0, 1, 2] [3, 4, 5, 6, 7, 8, 9, 10, 11, 12, 13, 14, 15, 16, 17, 18, 19] rfl rfl (by decide) (by decide) hk1 hFc hP1 hD1
                          generalize H1 = H at hP hS ⊢
                          have hP := hP.sub (ws' := [(o, .inr (4, [.ref F, .ref G, .int lo, .int nw, .int se, .ref (pa 0), .ref an, .ref ln])), cE x xv, (x 7, .inl (cA 0, 4, .inl (xd 6))), (x 8, .inl (cA 0, 4, .inl (xd 7))), (x 9, .inr (3, [.ref (x 10), .ref (x 11), .ref (x 12), .ref (x 13), .int (nI xf), .int (nI QX.1)])), (x 10, .inl (cA 0, 12, .inl (xr 0))), (x 11, .inl (cA 0, 12, .inl (xr 1))), (x 12, .inl (cA 0, 12, .inl (xr 2))), (x 13, .inl (cA 0, 48, .inl (xr 3))), cE y yv, (y 7, .inl (cA 0, 4, .inl (yd 6))), (y 8, .inl (cA 0, 4, .inl (yd 7))), (y 9, .inr (3, [.ref (y 10), .ref (y 11), .ref (y 12), .ref (y 13), .int (nI yf), .int (nI QY.1)])), (y 10, .inl (cA 0, 12, .inl (yr 0))), (y 11, .inl (cA 0, 12, .inl (yr 1))), (y 12, .inl (cA 0, 12, .inl (yr 2))), (y 13, .inl (cA 0, 48, .inl (yr 3))), (ln, .inr (0, [.ref vb'_16, .int 0, .int ml'_16, .int (nI ((lnT sx (xd 6) 4).length))])), (ca, .inl (cA 0, 3, .inl cc)), (vb'_16, .inl (cA 2, nb'_16, .inl g'_16))]) [17, 18, 19, 0, 1, 2, 3, 4, 5, 6, 7, 8, 9, 10, 11, 12, 13, 14, 15, 16] rfl
                          have hD := hD.sub (ws' := [(o, .inr (4, [.ref F, .ref G, .int lo, .int nw, .int se, .ref (pa 0), .ref an, .ref ln])), cE x xv, (x 7, .inl (cA 0, 4, .inl (xd 6))), (x 8, .inl (cA 0, 4, .inl (xd 7))), (x 9, .inr (3, [.ref (x 10), .ref (x 11), .ref (x 12), .ref (x 13), .int (nI xf), .int (nI QX.1)])), (x 10, .inl (cA 0, 12, .inl (xr 0))), (x 11, .inl (cA 0, 12, .inl (xr 1))), (x 12, .inl (cA 0, 12, .inl (xr 2))), (x 13, .inl (cA 0, 48, .inl (xr 3))), cE y yv, (y 7, .inl (cA 0, 4, .inl (yd 6))), (y 8, .inl (cA 0, 4, .inl (yd 7))), (y 9, .inr (3, [.ref (y 10), .ref (y 11), .ref (y 12), .ref (y 13), .int (nI yf), .int (nI QY.1)])), (y 10, .inl (cA 0, 12, .inl (yr 0))), (y 11, .inl (cA 0, 12, .inl (yr 1))), (y 12, .inl (cA 0, 12, .inl (yr 2))), (y 13, .inl (cA 0, 48, .inl (yr 3))), (ln, .inr (0, [.ref vb'_16, .int 0, .int ml'_16, .int (nI ((lnT sx (xd 6) 4).length))])), (ca, .inl (cA 0, 3, .inl cc)), (vb'_16, .inl (cA 2, nb'_16, .inl g'_16))]) [17, 18, 19, 0, 1, 2, 3, 4, 5, 6, 7, 8, 9, 10, 11, 12, 13, 14, 15, 16] (by decide) rfl
                          clear hPc hDc hFc hP1 hD1 hk1 hz1
                          have hw_325 := hw
                          obtain rfl := hw
                          by_cases hgr : sx = 2 ∨ sx = 4
                          · refine z_top (y := xd 6 j) (gr_y hx0 hgr) ?_
                            refine z_top (y := (nI va)) hva ?_
                            refine lv_iload hx hb dL_isWire_209 (lv_at hl 4 rfl) ?_
                            refine lv_iconst (v := 2) hx hb dL_isWire_211 (by decide) ?_
                            refine lv_icmp_eq (tgt := 221) hx hb dL_isWire_212 (by decide) (fun c_326 => ?_) (fun c_326 => ?_)
                            · have c_326 := (nI_eq (a := sx) (b := 2) (by omega) (by omega)).mp c_326
                              refine lv_iload hx hb dL_isWire_221 (lv_at hl 1 rfl) ?_
                              refine lv_goto (tgt := 227) hx hb dL_isWire_223 (by decide) ?_
                              refine lv_icmp_ne (tgt := 265) hx hb dL_isWire_227 (by decide) (fun c_327 => absurd rfl c_327) (fun _ => ?_)
                              refine lv_iload hx hb dL_isWire_230 (lv_at hl 0 rfl) ?_
                              refine lv_iconst (v := (-1)) hx hb dL_isWire_232 (by decide) ?_
                              refine lv_icmp_lt (tgt := 265) hx hb dL_isWire_233 (by decide) (fun c_328 => absurd c_328 (by decide)) (fun _ => ?_)
                              refine lv_iload hx hb dL_isWire_236 (lv_at hl 0 rfl) ?_
                              refine lv_bipush (v := 100) hx hb dL_isWire_238 (by decide) ?_
                              refine lv_icmp_gt (tgt := 265) hx hb dL_isWire_240 (by decide) (fun c_329 => absurd c_329 (by decide)) (fun _ => ?_)
                              refine lv_iload hx hb dL_isWire_243 (lv_at hl 0 rfl) ?_
                              refine lv_iconst (v := (-1)) hx hb dL_isWire_245 (by decide) ?_
                              refine lv_icmp_eq (tgt := 261) hx hb dL_isWire_246 (by decide) (fun _ => ?_) (fun c_330 => absurd c_330 (by decide))
                              refine lv_iconst (v := 1) hx hb dL_isWire_261 (by decide) ?_
                              refine lv_goto (tgt := 266) hx hb dL_isWire_262 (by decide) ?_
                              exact kJ _ _ _ _ ⟨rfl, hP, hD, hS, lv_sub hl [2, 3, 4, 5, 6, 7] rfl⟩
                            · have c_326 := mt (nI_eq (a := sx) (b := 2) (by omega) (by omega)).mpr c_326
                              refine lv_iload hx hb dL_isWire_215 (lv_at hl 4 rfl) ?_
                              refine lv_iconst (v := 4) hx hb dL_isWire_217 (by decide) ?_
                              refine lv_icmp_ne (tgt := 226) hx hb dL_isWire_218 (by decide) (fun c_331 => ?_) (fun c_331 => ?_)
                              · have c_331 := mt (nI_eq (a := sx) (b := 4) (by omega) (by omega)).mpr c_331
                                omega
                              · have c_331 := (nI_eq (a := sx) (b := 4) (by omega) (by omega)).mp c_331
                                refine lv_iload hx hb dL_isWire_221 (lv_at hl 1 rfl) ?_
                                refine lv_goto (tgt := 227) hx hb dL_isWire_223 (by decide) ?_
                                refine lv_icmp_ne (tgt := 265) hx hb dL_isWire_227 (by decide) (fun c_332 => absurd rfl c_332) (fun _ => ?_)
                                refine lv_iload hx hb dL_isWire_230 (lv_at hl 0 rfl) ?_
                                refine lv_iconst (v := (-1)) hx hb dL_isWire_232 (by decide) ?_
                                refine lv_icmp_lt (tgt := 265) hx hb dL_isWire_233 (by decide) (fun c_333 => absurd c_333 (by decide)) (fun _ => ?_)
                                refine lv_iload hx hb dL_isWire_236 (lv_at hl 0 rfl) ?_
                                refine lv_bipush (v := 100) hx hb dL_isWire_238 (by decide) ?_
                                refine lv_icmp_gt (tgt := 265) hx hb dL_isWire_240 (by decide) (fun c_334 => absurd c_334 (by decide)) (fun _ => ?_)
                                refine lv_iload hx hb dL_isWire_243 (lv_at hl 0 rfl) ?_
                                refine lv_iconst (v := (-1)) hx hb dL_isWire_245 (by decide) ?_
                                refine lv_icmp_eq (tgt := 261) hx hb dL_isWire_246 (by decide) (fun _ => ?_) (fun c_335 => absurd c_335 (by decide))
                                refine lv_iconst (v := 1) hx hb dL_isWire_261 (by decide) ?_
                                refine lv_goto (tgt := 266) hx hb dL_isWire_262 (by decide) ?_
                                exact kJ _ _ _ _ ⟨rfl, hP, hD, hS, lv_sub hl [2, 3, 4, 5, 6, 7] rfl⟩
                          · skip
                            refine z_top (y := (-1)) (gr_n hx0 hx7 hgr) ?_
                            refine lv_iload hx hb dL_isWire_209 (lv_at hl 4 rfl) ?_
                            refine lv_iconst (v := 2) hx hb dL_isWire_211 (by decide) ?_
                            refine lv_icmp_eq (tgt := 221) hx hb dL_isWire_212 (by decide) (fun c_336 => ?_) (fun c_336 => ?_)
                            · have c_336 := (nI_eq (a := sx) (b := 2) (by omega) (by omega)).mp c_336
                              omega
                            · have c_336 := mt (nI_eq (a := sx) (b := 2) (by omega) (by omega)).mpr c_336
                              refine lv_iload hx hb dL_isWire_215 (lv_at hl 4 rfl) ?_
                              refine lv_iconst (v := 4) hx hb dL_isWire_217 (by decide) ?_
                              refine lv_icmp_ne (tgt := 226) hx hb dL_isWire_218 (by decide) (fun c_337 => ?_) (fun c_337 => ?_)
                              · have c_337 := mt (nI_eq (a := sx) (b := 4) (by omega) (by omega)).mpr c_337
                                refine lv_iconst (v := (-1)) hx hb dL_isWire_226 (by decide) ?_
                                refine lv_icmp_ne (tgt := 265) hx hb dL_isWire_227 (by decide) (fun c_338 => absurd c_338 (by decide)) (fun _ => ?_)
                                refine lv_iload hx hb dL_isWire_230 (lv_at hl 0 rfl) ?_
                                refine lv_iconst (v := (-1)) hx hb dL_isWire_232 (by decide) ?_
                                refine lv_icmp_lt (tgt := 265) hx hb dL_isWire_233 (by decide) (fun c_339 => absurd c_339 (by decide)) (fun _ => ?_)
                                refine lv_iload hx hb dL_isWire_236 (lv_at hl 0 rfl) ?_
                                refine lv_bipush (v := 100) hx hb dL_isWire_238 (by decide) ?_
                                refine lv_icmp_gt (tgt := 265) hx hb dL_isWire_240 (by decide) (fun c_340 => absurd c_340 (by decide)) (fun _ => ?_)
                                refine lv_iload hx hb dL_isWire_243 (lv_at hl 0 rfl) ?_
                                refine lv_iconst (v := (-1)) hx hb dL_isWire_245 (by decide) ?_
                                refine lv_icmp_eq (tgt := 261) hx hb dL_isWire_246 (by decide) (fun _ => ?_) (fun c_341 => absurd c_341 (by decide))
                                refine lv_iconst (v := 1) hx hb dL_isWire_261 (by decide) ?_
                                refine lv_goto (tgt := 266) hx hb dL_isWire_262 (by decide) ?_
                                exact kJ _ _ _ _ ⟨rfl, hP, hD, hS, lv_sub hl [2, 3, 4, 5, 6, 7] rfl⟩
                              · have c_337 := (nI_eq (a := sx) (b := 4) (by omega) (by omega)).mp c_337
                                omega
              · skip
                refine lv_iload_n hx hb dL_isWire_132 rfl (lv_at hl 0 rfl) ?_
                refine lv_if_eq (tgt := 156) hx hb dL_isWire_133 (by decide) (fun c_342 => absurd c_342 (by decide)) (fun _ => ?_)
                refine lv_iload hx hb dL_isWire_136 (lv_at hl 1 rfl) ?_
                refine lv_iconst (v := 4) hx hb dL_isWire_138 (by decide) ?_
                refine lv_icmp_ne (tgt := 152) hx hb dL_isWire_139 (by decide) (fun c_343 => ?_) (fun c_343 => ?_)
                · have c_343 := mt (nI_eq (a := sx) (b := 4) (by omega) (by omega)).mpr c_343
                  refine lv_iconst (v := 1) hx hb dL_isWire_152 (by decide) ?_
                  refine lv_goto (tgt := 157) hx hb dL_isWire_153 (by decide) ?_
                  exact kJ _ _ _ _ ⟨rfl, hP, hD, hS, lv_sub hl [0, 1, 2, 3, 4] rfl⟩
                · have c_343 := (nI_eq (a := sx) (b := 4) (by omega) (by omega)).mp c_343
                  refine lv_aload_n hx hb dL_isWire_142 rfl (lv_at hl 3 rfl) ?_
                  refine lv_iload_n hx hb dL_isWire_143 rfl (lv_at hl 2 rfl) ?_
                  have hPc := hP.sub (ws' := [(o, .inr (4, [.ref F, .ref G, .int lo, .int nw, .int se, .ref (pa 0), .ref an, .ref ln])), cE x xv]) [0, 1] rfl
                  have hDc := hD.sub (ws' := [(o, .inr (4, [.ref F, .ref G, .int lo, .int nw, .int se, .ref (pa 0), .ref an, .ref ln])), cE x xv]) [0, 1] (by decide) rfl
                  have hFc := va_free (wc := [(o, .inr (4, [.ref F, .ref G, .int lo, .int nw, .int se, .ref (pa 0), .ref an, .ref ln])), cE x xv]) hD hS hA [0, 1] rfl
                  refine va_calli (va_runV (As := [.int 0]) (rest := []) ⟨hx, hb, hml, hown, hts⟩ (c_X3_tries_k l D cA H.size o F G lo nw se pa an ln x (y 0) 0 xv (by first | exact he | exact en_flip he | exact en_01 he | exact en_10 he)) (cwV 1 hts gL_isWire_X3_tries rfl rfl rfl (by decide +kernel) ⟨Nat.le_of_ble_eq_true rfl, Nat.le_of_ble_eq_true rfl⟩) ⟨zU_blind, va_recv hK hPc (ci := 4) (q0 := 0) rfl rfl, fun U hU hW => ⟨rfl, zU_call hU hPc hW.alike hK hDc⟩⟩ rfl rfl hl.1 rfl (lv_room (Nat.le_of_ble_eq_true rfl)) dL_isWire_144 ⟨Nat.le_of_ble_eq_true rfl, Nat.le_of_ble_eq_true rfl⟩) hS (fun q _ h => hFc q h) hFc (fun zr u t H1 locs ht hvm hw hB hz1 hk1 hS => ?_)
                  obtain ⟨hP1, hD1⟩ := hB
                  rw [ht] at hP1
                  obtain ⟨hP, hD⟩ := va_join (wr := [(x 7, .inl (cA 0, 4, .inl (xd 6))), (x 8, .inl (cA 0, 4, .inl (xd 7))), (x 9, .inr (3, [.ref (x 10), .ref (x 11), .ref (x 12), .ref (x 13), .int (nI xf), .int (nI QX.1)])), (x 10, .inl (cA 0, 12, .inl (xr 0))), (x 11, .inl (cA 0, 12, .inl (xr 1))), (x 12, .inl (cA 0, 12, .inl (xr 2))), (x 13, .inl (cA 0, 48, .inl (xr 3))), cE y yv, (y 7, .inl (cA 0, 4, .inl (yd 6))), (y 8, .inl (cA 0, 4, .inl (yd 7))), (y 9, .inr (3, [.ref (y 10), .ref (y 11), .ref (y 12), .ref (y 13), .int (nI yf), .int (nI QY.1)])), (y 10, .inl (cA 0, 12, .inl (yr 0))), (y 11, .inl (cA 0, 12, .inl (yr 1))), (y 12, .inl (cA 0, 12, .inl (yr 2))), (y 13, .inl (cA 0, 48, .inl (yr 3))), (ln, .inr (0, [.ref vb'_16, .int 0, .int ml'_16, .int (nI ((lnT sx (xd 6) 4).length))])), (ca, .inl (cA 0, 3, .inl cc)), (vb'_16, .inl (cA 2, nb'_16, .inl g'_16))]) (w1 := [(o, .inr (4, [.ref F, .ref G, .int lo, .int nw, .int se, .ref (pa 0), .ref an, .ref ln])), cE x xv]) hP hD [0, 1] [2, 3, 4, 5, 6, 7, 8, 9, 10, 11, 12, 13, 14, 15, 16, 17, 18, 19] rfl rfl (by decide) (by decide) hk1 hFc hP1 hD1
                  generalize H1 = H at hP hS ⊢
                  have hP := hP.sub (ws' := [(o, .inr (4, [.ref F, .ref G, .int lo, .int nw, .int se, .ref (pa 0), .ref an, .ref ln])), cE x xv, (x 7, .inl (cA 0, 4, .inl (xd 6))), (x 8, .inl (cA 0, 4, .inl (xd 7))), (x 9, .inr (3, [.ref (x 10), .ref (x 11), .ref (x 12), .ref (x 13), .int (nI xf), .int (nI QX.1)])), (x 10, .inl (cA 0, 12, .inl (xr 0))), (x 11, .inl (cA 0, 12, .inl (xr 1))), (x 12, .inl (cA 0, 12, .inl (xr 2))), (x 13, .inl (cA 0, 48, .inl (xr 3))), cE y yv, (y 7, .inl (cA 0, 4, .inl (yd 6))), (y 8, .inl (cA 0, 4, .inl (yd 7))), (y 9, .inr (3, [.ref (y 10), .ref (y 11), .ref (y 12), .ref (y 13), .int (nI yf), .int (nI QY.1)])), (y 10, .inl (cA 0, 12, .inl (yr 0))), (y 11, .inl (cA 0, 12, .inl (yr 1))), (y 12, .inl (cA 0, 12, .inl (yr 2))), (y 13, .inl (cA 0, 48, .inl (yr 3))), (ln, .inr (0, [.ref vb'_16, .int 0, .int ml'_16, .int (nI ((lnT sx (xd 6) 4).length))])), (ca, .inl (cA 0, 3, .inl cc)), (vb'_16, .inl (cA 2, nb'_16, .inl g'_16))]) [18, 19, 0, 1, 2, 3, 4, 5, 6, 7, 8, 9, 10, 11, 12, 13, 14, 15, 16, 17] rfl
                  have hD := hD.sub (ws' := [(o, .inr (4, [.ref F, .ref G, .int lo, .int nw, .int se, .ref (pa 0), .ref an, .ref ln])), cE x xv, (x 7, .inl (cA 0, 4, .inl (xd 6))), (x 8, .inl (cA 0, 4, .inl (xd 7))), (x 9, .inr (3, [.ref (x 10), .ref (x 11), .ref (x 12), .ref (x 13), .int (nI xf), .int (nI QX.1)])), (x 10, .inl (cA 0, 12, .inl (xr 0))), (x 11, .inl (cA 0, 12, .inl (xr 1))), (x 12, .inl (cA 0, 12, .inl (xr 2))), (x 13, .inl (cA 0, 48, .inl (xr 3))), cE y yv, (y 7, .inl (cA 0, 4, .inl (yd 6))), (y 8, .inl (cA 0, 4, .inl (yd 7))), (y 9, .inr (3, [.ref (y 10), .ref (y 11), .ref (y 12), .ref (y 13), .int (nI yf), .int (nI QY.1)])), (y 10, .inl (cA 0, 12, .inl (yr 0))), (y 11, .inl (cA 0, 12, .inl (yr 1))), (y 12, .inl (cA 0, 12, .inl (yr 2))), (y 13, .inl (cA 0, 48, .inl (yr 3))), (ln, .inr (0, [.ref vb'_16, .int 0, .int ml'_16, .int (nI ((lnT sx (xd 6) 4).length))])), (ca, .inl (cA 0, 3, .inl cc)), (vb'_16, .inl (cA 2, nb'_16, .inl g'_16))]) [18, 19, 0, 1, 2, 3, 4, 5, 6, 7, 8, 9, 10, 11, 12, 13, 14, 15, 16, 17] (by decide) rfl
                  clear hPc hDc hFc hP1 hD1 hk1 hz1
                  have hw_344 := hw
                  obtain rfl := hw
                  refine z_top (y := (nI tx)) hx3 ?_
                  refine lv_bipush (v := 10) hx hb dL_isWire_147 (by decide) ?_
                  refine lv_icmp_ne (tgt := 156) hx hb dL_isWire_149 (by decide) (fun c_345 => ?_) (fun c_345 => ?_)
                  · have c_345 := mt (nI_eq (a := tx) (b := 10) (by omega) (by omega)).mpr c_345
                    refine lv_iconst (v := 0) hx hb dL_isWire_156 (by decide) ?_
                    exfalso; omega
                  · have c_345 := (nI_eq (a := tx) (b := 10) (by omega) (by omega)).mp c_345
                    refine lv_iconst (v := 1) hx hb dL_isWire_152 (by decide) ?_
                    refine lv_goto (tgt := 157) hx hb dL_isWire_153 (by decide) ?_
                    exact kJ _ _ _ _ ⟨rfl, hP, hD, hS, lv_sub hl [0, 1, 2, 3, 4] rfl⟩
