set_option maxHeartbeats 4000000 in
set_option maxRecDepth 100000 in
/-- ticks(o, c) -/
theorem c_ticks (l : Launch) (D : va_G) (cA : Nat → ClassId) (zv : Nat → Nat) (sz : Nat) (o F G : Nat) (nw se : Int32) (pa : Nat → Nat) (an ln : Nat) (x y : Nat → Nat) (xv yv : Nat → Int32) (xr yr : Nat → Nat → Int32) (xf yf : Nat) (QX QY : Qt) (xd yd : Nat → Nat → Int32) (B gv qv : Nat) (ca : Nat) (cc : Nat → Int32) (he : en 0 F G (x 0) (y 0)) (hqx : rg xr xf QX) (hqy : rg yr yf QY) (hPW : PW B gv qv xv xd QX yv yd QY) (hB : B < 900) : Met l yL_ticks wsL_ticks ({ frames := 7, cells := 0, slots := 0, locals := 160 }) (va_Pc [.ref o, .ref ca] (zUX D cA zv sz [(o, .inr (4, [.ref F, .ref G, .int (nI qv), .int nw, .int se, .ref (pa 0), .ref an, .ref ln])), cE x xv, (x 9, .inr (3, [.ref (x 10), .ref (x 11), .ref (x 12), .ref (x 13), .int (nI xf), .int (nI QX.1)])), (x 10, .inl (cA 0, 12, .inl (xr 0))), (x 11, .inl (cA 0, 12, .inl (xr 1))), (x 12, .inl (cA 0, 12, .inl (xr 2))), (x 13, .inl (cA 0, 48, .inl (xr 3))), (x 7, .inl (cA 0, 4, .inl (xd 6))), cE y yv, (y 9, .inr (3, [.ref (y 10), .ref (y 11), .ref (y 12), .ref (y 13), .int (nI yf), .int (nI QY.1)])), (y 10, .inl (cA 0, 12, .inl (yr 0))), (y 11, .inl (cA 0, 12, .inl (yr 1))), (y 12, .inl (cA 0, 12, .inl (yr 2))), (y 13, .inl (cA 0, 48, .inl (yr 3))), (y 7, .inl (cA 0, 4, .inl (yd 6))), (ca, .inl (cA 0, 3, .inl cc))])) (va_Qi (fun (r : Int32) (u : ((Nat → Int32) × (Nat → Int32) × (Nat → Nat → Int32) × (Nat → Nat → Int32) × Qt × Qt × Int32 × Int32 × (Nat → Int32))) => rg u.2.2.1 xf u.2.2.2.2.1 ∧ rg u.2.2.2.1 yf u.2.2.2.2.2.1 ∧ PW (B + 1) gv qv u.1 xd u.2.2.2.2.1 u.2.1 yd u.2.2.2.2.2.1 ∧ u.2.2.2.2.2.2.1 = nw + 1 ∧ u.2.2.2.2.2.2.2.2 0 = cc 0 + 1 ∧ u.2.2.2.2.2.2.2.2 1 = cc 1 ∧ u.2.2.2.2.2.2.2.2 2 = cc 2 ∧ r = 1) (fun (u : ((Nat → Int32) × (Nat → Int32) × (Nat → Nat → Int32) × (Nat → Nat → Int32) × Qt × Qt × Int32 × Int32 × (Nat → Int32))) t => zB D [(o, .inr (4, [.ref F, .ref G, .int (nI qv), .int nw, .int se, .ref (pa 0), .ref an, .ref ln])), cE x xv, (x 9, .inr (3, [.ref (x 10), .ref (x 11), .ref (x 12), .ref (x 13), .int (nI xf), .int (nI QX.1)])), (x 10, .inl (cA 0, 12, .inl (xr 0))), (x 11, .inl (cA 0, 12, .inl (xr 1))), (x 12, .inl (cA 0, 12, .inl (xr 2))), (x 13, .inl (cA 0, 48, .inl (xr 3))), (x 7, .inl (cA 0, 4, .inl (xd 6))), cE y yv, (y 9, .inr (3, [.ref (y 10), .ref (y 11), .ref (y 12), .ref (y 13), .int (nI yf), .int (nI QY.1)])), (y 10, .inl (cA 0, 12, .inl (yr 0))), (y 11, .inl (cA 0, 12, .inl (yr 1))), (y 12, .inl (cA 0, 12, .inl (yr 2))), (y 13, .inl (cA 0, 48, .inl (yr 3))), (y 7, .inl (cA 0, 4, .inl (yd 6))), (ca, .inl (cA 0, 3, .inl cc))] sz [(o, .inr (4, [.ref F, .ref G, .int (nI qv), .int u.2.2.2.2.2.2.1, .int u.2.2.2.2.2.2.2.1, .ref (pa 0), .ref an, .ref ln])), cE x u.1, (x 9, .inr (3, [.ref (x 10), .ref (x 11), .ref (x 12), .ref (x 13), .int (nI xf), .int (nI u.2.2.2.2.1.1)])), (x 10, .inl (cA 0, 12, .inl (u.2.2.1 0))), (x 11, .inl (cA 0, 12, .inl (u.2.2.1 1))), (x 12, .inl (cA 0, 12, .inl (u.2.2.1 2))), (x 13, .inl (cA 0, 48, .inl (u.2.2.1 3))), (x 7, .inl (cA 0, 4, .inl (xd 6))), cE y u.2.1, (y 9, .inr (3, [.ref (y 10), .ref (y 11), .ref (y 12), .ref (y 13), .int (nI yf), .int (nI u.2.2.2.2.2.1.1)])), (y 10, .inl (cA 0, 12, .inl (u.2.2.2.1 0))), (y 11, .inl (cA 0, 12, .inl (u.2.2.2.1 1))), (y 12, .inl (cA 0, 12, .inl (u.2.2.2.1 2))), (y 13, .inl (cA 0, 48, .inl (u.2.2.2.1 3))), (y 7, .inl (cA 0, 4, .inl (yd 6))), (ca, .inl (cA 0, 3, .inl u.2.2.2.2.2.2.2.2))] t) (va_A [(o, .inr (4, [.ref F, .ref G, .int (nI qv), .int nw, .int se, .ref (pa 0), .ref an, .ref ln])), cE x xv, (x 9, .inr (3, [.ref (x 10), .ref (x 11), .ref (x 12), .ref (x 13), .int (nI xf), .int (nI QX.1)])), (x 10, .inl (cA 0, 12, .inl (xr 0))), (x 11, .inl (cA 0, 12, .inl (xr 1))), (x 12, .inl (cA 0, 12, .inl (xr 2))), (x 13, .inl (cA 0, 48, .inl (xr 3))), (x 7, .inl (cA 0, 4, .inl (xd 6))), cE y yv, (y 9, .inr (3, [.ref (y 10), .ref (y 11), .ref (y 12), .ref (y 13), .int (nI yf), .int (nI QY.1)])), (y 10, .inl (cA 0, 12, .inl (yr 0))), (y 11, .inl (cA 0, 12, .inl (yr 1))), (y 12, .inl (cA 0, 12, .inl (yr 2))), (y 13, .inl (cA 0, 48, .inl (yr 3))), (y 7, .inl (cA 0, 4, .inl (yd 6))), (ca, .inl (cA 0, 3, .inl cc))] sz)) 0 0 (va_A [(o, .inr (4, [.ref F, .ref G, .int (nI qv), .int nw, .int se, .ref (pa 0), .ref an, .ref ln])), cE x xv, (x 9, .inr (3, [.ref (x 10), .ref (x 11), .ref (x 12), .ref (x 13), .int (nI xf), .int (nI QX.1)])), (x 10, .inl (cA 0, 12, .inl (xr 0))), (x 11, .inl (cA 0, 12, .inl (xr 1))), (x 12, .inl (cA 0, 12, .inl (xr 2))), (x 13, .inl (cA 0, 48, .inl (xr 3))), (x 7, .inl (cA 0, 4, .inl (xd 6))), cE y yv, (y 9, .inr (3, [.ref (y 10), .ref (y 11), .ref (y 12), .ref (y 13), .int (nI yf), .int (nI QY.1)])), (y 10, .inl (cA 0, 12, .inl (yr 0))), (y 11, .inl (cA 0, 12, .inl (yr 1))), (y 12, .inl (cA 0, 12, .inl (yr 2))), (y 13, .inl (cA 0, 48, .inl (yr 3))), (y 7, .inl (cA 0, 4, .inl (yd 6))), (ca, .inl (cA 0, 3, .inl cc))] sz) := by
  refine Met.ofW (cc := cL_ticks) (maxL := 11) (ret := (some .boolean)) (by decide) rfl ?_
  intro p e s m args below meth c s₁ B hml hv
  obtain ⟨rfl, ⟨hsz, hP, hK, hD0, hE0⟩, hX0⟩ := hv
  have hx := B.exec
  have hb := B.bytes
  have hr := B.returns
  have hts := atoms_spec (ws := wsL_ticks) B.pre
  have hown : s.vm.findClass RL = some m.cls := findClass_of_methodNamed B.named
  have hlocks := B.notSynchronized
  subst hsz
  have hD := hD0.self (sz := s.heap.size)
  generalize hAe : va_A [(o, .inr (4, [.ref F, .ref G, .int (nI qv), .int nw, .int se, .ref (pa 0), .ref an, .ref ln])), cE x xv, (x 9, .inr (3, [.ref (x 10), .ref (x 11), .ref (x 12), .ref (x 13), .int (nI xf), .int (nI QX.1)])), (x 10, .inl (cA 0, 12, .inl (xr 0))), (x 11, .inl (cA 0, 12, .inl (xr 1))), (x 12, .inl (cA 0, 12, .inl (xr 2))), (x 13, .inl (cA 0, 48, .inl (xr 3))), (x 7, .inl (cA 0, 4, .inl (xd 6))), cE y yv, (y 9, .inr (3, [.ref (y 10), .ref (y 11), .ref (y 12), .ref (y 13), .int (nI yf), .int (nI QY.1)])), (y 10, .inl (cA 0, 12, .inl (yr 0))), (y 11, .inl (cA 0, 12, .inl (yr 1))), (y 12, .inl (cA 0, 12, .inl (yr 2))), (y 13, .inl (cA 0, 48, .inl (yr 3))), (y 7, .inl (cA 0, 4, .inl (yd 6))), (ca, .inl (cA 0, 3, .inl cc))] s.heap.size = A at hD hE0 hX0 ⊢
  have hA : ∀ q : Nat, s.heap.size ≤ q → A q := fun q h => by rw [← hAe]; exact Or.inr h
  have hS : va_S A s.heap s.heap [] := va_S.rf
  have hl := lv_entry ([.ref o, .ref ca]) (n := 11) (Nat.le_of_ble_eq_true rfl)
  rw [lg_entry_eq]
  generalize (lg_sl ([.ref o, .ref ca]) ++ List.replicate (11 - (lg_sl ([.ref o, .ref ca])).length) Slot.unset).toArray = ls at hl ⊢
  have hl : lv_has ls 11 [(0, .ref o), (1, .ref ca)] := hl
  obtain ⟨sx, kx, tx, sy, ky, ty, hI, hbx, hby⟩ := hPW
  obtain ⟨hx0, hx2, hx3, hx7, hx10, hx4⟩ := id hI.1.1
  obtain ⟨hy0, hy2, hy3, hy7, hy10, hy4⟩ := id hI.1.2
  have hQx := hI.2.2.2.1.1
  have hQy := hI.2.2.2.1.2
  have hq1 := hI.2.2.2.2.1
  refine lv_aload_n hx hb dL_ticks_0 rfl (lv_at hl 0 rfl) ?_
  refine lv_iconst (v := 0) hx hb dL_ticks_1 (by decide) ?_
  have hPc := hP.sub (ws' := [(o, .inr (4, [.ref F, .ref G, .int (nI qv), .int nw, .int se, .ref (pa 0), .ref an, .ref ln])), cE x xv, (x 9, .inr (3, [.ref (x 10), .ref (x 11), .ref (x 12), .ref (x 13), .int (nI xf), .int (nI QX.1)]))]) [0, 1, 2] rfl
  have hDc := hD.sub (ws' := [(o, .inr (4, [.ref F, .ref G, .int (nI qv), .int nw, .int se, .ref (pa 0), .ref an, .ref ln])), cE x xv, (x 9, .inr (3, [.ref (x 10), .ref (x 11), .ref (x 12), .ref (x 13), .int (nI xf), .int (nI QX.1)]))]) [0, 1, 2] (by decide) rfl
  have hFc := va_free (wc := [(o, .inr (4, [.ref F, .ref G, .int (nI qv), .int nw, .int se, .ref (pa 0), .ref an, .ref ln])), cE x xv, (x 9, .inr (3, [.ref (x 10), .ref (x 11), .ref (x 12), .ref (x 13), .int (nI xf), .int (nI QX.1)]))]) hD hS hA [0, 1, 2] rfl
  refine va_calli (va_runV (As := [.int 0]) (rest := []) ⟨hx, hb, hml, hown, hts⟩ (c_X3_waiting_k l D cA s.heap.size o F G (nI qv) nw se pa an ln x (y 0) 0 xv xf QX (by first | exact he | exact en_flip he | exact en_01 he | exact en_10 he)) (cwV 1 hts gL_ticks_X3_waiting rfl rfl rfl (by decide +kernel) ⟨Nat.le_of_ble_eq_true rfl, Nat.le_of_ble_eq_true rfl⟩) ⟨zU_blind, va_recv hK hPc (ci := 4) (q0 := 0) rfl rfl, fun U hU hW => ⟨rfl, zU_call hU hPc hW.alike hK hDc⟩⟩ rfl rfl hl.1 rfl (lv_room (Nat.le_of_ble_eq_true rfl)) dL_ticks_2 ⟨(Nat.zero_le _), (Nat.zero_le _)⟩) hS (fun q _ h => hFc q h) hFc (fun zr u t H1 locs ht hvm hw hB hz1 hk1 hS => ?_)
  obtain ⟨hP1, hD1⟩ := hB
  rw [ht] at hP1
  obtain ⟨hP, hD⟩ := va_join (wr := [(x 10, .inl (cA 0, 12, .inl (xr 0))), (x 11, .inl (cA 0, 12, .inl (xr 1))), (x 12, .inl (cA 0, 12, .inl (xr 2))), (x 13, .inl (cA 0, 48, .inl (xr 3))), (x 7, .inl (cA 0, 4, .inl (xd 6))), cE y yv, (y 9, .inr (3, [.ref (y 10), .ref (y 11), .ref (y 12), .ref (y 13), .int (nI yf), .int (nI QY.1)])), (y 10, .inl (cA 0, 12, .inl (yr 0))), (y 11, .inl (cA 0, 12, .inl (yr 1))), (y 12, .inl (cA 0, 12, .inl (yr 2))), (y 13, .inl (cA 0, 48, .inl (yr 3))), (y 7, .inl (cA 0, 4, .inl (yd 6))), (ca, .inl (cA 0, 3, .inl cc))]) (w1 := [(o, .inr (4, [.ref F, .ref G, .int (nI qv), .int nw, .int se, .ref (pa 0), .ref an, .ref ln])), cE x xv, (x 9, .inr (3, [.ref (x 10), .ref (x 11), .ref (x 12), .ref (x 13), .int (nI xf), .int (nI QX.1)]))]) hP hD [0, 1, 2] [3, 4, 5, 6, 7, 8, 9, 10, 11, 12, 13, 14, 15] rfl rfl (by decide) (by decide) hk1 hFc hP1 hD1
  generalize H1 = H at hP hS ⊢
  have hP := hP.sub (ws' := [(o, .inr (4, [.ref F, .ref G, .int (nI qv), .int nw, .int se, .ref (pa 0), .ref an, .ref ln])), cE x xv, (x 9, .inr (3, [.ref (x 10), .ref (x 11), .ref (x 12), .ref (x 13), .int (nI xf), .int (nI QX.1)])), (x 10, .inl (cA 0, 12, .inl (xr 0))), (x 11, .inl (cA 0, 12, .inl (xr 1))), (x 12, .inl (cA 0, 12, .inl (xr 2))), (x 13, .inl (cA 0, 48, .inl (xr 3))), (x 7, .inl (cA 0, 4, .inl (xd 6))), cE y yv, (y 9, .inr (3, [.ref (y 10), .ref (y 11), .ref (y 12), .ref (y 13), .int (nI yf), .int (nI QY.1)])), (y 10, .inl (cA 0, 12, .inl (yr 0))), (y 11, .inl (cA 0, 12, .inl (yr 1))), (y 12, .inl (cA 0, 12, .inl (yr 2))), (y 13, .inl (cA 0, 48, .inl (yr 3))), (y 7, .inl (cA 0, 4, .inl (yd 6))), (ca, .inl (cA 0, 3, .inl cc))]) [13, 14, 15, 0, 1, 2, 3, 4, 5, 6, 7, 8, 9, 10, 11, 12] rfl
  have hD := hD.sub (ws' := [(o, .inr (4, [.ref F, .ref G, .int (nI qv), .int nw, .int se, .ref (pa 0), .ref an, .ref ln])), cE x xv, (x 9, .inr (3, [.ref (x 10), .ref (x 11), .ref (x 12), .ref (x 13), .int (nI xf), .int (nI QX.1)])), (x 10, .inl (cA 0, 12, .inl (xr 0))), (x 11, .inl (cA 0, 12, .inl (xr 1))), (x 12, .inl (cA 0, 12, .inl (xr 2))), (x 13, .inl (cA 0, 48, .inl (xr 3))), (x 7, .inl (cA 0, 4, .inl (xd 6))), cE y yv, (y 9, .inr (3, [.ref (y 10), .ref (y 11), .ref (y 12), .ref (y 13), .int (nI yf), .int (nI QY.1)])), (y 10, .inl (cA 0, 12, .inl (yr 0))), (y 11, .inl (cA 0, 12, .inl (yr 1))), (y 12, .inl (cA 0, 12, .inl (yr 2))), (y 13, .inl (cA 0, 48, .inl (yr 3))), (y 7, .inl (cA 0, 4, .inl (yd 6))), (ca, .inl (cA 0, 3, .inl cc))]) [13, 14, 15, 0, 1, 2, 3, 4, 5, 6, 7, 8, 9, 10, 11, 12] (by decide) rfl
  clear hPc hDc hFc hP1 hD1 hk1 hz1
  have hw_1 := hw
  obtain rfl := hw
  refine lv_aload_n hx hb dL_ticks_5 rfl (lv_at hl 0 rfl) ?_
  refine lv_iconst (v := 1) hx hb dL_ticks_6 (by decide) ?_
  have hPc := hP.sub (ws' := [(o, .inr (4, [.ref F, .ref G, .int (nI qv), .int nw, .int se, .ref (pa 0), .ref an, .ref ln])), cE y yv, (y 9, .inr (3, [.ref (y 10), .ref (y 11), .ref (y 12), .ref (y 13), .int (nI yf), .int (nI QY.1)]))]) [0, 8, 9] rfl
  have hDc := hD.sub (ws' := [(o, .inr (4, [.ref F, .ref G, .int (nI qv), .int nw, .int se, .ref (pa 0), .ref an, .ref ln])), cE y yv, (y 9, .inr (3, [.ref (y 10), .ref (y 11), .ref (y 12), .ref (y 13), .int (nI yf), .int (nI QY.1)]))]) [0, 8, 9] (by decide) rfl
  have hFc := va_free (wc := [(o, .inr (4, [.ref F, .ref G, .int (nI qv), .int nw, .int se, .ref (pa 0), .ref an, .ref ln])), cE y yv, (y 9, .inr (3, [.ref (y 10), .ref (y 11), .ref (y 12), .ref (y 13), .int (nI yf), .int (nI QY.1)]))]) hD hS hA [0, 8, 9] rfl
  refine va_calli (va_runV (As := [.int 1]) (rest := [.int (nI QX.1)]) ⟨hx, hb, hml, hown, hts⟩ (c_X3_waiting_k l D cA H.size o F G (nI qv) nw se pa an ln y (x 0) 1 yv yf QY (by first | exact he | exact en_flip he | exact en_01 he | exact en_10 he)) (cwV 1 hts gL_ticks_X3_waiting rfl rfl rfl (by decide +kernel) ⟨Nat.le_of_ble_eq_true rfl, Nat.le_of_ble_eq_true rfl⟩) ⟨zU_blind, va_recv hK hPc (ci := 4) (q0 := 0) rfl rfl, fun U hU hW => ⟨rfl, zU_call hU hPc hW.alike hK hDc⟩⟩ rfl rfl hl.1 rfl (lv_room (Nat.le_of_ble_eq_true rfl)) dL_ticks_7 ⟨(Nat.zero_le _), (Nat.zero_le _)⟩) hS (fun q _ h => hFc q h) hFc (fun zr u t H1 locs ht hvm hw hB hz1 hk1 hS => ?_)
  obtain ⟨hP1, hD1⟩ := hB
  rw [ht] at hP1
  obtain ⟨hP, hD⟩ := va_join (wr := [cE x xv, (x 9, .inr (3, [.ref (x 10), .ref (x 11), .ref (x 12), .ref (x 13), .int (nI xf), .int (nI QX.1)])), (x 10, .inl (cA 0, 12, .inl (xr 0))), (x 11, .inl (cA 0, 12, .inl (xr 1))), (x 12, .inl (cA 0, 12, .inl (xr 2))), (x 13, .inl (cA 0, 48, .inl (xr 3))), (x 7, .inl (cA 0, 4, .inl (xd 6))), (y 10, .inl (cA 0, 12, .inl (yr 0))), (y 11, .inl (cA 0, 12, .inl (yr 1))), (y 12, .inl (cA 0, 12, .inl (yr 2))), (y 13, .inl (cA 0, 48, .inl (yr 3))), (y 7, .inl (cA 0, 4, .inl (yd 6))), (ca, .inl (cA 0, 3, .inl cc))]) (w1 := [(o, .inr (4, [.ref F, .ref G, .int (nI qv), .int nw, .int se, .ref (pa 0), .ref an, .ref ln])), cE y yv, (y 9, .inr (3, [.ref (y 10), .ref (y 11), .ref (y 12), .ref (y 13), .int (nI yf), .int (nI QY.1)]))]) hP hD [0, 8, 9] [1, 2, 3, 4, 5, 6, 7, 10, 11, 12, 13, 14, 15] rfl rfl (by decide) (by decide) hk1 hFc hP1 hD1
  generalize H1 = H at hP hS ⊢
  have hP := hP.sub (ws' := [(o, .inr (4, [.ref F, .ref G, .int (nI qv), .int nw, .int se, .ref (pa 0), .ref an, .ref ln])), cE x xv, (x 9, .inr (3, [.ref (x 10), .ref (x 11), .ref (x 12), .ref (x 13), .int (nI xf), .int (nI QX.1)])), (x 10, .inl (cA 0, 12, .inl (xr 0))), (x 11, .inl (cA 0, 12, .inl (xr 1))), (x 12, .inl (cA 0, 12, .inl (xr 2))), (x 13, .inl (cA 0, 48, .inl (xr 3))), (x 7, .inl (cA 0, 4, .inl (xd 6))), cE y yv, (y 9, .inr (3, [.ref (y 10), .ref (y 11), .ref (y 12), .ref (y 13), .int (nI yf), .int (nI QY.1)])), (y 10, .inl (cA 0, 12, .inl (yr 0))), (y 11, .inl (cA 0, 12, .inl (yr 1))), (y 12, .inl (cA 0, 12, .inl (yr 2))), (y 13, .inl (cA 0, 48, .inl (yr 3))), (y 7, .inl (cA 0, 4, .inl (yd 6))), (ca, .inl (cA 0, 3, .inl cc))]) [13, 0, 1, 2, 3, 4, 5, 6, 14, 15, 7, 8, 9, 10, 11, 12] rfl
  have hD := hD.sub (ws' := [(o, .inr (4, [.ref F, .ref G, .int (nI qv), .int nw, .int se, .ref (pa 0), .ref an, .ref ln])), cE x xv, (x 9, .inr (3, [.ref (x 10), .ref (x 11), .ref (x 12), .ref (x 13), .int (nI xf), .int (nI QX.1)])), (x 10, .inl (cA 0, 12, .inl (xr 0))), (x 11, .inl (cA 0, 12, .inl (xr 1))), (x 12, .inl (cA 0, 12, .inl (xr 2))), (x 13, .inl (cA 0, 48, .inl (xr 3))), (x 7, .inl (cA 0, 4, .inl (xd 6))), cE y yv, (y 9, .inr (3, [.ref (y 10), .ref (y 11), .ref (y 12), .ref (y 13), .int (nI yf), .int (nI QY.1)])), (y 10, .inl (cA 0, 12, .inl (yr 0))), (y 11, .inl (cA 0, 12, .inl (yr 1))), (y 12, .inl (cA 0, 12, .inl (yr 2))), (y 13, .inl (cA 0, 48, .inl (yr 3))), (y 7, .inl (cA 0, 4, .inl (yd 6))), (ca, .inl (cA 0, 3, .inl cc))]) [13, 0, 1, 2, 3, 4, 5, 6, 14, 15, 7, 8, 9, 10, 11, 12] (by decide) rfl
  clear hPc hDc hFc hP1 hD1 hk1 hz1
  have hw_2 := hw
  obtain rfl := hw
  refine lv_iadd hx hb dL_ticks_10 ?_
  refine z_top (y := (nI (QX.1 + QY.1))) (z_add QX.1 QY.1) ?_
  refine lv_istore_n (lv' := [(2, .int (nI (QX.1 + QY.1))), (0, .ref o), (1, .ref ca)]) hx hb dL_ticks_11 rfl hl (by decide) rfl (fun ls hl => ?_)
  refine z_cut (Inv := fun H locs ls st => st = [.int (bI (10 < QX.1 ∨ 10 < QY.1))] ∧ va_P D vwCl [(o, .inr (4, [.ref F, .ref G, .int (nI qv), .int nw, .int se, .ref (pa 0), .ref an, .ref ln])), cE x xv, (x 9, .inr (3, [.ref (x 10), .ref (x 11), .ref (x 12), .ref (x 13), .int (nI xf), .int (nI QX.1)])), (x 10, .inl (cA 0, 12, .inl (xr 0))), (x 11, .inl (cA 0, 12, .inl (xr 1))), (x 12, .inl (cA 0, 12, .inl (xr 2))), (x 13, .inl (cA 0, 48, .inl (xr 3))), (x 7, .inl (cA 0, 4, .inl (xd 6))), cE y yv, (y 9, .inr (3, [.ref (y 10), .ref (y 11), .ref (y 12), .ref (y 13), .int (nI yf), .int (nI QY.1)])), (y 10, .inl (cA 0, 12, .inl (yr 0))), (y 11, .inl (cA 0, 12, .inl (yr 1))), (y 12, .inl (cA 0, 12, .inl (yr 2))), (y 13, .inl (cA 0, 48, .inl (yr 3))), (y 7, .inl (cA 0, 4, .inl (yd 6))), (ca, .inl (cA 0, 3, .inl cc))] H ∧ va_D A [(o, .inr (4, [.ref F, .ref G, .int (nI qv), .int nw, .int se, .ref (pa 0), .ref an, .ref ln])), cE x xv, (x 9, .inr (3, [.ref (x 10), .ref (x 11), .ref (x 12), .ref (x 13), .int (nI xf), .int (nI QX.1)])), (x 10, .inl (cA 0, 12, .inl (xr 0))), (x 11, .inl (cA 0, 12, .inl (xr 1))), (x 12, .inl (cA 0, 12, .inl (xr 2))), (x 13, .inl (cA 0, 48, .inl (xr 3))), (x 7, .inl (cA 0, 4, .inl (xd 6))), cE y yv, (y 9, .inr (3, [.ref (y 10), .ref (y 11), .ref (y 12), .ref (y 13), .int (nI yf), .int (nI QY.1)])), (y 10, .inl (cA 0, 12, .inl (yr 0))), (y 11, .inl (cA 0, 12, .inl (yr 1))), (y 12, .inl (cA 0, 12, .inl (yr 2))), (y 13, .inl (cA 0, 48, .inl (yr 3))), (y 7, .inl (cA 0, 4, .inl (yd 6))), (ca, .inl (cA 0, 3, .inl cc))] ∧ va_S A s.heap H locs ∧ lv_has ls 11 [(2, .int (nI (QX.1 + QY.1))), (0, .ref o), (1, .ref ca)]) 37 (fun H locs ls st hQ9 => ?_) (fun kJ => ?_)
  · obtain ⟨rfl, hP, hD, hS, hl⟩ := hQ9
    refine lv_istore_n (lv' := [(3, .int (bI (10 < QX.1 ∨ 10 < QY.1))), (2, .int (nI (QX.1 + QY.1))), (0, .ref o), (1, .ref ca)]) hx hb dL_ticks_37 rfl hl (by decide) rfl (fun ls hl => ?_)
    refine lv_aload_n hx hb dL_ticks_38 rfl (lv_at hl 2 rfl) ?_
    refine lv_iconst (v := 0) hx hb dL_ticks_39 (by decide) ?_
    have hPc := hP.sub (ws' := [(o, .inr (4, [.ref F, .ref G, .int (nI qv), .int nw, .int se, .ref (pa 0), .ref an, .ref ln])), cE x xv]) [0, 1] rfl
    have hDc := hD.sub (ws' := [(o, .inr (4, [.ref F, .ref G, .int (nI qv), .int nw, .int se, .ref (pa 0), .ref an, .ref ln])), cE x xv]) [0, 1] (by decide) rfl
    have hFc := va_free (wc := [(o, .inr (4, [.ref F, .ref G, .int (nI qv), .int nw, .int se, .ref (pa 0), .ref an, .ref ln])), cE x xv]) hD hS hA [0, 1] rfl
    refine va_calli (va_runV (As := [.int 0]) (rest := []) ⟨hx, hb, hml, hown, hts⟩ (c_X3_state_k l D cA H.size o F G (nI qv) nw se pa an ln x (y 0) 0 xv (by first | exact he | exact en_flip he | exact en_01 he | exact en_10 he)) (cwV 1 hts gL_ticks_X3_state rfl rfl rfl (by decide +kernel) ⟨Nat.le_of_ble_eq_true rfl, Nat.le_of_ble_eq_true rfl⟩) ⟨zU_blind, va_recv hK hPc (ci := 4) (q0 := 0) rfl rfl, fun U hU hW => ⟨rfl, zU_call hU hPc hW.alike hK hDc⟩⟩ rfl rfl hl.1 rfl (lv_room (Nat.le_of_ble_eq_true rfl)) dL_ticks_40 ⟨(Nat.zero_le _), (Nat.zero_le _)⟩) hS (fun q _ h => hFc q h) hFc (fun zr u t H1 locs ht hvm hw hB hz1 hk1 hS => ?_)
    obtain ⟨hP1, hD1⟩ := hB
    rw [ht] at hP1
    obtain ⟨hP, hD⟩ := va_join (wr := [(x 9, .inr (3, [.ref (x 10), .ref (x 11), .ref (x 12), .ref (x 13), .int (nI xf), .int (nI QX.1)])), (x 10, .inl (cA 0, 12, .inl (xr 0))), (x 11, .inl (cA 0, 12, .inl (xr 1))), (x 12, .inl (cA 0, 12, .inl (xr 2))), (x 13, .inl (cA 0, 48, .inl (xr 3))), (x 7, .inl (cA 0, 4, .inl (xd 6))), cE y yv, (y 9, .inr (3, [.ref (y 10), .ref (y 11), .ref (y 12), .ref (y 13), .int (nI yf), .int (nI QY.1)])), (y 10, .inl (cA 0, 12, .inl (yr 0))), (y 11, .inl (cA 0, 12, .inl (yr 1))), (y 12, .inl (cA 0, 12, .inl (yr 2))), (y 13, .inl (cA 0, 48, .inl (yr 3))), (y 7, .inl (cA 0, 4, .inl (yd 6))), (ca, .inl (cA 0, 3, .inl cc))]) (w1 := [(o, .inr (4, [.ref F, .ref G, .int (nI qv), .int nw, .int se, .ref (pa 0), .ref an, .ref ln])), cE x xv]) hP hD [0, 1] [2, 3, 4, 5, 6, 7, 8, 9, 10, 11, 12, 13, 14, 15] rfl rfl (by decide) (by decide) hk1 hFc hP1 hD1
    generalize H1 = H at hP hS ⊢
    have hP := hP.sub (ws' := [(o, .inr (4, [.ref F, .ref G, .int (nI qv), .int nw, .int se, .ref (pa 0), .ref an, .ref ln])), cE x xv, (x 9, .inr (3, [.ref (x 10), .ref (x 11), .ref (x 12), .ref (x 13), .int (nI xf), .int (nI QX.1)])), (x 10, .inl (cA 0, 12, .inl (xr 0))), (x 11, .inl (cA 0, 12, .inl (xr 1))), (x 12, .inl (cA 0, 12, .inl (xr 2))), (x 13, .inl (cA 0, 48, .inl (xr 3))), (x 7, .inl (cA 0, 4, .inl (xd 6))), cE y yv, (y 9, .inr (3, [.ref (y 10), .ref (y 11), .ref (y 12), .ref (y 13), .int (nI yf), .int (nI QY.1)])), (y 10, .inl (cA 0, 12, .inl (yr 0))), (y 11, .inl (cA 0, 12, .inl (yr 1))), (y 12, .inl (cA 0, 12, .inl (yr 2))), (y 13, .inl (cA 0, 48, .inl (yr 3))), (y 7, .inl (cA 0, 4, .inl (yd 6))), (ca, .inl (cA 0, 3, .inl cc))]) [14, 15, 0, 1, 2, 3, 4, 5, 6, 7, 8, 9, 10, 11, 12, 13] rfl
    have hD := hD.sub (ws' := [(o, .inr (4, [.ref F, .ref G, .int (nI qv), .int nw, .int se, .ref (pa 0), .ref an, .ref ln])), cE x xv, (x 9, .inr (3, [.ref (x 10), .ref (x 11), .ref (x 12), .ref (x 13), .int (nI xf), .int (nI QX.1)])), (x 10, .inl (cA 0, 12, .inl (xr 0))), (x 11, .inl (cA 0, 12, .inl (xr 1))), (x 12, .inl (cA 0, 12, .inl (xr 2))), (x 13, .inl (cA 0, 48, .inl (xr 3))), (x 7, .inl (cA 0, 4, .inl (xd 6))), cE y yv, (y 9, .inr (3, [.ref (y 10), .ref (y 11), .ref (y 12), .ref (y 13), .int (nI yf), .int (nI QY.1)])), (y 10, .inl (cA 0, 12, .inl (yr 0))), (y 11, .inl (cA 0, 12, .inl (yr 1))), (y 12, .inl (cA 0, 12, .inl (yr 2))), (y 13, .inl (cA 0, 48, .inl (yr 3))), (y 7, .inl (cA 0, 4, .inl (yd 6))), (ca, .inl (cA 0, 3, .inl cc))]) [14, 15, 0, 1, 2, 3, 4, 5, 6, 7, 8, 9, 10, 11, 12, 13] (by decide) rfl
    clear hPc hDc hFc hP1 hD1 hk1 hz1
    have hw_3 := hw
    obtain rfl := hw
    refine z_top (y := (nI sx)) hx0 ?_
    refine lv_istore (lv' := [(4, .int (nI sx)), (3, .int (bI (10 < QX.1 ∨ 10 < QY.1))), (2, .int (nI (QX.1 + QY.1))), (0, .ref o), (1, .ref ca)]) hx hb dL_ticks_43 hl (by decide) rfl (fun ls hl => ?_)
    refine lv_aload_n hx hb dL_ticks_45 rfl (lv_at hl 3 rfl) ?_
    refine lv_iconst (v := 1) hx hb dL_ticks_46 (by decide) ?_
    have hPc := hP.sub (ws' := [(o, .inr (4, [.ref F, .ref G, .int (nI qv), .int nw, .int se, .ref (pa 0), .ref an, .ref ln])), cE y yv]) [0, 8] rfl
    have hDc := hD.sub (ws' := [(o, .inr (4, [.ref F, .ref G, .int (nI qv), .int nw, .int se, .ref (pa 0), .ref an, .ref ln])), cE y yv]) [0, 8] (by decide) rfl
    have hFc := va_free (wc := [(o, .inr (4, [.ref F, .ref G, .int (nI qv), .int nw, .int se, .ref (pa 0), .ref an, .ref ln])), cE y yv]) hD hS hA [0, 8] rfl
    refine va_calli (va_runV (As := [.int 1]) (rest := []) ⟨hx, hb, hml, hown, hts⟩ (c_X3_state_k l D cA H.size o F G (nI qv) nw se pa an ln y (x 0) 1 yv (by first | exact he | exact en_flip he | exact en_01 he | exact en_10 he)) (cwV 1 hts gL_ticks_X3_state rfl rfl rfl (by decide +kernel) ⟨Nat.le_of_ble_eq_true rfl, Nat.le_of_ble_eq_true rfl⟩) ⟨zU_blind, va_recv hK hPc (ci := 4) (q0 := 0) rfl rfl, fun U hU hW => ⟨rfl, zU_call hU hPc hW.alike hK hDc⟩⟩ rfl rfl hl.1 rfl (lv_room (Nat.le_of_ble_eq_true rfl)) dL_ticks_47 ⟨(Nat.zero_le _), (Nat.zero_le _)⟩) hS (fun q _ h => hFc q h) hFc (fun zr u t H1 locs ht hvm hw hB hz1 hk1 hS => ?_)
    obtain ⟨hP1, hD1⟩ := hB
    rw [ht] at hP1
    obtain ⟨hP, hD⟩ := va_join (wr := [cE x xv, (x 9, .inr (3, [.ref (x 10), .ref (x 11), .ref (x 12), .ref (x 13), .int (nI xf), .int (nI QX.1)])), (x 10, .inl (cA 0, 12, .inl (xr 0))), (x 11, .inl (cA 0, 12, .inl (xr 1))), (x 12, .inl (cA 0, 12, .inl (xr 2))), (x 13, .inl (cA 0, 48, .inl (xr 3))), (x 7, .inl (cA 0, 4, .inl (xd 6))), (y 9, .inr (3, [.ref (y 10), .ref (y 11), .ref (y 12), .ref (y 13), .int (nI yf), .int (nI QY.1)])), (y 10, .inl (cA 0, 12, .inl (yr 0))), (y 11, .inl (cA 0, 12, .inl (yr 1))), (y 12, .inl (cA 0, 12, .inl (yr 2))), (y 13, .inl (cA 0, 48, .inl (yr 3))), (y 7, .inl (cA 0, 4, .inl (yd 6))), (ca, .inl (cA 0, 3, .inl cc))]) (w1 := [(o, .inr (4, [.ref F, .ref G, .int (nI qv), .int nw, .int se, .ref (pa 0), .ref an, .ref ln])), cE y yv]) hP hD [0, 8] [1, 2, 3, 4, 5, 6, 7, 9, 10, 11, 12, 13, 14, 15] rfl rfl (by decide) (by decide) hk1 hFc hP1 hD1
    generalize H1 = H at hP hS ⊢
    have hP := hP.sub (ws' := [(o, .inr (4, [.ref F, .ref G, .int (nI qv), .int nw, .int se, .ref (pa 0), .ref an, .ref ln])), cE x xv, (x 9, .inr (3, [.ref (x 10), .ref (x 11), .ref (x 12), .ref (x 13), .int (nI xf), .int (nI QX.1)])), (x 10, .inl (cA 0, 12, .inl (xr 0))), (x 11, .inl (cA 0, 12, .inl (xr 1))), (x 12, .inl (cA 0, 12, .inl (xr 2))), (x 13, .inl (cA 0, 48, .inl (xr 3))), (x 7, .inl (cA 0, 4, .inl (xd 6))), cE y yv, (y 9, .inr (3, [.ref (y 10), .ref (y 11), .ref (y 12), .ref (y 13), .int (nI yf), .int (nI QY.1)])), (y 10, .inl (cA 0, 12, .inl (yr 0))), (y 11, .inl (cA 0, 12, .inl (yr 1))), (y 12, .inl (cA 0, 12, .inl (yr 2))), (y 13, .inl (cA 0, 48, .inl (yr 3))), (y 7, .inl (cA 0, 4, .inl (yd 6))), (ca, .inl (cA 0, 3, .inl cc))]) [14, 0, 1, 2, 3, 4, 5, 6, 15, 7, 8, 9, 10, 11, 12, 13] rfl
    have hD := hD.sub (ws' := [(o, .inr (4, [.ref F, .ref G, .int (nI qv), .int nw, .int se, .ref (pa 0), .ref an, .ref ln])), cE x xv, (x 9, .inr (3, [.ref (x 10), .ref (x 11), .ref (x 12), .ref (x 13), .int (nI xf), .int (nI QX.1)])), (x 10, .inl (cA 0, 12, .inl (xr 0))), (x 11, .inl (cA 0, 12, .inl (xr 1))), (x 12, .inl (cA 0, 12, .inl (xr 2))), (x 13, .inl (cA 0, 48, .inl (xr 3))), (x 7, .inl (cA 0, 4, .inl (xd 6))), cE y yv, (y 9, .inr (3, [.ref (y 10), .ref (y 11), .ref (y 12), .ref (y 13), .int (nI yf), .int (nI QY.1)])), (y 10, .inl (cA 0, 12, .inl (yr 0))), (y 11, .inl (cA 0, 12, .inl (yr 1))), (y 12, .inl (cA 0, 12, .inl (yr 2))), (y 13, .inl (cA 0, 48, .inl (yr 3))), (y 7, .inl (cA 0, 4, .inl (yd 6))), (ca, .inl (cA 0, 3, .inl cc))]) [14, 0, 1, 2, 3, 4, 5, 6, 15, 7, 8, 9, 10, 11, 12, 13] (by decide) rfl
    clear hPc hDc hFc hP1 hD1 hk1 hz1
    have hw_4 := hw
    obtain rfl := hw
    refine z_top (y := (nI sy)) hy0 ?_
    refine lv_istore (lv' := [(5, .int (nI sy)), (4, .int (nI sx)), (3, .int (bI (10 < QX.1 ∨ 10 < QY.1))), (2, .int (nI (QX.1 + QY.1))), (0, .ref o), (1, .ref ca)]) hx hb dL_ticks_50 hl (by decide) rfl (fun ls hl => ?_)
    refine lv_aload_n hx hb dL_ticks_52 rfl (lv_at hl 4 rfl) ?_
    have hPc := hP.sub (ws' := [(o, .inr (4, [.ref F, .ref G, .int (nI qv), .int nw, .int se, .ref (pa 0), .ref an, .ref ln])), cE x xv, (x 9, .inr (3, [.ref (x 10), .ref (x 11), .ref (x 12), .ref (x 13), .int (nI xf), .int (nI QX.1)])), (x 10, .inl (cA 0, 12, .inl (xr 0))), (x 11, .inl (cA 0, 12, .inl (xr 1))), (x 12, .inl (cA 0, 12, .inl (xr 2))), (x 13, .inl (cA 0, 48, .inl (xr 3))), cE y yv, (y 9, .inr (3, [.ref (y 10), .ref (y 11), .ref (y 12), .ref (y 13), .int (nI yf), .int (nI QY.1)])), (y 10, .inl (cA 0, 12, .inl (yr 0))), (y 11, .inl (cA 0, 12, .inl (yr 1))), (y 12, .inl (cA 0, 12, .inl (yr 2))), (y 13, .inl (cA 0, 48, .inl (yr 3))), (x 7, .inl (cA 0, 4, .inl (xd 6))), (y 7, .inl (cA 0, 4, .inl (yd 6)))]) [0, 1, 2, 3, 4, 5, 6, 8, 9, 10, 11, 12, 13, 7, 14] rfl
    have hDc := hD.sub (ws' := [(o, .inr (4, [.ref F, .ref G, .int (nI qv), .int nw, .int se, .ref (pa 0), .ref an, .ref ln])), cE x xv, (x 9, .inr (3, [.ref (x 10), .ref (x 11), .ref (x 12), .ref (x 13), .int (nI xf), .int (nI QX.1)])), (x 10, .inl (cA 0, 12, .inl (xr 0))), (x 11, .inl (cA 0, 12, .inl (xr 1))), (x 12, .inl (cA 0, 12, .inl (xr 2))), (x 13, .inl (cA 0, 48, .inl (xr 3))), cE y yv, (y 9, .inr (3, [.ref (y 10), .ref (y 11), .ref (y 12), .ref (y 13), .int (nI yf), .int (nI QY.1)])), (y 10, .inl (cA 0, 12, .inl (yr 0))), (y 11, .inl (cA 0, 12, .inl (yr 1))), (y 12, .inl (cA 0, 12, .inl (yr 2))), (y 13, .inl (cA 0, 48, .inl (yr 3))), (x 7, .inl (cA 0, 4, .inl (xd 6))), (y 7, .inl (cA 0, 4, .inl (yd 6)))]) [0, 1, 2, 3, 4, 5, 6, 8, 9, 10, 11, 12, 13, 7, 14] (by decide) rfl
    have hFc := va_free (wc := [(o, .inr (4, [.ref F, .ref G, .int (nI qv), .int nw, .int se, .ref (pa 0), .ref an, .ref ln])), cE x xv, (x 9, .inr (3, [.ref (x 10), .ref (x 11), .ref (x 12), .ref (x 13), .int (nI xf), .int (nI QX.1)])), (x 10, .inl (cA 0, 12, .inl (xr 0))), (x 11, .inl (cA 0, 12, .inl (xr 1))), (x 12, .inl (cA 0, 12, .inl (xr 2))), (x 13, .inl (cA 0, 48, .inl (xr 3))), cE y yv, (y 9, .inr (3, [.ref (y 10), .ref (y 11), .ref (y 12), .ref (y 13), .int (nI yf), .int (nI QY.1)])), (y 10, .inl (cA 0, 12, .inl (yr 0))), (y 11, .inl (cA 0, 12, .inl (yr 1))), (y 12, .inl (cA 0, 12, .inl (yr 2))), (y 13, .inl (cA 0, 48, .inl (yr 3))), (x 7, .inl (cA 0, 4, .inl (xd 6))), (y 7, .inl (cA 0, 4, .inl (yd 6)))]) hD hS hA [0, 1, 2, 3, 4, 5, 6, 8, 9, 10, 11, 12, 13, 7, 14] rfl
    refine va_calli (va_runV (As := []) (rest := []) ⟨hx, hb, hml, hown, hts⟩ (c_X3_tick_k l D cA zv H.size o F G (nI qv) nw se pa an ln x y xv yv xr yr xf yf QX QY (xd 6) (yd 6) (by first | exact he | exact en_flip he | exact en_01 he | exact en_10 he) (by assumption) (by assumption)) (cwV 0 hts gL_ticks_X3_tick rfl rfl rfl (by decide +kernel) ⟨Nat.le_of_ble_eq_true rfl, Nat.le_of_ble_eq_true rfl⟩) ⟨zUE_blind, va_recv hK hPc (ci := 4) (q0 := 0) rfl rfl, fun U hU hW => ⟨rfl, zUE_call hE0 hS hFc hU hPc hW hK hDc⟩⟩ rfl rfl hl.1 rfl (lv_room (Nat.le_of_ble_eq_true rfl)) dL_ticks_53 ⟨(Nat.zero_le _), (Nat.zero_le _)⟩) hS (fun q _ h => hFc q h) hFc (fun zr u t H1 locs ht hvm hw hB hz1 hk1 hS => ?_)
    obtain ⟨xv'_5, yv'_5, nw'_5, xr'_5, yr'_5, QX'_5, QY'_5, se'_5⟩ := u
    obtain ⟨hP1, hD1⟩ := hB
    rw [ht] at hP1
    try dsimp only at hw hP1 hD1
    obtain ⟨hP, hD⟩ := va_join (wr := [(ca, .inl (cA 0, 3, .inl cc))]) (w1 := [(o, .inr (4, [.ref F, .ref G, .int (nI qv), .int nw'_5, .int se'_5, .ref (pa 0), .ref an, .ref ln])), cE x xv'_5, (x 9, .inr (3, [.ref (x 10), .ref (x 11), .ref (x 12), .ref (x 13), .int (nI xf), .int (nI QX'_5.1)])), (x 10, .inl (cA 0, 12, .inl (xr'_5 0))), (x 11, .inl (cA 0, 12, .inl (xr'_5 1))), (x 12, .inl (cA 0, 12, .inl (xr'_5 2))), (x 13, .inl (cA 0, 48, .inl (xr'_5 3))), cE y yv'_5, (y 9, .inr (3, [.ref (y 10), .ref (y 11), .ref (y 12), .ref (y 13), .int (nI yf), .int (nI QY'_5.1)])), (y 10, .inl (cA 0, 12, .inl (yr'_5 0))), (y 11, .inl (cA 0, 12, .inl (yr'_5 1))), (y 12, .inl (cA 0, 12, .inl (yr'_5 2))), (y 13, .inl (cA 0, 48, .inl (yr'_5 3))), (x 7, .inl (cA 0, 4, .inl (xd 6))), (y 7, .inl (cA 0, 4, .inl (yd 6)))]) hP hD [0, 1, 2, 3, 4, 5, 6, 8, 9, 10, 11, 12, 13, 7, 14] [15] rfl rfl (by decide) (by decide) hk1 hFc hP1 hD1
    generalize H1 = H at hP hS ⊢
    have hP := hP.sub (ws' := [(o, .inr (4, [.ref F, .ref G, .int (nI qv), .int nw'_5, .int se'_5, .ref (pa 0), .ref an, .ref ln])), cE x xv'_5, (x 9, .inr (3, [.ref (x 10), .ref (x 11), .ref (x 12), .ref (x 13), .int (nI xf), .int (nI QX'_5.1)])), (x 10, .inl (cA 0, 12, .inl (xr'_5 0))), (x 11, .inl (cA 0, 12, .inl (xr'_5 1))), (x 12, .inl (cA 0, 12, .inl (xr'_5 2))), (x 13, .inl (cA 0, 48, .inl (xr'_5 3))), (x 7, .inl (cA 0, 4, .inl (xd 6))), cE y yv'_5, (y 9, .inr (3, [.ref (y 10), .ref (y 11), .ref (y 12), .ref (y 13), .int (nI yf), .int (nI QY'_5.1)])), (y 10, .inl (cA 0, 12, .inl (yr'_5 0))), (y 11, .inl (cA 0, 12, .inl (yr'_5 1))), (y 12, .inl (cA 0, 12, .inl (yr'_5 2))), (y 13, .inl (cA 0, 48, .inl (yr'_5 3))), (y 7, .inl (cA 0, 4, .inl (yd 6))), (ca, .inl (cA 0, 3, .inl cc))]) [1, 2, 3, 4, 5, 6, 7, 14, 8, 9, 10, 11, 12, 13, 15, 0] rfl
    have hD := hD.sub (ws' := [(o, .inr (4, [.ref F, .ref G, .int (nI qv), .int nw'_5, .int se'_5, .ref (pa 0), .ref an, .ref ln])), cE x xv'_5, (x 9, .inr (3, [.ref (x 10), .ref (x 11), .ref (x 12), .ref (x 13), .int (nI xf), .int (nI QX'_5.1)])), (x 10, .inl (cA 0, 12, .inl (xr'_5 0))), (x 11, .inl (cA 0, 12, .inl (xr'_5 1))), (x 12, .inl (cA 0, 12, .inl (xr'_5 2))), (x 13, .inl (cA 0, 48, .inl (xr'_5 3))), (x 7, .inl (cA 0, 4, .inl (xd 6))), cE y yv'_5, (y 9, .inr (3, [.ref (y 10), .ref (y 11), .ref (y 12), .ref (y 13), .int (nI yf), .int (nI QY'_5.1)])), (y 10, .inl (cA 0, 12, .inl (yr'_5 0))), (y 11, .inl (cA 0, 12, .inl (yr'_5 1))), (y 12, .inl (cA 0, 12, .inl (yr'_5 2))), (y 13, .inl (cA 0, 48, .inl (yr'_5 3))), (y 7, .inl (cA 0, 4, .inl (yd 6))), (ca, .inl (cA 0, 3, .inl cc))]) [1, 2, 3, 4, 5, 6, 7, 14, 8, 9, 10, 11, 12, 13, 15, 0] (by decide) rfl
    clear hPc hDc hFc hP1 hD1 hk1 hz1
    obtain ⟨hw_5_0, hw_5_1, hw_5_2, hw_5_3, hw_5_4, hw_5_5, hw_5_6, hw_5_7, hw_5_8⟩ := hw
    obtain ⟨r_5, rfl⟩ : ∃ z, z = zr := ⟨_, rfl⟩
    obtain ⟨s1, n1, t1, s2, n2, t2, c9, hI1, hn1, hn2, hT1, hT2, hc9, hcl, hca, hcb, hcc⟩ := tick_t (se := se) hI (by omega) (by omega) _ _ rfl rfl
    refine z_top (y := (nI c9)) (hw_5_8.trans hc9) ?_
    rw [← hw_5_3, ← hw_5_4, ← hw_5_1, ← hw_5_0] at hI1
    rw [← hw_5_3, ← hw_5_4] at hca hcb hcc
    unfold TF at hT1 hT2
    have hs17 := hI1.1.1.2.2.2.1
    have hs27 := hI1.1.2.2.2.2.1
    have ht17 := hI1.1.1.2.2.2.2.1
    have ht27 := hI1.1.2.2.2.2.2.1
    have hQ1 := hI1.2.2.2.1.1
    have hQ2 := hI1.2.2.2.1.2
    obtain rfl := hw_5_2
    refine lv_istore (lv' := [(6, .int (nI c9)), (5, .int (nI sy)), (4, .int (nI sx)), (3, .int (bI (10 < QX.1 ∨ 10 < QY.1))), (2, .int (nI (QX.1 + QY.1))), (0, .ref o), (1, .ref ca)]) hx hb dL_ticks_56 hl (by decide) rfl (fun ls hl => ?_)
    refine lv_aload_n hx hb dL_ticks_58 rfl (lv_at hl 6 rfl) ?_
    refine lv_iconst (v := 0) hx hb dL_ticks_59 (by decide) ?_
    refine lv_dup2_11 hx hb dL_ticks_60 rfl rfl ?_
    refine z_iald (k := 0) (v := (cc 0)) hx hb hK hP 15 0 rfl rfl rfl (by omega) (by decide) rfl dL_ticks_61 ?_
    refine lv_iconst (v := 1) hx hb dL_ticks_62 (by decide) ?_
    refine lv_iadd hx hb dL_ticks_63 ?_
    refine z_iast (k := 0) hx hb hK hP hD hS 15 0 rfl rfl rfl (by omega) (by decide) dL_ticks_64 (fun H locs hP hD hS => ?_)
    have hP : va_P D vwCl [(o, .inr (4, [.ref F, .ref G, .int (nI qv), .int (nw + 1), .int se'_5, .ref (pa 0), .ref an, .ref ln])), cE x xv'_5, (x 9, .inr (3, [.ref (x 10), .ref (x 11), .ref (x 12), .ref (x 13), .int (nI xf), .int (nI QX'_5.1)])), (x 10, .inl (cA 0, 12, .inl (xr'_5 0))), (x 11, .inl (cA 0, 12, .inl (xr'_5 1))), (x 12, .inl (cA 0, 12, .inl (xr'_5 2))), (x 13, .inl (cA 0, 48, .inl (xr'_5 3))), (x 7, .inl (cA 0, 4, .inl (xd 6))), cE y yv'_5, (y 9, .inr (3, [.ref (y 10), .ref (y 11), .ref (y 12), .ref (y 13), .int (nI yf), .int (nI QY'_5.1)])), (y 10, .inl (cA 0, 12, .inl (yr'_5 0))), (y 11, .inl (cA 0, 12, .inl (yr'_5 1))), (y 12, .inl (cA 0, 12, .inl (yr'_5 2))), (y 13, .inl (cA 0, 48, .inl (yr'_5 3))), (y 7, .inl (cA 0, 4, .inl (yd 6))), (ca, .inl (cA 0, 3, .inl (upd cc 0 ((cc 0) + 1))))] H := hP
    have hD : va_D A [(o, .inr (4, [.ref F, .ref G, .int (nI qv), .int (nw + 1), .int se'_5, .ref (pa 0), .ref an, .ref ln])), cE x xv'_5, (x 9, .inr (3, [.ref (x 10), .ref (x 11), .ref (x 12), .ref (x 13), .int (nI xf), .int (nI QX'_5.1)])), (x 10, .inl (cA 0, 12, .inl (xr'_5 0))), (x 11, .inl (cA 0, 12, .inl (xr'_5 1))), (x 12, .inl (cA 0, 12, .inl (xr'_5 2))), (x 13, .inl (cA 0, 48, .inl (xr'_5 3))), (x 7, .inl (cA 0, 4, .inl (xd 6))), cE y yv'_5, (y 9, .inr (3, [.ref (y 10), .ref (y 11), .ref (y 12), .ref (y 13), .int (nI yf), .int (nI QY'_5.1)])), (y 10, .inl (cA 0, 12, .inl (yr'_5 0))), (y 11, .inl (cA 0, 12, .inl (yr'_5 1))), (y 12, .inl (cA 0, 12, .inl (yr'_5 2))), (y 13, .inl (cA 0, 48, .inl (yr'_5 3))), (y 7, .inl (cA 0, 4, .inl (yd 6))), (ca, .inl (cA 0, 3, .inl (upd cc 0 ((cc 0) + 1))))] := hD
    refine z_cut (Inv := fun H locs ls st => st = [.int 1] ∧ va_P D vwCl [(o, .inr (4, [.ref F, .ref G, .int (nI qv), .int (nw + 1), .int se'_5, .ref (pa 0), .ref an, .ref ln])), cE x xv'_5, (x 9, .inr (3, [.ref (x 10), .ref (x 11), .ref (x 12), .ref (x 13), .int (nI xf), .int (nI QX'_5.1)])), (x 10, .inl (cA 0, 12, .inl (xr'_5 0))), (x 11, .inl (cA 0, 12, .inl (xr'_5 1))), (x 12, .inl (cA 0, 12, .inl (xr'_5 2))), (x 13, .inl (cA 0, 48, .inl (xr'_5 3))), (x 7, .inl (cA 0, 4, .inl (xd 6))), cE y yv'_5, (y 9, .inr (3, [.ref (y 10), .ref (y 11), .ref (y 12), .ref (y 13), .int (nI yf), .int (nI QY'_5.1)])), (y 10, .inl (cA 0, 12, .inl (yr'_5 0))), (y 11, .inl (cA 0, 12, .inl (yr'_5 1))), (y 12, .inl (cA 0, 12, .inl (yr'_5 2))), (y 13, .inl (cA 0, 48, .inl (yr'_5 3))), (y 7, .inl (cA 0, 4, .inl (yd 6))), (ca, .inl (cA 0, 3, .inl (upd cc 0 ((cc 0) + 1))))] H ∧ va_D A [(o, .inr (4, [.ref F, .ref G, .int (nI qv), .int (nw + 1), .int se'_5, .ref (pa 0), .ref an, .ref ln])), cE x xv'_5, (x 9, .inr (3, [.ref (x 10), .ref (x 11), .ref (x 12), .ref (x 13), .int (nI xf), .int (nI QX'_5.1)])), (x 10, .inl (cA 0, 12, .inl (xr'_5 0))), (x 11, .inl (cA 0, 12, .inl (xr'_5 1))), (x 12, .inl (cA 0, 12, .inl (xr'_5 2))), (x 13, .inl (cA 0, 48, .inl (xr'_5 3))), (x 7, .inl (cA 0, 4, .inl (xd 6))), cE y yv'_5, (y 9, .inr (3, [.ref (y 10), .ref (y 11), .ref (y 12), .ref (y 13), .int (nI yf), .int (nI QY'_5.1)])), (y 10, .inl (cA 0, 12, .inl (yr'_5 0))), (y 11, .inl (cA 0, 12, .inl (yr'_5 1))), (y 12, .inl (cA 0, 12, .inl (yr'_5 2))), (y 13, .inl (cA 0, 48, .inl (yr'_5 3))), (y 7, .inl (cA 0, 4, .inl (yd 6))), (ca, .inl (cA 0, 3, .inl (upd cc 0 ((cc 0) + 1))))] ∧ va_S A s.heap H locs ∧ lv_has ls 11 [(6, .int (nI c9)), (5, .int (nI sy)), (4, .int (nI sx)), (3, .int (bI (10 < QX.1 ∨ 10 < QY.1))), (2, .int (nI (QX.1 + QY.1))), (0, .ref o), (1, .ref ca)]) 124 (fun H locs ls st hQ9 => ?_) (fun kJ => ?_)
    · obtain ⟨rfl, hP, hD, hS, hl⟩ := hQ9
      refine lv_istore (lv' := [(7, .int 1), (6, .int (nI c9)), (5, .int (nI sy)), (4, .int (nI sx)), (3, .int (bI (10 < QX.1 ∨ 10 < QY.1))), (2, .int (nI (QX.1 + QY.1))), (0, .ref o), (1, .ref ca)]) hx hb dL_ticks_124 hl (by decide) rfl (fun ls hl => ?_)
      refine lv_iconst (v := 0) hx hb dL_ticks_126 (by decide) ?_
      refine lv_istore (lv' := [(8, .int 0), (7, .int 1), (6, .int (nI c9)), (5, .int (nI sy)), (4, .int (nI sx)), (3, .int (bI (10 < QX.1 ∨ 10 < QY.1))), (2, .int (nI (QX.1 + QY.1))), (0, .ref o), (1, .ref ca)]) hx hb dL_ticks_127 hl (by decide) rfl (fun ls hl => ?_)
      refine lv_iload hx hb dL_ticks_129 (lv_at hl 0 rfl) ?_
      refine lv_iconst (v := 2) hx hb dL_ticks_131 (by decide) ?_
      refine lv_icmp_ge (tgt := 301) hx hb dL_ticks_132 (by decide) (fun c_6 => absurd c_6 (by decide)) (fun _ => ?_)
      refine lv_iload hx hb dL_ticks_135 (lv_at hl 0 rfl) ?_
      refine lv_if_ne (tgt := 145) hx hb dL_ticks_137 (by decide) (fun c_7 => absurd c_7 (by decide)) (fun _ => ?_)
      refine lv_iload hx hb dL_ticks_140 (lv_at hl 4 rfl) ?_
      refine lv_goto (tgt := 147) hx hb dL_ticks_142 (by decide) ?_
      refine lv_istore (lv' := [(9, .int (nI sx)), (8, .int 0), (7, .int 1), (6, .int (nI c9)), (5, .int (nI sy)), (4, .int (nI sx)), (3, .int (bI (10 < QX.1 ∨ 10 < QY.1))), (2, .int (nI (QX.1 + QY.1))), (0, .ref o), (1, .ref ca)]) hx hb dL_ticks_147 hl (by decide) rfl (fun ls hl => ?_)
      refine lv_aload_n hx hb dL_ticks_149 rfl (lv_at hl 8 rfl) ?_
      refine lv_iload hx hb dL_ticks_150 (lv_at hl 1 rfl) ?_
      have hPc := hP.sub (ws' := [(o, .inr (4, [.ref F, .ref G, .int (nI qv), .int (nw + 1), .int se'_5, .ref (pa 0), .ref an, .ref ln])), cE x xv'_5]) [0, 1] rfl
      have hDc := hD.sub (ws' := [(o, .inr (4, [.ref F, .ref G, .int (nI qv), .int (nw + 1), .int se'_5, .ref (pa 0), .ref an, .ref ln])), cE x xv'_5]) [0, 1] (by decide) rfl
      have hFc := va_free (wc := [(o, .inr (4, [.ref F, .ref G, .int (nI qv), .int (nw + 1), .int se'_5, .ref (pa 0), .ref an, .ref ln])), cE x xv'_5]) hD hS hA [0, 1] rfl
      refine va_calli (va_runV (As := [.int 0]) (rest := []) ⟨hx, hb, hml, hown, hts⟩ (c_X3_state_k l D cA H.size o F G (nI qv) (nw + 1) se'_5 pa an ln x (y 0) 0 xv'_5 (by first | exact he | exact en_flip he | exact en_01 he | exact en_10 he)) (cwV 1 hts gL_ticks_X3_state rfl rfl rfl (by decide +kernel) ⟨Nat.le_of_ble_eq_true rfl, Nat.le_of_ble_eq_true rfl⟩) ⟨zU_blind, va_recv hK hPc (ci := 4) (q0 := 0) rfl rfl, fun U hU hW => ⟨rfl, zU_call hU hPc hW.alike hK hDc⟩⟩ rfl rfl hl.1 rfl (lv_room (Nat.le_of_ble_eq_true rfl)) dL_ticks_152 ⟨(Nat.zero_le _), (Nat.zero_le _)⟩) hS (fun q _ h => hFc q h) hFc (fun zr u t H1 locs ht hvm hw hB hz1 hk1 hS => ?_)
      obtain ⟨hP1, hD1⟩ := hB
      rw [ht] at hP1
      obtain ⟨hP, hD⟩ := va_join (wr := [(x 9, .inr (3, [.ref (x 10), .ref (x 11), .ref (x 12), .ref (x 13), .int (nI xf), .int (nI QX'_5.1)])), (x 10, .inl (cA 0, 12, .inl (xr'_5 0))), (x 11, .inl (cA 0, 12, .inl (xr'_5 1))), (x 12, .inl (cA 0, 12, .inl (xr'_5 2))), (x 13, .inl (cA 0, 48, .inl (xr'_5 3))), (x 7, .inl (cA 0, 4, .inl (xd 6))), cE y yv'_5, (y 9, .inr (3, [.ref (y 10), .ref (y 11), .ref (y 12), .ref (y 13), .int (nI yf), .int (nI QY'_5.1)])), (y 10, .inl (cA 0, 12, .inl (yr'_5 0))), (y 11, .inl (cA 0, 12, .inl (yr'_5 1))), (y 12, .inl (cA 0, 12, .inl (yr'_5 2))), (y 13, .inl (cA 0, 48, .inl (yr'_5 3))), (y 7, .inl (cA 0, 4, .inl (yd 6))), (ca, .inl (cA 0, 3, .inl (upd cc 0 ((cc 0) + 1))))]) (w1 := [(o, .inr (4, [.ref F, .ref G, .int (nI qv), .int (nw + 1), .int se'_5, .ref (pa 0), .ref an, .ref ln])), cE x xv'_5]) hP hD [0, 1] [2, 3, 4, 5, 6, 7, 8, 9, 10, 11, 12, 13, 14, 15] rfl rfl (by decide) (by decide) hk1 hFc hP1 hD1
      generalize H1 = H at hP hS ⊢
      have hP := hP.sub (ws' := [(o, .inr (4, [.ref F, .ref G, .int (nI qv), .int (nw + 1), .int se'_5, .ref (pa 0), .ref an, .ref ln])), cE x xv'_5, (x 9, .inr (3, [.ref (x 10), .ref (x 11), .ref (x 12), .ref (x 13), .int (nI xf), .int (nI QX'_5.1)])), (x 10, .inl (cA 0, 12, .inl (xr'_5 0))), (x 11, .inl (cA 0, 12, .inl (xr'_5 1))), (x 12, .inl (cA 0, 12, .inl (xr'_5 2))), (x 13, .inl (cA 0, 48, .inl (xr'_5 3))), (x 7, .inl (cA 0, 4, .inl (xd 6))), cE y yv'_5, (y 9, .inr (3, [.ref (y 10), .ref (y 11), .ref (y 12), .ref (y 13), .int (nI yf), .int (nI QY'_5.1)])), (y 10, .inl (cA 0, 12, .inl (yr'_5 0))), (y 11, .inl (cA 0, 12, .inl (yr'_5 1))), (y 12, .inl (cA 0, 12, .inl (yr'_5 2))), (y 13, .inl (cA 0, 48, .inl (yr'_5 3))), (y 7, .inl (cA 0, 4, .inl (yd 6))), (ca, .inl (cA 0, 3, .inl (upd cc 0 ((cc 0) + 1))))]) [14, 15, 0, 1, 2, 3, 4, 5, 6, 7, 8, 9, 10, 11, 12, 13] rfl
      have hD := hD.sub (ws' := [(o, .inr (4, [.ref F, .ref G, .int (nI qv), .int (nw + 1), .int se'_5, .ref (pa 0), .ref an, .ref ln])), cE x xv'_5, (x 9, .inr (3, [.ref (x 10), .ref (x 11), .ref (x 12), .ref (x 13), .int (nI xf), .int (nI QX'_5.1)])), (x 10, .inl (cA 0, 12, .inl (xr'_5 0))), (x 11, .inl (cA 0, 12, .inl (xr'_5 1))), (x 12, .inl (cA 0, 12, .inl (xr'_5 2))), (x 13, .inl (cA 0, 48, .inl (xr'_5 3))), (x 7, .inl (cA 0, 4, .inl (xd 6))), cE y yv'_5, (y 9, .inr (3, [.ref (y 10), .ref (y 11), .ref (y 12), .ref (y 13), .int (nI yf), .int (nI QY'_5.1)])), (y 10, .inl (cA 0, 12, .inl (yr'_5 0))), (y 11, .inl (cA 0, 12, .inl (yr'_5 1))), (y 12, .inl (cA 0, 12, .inl (yr'_5 2))), (y 13, .inl (cA 0, 48, .inl (yr'_5 3))), (y 7, .inl (cA 0, 4, .inl (yd 6))), (ca, .inl (cA 0, 3, .inl (upd cc 0 ((cc 0) + 1))))]) [14, 15, 0, 1, 2, 3, 4, 5, 6, 7, 8, 9, 10, 11, 12, 13] (by decide) rfl
      clear hPc hDc hFc hP1 hD1 hk1 hz1
      have hw_8 := hw
      obtain rfl := hw
      refine z_top (y := (nI s1)) hI1.1.1.1 ?_
      refine lv_istore (lv' := [(10, .int (nI s1)), (9, .int (nI sx)), (8, .int 0), (7, .int 1), (6, .int (nI c9)), (5, .int (nI sy)), (4, .int (nI sx)), (3, .int (bI (10 < QX.1 ∨ 10 < QY.1))), (2, .int (nI (QX.1 + QY.1))), (0, .ref o), (1, .ref ca)]) hx hb dL_ticks_155 hl (by decide) rfl (fun ls hl => ?_)
      refine z_cut (Inv := fun H locs ls st => st = [.int 1] ∧ va_P D vwCl [(o, .inr (4, [.ref F, .ref G, .int (nI qv), .int (nw + 1), .int se'_5, .ref (pa 0), .ref an, .ref ln])), cE x xv'_5, (x 9, .inr (3, [.ref (x 10), .ref (x 11), .ref (x 12), .ref (x 13), .int (nI xf), .int (nI QX'_5.1)])), (x 10, .inl (cA 0, 12, .inl (xr'_5 0))), (x 11, .inl (cA 0, 12, .inl (xr'_5 1))), (x 12, .inl (cA 0, 12, .inl (xr'_5 2))), (x 13, .inl (cA 0, 48, .inl (xr'_5 3))), (x 7, .inl (cA 0, 4, .inl (xd 6))), cE y yv'_5, (y 9, .inr (3, [.ref (y 10), .ref (y 11), .ref (y 12), .ref (y 13), .int (nI yf), .int (nI QY'_5.1)])), (y 10, .inl (cA 0, 12, .inl (yr'_5 0))), (y 11, .inl (cA 0, 12, .inl (yr'_5 1))), (y 12, .inl (cA 0, 12, .inl (yr'_5 2))), (y 13, .inl (cA 0, 48, .inl (yr'_5 3))), (y 7, .inl (cA 0, 4, .inl (yd 6))), (ca, .inl (cA 0, 3, .inl (upd cc 0 ((cc 0) + 1))))] H ∧ va_D A [(o, .inr (4, [.ref F, .ref G, .int (nI qv), .int (nw + 1), .int se'_5, .ref (pa 0), .ref an, .ref ln])), cE x xv'_5, (x 9, .inr (3, [.ref (x 10), .ref (x 11), .ref (x 12), .ref (x 13), .int (nI xf), .int (nI QX'_5.1)])), (x 10, .inl (cA 0, 12, .inl (xr'_5 0))), (x 11, .inl (cA 0, 12, .inl (xr'_5 1))), (x 12, .inl (cA 0, 12, .inl (xr'_5 2))), (x 13, .inl (cA 0, 48, .inl (xr'_5 3))), (x 7, .inl (cA 0, 4, .inl (xd 6))), cE y yv'_5, (y 9, .inr (3, [.ref (y 10), .ref (y 11), .ref (y 12), .ref (y 13), .int (nI yf), .int (nI QY'_5.1)])), (y 10, .inl (cA 0, 12, .inl (yr'_5 0))), (y 11, .inl (cA 0, 12, .inl (yr'_5 1))), (y 12, .inl (cA 0, 12, .inl (yr'_5 2))), (y 13, .inl (cA 0, 48, .inl (yr'_5 3))), (y 7, .inl (cA 0, 4, .inl (yd 6))), (ca, .inl (cA 0, 3, .inl (upd cc 0 ((cc 0) + 1))))] ∧ va_S A s.heap H locs ∧ lv_has ls 11 [(10, .int (nI s1)), (9, .int (nI sx)), (8, .int 0), (7, .int 1), (6, .int (nI c9)), (5, .int (nI sy)), (4, .int (nI sx)), (3, .int (bI (10 < QX.1 ∨ 10 < QY.1))), (2, .int (nI (QX.1 + QY.1))), (0, .ref o), (1, .ref ca)]) 293 (fun H locs ls st hQ9 => ?_) (fun kJ => ?_)
      · obtain ⟨rfl, hP, hD, hS, hl⟩ := hQ9
        refine lv_istore (lv' := [(7, .int 1), (10, .int (nI s1)), (9, .int (nI sx)), (8, .int 0), (6, .int (nI c9)), (5, .int (nI sy)), (4, .int (nI sx)), (3, .int (bI (10 < QX.1 ∨ 10 < QY.1))), (2, .int (nI (QX.1 + QY.1))), (0, .ref o), (1, .ref ca)]) hx hb dL_ticks_293 hl (by decide) rfl (fun ls hl => ?_)
        refine lv_iinc (v := 1) (lv' := [(8, .int 1), (7, .int 1), (10, .int (nI s1)), (9, .int (nI sx)), (6, .int (nI c9)), (5, .int (nI sy)), (4, .int (nI sx)), (3, .int (bI (10 < QX.1 ∨ 10 < QY.1))), (2, .int (nI (QX.1 + QY.1))), (0, .ref o), (1, .ref ca)]) hx hb dL_ticks_295 hl (k := 3) rfl (by decide) (by decide) rfl (fun ls hl => ?_)
        refine lv_goto (tgt := 129) hx hb dL_ticks_298 (by decide) ?_
        refine lv_iload hx hb dL_ticks_129 (lv_at hl 0 rfl) ?_
        refine lv_iconst (v := 2) hx hb dL_ticks_131 (by decide) ?_
        refine lv_icmp_ge (tgt := 301) hx hb dL_ticks_132 (by decide) (fun c_9 => absurd c_9 (by decide)) (fun _ => ?_)
        refine lv_iload hx hb dL_ticks_135 (lv_at hl 0 rfl) ?_
        refine lv_if_ne (tgt := 145) hx hb dL_ticks_137 (by decide) (fun _ => ?_) (fun c_10 => absurd c_10 (by decide))
        refine lv_iload hx hb dL_ticks_145 (lv_at hl 5 rfl) ?_
        refine lv_istore (lv' := [(9, .int (nI sy)), (8, .int 1), (7, .int 1), (10, .int (nI s1)), (6, .int (nI c9)), (5, .int (nI sy)), (4, .int (nI sx)), (3, .int (bI (10 < QX.1 ∨ 10 < QY.1))), (2, .int (nI (QX.1 + QY.1))), (0, .ref o), (1, .ref ca)]) hx hb dL_ticks_147 hl (by decide) rfl (fun ls hl => ?_)
        refine lv_aload_n hx hb dL_ticks_149 rfl (lv_at hl 9 rfl) ?_
        refine lv_iload hx hb dL_ticks_150 (lv_at hl 1 rfl) ?_
        have hPc := hP.sub (ws' := [(o, .inr (4, [.ref F, .ref G, .int (nI qv), .int (nw + 1), .int se'_5, .ref (pa 0), .ref an, .ref ln])), cE y yv'_5]) [0, 8] rfl
        have hDc := hD.sub (ws' := [(o, .inr (4, [.ref F, .ref G, .int (nI qv), .int (nw + 1), .int se'_5, .ref (pa 0), .ref an, .ref ln])), cE y yv'_5]) [0, 8] (by decide) rfl
        have hFc := va_free (wc := [(o, .inr (4, [.ref F, .ref G, .int (nI qv), .int (nw + 1), .int se'_5, .ref (pa 0), .ref an, .ref ln])), cE y yv'_5]) hD hS hA [0, 8] rfl
        refine va_calli (va_runV (As := [.int 1]) (rest := []) ⟨hx, hb, hml, hown, hts⟩ (c_X3_state_k l D cA H.size o F G (nI qv) (nw + 1) se'_5 pa an ln y (x 0) 1 yv'_5 (by first | exact he | exact en_flip he | exact en_01 he | exact en_10 he)) (cwV 1 hts gL_ticks_X3_state rfl rfl rfl (by decide +kernel) ⟨Nat.le_of_ble_eq_true rfl, Nat.le_of_ble_eq_true rfl⟩) ⟨zU_blind, va_recv hK hPc (ci := 4) (q0 := 0) rfl rfl, fun U hU hW => ⟨rfl, zU_call hU hPc hW.alike hK hDc⟩⟩ rfl rfl hl.1 rfl (lv_room (Nat.le_of_ble_eq_true rfl)) dL_ticks_152 ⟨(Nat.zero_le _), (Nat.zero_le _)⟩) hS (fun q _ h => hFc q h) hFc (fun zr u t H1 locs ht hvm hw hB hz1 hk1 hS => ?_)
        obtain ⟨hP1, hD1⟩ := hB
        rw [ht] at hP1
        obtain ⟨hP, hD⟩ := va_join (wr := [cE x xv'_5, (x 9, .inr (3, [.ref (x 10), .ref (x 11), .ref (x 12), .ref (x 13), .int (nI xf), .int (nI QX'_5.1)])), (x 10, .inl (cA 0, 12, .inl (xr'_5 0))), (x 11, .inl (cA 0, 12, .inl (xr'_5 1))), (x 12, .inl (cA 0, 12, .inl (xr'_5 2))), (x 13, .inl (cA 0, 48, .inl (xr'_5 3))), (x 7, .inl (cA 0, 4, .inl (xd 6))), (y 9, .inr (3, [.ref (y 10), .ref (y 11), .ref (y 12), .ref (y 13), .int (nI yf), .int (nI QY'_5.1)])), (y 10, .inl (cA 0, 12, .inl (yr'_5 0))), (y 11, .inl (cA 0, 12, .inl (yr'_5 1))), (y 12, .inl (cA 0, 12, .inl (yr'_5 2))), (y 13, .inl (cA 0, 48, .inl (yr'_5 3))), (y 7, .inl (cA 0, 4, .inl (yd 6))), (ca, .inl (cA 0, 3, .inl (upd cc 0 ((cc 0) + 1))))]) (w1 := [(o, .inr (4, [.ref F, .ref G, .int (nI qv), .int (nw + 1), .int se'_5, .ref (pa 0), .ref an, .ref ln])), cE y yv'_5]) hP hD [0, 8] [1, 2, 3, 4, 5, 6, 7, 9, 10, 11, 12, 13, 14, 15] rfl rfl (by decide) (by decide) hk1 hFc hP1 hD1
        generalize H1 = H at hP hS ⊢
        have hP := hP.sub (ws' := [(o, .inr (4, [.ref F, .ref G, .int (nI qv), .int (nw + 1), .int se'_5, .ref (pa 0), .ref an, .ref ln])), cE x xv'_5, (x 9, .inr (3, [.ref (x 10), .ref (x 11), .ref (x 12), .ref (x 13), .int (nI xf), .int (nI QX'_5.1)])), (x 10, .inl (cA 0, 12, .inl (xr'_5 0))), (x 11, .inl (cA 0, 12, .inl (xr'_5 1))), (x 12, .inl (cA 0, 12, .inl (xr'_5 2))), (x 13, .inl (cA 0, 48, .inl (xr'_5 3))), (x 7, .inl (cA 0, 4, .inl (xd 6))), cE y yv'_5, (y 9, .inr (3, [.ref (y 10), .ref (y 11), .ref (y 12), .ref (y 13), .int (nI yf), .int (nI QY'_5.1)])), (y 10, .inl (cA 0, 12, .inl (yr'_5 0))), (y 11, .inl (cA 0, 12, .inl (yr'_5 1))), (y 12, .inl (cA 0, 12, .inl (yr'_5 2))), (y 13, .inl (cA 0, 48, .inl (yr'_5 3))), (y 7, .inl (cA 0, 4, .inl (yd 6))), (ca, .inl (cA 0, 3, .inl (upd cc 0 ((cc 0) + 1))))]) [14, 0, 1, 2, 3, 4, 5, 6, 15, 7, 8, 9, 10, 11, 12, 13] rfl
        have hD := hD.sub (ws' := [(o, .inr (4, [.ref F, .ref G, .int (nI qv), .int (nw + 1), .int se'_5, .ref (pa 0), .ref an, .ref ln])), cE x xv'_5, (x 9, .inr (3, [.ref (x 10), .ref (x 11), .ref (x 12), .ref (x 13), .int (nI xf), .int (nI QX'_5.1)])), (x 10, .inl (cA 0, 12, .inl (xr'_5 0))), (x 11, .inl (cA 0, 12, .inl (xr'_5 1))), (x 12, .inl (cA 0, 12, .inl (xr'_5 2))), (x 13, .inl (cA 0, 48, .inl (xr'_5 3))), (x 7, .inl (cA 0, 4, .inl (xd 6))), cE y yv'_5, (y 9, .inr (3, [.ref (y 10), .ref (y 11), .ref (y 12), .ref (y 13), .int (nI yf), .int (nI QY'_5.1)])), (y 10, .inl (cA 0, 12, .inl (yr'_5 0))), (y 11, .inl (cA 0, 12, .inl (yr'_5 1))), (y 12, .inl (cA 0, 12, .inl (yr'_5 2))), (y 13, .inl (cA 0, 48, .inl (yr'_5 3))), (y 7, .inl (cA 0, 4, .inl (yd 6))), (ca, .inl (cA 0, 3, .inl (upd cc 0 ((cc 0) + 1))))]) [14, 0, 1, 2, 3, 4, 5, 6, 15, 7, 8, 9, 10, 11, 12, 13] (by decide) rfl
        clear hPc hDc hFc hP1 hD1 hk1 hz1
        have hw_11 := hw
        obtain rfl := hw
        refine z_top (y := (nI s2)) hI1.1.2.1 ?_
        refine lv_istore (lv' := [(10, .int (nI s2)), (9, .int (nI sy)), (8, .int 1), (7, .int 1), (6, .int (nI c9)), (5, .int (nI sy)), (4, .int (nI sx)), (3, .int (bI (10 < QX.1 ∨ 10 < QY.1))), (2, .int (nI (QX.1 + QY.1))), (0, .ref o), (1, .ref ca)]) hx hb dL_ticks_155 hl (by decide) rfl (fun ls hl => ?_)
        refine z_cut (Inv := fun H locs ls st => st = [.int 1] ∧ va_P D vwCl [(o, .inr (4, [.ref F, .ref G, .int (nI qv), .int (nw + 1), .int se'_5, .ref (pa 0), .ref an, .ref ln])), cE x xv'_5, (x 9, .inr (3, [.ref (x 10), .ref (x 11), .ref (x 12), .ref (x 13), .int (nI xf), .int (nI QX'_5.1)])), (x 10, .inl (cA 0, 12, .inl (xr'_5 0))), (x 11, .inl (cA 0, 12, .inl (xr'_5 1))), (x 12, .inl (cA 0, 12, .inl (xr'_5 2))), (x 13, .inl (cA 0, 48, .inl (xr'_5 3))), (x 7, .inl (cA 0, 4, .inl (xd 6))), cE y yv'_5, (y 9, .inr (3, [.ref (y 10), .ref (y 11), .ref (y 12), .ref (y 13), .int (nI yf), .int (nI QY'_5.1)])), (y 10, .inl (cA 0, 12, .inl (yr'_5 0))), (y 11, .inl (cA 0, 12, .inl (yr'_5 1))), (y 12, .inl (cA 0, 12, .inl (yr'_5 2))), (y 13, .inl (cA 0, 48, .inl (yr'_5 3))), (y 7, .inl (cA 0, 4, .inl (yd 6))), (ca, .inl (cA 0, 3, .inl (upd cc 0 ((cc 0) + 1))))] H ∧ va_D A [(o, .inr (4, [.ref F, .ref G, .int (nI qv), .int (nw + 1), .int se'_5, .ref (pa 0), .ref an, .ref ln])), cE x xv'_5, (x 9, .inr (3, [.ref (x 10), .ref (x 11), .ref (x 12), .ref (x 13), .int (nI xf), .int (nI QX'_5.1)])), (x 10, .inl (cA 0, 12, .inl (xr'_5 0))), (x 11, .inl (cA 0, 12, .inl (xr'_5 1))), (x 12, .inl (cA 0, 12, .inl (xr'_5 2))), (x 13, .inl (cA 0, 48, .inl (xr'_5 3))), (x 7, .inl (cA 0, 4, .inl (xd 6))), cE y yv'_5, (y 9, .inr (3, [.ref (y 10), .ref (y 11), .ref (y 12), .ref (y 13), .int (nI yf), .int (nI QY'_5.1)])), (y 10, .inl (cA 0, 12, .inl (yr'_5 0))), (y 11, .inl (cA 0, 12, .inl (yr'_5 1))), (y 12, .inl (cA 0, 12, .inl (yr'_5 2))), (y 13, .inl (cA 0, 48, .inl (yr'_5 3))), (y 7, .inl (cA 0, 4, .inl (yd 6))), (ca, .inl (cA 0, 3, .inl (upd cc 0 ((cc 0) + 1))))] ∧ va_S A s.heap H locs ∧ lv_has ls 11 [(10, .int (nI s2)), (9, .int (nI sy)), (8, .int 1), (7, .int 1), (6, .int (nI c9)), (5, .int (nI sy)), (4, .int (nI sx)), (3, .int (bI (10 < QX.1 ∨ 10 < QY.1))), (2, .int (nI (QX.1 + QY.1))), (0, .ref o), (1, .ref ca)]) 293 (fun H locs ls st hQ9 => ?_) (fun kJ => ?_)
        · obtain ⟨rfl, hP, hD, hS, hl⟩ := hQ9
          refine lv_istore (lv' := [(7, .int 1), (10, .int (nI s2)), (9, .int (nI sy)), (8, .int 1), (6, .int (nI c9)), (5, .int (nI sy)), (4, .int (nI sx)), (3, .int (bI (10 < QX.1 ∨ 10 < QY.1))), (2, .int (nI (QX.1 + QY.1))), (0, .ref o), (1, .ref ca)]) hx hb dL_ticks_293 hl (by decide) rfl (fun ls hl => ?_)
          refine lv_iinc (v := 2) (lv' := [(8, .int 2), (7, .int 1), (10, .int (nI s2)), (9, .int (nI sy)), (6, .int (nI c9)), (5, .int (nI sy)), (4, .int (nI sx)), (3, .int (bI (10 < QX.1 ∨ 10 < QY.1))), (2, .int (nI (QX.1 + QY.1))), (0, .ref o), (1, .ref ca)]) hx hb dL_ticks_295 hl (k := 3) rfl (by decide) (by decide) rfl (fun ls hl => ?_)
          refine lv_goto (tgt := 129) hx hb dL_ticks_298 (by decide) ?_
          refine lv_iload hx hb dL_ticks_129 (lv_at hl 0 rfl) ?_
          refine lv_iconst (v := 2) hx hb dL_ticks_131 (by decide) ?_
          refine lv_icmp_ge (tgt := 301) hx hb dL_ticks_132 (by decide) (fun _ => ?_) (fun c_12 => absurd c_12 (by decide))
          refine lv_iload hx hb dL_ticks_301 (lv_at hl 1 rfl) ?_
          refine W.widen (k := 0) (n := 0) (by omega) (by omega) ?_
          exact W.zret (v := 1) hx hb hr rfl (fun t ht hW => ⟨⟨1, (xv'_5, yv'_5, xr'_5, yr'_5, QX'_5, QY'_5, nw + 1, se'_5, upd cc 0 ((cc 0) + 1)), rfl, ⟨by assumption, by assumption, ⟨s1, n1, t1, s2, n2, t2, hI1, by omega, by omega⟩, rfl, rfl, rfl, rfl, rfl⟩, ⟨by rw [ht]; exact hP, by rw [hAe]; exact hD⟩⟩, hS.F ht⟩) hS.2.2 dL_ticks_303
        · skip
          refine lv_iload hx hb dL_ticks_157 (lv_at hl 3 rfl) ?_
          refine lv_if_eq (tgt := 292) hx hb dL_ticks_159 (by decide) (fun c_13 => absurd c_13 (by decide)) (fun _ => ?_)
          refine lv_iload hx hb dL_ticks_162 (lv_at hl 1 rfl) ?_
          refine lv_iconst (v := 1) hx hb dL_ticks_164 (by decide) ?_
          refine lv_icmp_ne (tgt := 193) hx hb dL_ticks_165 (by decide) (fun c_14 => ?_) (fun c_14 => ?_)
          · have c_14 := mt (nI_eq (a := sy) (b := 1) (by omega) (by omega)).mpr c_14
            refine lv_iload hx hb dL_ticks_193 (lv_at hl 1 rfl) ?_
            refine lv_iconst (v := 2) hx hb dL_ticks_195 (by decide) ?_
            refine lv_icmp_ne (tgt := 230) hx hb dL_ticks_196 (by decide) (fun c_15 => ?_) (fun c_15 => ?_)
            · have c_15 := mt (nI_eq (a := sy) (b := 2) (by omega) (by omega)).mpr c_15
              refine lv_iload hx hb dL_ticks_230 (lv_at hl 1 rfl) ?_
              refine lv_iconst (v := 3) hx hb dL_ticks_232 (by decide) ?_
              refine lv_icmp_ne (tgt := 261) hx hb dL_ticks_233 (by decide) (fun c_16 => ?_) (fun c_16 => ?_)
              · have c_16 := mt (nI_eq (a := sy) (b := 3) (by omega) (by omega)).mpr c_16
                refine lv_iload hx hb dL_ticks_261 (lv_at hl 1 rfl) ?_
                refine lv_iconst (v := 5) hx hb dL_ticks_263 (by decide) ?_
                refine lv_icmp_ne (tgt := 281) hx hb dL_ticks_264 (by decide) (fun c_17 => ?_) (fun c_17 => ?_)
                · have c_17 := mt (nI_eq (a := sy) (b := 5) (by omega) (by omega)).mpr c_17
                  refine lv_iload hx hb dL_ticks_281 (lv_at hl 0 rfl) ?_
                  refine lv_iload hx hb dL_ticks_283 (lv_at hl 1 rfl) ?_
                  refine lv_icmp_ne (tgt := 292) hx hb dL_ticks_285 (by decide) (fun c_18 => ?_) (fun c_18 => ?_)
                  · have c_18 := mt (nI_eq (a := s2) (b := sy) (by omega) (by omega)).mpr c_18
                    refine lv_iconst (v := 0) hx hb dL_ticks_292 (by decide) ?_
                    exfalso; omega
                  · have c_18 := (nI_eq (a := s2) (b := sy) (by omega) (by omega)).mp c_18
                    refine lv_iconst (v := 1) hx hb dL_ticks_288 (by decide) ?_
                    refine lv_goto (tgt := 293) hx hb dL_ticks_289 (by decide) ?_
                    exact kJ _ _ _ _ ⟨rfl, hP, hD, hS, lv_sub hl [0, 1, 2, 3, 4, 5, 6, 7, 8, 9, 10] rfl⟩
                · have c_17 := (nI_eq (a := sy) (b := 5) (by omega) (by omega)).mp c_17
                  refine lv_iload hx hb dL_ticks_267 (lv_at hl 0 rfl) ?_
                  refine lv_iconst (v := 5) hx hb dL_ticks_269 (by decide) ?_
                  refine lv_icmp_eq (tgt := 288) hx hb dL_ticks_270 (by decide) (fun c_19 => ?_) (fun c_19 => ?_)
                  · have c_19 := (nI_eq (a := s2) (b := 5) (by omega) (by omega)).mp c_19
                    refine lv_iconst (v := 1) hx hb dL_ticks_288 (by decide) ?_
                    refine lv_goto (tgt := 293) hx hb dL_ticks_289 (by decide) ?_
                    exact kJ _ _ _ _ ⟨rfl, hP, hD, hS, lv_sub hl [0, 1, 2, 3, 4, 5, 6, 7, 8, 9, 10] rfl⟩
                  · have c_19 := mt (nI_eq (a := s2) (b := 5) (by omega) (by omega)).mpr c_19
                    refine lv_iload hx hb dL_ticks_273 (lv_at hl 0 rfl) ?_
                    refine lv_if_ne (tgt := 292) hx hb dL_ticks_275 (by decide) (fun c_20 => ?_) (fun c_20 => ?_)
                    · have c_20 := mt (nI_eq (a := s2) (b := 0) (by omega) (by omega)).mpr c_20
                      refine lv_iconst (v := 0) hx hb dL_ticks_292 (by decide) ?_
                      exfalso; omega
                    · have c_20 := (nI_eq (a := s2) (b := 0) (by omega) (by omega)).mp c_20
                      refine lv_goto (tgt := 288) hx hb dL_ticks_278 (by decide) ?_
                      refine lv_iconst (v := 1) hx hb dL_ticks_288 (by decide) ?_
                      refine lv_goto (tgt := 293) hx hb dL_ticks_289 (by decide) ?_
                      exact kJ _ _ _ _ ⟨rfl, hP, hD, hS, lv_sub hl [0, 1, 2, 3, 4, 5, 6, 7, 8, 9, 10] rfl⟩
              · have c_16 := (nI_eq (a := sy) (b := 3) (by omega) (by omega)).mp c_16
                refine lv_iload hx hb dL_ticks_236 (lv_at hl 0 rfl) ?_
                refine lv_iconst (v := 3) hx hb dL_ticks_238 (by decide) ?_
                refine lv_icmp_eq (tgt := 288) hx hb dL_ticks_239 (by decide) (fun c_21 => ?_) (fun c_21 => ?_)
                · have c_21 := (nI_eq (a := s2) (b := 3) (by omega) (by omega)).mp c_21
                  refine lv_iconst (v := 1) hx hb dL_ticks_288 (by decide) ?_
                  refine lv_goto (tgt := 293) hx hb dL_ticks_289 (by decide) ?_
                  exact kJ _ _ _ _ ⟨rfl, hP, hD, hS, lv_sub hl [0, 1, 2, 3, 4, 5, 6, 7, 8, 9, 10] rfl⟩
                · have c_21 := mt (nI_eq (a := s2) (b := 3) (by omega) (by omega)).mpr c_21
                  refine lv_iload hx hb dL_ticks_242 (lv_at hl 0 rfl) ?_
                  refine lv_bipush (v := 6) hx hb dL_ticks_244 (by decide) ?_
                  refine lv_icmp_ne (tgt := 292) hx hb dL_ticks_246 (by decide) (fun c_22 => ?_) (fun c_22 => ?_)
                  · have c_22 := mt (nI_eq (a := s2) (b := 6) (by omega) (by omega)).mpr c_22
                    refine lv_iconst (v := 0) hx hb dL_ticks_292 (by decide) ?_
                    exfalso; omega
                  · have c_22 := (nI_eq (a := s2) (b := 6) (by omega) (by omega)).mp c_22
                    refine lv_aload_n hx hb dL_ticks_249 rfl (lv_at hl 9 rfl) ?_
                    refine lv_iload hx hb dL_ticks_250 (lv_at hl 2 rfl) ?_
                    have hPc := hP.sub (ws' := [(o, .inr (4, [.ref F, .ref G, .int (nI qv), .int (nw + 1), .int se'_5, .ref (pa 0), .ref an, .ref ln])), cE y yv'_5]) [0, 8] rfl
                    have hDc := hD.sub (ws' := [(o, .inr (4, [.ref F, .ref G, .int (nI qv), .int (nw + 1), .int se'_5, .ref (pa 0), .ref an, .ref ln])), cE y yv'_5]) [0, 8] (by decide) rfl
                    have hFc := va_free (wc := [(o, .inr (4, [.ref F, .ref G, .int (nI qv), .int (nw + 1), .int se'_5, .ref (pa 0), .ref an, .ref ln])), cE y yv'_5]) hD hS hA [0, 8] rfl
                    refine va_calli (va_runV (As := [.int 1]) (rest := []) ⟨hx, hb, hml, hown, hts⟩ (c_X3_tries_k l D cA H.size o F G (nI qv) (nw + 1) se'_5 pa an ln y (x 0) 1 yv'_5 (by first | exact he | exact en_flip he | exact en_01 he | exact en_10 he)) (cwV 1 hts gL_ticks_X3_tries rfl rfl rfl (by decide +kernel) ⟨Nat.le_of_ble_eq_true rfl, Nat.le_of_ble_eq_true rfl⟩) ⟨zU_blind, va_recv hK hPc (ci := 4) (q0 := 0) rfl rfl, fun U hU hW => ⟨rfl, zU_call hU hPc hW.alike hK hDc⟩⟩ rfl rfl hl.1 rfl (lv_room (Nat.le_of_ble_eq_true rfl)) dL_ticks_252 ⟨(Nat.zero_le _), (Nat.zero_le _)⟩) hS (fun q _ h => hFc q h) hFc (fun zr u t H1 locs ht hvm hw hB hz1 hk1 hS => ?_)
                    obtain ⟨hP1, hD1⟩ := hB
                    rw [ht] at hP1
                    obtain ⟨hP, hD⟩ := va_join (wr := [cE x xv'_5, (x 9, .inr (3, [.ref (x 10), .ref (x 11), .ref (x 12), .ref (x 13), .int (nI xf), .int (nI QX'_5.1)])), (x 10, .inl (cA 0, 12, .inl (xr'_5 0))), (x 11, .inl (cA 0, 12, .inl (xr'_5 1))), (x 12, .inl (cA 0, 12, .inl (xr'_5 2))), (x 13, .inl (cA 0, 48, .inl (xr'_5 3))), (x 7, .inl (cA 0, 4, .inl (xd 6))), (y 9, .inr (3, [.ref (y 10), .ref (y 11), .ref (y 12), .ref (y 13), .int (nI yf), .int (nI QY'_5.1)])), (y 10, .inl (cA 0, 12, .inl (yr'_5 0))), (y 11, .inl (cA 0, 12, .inl (yr'_5 1))), (y 12, .inl (cA 0, 12, .inl (yr'_5 2))), (y 13, .inl (cA 0, 48, .inl (yr'_5 3))), (y 7, .inl (cA 0, 4, .inl (yd 6))), (ca, .inl (cA 0, 3, .inl (upd cc 0 ((cc 0) + 1))))]) (w1 := [(o, .inr (4, [.ref F, .ref G, .int (nI qv), .int (nw + 1), .int se'_5, .ref (pa 0), .ref an, .ref ln])), cE y yv'_5]) hP hD [0, 8] [1, 2, 3, 4, 5, 6, 7, 9, 10, 11, 12, 13, 14, 15] rfl rfl (by decide) (by decide) hk1 hFc hP1 hD1
                    generalize H1 = H at hP hS ⊢
                    have hP := hP.sub (ws' := [(o, .inr (4, [.ref F, .ref G, .int (nI qv), .int (nw + 1), .int se'_5, .ref (pa 0), .ref an, .ref ln])), cE x xv'_5, (x 9, .inr (3, [.ref (x 10), .ref (x 11), .ref (x 12), .ref (x 13), .int (nI xf), .int (nI QX'_5.1)])), (x 10, .inl (cA 0, 12, .inl (xr'_5 0))), (x 11, .inl (cA 0, 12, .inl (xr'_5 1))), (x 12, .inl (cA 0, 12, .inl (xr'_5 2))), (x 13, .inl (cA 0, 48, .inl (xr'_5 3))), (x 7, .inl (cA 0, 4, .inl (xd 6))), cE y yv'_5, (y 9, .inr (3, [.ref (y 10), .ref (y 11), .ref (y 12), .ref (y 13), .int (nI yf), .int (nI QY'_5.1)])), (y 10, .inl (cA 0, 12, .inl (yr'_5 0))), (y 11, .inl (cA 0, 12, .inl (yr'_5 1))), (y 12, .inl (cA 0, 12, .inl (yr'_5 2))), (y 13, .inl (cA 0, 48, .inl (yr'_5 3))), (y 7, .inl (cA 0, 4, .inl (yd 6))), (ca, .inl (cA 0, 3, .inl (upd cc 0 ((cc 0) + 1))))]) [14, 0, 1, 2, 3, 4, 5, 6, 15, 7, 8, 9, 10, 11, 12, 13] rfl
                    have hD := hD.sub (ws' := [(o, .inr (4, [.ref F, .ref G, .int (nI qv), .int (nw + 1), .int se'_5, .ref (pa 0), .ref an, .ref ln])), cE x xv'_5, (x 9, .inr (3, [.ref (x 10), .ref (x 11), .ref (x 12), .ref (x 13), .int (nI xf), .int (nI QX'_5.1)])), (x 10, .inl (cA 0, 12, .inl (xr'_5 0))), (x 11, .inl (cA 0, 12, .inl (xr'_5 1))), (x 12, .inl (cA 0, 12, .inl (xr'_5 2))), (x 13, .inl (cA 0, 48, .inl (xr'_5 3))), (x 7, .inl (cA 0, 4, .inl (xd 6))), cE y yv'_5, (y 9, .inr (3, [.ref (y 10), .ref (y 11), .ref (y 12), .ref (y 13), .int (nI yf), .int (nI QY'_5.1)])), (y 10, .inl (cA 0, 12, .inl (yr'_5 0))), (y 11, .inl (cA 0, 12, .inl (yr'_5 1))), (y 12, .inl (cA 0, 12, .inl (yr'_5 2))), (y 13, .inl (cA 0, 48, .inl (yr'_5 3))), (y 7, .inl (cA 0, 4, .inl (yd 6))), (ca, .inl (cA 0, 3, .inl (upd cc 0 ((cc 0) + 1))))]) [14, 0, 1, 2, 3, 4, 5, 6, 15, 7, 8, 9, 10, 11, 12, 13] (by decide) rfl
                    clear hPc hDc hFc hP1 hD1 hk1 hz1
                    have hw_23 := hw
                    obtain rfl := hw
                    refine z_top (y := (nI t2)) hI1.1.2.2.2.1 ?_
                    refine lv_if_ne (tgt := 292) hx hb dL_ticks_255 (by decide) (fun c_24 => ?_) (fun c_24 => ?_)
                    · have c_24 := mt (nI_eq (a := t2) (b := 0) (by omega) (by omega)).mpr c_24
                      refine lv_iconst (v := 0) hx hb dL_ticks_292 (by decide) ?_
                      exfalso; omega
                    · have c_24 := (nI_eq (a := t2) (b := 0) (by omega) (by omega)).mp c_24
                      refine lv_goto (tgt := 288) hx hb dL_ticks_258 (by decide) ?_
                      refine lv_iconst (v := 1) hx hb dL_ticks_288 (by decide) ?_
                      refine lv_goto (tgt := 293) hx hb dL_ticks_289 (by decide) ?_
                      exact kJ _ _ _ _ ⟨rfl, hP, hD, hS, lv_sub hl [0, 1, 2, 3, 4, 5, 6, 7, 8, 9, 10] rfl⟩
            · have c_15 := (nI_eq (a := sy) (b := 2) (by omega) (by omega)).mp c_15
              refine lv_iload hx hb dL_ticks_199 (lv_at hl 0 rfl) ?_
              refine lv_iconst (v := 2) hx hb dL_ticks_201 (by decide) ?_
              refine lv_icmp_eq (tgt := 288) hx hb dL_ticks_202 (by decide) (fun c_25 => ?_) (fun c_25 => ?_)
              · have c_25 := (nI_eq (a := s2) (b := 2) (by omega) (by omega)).mp c_25
                refine lv_iconst (v := 1) hx hb dL_ticks_288 (by decide) ?_
                refine lv_goto (tgt := 293) hx hb dL_ticks_289 (by decide) ?_
                exact kJ _ _ _ _ ⟨rfl, hP, hD, hS, lv_sub hl [0, 1, 2, 3, 4, 5, 6, 7, 8, 9, 10] rfl⟩
              · have c_25 := mt (nI_eq (a := s2) (b := 2) (by omega) (by omega)).mpr c_25
                refine lv_iload hx hb dL_ticks_205 (lv_at hl 0 rfl) ?_
                refine lv_iconst (v := 1) hx hb dL_ticks_207 (by decide) ?_
                refine lv_icmp_eq (tgt := 288) hx hb dL_ticks_208 (by decide) (fun c_26 => ?_) (fun c_26 => ?_)
                · have c_26 := (nI_eq (a := s2) (b := 1) (by omega) (by omega)).mp c_26
                  refine lv_iconst (v := 1) hx hb dL_ticks_288 (by decide) ?_
                  refine lv_goto (tgt := 293) hx hb dL_ticks_289 (by decide) ?_
                  exact kJ _ _ _ _ ⟨rfl, hP, hD, hS, lv_sub hl [0, 1, 2, 3, 4, 5, 6, 7, 8, 9, 10] rfl⟩
                · have c_26 := mt (nI_eq (a := s2) (b := 1) (by omega) (by omega)).mpr c_26
                  refine lv_iload hx hb dL_ticks_211 (lv_at hl 0 rfl) ?_
                  refine lv_bipush (v := 6) hx hb dL_ticks_213 (by decide) ?_
                  refine lv_icmp_ne (tgt := 292) hx hb dL_ticks_215 (by decide) (fun c_27 => ?_) (fun c_27 => ?_)
                  · have c_27 := mt (nI_eq (a := s2) (b := 6) (by omega) (by omega)).mpr c_27
                    refine lv_iconst (v := 0) hx hb dL_ticks_292 (by decide) ?_
                    exfalso; omega
                  · have c_27 := (nI_eq (a := s2) (b := 6) (by omega) (by omega)).mp c_27
                    refine lv_aload_n hx hb dL_ticks_218 rfl (lv_at hl 9 rfl) ?_
                    refine lv_iload hx hb dL_ticks_219 (lv_at hl 2 rfl) ?_
                    have hPc := hP.sub (ws' := [(o, .inr (4, [.ref F, .ref G, .int (nI qv), .int (nw + 1), .int se'_5, .ref (pa 0), .ref an, .ref ln])), cE y yv'_5]) [0, 8] rfl
                    have hDc := hD.sub (ws' := [(o, .inr (4, [.ref F, .ref G, .int (nI qv), .int (nw + 1), .int se'_5, .ref (pa 0), .ref an, .ref ln])), cE y yv'_5]) [0, 8] (by decide) rfl
                    have hFc := va_free (wc := [(o, .inr (4, [.ref F, .ref G, .int (nI qv), .int (nw + 1), .int se'_5, .ref (pa 0), .ref an, .ref ln])), cE y yv'_5]) hD hS hA [0, 8] rfl
                    refine va_calli (va_runV (As := [.int 1]) (rest := []) ⟨hx, hb, hml, hown, hts⟩ (c_X3_tries_k l D cA H.size o F G (nI qv) (nw + 1) se'_5 pa an ln y (x 0) 1 yv'_5 (by first | exact he | exact en_flip he | exact en_01 he | exact en_10 he)) (cwV 1 hts gL_ticks_X3_tries rfl rfl rfl (by decide +kernel) ⟨Nat.le_of_ble_eq_true rfl, Nat.le_of_ble_eq_true rfl⟩) ⟨zU_blind, va_recv hK hPc (ci := 4) (q0 := 0) rfl rfl, fun U hU hW => ⟨rfl, zU_call hU hPc hW.alike hK hDc⟩⟩ rfl rfl hl.1 rfl (lv_room (Nat.le_of_ble_eq_true rfl)) dL_ticks_221 ⟨(Nat.zero_le _), (Nat.zero_le _)⟩) hS (fun q _ h => hFc q h) hFc (fun zr u t H1 locs ht hvm hw hB hz1 hk1 hS => ?_)
                    obtain ⟨hP1, hD1⟩ := hB
                    rw [ht] at hP1
                    obtain ⟨hP, hD⟩ := va_join (wr := [cE x xv'_5, (x 9, .inr (3, [.ref (x 10), .ref (x 11), .ref (x 12), .ref (x 13), .int (nI xf), .int (nI QX'_5.1)])), (x 10, .inl (cA 0, 12, .inl (xr'_5 0))), (x 11, .inl (cA 0, 12, .inl (xr'_5 1))), (x 12, .inl (cA 0, 12, .inl (xr'_5 2))), (x 13, .inl (cA 0, 48, .inl (xr'_5 3))), (x 7, .inl (cA 0, 4, .inl (xd 6))), (y 9, .inr (3, [.ref (y 10), .ref (y 11), .ref (y 12), .ref (y 13), .int (nI yf), .int (nI QY'_5.1)])), (y 10, .inl (cA 0, 12, .inl (yr'_5 0))), (y 11, .inl (cA 0, 12, .inl (yr'_5 1))), (y 12, .inl (cA 0, 12, .inl (yr'_5 2))), (y 13, .inl (cA 0, 48, .inl (yr'_5 3))), (y 7, .inl (cA 0, 4, .inl (yd 6))), (ca, .inl (cA 0, 3, .inl (upd cc 0 ((cc 0) + 1))))]) (w1 := [(o, .inr (4, [.ref F, .ref G, .int (nI qv), .int (nw + 1), .int se'_5, .ref (pa 0), .ref an, .ref ln])), cE y yv'_5]) hP hD [0, 8] [1, 2, 3, 4, 5, 6, 7, 9, 10, 11, 12, 13, 14, 15] rfl rfl (by decide) (by decide) hk1 hFc hP1 hD1
                    generalize H1 = H at hP hS ⊢
                    have hP := hP.sub (ws' := [(o, .inr (4, [.ref F, .ref G, .int (nI qv), .int (nw + 1), .int se'_5, .ref (pa 0), .ref an, .ref ln])), cE x xv'_5, (x 9, .inr (3, [.ref (x 10), .ref (x 11), .ref (x 12), .ref (x 13), .int (nI xf), .int (nI QX'_5.1)])), (x 10, .inl (cA 0, 12, .inl (xr'_5 0))), (x 11, .inl (cA 0, 12, .inl (xr'_5 1))), (x 12, .inl (cA 0, 12, .inl (xr'_5 2))), (x 13, .inl (cA 0, 48, .inl (xr'_5 3))), (x 7, .inl (cA 0, 4, .inl (xd 6))), cE y yv'_5, (y 9, .inr (3, [.ref (y 10), .ref (y 11), .ref (y 12), .ref (y 13), .int (nI yf), .int (nI QY'_5.1)])), (y 10, .inl (cA 0, 12, .inl (yr'_5 0))), (y 11, .inl (cA 0, 12, .inl (yr'_5 1))), (y 12, .inl (cA 0, 12, .inl (yr'_5 2))), (y 13, .inl (cA 0, 48, .inl (yr'_5 3))), (y 7, .inl (cA 0, 4, .inl (yd 6))), (ca, .inl (cA 0, 3, .inl (upd cc 0 ((cc 0) + 1))))]) [14, 0, 1, 2, 3, 4, 5, 6, 15, 7, 8, 9, 10, 11, 12, 13] rfl
                    have hD := hD.sub (ws' := [(o, .inr (4, [.ref F, .ref G, .int (nI qv), .int (nw + 1), .int se'_5, .ref (pa 0), .ref an, .ref ln])), cE x xv'_5, (x 9, .inr (3, [.ref (x 10), .ref (x 11), .ref (x 12), .ref (x 13), .int (nI xf), .int (nI QX'_5.1)])), (x 10, .inl (cA 0, 12, .inl (xr'_5 0))), (x 11, .inl (cA 0, 12, .inl (xr'_5 1))), (x 12, .inl (cA 0, 12, .inl (xr'_5 2))), (x 13, .inl (cA 0, 48, .inl (xr'_5 3))), (x 7, .inl (cA 0, 4, .inl (xd 6))), cE y yv'_5, (y 9, .inr (3, [.ref (y 10), .ref (y 11), .ref (y 12), .ref (y 13), .int (nI yf), .int (nI QY'_5.1)])), (y 10, .inl (cA 0, 12, .inl (yr'_5 0))), (y 11, .inl (cA 0, 12, .inl (yr'_5 1))), (y 12, .inl (cA 0, 12, .inl (yr'_5 2))), (y 13, .inl (cA 0, 48, .inl (yr'_5 3))), (y 7, .inl (cA 0, 4, .inl (yd 6))), (ca, .inl (cA 0, 3, .inl (upd cc 0 ((cc 0) + 1))))]) [14, 0, 1, 2, 3, 4, 5, 6, 15, 7, 8, 9, 10, 11, 12, 13] (by decide) rfl
                    clear hPc hDc hFc hP1 hD1 hk1 hz1
                    have hw_28 := hw
                    obtain rfl := hw
                    refine z_top (y := (nI t2)) hI1.1.2.2.2.1 ?_
                    refine lv_if_ne (tgt := 292) hx hb dL_ticks_224 (by decide) (fun c_29 => ?_) (fun c_29 => ?_)
                    · have c_29 := mt (nI_eq (a := t2) (b := 0) (by omega) (by omega)).mpr c_29
                      refine lv_iconst (v := 0) hx hb dL_ticks_292 (by decide) ?_
                      exfalso; omega
                    · have c_29 := (nI_eq (a := t2) (b := 0) (by omega) (by omega)).mp c_29
                      refine lv_goto (tgt := 288) hx hb dL_ticks_227 (by decide) ?_
                      refine lv_iconst (v := 1) hx hb dL_ticks_288 (by decide) ?_
                      refine lv_goto (tgt := 293) hx hb dL_ticks_289 (by decide) ?_
                      exact kJ _ _ _ _ ⟨rfl, hP, hD, hS, lv_sub hl [0, 1, 2, 3, 4, 5, 6, 7, 8, 9, 10] rfl⟩
          · have c_14 := (nI_eq (a := sy) (b := 1) (by omega) (by omega)).mp c_14
            refine lv_iload hx hb dL_ticks_168 (lv_at hl 0 rfl) ?_
            refine lv_iconst (v := 1) hx hb dL_ticks_170 (by decide) ?_
            refine lv_icmp_eq (tgt := 288) hx hb dL_ticks_171 (by decide) (fun c_30 => ?_) (fun c_30 => ?_)
            · have c_30 := (nI_eq (a := s2) (b := 1) (by omega) (by omega)).mp c_30
              refine lv_iconst (v := 1) hx hb dL_ticks_288 (by decide) ?_
              refine lv_goto (tgt := 293) hx hb dL_ticks_289 (by decide) ?_
              exact kJ _ _ _ _ ⟨rfl, hP, hD, hS, lv_sub hl [0, 1, 2, 3, 4, 5, 6, 7, 8, 9, 10] rfl⟩
            · have c_30 := mt (nI_eq (a := s2) (b := 1) (by omega) (by omega)).mpr c_30
              refine lv_iload hx hb dL_ticks_174 (lv_at hl 0 rfl) ?_
              refine lv_bipush (v := 6) hx hb dL_ticks_176 (by decide) ?_
              refine lv_icmp_ne (tgt := 292) hx hb dL_ticks_178 (by decide) (fun c_31 => ?_) (fun c_31 => ?_)
              · have c_31 := mt (nI_eq (a := s2) (b := 6) (by omega) (by omega)).mpr c_31
                refine lv_iconst (v := 0) hx hb dL_ticks_292 (by decide) ?_
                exfalso; omega
              · have c_31 := (nI_eq (a := s2) (b := 6) (by omega) (by omega)).mp c_31
                refine lv_aload_n hx hb dL_ticks_181 rfl (lv_at hl 9 rfl) ?_
                refine lv_iload hx hb dL_ticks_182 (lv_at hl 2 rfl) ?_
                have hPc := hP.sub (ws' := [(o, .inr (4, [.ref F, .ref G, .int (nI qv), .int (nw + 1), .int se'_5, .ref (pa 0), .ref an, .ref ln])), cE y yv'_5]) [0, 8] rfl
                have hDc := hD.sub (ws' := [(o, .inr (4, [.ref F, .ref G, .int (nI qv), .int (nw + 1), .int se'_5, .ref (pa 0), .ref an, .ref ln])), cE y yv'_5]) [0, 8] (by decide) rfl
                have hFc := va_free (wc := [(o, .inr (4, [.ref F, .ref G, .int (nI qv), .int (nw + 1), .int se'_5, .ref (pa 0), .ref an, .ref ln])), cE y yv'_5]) hD hS hA [0, 8] rfl
                refine va_calli (va_runV (As := [.int 1]) (rest := []) ⟨hx, hb, hml, hown, hts⟩ (c_X3_tries_k l D cA H.size o F G (nI qv) (nw + 1) se'_5 pa an ln y (x 0) 1 yv'_5 (by first | exact he | exact en_flip he | exact en_01 he | exact en_10 he)) (cwV 1 hts gL_ticks_X3_tries rfl rfl rfl (by decide +kernel) ⟨Nat.le_of_ble_eq_true rfl, Nat.le_of_ble_eq_true rfl⟩) ⟨zU_blind, va_recv hK hPc (ci := 4) (q0 := 0) rfl rfl, fun U hU hW => ⟨rfl, zU_call hU hPc hW.alike hK hDc⟩⟩ rfl rfl hl.1 rfl (lv_room (Nat.le_of_ble_eq_true rfl)) dL_ticks_184 ⟨(Nat.zero_le _), (Nat.zero_le _)⟩) hS (fun q _ h => hFc q h) hFc (fun zr u t H1 locs ht hvm hw hB hz1 hk1 hS => ?_)
                obtain ⟨hP1, hD1⟩ := hB
                rw [ht] at hP1
                obtain ⟨hP, hD⟩ := va_join (wr := [cE x xv'_5, (x 9, .inr (3, [.ref (x 10), .ref (x 11), .ref (x 12), .ref (x 13), .int (nI xf), .int (nI QX'_5.1)])), (x 10, .inl (cA 0, 12, .inl (xr'_5 0))), (x 11, .inl (cA 0, 12, .inl (xr'_5 1))), (x 12, .inl (cA 0, 12, .inl (xr'_5 2))), (x 13, .inl (cA 0, 48, .inl (xr'_5 3))), (x 7, .inl (cA 0, 4, .inl (xd 6))), (y 9, .inr (3, [.ref (y 10), .ref (y 11), .ref (y 12), .ref (y 13), .int (nI yf), .int (nI QY'_5.1)])), (y 10, .inl (cA 0, 12, .inl (yr'_5 0))), (y 11, .inl (cA 0, 12, .inl (yr'_5 1))), (y 12, .inl (cA 0, 12, .inl (yr'_5 2))), (y 13, .inl (cA 0, 48, .inl (yr'_5 3))), (y 7, .inl (cA 0, 4, .inl (yd 6))), (ca, .inl (cA 0, 3, .inl (upd cc 0 ((cc 0) + 1))))]) (w1 := [(o, .inr (4, [.ref F, .ref G, .int (nI qv), .int (nw + 1), .int se'_5, .ref (pa 0), .ref an, .ref ln])), cE y yv'_5]) hP hD [0, 8] [1, 2, 3, 4, 5, 6, 7, 9, 10, 11, 12, 13, 14, 15] rfl rfl (by decide) (by decide) hk1 hFc hP1 hD1
                generalize H1 = H at hP hS ⊢
                have hP := hP.sub (ws' := [(o, .inr (4, [.ref F, .ref G, .int (nI qv), .int (nw + 1), .int se'_5, .ref (pa 0), .ref an, .ref ln])), cE x xv'_5, (x 9, .inr (3, [.ref (x 10), .ref (x 11), .ref (x 12), .ref (x 13), .int (nI xf), .int (nI QX'_5.1)])), (x 10, .inl (cA 0, 12, .inl (xr'_5 0))), (x 11, .inl (cA 0, 12, .inl (xr'_5 1))), (x 12, .inl (cA 0, 12, .inl (xr'_5 2))), (x 13, .inl (cA 0, 48, .inl (xr'_5 3))), (x 7, .inl (cA 0, 4, .inl (xd 6))), cE y yv'_5, (y 9, .inr (3, [.ref (y 10), .ref (y 11), .ref (y 12), .ref (y 13), .int (nI yf), .int (nI QY'_5.1)])), (y 10, .inl (cA 0, 12, .inl (yr'_5 0))), (y 11, .inl (cA 0, 12, .inl (yr'_5 1))), (y 12, .inl (cA 0, 12, .inl (yr'_5 2))), (y 13, .inl (cA 0, 48, .inl (yr'_5 3))), (y 7, .inl (cA 0, 4, .inl (yd 6))), (ca, .inl (cA 0, 3, .inl (upd cc 0 ((cc 0) + 1))))]) [14, 0, 1, 2, 3, 4, 5, 6, 15, 7, 8, 9, 10, 11, 12, 13] rfl
                have hD := hD.sub (ws' := [(o, .inr (4, [.ref F, .ref G, .int (nI qv), .int (nw + 1), .int se'_5, .ref (pa 0), .ref an, .ref ln])), cE x xv'_5, (x 9, .inr (3, [.ref (x 10), .ref (x 11), .ref (x 12), .ref (x 13), .int (nI xf), .int (nI QX'_5.1)])), (x 10, .inl (cA 0, 12, .inl (xr'_5 0))), (x 11, .inl (cA 0, 12, .inl (xr'_5 1))), (x 12, .inl (cA 0, 12, .inl (xr'_5 2))), (x 13, .inl (cA 0, 48, .inl (xr'_5 3))), (x 7, .inl (cA 0, 4, .inl (xd 6))), cE y yv'_5, (y 9, .inr (3, [.ref (y 10), .ref (y 11), .ref (y 12), .ref (y 13), .int (nI yf), .int (nI QY'_5.1)])), (y 10, .inl (cA 0, 12, .inl (yr'_5 0))), (y 11, .inl (cA 0, 12, .inl (yr'_5 1))), (y 12, .inl (cA 0, 12, .inl (yr'_5 2))), (y 13, .inl (cA 0, 48, .inl (yr'_5 3))), (y 7, .inl (cA 0, 4, .inl (yd 6))), (ca, .inl (cA 0, 3, .inl (upd cc 0 ((cc 0) + 1))))]) [14, 0, 1, 2, 3, 4, 5, 6, 15, 7, 8, 9, 10, 11, 12, 13] (by decide) rfl
                clear hPc hDc hFc hP1 hD1 hk1 hz1
                have hw_32 := hw
                obtain rfl := hw
                refine z_top (y := (nI t2)) hI1.1.2.2.2.1 ?_
                refine lv_if_ne (tgt := 292) hx hb dL_ticks_187 (by decide) (fun c_33 => ?_) (fun c_33 => ?_)
                · have c_33 := mt (nI_eq (a := t2) (b := 0) (by omega) (by omega)).mpr c_33
                  refine lv_iconst (v := 0) hx hb dL_ticks_292 (by decide) ?_
                  exfalso; omega
                · have c_33 := (nI_eq (a := t2) (b := 0) (by omega) (by omega)).mp c_33
                  refine lv_goto (tgt := 288) hx hb dL_ticks_190 (by decide) ?_
                  refine lv_iconst (v := 1) hx hb dL_ticks_288 (by decide) ?_
                  refine lv_goto (tgt := 293) hx hb dL_ticks_289 (by decide) ?_
                  exact kJ _ _ _ _ ⟨rfl, hP, hD, hS, lv_sub hl [0, 1, 2, 3, 4, 5, 6, 7, 8, 9, 10] rfl⟩
      · skip
        refine lv_iload hx hb dL_ticks_157 (lv_at hl 3 rfl) ?_
        refine lv_if_eq (tgt := 292) hx hb dL_ticks_159 (by decide) (fun c_34 => absurd c_34 (by decide)) (fun _ => ?_)
        refine lv_iload hx hb dL_ticks_162 (lv_at hl 1 rfl) ?_
        refine lv_iconst (v := 1) hx hb dL_ticks_164 (by decide) ?_
        refine lv_icmp_ne (tgt := 193) hx hb dL_ticks_165 (by decide) (fun c_35 => ?_) (fun c_35 => ?_)
        · have c_35 := mt (nI_eq (a := sx) (b := 1) (by omega) (by omega)).mpr c_35
          refine lv_iload hx hb dL_ticks_193 (lv_at hl 1 rfl) ?_
          refine lv_iconst (v := 2) hx hb dL_ticks_195 (by decide) ?_
          refine lv_icmp_ne (tgt := 230) hx hb dL_ticks_196 (by decide) (fun c_36 => ?_) (fun c_36 => ?_)
          · have c_36 := mt (nI_eq (a := sx) (b := 2) (by omega) (by omega)).mpr c_36
            refine lv_iload hx hb dL_ticks_230 (lv_at hl 1 rfl) ?_
            refine lv_iconst (v := 3) hx hb dL_ticks_232 (by decide) ?_
            refine lv_icmp_ne (tgt := 261) hx hb dL_ticks_233 (by decide) (fun c_37 => ?_) (fun c_37 => ?_)
            · have c_37 := mt (nI_eq (a := sx) (b := 3) (by omega) (by omega)).mpr c_37
              refine lv_iload hx hb dL_ticks_261 (lv_at hl 1 rfl) ?_
              refine lv_iconst (v := 5) hx hb dL_ticks_263 (by decide) ?_
              refine lv_icmp_ne (tgt := 281) hx hb dL_ticks_264 (by decide) (fun c_38 => ?_) (fun c_38 => ?_)
              · have c_38 := mt (nI_eq (a := sx) (b := 5) (by omega) (by omega)).mpr c_38
                refine lv_iload hx hb dL_ticks_281 (lv_at hl 0 rfl) ?_
                refine lv_iload hx hb dL_ticks_283 (lv_at hl 1 rfl) ?_
                refine lv_icmp_ne (tgt := 292) hx hb dL_ticks_285 (by decide) (fun c_39 => ?_) (fun c_39 => ?_)
                · have c_39 := mt (nI_eq (a := s1) (b := sx) (by omega) (by omega)).mpr c_39
                  refine lv_iconst (v := 0) hx hb dL_ticks_292 (by decide) ?_
                  exfalso; omega
                · have c_39 := (nI_eq (a := s1) (b := sx) (by omega) (by omega)).mp c_39
                  refine lv_iconst (v := 1) hx hb dL_ticks_288 (by decide) ?_
                  refine lv_goto (tgt := 293) hx hb dL_ticks_289 (by decide) ?_
                  exact kJ _ _ _ _ ⟨rfl, hP, hD, hS, lv_sub hl [0, 1, 2, 3, 4, 5, 6, 7, 8, 9, 10] rfl⟩
              · have c_38 := (nI_eq (a := sx) (b := 5) (by omega) (by omega)).mp c_38
                refine lv_iload hx hb dL_ticks_267 (lv_at hl 0 rfl) ?_
                refine lv_iconst (v := 5) hx hb dL_ticks_269 (by decide) ?_
                refine lv_icmp_eq (tgt := 288) hx hb dL_ticks_270 (by decide) (fun c_40 => ?_) (fun c_40 => ?_)
                · have c_40 := (nI_eq (a := s1) (b := 5) (by omega) (by omega)).mp c_40
                  refine lv_iconst (v := 1) hx hb dL_ticks_288 (by decide) ?_
                  refine lv_goto (tgt := 293) hx hb dL_ticks_289 (by decide) ?_
                  exact kJ _ _ _ _ ⟨rfl, hP, hD, hS, lv_sub hl [0, 1, 2, 3, 4, 5, 6, 7, 8, 9, 10] rfl⟩
                · have c_40 := mt (nI_eq (a := s1) (b := 5) (by omega) (by omega)).mpr c_40
                  refine lv_iload hx hb dL_ticks_273 (lv_at hl 0 rfl) ?_
                  refine lv_if_ne (tgt := 292) hx hb dL_ticks_275 (by decide) (fun c_41 => ?_) (fun c_41 => ?_)
                  · have c_41 := mt (nI_eq (a := s1) (b := 0) (by omega) (by omega)).mpr c_41
                    refine lv_iconst (v := 0) hx hb dL_ticks_292 (by decide) ?_
                    exfalso; omega
                  · have c_41 := (nI_eq (a := s1) (b := 0) (by omega) (by omega)).mp c_41
                    refine lv_goto (tgt := 288) hx hb dL_ticks_278 (by decide) ?_
                    refine lv_iconst (v := 1) hx hb dL_ticks_288 (by decide) ?_
                    refine lv_goto (tgt := 293) hx hb dL_ticks_289 (by decide) ?_
                    exact kJ _ _ _ _ ⟨rfl, hP, hD, hS, lv_sub hl [0, 1, 2, 3, 4, 5, 6, 7, 8, 9, 10] rfl⟩
            · have c_37 := (nI_eq (a := sx) (b := 3) (by omega) (by omega)).mp c_37
              refine lv_iload hx hb dL_ticks_236 (lv_at hl 0 rfl) ?_
              refine lv_iconst (v := 3) hx hb dL_ticks_238 (by decide) ?_
              refine lv_icmp_eq (tgt := 288) hx hb dL_ticks_239 (by decide) (fun c_42 => ?_) (fun c_42 => ?_)
              · have c_42 := (nI_eq (a := s1) (b := 3) (by omega) (by omega)).mp c_42
                refine lv_iconst (v := 1) hx hb dL_ticks_288 (by decide) ?_
                refine lv_goto (tgt := 293) hx hb dL_ticks_289 (by decide) ?_
                exact kJ _ _ _ _ ⟨rfl, hP, hD, hS, lv_sub hl [0, 1, 2, 3, 4, 5, 6, 7, 8, 9, 10] rfl⟩
              · have c_42 := mt (nI_eq (a := s1) (b := 3) (by omega) (by omega)).mpr c_42
                refine lv_iload hx hb dL_ticks_242 (lv_at hl 0 rfl) ?_
                refine lv_bipush (v := 6) hx hb dL_ticks_244 (by decide) ?_
                refine lv_icmp_ne (tgt := 292) hx hb dL_ticks_246 (by decide) (fun c_43 => ?_) (fun c_43 => ?_)
                · have c_43 := mt (nI_eq (a := s1) (b := 6) (by omega) (by omega)).mpr c_43
                  refine lv_iconst (v := 0) hx hb dL_ticks_292 (by decide) ?_
                  exfalso; omega
                · have c_43 := (nI_eq (a := s1) (b := 6) (by omega) (by omega)).mp c_43
                  refine lv_aload_n hx hb dL_ticks_249 rfl (lv_at hl 9 rfl) ?_
                  refine lv_iload hx hb dL_ticks_250 (lv_at hl 2 rfl) ?_
                  have hPc := hP.sub (ws' := [(o, .inr (4, [.ref F, .ref G, .int (nI qv), .int (nw + 1), .int se'_5, .ref (pa 0), .ref an, .ref ln])), cE x xv'_5]) [0, 1] rfl
                  have hDc := hD.sub (ws' := [(o, .inr (4, [.ref F, .ref G, .int (nI qv), .int (nw + 1), .int se'_5, .ref (pa 0), .ref an, .ref ln])), cE x xv'_5]) [0, 1] (by decide) rfl
                  have hFc := va_free (wc := [(o, .inr (4, [.ref F, .ref G, .int (nI qv), .int (nw + 1), .int se'_5, .ref (pa 0), .ref an, .ref ln])), cE x xv'_5]) hD hS hA [0, 1] rfl
                  refine va_calli (va_runV (As := [.int 0]) (rest := []) ⟨hx, hb, hml, hown, hts⟩ (c_X3_tries_k l D cA H.size o F G (nI qv) (nw + 1) se'_5 pa an ln x (y 0) 0 xv'_5 (by first | exact he | exact en_flip he | exact en_01 he | exact en_10 he)) (cwV 1 hts gL_ticks_X3_tries rfl rfl rfl (by decide +kernel) ⟨Nat.le_of_ble_eq_true rfl, Nat.le_of_ble_eq_true rfl⟩) ⟨zU_blind, va_recv hK hPc (ci := 4) (q0 := 0) rfl rfl, fun U hU hW => ⟨rfl, zU_call hU hPc hW.alike hK hDc⟩⟩ rfl rfl hl.1 rfl (lv_room (Nat.le_of_ble_eq_true rfl)) dL_ticks_252 ⟨(Nat.zero_le _), (Nat.zero_le _)⟩) hS (fun q _ h => hFc q h) hFc (fun zr u t H1 locs ht hvm hw hB hz1 hk1 hS => ?_)
                  obtain ⟨hP1, hD1⟩ := hB
                  rw [ht] at hP1
                  obtain ⟨hP, hD⟩ := va_join (wr := [(x 9, .inr (3, [.ref (x 10), .ref (x 11), .ref (x 12), .ref (x 13), .int (nI xf), .int (nI QX'_5.1)])), (x 10, .inl (cA 0, 12, .inl (xr'_5 0))), (x 11, .inl (cA 0, 12, .inl (xr'_5 1))), (x 12, .inl (cA 0, 12, .inl (xr'_5 2))), (x 13, .inl (cA 0, 48, .inl (xr'_5 3))), (x 7, .inl (cA 0, 4, .inl (xd 6))), cE y yv'_5, (y 9, .inr (3, [.ref (y 10), .ref (y 11), .ref (y 12), .ref (y 13), .int (nI yf), .int (nI QY'_5.1)])), (y 10, .inl (cA 0, 12, .inl (yr'_5 0))), (y 11, .inl (cA 0, 12, .inl (yr'_5 1))), (y 12, .inl (cA 0, 12, .inl (yr'_5 2))), (y 13, .inl (cA 0, 48, .inl (yr'_5 3))), (y 7, .inl (cA 0, 4, .inl (yd 6))), (ca, .inl (cA 0, 3, .inl (upd cc 0 ((cc 0) + 1))))]) (w1 := [(o, .inr (4, [.ref F, .ref G, .int (nI qv), .int (nw + 1), .int se'_5, .ref (pa 0), .ref an, .ref ln])), cE x xv'_5]) hP hD [0, 1] [2, 3, 4, 5, 6, 7, 8, 9, 10, 11, 12, 13, 14, 15] rfl rfl (by decide) (by decide) hk1 hFc hP1 hD1
                  generalize H1 = H at hP hS ⊢
                  have hP := hP.sub (ws' := [(o, .inr (4, [.ref F, .ref G, .int (nI qv), .int (nw + 1), .int se'_5, .ref (pa 0), .ref an, .ref ln])), cE x xv'_5, (x 9, .inr (3, [.ref (x 10), .ref (x 11), .ref (x 12), .ref (x 13), .int (nI xf), .int (nI QX'_5.1)])), (x 10, .inl (cA 0, 12, .inl (xr'_5 0))), (x 11, .inl (cA 0, 12, .inl (xr'_5 1))), (x 12, .inl (cA 0, 12, .inl (xr'_5 2))), (x 13, .inl (cA 0, 48, .inl (xr'_5 3))), (x 7, .inl (cA 0, 4, .inl (xd 6))), cE y yv'_5, (y 9, .inr (3, [.ref (y 10), .ref (y 11), .ref (y 12), .ref (y 13), .int (nI yf), .int (nI QY'_5.1)])), (y 10, .inl (cA 0, 12, .inl (yr'_5 0))), (y 11, .inl (cA 0, 12, .inl (yr'_5 1))), (y 12, .inl (cA 0, 12, .inl (yr'_5 2))), (y 13, .inl (cA 0, 48, .inl (yr'_5 3))), (y 7, .inl (cA 0, 4, .inl (yd 6))), (ca, .inl (cA 0, 3, .inl (upd cc 0 ((cc 0) + 1))))]) [14, 15, 0, 1, 2, 3, 4, 5, 6, 7, 8, 9, 10, 11, 12, 13] rfl
                  have hD := hD.sub (ws' := [(o, .inr (4, [.ref F, .ref G, .int (nI qv), .int (nw + 1), .int se'_5, .ref (pa 0), .ref an, .ref ln])), cE x xv'_5, (x 9, .inr (3, [.ref (x 10), .ref (x 11), .ref (x 12), .ref (x 13), .int (nI xf), .int (nI QX'_5.1)])), (x 10, .inl (cA 0, 12, .inl (xr'_5 0))), (x 11, .inl (cA 0, 12, .inl (xr'_5 1))), (x 12, .inl (cA 0, 12, .inl (xr'_5 2))), (x 13, .inl (cA 0, 48, .inl (xr'_5 3))), (x 7, .inl (cA 0, 4, .inl (xd 6))), cE y yv'_5, (y 9, .inr (3, [.ref (y 10), .ref (y 11), .ref (y 12), .ref (y 13), .int (nI yf), .int (nI QY'_5.1)])), (y 10, .inl (cA 0, 12, .inl (yr'_5 0))), (y 11, .inl (cA 0, 12, .inl (yr'_5 1))), (y 12, .inl (cA 0, 12, .inl (yr'_5 2))), (y 13, .inl (cA 0, 48, .inl (yr'_5 3))), (y 7, .inl (cA 0, 4, .inl (yd 6))), (ca, .inl (cA 0, 3, .inl (upd cc 0 ((cc 0) + 1))))]) [14, 15, 0, 1, 2, 3, 4, 5, 6, 7, 8, 9, 10, 11, 12, 13] (by decide) rfl
                  clear hPc hDc hFc hP1 hD1 hk1 hz1
                  have hw_44 := hw
                  obtain rfl := hw
                  refine z_top (y := (nI t1)) hI1.1.1.2.2.1 ?_
                  refine lv_if_ne (tgt := 292) hx hb dL_ticks_255 (by decide) (fun c_45 => ?_) (fun c_45 => ?_)
                  · have c_45 := mt (nI_eq (a := t1) (b := 0) (by omega) (by omega)).mpr c_45
                    refine lv_iconst (v := 0) hx hb dL_ticks_292 (by decide) ?_
                    exfalso; omega
                  · have c_45 := (nI_eq (a := t1) (b := 0) (by omega) (by omega)).mp c_45
                    refine lv_goto (tgt := 288) hx hb dL_ticks_258 (by decide) ?_
                    refine lv_iconst (v := 1) hx hb dL_ticks_288 (by decide) ?_
                    refine lv_goto (tgt := 293) hx hb dL_ticks_289 (by decide) ?_
                    exact kJ _ _ _ _ ⟨rfl, hP, hD, hS, lv_sub hl [0, 1, 2, 3, 4, 5, 6, 7, 8, 9, 10] rfl⟩
          · have c_36 := (nI_eq (a := sx) (b := 2) (by omega) (by omega)).mp c_36
            refine lv_iload hx hb dL_ticks_199 (lv_at hl 0 rfl) ?_
            refine lv_iconst (v := 2) hx hb dL_ticks_201 (by decide) ?_
            refine lv_icmp_eq (tgt := 288) hx hb dL_ticks_202 (by decide) (fun c_46 => ?_) (fun c_46 => ?_)
            · have c_46 := (nI_eq (a := s1) (b := 2) (by omega) (by omega)).mp c_46
              refine lv_iconst (v := 1) hx hb dL_ticks_288 (by decide) ?_
              refine lv_goto (tgt := 293) hx hb dL_ticks_289 (by decide) ?_
              exact kJ _ _ _ _ ⟨rfl, hP, hD, hS, lv_sub hl [0, 1, 2, 3, 4, 5, 6, 7, 8, 9, 10] rfl⟩
            · have c_46 := mt (nI_eq (a := s1) (b := 2) (by omega) (by omega)).mpr c_46
              refine lv_iload hx hb dL_ticks_205 (lv_at hl 0 rfl) ?_
              refine lv_iconst (v := 1) hx hb dL_ticks_207 (by decide) ?_
              refine lv_icmp_eq (tgt := 288) hx hb dL_ticks_208 (by decide) (fun c_47 => ?_) (fun c_47 => ?_)
              · have c_47 := (nI_eq (a := s1) (b := 1) (by omega) (by omega)).mp c_47
                refine lv_iconst (v := 1) hx hb dL_ticks_288 (by decide) ?_
                refine lv_goto (tgt := 293) hx hb dL_ticks_289 (by decide) ?_
                exact kJ _ _ _ _ ⟨rfl, hP, hD, hS, lv_sub hl [0, 1, 2, 3, 4, 5, 6, 7, 8, 9, 10] rfl⟩
              · have c_47 := mt (nI_eq (a := s1) (b := 1) (by omega) (by omega)).mpr c_47
                refine lv_iload hx hb dL_ticks_211 (lv_at hl 0 rfl) ?_
                refine lv_bipush (v := 6) hx hb dL_ticks_213 (by decide) ?_
                refine lv_icmp_ne (tgt := 292) hx hb dL_ticks_215 (by decide) (fun c_48 => ?_) (fun c_48 => ?_)
                · have c_48 := mt (nI_eq (a := s1) (b := 6) (by omega) (by omega)).mpr c_48
                  refine lv_iconst (v := 0) hx hb dL_ticks_292 (by decide) ?_
                  exfalso; omega
                · have c_48 := (nI_eq (a := s1) (b := 6) (by omega) (by omega)).mp c_48
                  refine lv_aload_n hx hb dL_ticks_218 rfl (lv_at hl 9 rfl) ?_
                  refine lv_iload hx hb dL_ticks_219 (lv_at hl 2 rfl) ?_
                  have hPc := hP.sub (ws' := [(o, .inr (4, [.ref F, .ref G, .int (nI qv), .int (nw + 1), .int se'_5, .ref (pa 0), .ref an, .ref ln])), cE x xv'_5]) [0, 1] rfl
                  have hDc := hD.sub (ws' := [(o, .inr (4, [.ref F, .ref G, .int (nI qv), .int (nw + 1), .int se'_5, .ref (pa 0), .ref an, .ref ln])), cE x xv'_5]) [0, 1] (by decide) rfl
                  have hFc := va_free (wc := [(o, .inr (4, [.ref F, .ref G, .int (nI qv), .int (nw + 1), .int se'_5, .ref (pa 0), .ref an, .ref ln])), cE x xv'_5]) hD hS hA [0, 1] rfl
                  refine va_calli (va_runV (As := [.int 0]) (rest := []) ⟨hx, hb, hml, hown, hts⟩ (c_X3_tries_k l D cA H.size o F G (nI qv) (nw + 1) se'_5 pa an ln x (y 0) 0 xv'_5 (by first | exact he | exact en_flip he | exact en_01 he | exact en_10 he)) (cwV 1 hts gL_ticks_X3_tries rfl rfl rfl (by decide +kernel) ⟨Nat.le_of_ble_eq_true rfl, Nat.le_of_ble_eq_true rfl⟩) ⟨zU_blind, va_recv hK hPc (ci := 4) (q0 := 0) rfl rfl, fun U hU hW => ⟨rfl, zU_call hU hPc hW.alike hK hDc⟩⟩ rfl rfl hl.1 rfl (lv_room (Nat.le_of_ble_eq_true rfl)) dL_ticks_221 ⟨(Nat.zero_le _), (Nat.zero_le _)⟩) hS (fun q _ h => hFc q h) hFc (fun zr u t H1 locs ht hvm hw hB hz1 hk1 hS => ?_)
                  obtain ⟨hP1, hD1⟩ := hB
                  rw [ht] at hP1
                  obtain ⟨hP, hD⟩ := va_join (wr := [(x 9, .inr (3, [.ref (x 10), .ref (x 11), .ref (x 12), .ref (x 13), .int (nI xf), .int (nI QX'_5.1)])), (x 10, .inl (cA 0, 12, .inl (xr'_5 0))), (x 11, .inl (cA 0, 12, .inl (xr'_5 1))), (x 12, .inl (cA 0, 12, .inl (xr'_5 2))), (x 13, .inl (cA 0, 48, .inl (xr'_5 3))), (x 7, .inl (cA 0, 4, .inl (xd 6))), cE y yv'_5, (y 9, .inr (3, [.ref (y 10), .ref (y 11), .ref (y 12), .ref (y 13), .int (nI yf), .int (nI QY'_5.1)])), (y 10, .inl (cA 0, 12, .inl (yr'_5 0))), (y 11, .inl (cA 0, 12, .inl (yr'_5 1))), (y 12, .inl (cA 0, 12, .inl (yr'_5 2))), (y 13, .inl (cA 0, 48, .inl (yr'_5 3))), (y 7, .inl (cA 0, 4, .inl (yd 6))), (ca, .inl (cA 0, 3, .inl (upd cc 0 ((cc 0) + 1))))]) (w1 := [(o, .inr (4, [.ref F, .ref G, .int (nI qv), .int (nw + 1), .int se'_5, .ref (pa 0), .ref an, .ref ln])), cE x xv'_5]) hP hD [0, 1] [2, 3, 4, 5, 6, 7, 8, 9, 10, 11, 12, 13, 14, 15] rfl rfl (by decide) (by decide) hk1 hFc hP1 hD1
                  generalize H1 = H at hP hS ⊢
                  have hP := hP.sub (ws' := [(o, .inr (4, [.ref F, .ref G, .int (nI qv), .int (nw + 1), .int se'_5, .ref (pa 0), .ref an, .ref ln])), cE x xv'_5, (x 9, .inr (3, [.ref (x 10), .ref (x 11), .ref (x 12), .ref (x 13), .int (nI xf), .int (nI QX'_5.1)])), (x 10, .inl (cA 0, 12, .inl (xr'_5 0))), (x 11, .inl (cA 0, 12, .inl (xr'_5 1))), (x 12, .inl (cA 0, 12, .inl (xr'_5 2))), (x 13, .inl (cA 0, 48, .inl (xr'_5 3))), (x 7, .inl (cA 0, 4, .inl (xd 6))), cE y yv'_5, (y 9, .inr (3, [.ref (y 10), .ref (y 11), .ref (y 12), .ref (y 13), .int (nI yf), .int (nI QY'_5.1)])), (y 10, .inl (cA 0, 12, .inl (yr'_5 0))), (y 11, .inl (cA 0, 12, .inl (yr'_5 1))), (y 12, .inl (cA 0, 12, .inl (yr'_5 2))), (y 13, .inl (cA 0, 48, .inl (yr'_5 3))), (y 7, .inl (cA 0, 4, .inl (yd 6))), (ca, .inl (cA 0, 3, .inl (upd cc 0 ((cc 0) + 1))))]) [14, 15, 0, 1, 2, 3, 4, 5, 6, 7, 8, 9, 10, 11, 12, 13] rfl
                  have hD := hD.sub (ws' := [(o, .inr (4, [.ref F, .ref G, .int (nI qv), .int (nw + 1), .int se'_5, .ref (pa 0), .ref an, .ref ln])), cE x xv'_5, (x 9, .inr (3, [.ref (x 10), .ref (x 11), .ref (x 12), .ref (x 13), .int (nI xf), .int (nI QX'_5.1)])), (x 10, .inl (cA 0, 12, .inl (xr'_5 0))), (x 11, .inl (cA 0, 12, .inl (xr'_5 1))), (x 12, .inl (cA 0, 12, .inl (xr'_5 2))), (x 13, .inl (cA 0, 48, .inl (xr'_5 3))), (x 7, .inl (cA 0, 4, .inl (xd 6))), cE y yv'_5, (y 9, .inr (3, [.ref (y 10), .ref (y 11), .ref (y 12), .ref (y 13), .int (nI yf), .int (nI QY'_5.1)])), (y 10, .inl (cA 0, 12, .inl (yr'_5 0))), (y 11, .inl (cA 0, 12, .inl (yr'_5 1))), (y 12, .inl (cA 0, 12, .inl (yr'_5 2))), (y 13, .inl (cA 0, 48, .inl (yr'_5 3))), (y 7, .inl (cA 0, 4, .inl (yd 6))), (ca, .inl (cA 0, 3, .inl (upd cc 0 ((cc 0) + 1))))]) [14, 15, 0, 1, 2, 3, 4, 5, 6, 7, 8, 9, 10, 11, 12, 13] (by decide) rfl
                  clear hPc hDc hFc hP1 hD1 hk1 hz1
                  have hw_49 := hw
                  obtain rfl := hw
                  refine z_top (y := (nI t1)) hI1.1.1.2.2.1 ?_
                  refine lv_if_ne (tgt := 292) hx hb dL_ticks_224 (by decide) (fun c_50 => ?_) (fun c_50 => ?_)
                  · have c_50 := mt (nI_eq (a := t1) (b := 0) (by omega) (by omega)).mpr c_50
                    refine lv_iconst (v := 0) hx hb dL_ticks_292 (by decide) ?_
                    exfalso; omega
                  · have c_50 := (nI_eq (a := t1) (b := 0) (by omega) (by omega)).mp c_50
                    refine lv_goto (tgt := 288) hx hb dL_ticks_227 (by decide) ?_
                    refine lv_iconst (v := 1) hx hb dL_ticks_288 (by decide) ?_
                    refine lv_goto (tgt := 293) hx hb dL_ticks_289 (by decide) ?_
                    exact kJ _ _ _ _ ⟨rfl, hP, hD, hS, lv_sub hl [0, 1, 2, 3, 4, 5, 6, 7, 8, 9, 10] rfl⟩
        · have c_35 := (nI_eq (a := sx) (b := 1) (by omega) (by omega)).mp c_35
          refine lv_iload hx hb dL_ticks_168 (lv_at hl 0 rfl) ?_
          refine lv_iconst (v := 1) hx hb dL_ticks_170 (by decide) ?_
          refine lv_icmp_eq (tgt := 288) hx hb dL_ticks_171 (by decide) (fun c_51 => ?_) (fun c_51 => ?_)
          · have c_51 := (nI_eq (a := s1) (b := 1) (by omega) (by omega)).mp c_51
            refine lv_iconst (v := 1) hx hb dL_ticks_288 (by decide) ?_
            refine lv_goto (tgt := 293) hx hb dL_ticks_289 (by decide) ?_
            exact kJ _ _ _ _ ⟨rfl, hP, hD, hS, lv_sub hl [0, 1, 2, 3, 4, 5, 6, 7, 8, 9, 10] rfl⟩
          · have c_51 := mt (nI_eq (a := s1) (b := 1) (by omega) (by omega)).mpr c_51
            refine lv_iload hx hb dL_ticks_174 (lv_at hl 0 rfl) ?_
            refine lv_bipush (v := 6) hx hb dL_ticks_176 (by decide) ?_
            refine lv_icmp_ne (tgt := 292) hx hb dL_ticks_178 (by decide) (fun c_52 => ?_) (fun c_52 => ?_)
            · have c_52 := mt (nI_eq (a := s1) (b := 6) (by omega) (by omega)).mpr c_52
              refine lv_iconst (v := 0) hx hb dL_ticks_292 (by decide) ?_
              exfalso; omega
            · have c_52 := (nI_eq (a := s1) (b := 6) (by omega) (by omega)).mp c_52
              refine lv_aload_n hx hb dL_ticks_181 rfl (lv_at hl 9 rfl) ?_
              refine lv_iload hx hb dL_ticks_182 (lv_at hl 2 rfl) ?_
              have hPc := hP.sub (ws' := [(o, .inr (4, [.ref F, .ref G, .int (nI qv), .int (nw + 1), .int se'_5, .ref (pa 0), .ref an, .ref ln])), cE x xv'_5]) [0, 1] rfl
              have hDc := hD.sub (ws' := [(o, .inr (4, [.ref F, .ref G, .int (nI qv), .int (nw + 1), .int se'_5, .ref (pa 0), .ref an, .ref ln])), cE x xv'_5]) [0, 1] (by decide) rfl
              have hFc := va_free (wc := [(o, .inr (4, [.ref F, .ref G, .int (nI qv), .int (nw + 1), .int se'_5, .ref (pa 0), .ref an, .ref ln])), cE x xv'_5]) hD hS hA [0, 1] rfl
              refine va_calli (va_runV (As := [.int 0]) (rest := []) ⟨hx, hb, hml, hown, hts⟩ (c_X3_tries_k l D cA H.size o F G (nI qv) (nw + 1) se'_5 pa an ln x (y 0) 0 xv'_5 (by first | exact he | exact en_flip he | exact en_01 he | exact en_10 he)) (cwV 1 hts gL_ticks_X3_tries rfl rfl rfl (by decide +kernel) ⟨Nat.le_of_ble_eq_true rfl, Nat.le_of_ble_eq_true rfl⟩) ⟨zU_blind, va_recv hK hPc (ci := 4) (q0 := 0) rfl rfl, fun U hU hW => ⟨rfl, zU_call hU hPc hW.alike hK hDc⟩⟩ rfl rfl hl.1 rfl (lv_room (Nat.le_of_ble_eq_true rfl)) dL_ticks_184 ⟨(Nat.zero_le _), (Nat.zero_le _)⟩) hS (fun q _ h => hFc q h) hFc (fun zr u t H1 locs ht hvm hw hB hz1 hk1 hS => ?_)
              obtain ⟨hP1, hD1⟩ := hB
              rw [ht] at hP1
              obtain ⟨hP, hD⟩ := va_join (wr := [(x 9, .inr (3, [.ref (x 10), .ref (x 11), .ref (x 12), .ref (x 13), .int (nI xf), .int (nI QX'_5.1)])), (x 10, .inl (cA 0, 12, .inl (xr'_5 0))), (x 11, .inl (cA 0, 12, .inl (xr'_5 1))), (x 12, .inl (cA 0, 12, .inl (xr'_5 2))), (x 13, .inl (cA 0, 48, .inl (xr'_5 3))), (x 7, .inl (cA 0, 4, .inl (xd 6))), cE y yv'_5, (y 9, .inr (3, [.ref (y 10), .ref (y 11), .ref (y 12), .ref (y 13), .int (nI yf), .int (nI QY'_5.1)])), (y 10, .inl (cA 0, 12, .inl (yr'_5 0))), (y 11, .inl (cA 0, 12, .inl (yr'_5 1))), (y 12, .inl (cA 0, 12, .inl (yr'_5 2))), (y 13, .inl (cA 0, 48, .inl (yr'_5 3))), (y 7, .inl (cA 0, 4, .inl (yd 6))), (ca, .inl (cA 0, 3, .inl (upd cc 0 ((cc 0) + 1))))]) (w1 := [(o, .inr (4, [.ref F, .ref G, .int (nI qv), .int (nw + 1), .int se'_5, .ref (pa 0), .ref an, .ref ln])), cE x xv'_5]) hP hD [0, 1] [2, 3, 4, 5, 6, 7, 8, 9, 10, 11, 12, 13, 14, 15] rfl rfl (by decide) (by decide) hk1 hFc hP1 hD1
              generalize H1 = H at hP hS ⊢
              have hP := hP.sub (ws' := [(o, .inr (4, [.ref F, .ref G, .int (nI qv), .int (nw + 1), .int se'_5, .ref (pa 0), .ref an, .ref ln])), cE x xv'_5, (x 9, .inr (3, [.ref (x 10), .ref (x 11), .ref (x 12), .ref (x 13), .int (nI xf), .int (nI QX'_5.1)])), (x 10, .inl (cA 0, 12, .inl (xr'_5 0))), (x 11, .inl (cA 0, 12, .inl (xr'_5 1))), (x 12, .inl (cA 0, 12, .inl (xr'_5 2))), (x 13, .inl (cA 0, 48, .inl (xr'_5 3))), (x 7, .inl (cA 0, 4, .inl (xd 6))), cE y yv'_5, (y 9, .inr (3, [.ref (y 10), .ref (y 11), .ref (y 12), .ref (y 13), .int (nI yf), .int (nI QY'_5.1)])), (y 10, .inl (cA 0, 12, .inl (yr'_5 0))), (y 11, .inl (cA 0, 12, .inl (yr'_5 1))), (y 12, .inl (cA 0, 12, .inl (yr'_5 2))), (y 13, .inl (cA 0, 48, .inl (yr'_5 3))), (y 7, .inl (cA 0, 4, .inl (yd 6))), (ca, .inl (cA 0, 3, .inl (upd cc 0 ((cc 0) + 1))))]) [14, 15, 0, 1, 2, 3, 4, 5, 6, 7, 8, 9, 10, 11, 12, 13] rfl
              have hD := hD.sub (ws' := [(o, .inr (4, [.ref F, .ref G, .int (nI qv), .int (nw + 1), .int se'_5, .ref (pa 0), .ref an, .ref ln])), cE x xv'_5, (x 9, .inr (3, [.ref (x 10), .ref (x 11), .ref (x 12), .ref (x 13), .int (nI xf), .int (nI QX'_5.1)])), (x 10, .inl (cA 0, 12, .inl (xr'_5 0))), (x 11, .inl (cA 0, 12, .inl (xr'_5 1))), (x 12, .inl (cA 0, 12, .inl (xr'_5 2))), (x 13, .inl (cA 0, 48, .inl (xr'_5 3))), (x 7, .inl (cA 0, 4, .inl (xd 6))), cE y yv'_5, (y 9, .inr (3, [.ref (y 10), .ref (y 11), .ref (y 12), .ref (y 13), .int (nI yf), .int (nI QY'_5.1)])), (y 10, .inl (cA 0, 12, .inl (yr'_5 0))), (y 11, .inl (cA 0, 12, .inl (yr'_5 1))), (y 12, .inl (cA 0, 12, .inl (yr'_5 2))), (y 13, .inl (cA 0, 48, .inl (yr'_5 3))), (y 7, .inl (cA 0, 4, .inl (yd 6))), (ca, .inl (cA 0, 3, .inl (upd cc 0 ((cc 0) + 1))))]) [14, 15, 0, 1, 2, 3, 4, 5, 6, 7, 8, 9, 10, 11, 12, 13] (by decide) rfl
              clear hPc hDc hFc hP1 hD1 hk1 hz1
              have hw_53 := hw
              obtain rfl := hw
              refine z_top (y := (nI t1)) hI1.1.1.2.2.1 ?_
              refine lv_if_ne (tgt := 292) hx hb dL_ticks_187 (by decide) (fun c_54 => ?_) (fun c_54 => ?_)
              · have c_54 := mt (nI_eq (a := t1) (b := 0) (by omega) (by omega)).mpr c_54
                refine lv_iconst (v := 0) hx hb dL_ticks_292 (by decide) ?_
                exfalso; omega
              · have c_54 := (nI_eq (a := t1) (b := 0) (by omega) (by omega)).mp c_54
                refine lv_goto (tgt := 288) hx hb dL_ticks_190 (by decide) ?_
                refine lv_iconst (v := 1) hx hb dL_ticks_288 (by decide) ?_
                refine lv_goto (tgt := 293) hx hb dL_ticks_289 (by decide) ?_
                exact kJ _ _ _ _ ⟨rfl, hP, hD, hS, lv_sub hl [0, 1, 2, 3, 4, 5, 6, 7, 8, 9, 10] rfl⟩
    · skip
      refine lv_iload hx hb dL_ticks_65 (lv_at hl 0 rfl) ?_
      refine lv_if_lt (tgt := 123) hx hb dL_ticks_67 (by decide) (fun c_55 => ?_) (fun c_55 => ?_)
      · have c_55 := (nI_ltI (a := c9) (b := 0) (by omega) (by omega)).mp c_55
        refine lv_iconst (v := 0) hx hb dL_ticks_123 (by decide) ?_
        exfalso; omega
      · have c_55 := mt (nI_ltI (a := c9) (b := 0) (by omega) (by omega)).mpr c_55
        refine lv_iload hx hb dL_ticks_70 (lv_at hl 0 rfl) ?_
        refine lv_iconst (v := 2) hx hb dL_ticks_72 (by decide) ?_
        refine lv_icmp_gt (tgt := 123) hx hb dL_ticks_73 (by decide) (fun c_56 => ?_) (fun c_56 => ?_)
        · have c_56 := (nI_ltI (a := 2) (b := c9) (by omega) (by omega)).mp c_56
          refine lv_iconst (v := 0) hx hb dL_ticks_123 (by decide) ?_
          exfalso; omega
        · have c_56 := mt (nI_ltI (a := 2) (b := c9) (by omega) (by omega)).mpr c_56
          refine lv_iload_n hx hb dL_ticks_76 rfl (lv_at hl 3 rfl) ?_
          refine lv_if_eq (tgt := 101) hx hb dL_ticks_77 (by decide) (fun c_57 => ?_) (fun c_57 => ?_)
          · have c_57 := of_bI0 c_57
            refine lv_aload_n hx hb dL_ticks_101 rfl (lv_at hl 5 rfl) ?_
            refine lv_iconst (v := 0) hx hb dL_ticks_102 (by decide) ?_
            have hPc := hP.sub (ws' := [(o, .inr (4, [.ref F, .ref G, .int (nI qv), .int (nw + 1), .int se'_5, .ref (pa 0), .ref an, .ref ln])), cE x xv'_5, (x 9, .inr (3, [.ref (x 10), .ref (x 11), .ref (x 12), .ref (x 13), .int (nI xf), .int (nI QX'_5.1)]))]) [0, 1, 2] rfl
            have hDc := hD.sub (ws' := [(o, .inr (4, [.ref F, .ref G, .int (nI qv), .int (nw + 1), .int se'_5, .ref (pa 0), .ref an, .ref ln])), cE x xv'_5, (x 9, .inr (3, [.ref (x 10), .ref (x 11), .ref (x 12), .ref (x 13), .int (nI xf), .int (nI QX'_5.1)]))]) [0, 1, 2] (by decide) rfl
            have hFc := va_free (wc := [(o, .inr (4, [.ref F, .ref G, .int (nI qv), .int (nw + 1), .int se'_5, .ref (pa 0), .ref an, .ref ln])), cE x xv'_5, (x 9, .inr (3, [.ref (x 10), .ref (x 11), .ref (x 12), .ref (x 13), .int (nI xf), .int (nI QX'_5.1)]))]) hD hS hA [0, 1, 2] rfl
            refine va_calli (va_runV (As := [.int 0]) (rest := []) ⟨hx, hb, hml, hown, hts⟩ (c_X3_waiting_k l D cA H.size o F G (nI qv) (nw + 1) se'_5 pa an ln x (y 0) 0 xv'_5 xf QX'_5 (by first | exact he | exact en_flip he | exact en_01 he | exact en_10 he)) (cwV 1 hts gL_ticks_X3_waiting rfl rfl rfl (by decide +kernel) ⟨Nat.le_of_ble_eq_true rfl, Nat.le_of_ble_eq_true rfl⟩) ⟨zU_blind, va_recv hK hPc (ci := 4) (q0 := 0) rfl rfl, fun U hU hW => ⟨rfl, zU_call hU hPc hW.alike hK hDc⟩⟩ rfl rfl hl.1 rfl (lv_room (Nat.le_of_ble_eq_true rfl)) dL_ticks_103 ⟨(Nat.zero_le _), (Nat.zero_le _)⟩) hS (fun q _ h => hFc q h) hFc (fun zr u t H1 locs ht hvm hw hB hz1 hk1 hS => ?_)
            obtain ⟨hP1, hD1⟩ := hB
            rw [ht] at hP1
            obtain ⟨hP, hD⟩ := va_join (wr := [(x 10, .inl (cA 0, 12, .inl (xr'_5 0))), (x 11, .inl (cA 0, 12, .inl (xr'_5 1))), (x 12, .inl (cA 0, 12, .inl (xr'_5 2))), (x 13, .inl (cA 0, 48, .inl (xr'_5 3))), (x 7, .inl (cA 0, 4, .inl (xd 6))), cE y yv'_5, (y 9, .inr (3, [.ref (y 10), .ref (y 11), .ref (y 12), .ref (y 13), .int (nI yf), .int (nI QY'_5.1)])), (y 10, .inl (cA 0, 12, .inl (yr'_5 0))), (y 11, .inl (cA 0, 12, .inl (yr'_5 1))), (y 12, .inl (cA 0, 12, .inl (yr'_5 2))), (y 13, .inl (cA 0, 48, .inl (yr'_5 3))), (y 7, .inl (cA 0, 4, .inl (yd 6))), (ca, .inl (cA 0, 3, .inl (upd cc 0 ((cc 0) + 1))))]) (w1 := [(o, .inr (4, [.ref F, .ref G, .int (nI qv), .int (nw + 1), .int se'_5, .ref (pa 0), .ref an, .ref ln])), cE x xv'_5, (x 9, .inr (3, [.ref (x 10), .ref (x 11), .ref (x 12), .ref (x 13), .int (nI xf), .int (nI QX'_5.1)]))]) hP hD [0, 1, 2] [3, 4, 5, 6, 7, 8, 9, 10, 11, 12, 13, 14, 15] rfl rfl (by decide) (by decide) hk1 hFc hP1 hD1
            generalize H1 = H at hP hS ⊢
            have hP := hP.sub (ws' := [(o, .inr (4, [.ref F, .ref G, .int (nI qv), .int (nw + 1), .int se'_5, .ref (pa 0), .ref an, .ref ln])), cE x xv'_5, (x 9, .inr (3, [.ref (x 10), .ref (x 11), .ref (x 12), .ref (x 13), .int (nI xf), .int (nI QX'_5.1)])), (x 10, .inl (cA 0, 12, .inl (xr'_5 0))), (x 11, .inl (cA 0, 12, .inl (xr'_5 1))), (x 12, .inl (cA 0, 12, .inl (xr'_5 2))), (x 13, .inl (cA 0, 48, .inl (xr'_5 3))), (x 7, .inl (cA 0, 4, .inl (xd 6))), cE y yv'_5, (y 9, .inr (3, [.ref (y 10), .ref (y 11), .ref (y 12), .ref (y 13), .int (nI yf), .int (nI QY'_5.1)])), (y 10, .inl (cA 0, 12, .inl (yr'_5 0))), (y 11, .inl (cA 0, 12, .inl (yr'_5 1))), (y 12, .inl (cA 0, 12, .inl (yr'_5 2))), (y 13, .inl (cA 0, 48, .inl (yr'_5 3))), (y 7, .inl (cA 0, 4, .inl (yd 6))), (ca, .inl (cA 0, 3, .inl (upd cc 0 ((cc 0) + 1))))]) [13, 14, 15, 0, 1, 2, 3, 4, 5, 6, 7, 8, 9, 10, 11, 12] rfl
            have hD := hD.sub (ws' := [(o, .inr (4, [.ref F, .ref G, .int (nI qv), .int (nw + 1), .int se'_5, .ref (pa 0), .ref an, .ref ln])), cE x xv'_5, (x 9, .inr (3, [.ref (x 10), .ref (x 11), .ref (x 12), .ref (x 13), .int (nI xf), .int (nI QX'_5.1)])), (x 10, .inl (cA 0, 12, .inl (xr'_5 0))), (x 11, .inl (cA 0, 12, .inl (xr'_5 1))), (x 12, .inl (cA 0, 12, .inl (xr'_5 2))), (x 13, .inl (cA 0, 48, .inl (xr'_5 3))), (x 7, .inl (cA 0, 4, .inl (xd 6))), cE y yv'_5, (y 9, .inr (3, [.ref (y 10), .ref (y 11), .ref (y 12), .ref (y 13), .int (nI yf), .int (nI QY'_5.1)])), (y 10, .inl (cA 0, 12, .inl (yr'_5 0))), (y 11, .inl (cA 0, 12, .inl (yr'_5 1))), (y 12, .inl (cA 0, 12, .inl (yr'_5 2))), (y 13, .inl (cA 0, 48, .inl (yr'_5 3))), (y 7, .inl (cA 0, 4, .inl (yd 6))), (ca, .inl (cA 0, 3, .inl (upd cc 0 ((cc 0) + 1))))]) [13, 14, 15, 0, 1, 2, 3, 4, 5, 6, 7, 8, 9, 10, 11, 12] (by decide) rfl
            clear hPc hDc hFc hP1 hD1 hk1 hz1
            have hw_58 := hw
            obtain rfl := hw
            refine lv_aload_n hx hb dL_ticks_106 rfl (lv_at hl 5 rfl) ?_
            refine lv_iconst (v := 1) hx hb dL_ticks_107 (by decide) ?_
            have hPc := hP.sub (ws' := [(o, .inr (4, [.ref F, .ref G, .int (nI qv), .int (nw + 1), .int se'_5, .ref (pa 0), .ref an, .ref ln])), cE y yv'_5, (y 9, .inr (3, [.ref (y 10), .ref (y 11), .ref (y 12), .ref (y 13), .int (nI yf), .int (nI QY'_5.1)]))]) [0, 8, 9] rfl
            have hDc := hD.sub (ws' := [(o, .inr (4, [.ref F, .ref G, .int (nI qv), .int (nw + 1), .int se'_5, .ref (pa 0), .ref an, .ref ln])), cE y yv'_5, (y 9, .inr (3, [.ref (y 10), .ref (y 11), .ref (y 12), .ref (y 13), .int (nI yf), .int (nI QY'_5.1)]))]) [0, 8, 9] (by decide) rfl
            have hFc := va_free (wc := [(o, .inr (4, [.ref F, .ref G, .int (nI qv), .int (nw + 1), .int se'_5, .ref (pa 0), .ref an, .ref ln])), cE y yv'_5, (y 9, .inr (3, [.ref (y 10), .ref (y 11), .ref (y 12), .ref (y 13), .int (nI yf), .int (nI QY'_5.1)]))]) hD hS hA [0, 8, 9] rfl
            refine va_calli (va_runV (As := [.int 1]) (rest := [.int (nI QX'_5.1)]) ⟨hx, hb, hml, hown, hts⟩ (c_X3_waiting_k l D cA H.size o F G (nI qv) (nw + 1) se'_5 pa an ln y (x 0) 1 yv'_5 yf QY'_5 (by first | exact he | exact en_flip he | exact en_01 he | exact en_10 he)) (cwV 1 hts gL_ticks_X3_waiting rfl rfl rfl (by decide +kernel) ⟨Nat.le_of_ble_eq_true rfl, Nat.le_of_ble_eq_true rfl⟩) ⟨zU_blind, va_recv hK hPc (ci := 4) (q0 := 0) rfl rfl, fun U hU hW => ⟨rfl, zU_call hU hPc hW.alike hK hDc⟩⟩ rfl rfl hl.1 rfl (lv_room (Nat.le_of_ble_eq_true rfl)) dL_ticks_108 ⟨(Nat.zero_le _), (Nat.zero_le _)⟩) hS (fun q _ h => hFc q h) hFc (fun zr u t H1 locs ht hvm hw hB hz1 hk1 hS => ?_)
            obtain ⟨hP1, hD1⟩ := hB
            rw [ht] at hP1
            obtain ⟨hP, hD⟩ := va_join (wr := [cE x xv'_5, (x 9, .inr (3, [.ref (x 10), .ref (x 11), .ref (x 12), .ref (x 13), .int (nI xf), .int (nI QX'_5.1)])), (x 10, .inl (cA 0, 12, .inl (xr'_5 0))), (x 11, .inl (cA 0, 12, .inl (xr'_5 1))), (x 12, .inl (cA 0, 12, .inl (xr'_5 2))), (x 13, .inl (cA 0, 48, .inl (xr'_5 3))), (x 7, .inl (cA 0, 4, .inl (xd 6))), (y 10, .inl (cA 0, 12, .inl (yr'_5 0))), (y 11, .inl (cA 0, 12, .inl (yr'_5 1))), (y 12, .inl (cA 0, 12, .inl (yr'_5 2))), (y 13, .inl (cA 0, 48, .inl (yr'_5 3))), (y 7, .inl (cA 0, 4, .inl (yd 6))), (ca, .inl (cA 0, 3, .inl (upd cc 0 ((cc 0) + 1))))]) (w1 := [(o, .inr (4, [.ref F, .ref G, .int (nI qv), .int (nw + 1), .int se'_5, .ref (pa 0), .ref an, .ref ln])), cE y yv'_5, (y 9, .inr (3, [.ref (y 10), .ref (y 11), .ref (y 12), .ref (y 13), .int (nI yf), .int (nI QY'_5.1)]))]) hP hD [0, 8, 9] [1, 2, 3, 4, 5, 6, 7, 10, 11, 12, 13, 14, 15] rfl rfl (by decide) (by decide) hk1 hFc hP1 hD1
            generalize H1 = H at hP hS ⊢
            have hP := hP.sub (ws' := [(o, .inr (4, [.ref F, .ref G, .int (nI qv), .int (nw + 1), .int se'_5, .ref (pa 0), .ref an, .ref ln])), cE x xv'_5, (x 9, .inr (3, [.ref (x 10), .ref (x 11), .ref (x 12), .ref (x 13), .int (nI xf), .int (nI QX'_5.1)])), (x 10, .inl (cA 0, 12, .inl (xr'_5 0))), (x 11, .inl (cA 0, 12, .inl (xr'_5 1))), (x 12, .inl (cA 0, 12, .inl (xr'_5 2))), (x 13, .inl (cA 0, 48, .inl (xr'_5 3))), (x 7, .inl (cA 0, 4, .inl (xd 6))), cE y yv'_5, (y 9, .inr (3, [.ref (y 10), .ref (y 11), .ref (y 12), .ref (y 13), .int (nI yf), .int (nI QY'_5.1)])), (y 10, .inl (cA 0, 12, .inl (yr'_5 0))), (y 11, .inl (cA 0, 12, .inl (yr'_5 1))), (y 12, .inl (cA 0, 12, .inl (yr'_5 2))), (y 13, .inl (cA 0, 48, .inl (yr'_5 3))), (y 7, .inl (cA 0, 4, .inl (yd 6))), (ca, .inl (cA 0, 3, .inl (upd cc 0 ((cc 0) + 1))))]) [13, 0, 1, 2, 3, 4, 5, 6, 14, 15, 7, 8, 9, 10, 11, 12] rfl
            have hD := hD.sub (ws' := [(o, .inr (4, [.ref F, .ref G, .int (nI qv), .int (nw + 1), .int se'_5, .ref (pa 0), .ref an, .ref ln])), cE x xv'_5, (x 9, .inr (3, [.ref (x 10), .ref (x 11), .ref (x 12), .ref (x 13), .int (nI xf), .int (nI QX'_5.1)])), (x 10, .inl (cA 0, 12, .inl (xr'_5 0))), (x 11, .inl (cA 0, 12, .inl (xr'_5 1))), (x 12, .inl (cA 0, 12, .inl (xr'_5 2))), (x 13, .inl (cA 0, 48, .inl (xr'_5 3))), (x 7, .inl (cA 0, 4, .inl (xd 6))), cE y yv'_5, (y 9, .inr (3, [.ref (y 10), .ref (y 11), .ref (y 12), .ref (y 13), .int (nI yf), .int (nI QY'_5.1)])), (y 10, .inl (cA 0, 12, .inl (yr'_5 0))), (y 11, .inl (cA 0, 12, .inl (yr'_5 1))), (y 12, .inl (cA 0, 12, .inl (yr'_5 2))), (y 13, .inl (cA 0, 48, .inl (yr'_5 3))), (y 7, .inl (cA 0, 4, .inl (yd 6))), (ca, .inl (cA 0, 3, .inl (upd cc 0 ((cc 0) + 1))))]) [13, 0, 1, 2, 3, 4, 5, 6, 14, 15, 7, 8, 9, 10, 11, 12] (by decide) rfl
            clear hPc hDc hFc hP1 hD1 hk1 hz1
            have hw_59 := hw
            obtain rfl := hw
            refine lv_iadd hx hb dL_ticks_111 ?_
            refine z_top (y := (nI (QX'_5.1 + QY'_5.1))) (z_add QX'_5.1 QY'_5.1) ?_
            refine lv_iload_n hx hb dL_ticks_112 rfl (lv_at hl 4 rfl) ?_
            refine lv_isub hx hb dL_ticks_113 ?_
            refine z_top (y := (nI ((QX'_5.1 + QY'_5.1) - (QX.1 + QY.1)))) (z_sub (by omega)) ?_
            refine lv_iload hx hb dL_ticks_114 (lv_at hl 0 rfl) ?_
            refine lv_icmp_ne (tgt := 123) hx hb dL_ticks_116 (by decide) (fun c_60 => ?_) (fun c_60 => ?_)
            · have c_60 := mt (nI_eq (a := (QX'_5.1 + QY'_5.1) - (QX.1 + QY.1)) (b := c9) (by omega) (by omega)).mpr c_60
              refine lv_iconst (v := 0) hx hb dL_ticks_123 (by decide) ?_
              exfalso; omega
            · have c_60 := (nI_eq (a := (QX'_5.1 + QY'_5.1) - (QX.1 + QY.1)) (b := c9) (by omega) (by omega)).mp c_60
              refine lv_iconst (v := 1) hx hb dL_ticks_119 (by decide) ?_
              refine lv_goto (tgt := 124) hx hb dL_ticks_120 (by decide) ?_
              exact kJ _ _ _ _ ⟨rfl, hP, hD, hS, lv_sub hl [0, 1, 2, 3, 4, 5, 6] rfl⟩
          · have c_57 := of_bI1 c_57
            refine lv_aload_n hx hb dL_ticks_80 rfl (lv_at hl 5 rfl) ?_
            refine lv_iconst (v := 0) hx hb dL_ticks_81 (by decide) ?_
            have hPc := hP.sub (ws' := [(o, .inr (4, [.ref F, .ref G, .int (nI qv), .int (nw + 1), .int se'_5, .ref (pa 0), .ref an, .ref ln])), cE x xv'_5, (x 9, .inr (3, [.ref (x 10), .ref (x 11), .ref (x 12), .ref (x 13), .int (nI xf), .int (nI QX'_5.1)]))]) [0, 1, 2] rfl
            have hDc := hD.sub (ws' := [(o, .inr (4, [.ref F, .ref G, .int (nI qv), .int (nw + 1), .int se'_5, .ref (pa 0), .ref an, .ref ln])), cE x xv'_5, (x 9, .inr (3, [.ref (x 10), .ref (x 11), .ref (x 12), .ref (x 13), .int (nI xf), .int (nI QX'_5.1)]))]) [0, 1, 2] (by decide) rfl
            have hFc := va_free (wc := [(o, .inr (4, [.ref F, .ref G, .int (nI qv), .int (nw + 1), .int se'_5, .ref (pa 0), .ref an, .ref ln])), cE x xv'_5, (x 9, .inr (3, [.ref (x 10), .ref (x 11), .ref (x 12), .ref (x 13), .int (nI xf), .int (nI QX'_5.1)]))]) hD hS hA [0, 1, 2] rfl
            refine va_calli (va_runV (As := [.int 0]) (rest := []) ⟨hx, hb, hml, hown, hts⟩ (c_X3_waiting_k l D cA H.size o F G (nI qv) (nw + 1) se'_5 pa an ln x (y 0) 0 xv'_5 xf QX'_5 (by first | exact he | exact en_flip he | exact en_01 he | exact en_10 he)) (cwV 1 hts gL_ticks_X3_waiting rfl rfl rfl (by decide +kernel) ⟨Nat.le_of_ble_eq_true rfl, Nat.le_of_ble_eq_true rfl⟩) ⟨zU_blind, va_recv hK hPc (ci := 4) (q0 := 0) rfl rfl, fun U hU hW => ⟨rfl, zU_call hU hPc hW.alike hK hDc⟩⟩ rfl rfl hl.1 rfl (lv_room (Nat.le_of_ble_eq_true rfl)) dL_ticks_82 ⟨(Nat.zero_le _), (Nat.zero_le _)⟩) hS (fun q _ h => hFc q h) hFc (fun zr u t H1 locs ht hvm hw hB hz1 hk1 hS => ?_)
            obtain ⟨hP1, hD1⟩ := hB
            rw [ht] at hP1
            obtain ⟨hP, hD⟩ := va_join (wr := [(x 10, .inl (cA 0, 12, .inl (xr'_5 0))), (x 11, .inl (cA 0, 12, .inl (xr'_5 1))), (x 12, .inl (cA 0, 12, .inl (xr'_5 2))), (x 13, .inl (cA 0, 48, .inl (xr'_5 3))), (x 7, .inl (cA 0, 4, .inl (xd 6))), cE y yv'_5, (y 9, .inr (3, [.ref (y 10), .ref (y 11), .ref (y 12), .ref (y 13), .int (nI yf), .int (nI QY'_5.1)])), (y 10, .inl (cA 0, 12, .inl (yr'_5 0))), (y 11, .inl (cA 0, 12, .inl (yr'_5 1))), (y 12, .inl (cA 0, 12, .inl (yr'_5 2))), (y 13, .inl (cA 0, 48, .inl (yr'_5 3))), (y 7, .inl (cA 0, 4, .inl (yd 6))), (ca, .inl (cA 0, 3, .inl (upd cc 0 ((cc 0) + 1))))]) (w1 := [(o, .inr (4, [.ref F, .ref G, .int (nI qv), .int (nw + 1), .int se'_5, .ref (pa 0), .ref an, .ref ln])), cE x xv'_5, (x 9, .inr (3, [.ref (x 10), .ref (x 11), .ref (x 12), .ref (x 13), .int (nI xf), .int (nI QX'_5.1)]))]) hP hD [0, 1, 2] [3, 4, 5, 6, 7, 8, 9, 10, 11, 12, 13, 14, 15] rfl rfl (by decide) (by decide) hk1 hFc hP1 hD1
            generalize H1 = H at hP hS ⊢
            have hP := hP.sub (ws' := [(o, .inr (4, [.ref F, .ref G, .int (nI qv), .int (nw + 1), .int se'_5, .ref (pa 0), .ref an, .ref ln])), cE x xv'_5, (x 9, .inr (3, [.ref (x 10), .ref (x 11), .ref (x 12), .ref (x 13), .int (nI xf), .int (nI QX'_5.1)])), (x 10, .inl (cA 0, 12, .inl (xr'_5 0))), (x 11, .inl (cA 0, 12, .inl (xr'_5 1))), (x 12, .inl (cA 0, 12, .inl (xr'_5 2))), (x 13, .inl (cA 0, 48, .inl (xr'_5 3))), (x 7, .inl (cA 0, 4, .inl (xd 6))), cE y yv'_5, (y 9, .inr (3, [.ref (y 10), .ref (y 11), .ref (y 12), .ref (y 13), .int (nI yf), .int (nI QY'_5.1)])), (y 10, .inl (cA 0, 12, .inl (yr'_5 0))), (y 11, .inl (cA 0, 12, .inl (yr'_5 1))), (y 12, .inl (cA 0, 12, .inl (yr'_5 2))), (y 13, .inl (cA 0, 48, .inl (yr'_5 3))), (y 7, .inl (cA 0, 4, .inl (yd 6))), (ca, .inl (cA 0, 3, .inl (upd cc 0 ((cc 0) + 1))))]) [13, 14, 15, 0, 1, 2, 3, 4, 5, 6, 7, 8, 9, 10, 11, 12] rfl
            have hD := hD.sub (ws' := [(o, .inr (4, [.ref F, .ref G, .int (nI qv), .int (nw + 1), .int se'_5, .ref (pa 0), .ref an, .ref ln])), cE x xv'_5, (x 9, .inr (3, [.ref (x 10), .ref (x 11), .ref (x 12), .ref (x 13), .int (nI xf), .int (nI QX'_5.1)])), (x 10, .inl (cA 0, 12, .inl (xr'_5 0))), (x 11, .inl (cA 0, 12, .inl (xr'_5 1))), (x 12, .inl (cA 0, 12, .inl (xr'_5 2))), (x 13, .inl (cA 0, 48, .inl (xr'_5 3))), (x 7, .inl (cA 0, 4, .inl (xd 6))), cE y yv'_5, (y 9, .inr (3, [.ref (y 10), .ref (y 11), .ref (y 12), .ref (y 13), .int (nI yf), .int (nI QY'_5.1)])), (y 10, .inl (cA 0, 12, .inl (yr'_5 0))), (y 11, .inl (cA 0, 12, .inl (yr'_5 1))), (y 12, .inl (cA 0, 12, .inl (yr'_5 2))), (y 13, .inl (cA 0, 48, .inl (yr'_5 3))), (y 7, .inl (cA 0, 4, .inl (yd 6))), (ca, .inl (cA 0, 3, .inl (upd cc 0 ((cc 0) + 1))))]) [13, 14, 15, 0, 1, 2, 3, 4, 5, 6, 7, 8, 9, 10, 11, 12] (by decide) rfl
            clear hPc hDc hFc hP1 hD1 hk1 hz1
            have hw_61 := hw
            obtain rfl := hw
            refine lv_aload_n hx hb dL_ticks_85 rfl (lv_at hl 5 rfl) ?_
            refine lv_iconst (v := 1) hx hb dL_ticks_86 (by decide) ?_
            have hPc := hP.sub (ws' := [(o, .inr (4, [.ref F, .ref G, .int (nI qv), .int (nw + 1), .int se'_5, .ref (pa 0), .ref an, .ref ln])), cE y yv'_5, (y 9, .inr (3, [.ref (y 10), .ref (y 11), .ref (y 12), .ref (y 13), .int (nI yf), .int (nI QY'_5.1)]))]) [0, 8, 9] rfl
            have hDc := hD.sub (ws' := [(o, .inr (4, [.ref F, .ref G, .int (nI qv), .int (nw + 1), .int se'_5, .ref (pa 0), .ref an, .ref ln])), cE y yv'_5, (y 9, .inr (3, [.ref (y 10), .ref (y 11), .ref (y 12), .ref (y 13), .int (nI yf), .int (nI QY'_5.1)]))]) [0, 8, 9] (by decide) rfl
            have hFc := va_free (wc := [(o, .inr (4, [.ref F, .ref G, .int (nI qv), .int (nw + 1), .int se'_5, .ref (pa 0), .ref an, .ref ln])), cE y yv'_5, (y 9, .inr (3, [.ref (y 10), .ref (y 11), .ref (y 12), .ref (y 13), .int (nI yf), .int (nI QY'_5.1)]))]) hD hS hA [0, 8, 9] rfl
            refine va_calli (va_runV (As := [.int 1]) (rest := [.int (nI QX'_5.1)]) ⟨hx, hb, hml, hown, hts⟩ (c_X3_waiting_k l D cA H.size o F G (nI qv) (nw + 1) se'_5 pa an ln y (x 0) 1 yv'_5 yf QY'_5 (by first | exact he | exact en_flip he | exact en_01 he | exact en_10 he)) (cwV 1 hts gL_ticks_X3_waiting rfl rfl rfl (by decide +kernel) ⟨Nat.le_of_ble_eq_true rfl, Nat.le_of_ble_eq_true rfl⟩) ⟨zU_blind, va_recv hK hPc (ci := 4) (q0 := 0) rfl rfl, fun U hU hW => ⟨rfl, zU_call hU hPc hW.alike hK hDc⟩⟩ rfl rfl hl.1 rfl (lv_room (Nat.le_of_ble_eq_true rfl)) dL_ticks_87 ⟨(Nat.zero_le _), (Nat.zero_le _)⟩) hS (fun q _ h => hFc q h) hFc (fun zr u t H1 locs ht hvm hw hB hz1 hk1 hS => ?_)
            obtain ⟨hP1, hD1⟩ := hB
            rw [ht] at hP1
            obtain ⟨hP, hD⟩ := va_join (wr := [cE x xv'_5, (x 9, .inr (3, [.ref (x 10), .ref (x 11), .ref (x 12), .ref (x 13), .int (nI xf), .int (nI QX'_5.1)])), (x 10, .inl (cA 0, 12, .inl (xr'_5 0))), (x 11, .inl (cA 0, 12, .inl (xr'_5 1))), (x 12, .inl (cA 0, 12, .inl (xr'_5 2))), (x 13, .inl (cA 0, 48, .inl (xr'_5 3))), (x 7, .inl (cA 0, 4, .inl (xd 6))), (y 10, .inl (cA 0, 12, .inl (yr'_5 0))), (y 11, .inl (cA 0, 12, .inl (yr'_5 1))), (y 12, .inl (cA 0, 12, .inl (yr'_5 2))), (y 13, .inl (cA 0, 48, .inl (yr'_5 3))), (y 7, .inl (cA 0, 4, .inl (yd 6))), (ca, .inl (cA 0, 3, .inl (upd cc 0 ((cc 0) + 1))))]) (w1 := [(o, .inr (4, [.ref F, .ref G, .int (nI qv), .int (nw + 1), .int se'_5, .ref (pa 0), .ref an, .ref ln])), cE y yv'_5, (y 9, .inr (3, [.ref (y 10), .ref (y 11), .ref (y 12), .ref (y 13), .int (nI yf), .int (nI QY'_5.1)]))]) hP hD [0, 8, 9] [1, 2, 3, 4, 5, 6, 7, 10, 11, 12, 13, 14, 15] rfl rfl (by decide) (by decide) hk1 hFc hP1 hD1
            generalize H1 = H at hP hS ⊢
            have hP := hP.sub (ws' := [(o, .inr (4, [.ref F, .ref G, .int (nI qv), .int (nw + 1), .int se'_5, .ref (pa 0), .ref an, .ref ln])), cE x xv'_5, (x 9, .inr (3, [.ref (x 10), .ref (x 11), .ref (x 12), .ref (x 13), .int (nI xf), .int (nI QX'_5.1)])), (x 10, .inl (cA 0, 12, .inl (xr'_5 0))), (x 11, .inl (cA 0, 12, .inl (xr'_5 1))), (x 12, .inl (cA 0, 12, .inl (xr'_5 2))), (x 13, .inl (cA 0, 48, .inl (xr'_5 3))), (x 7, .inl (cA 0, 4, .inl (xd 6))), cE y yv'_5, (y 9, .inr (3, [.ref (y 10), .ref (y 11), .ref (y 12), .ref (y 13), .int (nI yf), .int (nI QY'_5.1)])), (y 10, .inl (cA 0, 12, .inl (yr'_5 0))), (y 11, .inl (cA 0, 12, .inl (yr'_5 1))), (y 12, .inl (cA 0, 12, .inl (yr'_5 2))), (y 13, .inl (cA 0, 48, .inl (yr'_5 3))), (y 7, .inl (cA 0, 4, .inl (yd 6))), (ca, .inl (cA 0, 3, .inl (upd cc 0 ((cc 0) + 1))))]) [13, 0, 1, 2, 3, 4, 5, 6, 14, 15, 7, 8, 9, 10, 11, 12] rfl
            have hD := hD.sub (ws' := [(o, .inr (4, [.ref F, .ref G, .int (nI qv), .int (nw + 1), .int se'_5, .ref (pa 0), .ref an, .ref ln])), cE x xv'_5, (x 9, .inr (3, [.ref (x 10), .ref (x 11), .ref (x 12), .ref (x 13), .int (nI xf), .int (nI QX'_5.1)])), (x 10, .inl (cA 0, 12, .inl (xr'_5 0))), (x 11, .inl (cA 0, 12, .inl (xr'_5 1))), (x 12, .inl (cA 0, 12, .inl (xr'_5 2))), (x 13, .inl (cA 0, 48, .inl (xr'_5 3))), (x 7, .inl (cA 0, 4, .inl (xd 6))), cE y yv'_5, (y 9, .inr (3, [.ref (y 10), .ref (y 11), .ref (y 12), .ref (y 13), .int (nI yf), .int (nI QY'_5.1)])), (y 10, .inl (cA 0, 12, .inl (yr'_5 0))), (y 11, .inl (cA 0, 12, .inl (yr'_5 1))), (y 12, .inl (cA 0, 12, .inl (yr'_5 2))), (y 13, .inl (cA 0, 48, .inl (yr'_5 3))), (y 7, .inl (cA 0, 4, .inl (yd 6))), (ca, .inl (cA 0, 3, .inl (upd cc 0 ((cc 0) + 1))))]) [13, 0, 1, 2, 3, 4, 5, 6, 14, 15, 7, 8, 9, 10, 11, 12] (by decide) rfl
            clear hPc hDc hFc hP1 hD1 hk1 hz1
            have hw_62 := hw
            obtain rfl := hw
            refine lv_iadd hx hb dL_ticks_90 ?_
            refine z_top (y := (nI (QX'_5.1 + QY'_5.1))) (z_add QX'_5.1 QY'_5.1) ?_
            refine lv_iload_n hx hb dL_ticks_91 rfl (lv_at hl 4 rfl) ?_
            refine lv_isub hx hb dL_ticks_92 ?_
            refine z_top (y := (nI ((QX'_5.1 + QY'_5.1) - (QX.1 + QY.1)))) (z_sub (by omega)) ?_
            refine lv_iload hx hb dL_ticks_93 (lv_at hl 0 rfl) ?_
            refine lv_icmp_gt (tgt := 123) hx hb dL_ticks_95 (by decide) (fun c_63 => ?_) (fun c_63 => ?_)
            · have c_63 := (nI_ltI (a := c9) (b := (QX'_5.1 + QY'_5.1) - (QX.1 + QY.1)) (by omega) (by omega)).mp c_63
              refine lv_iconst (v := 0) hx hb dL_ticks_123 (by decide) ?_
              exfalso; omega
            · have c_63 := mt (nI_ltI (a := c9) (b := (QX'_5.1 + QY'_5.1) - (QX.1 + QY.1)) (by omega) (by omega)).mpr c_63
              refine lv_goto (tgt := 119) hx hb dL_ticks_98 (by decide) ?_
              refine lv_iconst (v := 1) hx hb dL_ticks_119 (by decide) ?_
              refine lv_goto (tgt := 124) hx hb dL_ticks_120 (by decide) ?_
              exact kJ _ _ _ _ ⟨rfl, hP, hD, hS, lv_sub hl [0, 1, 2, 3, 4, 5, 6] rfl⟩
  · skip
    refine lv_aload_n hx hb dL_ticks_12 rfl (lv_at hl 1 rfl) ?_
    refine lv_iconst (v := 0) hx hb dL_ticks_13 (by decide) ?_
    have hPc := hP.sub (ws' := [(o, .inr (4, [.ref F, .ref G, .int (nI qv), .int nw, .int se, .ref (pa 0), .ref an, .ref ln])), cE x xv, (x 9, .inr (3, [.ref (x 10), .ref (x 11), .ref (x 12), .ref (x 13), .int (nI xf), .int (nI QX.1)]))]) [0, 1, 2] rfl
    have hDc := hD.sub (ws' := [(o, .inr (4, [.ref F, .ref G, .int (nI qv), .int nw, .int se, .ref (pa 0), .ref an, .ref ln])), cE x xv, (x 9, .inr (3, [.ref (x 10), .ref (x 11), .ref (x 12), .ref (x 13), .int (nI xf), .int (nI QX.1)]))]) [0, 1, 2] (by decide) rfl
    have hFc := va_free (wc := [(o, .inr (4, [.ref F, .ref G, .int (nI qv), .int nw, .int se, .ref (pa 0), .ref an, .ref ln])), cE x xv, (x 9, .inr (3, [.ref (x 10), .ref (x 11), .ref (x 12), .ref (x 13), .int (nI xf), .int (nI QX.1)]))]) hD hS hA [0, 1, 2] rfl
    refine va_calli (va_runV (As := [.int 0]) (rest := []) ⟨hx, hb, hml, hown, hts⟩ (c_X3_waiting_k l D cA H.size o F G (nI qv) nw se pa an ln x (y 0) 0 xv xf QX (by first | exact he | exact en_flip he | exact en_01 he | exact en_10 he)) (cwV 1 hts gL_ticks_X3_waiting rfl rfl rfl (by decide +kernel) ⟨Nat.le_of_ble_eq_true rfl, Nat.le_of_ble_eq_true rfl⟩) ⟨zU_blind, va_recv hK hPc (ci := 4) (q0 := 0) rfl rfl, fun U hU hW => ⟨rfl, zU_call hU hPc hW.alike hK hDc⟩⟩ rfl rfl hl.1 rfl (lv_room (Nat.le_of_ble_eq_true rfl)) dL_ticks_14 ⟨(Nat.zero_le _), (Nat.zero_le _)⟩) hS (fun q _ h => hFc q h) hFc (fun zr u t H1 locs ht hvm hw hB hz1 hk1 hS => ?_)
    obtain ⟨hP1, hD1⟩ := hB
    rw [ht] at hP1
    obtain ⟨hP, hD⟩ := va_join (wr := [(x 10, .inl (cA 0, 12, .inl (xr 0))), (x 11, .inl (cA 0, 12, .inl (xr 1))), (x 12, .inl (cA 0, 12, .inl (xr 2))), (x 13, .inl (cA 0, 48, .inl (xr 3))), (x 7, .inl (cA 0, 4, .inl (xd 6))), cE y yv, (y 9, .inr (3, [.ref (y 10), .ref (y 11), .ref (y 12), .ref (y 13), .int (nI yf), .int (nI QY.1)])), (y 10, .inl (cA 0, 12, .inl (yr 0))), (y 11, .inl (cA 0, 12, .inl (yr 1))), (y 12, .inl (cA 0, 12, .inl (yr 2))), (y 13, .inl (cA 0, 48, .inl (yr 3))), (y 7, .inl (cA 0, 4, .inl (yd 6))), (ca, .inl (cA 0, 3, .inl cc))]) (w1 := [(o, .inr (4, [.ref F, .ref G, .int (nI qv), .int nw, .int se, .ref (pa 0), .ref an, .ref ln])), cE x xv, (x 9, .inr (3, [.ref (x 10), .ref (x 11), .ref (x 12), .ref (x 13), .int (nI xf), .int (nI QX.1)]))]) hP hD [0, 1, 2] [3, 4, 5, 6, 7, 8, 9, 10, 11, 12, 13, 14, 15] rfl rfl (by decide) (by decide) hk1 hFc hP1 hD1
    generalize H1 = H at hP hS ⊢
    have hP := hP.sub (ws' := [(o, .inr (4, [.ref F, .ref G, .int (nI qv), .int nw, .int se, .ref (pa 0), .ref an, .ref ln])), cE x xv, (x 9, .inr (3, [.ref (x 10), .ref (x 11), .ref (x 12), .ref (x 13), .int (nI xf), .int (nI QX.1)])), (x 10, .inl (cA 0, 12, .inl (xr 0))), (x 11, .inl (cA 0, 12, .inl (xr 1))), (x 12, .inl (cA 0, 12, .inl (xr 2))), (x 13, .inl (cA 0, 48, .inl (xr 3))), (x 7, .inl (cA 0, 4, .inl (xd 6))), cE y yv, (y 9, .inr (3, [.ref (y 10), .ref (y 11), .ref (y 12), .ref (y 13), .int (nI yf), .int (nI QY.1)])), (y 10, .inl (cA 0, 12, .inl (yr 0))), (y 11, .inl (cA 0, 12, .inl (yr 1))), (y 12, .inl (cA 0, 12, .inl (yr 2))), (y 13, .inl (cA 0, 48, .inl (yr 3))), (y 7, .inl (cA 0, 4, .inl (yd 6))), (ca, .inl (cA 0, 3, .inl cc))]) [13, 14, 15, 0, 1, 2, 3, 4, 5, 6, 7, 8, 9, 10, 11, 12] rfl
    have hD := hD.sub (ws' := [(o, .inr (4, [.ref F, .ref G, .int (nI qv), .int nw, .int se, .ref (pa 0), .ref an, .ref ln])), cE x xv, (x 9, .inr (3, [.ref (x 10), .ref (x 11), .ref (x 12), .ref (x 13), .int (nI xf), .int (nI QX.1)])), (x 10, .inl (cA 0, 12, .inl (xr 0))), (x 11, .inl (cA 0, 12, .inl (xr 1))), (x 12, .inl (cA 0, 12, .inl (xr 2))), (x 13, .inl (cA 0, 48, .inl (xr 3))), (x 7, .inl (cA 0, 4, .inl (xd 6))), cE y yv, (y 9, .inr (3, [.ref (y 10), .ref (y 11), .ref (y 12), .ref (y 13), .int (nI yf), .int (nI QY.1)])), (y 10, .inl (cA 0, 12, .inl (yr 0))), (y 11, .inl (cA 0, 12, .inl (yr 1))), (y 12, .inl (cA 0, 12, .inl (yr 2))), (y 13, .inl (cA 0, 48, .inl (yr 3))), (y 7, .inl (cA 0, 4, .inl (yd 6))), (ca, .inl (cA 0, 3, .inl cc))]) [13, 14, 15, 0, 1, 2, 3, 4, 5, 6, 7, 8, 9, 10, 11, 12] (by decide) rfl
    clear hPc hDc hFc hP1 hD1 hk1 hz1
    have hw_64 := hw
    obtain rfl := hw
    refine lv_bipush (v := 10) hx hb dL_ticks_17 (by decide) ?_
    refine lv_icmp_gt (tgt := 32) hx hb dL_ticks_19 (by decide) (fun c_65 => ?_) (fun c_65 => ?_)
    · have c_65 := (nI_ltI (a := 10) (b := QX.1) (by omega) (by omega)).mp c_65
      refine lv_iconst (v := 1) hx hb dL_ticks_32 (by decide) ?_
      refine lv_goto (tgt := 37) hx hb dL_ticks_33 (by decide) ?_
      exact kJ _ _ _ _ ⟨(by rw [show bI (10 < QX.1 ∨ 10 < QY.1) = 1 from bI1 (by omega)]), hP, hD, hS, lv_sub hl [0, 1, 2] rfl⟩
    · have c_65 := mt (nI_ltI (a := 10) (b := QX.1) (by omega) (by omega)).mpr c_65
      refine lv_aload_n hx hb dL_ticks_22 rfl (lv_at hl 1 rfl) ?_
      refine lv_iconst (v := 1) hx hb dL_ticks_23 (by decide) ?_
      have hPc := hP.sub (ws' := [(o, .inr (4, [.ref F, .ref G, .int (nI qv), .int nw, .int se, .ref (pa 0), .ref an, .ref ln])), cE y yv, (y 9, .inr (3, [.ref (y 10), .ref (y 11), .ref (y 12), .ref (y 13), .int (nI yf), .int (nI QY.1)]))]) [0, 8, 9] rfl
      have hDc := hD.sub (ws' := [(o, .inr (4, [.ref F, .ref G, .int (nI qv), .int nw, .int se, .ref (pa 0), .ref an, .ref ln])), cE y yv, (y 9, .inr (3, [.ref (y 10), .ref (y 11), .ref (y 12), .ref (y 13), .int (nI yf), .int (nI QY.1)]))]) [0, 8, 9] (by decide) rfl
      have hFc := va_free (wc := [(o, .inr (4, [.ref F, .ref G, .int (nI qv), .int nw, .int se, .ref (pa 0), .ref an, .ref ln])), cE y yv, (y 9, .inr (3, [.ref (y 10), .ref (y 11), .ref (y 12), .ref (y 13), .int (nI yf), .int (nI QY.1)]))]) hD hS hA [0, 8, 9] rfl
      refine va_calli (va_runV (As := [.int 1]) (rest := []) ⟨hx, hb, hml, hown, hts⟩ (c_X3_waiting_k l D cA H.size o F G (nI qv) nw se pa an ln y (x 0) 1 yv yf QY (by first | exact he | exact en_flip he | exact en_01 he | exact en_10 he)) (cwV 1 hts gL_ticks_X3_waiting rfl rfl rfl (by decide +kernel) ⟨Nat.le_of_ble_eq_true rfl, Nat.le_of_ble_eq_true rfl⟩) ⟨zU_blind, va_recv hK hPc (ci := 4) (q0 := 0) rfl rfl, fun U hU hW => ⟨rfl, zU_call hU hPc hW.alike hK hDc⟩⟩ rfl rfl hl.1 rfl (lv_room (Nat.le_of_ble_eq_true rfl)) dL_ticks_24 ⟨(Nat.zero_le _), (Nat.zero_le _)⟩) hS (fun q _ h => hFc q h) hFc (fun zr u t H1 locs ht hvm hw hB hz1 hk1 hS => ?_)
      obtain ⟨hP1, hD1⟩ := hB
      rw [ht] at hP1
      obtain ⟨hP, hD⟩ := va_join (wr := [cE x xv, (x 9, .inr (3, [.ref (x 10), .ref (x 11), .ref (x 12), .ref (x 13), .int (nI xf), .int (nI QX.1)])), (x 10, .inl (cA 0, 12, .inl (xr 0))), (x 11, .inl (cA 0, 12, .inl (xr 1))), (x 12, .inl (cA 0, 12, .inl (xr 2))), (x 13, .inl (cA 0, 48, .inl (xr 3))), (x 7, .inl (cA 0, 4, .inl (xd 6))), (y 10, .inl (cA 0, 12, .inl (yr 0))), (y 11, .inl (cA 0, 12, .inl (yr 1))), (y 12, .inl (cA 0, 12, .inl (yr 2))), (y 13, .inl (cA 0, 48, .inl (yr 3))), (y 7, .inl (cA 0, 4, .inl (yd 6))), (ca, .inl (cA 0, 3, .inl cc))]) (w1 := [(o, .inr (4, [.ref F, .ref G, .int (nI qv), .int nw, .int se, .ref (pa 0), .ref an, .ref ln])), cE y yv, (y 9, .inr (3, [.ref (y 10), .ref (y 11), .ref (y 12), .ref (y 13), .int (nI yf), .int (nI QY.1)]))]) hP hD [0, 8, 9] [1, 2, 3, 4, 5, 6, 7, 10, 11, 12, 13, 14, 15] rfl rfl (by decide) (by decide) hk1 hFc hP1 hD1
      generalize H1 = H at hP hS ⊢
      have hP := hP.sub (ws' := [(o, .inr (4, [.ref F, .ref G, .int (nI qv), .int nw, .int se, .ref (pa 0), .ref an, .ref ln])), cE x xv, (x 9, .inr (3, [.ref (x 10), .ref (x 11), .ref (x 12), .ref (x 13), .int (nI xf), .int (nI QX.1)])), (x 10, .inl (cA 0, 12, .inl (xr 0))), (x 11, .inl (cA 0, 12, .inl (xr 1))), (x 12, .inl (cA 0, 12, .inl (xr 2))), (x 13, .inl (cA 0, 48, .inl (xr 3))), (x 7, .inl (cA 0, 4, .inl (xd 6))), cE y yv, (y 9, .inr (3, [.ref (y 10), .ref (y 11), .ref (y 12), .ref (y 13), .int (nI yf), .int (nI QY.1)])), (y 10, .inl (cA 0, 12, .inl (yr 0))), (y 11, .inl (cA 0, 12, .inl (yr 1))), (y 12, .inl (cA 0, 12, .inl (yr 2))), (y 13, .inl (cA 0, 48, .inl (yr 3))), (y 7, .inl (cA 0, 4, .inl (yd 6))), (ca, .inl (cA 0, 3, .inl cc))]) [13, 0, 1, 2, 3, 4, 5, 6, 14, 15, 7, 8, 9, 10, 11, 12] rfl
      have hD := hD.sub (ws' := [(o, .inr (4, [.ref F, .ref G, .int (nI qv), .int nw, .int se, .ref (pa 0), .ref an, .ref ln])), cE x xv, (x 9, .inr (3, [.ref (x 10), .ref (x 11), .ref (x 12), .ref (x 13), .int (nI xf), .int (nI QX.1)])), (x 10, .inl (cA 0, 12, .inl (xr 0))), (x 11, .inl (cA 0, 12, .inl (xr 1))), (x 12, .inl (cA 0, 12, .inl (xr 2))), (x 13, .inl (cA 0, 48, .inl (xr 3))), (x 7, .inl (cA 0, 4, .inl (xd 6))), cE y yv, (y 9, .inr (3, [.ref (y 10), .ref (y 11), .ref (y 12), .ref (y 13), .int (nI yf), .int (nI QY.1)])), (y 10, .inl (cA 0, 12, .inl (yr 0))), (y 11, .inl (cA 0, 12, .inl (yr 1))), (y 12, .inl (cA 0, 12, .inl (yr 2))), (y 13, .inl (cA 0, 48, .inl (yr 3))), (y 7, .inl (cA 0, 4, .inl (yd 6))), (ca, .inl (cA 0, 3, .inl cc))]) [13, 0, 1, 2, 3, 4, 5, 6, 14, 15, 7, 8, 9, 10, 11, 12] (by decide) rfl
      clear hPc hDc hFc hP1 hD1 hk1 hz1
      have hw_66 := hw
      obtain rfl := hw
      refine lv_bipush (v := 10) hx hb dL_ticks_27 (by decide) ?_
      refine lv_icmp_le (tgt := 36) hx hb dL_ticks_29 (by decide) (fun c_67 => ?_) (fun c_67 => ?_)
      · have c_67 := (nI_leI (a := QY.1) (b := 10) (by omega) (by omega)).mp c_67
        refine lv_iconst (v := 0) hx hb dL_ticks_36 (by decide) ?_
        exact kJ _ _ _ _ ⟨(by rw [show bI (10 < QX.1 ∨ 10 < QY.1) = 0 from bI0 (by omega)]), hP, hD, hS, lv_sub hl [0, 1, 2] rfl⟩
      · have c_67 := mt (nI_leI (a := QY.1) (b := 10) (by omega) (by omega)).mpr c_67
        refine lv_iconst (v := 1) hx hb dL_ticks_32 (by decide) ?_
        refine lv_goto (tgt := 37) hx hb dL_ticks_33 (by decide) ?_
        exact kJ _ _ _ _ ⟨(by rw [show bI (10 < QX.1 ∨ 10 < QY.1) = 1 from bI1 (by omega)]), hP, hD, hS, lv_sub hl [0, 1, 2] rfl⟩
