set_option maxHeartbeats 4000000 in
set_option maxRecDepth 100000 in
/-- wants(o, 0, x, y, w), the end 0 -/
theorem c_wants_00 (l : Launch) (D : va_G) (cA : Nat → ClassId) (zv : Nat → Nat) (sz : Nat) (o F G : Nat) (nw se : Int32) (pa : Nat → Nat) (an ln : Nat) (x y : Nat → Nat) (vx vy : Nat) (xv yv : Nat → Int32) (xr yr : Nat → Nat → Int32) (xf yf : Nat) (QX QY : Qt) (xd yd : Nat → Nat → Int32) (B gv qv : Nat) (wa : Nat) (ww : Nat → Int32) (hl0 : l.stackTraces = false) (he : en 0 F G (x 0) (y 0)) (hvx : vx % 2 = 0) (hvb : vx < 1073741824) (hvc : vy < 1073741824) (hPW : PW B gv qv xv xd QX yv yd QY) (hWr : WRe 0 xd ww) (hWr2 : WRe 1 yd ww) : Met l yL_wants wsL_wants ({ frames := 11, cells := 1, slots := 6, locals := 174 }) (va_Pc [.ref o, .int 0, .int (nI vx), .int (nI vy), .ref wa] (zUX D cA zv sz [(o, .inr (4, [.ref F, .ref G, .int (nI qv), .int nw, .int se, .ref (pa 0), .ref an, .ref ln])), cE x xv, (x 1, .inl (cA 0, 4, .inl (xd 0))), (x 2, .inl (cA 0, 4, .inl (xd 1))), (x 3, .inl (cA 0, 4, .inl (xd 2))), (x 4, .inl (cA 0, 4, .inl (xd 3))), (x 5, .inl (cA 0, 4, .inl (xd 4))), (x 6, .inl (cA 1, 4, .inl (xd 5))), (x 7, .inl (cA 0, 4, .inl (xd 6))), (x 8, .inl (cA 0, 4, .inl (xd 7))), cE y yv, (wa, .inl (cA 0, 48, .inl ww))])) (va_Qi (fun (r : Int32) (u : ((Nat → Nat → Int32) × (Nat → Int32))) => PW (B + 1) gv qv xv u.1 QX yv yd QY ∧ WRe 0 u.1 u.2 ∧ WRe 1 yd u.2 ∧ r = 1) (fun (u : ((Nat → Nat → Int32) × (Nat → Int32))) t => zB D [(o, .inr (4, [.ref F, .ref G, .int (nI qv), .int nw, .int se, .ref (pa 0), .ref an, .ref ln])), cE x xv, (x 1, .inl (cA 0, 4, .inl (xd 0))), (x 2, .inl (cA 0, 4, .inl (xd 1))), (x 3, .inl (cA 0, 4, .inl (xd 2))), (x 4, .inl (cA 0, 4, .inl (xd 3))), (x 5, .inl (cA 0, 4, .inl (xd 4))), (x 6, .inl (cA 1, 4, .inl (xd 5))), (x 7, .inl (cA 0, 4, .inl (xd 6))), (x 8, .inl (cA 0, 4, .inl (xd 7))), cE y yv, (wa, .inl (cA 0, 48, .inl ww))] sz [(o, .inr (4, [.ref F, .ref G, .int (nI qv), .int nw, .int se, .ref (pa 0), .ref an, .ref ln])), cE x xv, (x 1, .inl (cA 0, 4, .inl (u.1 0))), (x 2, .inl (cA 0, 4, .inl (u.1 1))), (x 3, .inl (cA 0, 4, .inl (u.1 2))), (x 4, .inl (cA 0, 4, .inl (u.1 3))), (x 5, .inl (cA 0, 4, .inl (u.1 4))), (x 6, .inl (cA 1, 4, .inl (u.1 5))), (x 7, .inl (cA 0, 4, .inl (u.1 6))), (x 8, .inl (cA 0, 4, .inl (u.1 7))), cE y yv, (wa, .inl (cA 0, 48, .inl u.2))] t) (va_A [(o, .inr (4, [.ref F, .ref G, .int (nI qv), .int nw, .int se, .ref (pa 0), .ref an, .ref ln])), cE x xv, (x 1, .inl (cA 0, 4, .inl (xd 0))), (x 2, .inl (cA 0, 4, .inl (xd 1))), (x 3, .inl (cA 0, 4, .inl (xd 2))), (x 4, .inl (cA 0, 4, .inl (xd 3))), (x 5, .inl (cA 0, 4, .inl (xd 4))), (x 6, .inl (cA 1, 4, .inl (xd 5))), (x 7, .inl (cA 0, 4, .inl (xd 6))), (x 8, .inl (cA 0, 4, .inl (xd 7))), cE y yv, (wa, .inl (cA 0, 48, .inl ww))] sz)) 1 6 (va_A [(o, .inr (4, [.ref F, .ref G, .int (nI qv), .int nw, .int se, .ref (pa 0), .ref an, .ref ln])), cE x xv, (x 1, .inl (cA 0, 4, .inl (xd 0))), (x 2, .inl (cA 0, 4, .inl (xd 1))), (x 3, .inl (cA 0, 4, .inl (xd 2))), (x 4, .inl (cA 0, 4, .inl (xd 3))), (x 5, .inl (cA 0, 4, .inl (xd 4))), (x 6, .inl (cA 1, 4, .inl (xd 5))), (x 7, .inl (cA 0, 4, .inl (xd 6))), (x 8, .inl (cA 0, 4, .inl (xd 7))), cE y yv, (wa, .inl (cA 0, 48, .inl ww))] sz) := by
  refine Met.ofW (cc := cL_wants) (maxL := 15) (ret := (some .boolean)) (by decide) rfl ?_
  intro p e s m args below meth c s₁ B hml hv
  obtain ⟨rfl, ⟨hsz, hP, hK, hD0, hE0⟩, hX0⟩ := hv
  have hx := B.exec
  have hb := B.bytes
  have hr := B.returns
  have hts := atoms_spec (ws := wsL_wants) B.pre
  have hown : s.vm.findClass RL = some m.cls := findClass_of_methodNamed B.named
  have hlocks := B.notSynchronized
  subst hsz
  have hD := hD0.self (sz := s.heap.size)
  generalize hAe : va_A [(o, .inr (4, [.ref F, .ref G, .int (nI qv), .int nw, .int se, .ref (pa 0), .ref an, .ref ln])), cE x xv, (x 1, .inl (cA 0, 4, .inl (xd 0))), (x 2, .inl (cA 0, 4, .inl (xd 1))), (x 3, .inl (cA 0, 4, .inl (xd 2))), (x 4, .inl (cA 0, 4, .inl (xd 3))), (x 5, .inl (cA 0, 4, .inl (xd 4))), (x 6, .inl (cA 1, 4, .inl (xd 5))), (x 7, .inl (cA 0, 4, .inl (xd 6))), (x 8, .inl (cA 0, 4, .inl (xd 7))), cE y yv, (wa, .inl (cA 0, 48, .inl ww))] s.heap.size = A at hD hE0 hX0 ⊢
  have hA : ∀ q : Nat, s.heap.size ≤ q → A q := fun q h => by rw [← hAe]; exact Or.inr h
  have hS : va_S A s.heap s.heap [] := va_S.rf
  have hl := lv_entry ([.ref o, .int 0, .int (nI vx), .int (nI vy), .ref wa]) (n := 15) (Nat.le_of_ble_eq_true rfl)
  rw [lg_entry_eq]
  generalize (lg_sl ([.ref o, .int 0, .int (nI vx), .int (nI vy), .ref wa]) ++ List.replicate (15 - (lg_sl ([.ref o, .int 0, .int (nI vx), .int (nI vy), .ref wa])).length) Slot.unset).toArray = ls at hl ⊢
  have hl : lv_has ls 15 [(0, .ref o), (1, .int 0), (2, .int (nI vx)), (3, .int (nI vy)), (4, .ref wa)] := hl
  obtain ⟨sx, kx, tx, sy, ky, ty, hI, hbx, hby⟩ := hPW
  obtain ⟨hx0, hx2, hx3, hx7, hx10, hx4⟩ := id hI.1.1
  obtain ⟨hy0, hy2, hy3, hy7, hy10, hy4⟩ := id hI.1.2
  have hQx := hI.2.2.2.1.1
  have hQy := hI.2.2.2.1.2
  have hq1 := hI.2.2.2.2.1
  refine lv_iload_n hx hb dL_wants_0 rfl (lv_at hl 2 rfl) ?_
  refine lv_iconst (v := 2) hx hb dL_wants_1 (by decide) ?_
  refine lv_irem hx hb dL_wants_2 (by decide) ?_
  refine z_top (y := (nI (vx % 2))) (z_rem (a := vx) (d := 2) (by omega) (by omega) (by omega)) ?_
  refine z_top (y := 0) (congrArg nI hvx) ?_
  refine lv_istore (lv' := [(5, .int 0), (0, .ref o), (1, .int 0), (2, .int (nI vx)), (3, .int (nI vy)), (4, .ref wa)]) hx hb dL_wants_3 hl (by decide) rfl (fun ls hl => ?_)
  refine lv_iload_n hx hb dL_wants_5 rfl (lv_at hl 3 rfl) ?_
  refine lv_iconst (v := 2) hx hb dL_wants_6 (by decide) ?_
  refine lv_idiv hx hb dL_wants_7 (by decide) ?_
  refine z_top (y := (nI (vx / 2))) (z_div (a := vx) (d := 2) (by omega) (by omega) (by omega)) ?_
  refine lv_iconst (v := 4) hx hb dL_wants_8 (by decide) ?_
  refine lv_irem hx hb dL_wants_9 (by decide) ?_
  refine z_top (y := (nI ((vx / 2) % 4))) (z_rem (a := (vx / 2)) (d := 4) (by omega) (by omega) (by omega)) ?_
  obtain ⟨op, eop, hop⟩ := z_modv (vx / 2) (d := 4) (by decide)
  refine z_top (y := (nI op)) (congrArg nI eop) ?_
  refine lv_istore (lv' := [(6, .int (nI op)), (5, .int 0), (0, .ref o), (1, .int 0), (2, .int (nI vx)), (3, .int (nI vy)), (4, .ref wa)]) hx hb dL_wants_10 hl (by decide) rfl (fun ls hl => ?_)
  refine lv_bipush (v := 6) hx hb dL_wants_12 (by decide) ?_
  refine lv_iconst (v := 4) hx hb dL_wants_14 (by decide) ?_
  refine lv_iload hx hb dL_wants_15 (lv_at hl 1 rfl) ?_
  refine lv_imul hx hb dL_wants_17 ?_
  refine z_top (y := 0) (by decide) ?_
  refine lv_iload hx hb dL_wants_18 (lv_at hl 0 rfl) ?_
  refine lv_iadd hx hb dL_wants_20 ?_
  refine z_top (y := (nI op)) (Int32.zero_add _) ?_
  refine lv_imul hx hb dL_wants_21 ?_
  refine z_top (y := (nI (6 * op))) (z_mul 6 op) ?_
  refine lv_istore (lv' := [(7, .int (nI (6 * op))), (6, .int (nI op)), (5, .int 0), (0, .ref o), (1, .int 0), (2, .int (nI vx)), (3, .int (nI vy)), (4, .ref wa)]) hx hb dL_wants_22 hl (by decide) rfl (fun ls hl => ?_)
  refine lv_aload_n hx hb dL_wants_24 rfl (lv_at hl 3 rfl) ?_
  refine lv_iload hx hb dL_wants_25 (lv_at hl 2 rfl) ?_
  have hPc := hP.sub (ws' := [(o, .inr (4, [.ref F, .ref G, .int (nI qv), .int nw, .int se, .ref (pa 0), .ref an, .ref ln])), cE x xv]) [0, 1] rfl
  have hDc := hD.sub (ws' := [(o, .inr (4, [.ref F, .ref G, .int (nI qv), .int nw, .int se, .ref (pa 0), .ref an, .ref ln])), cE x xv]) [0, 1] (by decide) rfl
  have hFc := va_free (wc := [(o, .inr (4, [.ref F, .ref G, .int (nI qv), .int nw, .int se, .ref (pa 0), .ref an, .ref ln])), cE x xv]) hD hS hA [0, 1] rfl
  refine va_calli (va_runV (As := [.int 0]) (rest := []) ⟨hx, hb, hml, hown, hts⟩ (c_X3_state_k l D cA s.heap.size o F G (nI qv) nw se pa an ln x (y 0) 0 xv (by first | exact he | exact en_flip he | exact en_01 he | exact en_10 he)) (cwV 1 hts gL_wants_X3_state rfl rfl rfl (by decide +kernel) ⟨Nat.le_of_ble_eq_true rfl, Nat.le_of_ble_eq_true rfl⟩) ⟨zU_blind, va_recv hK hPc (ci := 4) (q0 := 0) rfl rfl, fun U hU hW => ⟨rfl, zU_call hU hPc hW.alike hK hDc⟩⟩ rfl rfl hl.1 rfl (lv_room (Nat.le_of_ble_eq_true rfl)) dL_wants_27 ⟨(Nat.zero_le _), (Nat.zero_le _)⟩) hS (fun q _ h => hFc q h) hFc (fun zr u t H1 locs ht hvm hw hB hz1 hk1 hS => ?_)
  obtain ⟨hP1, hD1⟩ := hB
  rw [ht] at hP1
  obtain ⟨hP, hD⟩ := va_join (wr := [(x 1, .inl (cA 0, 4, .inl (xd 0))), (x 2, .inl (cA 0, 4, .inl (xd 1))), (x 3, .inl (cA 0, 4, .inl (xd 2))), (x 4, .inl (cA 0, 4, .inl (xd 3))), (x 5, .inl (cA 0, 4, .inl (xd 4))), (x 6, .inl (cA 1, 4, .inl (xd 5))), (x 7, .inl (cA 0, 4, .inl (xd 6))), (x 8, .inl (cA 0, 4, .inl (xd 7))), cE y yv, (wa, .inl (cA 0, 48, .inl ww))]) (w1 := [(o, .inr (4, [.ref F, .ref G, .int (nI qv), .int nw, .int se, .ref (pa 0), .ref an, .ref ln])), cE x xv]) hP hD [0, 1] [2, 3, 4, 5, 6, 7, 8, 9, 10, 11] rfl rfl (by decide) (by decide) hk1 hFc hP1 hD1
  generalize H1 = H at hP hS ⊢
  have hP := hP.sub (ws' := [(o, .inr (4, [.ref F, .ref G, .int (nI qv), .int nw, .int se, .ref (pa 0), .ref an, .ref ln])), cE x xv, (x 1, .inl (cA 0, 4, .inl (xd 0))), (x 2, .inl (cA 0, 4, .inl (xd 1))), (x 3, .inl (cA 0, 4, .inl (xd 2))), (x 4, .inl (cA 0, 4, .inl (xd 3))), (x 5, .inl (cA 0, 4, .inl (xd 4))), (x 6, .inl (cA 1, 4, .inl (xd 5))), (x 7, .inl (cA 0, 4, .inl (xd 6))), (x 8, .inl (cA 0, 4, .inl (xd 7))), cE y yv, (wa, .inl (cA 0, 48, .inl ww))]) [10, 11, 0, 1, 2, 3, 4, 5, 6, 7, 8, 9] rfl
  have hD := hD.sub (ws' := [(o, .inr (4, [.ref F, .ref G, .int (nI qv), .int nw, .int se, .ref (pa 0), .ref an, .ref ln])), cE x xv, (x 1, .inl (cA 0, 4, .inl (xd 0))), (x 2, .inl (cA 0, 4, .inl (xd 1))), (x 3, .inl (cA 0, 4, .inl (xd 2))), (x 4, .inl (cA 0, 4, .inl (xd 3))), (x 5, .inl (cA 0, 4, .inl (xd 4))), (x 6, .inl (cA 1, 4, .inl (xd 5))), (x 7, .inl (cA 0, 4, .inl (xd 6))), (x 8, .inl (cA 0, 4, .inl (xd 7))), cE y yv, (wa, .inl (cA 0, 48, .inl ww))]) [10, 11, 0, 1, 2, 3, 4, 5, 6, 7, 8, 9] (by decide) rfl
  clear hPc hDc hFc hP1 hD1 hk1 hz1
  have hw_1 := hw
  obtain rfl := hw
  refine z_top (y := (nI sx)) hx0 ?_
  have hPc := hP.sub (ws' := []) [] rfl
  have hDc := hD.sub (ws' := []) [] (by decide) rfl
  have hFc := va_free (wc := []) hD hS hA [] rfl
  refine va_calli (va_runS (As := [.int (nI sx)]) (rest := []) ⟨hx, hb, hml, hown, hts⟩ (c_L_isShut l D cA H.size sx (by omega)) (va_cwS 1 hts gL_wants_L_isShut rfl rfl rfl (by decide +kernel) ⟨Nat.le_of_ble_eq_true rfl, Nat.le_of_ble_eq_true rfl⟩) ⟨zU_blind, fun U hU hW => ⟨rfl, zU_call hU hPc hW.alike hK hDc⟩⟩ rfl rfl hl.1 rfl (lv_room (Nat.le_of_ble_eq_true rfl)) dL_wants_30 ⟨(Nat.zero_le _), (Nat.zero_le _)⟩) hS (fun q _ h => hFc q h) hFc (fun zr u t H1 locs ht hvm hw hB hz1 hk1 hS => ?_)
  obtain ⟨hP1, hD1⟩ := hB
  rw [ht] at hP1
  obtain ⟨hP, hD⟩ := va_join (wr := [(o, .inr (4, [.ref F, .ref G, .int (nI qv), .int nw, .int se, .ref (pa 0), .ref an, .ref ln])), cE x xv, (x 1, .inl (cA 0, 4, .inl (xd 0))), (x 2, .inl (cA 0, 4, .inl (xd 1))), (x 3, .inl (cA 0, 4, .inl (xd 2))), (x 4, .inl (cA 0, 4, .inl (xd 3))), (x 5, .inl (cA 0, 4, .inl (xd 4))), (x 6, .inl (cA 1, 4, .inl (xd 5))), (x 7, .inl (cA 0, 4, .inl (xd 6))), (x 8, .inl (cA 0, 4, .inl (xd 7))), cE y yv, (wa, .inl (cA 0, 48, .inl ww))]) (w1 := []) hP hD [] [0, 1, 2, 3, 4, 5, 6, 7, 8, 9, 10, 11] rfl rfl (by decide) (by decide) hk1 hFc hP1 hD1
  generalize H1 = H at hP hS ⊢
  have hP := hP.sub (ws' := [(o, .inr (4, [.ref F, .ref G, .int (nI qv), .int nw, .int se, .ref (pa 0), .ref an, .ref ln])), cE x xv, (x 1, .inl (cA 0, 4, .inl (xd 0))), (x 2, .inl (cA 0, 4, .inl (xd 1))), (x 3, .inl (cA 0, 4, .inl (xd 2))), (x 4, .inl (cA 0, 4, .inl (xd 3))), (x 5, .inl (cA 0, 4, .inl (xd 4))), (x 6, .inl (cA 1, 4, .inl (xd 5))), (x 7, .inl (cA 0, 4, .inl (xd 6))), (x 8, .inl (cA 0, 4, .inl (xd 7))), cE y yv, (wa, .inl (cA 0, 48, .inl ww))]) [0, 1, 2, 3, 4, 5, 6, 7, 8, 9, 10, 11] rfl
  have hD := hD.sub (ws' := [(o, .inr (4, [.ref F, .ref G, .int (nI qv), .int nw, .int se, .ref (pa 0), .ref an, .ref ln])), cE x xv, (x 1, .inl (cA 0, 4, .inl (xd 0))), (x 2, .inl (cA 0, 4, .inl (xd 1))), (x 3, .inl (cA 0, 4, .inl (xd 2))), (x 4, .inl (cA 0, 4, .inl (xd 3))), (x 5, .inl (cA 0, 4, .inl (xd 4))), (x 6, .inl (cA 1, 4, .inl (xd 5))), (x 7, .inl (cA 0, 4, .inl (xd 6))), (x 8, .inl (cA 0, 4, .inl (xd 7))), cE y yv, (wa, .inl (cA 0, 48, .inl ww))]) [0, 1, 2, 3, 4, 5, 6, 7, 8, 9, 10, 11] (by decide) rfl
  clear hPc hDc hFc hP1 hD1 hk1 hz1
  have hw_2 := hw
  rcases z_bool hw with ⟨h_2, rfl⟩ | ⟨h_2, rfl⟩
  · skip
    refine lv_istore (lv' := [(8, .int 1), (7, .int (nI (6 * op))), (6, .int (nI op)), (5, .int 0), (0, .ref o), (1, .int 0), (2, .int (nI vx)), (3, .int (nI vy)), (4, .ref wa)]) hx hb dL_wants_33 hl (by decide) rfl (fun ls hl => ?_)
    refine z_cut (Inv := fun H locs ls st => ∃ (lt : Nat), st = [.int (nI lt)] ∧ va_P D vwCl [(o, .inr (4, [.ref F, .ref G, .int (nI qv), .int nw, .int se, .ref (pa 0), .ref an, .ref ln])), cE x xv, (x 1, .inl (cA 0, 4, .inl (xd 0))), (x 2, .inl (cA 0, 4, .inl (xd 1))), (x 3, .inl (cA 0, 4, .inl (xd 2))), (x 4, .inl (cA 0, 4, .inl (xd 3))), (x 5, .inl (cA 0, 4, .inl (xd 4))), (x 6, .inl (cA 1, 4, .inl (xd 5))), (x 7, .inl (cA 0, 4, .inl (xd 6))), (x 8, .inl (cA 0, 4, .inl (xd 7))), cE y yv, (wa, .inl (cA 0, 48, .inl ww))] H ∧ va_D A [(o, .inr (4, [.ref F, .ref G, .int (nI qv), .int nw, .int se, .ref (pa 0), .ref an, .ref ln])), cE x xv, (x 1, .inl (cA 0, 4, .inl (xd 0))), (x 2, .inl (cA 0, 4, .inl (xd 1))), (x 3, .inl (cA 0, 4, .inl (xd 2))), (x 4, .inl (cA 0, 4, .inl (xd 3))), (x 5, .inl (cA 0, 4, .inl (xd 4))), (x 6, .inl (cA 1, 4, .inl (xd 5))), (x 7, .inl (cA 0, 4, .inl (xd 6))), (x 8, .inl (cA 0, 4, .inl (xd 7))), cE y yv, (wa, .inl (cA 0, 48, .inl ww))] ∧ va_S A s.heap H locs ∧ lv_has ls 15 [(8, .int 1), (7, .int (nI (6 * op))), (6, .int (nI op)), (5, .int 0), (0, .ref o), (1, .int 0), (2, .int (nI vx)), (3, .int (nI vy)), (4, .ref wa)] ∧ lt ≤ 100) 51 (fun H locs ls st hQ9 => ?_) (fun kJ => ?_)
    · obtain ⟨lt, rfl, hP, hD, hS, hl, hlt⟩ := hQ9
      refine lv_istore (lv' := [(9, .int (nI lt)), (8, .int 1), (7, .int (nI (6 * op))), (6, .int (nI op)), (5, .int 0), (0, .ref o), (1, .int 0), (2, .int (nI vx)), (3, .int (nI vy)), (4, .ref wa)]) hx hb dL_wants_51 hl (by decide) rfl (fun ls hl => ?_)
      refine lv_iload hx hb dL_wants_53 (lv_at hl 0 rfl) ?_
      refine lv_iload_n hx hb dL_wants_55 rfl (lv_at hl 8 rfl) ?_
      refine lv_sipush (v := 303) hx hb dL_wants_56 (by decide) ?_
      refine lv_idiv hx hb dL_wants_59 (by decide) ?_
      refine z_top (y := (nI (vy / 303))) (z_div (a := vy) (d := 303) (by omega) (by omega) (by omega)) ?_
      refine lv_bipush (v := 101) hx hb dL_wants_60 (by decide) ?_
      refine lv_iload hx hb dL_wants_62 (lv_at hl 0 rfl) ?_
      refine lv_isub hx hb dL_wants_64 ?_
      refine z_top (y := (nI (101 - lt))) (z_sub (a := 101) (b := lt) (by omega)) ?_
      refine lv_irem hx hb dL_wants_65 (nI_n0 (by omega) (by omega)) ?_
      refine z_top (y := (nI ((vy / 303) % (101 - lt)))) (z_rem (a := (vy / 303)) (d := (101 - lt)) (by omega) (by omega) (by omega)) ?_
      obtain ⟨mz, emz, hmz⟩ := z_modv (vy / 303) (d := 101 - lt) (by omega)
      refine z_top (y := (nI mz)) (congrArg nI emz) ?_
      refine lv_iadd hx hb dL_wants_66 ?_
      refine z_top (y := (nI (lt + mz))) (z_add lt mz) ?_
      refine lv_istore (lv' := [(10, .int (nI (lt + mz))), (9, .int (nI lt)), (8, .int 1), (7, .int (nI (6 * op))), (6, .int (nI op)), (5, .int 0), (0, .ref o), (1, .int 0), (2, .int (nI vx)), (3, .int (nI vy)), (4, .ref wa)]) hx hb dL_wants_67 hl (by decide) rfl (fun ls hl => ?_)
      refine z_cut (Inv := fun H locs ls st => ∃ (wi : Int32), st = [.int wi] ∧ va_P D vwCl [(o, .inr (4, [.ref F, .ref G, .int (nI qv), .int nw, .int se, .ref (pa 0), .ref an, .ref ln])), cE x xv, (x 1, .inl (cA 0, 4, .inl (xd 0))), (x 2, .inl (cA 0, 4, .inl (xd 1))), (x 3, .inl (cA 0, 4, .inl (xd 2))), (x 4, .inl (cA 0, 4, .inl (xd 3))), (x 5, .inl (cA 0, 4, .inl (xd 4))), (x 6, .inl (cA 1, 4, .inl (xd 5))), (x 7, .inl (cA 0, 4, .inl (xd 6))), (x 8, .inl (cA 0, 4, .inl (xd 7))), cE y yv, (wa, .inl (cA 0, 48, .inl ww))] H ∧ va_D A [(o, .inr (4, [.ref F, .ref G, .int (nI qv), .int nw, .int se, .ref (pa 0), .ref an, .ref ln])), cE x xv, (x 1, .inl (cA 0, 4, .inl (xd 0))), (x 2, .inl (cA 0, 4, .inl (xd 1))), (x 3, .inl (cA 0, 4, .inl (xd 2))), (x 4, .inl (cA 0, 4, .inl (xd 3))), (x 5, .inl (cA 0, 4, .inl (xd 4))), (x 6, .inl (cA 1, 4, .inl (xd 5))), (x 7, .inl (cA 0, 4, .inl (xd 6))), (x 8, .inl (cA 0, 4, .inl (xd 7))), cE y yv, (wa, .inl (cA 0, 48, .inl ww))] ∧ va_S A s.heap H locs ∧ lv_has ls 15 [(10, .int (nI (lt + mz))), (9, .int (nI lt)), (8, .int 1), (7, .int (nI (6 * op))), (6, .int (nI op)), (5, .int 0), (0, .ref o), (1, .int 0), (2, .int (nI vx)), (3, .int (nI vy)), (4, .ref wa)] ∧ (wi = -1 ∨ inr wi (nI lt) (nI (lt + mz))) ∧ okv wi) 97 (fun H locs ls st hQ9 => ?_) (fun kJ => ?_)
      · obtain ⟨wi, rfl, hP, hD, hS, hl, hwi, hwo⟩ := hQ9
        refine lv_istore (lv' := [(11, .int wi), (10, .int (nI (lt + mz))), (9, .int (nI lt)), (8, .int 1), (7, .int (nI (6 * op))), (6, .int (nI op)), (5, .int 0), (0, .ref o), (1, .int 0), (2, .int (nI vx)), (3, .int (nI vy)), (4, .ref wa)]) hx hb dL_wants_97 hl (by decide) rfl (fun ls hl => ?_)
        refine lv_aload_n hx hb dL_wants_99 rfl (lv_at hl 7 rfl) ?_
        refine lv_iconst (v := 0) hx hb dL_wants_100 (by decide) ?_
        have hPc := hP.sub (ws' := [(o, .inr (4, [.ref F, .ref G, .int (nI qv), .int nw, .int se, .ref (pa 0), .ref an, .ref ln])), cE x xv]) [0, 1] rfl
        have hDc := hD.sub (ws' := [(o, .inr (4, [.ref F, .ref G, .int (nI qv), .int nw, .int se, .ref (pa 0), .ref an, .ref ln])), cE x xv]) [0, 1] (by decide) rfl
        have hFc := va_free (wc := [(o, .inr (4, [.ref F, .ref G, .int (nI qv), .int nw, .int se, .ref (pa 0), .ref an, .ref ln])), cE x xv]) hD hS hA [0, 1] rfl
        refine va_calli (va_runV (As := [.int 0]) (rest := []) ⟨hx, hb, hml, hown, hts⟩ (c_X3_state_k l D cA H.size o F G (nI qv) nw se pa an ln x (y 0) 0 xv (by first | exact he | exact en_flip he | exact en_01 he | exact en_10 he)) (cwV 1 hts gL_wants_X3_state rfl rfl rfl (by decide +kernel) ⟨Nat.le_of_ble_eq_true rfl, Nat.le_of_ble_eq_true rfl⟩) ⟨zU_blind, va_recv hK hPc (ci := 4) (q0 := 0) rfl rfl, fun U hU hW => ⟨rfl, zU_call hU hPc hW.alike hK hDc⟩⟩ rfl rfl hl.1 rfl (lv_room (Nat.le_of_ble_eq_true rfl)) dL_wants_101 ⟨(Nat.zero_le _), (Nat.zero_le _)⟩) hS (fun q _ h => hFc q h) hFc (fun zr u t H1 locs ht hvm hw hB hz1 hk1 hS => ?_)
        obtain ⟨hP1, hD1⟩ := hB
        rw [ht] at hP1
        obtain ⟨hP, hD⟩ := va_join (wr := [(x 1, .inl (cA 0, 4, .inl (xd 0))), (x 2, .inl (cA 0, 4, .inl (xd 1))), (x 3, .inl (cA 0, 4, .inl (xd 2))), (x 4, .inl (cA 0, 4, .inl (xd 3))), (x 5, .inl (cA 0, 4, .inl (xd 4))), (x 6, .inl (cA 1, 4, .inl (xd 5))), (x 7, .inl (cA 0, 4, .inl (xd 6))), (x 8, .inl (cA 0, 4, .inl (xd 7))), cE y yv, (wa, .inl (cA 0, 48, .inl ww))]) (w1 := [(o, .inr (4, [.ref F, .ref G, .int (nI qv), .int nw, .int se, .ref (pa 0), .ref an, .ref ln])), cE x xv]) hP hD [0, 1] [2, 3, 4, 5, 6, 7, 8, 9, 10, 11] rfl rfl (by decide) (by decide) hk1 hFc hP1 hD1
        generalize H1 = H at hP hS ⊢
        have hP := hP.sub (ws' := [(o, .inr (4, [.ref F, .ref G, .int (nI qv), .int nw, .int se, .ref (pa 0), .ref an, .ref ln])), cE x xv, (x 1, .inl (cA 0, 4, .inl (xd 0))), (x 2, .inl (cA 0, 4, .inl (xd 1))), (x 3, .inl (cA 0, 4, .inl (xd 2))), (x 4, .inl (cA 0, 4, .inl (xd 3))), (x 5, .inl (cA 0, 4, .inl (xd 4))), (x 6, .inl (cA 1, 4, .inl (xd 5))), (x 7, .inl (cA 0, 4, .inl (xd 6))), (x 8, .inl (cA 0, 4, .inl (xd 7))), cE y yv, (wa, .inl (cA 0, 48, .inl ww))]) [10, 11, 0, 1, 2, 3, 4, 5, 6, 7, 8, 9] rfl
        have hD := hD.sub (ws' := [(o, .inr (4, [.ref F, .ref G, .int (nI qv), .int nw, .int se, .ref (pa 0), .ref an, .ref ln])), cE x xv, (x 1, .inl (cA 0, 4, .inl (xd 0))), (x 2, .inl (cA 0, 4, .inl (xd 1))), (x 3, .inl (cA 0, 4, .inl (xd 2))), (x 4, .inl (cA 0, 4, .inl (xd 3))), (x 5, .inl (cA 0, 4, .inl (xd 4))), (x 6, .inl (cA 1, 4, .inl (xd 5))), (x 7, .inl (cA 0, 4, .inl (xd 6))), (x 8, .inl (cA 0, 4, .inl (xd 7))), cE y yv, (wa, .inl (cA 0, 48, .inl ww))]) [10, 11, 0, 1, 2, 3, 4, 5, 6, 7, 8, 9] (by decide) rfl
        clear hPc hDc hFc hP1 hD1 hk1 hz1
        have hw_3 := hw
        obtain rfl := hw
        refine z_top (y := (nI sx)) hx0 ?_
        refine lv_bipush (v := 8) hx hb dL_wants_104 (by decide) ?_
        refine lv_aload_n hx hb dL_wants_106 rfl (lv_at hl 7 rfl) ?_
        refine lv_iconst (v := 1) hx hb dL_wants_107 (by decide) ?_
        have hPc := hP.sub (ws' := [(o, .inr (4, [.ref F, .ref G, .int (nI qv), .int nw, .int se, .ref (pa 0), .ref an, .ref ln])), cE y yv]) [0, 10] rfl
        have hDc := hD.sub (ws' := [(o, .inr (4, [.ref F, .ref G, .int (nI qv), .int nw, .int se, .ref (pa 0), .ref an, .ref ln])), cE y yv]) [0, 10] (by decide) rfl
        have hFc := va_free (wc := [(o, .inr (4, [.ref F, .ref G, .int (nI qv), .int nw, .int se, .ref (pa 0), .ref an, .ref ln])), cE y yv]) hD hS hA [0, 10] rfl
        refine va_calli (va_runV (As := [.int 1]) (rest := [.int 8, .int (nI sx)]) ⟨hx, hb, hml, hown, hts⟩ (c_X3_state_k l D cA H.size o F G (nI qv) nw se pa an ln y (x 0) 1 yv (by first | exact he | exact en_flip he | exact en_01 he | exact en_10 he)) (cwV 1 hts gL_wants_X3_state rfl rfl rfl (by decide +kernel) ⟨Nat.le_of_ble_eq_true rfl, Nat.le_of_ble_eq_true rfl⟩) ⟨zU_blind, va_recv hK hPc (ci := 4) (q0 := 0) rfl rfl, fun U hU hW => ⟨rfl, zU_call hU hPc hW.alike hK hDc⟩⟩ rfl rfl hl.1 rfl (lv_room (Nat.le_of_ble_eq_true rfl)) dL_wants_108 ⟨(Nat.zero_le _), (Nat.zero_le _)⟩) hS (fun q _ h => hFc q h) hFc (fun zr u t H1 locs ht hvm hw hB hz1 hk1 hS => ?_)
        obtain ⟨hP1, hD1⟩ := hB
        rw [ht] at hP1
        obtain ⟨hP, hD⟩ := va_join (wr := [cE x xv, (x 1, .inl (cA 0, 4, .inl (xd 0))), (x 2, .inl (cA 0, 4, .inl (xd 1))), (x 3, .inl (cA 0, 4, .inl (xd 2))), (x 4, .inl (cA 0, 4, .inl (xd 3))), (x 5, .inl (cA 0, 4, .inl (xd 4))), (x 6, .inl (cA 1, 4, .inl (xd 5))), (x 7, .inl (cA 0, 4, .inl (xd 6))), (x 8, .inl (cA 0, 4, .inl (xd 7))), (wa, .inl (cA 0, 48, .inl ww))]) (w1 := [(o, .inr (4, [.ref F, .ref G, .int (nI qv), .int nw, .int se, .ref (pa 0), .ref an, .ref ln])), cE y yv]) hP hD [0, 10] [1, 2, 3, 4, 5, 6, 7, 8, 9, 11] rfl rfl (by decide) (by decide) hk1 hFc hP1 hD1
        generalize H1 = H at hP hS ⊢
        have hP := hP.sub (ws' := [(o, .inr (4, [.ref F, .ref G, .int (nI qv), .int nw, .int se, .ref (pa 0), .ref an, .ref ln])), cE x xv, (x 1, .inl (cA 0, 4, .inl (xd 0))), (x 2, .inl (cA 0, 4, .inl (xd 1))), (x 3, .inl (cA 0, 4, .inl (xd 2))), (x 4, .inl (cA 0, 4, .inl (xd 3))), (x 5, .inl (cA 0, 4, .inl (xd 4))), (x 6, .inl (cA 1, 4, .inl (xd 5))), (x 7, .inl (cA 0, 4, .inl (xd 6))), (x 8, .inl (cA 0, 4, .inl (xd 7))), cE y yv, (wa, .inl (cA 0, 48, .inl ww))]) [10, 0, 1, 2, 3, 4, 5, 6, 7, 8, 11, 9] rfl
        have hD := hD.sub (ws' := [(o, .inr (4, [.ref F, .ref G, .int (nI qv), .int nw, .int se, .ref (pa 0), .ref an, .ref ln])), cE x xv, (x 1, .inl (cA 0, 4, .inl (xd 0))), (x 2, .inl (cA 0, 4, .inl (xd 1))), (x 3, .inl (cA 0, 4, .inl (xd 2))), (x 4, .inl (cA 0, 4, .inl (xd 3))), (x 5, .inl (cA 0, 4, .inl (xd 4))), (x 6, .inl (cA 1, 4, .inl (xd 5))), (x 7, .inl (cA 0, 4, .inl (xd 6))), (x 8, .inl (cA 0, 4, .inl (xd 7))), cE y yv, (wa, .inl (cA 0, 48, .inl ww))]) [10, 0, 1, 2, 3, 4, 5, 6, 7, 8, 11, 9] (by decide) rfl
        clear hPc hDc hFc hP1 hD1 hk1 hz1
        have hw_4 := hw
        obtain rfl := hw
        refine z_top (y := (nI sy)) hy0 ?_
        refine lv_imul hx hb dL_wants_111 ?_
        refine z_top (y := (nI (8 * sy))) (z_mul 8 sy) ?_
        refine lv_iadd hx hb dL_wants_112 ?_
        refine z_top (y := (nI (sx + 8 * sy))) (z_add sx (8 * sy)) ?_
        refine lv_istore (lv' := [(12, .int (nI (sx + 8 * sy))), (11, .int wi), (10, .int (nI (lt + mz))), (9, .int (nI lt)), (8, .int 1), (7, .int (nI (6 * op))), (6, .int (nI op)), (5, .int 0), (0, .ref o), (1, .int 0), (2, .int (nI vx)), (3, .int (nI vy)), (4, .ref wa)]) hx hb dL_wants_113 hl (by decide) rfl (fun ls hl => ?_)
        refine lv_iload_n hx hb dL_wants_115 rfl (lv_at hl 9 rfl) ?_
        refine lv_if_ne (tgt := 129) hx hb dL_wants_116 (by decide) (fun c_5 => absurd c_5 (by decide)) (fun _ => ?_)
        refine lv_aload hx hb dL_wants_119 (lv_at hl 12 rfl) ?_
        refine lv_iload hx hb dL_wants_121 (lv_at hl 5 rfl) ?_
        refine z_iald (k := (6 * op)) (v := ((xd 0) op + 1)) hx hb hK hP 11 0 rfl rfl rfl (by omega) (by decide) (wr_at (hWr op hop).1 (by omega)) dL_wants_123 ?_
        refine lv_iconst (v := 1) hx hb dL_wants_124 (by decide) ?_
        refine lv_isub hx hb dL_wants_125 ?_
        refine z_top (y := ((xd 0) op)) i_as ?_
        refine lv_goto (tgt := 136) hx hb dL_wants_126 (by decide) ?_
        refine lv_istore (lv' := [(13, .int ((xd 0) op)), (12, .int (nI (sx + 8 * sy))), (11, .int wi), (10, .int (nI (lt + mz))), (9, .int (nI lt)), (8, .int 1), (7, .int (nI (6 * op))), (6, .int (nI op)), (5, .int 0), (0, .ref o), (1, .int 0), (2, .int (nI vx)), (3, .int (nI vy)), (4, .ref wa)]) hx hb dL_wants_136 hl (by decide) rfl (fun ls hl => ?_)
        refine lv_aload_n hx hb dL_wants_138 rfl (lv_at hl 9 rfl) ?_
        refine lv_iload_n hx hb dL_wants_139 rfl (lv_at hl 10 rfl) ?_
        refine lv_iload hx hb dL_wants_140 (lv_at hl 8 rfl) ?_
        refine lv_iload hx hb dL_wants_142 (lv_at hl 7 rfl) ?_
        refine lv_iload_n hx hb dL_wants_144 rfl (lv_at hl 10 rfl) ?_
        refine lv_iconst (v := 2) hx hb dL_wants_145 (by decide) ?_
        refine lv_icmp_ne (tgt := 158) hx hb dL_wants_146 (by decide) (fun _ => ?_) (fun c_6 => absurd c_6 (by decide))
        refine lv_iload hx hb dL_wants_158 (lv_at hl 2 rfl) ?_
        refine lv_iload hx hb dL_wants_160 (lv_at hl 4 rfl) ?_
        refine lv_iload hx hb dL_wants_162 (lv_at hl 3 rfl) ?_
        have hPc := hP.sub (ws' := [(o, .inr (4, [.ref F, .ref G, .int (nI qv), .int nw, .int se, .ref (pa 0), .ref an, .ref ln])), cE x xv, (x 1, .inl (cA 0, 4, .inl (xd 0))), (x 2, .inl (cA 0, 4, .inl (xd 1))), (x 3, .inl (cA 0, 4, .inl (xd 2)))]) [0, 1, 2, 3, 4] rfl
        have hDc := hD.sub (ws' := [(o, .inr (4, [.ref F, .ref G, .int (nI qv), .int nw, .int se, .ref (pa 0), .ref an, .ref ln])), cE x xv, (x 1, .inl (cA 0, 4, .inl (xd 0))), (x 2, .inl (cA 0, 4, .inl (xd 1))), (x 3, .inl (cA 0, 4, .inl (xd 2)))]) [0, 1, 2, 3, 4] (by decide) rfl
        have hFc := va_free (wc := [(o, .inr (4, [.ref F, .ref G, .int (nI qv), .int nw, .int se, .ref (pa 0), .ref an, .ref ln])), cE x xv, (x 1, .inl (cA 0, 4, .inl (xd 0))), (x 2, .inl (cA 0, 4, .inl (xd 1))), (x 3, .inl (cA 0, 4, .inl (xd 2)))]) hD hS hA [0, 1, 2, 3, 4] rfl
        refine va_calli (vx_runSW (As := [.ref o, .int 0, .int 0, .int (nI op), .int wi, .int (nI lt), .int (nI (lt + mz))]) (rest := []) ⟨hx, hb, hml, hown, hts⟩ (c_asks_wish_k l D cA H.size o F G (nI qv) nw se pa an ln x (y 0) 0 xv op wi (nI lt) (nI (lt + mz)) (xd 0) (xd 1) (xd 2) (by first | exact he | exact en_flip he | exact en_01 he | exact en_10 he) hop ⟨inr_nI (a := lt) (b := 0) (c := 100) (by omega) (by omega) (by decide), inr_nI (a := lt + mz) (b := lt) (c := 100) (by omega) (by omega) (by decide)⟩ hwi ((s_shut hI).mpr (by omega))) (vx_cwSW 7 hts gL_wants_L_asks rfl rfl rfl (by decide +kernel) ⟨Nat.le_of_ble_eq_true rfl, Nat.le_of_ble_eq_true rfl⟩) ⟨zU_blind, fun U hU hW => ⟨rfl, zU_call hU hPc hW.alike hK hDc⟩⟩ rfl rfl hl.1 rfl (lv_room (Nat.le_of_ble_eq_true rfl)) dL_wants_164 ⟨(Nat.zero_le _), (Nat.zero_le _)⟩) hS (fun q _ h => hFc q h) hFc (fun zr u t H1 locs ht hvm hw hB hz1 hk1 hS => ?_)
        obtain ⟨hP1, hD1⟩ := hB
        rw [ht] at hP1
        obtain ⟨hP, hD⟩ := va_join (wr := [(x 4, .inl (cA 0, 4, .inl (xd 3))), (x 5, .inl (cA 0, 4, .inl (xd 4))), (x 6, .inl (cA 1, 4, .inl (xd 5))), (x 7, .inl (cA 0, 4, .inl (xd 6))), (x 8, .inl (cA 0, 4, .inl (xd 7))), cE y yv, (wa, .inl (cA 0, 48, .inl ww))]) (w1 := [(o, .inr (4, [.ref F, .ref G, .int (nI qv), .int nw, .int se, .ref (pa 0), .ref an, .ref ln])), cE x xv, (x 1, .inl (cA 0, 4, .inl (upd (xd 0) op wi))), (x 2, .inl (cA 0, 4, .inl (upd (xd 1) op (nI lt)))), (x 3, .inl (cA 0, 4, .inl (upd (xd 2) op (nI (lt + mz)))))]) hP hD [0, 1, 2, 3, 4] [5, 6, 7, 8, 9, 10, 11] rfl rfl (by decide) (by decide) hk1 hFc hP1 hD1
        generalize H1 = H at hP hS ⊢
        have hP := hP.sub (ws' := [(o, .inr (4, [.ref F, .ref G, .int (nI qv), .int nw, .int se, .ref (pa 0), .ref an, .ref ln])), cE x xv, (x 1, .inl (cA 0, 4, .inl (upd (xd 0) op wi))), (x 2, .inl (cA 0, 4, .inl (upd (xd 1) op (nI lt)))), (x 3, .inl (cA 0, 4, .inl (upd (xd 2) op (nI (lt + mz))))), (x 4, .inl (cA 0, 4, .inl (xd 3))), (x 5, .inl (cA 0, 4, .inl (xd 4))), (x 6, .inl (cA 1, 4, .inl (xd 5))), (x 7, .inl (cA 0, 4, .inl (xd 6))), (x 8, .inl (cA 0, 4, .inl (xd 7))), cE y yv, (wa, .inl (cA 0, 48, .inl ww))]) [7, 8, 9, 10, 11, 0, 1, 2, 3, 4, 5, 6] rfl
        have hD := hD.sub (ws' := [(o, .inr (4, [.ref F, .ref G, .int (nI qv), .int nw, .int se, .ref (pa 0), .ref an, .ref ln])), cE x xv, (x 1, .inl (cA 0, 4, .inl (upd (xd 0) op wi))), (x 2, .inl (cA 0, 4, .inl (upd (xd 1) op (nI lt)))), (x 3, .inl (cA 0, 4, .inl (upd (xd 2) op (nI (lt + mz))))), (x 4, .inl (cA 0, 4, .inl (xd 3))), (x 5, .inl (cA 0, 4, .inl (xd 4))), (x 6, .inl (cA 1, 4, .inl (xd 5))), (x 7, .inl (cA 0, 4, .inl (xd 6))), (x 8, .inl (cA 0, 4, .inl (xd 7))), cE y yv, (wa, .inl (cA 0, 48, .inl ww))]) [7, 8, 9, 10, 11, 0, 1, 2, 3, 4, 5, 6] (by decide) rfl
        clear hPc hDc hFc hP1 hD1 hk1 hz1
        have hw_7 := hw
        obtain rfl := hw
        refine lv_istore (lv' := [(14, .int ((xd 0) op)), (13, .int ((xd 0) op)), (12, .int (nI (sx + 8 * sy))), (11, .int wi), (10, .int (nI (lt + mz))), (9, .int (nI lt)), (8, .int 1), (7, .int (nI (6 * op))), (6, .int (nI op)), (5, .int 0), (0, .ref o), (1, .int 0), (2, .int (nI vx)), (3, .int (nI vy)), (4, .ref wa)]) hx hb dL_wants_167 hl (by decide) rfl (fun ls hl => ?_)
        refine lv_iload hx hb dL_wants_169 (lv_at hl 6 rfl) ?_
        refine lv_if_eq (tgt := 208) hx hb dL_wants_171 (by decide) (fun c_8 => absurd c_8 (by decide)) (fun _ => ?_)
        refine lv_iload_n hx hb dL_wants_174 rfl (lv_at hl 11 rfl) ?_
        refine lv_if_ne (tgt := 208) hx hb dL_wants_175 (by decide) (fun c_9 => absurd c_9 (by decide)) (fun _ => ?_)
        refine lv_aload hx hb dL_wants_178 (lv_at hl 14 rfl) ?_
        refine lv_iload hx hb dL_wants_180 (lv_at hl 7 rfl) ?_
        refine lv_iload hx hb dL_wants_182 (lv_at hl 3 rfl) ?_
        refine lv_iconst (v := 1) hx hb dL_wants_184 (by decide) ?_
        refine lv_iadd hx hb dL_wants_185 ?_
        refine z_iast (k := (6 * op)) hx hb hK hP hD hS 11 0 rfl rfl rfl (by omega) (by decide) dL_wants_186 (fun H locs hP hD hS => ?_)
        have hP : va_P D vwCl [(o, .inr (4, [.ref F, .ref G, .int (nI qv), .int nw, .int se, .ref (pa 0), .ref an, .ref ln])), cE x xv, (x 1, .inl (cA 0, 4, .inl (upd (xd 0) op wi))), (x 2, .inl (cA 0, 4, .inl (upd (xd 1) op (nI lt)))), (x 3, .inl (cA 0, 4, .inl (upd (xd 2) op (nI (lt + mz))))), (x 4, .inl (cA 0, 4, .inl (xd 3))), (x 5, .inl (cA 0, 4, .inl (xd 4))), (x 6, .inl (cA 1, 4, .inl (xd 5))), (x 7, .inl (cA 0, 4, .inl (xd 6))), (x 8, .inl (cA 0, 4, .inl (xd 7))), cE y yv, (wa, .inl (cA 0, 48, .inl (upd ww (6 * op) (wi + 1))))] H := hP
        have hD : va_D A [(o, .inr (4, [.ref F, .ref G, .int (nI qv), .int nw, .int se, .ref (pa 0), .ref an, .ref ln])), cE x xv, (x 1, .inl (cA 0, 4, .inl (upd (xd 0) op wi))), (x 2, .inl (cA 0, 4, .inl (upd (xd 1) op (nI lt)))), (x 3, .inl (cA 0, 4, .inl (upd (xd 2) op (nI (lt + mz))))), (x 4, .inl (cA 0, 4, .inl (xd 3))), (x 5, .inl (cA 0, 4, .inl (xd 4))), (x 6, .inl (cA 1, 4, .inl (xd 5))), (x 7, .inl (cA 0, 4, .inl (xd 6))), (x 8, .inl (cA 0, 4, .inl (xd 7))), cE y yv, (wa, .inl (cA 0, 48, .inl (upd ww (6 * op) (wi + 1))))] := hD
        refine lv_aload hx hb dL_wants_187 (lv_at hl 14 rfl) ?_
        refine lv_iload hx hb dL_wants_189 (lv_at hl 7 rfl) ?_
        refine lv_iconst (v := 1) hx hb dL_wants_191 (by decide) ?_
        refine lv_iadd hx hb dL_wants_192 ?_
        refine z_top (y := (nI (6 * op + 1))) (z_add (6 * op) 1) ?_
        refine lv_iload hx hb dL_wants_193 (lv_at hl 5 rfl) ?_
        refine z_iast (k := (6 * op + 1)) hx hb hK hP hD hS 11 0 rfl rfl rfl (by omega) (by decide) dL_wants_195 (fun H locs hP hD hS => ?_)
        have hP : va_P D vwCl [(o, .inr (4, [.ref F, .ref G, .int (nI qv), .int nw, .int se, .ref (pa 0), .ref an, .ref ln])), cE x xv, (x 1, .inl (cA 0, 4, .inl (upd (xd 0) op wi))), (x 2, .inl (cA 0, 4, .inl (upd (xd 1) op (nI lt)))), (x 3, .inl (cA 0, 4, .inl (upd (xd 2) op (nI (lt + mz))))), (x 4, .inl (cA 0, 4, .inl (xd 3))), (x 5, .inl (cA 0, 4, .inl (xd 4))), (x 6, .inl (cA 1, 4, .inl (xd 5))), (x 7, .inl (cA 0, 4, .inl (xd 6))), (x 8, .inl (cA 0, 4, .inl (xd 7))), cE y yv, (wa, .inl (cA 0, 48, .inl (upd (upd ww (6 * op) (wi + 1)) (6 * op + 1) (nI lt))))] H := hP
        have hD : va_D A [(o, .inr (4, [.ref F, .ref G, .int (nI qv), .int nw, .int se, .ref (pa 0), .ref an, .ref ln])), cE x xv, (x 1, .inl (cA 0, 4, .inl (upd (xd 0) op wi))), (x 2, .inl (cA 0, 4, .inl (upd (xd 1) op (nI lt)))), (x 3, .inl (cA 0, 4, .inl (upd (xd 2) op (nI (lt + mz))))), (x 4, .inl (cA 0, 4, .inl (xd 3))), (x 5, .inl (cA 0, 4, .inl (xd 4))), (x 6, .inl (cA 1, 4, .inl (xd 5))), (x 7, .inl (cA 0, 4, .inl (xd 6))), (x 8, .inl (cA 0, 4, .inl (xd 7))), cE y yv, (wa, .inl (cA 0, 48, .inl (upd (upd ww (6 * op) (wi + 1)) (6 * op + 1) (nI lt))))] := hD
        refine lv_aload hx hb dL_wants_196 (lv_at hl 14 rfl) ?_
        refine lv_iload hx hb dL_wants_198 (lv_at hl 7 rfl) ?_
        refine lv_iconst (v := 2) hx hb dL_wants_200 (by decide) ?_
        refine lv_iadd hx hb dL_wants_201 ?_
        refine z_top (y := (nI (6 * op + 2))) (z_add (6 * op) 2) ?_
        refine lv_iload hx hb dL_wants_202 (lv_at hl 4 rfl) ?_
        refine z_iast (k := (6 * op + 2)) hx hb hK hP hD hS 11 0 rfl rfl rfl (by omega) (by decide) dL_wants_204 (fun H locs hP hD hS => ?_)
        have hP : va_P D vwCl [(o, .inr (4, [.ref F, .ref G, .int (nI qv), .int nw, .int se, .ref (pa 0), .ref an, .ref ln])), cE x xv, (x 1, .inl (cA 0, 4, .inl (upd (xd 0) op wi))), (x 2, .inl (cA 0, 4, .inl (upd (xd 1) op (nI lt)))), (x 3, .inl (cA 0, 4, .inl (upd (xd 2) op (nI (lt + mz))))), (x 4, .inl (cA 0, 4, .inl (xd 3))), (x 5, .inl (cA 0, 4, .inl (xd 4))), (x 6, .inl (cA 1, 4, .inl (xd 5))), (x 7, .inl (cA 0, 4, .inl (xd 6))), (x 8, .inl (cA 0, 4, .inl (xd 7))), cE y yv, (wa, .inl (cA 0, 48, .inl (upd (upd (upd ww (6 * op) (wi + 1)) (6 * op + 1) (nI lt)) (6 * op + 2) (nI (lt + mz)))))] H := hP
        have hD : va_D A [(o, .inr (4, [.ref F, .ref G, .int (nI qv), .int nw, .int se, .ref (pa 0), .ref an, .ref ln])), cE x xv, (x 1, .inl (cA 0, 4, .inl (upd (xd 0) op wi))), (x 2, .inl (cA 0, 4, .inl (upd (xd 1) op (nI lt)))), (x 3, .inl (cA 0, 4, .inl (upd (xd 2) op (nI (lt + mz))))), (x 4, .inl (cA 0, 4, .inl (xd 3))), (x 5, .inl (cA 0, 4, .inl (xd 4))), (x 6, .inl (cA 1, 4, .inl (xd 5))), (x 7, .inl (cA 0, 4, .inl (xd 6))), (x 8, .inl (cA 0, 4, .inl (xd 7))), cE y yv, (wa, .inl (cA 0, 48, .inl (upd (upd (upd ww (6 * op) (wi + 1)) (6 * op + 1) (nI lt)) (6 * op + 2) (nI (lt + mz)))))] := hD
        refine lv_goto (tgt := 257) hx hb dL_wants_205 (by decide) ?_
        refine lv_iload hx hb dL_wants_257 (lv_at hl 0 rfl) ?_
        refine lv_iload hx hb dL_wants_259 (lv_at hl 6 rfl) ?_
        refine lv_if_ne (tgt := 269) hx hb dL_wants_261 (by decide) (fun _ => ?_) (fun c_10 => absurd c_10 (by decide))
        refine lv_iload_n hx hb dL_wants_269 rfl (lv_at hl 11 rfl) ?_
        refine lv_iconst (v := 1) hx hb dL_wants_270 (by decide) ?_
        refine lv_icmp_ne (tgt := 278) hx hb dL_wants_271 (by decide) (fun _ => ?_) (fun c_11 => absurd c_11 (by decide))
        refine lv_iload hx hb dL_wants_278 (lv_at hl 1 rfl) ?_
        refine lv_icmp_ne (tgt := 306) hx hb dL_wants_280 (by decide) (fun c_12 => absurd rfl c_12) (fun _ => ?_)
        refine lv_aload_n hx hb dL_wants_283 rfl (lv_at hl 10 rfl) ?_
        refine lv_iconst (v := 0) hx hb dL_wants_284 (by decide) ?_
        have hPc := hP.sub (ws' := [(o, .inr (4, [.ref F, .ref G, .int (nI qv), .int nw, .int se, .ref (pa 0), .ref an, .ref ln])), cE x xv]) [0, 1] rfl
        have hDc := hD.sub (ws' := [(o, .inr (4, [.ref F, .ref G, .int (nI qv), .int nw, .int se, .ref (pa 0), .ref an, .ref ln])), cE x xv]) [0, 1] (by decide) rfl
        have hFc := va_free (wc := [(o, .inr (4, [.ref F, .ref G, .int (nI qv), .int nw, .int se, .ref (pa 0), .ref an, .ref ln])), cE x xv]) hD hS hA [0, 1] rfl
        refine va_calli (va_runV (As := [.int 0]) (rest := []) ⟨hx, hb, hml, hown, hts⟩ (c_X3_state_k l D cA H.size o F G (nI qv) nw se pa an ln x (y 0) 0 xv (by first | exact he | exact en_flip he | exact en_01 he | exact en_10 he)) (cwV 1 hts gL_wants_X3_state rfl rfl rfl (by decide +kernel) ⟨Nat.le_of_ble_eq_true rfl, Nat.le_of_ble_eq_true rfl⟩) ⟨zU_blind, va_recv hK hPc (ci := 4) (q0 := 0) rfl rfl, fun U hU hW => ⟨rfl, zU_call hU hPc hW.alike hK hDc⟩⟩ rfl rfl hl.1 rfl (lv_room (Nat.le_of_ble_eq_true rfl)) dL_wants_285 ⟨(Nat.zero_le _), (Nat.zero_le _)⟩) hS (fun q _ h => hFc q h) hFc (fun zr u t H1 locs ht hvm hw hB hz1 hk1 hS => ?_)
        obtain ⟨hP1, hD1⟩ := hB
        rw [ht] at hP1
        obtain ⟨hP, hD⟩ := va_join (wr := [(x 1, .inl (cA 0, 4, .inl (upd (xd 0) op wi))), (x 2, .inl (cA 0, 4, .inl (upd (xd 1) op (nI lt)))), (x 3, .inl (cA 0, 4, .inl (upd (xd 2) op (nI (lt + mz))))), (x 4, .inl (cA 0, 4, .inl (xd 3))), (x 5, .inl (cA 0, 4, .inl (xd 4))), (x 6, .inl (cA 1, 4, .inl (xd 5))), (x 7, .inl (cA 0, 4, .inl (xd 6))), (x 8, .inl (cA 0, 4, .inl (xd 7))), cE y yv, (wa, .inl (cA 0, 48, .inl (upd (upd (upd ww (6 * op) (wi + 1)) (6 * op + 1) (nI lt)) (6 * op + 2) (nI (lt + mz)))))]) (w1 := [(o, .inr (4, [.ref F, .ref G, .int (nI qv), .int nw, .int se, .ref (pa 0), .ref an, .ref ln])), cE x xv]) hP hD [0, 1] [2, 3, 4, 5, 6, 7, 8, 9, 10, 11] rfl rfl (by decide) (by decide) hk1 hFc hP1 hD1
        generalize H1 = H at hP hS ⊢
        have hP := hP.sub (ws' := [(o, .inr (4, [.ref F, .ref G, .int (nI qv), .int nw, .int se, .ref (pa 0), .ref an, .ref ln])), cE x xv, (x 1, .inl (cA 0, 4, .inl (upd (xd 0) op wi))), (x 2, .inl (cA 0, 4, .inl (upd (xd 1) op (nI lt)))), (x 3, .inl (cA 0, 4, .inl (upd (xd 2) op (nI (lt + mz))))), (x 4, .inl (cA 0, 4, .inl (xd 3))), (x 5, .inl (cA 0, 4, .inl (xd 4))), (x 6, .inl (cA 1, 4, .inl (xd 5))), (x 7, .inl (cA 0, 4, .inl (xd 6))), (x 8, .inl (cA 0, 4, .inl (xd 7))), cE y yv, (wa, .inl (cA 0, 48, .inl (upd (upd (upd ww (6 * op) (wi + 1)) (6 * op + 1) (nI lt)) (6 * op + 2) (nI (lt + mz)))))]) [10, 11, 0, 1, 2, 3, 4, 5, 6, 7, 8, 9] rfl
        have hD := hD.sub (ws' := [(o, .inr (4, [.ref F, .ref G, .int (nI qv), .int nw, .int se, .ref (pa 0), .ref an, .ref ln])), cE x xv, (x 1, .inl (cA 0, 4, .inl (upd (xd 0) op wi))), (x 2, .inl (cA 0, 4, .inl (upd (xd 1) op (nI lt)))), (x 3, .inl (cA 0, 4, .inl (upd (xd 2) op (nI (lt + mz))))), (x 4, .inl (cA 0, 4, .inl (xd 3))), (x 5, .inl (cA 0, 4, .inl (xd 4))), (x 6, .inl (cA 1, 4, .inl (xd 5))), (x 7, .inl (cA 0, 4, .inl (xd 6))), (x 8, .inl (cA 0, 4, .inl (xd 7))), cE y yv, (wa, .inl (cA 0, 48, .inl (upd (upd (upd ww (6 * op) (wi + 1)) (6 * op + 1) (nI lt)) (6 * op + 2) (nI (lt + mz)))))]) [10, 11, 0, 1, 2, 3, 4, 5, 6, 7, 8, 9] (by decide) rfl
        clear hPc hDc hFc hP1 hD1 hk1 hz1
        have hw_13 := hw
        obtain rfl := hw
        refine z_top (y := (nI sx)) hx0 ?_
        refine lv_bipush (v := 8) hx hb dL_wants_288 (by decide) ?_
        refine lv_aload_n hx hb dL_wants_290 rfl (lv_at hl 10 rfl) ?_
        refine lv_iconst (v := 1) hx hb dL_wants_291 (by decide) ?_
        have hPc := hP.sub (ws' := [(o, .inr (4, [.ref F, .ref G, .int (nI qv), .int nw, .int se, .ref (pa 0), .ref an, .ref ln])), cE y yv]) [0, 10] rfl
        have hDc := hD.sub (ws' := [(o, .inr (4, [.ref F, .ref G, .int (nI qv), .int nw, .int se, .ref (pa 0), .ref an, .ref ln])), cE y yv]) [0, 10] (by decide) rfl
        have hFc := va_free (wc := [(o, .inr (4, [.ref F, .ref G, .int (nI qv), .int nw, .int se, .ref (pa 0), .ref an, .ref ln])), cE y yv]) hD hS hA [0, 10] rfl
        refine va_calli (va_runV (As := [.int 1]) (rest := [.int 8, .int (nI sx)]) ⟨hx, hb, hml, hown, hts⟩ (c_X3_state_k l D cA H.size o F G (nI qv) nw se pa an ln y (x 0) 1 yv (by first | exact he | exact en_flip he | exact en_01 he | exact en_10 he)) (cwV 1 hts gL_wants_X3_state rfl rfl rfl (by decide +kernel) ⟨Nat.le_of_ble_eq_true rfl, Nat.le_of_ble_eq_true rfl⟩) ⟨zU_blind, va_recv hK hPc (ci := 4) (q0 := 0) rfl rfl, fun U hU hW => ⟨rfl, zU_call hU hPc hW.alike hK hDc⟩⟩ rfl rfl hl.1 rfl (lv_room (Nat.le_of_ble_eq_true rfl)) dL_wants_292 ⟨(Nat.zero_le _), (Nat.zero_le _)⟩) hS (fun q _ h => hFc q h) hFc (fun zr u t H1 locs ht hvm hw hB hz1 hk1 hS => ?_)
        obtain ⟨hP1, hD1⟩ := hB
        rw [ht] at hP1
        obtain ⟨hP, hD⟩ := va_join (wr := [cE x xv, (x 1, .inl (cA 0, 4, .inl (upd (xd 0) op wi))), (x 2, .inl (cA 0, 4, .inl (upd (xd 1) op (nI lt)))), (x 3, .inl (cA 0, 4, .inl (upd (xd 2) op (nI (lt + mz))))), (x 4, .inl (cA 0, 4, .inl (xd 3))), (x 5, .inl (cA 0, 4, .inl (xd 4))), (x 6, .inl (cA 1, 4, .inl (xd 5))), (x 7, .inl (cA 0, 4, .inl (xd 6))), (x 8, .inl (cA 0, 4, .inl (xd 7))), (wa, .inl (cA 0, 48, .inl (upd (upd (upd ww (6 * op) (wi + 1)) (6 * op + 1) (nI lt)) (6 * op + 2) (nI (lt + mz)))))]) (w1 := [(o, .inr (4, [.ref F, .ref G, .int (nI qv), .int nw, .int se, .ref (pa 0), .ref an, .ref ln])), cE y yv]) hP hD [0, 10] [1, 2, 3, 4, 5, 6, 7, 8, 9, 11] rfl rfl (by decide) (by decide) hk1 hFc hP1 hD1
        generalize H1 = H at hP hS ⊢
        have hP := hP.sub (ws' := [(o, .inr (4, [.ref F, .ref G, .int (nI qv), .int nw, .int se, .ref (pa 0), .ref an, .ref ln])), cE x xv, (x 1, .inl (cA 0, 4, .inl (upd (xd 0) op wi))), (x 2, .inl (cA 0, 4, .inl (upd (xd 1) op (nI lt)))), (x 3, .inl (cA 0, 4, .inl (upd (xd 2) op (nI (lt + mz))))), (x 4, .inl (cA 0, 4, .inl (xd 3))), (x 5, .inl (cA 0, 4, .inl (xd 4))), (x 6, .inl (cA 1, 4, .inl (xd 5))), (x 7, .inl (cA 0, 4, .inl (xd 6))), (x 8, .inl (cA 0, 4, .inl (xd 7))), cE y yv, (wa, .inl (cA 0, 48, .inl (upd (upd (upd ww (6 * op) (wi + 1)) (6 * op + 1) (nI lt)) (6 * op + 2) (nI (lt + mz)))))]) [10, 0, 1, 2, 3, 4, 5, 6, 7, 8, 11, 9] rfl
        have hD := hD.sub (ws' := [(o, .inr (4, [.ref F, .ref G, .int (nI qv), .int nw, .int se, .ref (pa 0), .ref an, .ref ln])), cE x xv, (x 1, .inl (cA 0, 4, .inl (upd (xd 0) op wi))), (x 2, .inl (cA 0, 4, .inl (upd (xd 1) op (nI lt)))), (x 3, .inl (cA 0, 4, .inl (upd (xd 2) op (nI (lt + mz))))), (x 4, .inl (cA 0, 4, .inl (xd 3))), (x 5, .inl (cA 0, 4, .inl (xd 4))), (x 6, .inl (cA 1, 4, .inl (xd 5))), (x 7, .inl (cA 0, 4, .inl (xd 6))), (x 8, .inl (cA 0, 4, .inl (xd 7))), cE y yv, (wa, .inl (cA 0, 48, .inl (upd (upd (upd ww (6 * op) (wi + 1)) (6 * op + 1) (nI lt)) (6 * op + 2) (nI (lt + mz)))))]) [10, 0, 1, 2, 3, 4, 5, 6, 7, 8, 11, 9] (by decide) rfl
        clear hPc hDc hFc hP1 hD1 hk1 hz1
        have hw_14 := hw
        obtain rfl := hw
        refine z_top (y := (nI sy)) hy0 ?_
        refine lv_imul hx hb dL_wants_295 ?_
        refine z_top (y := (nI (8 * sy))) (z_mul 8 sy) ?_
        refine lv_iadd hx hb dL_wants_296 ?_
        refine z_top (y := (nI (sx + 8 * sy))) (z_add sx (8 * sy)) ?_
        refine lv_iload hx hb dL_wants_297 (lv_at hl 2 rfl) ?_
        refine lv_icmp_ne (tgt := 306) hx hb dL_wants_299 (by decide) (fun c_15 => absurd rfl c_15) (fun _ => ?_)
        refine lv_iconst (v := 1) hx hb dL_wants_302 (by decide) ?_
        refine lv_goto (tgt := 307) hx hb dL_wants_303 (by decide) ?_
        refine W.widen (k := 1) (n := 6) (by omega) (by omega) ?_
        exact W.zret (v := 1) hx hb hr rfl (fun t ht hW => ⟨⟨1, ((va_up (va_up (va_up xd 0 (upd (xd 0) op wi)) 1 (upd (xd 1) op (nI lt))) 2 (upd (xd 2) op (nI (lt + mz)))), upd (upd (upd ww (6 * op) (wi + 1)) (6 * op + 1) (nI lt)) (6 * op + 2) (nI (lt + mz))), rfl, ⟨⟨sx, kx, tx, sy, ky, ty, wish_t hI (by omega) hwo (by omega) (by omega), by omega, by omega⟩, WRe_wish hWr hop (by omega) (by omega) (by omega), WRe_oth (i := 0) (e := 0) (b := 2) (WRe_oth (i := 0) (e := 0) (b := 1) (WRe_oth (i := 0) (e := 0) (b := 0) (hWr2) (by decide) hop (by omega) (by decide)) (by decide) hop (by omega) (by decide)) (by decide) hop (by omega) (by decide), rfl⟩, ⟨by rw [ht]; exact hP, by rw [hAe]; exact hD⟩⟩, hS.F ht⟩) hS.2.2 dL_wants_307
      · skip
        refine lv_iload_n hx hb dL_wants_69 rfl (lv_at hl 8 rfl) ?_
        refine lv_bipush (v := 8) hx hb dL_wants_70 (by decide) ?_
        refine lv_idiv hx hb dL_wants_72 (by decide) ?_
        refine z_top (y := (nI (vx / 8))) (z_div (a := vx) (d := 8) (by omega) (by omega) (by omega)) ?_
        refine lv_iconst (v := 3) hx hb dL_wants_73 (by decide) ?_
        refine lv_irem hx hb dL_wants_74 (by decide) ?_
        refine z_top (y := (nI ((vx / 8) % 3))) (z_rem (a := (vx / 8)) (d := 3) (by omega) (by omega) (by omega)) ?_
        refine lv_if_ne (tgt := 82) hx hb dL_wants_75 (by decide) (fun c_16 => ?_) (fun c_16 => ?_)
        · have c_16 := mt (nI_eq (a := (vx / 8) % 3) (b := 0) (by omega) (by omega)).mpr c_16
          refine lv_iload hx hb dL_wants_82 (lv_at hl 1 rfl) ?_
          refine lv_iload_n hx hb dL_wants_84 rfl (lv_at hl 8 rfl) ?_
          refine lv_bipush (v := 24) hx hb dL_wants_85 (by decide) ?_
          refine lv_idiv hx hb dL_wants_87 (by decide) ?_
          refine z_top (y := (nI (vx / 24))) (z_div (a := vx) (d := 24) (by omega) (by omega) (by omega)) ?_
          refine lv_iload hx hb dL_wants_88 (lv_at hl 0 rfl) ?_
          refine lv_iload hx hb dL_wants_90 (lv_at hl 1 rfl) ?_
          refine lv_isub hx hb dL_wants_92 ?_
          refine z_top (y := (nI (lt + mz - lt))) (z_sub (by omega)) ?_
          refine lv_iconst (v := 1) hx hb dL_wants_93 (by decide) ?_
          refine lv_iadd hx hb dL_wants_94 ?_
          refine z_top (y := (nI (lt + mz - lt + 1))) (z_add (lt + mz - lt) 1) ?_
          refine lv_irem hx hb dL_wants_95 (nI_n0 (by omega) (by omega)) ?_
          refine z_top (y := (nI ((vx / 24) % (lt + mz - lt + 1)))) (z_rem (a := (vx / 24)) (d := (lt + mz - lt + 1)) (by omega) (by omega) (by omega)) ?_
          obtain ⟨wz, ewz, hwz⟩ := z_modv (vx / 24) (d := lt + mz - lt + 1) (by omega)
          refine z_top (y := (nI wz)) (congrArg nI ewz) ?_
          refine lv_iadd hx hb dL_wants_96 ?_
          refine z_top (y := (nI (lt + wz))) (z_add lt wz) ?_
          exact kJ _ _ _ _ ⟨(nI (lt + wz)), rfl, hP, hD, hS, lv_sub hl [0, 1, 2, 3, 4, 5, 6, 7, 8, 9, 10] rfl, (Or.inr (inr_nI (by omega) (by omega) (by omega))), (okv_nI (by omega))⟩
        · have c_16 := (nI_eq (a := (vx / 8) % 3) (b := 0) (by omega) (by omega)).mp c_16
          refine lv_iconst (v := (-1)) hx hb dL_wants_78 (by decide) ?_
          refine lv_goto (tgt := 97) hx hb dL_wants_79 (by decide) ?_
          exact kJ _ _ _ _ ⟨(-1), rfl, hP, hD, hS, lv_sub hl [0, 1, 2, 3, 4, 5, 6, 7, 8, 9, 10] rfl, (Or.inl rfl), (Or.inl rfl)⟩
    · skip
      refine lv_iload_n hx hb dL_wants_35 rfl (lv_at hl 7 rfl) ?_
      refine lv_iconst (v := 3) hx hb dL_wants_36 (by decide) ?_
      refine lv_irem hx hb dL_wants_37 (by decide) ?_
      refine z_top (y := (nI (vy % 3))) (z_rem (a := vy) (d := 3) (by omega) (by omega) (by omega)) ?_
      refine lv_if_ne (tgt := 45) hx hb dL_wants_38 (by decide) (fun c_17 => ?_) (fun c_17 => ?_)
      · have c_17 := mt (nI_eq (a := vy % 3) (b := 0) (by omega) (by omega)).mpr c_17
        refine lv_iload_n hx hb dL_wants_45 rfl (lv_at hl 7 rfl) ?_
        refine lv_iconst (v := 3) hx hb dL_wants_46 (by decide) ?_
        refine lv_idiv hx hb dL_wants_47 (by decide) ?_
        refine z_top (y := (nI (vy / 3))) (z_div (a := vy) (d := 3) (by omega) (by omega) (by omega)) ?_
        refine lv_bipush (v := 101) hx hb dL_wants_48 (by decide) ?_
        refine lv_irem hx hb dL_wants_50 (by decide) ?_
        refine z_top (y := (nI ((vy / 3) % 101))) (z_rem (a := (vy / 3)) (d := 101) (by omega) (by omega) (by omega)) ?_
        exact kJ _ _ _ _ ⟨(vy / 3) % 101, rfl, hP, hD, hS, lv_sub hl [0, 1, 2, 3, 4, 5, 6, 7, 8] rfl, (by omega)⟩
      · have c_17 := (nI_eq (a := vy % 3) (b := 0) (by omega) (by omega)).mp c_17
        refine lv_iconst (v := 0) hx hb dL_wants_41 (by decide) ?_
        refine lv_goto (tgt := 51) hx hb dL_wants_42 (by decide) ?_
        exact kJ _ _ _ _ ⟨0, rfl, hP, hD, hS, lv_sub hl [0, 1, 2, 3, 4, 5, 6, 7, 8] rfl, (by omega)⟩
  · skip
    refine lv_istore (lv' := [(8, .int 0), (7, .int (nI (6 * op))), (6, .int (nI op)), (5, .int 0), (0, .ref o), (1, .int 0), (2, .int (nI vx)), (3, .int (nI vy)), (4, .ref wa)]) hx hb dL_wants_33 hl (by decide) rfl (fun ls hl => ?_)
    refine z_cut (Inv := fun H locs ls st => ∃ (lt : Nat), st = [.int (nI lt)] ∧ va_P D vwCl [(o, .inr (4, [.ref F, .ref G, .int (nI qv), .int nw, .int se, .ref (pa 0), .ref an, .ref ln])), cE x xv, (x 1, .inl (cA 0, 4, .inl (xd 0))), (x 2, .inl (cA 0, 4, .inl (xd 1))), (x 3, .inl (cA 0, 4, .inl (xd 2))), (x 4, .inl (cA 0, 4, .inl (xd 3))), (x 5, .inl (cA 0, 4, .inl (xd 4))), (x 6, .inl (cA 1, 4, .inl (xd 5))), (x 7, .inl (cA 0, 4, .inl (xd 6))), (x 8, .inl (cA 0, 4, .inl (xd 7))), cE y yv, (wa, .inl (cA 0, 48, .inl ww))] H ∧ va_D A [(o, .inr (4, [.ref F, .ref G, .int (nI qv), .int nw, .int se, .ref (pa 0), .ref an, .ref ln])), cE x xv, (x 1, .inl (cA 0, 4, .inl (xd 0))), (x 2, .inl (cA 0, 4, .inl (xd 1))), (x 3, .inl (cA 0, 4, .inl (xd 2))), (x 4, .inl (cA 0, 4, .inl (xd 3))), (x 5, .inl (cA 0, 4, .inl (xd 4))), (x 6, .inl (cA 1, 4, .inl (xd 5))), (x 7, .inl (cA 0, 4, .inl (xd 6))), (x 8, .inl (cA 0, 4, .inl (xd 7))), cE y yv, (wa, .inl (cA 0, 48, .inl ww))] ∧ va_S A s.heap H locs ∧ lv_has ls 15 [(8, .int 0), (7, .int (nI (6 * op))), (6, .int (nI op)), (5, .int 0), (0, .ref o), (1, .int 0), (2, .int (nI vx)), (3, .int (nI vy)), (4, .ref wa)] ∧ lt ≤ 100) 51 (fun H locs ls st hQ9 => ?_) (fun kJ => ?_)
    · obtain ⟨lt, rfl, hP, hD, hS, hl, hlt⟩ := hQ9
      refine lv_istore (lv' := [(9, .int (nI lt)), (8, .int 0), (7, .int (nI (6 * op))), (6, .int (nI op)), (5, .int 0), (0, .ref o), (1, .int 0), (2, .int (nI vx)), (3, .int (nI vy)), (4, .ref wa)]) hx hb dL_wants_51 hl (by decide) rfl (fun ls hl => ?_)
      refine lv_iload hx hb dL_wants_53 (lv_at hl 0 rfl) ?_
      refine lv_iload_n hx hb dL_wants_55 rfl (lv_at hl 8 rfl) ?_
      refine lv_sipush (v := 303) hx hb dL_wants_56 (by decide) ?_
      refine lv_idiv hx hb dL_wants_59 (by decide) ?_
      refine z_top (y := (nI (vy / 303))) (z_div (a := vy) (d := 303) (by omega) (by omega) (by omega)) ?_
      refine lv_bipush (v := 101) hx hb dL_wants_60 (by decide) ?_
      refine lv_iload hx hb dL_wants_62 (lv_at hl 0 rfl) ?_
      refine lv_isub hx hb dL_wants_64 ?_
      refine z_top (y := (nI (101 - lt))) (z_sub (a := 101) (b := lt) (by omega)) ?_
      refine lv_irem hx hb dL_wants_65 (nI_n0 (by omega) (by omega)) ?_
      refine z_top (y := (nI ((vy / 303) % (101 - lt)))) (z_rem (a := (vy / 303)) (d := (101 - lt)) (by omega) (by omega) (by omega)) ?_
      obtain ⟨mz, emz, hmz⟩ := z_modv (vy / 303) (d := 101 - lt) (by omega)
      refine z_top (y := (nI mz)) (congrArg nI emz) ?_
      refine lv_iadd hx hb dL_wants_66 ?_
      refine z_top (y := (nI (lt + mz))) (z_add lt mz) ?_
      refine lv_istore (lv' := [(10, .int (nI (lt + mz))), (9, .int (nI lt)), (8, .int 0), (7, .int (nI (6 * op))), (6, .int (nI op)), (5, .int 0), (0, .ref o), (1, .int 0), (2, .int (nI vx)), (3, .int (nI vy)), (4, .ref wa)]) hx hb dL_wants_67 hl (by decide) rfl (fun ls hl => ?_)
      refine z_cut (Inv := fun H locs ls st => ∃ (wi : Int32), st = [.int wi] ∧ va_P D vwCl [(o, .inr (4, [.ref F, .ref G, .int (nI qv), .int nw, .int se, .ref (pa 0), .ref an, .ref ln])), cE x xv, (x 1, .inl (cA 0, 4, .inl (xd 0))), (x 2, .inl (cA 0, 4, .inl (xd 1))), (x 3, .inl (cA 0, 4, .inl (xd 2))), (x 4, .inl (cA 0, 4, .inl (xd 3))), (x 5, .inl (cA 0, 4, .inl (xd 4))), (x 6, .inl (cA 1, 4, .inl (xd 5))), (x 7, .inl (cA 0, 4, .inl (xd 6))), (x 8, .inl (cA 0, 4, .inl (xd 7))), cE y yv, (wa, .inl (cA 0, 48, .inl ww))] H ∧ va_D A [(o, .inr (4, [.ref F, .ref G, .int (nI qv), .int nw, .int se, .ref (pa 0), .ref an, .ref ln])), cE x xv, (x 1, .inl (cA 0, 4, .inl (xd 0))), (x 2, .inl (cA 0, 4, .inl (xd 1))), (x 3, .inl (cA 0, 4, .inl (xd 2))), (x 4, .inl (cA 0, 4, .inl (xd 3))), (x 5, .inl (cA 0, 4, .inl (xd 4))), (x 6, .inl (cA 1, 4, .inl (xd 5))), (x 7, .inl (cA 0, 4, .inl (xd 6))), (x 8, .inl (cA 0, 4, .inl (xd 7))), cE y yv, (wa, .inl (cA 0, 48, .inl ww))] ∧ va_S A s.heap H locs ∧ lv_has ls 15 [(10, .int (nI (lt + mz))), (9, .int (nI lt)), (8, .int 0), (7, .int (nI (6 * op))), (6, .int (nI op)), (5, .int 0), (0, .ref o), (1, .int 0), (2, .int (nI vx)), (3, .int (nI vy)), (4, .ref wa)] ∧ (wi = -1 ∨ inr wi (nI lt) (nI (lt + mz))) ∧ okv wi) 97 (fun H locs ls st hQ9 => ?_) (fun kJ => ?_)
      · obtain ⟨wi, rfl, hP, hD, hS, hl, hwi, hwo⟩ := hQ9
        refine lv_istore (lv' := [(11, .int wi), (10, .int (nI (lt + mz))), (9, .int (nI lt)), (8, .int 0), (7, .int (nI (6 * op))), (6, .int (nI op)), (5, .int 0), (0, .ref o), (1, .int 0), (2, .int (nI vx)), (3, .int (nI vy)), (4, .ref wa)]) hx hb dL_wants_97 hl (by decide) rfl (fun ls hl => ?_)
        refine lv_aload_n hx hb dL_wants_99 rfl (lv_at hl 7 rfl) ?_
        refine lv_iconst (v := 0) hx hb dL_wants_100 (by decide) ?_
        have hPc := hP.sub (ws' := [(o, .inr (4, [.ref F, .ref G, .int (nI qv), .int nw, .int se, .ref (pa 0), .ref an, .ref ln])), cE x xv]) [0, 1] rfl
        have hDc := hD.sub (ws' := [(o, .inr (4, [.ref F, .ref G, .int (nI qv), .int nw, .int se, .ref (pa 0), .ref an, .ref ln])), cE x xv]) [0, 1] (by decide) rfl
        have hFc := va_free (wc := [(o, .inr (4, [.ref F, .ref G, .int (nI qv), .int nw, .int se, .ref (pa 0), .ref an, .ref ln])), cE x xv]) hD hS hA [0, 1] rfl
        refine va_calli (va_runV (As := [.int 0]) (rest := []) ⟨hx, hb, hml, hown, hts⟩ (c_X3_state_k l D cA H.size o F G (nI qv) nw se pa an ln x (y 0) 0 xv (by first | exact he | exact en_flip he | exact en_01 he | exact en_10 he)) (cwV 1 hts gL_wants_X3_state rfl rfl rfl (by decide +kernel) ⟨Nat.le_of_ble_eq_true rfl, Nat.le_of_ble_eq_true rfl⟩) ⟨zU_blind, va_recv hK hPc (ci := 4) (q0 := 0) rfl rfl, fun U hU hW => ⟨rfl, zU_call hU hPc hW.alike hK hDc⟩⟩ rfl rfl hl.1 rfl (lv_room (Nat.le_of_ble_eq_true rfl)) dL_wants_101 ⟨(Nat.zero_le _), (Nat.zero_le _)⟩) hS (fun q _ h => hFc q h) hFc (fun zr u t H1 locs ht hvm hw hB hz1 hk1 hS => ?_)
        obtain ⟨hP1, hD1⟩ := hB
        rw [ht] at hP1
        obtain ⟨hP, hD⟩ := va_join (wr := [(x 1, .inl (cA 0, 4, .inl (xd 0))), (x 2, .inl (cA 0, 4, .inl (xd 1))), (x 3, .inl (cA 0, 4, .inl (xd 2))), (x 4, .inl (cA 0, 4, .inl (xd 3))), (x 5, .inl (cA 0, 4, .inl (xd 4))), (x 6, .inl (cA 1, 4, .inl (xd 5))), (x 7, .inl (cA 0, 4, .inl (xd 6))), (x 8, .inl (cA 0, 4, .inl (xd 7))), cE y yv, (wa, .inl (cA 0, 48, .inl ww))]) (w1 := [(o, .inr (4, [.ref F, .ref G, .int (nI qv), .int nw, .int se, .ref (pa 0), .ref an, .ref ln])), cE x xv]) hP hD [0, 1] [2, 3, 4, 5, 6, 7, 8, 9, 10, 11] rfl rfl (by decide) (by decide) hk1 hFc hP1 hD1
        generalize H1 = H at hP hS ⊢
        have hP := hP.sub (ws' := [(o, .inr (4, [.ref F, .ref G, .int (nI qv), .int nw, .int se, .ref (pa 0), .ref an, .ref ln])), cE x xv, (x 1, .inl (cA 0, 4, .inl (xd 0))), (x 2, .inl (cA 0, 4, .inl (xd 1))), (x 3, .inl (cA 0, 4, .inl (xd 2))), (x 4, .inl (cA 0, 4, .inl (xd 3))), (x 5, .inl (cA 0, 4, .inl (xd 4))), (x 6, .inl (cA 1, 4, .inl (xd 5))), (x 7, .inl (cA 0, 4, .inl (xd 6))), (x 8, .inl (cA 0, 4, .inl (xd 7))), cE y yv, (wa, .inl (cA 0, 48, .inl ww))]) [10, 11, 0, 1, 2, 3, 4, 5, 6, 7, 8, 9] rfl
        have hD := hD.sub (ws' := [(o, .inr (4, [.ref F, .ref G, .int (nI qv), .int nw, .int se, .ref (pa 0), .ref an, .ref ln])), cE x xv, (x 1, .inl (cA 0, 4, .inl (xd 0))), (x 2, .inl (cA 0, 4, .inl (xd 1))), (x 3, .inl (cA 0, 4, .inl (xd 2))), (x 4, .inl (cA 0, 4, .inl (xd 3))), (x 5, .inl (cA 0, 4, .inl (xd 4))), (x 6, .inl (cA 1, 4, .inl (xd 5))), (x 7, .inl (cA 0, 4, .inl (xd 6))), (x 8, .inl (cA 0, 4, .inl (xd 7))), cE y yv, (wa, .inl (cA 0, 48, .inl ww))]) [10, 11, 0, 1, 2, 3, 4, 5, 6, 7, 8, 9] (by decide) rfl
        clear hPc hDc hFc hP1 hD1 hk1 hz1
        have hw_18 := hw
        obtain rfl := hw
        refine z_top (y := (nI sx)) hx0 ?_
        refine lv_bipush (v := 8) hx hb dL_wants_104 (by decide) ?_
        refine lv_aload_n hx hb dL_wants_106 rfl (lv_at hl 7 rfl) ?_
        refine lv_iconst (v := 1) hx hb dL_wants_107 (by decide) ?_
        have hPc := hP.sub (ws' := [(o, .inr (4, [.ref F, .ref G, .int (nI qv), .int nw, .int se, .ref (pa 0), .ref an, .ref ln])), cE y yv]) [0, 10] rfl
        have hDc := hD.sub (ws' := [(o, .inr (4, [.ref F, .ref G, .int (nI qv), .int nw, .int se, .ref (pa 0), .ref an, .ref ln])), cE y yv]) [0, 10] (by decide) rfl
        have hFc := va_free (wc := [(o, .inr (4, [.ref F, .ref G, .int (nI qv), .int nw, .int se, .ref (pa 0), .ref an, .ref ln])), cE y yv]) hD hS hA [0, 10] rfl
        refine va_calli (va_runV (As := [.int 1]) (rest := [.int 8, .int (nI sx)]) ⟨hx, hb, hml, hown, hts⟩ (c_X3_state_k l D cA H.size o F G (nI qv) nw se pa an ln y (x 0) 1 yv (by first | exact he | exact en_flip he | exact en_01 he | exact en_10 he)) (cwV 1 hts gL_wants_X3_state rfl rfl rfl (by decide +kernel) ⟨Nat.le_of_ble_eq_true rfl, Nat.le_of_ble_eq_true rfl⟩) ⟨zU_blind, va_recv hK hPc (ci := 4) (q0 := 0) rfl rfl, fun U hU hW => ⟨rfl, zU_call hU hPc hW.alike hK hDc⟩⟩ rfl rfl hl.1 rfl (lv_room (Nat.le_of_ble_eq_true rfl)) dL_wants_108 ⟨(Nat.zero_le _), (Nat.zero_le _)⟩) hS (fun q _ h => hFc q h) hFc (fun zr u t H1 locs ht hvm hw hB hz1 hk1 hS => ?_)
        obtain ⟨hP1, hD1⟩ := hB
        rw [ht] at hP1
        obtain ⟨hP, hD⟩ := va_join (wr := [cE x xv, (x 1, .inl (cA 0, 4, .inl (xd 0))), (x 2, .inl (cA 0, 4, .inl (xd 1))), (x 3, .inl (cA 0, 4, .inl (xd 2))), (x 4, .inl (cA 0, 4, .inl (xd 3))), (x 5, .inl (cA 0, 4, .inl (xd 4))), (x 6, .inl (cA 1, 4, .inl (xd 5))), (x 7, .inl (cA 0, 4, .inl (xd 6))), (x 8, .inl (cA 0, 4, .inl (xd 7))), (wa, .inl (cA 0, 48, .inl ww))]) (w1 := [(o, .inr (4, [.ref F, .ref G, .int (nI qv), .int nw, .int se, .ref (pa 0), .ref an, .ref ln])), cE y yv]) hP hD [0, 10] [1, 2, 3, 4, 5, 6, 7, 8, 9, 11] rfl rfl (by decide) (by decide) hk1 hFc hP1 hD1
        generalize H1 = H at hP hS ⊢
        have hP := hP.sub (ws' := [(o, .inr (4, [.ref F, .ref G, .int (nI qv), .int nw, .int se, .ref (pa 0), .ref an, .ref ln])), cE x xv, (x 1, .inl (cA 0, 4, .inl (xd 0))), (x 2, .inl (cA 0, 4, .inl (xd 1))), (x 3, .inl (cA 0, 4, .inl (xd 2))), (x 4, .inl (cA 0, 4, .inl (xd 3))), (x 5, .inl (cA 0, 4, .inl (xd 4))), (x 6, .inl (cA 1, 4, .inl (xd 5))), (x 7, .inl (cA 0, 4, .inl (xd 6))), (x 8, .inl (cA 0, 4, .inl (xd 7))), cE y yv, (wa, .inl (cA 0, 48, .inl ww))]) [10, 0, 1, 2, 3, 4, 5, 6, 7, 8, 11, 9] rfl
        have hD := hD.sub (ws' := [(o, .inr (4, [.ref F, .ref G, .int (nI qv), .int nw, .int se, .ref (pa 0), .ref an, .ref ln])), cE x xv, (x 1, .inl (cA 0, 4, .inl (xd 0))), (x 2, .inl (cA 0, 4, .inl (xd 1))), (x 3, .inl (cA 0, 4, .inl (xd 2))), (x 4, .inl (cA 0, 4, .inl (xd 3))), (x 5, .inl (cA 0, 4, .inl (xd 4))), (x 6, .inl (cA 1, 4, .inl (xd 5))), (x 7, .inl (cA 0, 4, .inl (xd 6))), (x 8, .inl (cA 0, 4, .inl (xd 7))), cE y yv, (wa, .inl (cA 0, 48, .inl ww))]) [10, 0, 1, 2, 3, 4, 5, 6, 7, 8, 11, 9] (by decide) rfl
        clear hPc hDc hFc hP1 hD1 hk1 hz1
        have hw_19 := hw
        obtain rfl := hw
        refine z_top (y := (nI sy)) hy0 ?_
        refine lv_imul hx hb dL_wants_111 ?_
        refine z_top (y := (nI (8 * sy))) (z_mul 8 sy) ?_
        refine lv_iadd hx hb dL_wants_112 ?_
        refine z_top (y := (nI (sx + 8 * sy))) (z_add sx (8 * sy)) ?_
        refine lv_istore (lv' := [(12, .int (nI (sx + 8 * sy))), (11, .int wi), (10, .int (nI (lt + mz))), (9, .int (nI lt)), (8, .int 0), (7, .int (nI (6 * op))), (6, .int (nI op)), (5, .int 0), (0, .ref o), (1, .int 0), (2, .int (nI vx)), (3, .int (nI vy)), (4, .ref wa)]) hx hb dL_wants_113 hl (by decide) rfl (fun ls hl => ?_)
        refine lv_iload_n hx hb dL_wants_115 rfl (lv_at hl 9 rfl) ?_
        refine lv_if_ne (tgt := 129) hx hb dL_wants_116 (by decide) (fun c_20 => absurd c_20 (by decide)) (fun _ => ?_)
        refine lv_aload hx hb dL_wants_119 (lv_at hl 12 rfl) ?_
        refine lv_iload hx hb dL_wants_121 (lv_at hl 5 rfl) ?_
        refine z_iald (k := (6 * op)) (v := ((xd 0) op + 1)) hx hb hK hP 11 0 rfl rfl rfl (by omega) (by decide) (wr_at (hWr op hop).1 (by omega)) dL_wants_123 ?_
        refine lv_iconst (v := 1) hx hb dL_wants_124 (by decide) ?_
        refine lv_isub hx hb dL_wants_125 ?_
        refine z_top (y := ((xd 0) op)) i_as ?_
        refine lv_goto (tgt := 136) hx hb dL_wants_126 (by decide) ?_
        refine lv_istore (lv' := [(13, .int ((xd 0) op)), (12, .int (nI (sx + 8 * sy))), (11, .int wi), (10, .int (nI (lt + mz))), (9, .int (nI lt)), (8, .int 0), (7, .int (nI (6 * op))), (6, .int (nI op)), (5, .int 0), (0, .ref o), (1, .int 0), (2, .int (nI vx)), (3, .int (nI vy)), (4, .ref wa)]) hx hb dL_wants_136 hl (by decide) rfl (fun ls hl => ?_)
        refine lv_aload_n hx hb dL_wants_138 rfl (lv_at hl 9 rfl) ?_
        refine lv_iload_n hx hb dL_wants_139 rfl (lv_at hl 10 rfl) ?_
        refine lv_iload hx hb dL_wants_140 (lv_at hl 8 rfl) ?_
        refine lv_iload hx hb dL_wants_142 (lv_at hl 7 rfl) ?_
        refine lv_iload_n hx hb dL_wants_144 rfl (lv_at hl 10 rfl) ?_
        refine lv_iconst (v := 2) hx hb dL_wants_145 (by decide) ?_
        refine lv_icmp_ne (tgt := 158) hx hb dL_wants_146 (by decide) (fun _ => ?_) (fun c_21 => absurd c_21 (by decide))
        refine lv_iload hx hb dL_wants_158 (lv_at hl 2 rfl) ?_
        refine lv_iload hx hb dL_wants_160 (lv_at hl 4 rfl) ?_
        refine lv_iload hx hb dL_wants_162 (lv_at hl 3 rfl) ?_
        have hPc := hP.sub (ws' := [(o, .inr (4, [.ref F, .ref G, .int (nI qv), .int nw, .int se, .ref (pa 0), .ref an, .ref ln])), cE x xv]) [0, 1] rfl
        have hDc := hD.sub (ws' := [(o, .inr (4, [.ref F, .ref G, .int (nI qv), .int nw, .int se, .ref (pa 0), .ref an, .ref ln])), cE x xv]) [0, 1] (by decide) rfl
        have hFc := va_free (wc := [(o, .inr (4, [.ref F, .ref G, .int (nI qv), .int nw, .int se, .ref (pa 0), .ref an, .ref ln])), cE x xv]) hD hS hA [0, 1] rfl
        refine va_calli (vx_runSW (As := [.ref o, .int 0, .int 0, .int (nI op), .int wi, .int (nI lt), .int (nI (lt + mz))]) (rest := []) ⟨hx, hb, hml, hown, hts⟩ (c_asks_wish_s l D cA zv H.size o F G (nI qv) nw se pa an ln x (y 0) 0 xv op wi (nI lt) (nI (lt + mz)) (by assumption) (by first | exact he | exact en_flip he | exact en_01 he | exact en_10 he) hop ⟨inr_nI (a := lt) (b := 0) (c := 100) (by omega) (by omega) (by decide), inr_nI (a := lt + mz) (b := lt) (c := 100) (by omega) (by omega) (by decide)⟩ hwi (fun q9 => absurd ((s_shut hI).mp q9) (by omega))) (vx_cwSW 7 hts gL_wants_L_asks rfl rfl rfl (by decide +kernel) ⟨Nat.le_of_ble_eq_true rfl, Nat.le_of_ble_eq_true rfl⟩) ⟨zUX_blind, fun U hU hW => ⟨rfl, zUX_call hE0 hX0 hS hFc hU hPc hW hK hDc⟩⟩ rfl rfl hl.1 rfl (lv_room (Nat.le_of_ble_eq_true rfl)) dL_wants_164 ⟨Nat.le_of_ble_eq_true rfl, Nat.le_of_ble_eq_true rfl⟩) hS (fun q _ h => hFc q h) hFc (fun zr u t H1 locs ht hvm hw hB hz1 hk1 hS => ?_)
        obtain ⟨hP1, hD1⟩ := hB
        rw [ht] at hP1
        obtain ⟨hP, hD⟩ := va_join (wr := [(x 1, .inl (cA 0, 4, .inl (xd 0))), (x 2, .inl (cA 0, 4, .inl (xd 1))), (x 3, .inl (cA 0, 4, .inl (xd 2))), (x 4, .inl (cA 0, 4, .inl (xd 3))), (x 5, .inl (cA 0, 4, .inl (xd 4))), (x 6, .inl (cA 1, 4, .inl (xd 5))), (x 7, .inl (cA 0, 4, .inl (xd 6))), (x 8, .inl (cA 0, 4, .inl (xd 7))), cE y yv, (wa, .inl (cA 0, 48, .inl ww))]) (w1 := [(o, .inr (4, [.ref F, .ref G, .int (nI qv), .int nw, .int se, .ref (pa 0), .ref an, .ref ln])), cE x xv]) hP hD [0, 1] [2, 3, 4, 5, 6, 7, 8, 9, 10, 11] rfl rfl (by decide) (by decide) hk1 hFc hP1 hD1
        generalize H1 = H at hP hS ⊢
        have hP := hP.sub (ws' := [(o, .inr (4, [.ref F, .ref G, .int (nI qv), .int nw, .int se, .ref (pa 0), .ref an, .ref ln])), cE x xv, (x 1, .inl (cA 0, 4, .inl (xd 0))), (x 2, .inl (cA 0, 4, .inl (xd 1))), (x 3, .inl (cA 0, 4, .inl (xd 2))), (x 4, .inl (cA 0, 4, .inl (xd 3))), (x 5, .inl (cA 0, 4, .inl (xd 4))), (x 6, .inl (cA 1, 4, .inl (xd 5))), (x 7, .inl (cA 0, 4, .inl (xd 6))), (x 8, .inl (cA 0, 4, .inl (xd 7))), cE y yv, (wa, .inl (cA 0, 48, .inl ww))]) [10, 11, 0, 1, 2, 3, 4, 5, 6, 7, 8, 9] rfl
        have hD := hD.sub (ws' := [(o, .inr (4, [.ref F, .ref G, .int (nI qv), .int nw, .int se, .ref (pa 0), .ref an, .ref ln])), cE x xv, (x 1, .inl (cA 0, 4, .inl (xd 0))), (x 2, .inl (cA 0, 4, .inl (xd 1))), (x 3, .inl (cA 0, 4, .inl (xd 2))), (x 4, .inl (cA 0, 4, .inl (xd 3))), (x 5, .inl (cA 0, 4, .inl (xd 4))), (x 6, .inl (cA 1, 4, .inl (xd 5))), (x 7, .inl (cA 0, 4, .inl (xd 6))), (x 8, .inl (cA 0, 4, .inl (xd 7))), cE y yv, (wa, .inl (cA 0, 48, .inl ww))]) [10, 11, 0, 1, 2, 3, 4, 5, 6, 7, 8, 9] (by decide) rfl
        clear hPc hDc hFc hP1 hD1 hk1 hz1
        refine W.widen (k := 1) (n := 6) (by omega) (by omega) ?_
        have hw_22 := hw
        obtain rfl := hw
        refine lv_istore (lv' := [(14, .int (-8)), (13, .int ((xd 0) op)), (12, .int (nI (sx + 8 * sy))), (11, .int wi), (10, .int (nI (lt + mz))), (9, .int (nI lt)), (8, .int 0), (7, .int (nI (6 * op))), (6, .int (nI op)), (5, .int 0), (0, .ref o), (1, .int 0), (2, .int (nI vx)), (3, .int (nI vy)), (4, .ref wa)]) hx hb dL_wants_167 hl (by decide) rfl (fun ls hl => ?_)
        refine lv_iload hx hb dL_wants_169 (lv_at hl 6 rfl) ?_
        refine lv_if_eq (tgt := 208) hx hb dL_wants_171 (by decide) (fun _ => ?_) (fun c_23 => absurd c_23 (by decide))
        refine lv_iload hx hb dL_wants_208 (lv_at hl 6 rfl) ?_
        refine lv_if_eq (tgt := 239) hx hb dL_wants_210 (by decide) (fun _ => ?_) (fun c_24 => absurd c_24 (by decide))
        refine lv_iload hx hb dL_wants_239 (lv_at hl 6 rfl) ?_
        refine lv_if_eq (tgt := 257) hx hb dL_wants_241 (by decide) (fun _ => ?_) (fun c_25 => absurd c_25 (by decide))
        refine lv_iload hx hb dL_wants_257 (lv_at hl 0 rfl) ?_
        refine lv_iload hx hb dL_wants_259 (lv_at hl 6 rfl) ?_
        refine lv_if_ne (tgt := 269) hx hb dL_wants_261 (by decide) (fun c_26 => absurd c_26 (by decide)) (fun _ => ?_)
        refine lv_bipush (v := (-8)) hx hb dL_wants_264 (by decide) ?_
        refine lv_goto (tgt := 280) hx hb dL_wants_266 (by decide) ?_
        refine lv_icmp_ne (tgt := 306) hx hb dL_wants_280 (by decide) (fun c_27 => absurd c_27 (by decide)) (fun _ => ?_)
        refine lv_aload_n hx hb dL_wants_283 rfl (lv_at hl 10 rfl) ?_
        refine lv_iconst (v := 0) hx hb dL_wants_284 (by decide) ?_
        have hPc := hP.sub (ws' := [(o, .inr (4, [.ref F, .ref G, .int (nI qv), .int nw, .int se, .ref (pa 0), .ref an, .ref ln])), cE x xv]) [0, 1] rfl
        have hDc := hD.sub (ws' := [(o, .inr (4, [.ref F, .ref G, .int (nI qv), .int nw, .int se, .ref (pa 0), .ref an, .ref ln])), cE x xv]) [0, 1] (by decide) rfl
        have hFc := va_free (wc := [(o, .inr (4, [.ref F, .ref G, .int (nI qv), .int nw, .int se, .ref (pa 0), .ref an, .ref ln])), cE x xv]) hD hS hA [0, 1] rfl
        refine va_calli (va_runV (As := [.int 0]) (rest := []) ⟨hx, hb, hml, hown, hts⟩ (c_X3_state_k l D cA H.size o F G (nI qv) nw se pa an ln x (y 0) 0 xv (by first | exact he | exact en_flip he | exact en_01 he | exact en_10 he)) (cwV 1 hts gL_wants_X3_state rfl rfl rfl (by decide +kernel) ⟨Nat.le_of_ble_eq_true rfl, Nat.le_of_ble_eq_true rfl⟩) ⟨zU_blind, va_recv hK hPc (ci := 4) (q0 := 0) rfl rfl, fun U hU hW => ⟨rfl, zU_call hU hPc hW.alike hK hDc⟩⟩ rfl rfl hl.1 rfl (lv_room (Nat.le_of_ble_eq_true rfl)) dL_wants_285 ⟨Nat.le_of_ble_eq_true rfl, Nat.le_of_ble_eq_true rfl⟩) hS (fun q _ h => hFc q h) hFc (fun zr u t H1 locs ht hvm hw hB hz1 hk1 hS => ?_)
        obtain ⟨hP1, hD1⟩ := hB
        rw [ht] at hP1
        obtain ⟨hP, hD⟩ := va_join (wr := [(x 1, .inl (cA 0, 4, .inl (xd 0))), (x 2, .inl (cA 0, 4, .inl (xd 1))), (x 3, .inl (cA 0, 4, .inl (xd 2))), (x 4, .inl (cA 0, 4, .inl (xd 3))), (x 5, .inl (cA 0, 4, .inl (xd 4))), (x 6, .inl (cA 1, 4, .inl (xd 5))), (x 7, .inl (cA 0, 4, .inl (xd 6))), (x 8, .inl (cA 0, 4, .inl (xd 7))), cE y yv, (wa, .inl (cA 0, 48, .inl ww))]) (w1 := [(o, .inr (4, [.ref F, .ref G, .int (nI qv), .int nw, .int se, .ref (pa 0), .ref an, .ref ln])), cE x xv]) hP hD [0, 1] [2, 3, 4, 5, 6, 7, 8, 9, 10, 11] rfl rfl (by decide) (by decide) hk1 hFc hP1 hD1
        generalize H1 = H at hP hS ⊢
        have hP := hP.sub (ws' := [(o, .inr (4, [.ref F, .ref G, .int (nI qv), .int nw, .int se, .ref (pa 0), .ref an, .ref ln])), cE x xv, (x 1, .inl (cA 0, 4, .inl (xd 0))), (x 2, .inl (cA 0, 4, .inl (xd 1))), (x 3, .inl (cA 0, 4, .inl (xd 2))), (x 4, .inl (cA 0, 4, .inl (xd 3))), (x 5, .inl (cA 0, 4, .inl (xd 4))), (x 6, .inl (cA 1, 4, .inl (xd 5))), (x 7, .inl (cA 0, 4, .inl (xd 6))), (x 8, .inl (cA 0, 4, .inl (xd 7))), cE y yv, (wa, .inl (cA 0, 48, .inl ww))]) [10, 11, 0, 1, 2, 3, 4, 5, 6, 7, 8, 9] rfl
        have hD := hD.sub (ws' := [(o, .inr (4, [.ref F, .ref G, .int (nI qv), .int nw, .int se, .ref (pa 0), .ref an, .ref ln])), cE x xv, (x 1, .inl (cA 0, 4, .inl (xd 0))), (x 2, .inl (cA 0, 4, .inl (xd 1))), (x 3, .inl (cA 0, 4, .inl (xd 2))), (x 4, .inl (cA 0, 4, .inl (xd 3))), (x 5, .inl (cA 0, 4, .inl (xd 4))), (x 6, .inl (cA 1, 4, .inl (xd 5))), (x 7, .inl (cA 0, 4, .inl (xd 6))), (x 8, .inl (cA 0, 4, .inl (xd 7))), cE y yv, (wa, .inl (cA 0, 48, .inl ww))]) [10, 11, 0, 1, 2, 3, 4, 5, 6, 7, 8, 9] (by decide) rfl
        clear hPc hDc hFc hP1 hD1 hk1 hz1
        have hw_28 := hw
        obtain rfl := hw
        refine z_top (y := (nI sx)) hx0 ?_
        refine lv_bipush (v := 8) hx hb dL_wants_288 (by decide) ?_
        refine lv_aload_n hx hb dL_wants_290 rfl (lv_at hl 10 rfl) ?_
        refine lv_iconst (v := 1) hx hb dL_wants_291 (by decide) ?_
        have hPc := hP.sub (ws' := [(o, .inr (4, [.ref F, .ref G, .int (nI qv), .int nw, .int se, .ref (pa 0), .ref an, .ref ln])), cE y yv]) [0, 10] rfl
        have hDc := hD.sub (ws' := [(o, .inr (4, [.ref F, .ref G, .int (nI qv), .int nw, .int se, .ref (pa 0), .ref an, .ref ln])), cE y yv]) [0, 10] (by decide) rfl
        have hFc := va_free (wc := [(o, .inr (4, [.ref F, .ref G, .int (nI qv), .int nw, .int se, .ref (pa 0), .ref an, .ref ln])), cE y yv]) hD hS hA [0, 10] rfl
        refine va_calli (va_runV (As := [.int 1]) (rest := [.int 8, .int (nI sx)]) ⟨hx, hb, hml, hown, hts⟩ (c_X3_state_k l D cA H.size o F G (nI qv) nw se pa an ln y (x 0) 1 yv (by first | exact he | exact en_flip he | exact en_01 he | exact en_10 he)) (cwV 1 hts gL_wants_X3_state rfl rfl rfl (by decide +kernel) ⟨Nat.le_of_ble_eq_true rfl, Nat.le_of_ble_eq_true rfl⟩) ⟨zU_blind, va_recv hK hPc (ci := 4) (q0 := 0) rfl rfl, fun U hU hW => ⟨rfl, zU_call hU hPc hW.alike hK hDc⟩⟩ rfl rfl hl.1 rfl (lv_room (Nat.le_of_ble_eq_true rfl)) dL_wants_292 ⟨Nat.le_of_ble_eq_true rfl, Nat.le_of_ble_eq_true rfl⟩) hS (fun q _ h => hFc q h) hFc (fun zr u t H1 locs ht hvm hw hB hz1 hk1 hS => ?_)
        obtain ⟨hP1, hD1⟩ := hB
        rw [ht] at hP1
        obtain ⟨hP, hD⟩ := va_join (wr := [cE x xv, (x 1, .inl (cA 0, 4, .inl (xd 0))), (x 2, .inl (cA 0, 4, .inl (xd 1))), (x 3, .inl (cA 0, 4, .inl (xd 2))), (x 4, .inl (cA 0, 4, .inl (xd 3))), (x 5, .inl (cA 0, 4, .inl (xd 4))), (x 6, .inl (cA 1, 4, .inl (xd 5))), (x 7, .inl (cA 0, 4, .inl (xd 6))), (x 8, .inl (cA 0, 4, .inl (xd 7))), (wa, .inl (cA 0, 48, .inl ww))]) (w1 := [(o, .inr (4, [.ref F, .ref G, .int (nI qv), .int nw, .int se, .ref (pa 0), .ref an, .ref ln])), cE y yv]) hP hD [0, 10] [1, 2, 3, 4, 5, 6, 7, 8, 9, 11] rfl rfl (by decide) (by decide) hk1 hFc hP1 hD1
        generalize H1 = H at hP hS ⊢
        have hP := hP.sub (ws' := [(o, .inr (4, [.ref F, .ref G, .int (nI qv), .int nw, .int se, .ref (pa 0), .ref an, .ref ln])), cE x xv, (x 1, .inl (cA 0, 4, .inl (xd 0))), (x 2, .inl (cA 0, 4, .inl (xd 1))), (x 3, .inl (cA 0, 4, .inl (xd 2))), (x 4, .inl (cA 0, 4, .inl (xd 3))), (x 5, .inl (cA 0, 4, .inl (xd 4))), (x 6, .inl (cA 1, 4, .inl (xd 5))), (x 7, .inl (cA 0, 4, .inl (xd 6))), (x 8, .inl (cA 0, 4, .inl (xd 7))), cE y yv, (wa, .inl (cA 0, 48, .inl ww))]) [10, 0, 1, 2, 3, 4, 5, 6, 7, 8, 11, 9] rfl
        have hD := hD.sub (ws' := [(o, .inr (4, [.ref F, .ref G, .int (nI qv), .int nw, .int se, .ref (pa 0), .ref an, .ref ln])), cE x xv, (x 1, .inl (cA 0, 4, .inl (xd 0))), (x 2, .inl (cA 0, 4, .inl (xd 1))), (x 3, .inl (cA 0, 4, .inl (xd 2))), (x 4, .inl (cA 0, 4, .inl (xd 3))), (x 5, .inl (cA 0, 4, .inl (xd 4))), (x 6, .inl (cA 1, 4, .inl (xd 5))), (x 7, .inl (cA 0, 4, .inl (xd 6))), (x 8, .inl (cA 0, 4, .inl (xd 7))), cE y yv, (wa, .inl (cA 0, 48, .inl ww))]) [10, 0, 1, 2, 3, 4, 5, 6, 7, 8, 11, 9] (by decide) rfl
        clear hPc hDc hFc hP1 hD1 hk1 hz1
        have hw_29 := hw
        obtain rfl := hw
        refine z_top (y := (nI sy)) hy0 ?_
        refine lv_imul hx hb dL_wants_295 ?_
        refine z_top (y := (nI (8 * sy))) (z_mul 8 sy) ?_
        refine lv_iadd hx hb dL_wants_296 ?_
        refine z_top (y := (nI (sx + 8 * sy))) (z_add sx (8 * sy)) ?_
        refine lv_iload hx hb dL_wants_297 (lv_at hl 2 rfl) ?_
        refine lv_icmp_ne (tgt := 306) hx hb dL_wants_299 (by decide) (fun c_30 => absurd rfl c_30) (fun _ => ?_)
        refine lv_iconst (v := 1) hx hb dL_wants_302 (by decide) ?_
        refine lv_goto (tgt := 307) hx hb dL_wants_303 (by decide) ?_
        refine W.widen (k := 1) (n := 6) (by omega) (by omega) ?_
        exact W.zret (v := 1) hx hb hr rfl (fun t ht hW => ⟨⟨1, (xd, ww), rfl, ⟨⟨sx, kx, tx, sy, ky, ty, hI, by omega, by omega⟩, hWr, hWr2, rfl⟩, ⟨by rw [ht]; exact hP, by rw [hAe]; exact hD⟩⟩, hS.F ht⟩) hS.2.2 dL_wants_307
      · skip
        refine lv_iload_n hx hb dL_wants_69 rfl (lv_at hl 8 rfl) ?_
        refine lv_bipush (v := 8) hx hb dL_wants_70 (by decide) ?_
        refine lv_idiv hx hb dL_wants_72 (by decide) ?_
        refine z_top (y := (nI (vx / 8))) (z_div (a := vx) (d := 8) (by omega) (by omega) (by omega)) ?_
        refine lv_iconst (v := 3) hx hb dL_wants_73 (by decide) ?_
        refine lv_irem hx hb dL_wants_74 (by decide) ?_
        refine z_top (y := (nI ((vx / 8) % 3))) (z_rem (a := (vx / 8)) (d := 3) (by omega) (by omega) (by omega)) ?_
        refine lv_if_ne (tgt := 82) hx hb dL_wants_75 (by decide) (fun c_31 => ?_) (fun c_31 => ?_)
        · have c_31 := mt (nI_eq (a := (vx / 8) % 3) (b := 0) (by omega) (by omega)).mpr c_31
          refine lv_iload hx hb dL_wants_82 (lv_at hl 1 rfl) ?_
          refine lv_iload_n hx hb dL_wants_84 rfl (lv_at hl 8 rfl) ?_
          refine lv_bipush (v := 24) hx hb dL_wants_85 (by decide) ?_
          refine lv_idiv hx hb dL_wants_87 (by decide) ?_
          refine z_top (y := (nI (vx / 24))) (z_div (a := vx) (d := 24) (by omega) (by omega) (by omega)) ?_
          refine lv_iload hx hb dL_wants_88 (lv_at hl 0 rfl) ?_
          refine lv_iload hx hb dL_wants_90 (lv_at hl 1 rfl) ?_
          refine lv_isub hx hb dL_wants_92 ?_
          refine z_top (y := (nI (lt + mz - lt))) (z_sub (by omega)) ?_
          refine lv_iconst (v := 1) hx hb dL_wants_93 (by decide) ?_
          refine lv_iadd hx hb dL_wants_94 ?_
          refine z_top (y := (nI (lt + mz - lt + 1))) (z_add (lt + mz - lt) 1) ?_
          refine lv_irem hx hb dL_wants_95 (nI_n0 (by omega) (by omega)) ?_
          refine z_top (y := (nI ((vx / 24) % (lt + mz - lt + 1)))) (z_rem (a := (vx / 24)) (d := (lt + mz - lt + 1)) (by omega) (by omega) (by omega)) ?_
          obtain ⟨wz, ewz, hwz⟩ := z_modv (vx / 24) (d := lt + mz - lt + 1) (by omega)
          refine z_top (y := (nI wz)) (congrArg nI ewz) ?_
          refine lv_iadd hx hb dL_wants_96 ?_
          refine z_top (y := (nI (lt + wz))) (z_add lt wz) ?_
          exact kJ _ _ _ _ ⟨(nI (lt + wz)), rfl, hP, hD, hS, lv_sub hl [0, 1, 2, 3, 4, 5, 6, 7, 8, 9, 10] rfl, (Or.inr (inr_nI (by omega) (by omega) (by omega))), (okv_nI (by omega))⟩
        · have c_31 := (nI_eq (a := (vx / 8) % 3) (b := 0) (by omega) (by omega)).mp c_31
          refine lv_iconst (v := (-1)) hx hb dL_wants_78 (by decide) ?_
          refine lv_goto (tgt := 97) hx hb dL_wants_79 (by decide) ?_
          exact kJ _ _ _ _ ⟨(-1), rfl, hP, hD, hS, lv_sub hl [0, 1, 2, 3, 4, 5, 6, 7, 8, 9, 10] rfl, (Or.inl rfl), (Or.inl rfl)⟩
    · skip
      refine lv_iload_n hx hb dL_wants_35 rfl (lv_at hl 7 rfl) ?_
      refine lv_iconst (v := 3) hx hb dL_wants_36 (by decide) ?_
      refine lv_irem hx hb dL_wants_37 (by decide) ?_
      refine z_top (y := (nI (vy % 3))) (z_rem (a := vy) (d := 3) (by omega) (by omega) (by omega)) ?_
      refine lv_if_ne (tgt := 45) hx hb dL_wants_38 (by decide) (fun c_32 => ?_) (fun c_32 => ?_)
      · have c_32 := mt (nI_eq (a := vy % 3) (b := 0) (by omega) (by omega)).mpr c_32
        refine lv_iload_n hx hb dL_wants_45 rfl (lv_at hl 7 rfl) ?_
        refine lv_iconst (v := 3) hx hb dL_wants_46 (by decide) ?_
        refine lv_idiv hx hb dL_wants_47 (by decide) ?_
        refine z_top (y := (nI (vy / 3))) (z_div (a := vy) (d := 3) (by omega) (by omega) (by omega)) ?_
        refine lv_bipush (v := 101) hx hb dL_wants_48 (by decide) ?_
        refine lv_irem hx hb dL_wants_50 (by decide) ?_
        refine z_top (y := (nI ((vy / 3) % 101))) (z_rem (a := (vy / 3)) (d := 101) (by omega) (by omega) (by omega)) ?_
        exact kJ _ _ _ _ ⟨(vy / 3) % 101, rfl, hP, hD, hS, lv_sub hl [0, 1, 2, 3, 4, 5, 6, 7, 8] rfl, (by omega)⟩
      · have c_32 := (nI_eq (a := vy % 3) (b := 0) (by omega) (by omega)).mp c_32
        refine lv_iconst (v := 0) hx hb dL_wants_41 (by decide) ?_
        refine lv_goto (tgt := 51) hx hb dL_wants_42 (by decide) ?_
        exact kJ _ _ _ _ ⟨0, rfl, hP, hD, hS, lv_sub hl [0, 1, 2, 3, 4, 5, 6, 7, 8] rfl, (by omega)⟩
set_option maxHeartbeats 4000000 in
set_option maxRecDepth 100000 in
/-- wants(o, 1, x, y, w), the end 0 -/
theorem c_wants_01 (l : Launch) (D : va_G) (cA : Nat → ClassId) (zv : Nat → Nat) (sz : Nat) (o F G : Nat) (nw se : Int32) (pa : Nat → Nat) (an ln : Nat) (x y : Nat → Nat) (vx vy : Nat) (xv yv : Nat → Int32) (xr yr : Nat → Nat → Int32) (xf yf : Nat) (QX QY : Qt) (xd yd : Nat → Nat → Int32) (B gv qv : Nat) (wa : Nat) (ww : Nat → Int32) (hl0 : l.stackTraces = false) (he : en 0 F G (x 0) (y 0)) (hvx : vx % 2 = 0) (hvb : vx < 1073741824) (hvc : vy < 1073741824) (hPW : PW B gv qv xv xd QX yv yd QY) (hWr : WRe 0 xd ww) (hWr2 : WRe 1 yd ww) : Met l yL_wants wsL_wants ({ frames := 12, cells := 1, slots := 6, locals := 196 }) (va_Pc [.ref o, .int 1, .int (nI vx), .int (nI vy), .ref wa] (zUX D cA zv sz [(o, .inr (4, [.ref F, .ref G, .int (nI qv), .int nw, .int se, .ref (pa 0), .ref an, .ref ln])), cE x xv, (x 1, .inl (cA 0, 4, .inl (xd 0))), (x 2, .inl (cA 0, 4, .inl (xd 1))), (x 3, .inl (cA 0, 4, .inl (xd 2))), (x 4, .inl (cA 0, 4, .inl (xd 3))), (x 5, .inl (cA 0, 4, .inl (xd 4))), (x 6, .inl (cA 1, 4, .inl (xd 5))), (x 7, .inl (cA 0, 4, .inl (xd 6))), (x 8, .inl (cA 0, 4, .inl (xd 7))), cE y yv, (wa, .inl (cA 0, 48, .inl ww))])) (va_Qi (fun (r : Int32) (u : ((Nat → Nat → Int32) × (Nat → Int32))) => PW (B + 1) gv qv xv u.1 QX yv yd QY ∧ WRe 0 u.1 u.2 ∧ WRe 1 yd u.2 ∧ r = 1) (fun (u : ((Nat → Nat → Int32) × (Nat → Int32))) t => zB D [(o, .inr (4, [.ref F, .ref G, .int (nI qv), .int nw, .int se, .ref (pa 0), .ref an, .ref ln])), cE x xv, (x 1, .inl (cA 0, 4, .inl (xd 0))), (x 2, .inl (cA 0, 4, .inl (xd 1))), (x 3, .inl (cA 0, 4, .inl (xd 2))), (x 4, .inl (cA 0, 4, .inl (xd 3))), (x 5, .inl (cA 0, 4, .inl (xd 4))), (x 6, .inl (cA 1, 4, .inl (xd 5))), (x 7, .inl (cA 0, 4, .inl (xd 6))), (x 8, .inl (cA 0, 4, .inl (xd 7))), cE y yv, (wa, .inl (cA 0, 48, .inl ww))] sz [(o, .inr (4, [.ref F, .ref G, .int (nI qv), .int nw, .int se, .ref (pa 0), .ref an, .ref ln])), cE x xv, (x 1, .inl (cA 0, 4, .inl (u.1 0))), (x 2, .inl (cA 0, 4, .inl (u.1 1))), (x 3, .inl (cA 0, 4, .inl (u.1 2))), (x 4, .inl (cA 0, 4, .inl (u.1 3))), (x 5, .inl (cA 0, 4, .inl (u.1 4))), (x 6, .inl (cA 1, 4, .inl (u.1 5))), (x 7, .inl (cA 0, 4, .inl (u.1 6))), (x 8, .inl (cA 0, 4, .inl (u.1 7))), cE y yv, (wa, .inl (cA 0, 48, .inl u.2))] t) (va_A [(o, .inr (4, [.ref F, .ref G, .int (nI qv), .int nw, .int se, .ref (pa 0), .ref an, .ref ln])), cE x xv, (x 1, .inl (cA 0, 4, .inl (xd 0))), (x 2, .inl (cA 0, 4, .inl (xd 1))), (x 3, .inl (cA 0, 4, .inl (xd 2))), (x 4, .inl (cA 0, 4, .inl (xd 3))), (x 5, .inl (cA 0, 4, .inl (xd 4))), (x 6, .inl (cA 1, 4, .inl (xd 5))), (x 7, .inl (cA 0, 4, .inl (xd 6))), (x 8, .inl (cA 0, 4, .inl (xd 7))), cE y yv, (wa, .inl (cA 0, 48, .inl ww))] sz)) 1 6 (va_A [(o, .inr (4, [.ref F, .ref G, .int (nI qv), .int nw, .int se, .ref (pa 0), .ref an, .ref ln])), cE x xv, (x 1, .inl (cA 0, 4, .inl (xd 0))), (x 2, .inl (cA 0, 4, .inl (xd 1))), (x 3, .inl (cA 0, 4, .inl (xd 2))), (x 4, .inl (cA 0, 4, .inl (xd 3))), (x 5, .inl (cA 0, 4, .inl (xd 4))), (x 6, .inl (cA 1, 4, .inl (xd 5))), (x 7, .inl (cA 0, 4, .inl (xd 6))), (x 8, .inl (cA 0, 4, .inl (xd 7))), cE y yv, (wa, .inl (cA 0, 48, .inl ww))] sz) := by
  refine Met.ofW (cc := cL_wants) (maxL := 15) (ret := (some .boolean)) (by decide) rfl ?_
  intro p e s m args below meth c s₁ B hml hv
  obtain ⟨rfl, ⟨hsz, hP, hK, hD0, hE0⟩, hX0⟩ := hv
  have hx := B.exec
  have hb := B.bytes
  have hr := B.returns
  have hts := atoms_spec (ws := wsL_wants) B.pre
  have hown : s.vm.findClass RL = some m.cls := findClass_of_methodNamed B.named
  have hlocks := B.notSynchronized
  subst hsz
  have hD := hD0.self (sz := s.heap.size)
  generalize hAe : va_A [(o, .inr (4, [.ref F, .ref G, .int (nI qv), .int nw, .int se, .ref (pa 0), .ref an, .ref ln])), cE x xv, (x 1, .inl (cA 0, 4, .inl (xd 0))), (x 2, .inl (cA 0, 4, .inl (xd 1))), (x 3, .inl (cA 0, 4, .inl (xd 2))), (x 4, .inl (cA 0, 4, .inl (xd 3))), (x 5, .inl (cA 0, 4, .inl (xd 4))), (x 6, .inl (cA 1, 4, .inl (xd 5))), (x 7, .inl (cA 0, 4, .inl (xd 6))), (x 8, .inl (cA 0, 4, .inl (xd 7))), cE y yv, (wa, .inl (cA 0, 48, .inl ww))] s.heap.size = A at hD hE0 hX0 ⊢
  have hA : ∀ q : Nat, s.heap.size ≤ q → A q := fun q h => by rw [← hAe]; exact Or.inr h
  have hS : va_S A s.heap s.heap [] := va_S.rf
  have hl := lv_entry ([.ref o, .int 1, .int (nI vx), .int (nI vy), .ref wa]) (n := 15) (Nat.le_of_ble_eq_true rfl)
  rw [lg_entry_eq]
  generalize (lg_sl ([.ref o, .int 1, .int (nI vx), .int (nI vy), .ref wa]) ++ List.replicate (15 - (lg_sl ([.ref o, .int 1, .int (nI vx), .int (nI vy), .ref wa])).length) Slot.unset).toArray = ls at hl ⊢
  have hl : lv_has ls 15 [(0, .ref o), (1, .int 1), (2, .int (nI vx)), (3, .int (nI vy)), (4, .ref wa)] := hl
  obtain ⟨sx, kx, tx, sy, ky, ty, hI, hbx, hby⟩ := hPW
  obtain ⟨hx0, hx2, hx3, hx7, hx10, hx4⟩ := id hI.1.1
  obtain ⟨hy0, hy2, hy3, hy7, hy10, hy4⟩ := id hI.1.2
  have hQx := hI.2.2.2.1.1
  have hQy := hI.2.2.2.1.2
  have hq1 := hI.2.2.2.2.1
  refine lv_iload_n hx hb dL_wants_0 rfl (lv_at hl 2 rfl) ?_
  refine lv_iconst (v := 2) hx hb dL_wants_1 (by decide) ?_
  refine lv_irem hx hb dL_wants_2 (by decide) ?_
  refine z_top (y := (nI (vx % 2))) (z_rem (a := vx) (d := 2) (by omega) (by omega) (by omega)) ?_
  refine z_top (y := 0) (congrArg nI hvx) ?_
  refine lv_istore (lv' := [(5, .int 0), (0, .ref o), (1, .int 1), (2, .int (nI vx)), (3, .int (nI vy)), (4, .ref wa)]) hx hb dL_wants_3 hl (by decide) rfl (fun ls hl => ?_)
  refine lv_iload_n hx hb dL_wants_5 rfl (lv_at hl 3 rfl) ?_
  refine lv_iconst (v := 2) hx hb dL_wants_6 (by decide) ?_
  refine lv_idiv hx hb dL_wants_7 (by decide) ?_
  refine z_top (y := (nI (vx / 2))) (z_div (a := vx) (d := 2) (by omega) (by omega) (by omega)) ?_
  refine lv_iconst (v := 4) hx hb dL_wants_8 (by decide) ?_
  refine lv_irem hx hb dL_wants_9 (by decide) ?_
  refine z_top (y := (nI ((vx / 2) % 4))) (z_rem (a := (vx / 2)) (d := 4) (by omega) (by omega) (by omega)) ?_
  obtain ⟨op, eop, hop⟩ := z_modv (vx / 2) (d := 4) (by decide)
  refine z_top (y := (nI op)) (congrArg nI eop) ?_
  refine lv_istore (lv' := [(6, .int (nI op)), (5, .int 0), (0, .ref o), (1, .int 1), (2, .int (nI vx)), (3, .int (nI vy)), (4, .ref wa)]) hx hb dL_wants_10 hl (by decide) rfl (fun ls hl => ?_)
  refine lv_bipush (v := 6) hx hb dL_wants_12 (by decide) ?_
  refine lv_iconst (v := 4) hx hb dL_wants_14 (by decide) ?_
  refine lv_iload hx hb dL_wants_15 (lv_at hl 1 rfl) ?_
  refine lv_imul hx hb dL_wants_17 ?_
  refine z_top (y := 0) (by decide) ?_
  refine lv_iload hx hb dL_wants_18 (lv_at hl 0 rfl) ?_
  refine lv_iadd hx hb dL_wants_20 ?_
  refine z_top (y := (nI op)) (Int32.zero_add _) ?_
  refine lv_imul hx hb dL_wants_21 ?_
  refine z_top (y := (nI (6 * op))) (z_mul 6 op) ?_
  refine lv_istore (lv' := [(7, .int (nI (6 * op))), (6, .int (nI op)), (5, .int 0), (0, .ref o), (1, .int 1), (2, .int (nI vx)), (3, .int (nI vy)), (4, .ref wa)]) hx hb dL_wants_22 hl (by decide) rfl (fun ls hl => ?_)
  refine lv_aload_n hx hb dL_wants_24 rfl (lv_at hl 3 rfl) ?_
  refine lv_iload hx hb dL_wants_25 (lv_at hl 2 rfl) ?_
  have hPc := hP.sub (ws' := [(o, .inr (4, [.ref F, .ref G, .int (nI qv), .int nw, .int se, .ref (pa 0), .ref an, .ref ln])), cE x xv]) [0, 1] rfl
  have hDc := hD.sub (ws' := [(o, .inr (4, [.ref F, .ref G, .int (nI qv), .int nw, .int se, .ref (pa 0), .ref an, .ref ln])), cE x xv]) [0, 1] (by decide) rfl
  have hFc := va_free (wc := [(o, .inr (4, [.ref F, .ref G, .int (nI qv), .int nw, .int se, .ref (pa 0), .ref an, .ref ln])), cE x xv]) hD hS hA [0, 1] rfl
  refine va_calli (va_runV (As := [.int 0]) (rest := []) ⟨hx, hb, hml, hown, hts⟩ (c_X3_state_k l D cA s.heap.size o F G (nI qv) nw se pa an ln x (y 0) 0 xv (by first | exact he | exact en_flip he | exact en_01 he | exact en_10 he)) (cwV 1 hts gL_wants_X3_state rfl rfl rfl (by decide +kernel) ⟨Nat.le_of_ble_eq_true rfl, Nat.le_of_ble_eq_true rfl⟩) ⟨zU_blind, va_recv hK hPc (ci := 4) (q0 := 0) rfl rfl, fun U hU hW => ⟨rfl, zU_call hU hPc hW.alike hK hDc⟩⟩ rfl rfl hl.1 rfl (lv_room (Nat.le_of_ble_eq_true rfl)) dL_wants_27 ⟨(Nat.zero_le _), (Nat.zero_le _)⟩) hS (fun q _ h => hFc q h) hFc (fun zr u t H1 locs ht hvm hw hB hz1 hk1 hS => ?_)
  obtain ⟨hP1, hD1⟩ := hB
  rw [ht] at hP1
  obtain ⟨hP, hD⟩ := va_join (wr := [(x 1, .inl (cA 0, 4, .inl (xd 0))), (x 2, .inl (cA 0, 4, .inl (xd 1))), (x 3, .inl (cA 0, 4, .inl (xd 2))), (x 4, .inl (cA 0, 4, .inl (xd 3))), (x 5, .inl (cA 0, 4, .inl (xd 4))), (x 6, .inl (cA 1, 4, .inl (xd 5))), (x 7, .inl (cA 0, 4, .inl (xd 6))), (x 8, .inl (cA 0, 4, .inl (xd 7))), cE y yv, (wa, .inl (cA 0, 48, .inl ww))]) (w1 := [(o, .inr (4, [.ref F, .ref G, .int (nI qv), .int nw, .int se, .ref (pa 0), .ref an, .ref ln])), cE x xv]) hP hD [0, 1] [2, 3, 4, 5, 6, 7, 8, 9, 10, 11] rfl rfl (by decide) (by decide) hk1 hFc hP1 hD1
  generalize H1 = H at hP hS ⊢
  have hP := hP.sub (ws' := [(o, .inr (4, [.ref F, .ref G, .int (nI qv), .int nw, .int se, .ref (pa 0), .ref an, .ref ln])), cE x xv, (x 1, .inl (cA 0, 4, .inl (xd 0))), (x 2, .inl (cA 0, 4, .inl (xd 1))), (x 3, .inl (cA 0, 4, .inl (xd 2))), (x 4, .inl (cA 0, 4, .inl (xd 3))), (x 5, .inl (cA 0, 4, .inl (xd 4))), (x 6, .inl (cA 1, 4, .inl (xd 5))), (x 7, .inl (cA 0, 4, .inl (xd 6))), (x 8, .inl (cA 0, 4, .inl (xd 7))), cE y yv, (wa, .inl (cA 0, 48, .inl ww))]) [10, 11, 0, 1, 2, 3, 4, 5, 6, 7, 8, 9] rfl
  have hD := hD.sub (ws' := [(o, .inr (4, [.ref F, .ref G, .int (nI qv), .int nw, .int se, .ref (pa 0), .ref an, .ref ln])), cE x xv, (x 1, .inl (cA 0, 4, .inl (xd 0))), (x 2, .inl (cA 0, 4, .inl (xd 1))), (x 3, .inl (cA 0, 4, .inl (xd 2))), (x 4, .inl (cA 0, 4, .inl (xd 3))), (x 5, .inl (cA 0, 4, .inl (xd 4))), (x 6, .inl (cA 1, 4, .inl (xd 5))), (x 7, .inl (cA 0, 4, .inl (xd 6))), (x 8, .inl (cA 0, 4, .inl (xd 7))), cE y yv, (wa, .inl (cA 0, 48, .inl ww))]) [10, 11, 0, 1, 2, 3, 4, 5, 6, 7, 8, 9] (by decide) rfl
  clear hPc hDc hFc hP1 hD1 hk1 hz1
  have hw_1 := hw
  obtain rfl := hw
  refine z_top (y := (nI sx)) hx0 ?_
  have hPc := hP.sub (ws' := []) [] rfl
  have hDc := hD.sub (ws' := []) [] (by decide) rfl
  have hFc := va_free (wc := []) hD hS hA [] rfl
  refine va_calli (va_runS (As := [.int (nI sx)]) (rest := []) ⟨hx, hb, hml, hown, hts⟩ (c_L_isShut l D cA H.size sx (by omega)) (va_cwS 1 hts gL_wants_L_isShut rfl rfl rfl (by decide +kernel) ⟨Nat.le_of_ble_eq_true rfl, Nat.le_of_ble_eq_true rfl⟩) ⟨zU_blind, fun U hU hW => ⟨rfl, zU_call hU hPc hW.alike hK hDc⟩⟩ rfl rfl hl.1 rfl (lv_room (Nat.le_of_ble_eq_true rfl)) dL_wants_30 ⟨(Nat.zero_le _), (Nat.zero_le _)⟩) hS (fun q _ h => hFc q h) hFc (fun zr u t H1 locs ht hvm hw hB hz1 hk1 hS => ?_)
  obtain ⟨hP1, hD1⟩ := hB
  rw [ht] at hP1
  obtain ⟨hP, hD⟩ := va_join (wr := [(o, .inr (4, [.ref F, .ref G, .int (nI qv), .int nw, .int se, .ref (pa 0), .ref an, .ref ln])), cE x xv, (x 1, .inl (cA 0, 4, .inl (xd 0))), (x 2, .inl (cA 0, 4, .inl (xd 1))), (x 3, .inl (cA 0, 4, .inl (xd 2))), (x 4, .inl (cA 0, 4, .inl (xd 3))), (x 5, .inl (cA 0, 4, .inl (xd 4))), (x 6, .inl (cA 1, 4, .inl (xd 5))), (x 7, .inl (cA 0, 4, .inl (xd 6))), (x 8, .inl (cA 0, 4, .inl (xd 7))), cE y yv, (wa, .inl (cA 0, 48, .inl ww))]) (w1 := []) hP hD [] [0, 1, 2, 3, 4, 5, 6, 7, 8, 9, 10, 11] rfl rfl (by decide) (by decide) hk1 hFc hP1 hD1
  generalize H1 = H at hP hS ⊢
  have hP := hP.sub (ws' := [(o, .inr (4, [.ref F, .ref G, .int (nI qv), .int nw, .int se, .ref (pa 0), .ref an, .ref ln])), cE x xv, (x 1, .inl (cA 0, 4, .inl (xd 0))), (x 2, .inl (cA 0, 4, .inl (xd 1))), (x 3, .inl (cA 0, 4, .inl (xd 2))), (x 4, .inl (cA 0, 4, .inl (xd 3))), (x 5, .inl (cA 0, 4, .inl (xd 4))), (x 6, .inl (cA 1, 4, .inl (xd 5))), (x 7, .inl (cA 0, 4, .inl (xd 6))), (x 8, .inl (cA 0, 4, .inl (xd 7))), cE y yv, (wa, .inl (cA 0, 48, .inl ww))]) [0, 1, 2, 3, 4, 5, 6, 7, 8, 9, 10, 11] rfl
  have hD := hD.sub (ws' := [(o, .inr (4, [.ref F, .ref G, .int (nI qv), .int nw, .int se, .ref (pa 0), .ref an, .ref ln])), cE x xv, (x 1, .inl (cA 0, 4, .inl (xd 0))), (x 2, .inl (cA 0, 4, .inl (xd 1))), (x 3, .inl (cA 0, 4, .inl (xd 2))), (x 4, .inl (cA 0, 4, .inl (xd 3))), (x 5, .inl (cA 0, 4, .inl (xd 4))), (x 6, .inl (cA 1, 4, .inl (xd 5))), (x 7, .inl (cA 0, 4, .inl (xd 6))), (x 8, .inl (cA 0, 4, .inl (xd 7))), cE y yv, (wa, .inl (cA 0, 48, .inl ww))]) [0, 1, 2, 3, 4, 5, 6, 7, 8, 9, 10, 11] (by decide) rfl
  clear hPc hDc hFc hP1 hD1 hk1 hz1
  have hw_2 := hw
  rcases z_bool hw with ⟨h_2, rfl⟩ | ⟨h_2, rfl⟩
  · skip
    refine lv_istore (lv' := [(8, .int 1), (7, .int (nI (6 * op))), (6, .int (nI op)), (5, .int 0), (0, .ref o), (1, .int 1), (2, .int (nI vx)), (3, .int (nI vy)), (4, .ref wa)]) hx hb dL_wants_33 hl (by decide) rfl (fun ls hl => ?_)
    refine z_cut (Inv := fun H locs ls st => ∃ (lt : Nat), st = [.int (nI lt)] ∧ va_P D vwCl [(o, .inr (4, [.ref F, .ref G, .int (nI qv), .int nw, .int se, .ref (pa 0), .ref an, .ref ln])), cE x xv, (x 1, .inl (cA 0, 4, .inl (xd 0))), (x 2, .inl (cA 0, 4, .inl (xd 1))), (x 3, .inl (cA 0, 4, .inl (xd 2))), (x 4, .inl (cA 0, 4, .inl (xd 3))), (x 5, .inl (cA 0, 4, .inl (xd 4))), (x 6, .inl (cA 1, 4, .inl (xd 5))), (x 7, .inl (cA 0, 4, .inl (xd 6))), (x 8, .inl (cA 0, 4, .inl (xd 7))), cE y yv, (wa, .inl (cA 0, 48, .inl ww))] H ∧ va_D A [(o, .inr (4, [.ref F, .ref G, .int (nI qv), .int nw, .int se, .ref (pa 0), .ref an, .ref ln])), cE x xv, (x 1, .inl (cA 0, 4, .inl (xd 0))), (x 2, .inl (cA 0, 4, .inl (xd 1))), (x 3, .inl (cA 0, 4, .inl (xd 2))), (x 4, .inl (cA 0, 4, .inl (xd 3))), (x 5, .inl (cA 0, 4, .inl (xd 4))), (x 6, .inl (cA 1, 4, .inl (xd 5))), (x 7, .inl (cA 0, 4, .inl (xd 6))), (x 8, .inl (cA 0, 4, .inl (xd 7))), cE y yv, (wa, .inl (cA 0, 48, .inl ww))] ∧ va_S A s.heap H locs ∧ lv_has ls 15 [(8, .int 1), (7, .int (nI (6 * op))), (6, .int (nI op)), (5, .int 0), (0, .ref o), (1, .int 1), (2, .int (nI vx)), (3, .int (nI vy)), (4, .ref wa)] ∧ lt ≤ 100) 51 (fun H locs ls st hQ9 => ?_) (fun kJ => ?_)
    · obtain ⟨lt, rfl, hP, hD, hS, hl, hlt⟩ := hQ9
      refine lv_istore (lv' := [(9, .int (nI lt)), (8, .int 1), (7, .int (nI (6 * op))), (6, .int (nI op)), (5, .int 0), (0, .ref o), (1, .int 1), (2, .int (nI vx)), (3, .int (nI vy)), (4, .ref wa)]) hx hb dL_wants_51 hl (by decide) rfl (fun ls hl => ?_)
      refine lv_iload hx hb dL_wants_53 (lv_at hl 0 rfl) ?_
      refine lv_iload_n hx hb dL_wants_55 rfl (lv_at hl 8 rfl) ?_
      refine lv_sipush (v := 303) hx hb dL_wants_56 (by decide) ?_
      refine lv_idiv hx hb dL_wants_59 (by decide) ?_
      refine z_top (y := (nI (vy / 303))) (z_div (a := vy) (d := 303) (by omega) (by omega) (by omega)) ?_
      refine lv_bipush (v := 101) hx hb dL_wants_60 (by decide) ?_
      refine lv_iload hx hb dL_wants_62 (lv_at hl 0 rfl) ?_
      refine lv_isub hx hb dL_wants_64 ?_
      refine z_top (y := (nI (101 - lt))) (z_sub (a := 101) (b := lt) (by omega)) ?_
      refine lv_irem hx hb dL_wants_65 (nI_n0 (by omega) (by omega)) ?_
      refine z_top (y := (nI ((vy / 303) % (101 - lt)))) (z_rem (a := (vy / 303)) (d := (101 - lt)) (by omega) (by omega) (by omega)) ?_
      obtain ⟨mz, emz, hmz⟩ := z_modv (vy / 303) (d := 101 - lt) (by omega)
      refine z_top (y := (nI mz)) (congrArg nI emz) ?_
      refine lv_iadd hx hb dL_wants_66 ?_
      refine z_top (y := (nI (lt + mz))) (z_add lt mz) ?_
      refine lv_istore (lv' := [(10, .int (nI (lt + mz))), (9, .int (nI lt)), (8, .int 1), (7, .int (nI (6 * op))), (6, .int (nI op)), (5, .int 0), (0, .ref o), (1, .int 1), (2, .int (nI vx)), (3, .int (nI vy)), (4, .ref wa)]) hx hb dL_wants_67 hl (by decide) rfl (fun ls hl => ?_)
      refine z_cut (Inv := fun H locs ls st => ∃ (wi : Int32), st = [.int wi] ∧ va_P D vwCl [(o, .inr (4, [.ref F, .ref G, .int (nI qv), .int nw, .int se, .ref (pa 0), .ref an, .ref ln])), cE x xv, (x 1, .inl (cA 0, 4, .inl (xd 0))), (x 2, .inl (cA 0, 4, .inl (xd 1))), (x 3, .inl (cA 0, 4, .inl (xd 2))), (x 4, .inl (cA 0, 4, .inl (xd 3))), (x 5, .inl (cA 0, 4, .inl (xd 4))), (x 6, .inl (cA 1, 4, .inl (xd 5))), (x 7, .inl (cA 0, 4, .inl (xd 6))), (x 8, .inl (cA 0, 4, .inl (xd 7))), cE y yv, (wa, .inl (cA 0, 48, .inl ww))] H ∧ va_D A [(o, .inr (4, [.ref F, .ref G, .int (nI qv), .int nw, .int se, .ref (pa 0), .ref an, .ref ln])), cE x xv, (x 1, .inl (cA 0, 4, .inl (xd 0))), (x 2, .inl (cA 0, 4, .inl (xd 1))), (x 3, .inl (cA 0, 4, .inl (xd 2))), (x 4, .inl (cA 0, 4, .inl (xd 3))), (x 5, .inl (cA 0, 4, .inl (xd 4))), (x 6, .inl (cA 1, 4, .inl (xd 5))), (x 7, .inl (cA 0, 4, .inl (xd 6))), (x 8, .inl (cA 0, 4, .inl (xd 7))), cE y yv, (wa, .inl (cA 0, 48, .inl ww))] ∧ va_S A s.heap H locs ∧ lv_has ls 15 [(10, .int (nI (lt + mz))), (9, .int (nI lt)), (8, .int 1), (7, .int (nI (6 * op))), (6, .int (nI op)), (5, .int 0), (0, .ref o), (1, .int 1), (2, .int (nI vx)), (3, .int (nI vy)), (4, .ref wa)] ∧ (wi = -1 ∨ inr wi (nI lt) (nI (lt + mz))) ∧ okv wi) 97 (fun H locs ls st hQ9 => ?_) (fun kJ => ?_)
      · obtain ⟨wi, rfl, hP, hD, hS, hl, hwi, hwo⟩ := hQ9
        refine lv_istore (lv' := [(11, .int wi), (10, .int (nI (lt + mz))), (9, .int (nI lt)), (8, .int 1), (7, .int (nI (6 * op))), (6, .int (nI op)), (5, .int 0), (0, .ref o), (1, .int 1), (2, .int (nI vx)), (3, .int (nI vy)), (4, .ref wa)]) hx hb dL_wants_97 hl (by decide) rfl (fun ls hl => ?_)
        refine lv_aload_n hx hb dL_wants_99 rfl (lv_at hl 7 rfl) ?_
        refine lv_iconst (v := 0) hx hb dL_wants_100 (by decide) ?_
        have hPc := hP.sub (ws' := [(o, .inr (4, [.ref F, .ref G, .int (nI qv), .int nw, .int se, .ref (pa 0), .ref an, .ref ln])), cE x xv]) [0, 1] rfl
        have hDc := hD.sub (ws' := [(o, .inr (4, [.ref F, .ref G, .int (nI qv), .int nw, .int se, .ref (pa 0), .ref an, .ref ln])), cE x xv]) [0, 1] (by decide) rfl
        have hFc := va_free (wc := [(o, .inr (4, [.ref F, .ref G, .int (nI qv), .int nw, .int se, .ref (pa 0), .ref an, .ref ln])), cE x xv]) hD hS hA [0, 1] rfl
        refine va_calli (va_runV (As := [.int 0]) (rest := []) ⟨hx, hb, hml, hown, hts⟩ (c_X3_state_k l D cA H.size o F G (nI qv) nw se pa an ln x (y 0) 0 xv (by first | exact he | exact en_flip he | exact en_01 he | exact en_10 he)) (cwV 1 hts gL_wants_X3_state rfl rfl rfl (by decide +kernel) ⟨Nat.le_of_ble_eq_true rfl, Nat.le_of_ble_eq_true rfl⟩) ⟨zU_blind, va_recv hK hPc (ci := 4) (q0 := 0) rfl rfl, fun U hU hW => ⟨rfl, zU_call hU hPc hW.alike hK hDc⟩⟩ rfl rfl hl.1 rfl (lv_room (Nat.le_of_ble_eq_true rfl)) dL_wants_101 ⟨(Nat.zero_le _), (Nat.zero_le _)⟩) hS (fun q _ h => hFc q h) hFc (fun zr u t H1 locs ht hvm hw hB hz1 hk1 hS => ?_)
        obtain ⟨hP1, hD1⟩ := hB
        rw [ht] at hP1
        obtain ⟨hP, hD⟩ := va_join (wr := [(x 1, .inl (cA 0, 4, .inl (xd 0))), (x 2, .inl (cA 0, 4, .inl (xd 1))), (x 3, .inl (cA 0, 4, .inl (xd 2))), (x 4, .inl (cA 0, 4, .inl (xd 3))), (x 5, .inl (cA 0, 4, .inl (xd 4))), (x 6, .inl (cA 1, 4, .inl (xd 5))), (x 7, .inl (cA 0, 4, .inl (xd 6))), (x 8, .inl (cA 0, 4, .inl (xd 7))), cE y yv, (wa, .inl (cA 0, 48, .inl ww))]) (w1 := [(o, .inr (4, [.ref F, .ref G, .int (nI qv), .int nw, .int se, .ref (pa 0), .ref an, .ref ln])), cE x xv]) hP hD [0, 1] [2, 3, 4, 5, 6, 7, 8, 9, 10, 11] rfl rfl (by decide) (by decide) hk1 hFc hP1 hD1
        generalize H1 = H at hP hS ⊢
        have hP := hP.sub (ws' := [(o, .inr (4, [.ref F, .ref G, .int (nI qv), .int nw, .int se, .ref (pa 0), .ref an, .ref ln])), cE x xv, (x 1, .inl (cA 0, 4, .inl (xd 0))), (x 2, .inl (cA 0, 4, .inl (xd 1))), (x 3, .inl (cA 0, 4, .inl (xd 2))), (x 4, .inl (cA 0, 4, .inl (xd 3))), (x 5, .inl (cA 0, 4, .inl (xd 4))), (x 6, .inl (cA 1, 4, .inl (xd 5))), (x 7, .inl (cA 0, 4, .inl (xd 6))), (x 8, .inl (cA 0, 4, .inl (xd 7))), cE y yv, (wa, .inl (cA 0, 48, .inl ww))]) [10, 11, 0, 1, 2, 3, 4, 5, 6, 7, 8, 9] rfl
        have hD := hD.sub (ws' := [(o, .inr (4, [.ref F, .ref G, .int (nI qv), .int nw, .int se, .ref (pa 0), .ref an, .ref ln])), cE x xv, (x 1, .inl (cA 0, 4, .inl (xd 0))), (x 2, .inl (cA 0, 4, .inl (xd 1))), (x 3, .inl (cA 0, 4, .inl (xd 2))), (x 4, .inl (cA 0, 4, .inl (xd 3))), (x 5, .inl (cA 0, 4, .inl (xd 4))), (x 6, .inl (cA 1, 4, .inl (xd 5))), (x 7, .inl (cA 0, 4, .inl (xd 6))), (x 8, .inl (cA 0, 4, .inl (xd 7))), cE y yv, (wa, .inl (cA 0, 48, .inl ww))]) [10, 11, 0, 1, 2, 3, 4, 5, 6, 7, 8, 9] (by decide) rfl
        clear hPc hDc hFc hP1 hD1 hk1 hz1
        have hw_3 := hw
        obtain rfl := hw
        refine z_top (y := (nI sx)) hx0 ?_
        refine lv_bipush (v := 8) hx hb dL_wants_104 (by decide) ?_
        refine lv_aload_n hx hb dL_wants_106 rfl (lv_at hl 7 rfl) ?_
        refine lv_iconst (v := 1) hx hb dL_wants_107 (by decide) ?_
        have hPc := hP.sub (ws' := [(o, .inr (4, [.ref F, .ref G, .int (nI qv), .int nw, .int se, .ref (pa 0), .ref an, .ref ln])), cE y yv]) [0, 10] rfl
        have hDc := hD.sub (ws' := [(o, .inr (4, [.ref F, .ref G, .int (nI qv), .int nw, .int se, .ref (pa 0), .ref an, .ref ln])), cE y yv]) [0, 10] (by decide) rfl
        have hFc := va_free (wc := [(o, .inr (4, [.ref F, .ref G, .int (nI qv), .int nw, .int se, .ref (pa 0), .ref an, .ref ln])), cE y yv]) hD hS hA [0, 10] rfl
        refine va_calli (va_runV (As := [.int 1]) (rest := [.int 8, .int (nI sx)]) ⟨hx, hb, hml, hown, hts⟩ (c_X3_state_k l D cA H.size o F G (nI qv) nw se pa an ln y (x 0) 1 yv (by first | exact he | exact en_flip he | exact en_01 he | exact en_10 he)) (cwV 1 hts gL_wants_X3_state rfl rfl rfl (by decide +kernel) ⟨Nat.le_of_ble_eq_true rfl, Nat.le_of_ble_eq_true rfl⟩) ⟨zU_blind, va_recv hK hPc (ci := 4) (q0 := 0) rfl rfl, fun U hU hW => ⟨rfl, zU_call hU hPc hW.alike hK hDc⟩⟩ rfl rfl hl.1 rfl (lv_room (Nat.le_of_ble_eq_true rfl)) dL_wants_108 ⟨(Nat.zero_le _), (Nat.zero_le _)⟩) hS (fun q _ h => hFc q h) hFc (fun zr u t H1 locs ht hvm hw hB hz1 hk1 hS => ?_)
        obtain ⟨hP1, hD1⟩ := hB
        rw [ht] at hP1
        obtain ⟨hP, hD⟩ := va_join (wr := [cE x xv, (x 1, .inl (cA 0, 4, .inl (xd 0))), (x 2, .inl (cA 0, 4, .inl (xd 1))), (x 3, .inl (cA 0, 4, .inl (xd 2))), (x 4, .inl (cA 0, 4, .inl (xd 3))), (x 5, .inl (cA 0, 4, .inl (xd 4))), (x 6, .inl (cA 1, 4, .inl (xd 5))), (x 7, .inl (cA 0, 4, .inl (xd 6))), (x 8, .inl (cA 0, 4, .inl (xd 7))), (wa, .inl (cA 0, 48, .inl ww))]) (w1 := [(o, .inr (4, [.ref F, .ref G, .int (nI qv), .int nw, .int se, .ref (pa 0), .ref an, .ref ln])), cE y yv]) hP hD [0, 10] [1, 2, 3, 4, 5, 6, 7, 8, 9, 11] rfl rfl (by decide) (by decide) hk1 hFc hP1 hD1
        generalize H1 = H at hP hS ⊢
        have hP := hP.sub (ws' := [(o, .inr (4, [.ref F, .ref G, .int (nI qv), .int nw, .int se, .ref (pa 0), .ref an, .ref ln])), cE x xv, (x 1, .inl (cA 0, 4, .inl (xd 0))), (x 2, .inl (cA 0, 4, .inl (xd 1))), (x 3, .inl (cA 0, 4, .inl (xd 2))), (x 4, .inl (cA 0, 4, .inl (xd 3))), (x 5, .inl (cA 0, 4, .inl (xd 4))), (x 6, .inl (cA 1, 4, .inl (xd 5))), (x 7, .inl (cA 0, 4, .inl (xd 6))), (x 8, .inl (cA 0, 4, .inl (xd 7))), cE y yv, (wa, .inl (cA 0, 48, .inl ww))]) [10, 0, 1, 2, 3, 4, 5, 6, 7, 8, 11, 9] rfl
        have hD := hD.sub (ws' := [(o, .inr (4, [.ref F, .ref G, .int (nI qv), .int nw, .int se, .ref (pa 0), .ref an, .ref ln])), cE x xv, (x 1, .inl (cA 0, 4, .inl (xd 0))), (x 2, .inl (cA 0, 4, .inl (xd 1))), (x 3, .inl (cA 0, 4, .inl (xd 2))), (x 4, .inl (cA 0, 4, .inl (xd 3))), (x 5, .inl (cA 0, 4, .inl (xd 4))), (x 6, .inl (cA 1, 4, .inl (xd 5))), (x 7, .inl (cA 0, 4, .inl (xd 6))), (x 8, .inl (cA 0, 4, .inl (xd 7))), cE y yv, (wa, .inl (cA 0, 48, .inl ww))]) [10, 0, 1, 2, 3, 4, 5, 6, 7, 8, 11, 9] (by decide) rfl
        clear hPc hDc hFc hP1 hD1 hk1 hz1
        have hw_4 := hw
        obtain rfl := hw
        refine z_top (y := (nI sy)) hy0 ?_
        refine lv_imul hx hb dL_wants_111 ?_
        refine z_top (y := (nI (8 * sy))) (z_mul 8 sy) ?_
        refine lv_iadd hx hb dL_wants_112 ?_
        refine z_top (y := (nI (sx + 8 * sy))) (z_add sx (8 * sy)) ?_
        refine lv_istore (lv' := [(12, .int (nI (sx + 8 * sy))), (11, .int wi), (10, .int (nI (lt + mz))), (9, .int (nI lt)), (8, .int 1), (7, .int (nI (6 * op))), (6, .int (nI op)), (5, .int 0), (0, .ref o), (1, .int 1), (2, .int (nI vx)), (3, .int (nI vy)), (4, .ref wa)]) hx hb dL_wants_113 hl (by decide) rfl (fun ls hl => ?_)
        refine lv_iload_n hx hb dL_wants_115 rfl (lv_at hl 9 rfl) ?_
        refine lv_if_ne (tgt := 129) hx hb dL_wants_116 (by decide) (fun _ => ?_) (fun c_5 => absurd c_5 (by decide))
        refine lv_aload hx hb dL_wants_129 (lv_at hl 12 rfl) ?_
        refine lv_iload hx hb dL_wants_131 (lv_at hl 5 rfl) ?_
        refine lv_iconst (v := 5) hx hb dL_wants_133 (by decide) ?_
        refine lv_iadd hx hb dL_wants_134 ?_
        refine z_top (y := (nI (6 * op + 5))) (z_add (6 * op) 5) ?_
        refine z_iald (k := (6 * op + 5)) (v := ((xd 5) op)) hx hb hK hP 11 0 rfl rfl rfl (by omega) (by decide) (wr_at (hWr op hop).2.2.2 (by omega)) dL_wants_135 ?_
        refine lv_istore (lv' := [(13, .int ((xd 5) op)), (12, .int (nI (sx + 8 * sy))), (11, .int wi), (10, .int (nI (lt + mz))), (9, .int (nI lt)), (8, .int 1), (7, .int (nI (6 * op))), (6, .int (nI op)), (5, .int 0), (0, .ref o), (1, .int 1), (2, .int (nI vx)), (3, .int (nI vy)), (4, .ref wa)]) hx hb dL_wants_136 hl (by decide) rfl (fun ls hl => ?_)
        refine lv_aload_n hx hb dL_wants_138 rfl (lv_at hl 9 rfl) ?_
        refine lv_iload_n hx hb dL_wants_139 rfl (lv_at hl 10 rfl) ?_
        refine lv_iload hx hb dL_wants_140 (lv_at hl 8 rfl) ?_
        refine lv_iload hx hb dL_wants_142 (lv_at hl 7 rfl) ?_
        refine lv_iload_n hx hb dL_wants_144 rfl (lv_at hl 10 rfl) ?_
        refine lv_iconst (v := 2) hx hb dL_wants_145 (by decide) ?_
        refine lv_icmp_ne (tgt := 158) hx hb dL_wants_146 (by decide) (fun _ => ?_) (fun c_6 => absurd c_6 (by decide))
        refine lv_iload hx hb dL_wants_158 (lv_at hl 2 rfl) ?_
        refine lv_iload hx hb dL_wants_160 (lv_at hl 4 rfl) ?_
        refine lv_iload hx hb dL_wants_162 (lv_at hl 3 rfl) ?_
        have hPc := hP.sub (ws' := [(o, .inr (4, [.ref F, .ref G, .int (nI qv), .int nw, .int se, .ref (pa 0), .ref an, .ref ln])), cE x xv, (x 4, .inl (cA 0, 4, .inl (xd 3))), (x 5, .inl (cA 0, 4, .inl (xd 4)))]) [0, 1, 5, 6] rfl
        have hDc := hD.sub (ws' := [(o, .inr (4, [.ref F, .ref G, .int (nI qv), .int nw, .int se, .ref (pa 0), .ref an, .ref ln])), cE x xv, (x 4, .inl (cA 0, 4, .inl (xd 3))), (x 5, .inl (cA 0, 4, .inl (xd 4)))]) [0, 1, 5, 6] (by decide) rfl
        have hFc := va_free (wc := [(o, .inr (4, [.ref F, .ref G, .int (nI qv), .int nw, .int se, .ref (pa 0), .ref an, .ref ln])), cE x xv, (x 4, .inl (cA 0, 4, .inl (xd 3))), (x 5, .inl (cA 0, 4, .inl (xd 4)))]) hD hS hA [0, 1, 5, 6] rfl
        refine va_calli (vx_runSW (As := [.ref o, .int 1, .int 0, .int (nI op), .int wi, .int (nI lt), .int (nI (lt + mz))]) (rest := []) ⟨hx, hb, hml, hown, hts⟩ (c_asks_allow_k l D cA H.size o F G (nI qv) nw se pa an ln x (y 0) 0 xv op (nI lt) (nI (lt + mz)) (xd 3) (xd 4) wi (by first | exact he | exact en_flip he | exact en_01 he | exact en_10 he) hop ⟨inr_nI (a := lt) (b := 0) (c := 100) (by omega) (by omega) (by decide), inr_nI (a := lt + mz) (b := lt) (c := 100) (by omega) (by omega) (by decide)⟩ ((s_shut hI).mpr (by omega))) (vx_cwSW 7 hts gL_wants_L_asks rfl rfl rfl (by decide +kernel) ⟨Nat.le_of_ble_eq_true rfl, Nat.le_of_ble_eq_true rfl⟩) ⟨zU_blind, fun U hU hW => ⟨rfl, zU_call hU hPc hW.alike hK hDc⟩⟩ rfl rfl hl.1 rfl (lv_room (Nat.le_of_ble_eq_true rfl)) dL_wants_164 ⟨(Nat.zero_le _), (Nat.zero_le _)⟩) hS (fun q _ h => hFc q h) hFc (fun zr u t H1 locs ht hvm hw hB hz1 hk1 hS => ?_)
        obtain ⟨hP1, hD1⟩ := hB
        rw [ht] at hP1
        obtain ⟨hP, hD⟩ := va_join (wr := [(x 1, .inl (cA 0, 4, .inl (xd 0))), (x 2, .inl (cA 0, 4, .inl (xd 1))), (x 3, .inl (cA 0, 4, .inl (xd 2))), (x 6, .inl (cA 1, 4, .inl (xd 5))), (x 7, .inl (cA 0, 4, .inl (xd 6))), (x 8, .inl (cA 0, 4, .inl (xd 7))), cE y yv, (wa, .inl (cA 0, 48, .inl ww))]) (w1 := [(o, .inr (4, [.ref F, .ref G, .int (nI qv), .int nw, .int se, .ref (pa 0), .ref an, .ref ln])), cE x xv, (x 4, .inl (cA 0, 4, .inl (upd (xd 3) op (nI lt)))), (x 5, .inl (cA 0, 4, .inl (upd (xd 4) op (nI (lt + mz)))))]) hP hD [0, 1, 5, 6] [2, 3, 4, 7, 8, 9, 10, 11] rfl rfl (by decide) (by decide) hk1 hFc hP1 hD1
        generalize H1 = H at hP hS ⊢
        have hP := hP.sub (ws' := [(o, .inr (4, [.ref F, .ref G, .int (nI qv), .int nw, .int se, .ref (pa 0), .ref an, .ref ln])), cE x xv, (x 1, .inl (cA 0, 4, .inl (xd 0))), (x 2, .inl (cA 0, 4, .inl (xd 1))), (x 3, .inl (cA 0, 4, .inl (xd 2))), (x 4, .inl (cA 0, 4, .inl (upd (xd 3) op (nI lt)))), (x 5, .inl (cA 0, 4, .inl (upd (xd 4) op (nI (lt + mz))))), (x 6, .inl (cA 1, 4, .inl (xd 5))), (x 7, .inl (cA 0, 4, .inl (xd 6))), (x 8, .inl (cA 0, 4, .inl (xd 7))), cE y yv, (wa, .inl (cA 0, 48, .inl ww))]) [8, 9, 0, 1, 2, 10, 11, 3, 4, 5, 6, 7] rfl
        have hD := hD.sub (ws' := [(o, .inr (4, [.ref F, .ref G, .int (nI qv), .int nw, .int se, .ref (pa 0), .ref an, .ref ln])), cE x xv, (x 1, .inl (cA 0, 4, .inl (xd 0))), (x 2, .inl (cA 0, 4, .inl (xd 1))), (x 3, .inl (cA 0, 4, .inl (xd 2))), (x 4, .inl (cA 0, 4, .inl (upd (xd 3) op (nI lt)))), (x 5, .inl (cA 0, 4, .inl (upd (xd 4) op (nI (lt + mz))))), (x 6, .inl (cA 1, 4, .inl (xd 5))), (x 7, .inl (cA 0, 4, .inl (xd 6))), (x 8, .inl (cA 0, 4, .inl (xd 7))), cE y yv, (wa, .inl (cA 0, 48, .inl ww))]) [8, 9, 0, 1, 2, 10, 11, 3, 4, 5, 6, 7] (by decide) rfl
        clear hPc hDc hFc hP1 hD1 hk1 hz1
        have hw_7 := hw
        obtain rfl := hw
        refine lv_istore (lv' := [(14, .int 0), (13, .int ((xd 5) op)), (12, .int (nI (sx + 8 * sy))), (11, .int wi), (10, .int (nI (lt + mz))), (9, .int (nI lt)), (8, .int 1), (7, .int (nI (6 * op))), (6, .int (nI op)), (5, .int 0), (0, .ref o), (1, .int 1), (2, .int (nI vx)), (3, .int (nI vy)), (4, .ref wa)]) hx hb dL_wants_167 hl (by decide) rfl (fun ls hl => ?_)
        refine lv_iload hx hb dL_wants_169 (lv_at hl 6 rfl) ?_
        refine lv_if_eq (tgt := 208) hx hb dL_wants_171 (by decide) (fun c_8 => absurd c_8 (by decide)) (fun _ => ?_)
        refine lv_iload_n hx hb dL_wants_174 rfl (lv_at hl 11 rfl) ?_
        refine lv_if_ne (tgt := 208) hx hb dL_wants_175 (by decide) (fun _ => ?_) (fun c_9 => absurd c_9 (by decide))
        refine lv_iload hx hb dL_wants_208 (lv_at hl 6 rfl) ?_
        refine lv_if_eq (tgt := 239) hx hb dL_wants_210 (by decide) (fun c_10 => absurd c_10 (by decide)) (fun _ => ?_)
        refine lv_iload_n hx hb dL_wants_213 rfl (lv_at hl 11 rfl) ?_
        refine lv_iconst (v := 1) hx hb dL_wants_214 (by decide) ?_
        refine lv_icmp_ne (tgt := 239) hx hb dL_wants_215 (by decide) (fun c_11 => absurd c_11 (by decide)) (fun _ => ?_)
        refine lv_aload hx hb dL_wants_218 (lv_at hl 14 rfl) ?_
        refine lv_iload hx hb dL_wants_220 (lv_at hl 7 rfl) ?_
        refine lv_iconst (v := 3) hx hb dL_wants_222 (by decide) ?_
        refine lv_iadd hx hb dL_wants_223 ?_
        refine z_top (y := (nI (6 * op + 3))) (z_add (6 * op) 3) ?_
        refine lv_iload hx hb dL_wants_224 (lv_at hl 5 rfl) ?_
        refine z_iast (k := (6 * op + 3)) hx hb hK hP hD hS 11 0 rfl rfl rfl (by omega) (by decide) dL_wants_226 (fun H locs hP hD hS => ?_)
        have hP : va_P D vwCl [(o, .inr (4, [.ref F, .ref G, .int (nI qv), .int nw, .int se, .ref (pa 0), .ref an, .ref ln])), cE x xv, (x 1, .inl (cA 0, 4, .inl (xd 0))), (x 2, .inl (cA 0, 4, .inl (xd 1))), (x 3, .inl (cA 0, 4, .inl (xd 2))), (x 4, .inl (cA 0, 4, .inl (upd (xd 3) op (nI lt)))), (x 5, .inl (cA 0, 4, .inl (upd (xd 4) op (nI (lt + mz))))), (x 6, .inl (cA 1, 4, .inl (xd 5))), (x 7, .inl (cA 0, 4, .inl (xd 6))), (x 8, .inl (cA 0, 4, .inl (xd 7))), cE y yv, (wa, .inl (cA 0, 48, .inl (upd ww (6 * op + 3) (nI lt))))] H := hP
        have hD : va_D A [(o, .inr (4, [.ref F, .ref G, .int (nI qv), .int nw, .int se, .ref (pa 0), .ref an, .ref ln])), cE x xv, (x 1, .inl (cA 0, 4, .inl (xd 0))), (x 2, .inl (cA 0, 4, .inl (xd 1))), (x 3, .inl (cA 0, 4, .inl (xd 2))), (x 4, .inl (cA 0, 4, .inl (upd (xd 3) op (nI lt)))), (x 5, .inl (cA 0, 4, .inl (upd (xd 4) op (nI (lt + mz))))), (x 6, .inl (cA 1, 4, .inl (xd 5))), (x 7, .inl (cA 0, 4, .inl (xd 6))), (x 8, .inl (cA 0, 4, .inl (xd 7))), cE y yv, (wa, .inl (cA 0, 48, .inl (upd ww (6 * op + 3) (nI lt))))] := hD
        refine lv_aload hx hb dL_wants_227 (lv_at hl 14 rfl) ?_
        refine lv_iload hx hb dL_wants_229 (lv_at hl 7 rfl) ?_
        refine lv_iconst (v := 4) hx hb dL_wants_231 (by decide) ?_
        refine lv_iadd hx hb dL_wants_232 ?_
        refine z_top (y := (nI (6 * op + 4))) (z_add (6 * op) 4) ?_
        refine lv_iload hx hb dL_wants_233 (lv_at hl 4 rfl) ?_
        refine z_iast (k := (6 * op + 4)) hx hb hK hP hD hS 11 0 rfl rfl rfl (by omega) (by decide) dL_wants_235 (fun H locs hP hD hS => ?_)
        have hP : va_P D vwCl [(o, .inr (4, [.ref F, .ref G, .int (nI qv), .int nw, .int se, .ref (pa 0), .ref an, .ref ln])), cE x xv, (x 1, .inl (cA 0, 4, .inl (xd 0))), (x 2, .inl (cA 0, 4, .inl (xd 1))), (x 3, .inl (cA 0, 4, .inl (xd 2))), (x 4, .inl (cA 0, 4, .inl (upd (xd 3) op (nI lt)))), (x 5, .inl (cA 0, 4, .inl (upd (xd 4) op (nI (lt + mz))))), (x 6, .inl (cA 1, 4, .inl (xd 5))), (x 7, .inl (cA 0, 4, .inl (xd 6))), (x 8, .inl (cA 0, 4, .inl (xd 7))), cE y yv, (wa, .inl (cA 0, 48, .inl (upd (upd ww (6 * op + 3) (nI lt)) (6 * op + 4) (nI (lt + mz)))))] H := hP
        have hD : va_D A [(o, .inr (4, [.ref F, .ref G, .int (nI qv), .int nw, .int se, .ref (pa 0), .ref an, .ref ln])), cE x xv, (x 1, .inl (cA 0, 4, .inl (xd 0))), (x 2, .inl (cA 0, 4, .inl (xd 1))), (x 3, .inl (cA 0, 4, .inl (xd 2))), (x 4, .inl (cA 0, 4, .inl (upd (xd 3) op (nI lt)))), (x 5, .inl (cA 0, 4, .inl (upd (xd 4) op (nI (lt + mz))))), (x 6, .inl (cA 1, 4, .inl (xd 5))), (x 7, .inl (cA 0, 4, .inl (xd 6))), (x 8, .inl (cA 0, 4, .inl (xd 7))), cE y yv, (wa, .inl (cA 0, 48, .inl (upd (upd ww (6 * op + 3) (nI lt)) (6 * op + 4) (nI (lt + mz)))))] := hD
        refine lv_goto (tgt := 257) hx hb dL_wants_236 (by decide) ?_
        refine lv_iload hx hb dL_wants_257 (lv_at hl 0 rfl) ?_
        refine lv_iload hx hb dL_wants_259 (lv_at hl 6 rfl) ?_
        refine lv_if_ne (tgt := 269) hx hb dL_wants_261 (by decide) (fun _ => ?_) (fun c_12 => absurd c_12 (by decide))
        refine lv_iload_n hx hb dL_wants_269 rfl (lv_at hl 11 rfl) ?_
        refine lv_iconst (v := 1) hx hb dL_wants_270 (by decide) ?_
        refine lv_icmp_ne (tgt := 278) hx hb dL_wants_271 (by decide) (fun c_13 => absurd c_13 (by decide)) (fun _ => ?_)
        refine lv_iconst (v := 0) hx hb dL_wants_274 (by decide) ?_
        refine lv_goto (tgt := 280) hx hb dL_wants_275 (by decide) ?_
        refine lv_icmp_ne (tgt := 306) hx hb dL_wants_280 (by decide) (fun c_14 => absurd c_14 (by decide)) (fun _ => ?_)
        refine lv_aload_n hx hb dL_wants_283 rfl (lv_at hl 10 rfl) ?_
        refine lv_iconst (v := 0) hx hb dL_wants_284 (by decide) ?_
        have hPc := hP.sub (ws' := [(o, .inr (4, [.ref F, .ref G, .int (nI qv), .int nw, .int se, .ref (pa 0), .ref an, .ref ln])), cE x xv]) [0, 1] rfl
        have hDc := hD.sub (ws' := [(o, .inr (4, [.ref F, .ref G, .int (nI qv), .int nw, .int se, .ref (pa 0), .ref an, .ref ln])), cE x xv]) [0, 1] (by decide) rfl
        have hFc := va_free (wc := [(o, .inr (4, [.ref F, .ref G, .int (nI qv), .int nw, .int se, .ref (pa 0), .ref an, .ref ln])), cE x xv]) hD hS hA [0, 1] rfl
        refine va_calli (va_runV (As := [.int 0]) (rest := []) ⟨hx, hb, hml, hown, hts⟩ (c_X3_state_k l D cA H.size o F G (nI qv) nw se pa an ln x (y 0) 0 xv (by first | exact he | exact en_flip he | exact en_01 he | exact en_10 he)) (cwV 1 hts gL_wants_X3_state rfl rfl rfl (by decide +kernel) ⟨Nat.le_of_ble_eq_true rfl, Nat.le_of_ble_eq_true rfl⟩) ⟨zU_blind, va_recv hK hPc (ci := 4) (q0 := 0) rfl rfl, fun U hU hW => ⟨rfl, zU_call hU hPc hW.alike hK hDc⟩⟩ rfl rfl hl.1 rfl (lv_room (Nat.le_of_ble_eq_true rfl)) dL_wants_285 ⟨(Nat.zero_le _), (Nat.zero_le _)⟩) hS (fun q _ h => hFc q h) hFc (fun zr u t H1 locs ht hvm hw hB hz1 hk1 hS => ?_)
        obtain ⟨hP1, hD1⟩ := hB
        rw [ht] at hP1
        obtain ⟨hP, hD⟩ := va_join (wr := [(x 1, .inl (cA 0, 4, .inl (xd 0))), (x 2, .inl (cA 0, 4, .inl (xd 1))), (x 3, .inl (cA 0, 4, .inl (xd 2))), (x 4, .inl (cA 0, 4, .inl (upd (xd 3) op (nI lt)))), (x 5, .inl (cA 0, 4, .inl (upd (xd 4) op (nI (lt + mz))))), (x 6, .inl (cA 1, 4, .inl (xd 5))), (x 7, .inl (cA 0, 4, .inl (xd 6))), (x 8, .inl (cA 0, 4, .inl (xd 7))), cE y yv, (wa, .inl (cA 0, 48, .inl (upd (upd ww (6 * op + 3) (nI lt)) (6 * op + 4) (nI (lt + mz)))))]) (w1 := [(o, .inr (4, [.ref F, .ref G, .int (nI qv), .int nw, .int se, .ref (pa 0), .ref an, .ref ln])), cE x xv]) hP hD [0, 1] [2, 3, 4, 5, 6, 7, 8, 9, 10, 11] rfl rfl (by decide) (by decide) hk1 hFc hP1 hD1
        generalize H1 = H at hP hS ⊢
        have hP := hP.sub (ws' := [(o, .inr (4, [.ref F, .ref G, .int (nI qv), .int nw, .int se, .ref (pa 0), .ref an, .ref ln])), cE x xv, (x 1, .inl (cA 0, 4, .inl (xd 0))), (x 2, .inl (cA 0, 4, .inl (xd 1))), (x 3, .inl (cA 0, 4, .inl (xd 2))), (x 4, .inl (cA 0, 4, .inl (upd (xd 3) op (nI lt)))), (x 5, .inl (cA 0, 4, .inl (upd (xd 4) op (nI (lt + mz))))), (x 6, .inl (cA 1, 4, .inl (xd 5))), (x 7, .inl (cA 0, 4, .inl (xd 6))), (x 8, .inl (cA 0, 4, .inl (xd 7))), cE y yv, (wa, .inl (cA 0, 48, .inl (upd (upd ww (6 * op + 3) (nI lt)) (6 * op + 4) (nI (lt + mz)))))]) [10, 11, 0, 1, 2, 3, 4, 5, 6, 7, 8, 9] rfl
        have hD := hD.sub (ws' := [(o, .inr (4, [.ref F, .ref G, .int (nI qv), .int nw, .int se, .ref (pa 0), .ref an, .ref ln])), cE x xv, (x 1, .inl (cA 0, 4, .inl (xd 0))), (x 2, .inl (cA 0, 4, .inl (xd 1))), (x 3, .inl (cA 0, 4, .inl (xd 2))), (x 4, .inl (cA 0, 4, .inl (upd (xd 3) op (nI lt)))), (x 5, .inl (cA 0, 4, .inl (upd (xd 4) op (nI (lt + mz))))), (x 6, .inl (cA 1, 4, .inl (xd 5))), (x 7, .inl (cA 0, 4, .inl (xd 6))), (x 8, .inl (cA 0, 4, .inl (xd 7))), cE y yv, (wa, .inl (cA 0, 48, .inl (upd (upd ww (6 * op + 3) (nI lt)) (6 * op + 4) (nI (lt + mz)))))]) [10, 11, 0, 1, 2, 3, 4, 5, 6, 7, 8, 9] (by decide) rfl
        clear hPc hDc hFc hP1 hD1 hk1 hz1
        have hw_15 := hw
        obtain rfl := hw
        refine z_top (y := (nI sx)) hx0 ?_
        refine lv_bipush (v := 8) hx hb dL_wants_288 (by decide) ?_
        refine lv_aload_n hx hb dL_wants_290 rfl (lv_at hl 10 rfl) ?_
        refine lv_iconst (v := 1) hx hb dL_wants_291 (by decide) ?_
        have hPc := hP.sub (ws' := [(o, .inr (4, [.ref F, .ref G, .int (nI qv), .int nw, .int se, .ref (pa 0), .ref an, .ref ln])), cE y yv]) [0, 10] rfl
        have hDc := hD.sub (ws' := [(o, .inr (4, [.ref F, .ref G, .int (nI qv), .int nw, .int se, .ref (pa 0), .ref an, .ref ln])), cE y yv]) [0, 10] (by decide) rfl
        have hFc := va_free (wc := [(o, .inr (4, [.ref F, .ref G, .int (nI qv), .int nw, .int se, .ref (pa 0), .ref an, .ref ln])), cE y yv]) hD hS hA [0, 10] rfl
        refine va_calli (va_runV (As := [.int 1]) (rest := [.int 8, .int (nI sx)]) ⟨hx, hb, hml, hown, hts⟩ (c_X3_state_k l D cA H.size o F G (nI qv) nw se pa an ln y (x 0) 1 yv (by first | exact he | exact en_flip he | exact en_01 he | exact en_10 he)) (cwV 1 hts gL_wants_X3_state rfl rfl rfl (by decide +kernel) ⟨Nat.le_of_ble_eq_true rfl, Nat.le_of_ble_eq_true rfl⟩) ⟨zU_blind, va_recv hK hPc (ci := 4) (q0 := 0) rfl rfl, fun U hU hW => ⟨rfl, zU_call hU hPc hW.alike hK hDc⟩⟩ rfl rfl hl.1 rfl (lv_room (Nat.le_of_ble_eq_true rfl)) dL_wants_292 ⟨(Nat.zero_le _), (Nat.zero_le _)⟩) hS (fun q _ h => hFc q h) hFc (fun zr u t H1 locs ht hvm hw hB hz1 hk1 hS => ?_)
        obtain ⟨hP1, hD1⟩ := hB
        rw [ht] at hP1
        obtain ⟨hP, hD⟩ := va_join (wr := [cE x xv, (x 1, .inl (cA 0, 4, .inl (xd 0))), (x 2, .inl (cA 0, 4, .inl (xd 1))), (x 3, .inl (cA 0, 4, .inl (xd 2))), (x 4, .inl (cA 0, 4, .inl (upd (xd 3) op (nI lt)))), (x 5, .inl (cA 0, 4, .inl (upd (xd 4) op (nI (lt + mz))))), (x 6, .inl (cA 1, 4, .inl (xd 5))), (x 7, .inl (cA 0, 4, .inl (xd 6))), (x 8, .inl (cA 0, 4, .inl (xd 7))), (wa, .inl (cA 0, 48, .inl (upd (upd ww (6 * op + 3) (nI lt)) (6 * op + 4) (nI (lt + mz)))))]) (w1 := [(o, .inr (4, [.ref F, .ref G, .int (nI qv), .int nw, .int se, .ref (pa 0), .ref an, .ref ln])), cE y yv]) hP hD [0, 10] [1, 2, 3, 4, 5, 6, 7, 8, 9, 11] rfl rfl (by decide) (by decide) hk1 hFc hP1 hD1
        generalize H1 = H at hP hS ⊢
        have hP := hP.sub (ws' := [(o, .inr (4, [.ref F, .ref G, .int (nI qv), .int nw, .int se, .ref (pa 0), .ref an, .ref ln])), cE x xv, (x 1, .inl (cA 0, 4, .inl (xd 0))), (x 2, .inl (cA 0, 4, .inl (xd 1))), (x 3, .inl (cA 0, 4, .inl (xd 2))), (x 4, .inl (cA 0, 4, .inl (upd (xd 3) op (nI lt)))), (x 5, .inl (cA 0, 4, .inl (upd (xd 4) op (nI (lt + mz))))), (x 6, .inl (cA 1, 4, .inl (xd 5))), (x 7, .inl (cA 0, 4, .inl (xd 6))), (x 8, .inl (cA 0, 4, .inl (xd 7))), cE y yv, (wa, .inl (cA 0, 48, .inl (upd (upd ww (6 * op + 3) (nI lt)) (6 * op + 4) (nI (lt + mz)))))]) [10, 0, 1, 2, 3, 4, 5, 6, 7, 8, 11, 9] rfl
        have hD := hD.sub (ws' := [(o, .inr (4, [.ref F, .ref G, .int (nI qv), .int nw, .int se, .ref (pa 0), .ref an, .ref ln])), cE x xv, (x 1, .inl (cA 0, 4, .inl (xd 0))), (x 2, .inl (cA 0, 4, .inl (xd 1))), (x 3, .inl (cA 0, 4, .inl (xd 2))), (x 4, .inl (cA 0, 4, .inl (upd (xd 3) op (nI lt)))), (x 5, .inl (cA 0, 4, .inl (upd (xd 4) op (nI (lt + mz))))), (x 6, .inl (cA 1, 4, .inl (xd 5))), (x 7, .inl (cA 0, 4, .inl (xd 6))), (x 8, .inl (cA 0, 4, .inl (xd 7))), cE y yv, (wa, .inl (cA 0, 48, .inl (upd (upd ww (6 * op + 3) (nI lt)) (6 * op + 4) (nI (lt + mz)))))]) [10, 0, 1, 2, 3, 4, 5, 6, 7, 8, 11, 9] (by decide) rfl
        clear hPc hDc hFc hP1 hD1 hk1 hz1
        have hw_16 := hw
        obtain rfl := hw
        refine z_top (y := (nI sy)) hy0 ?_
        refine lv_imul hx hb dL_wants_295 ?_
        refine z_top (y := (nI (8 * sy))) (z_mul 8 sy) ?_
        refine lv_iadd hx hb dL_wants_296 ?_
        refine z_top (y := (nI (sx + 8 * sy))) (z_add sx (8 * sy)) ?_
        refine lv_iload hx hb dL_wants_297 (lv_at hl 2 rfl) ?_
        refine lv_icmp_ne (tgt := 306) hx hb dL_wants_299 (by decide) (fun c_17 => absurd rfl c_17) (fun _ => ?_)
        refine lv_iconst (v := 1) hx hb dL_wants_302 (by decide) ?_
        refine lv_goto (tgt := 307) hx hb dL_wants_303 (by decide) ?_
        refine W.widen (k := 1) (n := 6) (by omega) (by omega) ?_
        exact W.zret (v := 1) hx hb hr rfl (fun t ht hW => ⟨⟨1, ((va_up (va_up xd 3 (upd (xd 3) op (nI lt))) 4 (upd (xd 4) op (nI (lt + mz)))), upd (upd ww (6 * op + 3) (nI lt)) (6 * op + 4) (nI (lt + mz))), rfl, ⟨⟨sx, kx, tx, sy, ky, ty, allow_t hI (by omega) (by omega) (by omega), by omega, by omega⟩, WRe_allow hWr hop (by omega) (by omega), WRe_oth (i := 0) (e := 0) (b := 4) (WRe_oth (i := 0) (e := 0) (b := 3) (hWr2) (by decide) hop (by omega) (by decide)) (by decide) hop (by omega) (by decide), rfl⟩, ⟨by rw [ht]; exact hP, by rw [hAe]; exact hD⟩⟩, hS.F ht⟩) hS.2.2 dL_wants_307
      · skip
        refine lv_iload_n hx hb dL_wants_69 rfl (lv_at hl 8 rfl) ?_
        refine lv_bipush (v := 8) hx hb dL_wants_70 (by decide) ?_
        refine lv_idiv hx hb dL_wants_72 (by decide) ?_
        refine z_top (y := (nI (vx / 8))) (z_div (a := vx) (d := 8) (by omega) (by omega) (by omega)) ?_
        refine lv_iconst (v := 3) hx hb dL_wants_73 (by decide) ?_
        refine lv_irem hx hb dL_wants_74 (by decide) ?_
        refine z_top (y := (nI ((vx / 8) % 3))) (z_rem (a := (vx / 8)) (d := 3) (by omega) (by omega) (by omega)) ?_
        refine lv_if_ne (tgt := 82) hx hb dL_wants_75 (by decide) (fun c_18 => ?_) (fun c_18 => ?_)
        · have c_18 := mt (nI_eq (a := (vx / 8) % 3) (b := 0) (by omega) (by omega)).mpr c_18
          refine lv_iload hx hb dL_wants_82 (lv_at hl 1 rfl) ?_
          refine lv_iload_n hx hb dL_wants_84 rfl (lv_at hl 8 rfl) ?_
          refine lv_bipush (v := 24) hx hb dL_wants_85 (by decide) ?_
          refine lv_idiv hx hb dL_wants_87 (by decide) ?_
          refine z_top (y := (nI (vx / 24))) (z_div (a := vx) (d := 24) (by omega) (by omega) (by omega)) ?_
          refine lv_iload hx hb dL_wants_88 (lv_at hl 0 rfl) ?_
          refine lv_iload hx hb dL_wants_90 (lv_at hl 1 rfl) ?_
          refine lv_isub hx hb dL_wants_92 ?_
          refine z_top (y := (nI (lt + mz - lt))) (z_sub (by omega)) ?_
          refine lv_iconst (v := 1) hx hb dL_wants_93 (by decide) ?_
          refine lv_iadd hx hb dL_wants_94 ?_
          refine z_top (y := (nI (lt + mz - lt + 1))) (z_add (lt + mz - lt) 1) ?_
          refine lv_irem hx hb dL_wants_95 (nI_n0 (by omega) (by omega)) ?_
          refine z_top (y := (nI ((vx / 24) % (lt + mz - lt + 1)))) (z_rem (a := (vx / 24)) (d := (lt + mz - lt + 1)) (by omega) (by omega) (by omega)) ?_
          obtain ⟨wz, ewz, hwz⟩ := z_modv (vx / 24) (d := lt + mz - lt + 1) (by omega)
          refine z_top (y := (nI wz)) (congrArg nI ewz) ?_
          refine lv_iadd hx hb dL_wants_96 ?_
          refine z_top (y := (nI (lt + wz))) (z_add lt wz) ?_
          exact kJ _ _ _ _ ⟨(nI (lt + wz)), rfl, hP, hD, hS, lv_sub hl [0, 1, 2, 3, 4, 5, 6, 7, 8, 9, 10] rfl, (Or.inr (inr_nI (by omega) (by omega) (by omega))), (okv_nI (by omega))⟩
        · have c_18 := (nI_eq (a := (vx / 8) % 3) (b := 0) (by omega) (by omega)).mp c_18
          refine lv_iconst (v := (-1)) hx hb dL_wants_78 (by decide) ?_
          refine lv_goto (tgt := 97) hx hb dL_wants_79 (by decide) ?_
          exact kJ _ _ _ _ ⟨(-1), rfl, hP, hD, hS, lv_sub hl [0, 1, 2, 3, 4, 5, 6, 7, 8, 9, 10] rfl, (Or.inl rfl), (Or.inl rfl)⟩
    · skip
      refine lv_iload_n hx hb dL_wants_35 rfl (lv_at hl 7 rfl) ?_
      refine lv_iconst (v := 3) hx hb dL_wants_36 (by decide) ?_
      refine lv_irem hx hb dL_wants_37 (by decide) ?_
      refine z_top (y := (nI (vy % 3))) (z_rem (a := vy) (d := 3) (by omega) (by omega) (by omega)) ?_
      refine lv_if_ne (tgt := 45) hx hb dL_wants_38 (by decide) (fun c_19 => ?_) (fun c_19 => ?_)
      · have c_19 := mt (nI_eq (a := vy % 3) (b := 0) (by omega) (by omega)).mpr c_19
        refine lv_iload_n hx hb dL_wants_45 rfl (lv_at hl 7 rfl) ?_
        refine lv_iconst (v := 3) hx hb dL_wants_46 (by decide) ?_
        refine lv_idiv hx hb dL_wants_47 (by decide) ?_
        refine z_top (y := (nI (vy / 3))) (z_div (a := vy) (d := 3) (by omega) (by omega) (by omega)) ?_
        refine lv_bipush (v := 101) hx hb dL_wants_48 (by decide) ?_
        refine lv_irem hx hb dL_wants_50 (by decide) ?_
        refine z_top (y := (nI ((vy / 3) % 101))) (z_rem (a := (vy / 3)) (d := 101) (by omega) (by omega) (by omega)) ?_
        exact kJ _ _ _ _ ⟨(vy / 3) % 101, rfl, hP, hD, hS, lv_sub hl [0, 1, 2, 3, 4, 5, 6, 7, 8] rfl, (by omega)⟩
      · have c_19 := (nI_eq (a := vy % 3) (b := 0) (by omega) (by omega)).mp c_19
        refine lv_iconst (v := 0) hx hb dL_wants_41 (by decide) ?_
        refine lv_goto (tgt := 51) hx hb dL_wants_42 (by decide) ?_
        exact kJ _ _ _ _ ⟨0, rfl, hP, hD, hS, lv_sub hl [0, 1, 2, 3, 4, 5, 6, 7, 8] rfl, (by omega)⟩
  · skip
    refine lv_istore (lv' := [(8, .int 0), (7, .int (nI (6 * op))), (6, .int (nI op)), (5, .int 0), (0, .ref o), (1, .int 1), (2, .int (nI vx)), (3, .int (nI vy)), (4, .ref wa)]) hx hb dL_wants_33 hl (by decide) rfl (fun ls hl => ?_)
    refine z_cut (Inv := fun H locs ls st => ∃ (lt : Nat), st = [.int (nI lt)] ∧ va_P D vwCl [(o, .inr (4, [.ref F, .ref G, .int (nI qv), .int nw, .int se, .ref (pa 0), .ref an, .ref ln])), cE x xv, (x 1, .inl (cA 0, 4, .inl (xd 0))), (x 2, .inl (cA 0, 4, .inl (xd 1))), (x 3, .inl (cA 0, 4, .inl (xd 2))), (x 4, .inl (cA 0, 4, .inl (xd 3))), (x 5, .inl (cA 0, 4, .inl (xd 4))), (x 6, .inl (cA 1, 4, .inl (xd 5))), (x 7, .inl (cA 0, 4, .inl (xd 6))), (x 8, .inl (cA 0, 4, .inl (xd 7))), cE y yv, (wa, .inl (cA 0, 48, .inl ww))] H ∧ va_D A [(o, .inr (4, [.ref F, .ref G, .int (nI qv), .int nw, .int se, .ref (pa 0), .ref an, .ref ln])), cE x xv, (x 1, .inl (cA 0, 4, .inl (xd 0))), (x 2, .inl (cA 0, 4, .inl (xd 1))), (x 3, .inl (cA 0, 4, .inl (xd 2))), (x 4, .inl (cA 0, 4, .inl (xd 3))), (x 5, .inl (cA 0, 4, .inl (xd 4))), (x 6, .inl (cA 1, 4, .inl (xd 5))), (x 7, .inl (cA 0, 4, .inl (xd 6))), (x 8, .inl (cA 0, 4, .inl (xd 7))), cE y yv, (wa, .inl (cA 0, 48, .inl ww))] ∧ va_S A s.heap H locs ∧ lv_has ls 15 [(8, .int 0), (7, .int (nI (6 * op))), (6, .int (nI op)), (5, .int 0), (0, .ref o), (1, .int 1), (2, .int (nI vx)), (3, .int (nI vy)), (4, .ref wa)] ∧ lt ≤ 100) 51 (fun H locs ls st hQ9 => ?_) (fun kJ => ?_)
    · obtain ⟨lt, rfl, hP, hD, hS, hl, hlt⟩ := hQ9
      refine lv_istore (lv' := [(9, .int (nI lt)), (8, .int 0), (7, .int (nI (6 * op))), (6, .int (nI op)), (5, .int 0), (0, .ref o), (1, .int 1), (2, .int (nI vx)), (3, .int (nI vy)), (4, .ref wa)]) hx hb dL_wants_51 hl (by decide) rfl (fun ls hl => ?_)
      refine lv_iload hx hb dL_wants_53 (lv_at hl 0 rfl) ?_
      refine lv_iload_n hx hb dL_wants_55 rfl (lv_at hl 8 rfl) ?_
      refine lv_sipush (v := 303) hx hb dL_wants_56 (by decide) ?_
      refine lv_idiv hx hb dL_wants_59 (by decide) ?_
      refine z_top (y := (nI (vy / 303))) (z_div (a := vy) (d := 303) (by omega) (by omega) (by omega)) ?_
      refine lv_bipush (v := 101) hx hb dL_wants_60 (by decide) ?_
      refine lv_iload hx hb dL_wants_62 (lv_at hl 0 rfl) ?_
      refine lv_isub hx hb dL_wants_64 ?_
      refine z_top (y := (nI (101 - lt))) (z_sub (a := 101) (b := lt) (by omega)) ?_
      refine lv_irem hx hb dL_wants_65 (nI_n0 (by omega) (by omega)) ?_
      refine z_top (y := (nI ((vy / 303) % (101 - lt)))) (z_rem (a := (vy / 303)) (d := (101 - lt)) (by omega) (by omega) (by omega)) ?_
      obtain ⟨mz, emz, hmz⟩ := z_modv (vy / 303) (d := 101 - lt) (by omega)
      refine z_top (y := (nI mz)) (congrArg nI emz) ?_
      refine lv_iadd hx hb dL_wants_66 ?_
      refine z_top (y := (nI (lt + mz))) (z_add lt mz) ?_
      refine lv_istore (lv' := [(10, .int (nI (lt + mz))), (9, .int (nI lt)), (8, .int 0), (7, .int (nI (6 * op))), (6, .int (nI op)), (5, .int 0), (0, .ref o), (1, .int 1), (2, .int (nI vx)), (3, .int (nI vy)), (4, .ref wa)]) hx hb dL_wants_67 hl (by decide) rfl (fun ls hl => ?_)
      refine z_cut (Inv := fun H locs ls st => ∃ (wi : Int32), st = [.int wi] ∧ va_P D vwCl [(o, .inr (4, [.ref F, .ref G, .int (nI qv), .int nw, .int se, .ref (pa 0), .ref an, .ref ln])), cE x xv, (x 1, .inl (cA 0, 4, .inl (xd 0))), (x 2, .inl (cA 0, 4, .inl (xd 1))), (x 3, .inl (cA 0, 4, .inl (xd 2))), (x 4, .inl (cA 0, 4, .inl (xd 3))), (x 5, .inl (cA 0, 4, .inl (xd 4))), (x 6, .inl (cA 1, 4, .inl (xd 5))), (x 7, .inl (cA 0, 4, .inl (xd 6))), (x 8, .inl (cA 0, 4, .inl (xd 7))), cE y yv, (wa, .inl (cA 0, 48, .inl ww))] H ∧ va_D A [(o, .inr (4, [.ref F, .ref G, .int (nI qv), .int nw, .int se, .ref (pa 0), .ref an, .ref ln])), cE x xv, (x 1, .inl (cA 0, 4, .inl (xd 0))), (x 2, .inl (cA 0, 4, .inl (xd 1))), (x 3, .inl (cA 0, 4, .inl (xd 2))), (x 4, .inl (cA 0, 4, .inl (xd 3))), (x 5, .inl (cA 0, 4, .inl (xd 4))), (x 6, .inl (cA 1, 4, .inl (xd 5))), (x 7, .inl (cA 0, 4, .inl (xd 6))), (x 8, .inl (cA 0, 4, .inl (xd 7))), cE y yv, (wa, .inl (cA 0, 48, .inl ww))] ∧ va_S A s.heap H locs ∧ lv_has ls 15 [(10, .int (nI (lt + mz))), (9, .int (nI lt)), (8, .int 0), (7, .int (nI (6 * op))), (6, .int (nI op)), (5, .int 0), (0, .ref o), (1, .int 1), (2, .int (nI vx)), (3, .int (nI vy)), (4, .ref wa)] ∧ (wi = -1 ∨ inr wi (nI lt) (nI (lt + mz))) ∧ okv wi) 97 (fun H locs ls st hQ9 => ?_) (fun kJ => ?_)
      · obtain ⟨wi, rfl, hP, hD, hS, hl, hwi, hwo⟩ := hQ9
        refine lv_istore (lv' := [(11, .int wi), (10, .int (nI (lt + mz))), (9, .int (nI lt)), (8, .int 0), (7, .int (nI (6 * op))), (6, .int (nI op)), (5, .int 0), (0, .ref o), (1, .int 1), (2, .int (nI vx)), (3, .int (nI vy)), (4, .ref wa)]) hx hb dL_wants_97 hl (by decide) rfl (fun ls hl => ?_)
        refine lv_aload_n hx hb dL_wants_99 rfl (lv_at hl 7 rfl) ?_
        refine lv_iconst (v := 0) hx hb dL_wants_100 (by decide) ?_
        have hPc := hP.sub (ws' := [(o, .inr (4, [.ref F, .ref G, .int (nI qv), .int nw, .int se, .ref (pa 0), .ref an, .ref ln])), cE x xv]) [0, 1] rfl
        have hDc := hD.sub (ws' := [(o, .inr (4, [.ref F, .ref G, .int (nI qv), .int nw, .int se, .ref (pa 0), .ref an, .ref ln])), cE x xv]) [0, 1] (by decide) rfl
        have hFc := va_free (wc := [(o, .inr (4, [.ref F, .ref G, .int (nI qv), .int nw, .int se, .ref (pa 0), .ref an, .ref ln])), cE x xv]) hD hS hA [0, 1] rfl
        refine va_calli (va_runV (As := [.int 0]) (rest := []) ⟨hx, hb, hml, hown, hts⟩ (c_X3_state_k l D cA H.size o F G (nI qv) nw se pa an ln x (y 0) 0 xv (by first | exact he | exact en_flip he | exact en_01 he | exact en_10 he)) (cwV 1 hts gL_wants_X3_state rfl rfl rfl (by decide +kernel) ⟨Nat.le_of_ble_eq_true rfl, Nat.le_of_ble_eq_true rfl⟩) ⟨zU_blind, va_recv hK hPc (ci := 4) (q0 := 0) rfl rfl, fun U hU hW => ⟨rfl, zU_call hU hPc hW.alike hK hDc⟩⟩ rfl rfl hl.1 rfl (lv_room (Nat.le_of_ble_eq_true rfl)) dL_wants_101 ⟨(Nat.zero_le _), (Nat.zero_le _)⟩) hS (fun q _ h => hFc q h) hFc (fun zr u t H1 locs ht hvm hw hB hz1 hk1 hS => ?_)
        obtain ⟨hP1, hD1⟩ := hB
        rw [ht] at hP1
        obtain ⟨hP, hD⟩ := va_join (wr := [(x 1, .inl (cA 0, 4, .inl (xd 0))), (x 2, .inl (cA 0, 4, .inl (xd 1))), (x 3, .inl (cA 0, 4, .inl (xd 2))), (x 4, .inl (cA 0, 4, .inl (xd 3))), (x 5, .inl (cA 0, 4, .inl (xd 4))), (x 6, .inl (cA 1, 4, .inl (xd 5))), (x 7, .inl (cA 0, 4, .inl (xd 6))), (x 8, .inl (cA 0, 4, .inl (xd 7))), cE y yv, (wa, .inl (cA 0, 48, .inl ww))]) (w1 := [(o, .inr (4, [.ref F, .ref G, .int (nI qv), .int nw, .int se, .ref (pa 0), .ref an, .ref ln])), cE x xv]) hP hD [0, 1] [2, 3, 4, 5, 6, 7, 8, 9, 10, 11] rfl rfl (by decide) (by decide) hk1 hFc hP1 hD1
        generalize H1 = H at hP hS ⊢
        have hP := hP.sub (ws' := [(o, .inr (4, [.ref F, .ref G, .int (nI qv), .int nw, .int se, .ref (pa 0), .ref an, .ref ln])), cE x xv, (x 1, .inl (cA 0, 4, .inl (xd 0))), (x 2, .inl (cA 0, 4, .inl (xd 1))), (x 3, .inl (cA 0, 4, .inl (xd 2))), (x 4, .inl (cA 0, 4, .inl (xd 3))), (x 5, .inl (cA 0, 4, .inl (xd 4))), (x 6, .inl (cA 1, 4, .inl (xd 5))), (x 7, .inl (cA 0, 4, .inl (xd 6))), (x 8, .inl (cA 0, 4, .inl (xd 7))), cE y yv, (wa, .inl (cA 0, 48, .inl ww))]) [10, 11, 0, 1, 2, 3, 4, 5, 6, 7, 8, 9] rfl
        have hD := hD.sub (ws' := [(o, .inr (4, [.ref F, .ref G, .int (nI qv), .int nw, .int se, .ref (pa 0), .ref an, .ref ln])), cE x xv, (x 1, .inl (cA 0, 4, .inl (xd 0))), (x 2, .inl (cA 0, 4, .inl (xd 1))), (x 3, .inl (cA 0, 4, .inl (xd 2))), (x 4, .inl (cA 0, 4, .inl (xd 3))), (x 5, .inl (cA 0, 4, .inl (xd 4))), (x 6, .inl (cA 1, 4, .inl (xd 5))), (x 7, .inl (cA 0, 4, .inl (xd 6))), (x 8, .inl (cA 0, 4, .inl (xd 7))), cE y yv, (wa, .inl (cA 0, 48, .inl ww))]) [10, 11, 0, 1, 2, 3, 4, 5, 6, 7, 8, 9] (by decide) rfl
        clear hPc hDc hFc hP1 hD1 hk1 hz1
        have hw_20 := hw
        obtain rfl := hw
        refine z_top (y := (nI sx)) hx0 ?_
        refine lv_bipush (v := 8) hx hb dL_wants_104 (by decide) ?_
        refine lv_aload_n hx hb dL_wants_106 rfl (lv_at hl 7 rfl) ?_
        refine lv_iconst (v := 1) hx hb dL_wants_107 (by decide) ?_
        have hPc := hP.sub (ws' := [(o, .inr (4, [.ref F, .ref G, .int (nI qv), .int nw, .int se, .ref (pa 0), .ref an, .ref ln])), cE y yv]) [0, 10] rfl
        have hDc := hD.sub (ws' := [(o, .inr (4, [.ref F, .ref G, .int (nI qv), .int nw, .int se, .ref (pa 0), .ref an, .ref ln])), cE y yv]) [0, 10] (by decide) rfl
        have hFc := va_free (wc := [(o, .inr (4, [.ref F, .ref G, .int (nI qv), .int nw, .int se, .ref (pa 0), .ref an, .ref ln])), cE y yv]) hD hS hA [0, 10] rfl
        refine va_calli (va_runV (As := [.int 1]) (rest := [.int 8, .int (nI sx)]) ⟨hx, hb, hml, hown, hts⟩ (c_X3_state_k l D cA H.size o F G (nI qv) nw se pa an ln y (x 0) 1 yv (by first | exact he | exact en_flip he | exact en_01 he | exact en_10 he)) (cwV 1 hts gL_wants_X3_state rfl rfl rfl (by decide +kernel) ⟨Nat.le_of_ble_eq_true rfl, Nat.le_of_ble_eq_true rfl⟩) ⟨zU_blind, va_recv hK hPc (ci := 4) (q0 := 0) rfl rfl, fun U hU hW => ⟨rfl, zU_call hU hPc hW.alike hK hDc⟩⟩ rfl rfl hl.1 rfl (lv_room (Nat.le_of_ble_eq_true rfl)) dL_wants_108 ⟨(Nat.zero_le _), (Nat.zero_le _)⟩) hS (fun q _ h => hFc q h) hFc (fun zr u t H1 locs ht hvm hw hB hz1 hk1 hS => ?_)
        obtain ⟨hP1, hD1⟩ := hB
        rw [ht] at hP1
        obtain ⟨hP, hD⟩ := va_join (wr := [cE x xv, (x 1, .inl (cA 0, 4, .inl (xd 0))), (x 2, .inl (cA 0, 4, .inl (xd 1))), (x 3, .inl (cA 0, 4, .inl (xd 2))), (x 4, .inl (cA 0, 4, .inl (xd 3))), (x 5, .inl (cA 0, 4, .inl (xd 4))), (x 6, .inl (cA 1, 4, .inl (xd 5))), (x 7, .inl (cA 0, 4, .inl (xd 6))), (x 8, .inl (cA 0, 4, .inl (xd 7))), (wa, .inl (cA 0, 48, .inl ww))]) (w1 := [(o, .inr (4, [.ref F, .ref G, .int (nI qv), .int nw, .int se, .ref (pa 0), .ref an, .ref ln])), cE y yv]) hP hD [0, 10] [1, 2, 3, 4, 5, 6, 7, 8, 9, 11] rfl rfl (by decide) (by decide) hk1 hFc hP1 hD1
        generalize H1 = H at hP hS ⊢
        have hP := hP.sub (ws' := [(o, .inr (4, [.ref F, .ref G, .int (nI qv), .int nw, .int se, .ref (pa 0), .ref an, .ref ln])), cE x xv, (x 1, .inl (cA 0, 4, .inl (xd 0))), (x 2, .inl (cA 0, 4, .inl (xd 1))), (x 3, .inl (cA 0, 4, .inl (xd 2))), (x 4, .inl (cA 0, 4, .inl (xd 3))), (x 5, .inl (cA 0, 4, .inl (xd 4))), (x 6, .inl (cA 1, 4, .inl (xd 5))), (x 7, .inl (cA 0, 4, .inl (xd 6))), (x 8, .inl (cA 0, 4, .inl (xd 7))), cE y yv, (wa, .inl (cA 0, 48, .inl ww))]) [10, 0, 1, 2, 3, 4, 5, 6, 7, 8, 11, 9] rfl
        have hD := hD.sub (ws' := [(o, .inr (4, [.ref F, .ref G, .int (nI qv), .int nw, .int se, .ref (pa 0), .ref an, .ref ln])), cE x xv, (x 1, .inl (cA 0, 4, .inl (xd 0))), (x 2, .inl (cA 0, 4, .inl (xd 1))), (x 3, .inl (cA 0, 4, .inl (xd 2))), (x 4, .inl (cA 0, 4, .inl (xd 3))), (x 5, .inl (cA 0, 4, .inl (xd 4))), (x 6, .inl (cA 1, 4, .inl (xd 5))), (x 7, .inl (cA 0, 4, .inl (xd 6))), (x 8, .inl (cA 0, 4, .inl (xd 7))), cE y yv, (wa, .inl (cA 0, 48, .inl ww))]) [10, 0, 1, 2, 3, 4, 5, 6, 7, 8, 11, 9] (by decide) rfl
        clear hPc hDc hFc hP1 hD1 hk1 hz1
        have hw_21 := hw
        obtain rfl := hw
        refine z_top (y := (nI sy)) hy0 ?_
        refine lv_imul hx hb dL_wants_111 ?_
        refine z_top (y := (nI (8 * sy))) (z_mul 8 sy) ?_
        refine lv_iadd hx hb dL_wants_112 ?_
        refine z_top (y := (nI (sx + 8 * sy))) (z_add sx (8 * sy)) ?_
        refine lv_istore (lv' := [(12, .int (nI (sx + 8 * sy))), (11, .int wi), (10, .int (nI (lt + mz))), (9, .int (nI lt)), (8, .int 0), (7, .int (nI (6 * op))), (6, .int (nI op)), (5, .int 0), (0, .ref o), (1, .int 1), (2, .int (nI vx)), (3, .int (nI vy)), (4, .ref wa)]) hx hb dL_wants_113 hl (by decide) rfl (fun ls hl => ?_)
        refine lv_iload_n hx hb dL_wants_115 rfl (lv_at hl 9 rfl) ?_
        refine lv_if_ne (tgt := 129) hx hb dL_wants_116 (by decide) (fun _ => ?_) (fun c_22 => absurd c_22 (by decide))
        refine lv_aload hx hb dL_wants_129 (lv_at hl 12 rfl) ?_
        refine lv_iload hx hb dL_wants_131 (lv_at hl 5 rfl) ?_
        refine lv_iconst (v := 5) hx hb dL_wants_133 (by decide) ?_
        refine lv_iadd hx hb dL_wants_134 ?_
        refine z_top (y := (nI (6 * op + 5))) (z_add (6 * op) 5) ?_
        refine z_iald (k := (6 * op + 5)) (v := ((xd 5) op)) hx hb hK hP 11 0 rfl rfl rfl (by omega) (by decide) (wr_at (hWr op hop).2.2.2 (by omega)) dL_wants_135 ?_
        refine lv_istore (lv' := [(13, .int ((xd 5) op)), (12, .int (nI (sx + 8 * sy))), (11, .int wi), (10, .int (nI (lt + mz))), (9, .int (nI lt)), (8, .int 0), (7, .int (nI (6 * op))), (6, .int (nI op)), (5, .int 0), (0, .ref o), (1, .int 1), (2, .int (nI vx)), (3, .int (nI vy)), (4, .ref wa)]) hx hb dL_wants_136 hl (by decide) rfl (fun ls hl => ?_)
        refine lv_aload_n hx hb dL_wants_138 rfl (lv_at hl 9 rfl) ?_
        refine lv_iload_n hx hb dL_wants_139 rfl (lv_at hl 10 rfl) ?_
        refine lv_iload hx hb dL_wants_140 (lv_at hl 8 rfl) ?_
        refine lv_iload hx hb dL_wants_142 (lv_at hl 7 rfl) ?_
        refine lv_iload_n hx hb dL_wants_144 rfl (lv_at hl 10 rfl) ?_
        refine lv_iconst (v := 2) hx hb dL_wants_145 (by decide) ?_
        refine lv_icmp_ne (tgt := 158) hx hb dL_wants_146 (by decide) (fun _ => ?_) (fun c_23 => absurd c_23 (by decide))
        refine lv_iload hx hb dL_wants_158 (lv_at hl 2 rfl) ?_
        refine lv_iload hx hb dL_wants_160 (lv_at hl 4 rfl) ?_
        refine lv_iload hx hb dL_wants_162 (lv_at hl 3 rfl) ?_
        have hPc := hP.sub (ws' := [(o, .inr (4, [.ref F, .ref G, .int (nI qv), .int nw, .int se, .ref (pa 0), .ref an, .ref ln])), cE x xv]) [0, 1] rfl
        have hDc := hD.sub (ws' := [(o, .inr (4, [.ref F, .ref G, .int (nI qv), .int nw, .int se, .ref (pa 0), .ref an, .ref ln])), cE x xv]) [0, 1] (by decide) rfl
        have hFc := va_free (wc := [(o, .inr (4, [.ref F, .ref G, .int (nI qv), .int nw, .int se, .ref (pa 0), .ref an, .ref ln])), cE x xv]) hD hS hA [0, 1] rfl
        refine va_calli (vx_runSW (As := [.ref o, .int 1, .int 0, .int (nI op), .int wi, .int (nI lt), .int (nI (lt + mz))]) (rest := []) ⟨hx, hb, hml, hown, hts⟩ (c_asks_allow_s l D cA zv H.size o F G (nI qv) nw se pa an ln x (y 0) 0 xv op (nI lt) (nI (lt + mz)) wi (by assumption) (by first | exact he | exact en_flip he | exact en_01 he | exact en_10 he) hop ⟨inr_nI (a := lt) (b := 0) (c := 100) (by omega) (by omega) (by decide), inr_nI (a := lt + mz) (b := lt) (c := 100) (by omega) (by omega) (by decide)⟩ (fun q9 => absurd ((s_shut hI).mp q9) (by omega))) (vx_cwSW 7 hts gL_wants_L_asks rfl rfl rfl (by decide +kernel) ⟨Nat.le_of_ble_eq_true rfl, Nat.le_of_ble_eq_true rfl⟩) ⟨zUX_blind, fun U hU hW => ⟨rfl, zUX_call hE0 hX0 hS hFc hU hPc hW hK hDc⟩⟩ rfl rfl hl.1 rfl (lv_room (Nat.le_of_ble_eq_true rfl)) dL_wants_164 ⟨Nat.le_of_ble_eq_true rfl, Nat.le_of_ble_eq_true rfl⟩) hS (fun q _ h => hFc q h) hFc (fun zr u t H1 locs ht hvm hw hB hz1 hk1 hS => ?_)
        obtain ⟨hP1, hD1⟩ := hB
        rw [ht] at hP1
        obtain ⟨hP, hD⟩ := va_join (wr := [(x 1, .inl (cA 0, 4, .inl (xd 0))), (x 2, .inl (cA 0, 4, .inl (xd 1))), (x 3, .inl (cA 0, 4, .inl (xd 2))), (x 4, .inl (cA 0, 4, .inl (xd 3))), (x 5, .inl (cA 0, 4, .inl (xd 4))), (x 6, .inl (cA 1, 4, .inl (xd 5))), (x 7, .inl (cA 0, 4, .inl (xd 6))), (x 8, .inl (cA 0, 4, .inl (xd 7))), cE y yv, (wa, .inl (cA 0, 48, .inl ww))]) (w1 := [(o, .inr (4, [.ref F, .ref G, .int (nI qv), .int nw, .int se, .ref (pa 0), .ref an, .ref ln])), cE x xv]) hP hD [0, 1] [2, 3, 4, 5, 6, 7, 8, 9, 10, 11] rfl rfl (by decide) (by decide) hk1 hFc hP1 hD1
        generalize H1 = H at hP hS ⊢
        have hP := hP.sub (ws' := [(o, .inr (4, [.ref F, .ref G, .int (nI qv), .int nw, .int se, .ref (pa 0), .ref an, .ref ln])), cE x xv, (x 1, .inl (cA 0, 4, .inl (xd 0))), (x 2, .inl (cA 0, 4, .inl (xd 1))), (x 3, .inl (cA 0, 4, .inl (xd 2))), (x 4, .inl (cA 0, 4, .inl (xd 3))), (x 5, .inl (cA 0, 4, .inl (xd 4))), (x 6, .inl (cA 1, 4, .inl (xd 5))), (x 7, .inl (cA 0, 4, .inl (xd 6))), (x 8, .inl (cA 0, 4, .inl (xd 7))), cE y yv, (wa, .inl (cA 0, 48, .inl ww))]) [10, 11, 0, 1, 2, 3, 4, 5, 6, 7, 8, 9] rfl
        have hD := hD.sub (ws' := [(o, .inr (4, [.ref F, .ref G, .int (nI qv), .int nw, .int se, .ref (pa 0), .ref an, .ref ln])), cE x xv, (x 1, .inl (cA 0, 4, .inl (xd 0))), (x 2, .inl (cA 0, 4, .inl (xd 1))), (x 3, .inl (cA 0, 4, .inl (xd 2))), (x 4, .inl (cA 0, 4, .inl (xd 3))), (x 5, .inl (cA 0, 4, .inl (xd 4))), (x 6, .inl (cA 1, 4, .inl (xd 5))), (x 7, .inl (cA 0, 4, .inl (xd 6))), (x 8, .inl (cA 0, 4, .inl (xd 7))), cE y yv, (wa, .inl (cA 0, 48, .inl ww))]) [10, 11, 0, 1, 2, 3, 4, 5, 6, 7, 8, 9] (by decide) rfl
        clear hPc hDc hFc hP1 hD1 hk1 hz1
        refine W.widen (k := 1) (n := 6) (by omega) (by omega) ?_
        have hw_24 := hw
        obtain rfl := hw
        refine lv_istore (lv' := [(14, .int (-8)), (13, .int ((xd 5) op)), (12, .int (nI (sx + 8 * sy))), (11, .int wi), (10, .int (nI (lt + mz))), (9, .int (nI lt)), (8, .int 0), (7, .int (nI (6 * op))), (6, .int (nI op)), (5, .int 0), (0, .ref o), (1, .int 1), (2, .int (nI vx)), (3, .int (nI vy)), (4, .ref wa)]) hx hb dL_wants_167 hl (by decide) rfl (fun ls hl => ?_)
        refine lv_iload hx hb dL_wants_169 (lv_at hl 6 rfl) ?_
        refine lv_if_eq (tgt := 208) hx hb dL_wants_171 (by decide) (fun _ => ?_) (fun c_25 => absurd c_25 (by decide))
        refine lv_iload hx hb dL_wants_208 (lv_at hl 6 rfl) ?_
        refine lv_if_eq (tgt := 239) hx hb dL_wants_210 (by decide) (fun _ => ?_) (fun c_26 => absurd c_26 (by decide))
        refine lv_iload hx hb dL_wants_239 (lv_at hl 6 rfl) ?_
        refine lv_if_eq (tgt := 257) hx hb dL_wants_241 (by decide) (fun _ => ?_) (fun c_27 => absurd c_27 (by decide))
        refine lv_iload hx hb dL_wants_257 (lv_at hl 0 rfl) ?_
        refine lv_iload hx hb dL_wants_259 (lv_at hl 6 rfl) ?_
        refine lv_if_ne (tgt := 269) hx hb dL_wants_261 (by decide) (fun c_28 => absurd c_28 (by decide)) (fun _ => ?_)
        refine lv_bipush (v := (-8)) hx hb dL_wants_264 (by decide) ?_
        refine lv_goto (tgt := 280) hx hb dL_wants_266 (by decide) ?_
        refine lv_icmp_ne (tgt := 306) hx hb dL_wants_280 (by decide) (fun c_29 => absurd c_29 (by decide)) (fun _ => ?_)
        refine lv_aload_n hx hb dL_wants_283 rfl (lv_at hl 10 rfl) ?_
        refine lv_iconst (v := 0) hx hb dL_wants_284 (by decide) ?_
        have hPc := hP.sub (ws' := [(o, .inr (4, [.ref F, .ref G, .int (nI qv), .int nw, .int se, .ref (pa 0), .ref an, .ref ln])), cE x xv]) [0, 1] rfl
        have hDc := hD.sub (ws' := [(o, .inr (4, [.ref F, .ref G, .int (nI qv), .int nw, .int se, .ref (pa 0), .ref an, .ref ln])), cE x xv]) [0, 1] (by decide) rfl
        have hFc := va_free (wc := [(o, .inr (4, [.ref F, .ref G, .int (nI qv), .int nw, .int se, .ref (pa 0), .ref an, .ref ln])), cE x xv]) hD hS hA [0, 1] rfl
        refine va_calli (va_runV (As := [.int 0]) (rest := []) ⟨hx, hb, hml, hown, hts⟩ (c_X3_state_k l D cA H.size o F G (nI qv) nw se pa an ln x (y 0) 0 xv (by first | exact he | exact en_flip he | exact en_01 he | exact en_10 he)) (cwV 1 hts gL_wants_X3_state rfl rfl rfl (by decide +kernel) ⟨Nat.le_of_ble_eq_true rfl, Nat.le_of_ble_eq_true rfl⟩) ⟨zU_blind, va_recv hK hPc (ci := 4) (q0 := 0) rfl rfl, fun U hU hW => ⟨rfl, zU_call hU hPc hW.alike hK hDc⟩⟩ rfl rfl hl.1 rfl (lv_room (Nat.le_of_ble_eq_true rfl)) dL_wants_285 ⟨Nat.le_of_ble_eq_true rfl, Nat.le_of_ble_eq_true rfl⟩) hS (fun q _ h => hFc q h) hFc (fun zr u t H1 locs ht hvm hw hB hz1 hk1 hS => ?_)
        obtain ⟨hP1, hD1⟩ := hB
        rw [ht] at hP1
        obtain ⟨hP, hD⟩ := va_join (wr := [(x 1, .inl (cA 0, 4, .inl (xd 0))), (x 2, .inl (cA 0, 4, .inl (xd 1))), (x 3, .inl (cA 0, 4, .inl (xd 2))), (x 4, .inl (cA 0, 4, .inl (xd 3))), (x 5, .inl (cA 0, 4, .inl (xd 4))), (x 6, .inl (cA 1, 4, .inl (xd 5))), (x 7, .inl (cA 0, 4, .inl (xd 6))), (x 8, .inl (cA 0, 4, .inl (xd 7))), cE y yv, (wa, .inl (cA 0, 48, .inl ww))]) (w1 := [(o, .inr (4, [.ref F, .ref G, .int (nI qv), .int nw, .int se, .ref (pa 0), .ref an, .ref ln])), cE x xv]) hP hD [0, 1] [2, 3, 4, 5, 6, 7, 8, 9, 10, 11] rfl rfl (by decide) (by decide) hk1 hFc hP1 hD1
        generalize H1 = H at hP hS ⊢
        have hP := hP.sub (ws' := [(o, .inr (4, [.ref F, .ref G, .int (nI qv), .int nw, .int se, .ref (pa 0), .ref an, .ref ln])), cE x xv, (x 1, .inl (cA 0, 4, .inl (xd 0))), (x 2, .inl (cA 0, 4, .inl (xd 1))), (x 3, .inl (cA 0, 4, .inl (xd 2))), (x 4, .inl (cA 0, 4, .inl (xd 3))), (x 5, .inl (cA 0, 4, .inl (xd 4))), (x 6, .inl (cA 1, 4, .inl (xd 5))), (x 7, .inl (cA 0, 4, .inl (xd 6))), (x 8, .inl (cA 0, 4, .inl (xd 7))), cE y yv, (wa, .inl (cA 0, 48, .inl ww))]) [10, 11, 0, 1, 2, 3, 4, 5, 6, 7, 8, 9] rfl
        have hD := hD.sub (ws' := [(o, .inr (4, [.ref F, .ref G, .int (nI qv), .int nw, .int se, .ref (pa 0), .ref an, .ref ln])), cE x xv, (x 1, .inl (cA 0, 4, .inl (xd 0))), (x 2, .inl (cA 0, 4, .inl (xd 1))), (x 3, .inl (cA 0, 4, .inl (xd 2))), (x 4, .inl (cA 0, 4, .inl (xd 3))), (x 5, .inl (cA 0, 4, .inl (xd 4))), (x 6, .inl (cA 1, 4, .inl (xd 5))), (x 7, .inl (cA 0, 4, .inl (xd 6))), (x 8, .inl (cA 0, 4, .inl (xd 7))), cE y yv, (wa, .inl (cA 0, 48, .inl ww))]) [10, 11, 0, 1, 2, 3, 4, 5, 6, 7, 8, 9] (by decide) rfl
        clear hPc hDc hFc hP1 hD1 hk1 hz1
        have hw_30 := hw
        obtain rfl := hw
        refine z_top (y := (nI sx)) hx0 ?_
        refine lv_bipush (v := 8) hx hb dL_wants_288 (by decide) ?_
        refine lv_aload_n hx hb dL_wants_290 rfl (lv_at hl 10 rfl) ?_
        refine lv_iconst (v := 1) hx hb dL_wants_291 (by decide) ?_
        have hPc := hP.sub (ws' := [(o, .inr (4, [.ref F, .ref G, .int (nI qv), .int nw, .int se, .ref (pa 0), .ref an, .ref ln])), cE y yv]) [0, 10] rfl
        have hDc := hD.sub (ws' := [(o, .inr (4, [.ref F, .ref G, .int (nI qv), .int nw, .int se, .ref (pa 0), .ref an, .ref ln])), cE y yv]) [0, 10] (by decide) rfl
        have hFc := va_free (wc := [(o, .inr (4, [.ref F, .ref G, .int (nI qv), .int nw, .int se, .ref (pa 0), .ref an, .ref ln])), cE y yv]) hD hS hA [0, 10] rfl
        refine va_calli (va_runV (As := [.int 1]) (rest := [.int 8, .int (nI sx)]) ⟨hx, hb, hml, hown, hts⟩ (c_X3_state_k l D cA H.size o F G (nI qv) nw se pa an ln y (x 0) 1 yv (by first | exact he | exact en_flip he | exact en_01 he | exact en_10 he)) (cwV 1 hts gL_wants_X3_state rfl rfl rfl (by decide +kernel) ⟨Nat.le_of_ble_eq_true rfl, Nat.le_of_ble_eq_true rfl⟩) ⟨zU_blind, va_recv hK hPc (ci := 4) (q0 := 0) rfl rfl, fun U hU hW => ⟨rfl, zU_call hU hPc hW.alike hK hDc⟩⟩ rfl rfl hl.1 rfl (lv_room (Nat.le_of_ble_eq_true rfl)) dL_wants_292 ⟨Nat.le_of_ble_eq_true rfl, Nat.le_of_ble_eq_true rfl⟩) hS (fun q _ h => hFc q h) hFc (fun zr u t H1 locs ht hvm hw hB hz1 hk1 hS => ?_)
        obtain ⟨hP1, hD1⟩ := hB
        rw [ht] at hP1
        obtain ⟨hP, hD⟩ := va_join (wr := [cE x xv, (x 1, .inl (cA 0, 4, .inl (xd 0))), (x 2, .inl (cA 0, 4, .inl (xd 1))), (x 3, .inl (cA 0, 4, .inl (xd 2))), (x 4, .inl (cA 0, 4, .inl (xd 3))), (x 5, .inl (cA 0, 4, .inl (xd 4))), (x 6, .inl (cA 1, 4, .inl (xd 5))), (x 7, .inl (cA 0, 4, .inl (xd 6))), (x 8, .inl (cA 0, 4, .inl (xd 7))), (wa, .inl (cA 0, 48, .inl ww))]) (w1 := [(o, .inr (4, [.ref F, .ref G, .int (nI qv), .int nw, .int se, .ref (pa 0), .ref an, .ref ln])), cE y yv]) hP hD [0, 10] [1, 2, 3, 4, 5, 6, 7, 8, 9, 11] rfl rfl (by decide) (by decide) hk1 hFc hP1 hD1
        generalize H1 = H at hP hS ⊢
        have hP := hP.sub (ws' := [(o, .inr (4, [.ref F, .ref G, .int (nI qv), .int nw, .int se, .ref (pa 0), .ref an, .ref ln])), cE x xv, (x 1, .inl (cA 0, 4, .inl (xd 0))), (x 2, .inl (cA 0, 4, .inl (xd 1))), (x 3, .inl (cA 0, 4, .inl (xd 2))), (x 4, .inl (cA 0, 4, .inl (xd 3))), (x 5, .inl (cA 0, 4, .inl (xd 4))), (x 6, .inl (cA 1, 4, .inl (xd 5))), (x 7, .inl (cA 0, 4, .inl (xd 6))), (x 8, .inl (cA 0, 4, .inl (xd 7))), cE y yv, (wa, .inl (cA 0, 48, .inl ww))]) [10, 0, 1, 2, 3, 4, 5, 6, 7, 8, 11, 9] rfl
        have hD := hD.sub (ws' := [(o, .inr (4, [.ref F, .ref G, .int (nI qv), .int nw, .int se, .ref (pa 0), .ref an, .ref ln])), cE x xv, (x 1, .inl (cA 0, 4, .inl (xd 0))), (x 2, .inl (cA 0, 4, .inl (xd 1))), (x 3, .inl (cA 0, 4, .inl (xd 2))), (x 4, .inl (cA 0, 4, .inl (xd 3))), (x 5, .inl (cA 0, 4, .inl (xd 4))), (x 6, .inl (cA 1, 4, .inl (xd 5))), (x 7, .inl (cA 0, 4, .inl (xd 6))), (x 8, .inl (cA 0, 4, .inl (xd 7))), cE y yv, (wa, .inl (cA 0, 48, .inl ww))]) [10, 0, 1, 2, 3, 4, 5, 6, 7, 8, 11, 9] (by decide) rfl
        clear hPc hDc hFc hP1 hD1 hk1 hz1
        have hw_31 := hw
        obtain rfl := hw
        refine z_top (y := (nI sy)) hy0 ?_
        refine lv_imul hx hb dL_wants_295 ?_
        refine z_top (y := (nI (8 * sy))) (z_mul 8 sy) ?_
        refine lv_iadd hx hb dL_wants_296 ?_
        refine z_top (y := (nI (sx + 8 * sy))) (z_add sx (8 * sy)) ?_
        refine lv_iload hx hb dL_wants_297 (lv_at hl 2 rfl) ?_
        refine lv_icmp_ne (tgt := 306) hx hb dL_wants_299 (by decide) (fun c_32 => absurd rfl c_32) (fun _ => ?_)
        refine lv_iconst (v := 1) hx hb dL_wants_302 (by decide) ?_
        refine lv_goto (tgt := 307) hx hb dL_wants_303 (by decide) ?_
        refine W.widen (k := 1) (n := 6) (by omega) (by omega) ?_
        exact W.zret (v := 1) hx hb hr rfl (fun t ht hW => ⟨⟨1, (xd, ww), rfl, ⟨⟨sx, kx, tx, sy, ky, ty, hI, by omega, by omega⟩, hWr, hWr2, rfl⟩, ⟨by rw [ht]; exact hP, by rw [hAe]; exact hD⟩⟩, hS.F ht⟩) hS.2.2 dL_wants_307
      · skip
        refine lv_iload_n hx hb dL_wants_69 rfl (lv_at hl 8 rfl) ?_
        refine lv_bipush (v := 8) hx hb dL_wants_70 (by decide) ?_
        refine lv_idiv hx hb dL_wants_72 (by decide) ?_
        refine z_top (y := (nI (vx / 8))) (z_div (a := vx) (d := 8) (by omega) (by omega) (by omega)) ?_
        refine lv_iconst (v := 3) hx hb dL_wants_73 (by decide) ?_
        refine lv_irem hx hb dL_wants_74 (by decide) ?_
        refine z_top (y := (nI ((vx / 8) % 3))) (z_rem (a := (vx / 8)) (d := 3) (by omega) (by omega) (by omega)) ?_
        refine lv_if_ne (tgt := 82) hx hb dL_wants_75 (by decide) (fun c_33 => ?_) (fun c_33 => ?_)
        · have c_33 := mt (nI_eq (a := (vx / 8) % 3) (b := 0) (by omega) (by omega)).mpr c_33
          refine lv_iload hx hb dL_wants_82 (lv_at hl 1 rfl) ?_
          refine lv_iload_n hx hb dL_wants_84 rfl (lv_at hl 8 rfl) ?_
          refine lv_bipush (v := 24) hx hb dL_wants_85 (by decide) ?_
          refine lv_idiv hx hb dL_wants_87 (by decide) ?_
          refine z_top (y := (nI (vx / 24))) (z_div (a := vx) (d := 24) (by omega) (by omega) (by omega)) ?_
          refine lv_iload hx hb dL_wants_88 (lv_at hl 0 rfl) ?_
          refine lv_iload hx hb dL_wants_90 (lv_at hl 1 rfl) ?_
          refine lv_isub hx hb dL_wants_92 ?_
          refine z_top (y := (nI (lt + mz - lt))) (z_sub (by omega)) ?_
          refine lv_iconst (v := 1) hx hb dL_wants_93 (by decide) ?_
          refine lv_iadd hx hb dL_wants_94 ?_
          refine z_top (y := (nI (lt + mz - lt + 1))) (z_add (lt + mz - lt) 1) ?_
          refine lv_irem hx hb dL_wants_95 (nI_n0 (by omega) (by omega)) ?_
          refine z_top (y := (nI ((vx / 24) % (lt + mz - lt + 1)))) (z_rem (a := (vx / 24)) (d := (lt + mz - lt + 1)) (by omega) (by omega) (by omega)) ?_
          obtain ⟨wz, ewz, hwz⟩ := z_modv (vx / 24) (d := lt + mz - lt + 1) (by omega)
          refine z_top (y := (nI wz)) (congrArg nI ewz) ?_
          refine lv_iadd hx hb dL_wants_96 ?_
          refine z_top (y := (nI (lt + wz))) (z_add lt wz) ?_
          exact kJ _ _ _ _ ⟨(nI (lt + wz)), rfl, hP, hD, hS, lv_sub hl [0, 1, 2, 3, 4, 5, 6, 7, 8, 9, 10] rfl, (Or.inr (inr_nI (by omega) (by omega) (by omega))), (okv_nI (by omega))⟩
        · have c_33 := (nI_eq (a := (vx / 8) % 3) (b := 0) (by omega) (by omega)).mp c_33
          refine lv_iconst (v := (-1)) hx hb dL_wants_78 (by decide) ?_
          refine lv_goto (tgt := 97) hx hb dL_wants_79 (by decide) ?_
          exact kJ _ _ _ _ ⟨(-1), rfl, hP, hD, hS, lv_sub hl [0, 1, 2, 3, 4, 5, 6, 7, 8, 9, 10] rfl, (Or.inl rfl), (Or.inl rfl)⟩
    · skip
      refine lv_iload_n hx hb dL_wants_35 rfl (lv_at hl 7 rfl) ?_
      refine lv_iconst (v := 3) hx hb dL_wants_36 (by decide) ?_
      refine lv_irem hx hb dL_wants_37 (by decide) ?_
      refine z_top (y := (nI (vy % 3))) (z_rem (a := vy) (d := 3) (by omega) (by omega) (by omega)) ?_
      refine lv_if_ne (tgt := 45) hx hb dL_wants_38 (by decide) (fun c_34 => ?_) (fun c_34 => ?_)
      · have c_34 := mt (nI_eq (a := vy % 3) (b := 0) (by omega) (by omega)).mpr c_34
        refine lv_iload_n hx hb dL_wants_45 rfl (lv_at hl 7 rfl) ?_
        refine lv_iconst (v := 3) hx hb dL_wants_46 (by decide) ?_
        refine lv_idiv hx hb dL_wants_47 (by decide) ?_
        refine z_top (y := (nI (vy / 3))) (z_div (a := vy) (d := 3) (by omega) (by omega) (by omega)) ?_
        refine lv_bipush (v := 101) hx hb dL_wants_48 (by decide) ?_
        refine lv_irem hx hb dL_wants_50 (by decide) ?_
        refine z_top (y := (nI ((vy / 3) % 101))) (z_rem (a := (vy / 3)) (d := 101) (by omega) (by omega) (by omega)) ?_
        exact kJ _ _ _ _ ⟨(vy / 3) % 101, rfl, hP, hD, hS, lv_sub hl [0, 1, 2, 3, 4, 5, 6, 7, 8] rfl, (by omega)⟩
      · have c_34 := (nI_eq (a := vy % 3) (b := 0) (by omega) (by omega)).mp c_34
        refine lv_iconst (v := 0) hx hb dL_wants_41 (by decide) ?_
        refine lv_goto (tgt := 51) hx hb dL_wants_42 (by decide) ?_
        exact kJ _ _ _ _ ⟨0, rfl, hP, hD, hS, lv_sub hl [0, 1, 2, 3, 4, 5, 6, 7, 8] rfl, (by omega)⟩
set_option maxHeartbeats 4000000 in
set_option maxRecDepth 100000 in
/-- wants(o, 2, x, y, w), the end 0 -/
theorem c_wants_02 (l : Launch) (D : va_G) (cA : Nat → ClassId) (zv : Nat → Nat) (sz : Nat) (o F G : Nat) (nw se : Int32) (pa : Nat → Nat) (an ln : Nat) (x y : Nat → Nat) (vx vy : Nat) (xv yv : Nat → Int32) (xr yr : Nat → Nat → Int32) (xf yf : Nat) (QX QY : Qt) (xd yd : Nat → Nat → Int32) (B gv qv : Nat) (wa : Nat) (ww : Nat → Int32) (hl0 : l.stackTraces = false) (he : en 0 F G (x 0) (y 0)) (hvx : vx % 2 = 0) (hvb : vx < 1073741824) (hvc : vy < 1073741824) (hPW : PW B gv qv xv xd QX yv yd QY) (hWr : WRe 0 xd ww) (hWr2 : WRe 1 yd ww) : Met l yL_wants wsL_wants ({ frames := 11, cells := 1, slots := 6, locals := 172 }) (va_Pc [.ref o, .int 2, .int (nI vx), .int (nI vy), .ref wa] (zUX D cA zv sz [(o, .inr (4, [.ref F, .ref G, .int (nI qv), .int nw, .int se, .ref (pa 0), .ref an, .ref ln])), cE x xv, (x 1, .inl (cA 0, 4, .inl (xd 0))), (x 2, .inl (cA 0, 4, .inl (xd 1))), (x 3, .inl (cA 0, 4, .inl (xd 2))), (x 4, .inl (cA 0, 4, .inl (xd 3))), (x 5, .inl (cA 0, 4, .inl (xd 4))), (x 6, .inl (cA 1, 4, .inl (xd 5))), (x 7, .inl (cA 0, 4, .inl (xd 6))), (x 8, .inl (cA 0, 4, .inl (xd 7))), cE y yv, (wa, .inl (cA 0, 48, .inl ww))])) (va_Qi (fun (r : Int32) (u : ((Nat → Nat → Int32) × (Nat → Int32))) => PW (B + 1) gv qv xv u.1 QX yv yd QY ∧ WRe 0 u.1 u.2 ∧ WRe 1 yd u.2 ∧ r = 1) (fun (u : ((Nat → Nat → Int32) × (Nat → Int32))) t => zB D [(o, .inr (4, [.ref F, .ref G, .int (nI qv), .int nw, .int se, .ref (pa 0), .ref an, .ref ln])), cE x xv, (x 1, .inl (cA 0, 4, .inl (xd 0))), (x 2, .inl (cA 0, 4, .inl (xd 1))), (x 3, .inl (cA 0, 4, .inl (xd 2))), (x 4, .inl (cA 0, 4, .inl (xd 3))), (x 5, .inl (cA 0, 4, .inl (xd 4))), (x 6, .inl (cA 1, 4, .inl (xd 5))), (x 7, .inl (cA 0, 4, .inl (xd 6))), (x 8, .inl (cA 0, 4, .inl (xd 7))), cE y yv, (wa, .inl (cA 0, 48, .inl ww))] sz [(o, .inr (4, [.ref F, .ref G, .int (nI qv), .int nw, .int se, .ref (pa 0), .ref an, .ref ln])), cE x xv, (x 1, .inl (cA 0, 4, .inl (u.1 0))), (x 2, .inl (cA 0, 4, .inl (u.1 1))), (x 3, .inl (cA 0, 4, .inl (u.1 2))), (x 4, .inl (cA 0, 4, .inl (u.1 3))), (x 5, .inl (cA 0, 4, .inl (u.1 4))), (x 6, .inl (cA 1, 4, .inl (u.1 5))), (x 7, .inl (cA 0, 4, .inl (u.1 6))), (x 8, .inl (cA 0, 4, .inl (u.1 7))), cE y yv, (wa, .inl (cA 0, 48, .inl u.2))] t) (va_A [(o, .inr (4, [.ref F, .ref G, .int (nI qv), .int nw, .int se, .ref (pa 0), .ref an, .ref ln])), cE x xv, (x 1, .inl (cA 0, 4, .inl (xd 0))), (x 2, .inl (cA 0, 4, .inl (xd 1))), (x 3, .inl (cA 0, 4, .inl (xd 2))), (x 4, .inl (cA 0, 4, .inl (xd 3))), (x 5, .inl (cA 0, 4, .inl (xd 4))), (x 6, .inl (cA 1, 4, .inl (xd 5))), (x 7, .inl (cA 0, 4, .inl (xd 6))), (x 8, .inl (cA 0, 4, .inl (xd 7))), cE y yv, (wa, .inl (cA 0, 48, .inl ww))] sz)) 1 6 (va_A [(o, .inr (4, [.ref F, .ref G, .int (nI qv), .int nw, .int se, .ref (pa 0), .ref an, .ref ln])), cE x xv, (x 1, .inl (cA 0, 4, .inl (xd 0))), (x 2, .inl (cA 0, 4, .inl (xd 1))), (x 3, .inl (cA 0, 4, .inl (xd 2))), (x 4, .inl (cA 0, 4, .inl (xd 3))), (x 5, .inl (cA 0, 4, .inl (xd 4))), (x 6, .inl (cA 1, 4, .inl (xd 5))), (x 7, .inl (cA 0, 4, .inl (xd 6))), (x 8, .inl (cA 0, 4, .inl (xd 7))), cE y yv, (wa, .inl (cA 0, 48, .inl ww))] sz) := by
  refine Met.ofW (cc := cL_wants) (maxL := 15) (ret := (some .boolean)) (by decide) rfl ?_
  intro p e s m args below meth c s₁ B hml hv
  obtain ⟨rfl, ⟨hsz, hP, hK, hD0, hE0⟩, hX0⟩ := hv
  have hx := B.exec
  have hb := B.bytes
  have hr := B.returns
  have hts := atoms_spec (ws := wsL_wants) B.pre
  have hown : s.vm.findClass RL = some m.cls := findClass_of_methodNamed B.named
  have hlocks := B.notSynchronized
  subst hsz
  have hD := hD0.self (sz := s.heap.size)
  generalize hAe : va_A [(o, .inr (4, [.ref F, .ref G, .int (nI qv), .int nw, .int se, .ref (pa 0), .ref an, .ref ln])), cE x xv, (x 1, .inl (cA 0, 4, .inl (xd 0))), (x 2, .inl (cA 0, 4, .inl (xd 1))), (x 3, .inl (cA 0, 4, .inl (xd 2))), (x 4, .inl (cA 0, 4, .inl (xd 3))), (x 5, .inl (cA 0, 4, .inl (xd 4))), (x 6, .inl (cA 1, 4, .inl (xd 5))), (x 7, .inl (cA 0, 4, .inl (xd 6))), (x 8, .inl (cA 0, 4, .inl (xd 7))), cE y yv, (wa, .inl (cA 0, 48, .inl ww))] s.heap.size = A at hD hE0 hX0 ⊢
  have hA : ∀ q : Nat, s.heap.size ≤ q → A q := fun q h => by rw [← hAe]; exact Or.inr h
  have hS : va_S A s.heap s.heap [] := va_S.rf
  have hl := lv_entry ([.ref o, .int 2, .int (nI vx), .int (nI vy), .ref wa]) (n := 15) (Nat.le_of_ble_eq_true rfl)
  rw [lg_entry_eq]
  generalize (lg_sl ([.ref o, .int 2, .int (nI vx), .int (nI vy), .ref wa]) ++ List.replicate (15 - (lg_sl ([.ref o, .int 2, .int (nI vx), .int (nI vy), .ref wa])).length) Slot.unset).toArray = ls at hl ⊢
  have hl : lv_has ls 15 [(0, .ref o), (1, .int 2), (2, .int (nI vx)), (3, .int (nI vy)), (4, .ref wa)] := hl
  obtain ⟨sx, kx, tx, sy, ky, ty, hI, hbx, hby⟩ := hPW
  obtain ⟨hx0, hx2, hx3, hx7, hx10, hx4⟩ := id hI.1.1
  obtain ⟨hy0, hy2, hy3, hy7, hy10, hy4⟩ := id hI.1.2
  have hQx := hI.2.2.2.1.1
  have hQy := hI.2.2.2.1.2
  have hq1 := hI.2.2.2.2.1
  refine lv_iload_n hx hb dL_wants_0 rfl (lv_at hl 2 rfl) ?_
  refine lv_iconst (v := 2) hx hb dL_wants_1 (by decide) ?_
  refine lv_irem hx hb dL_wants_2 (by decide) ?_
  refine z_top (y := (nI (vx % 2))) (z_rem (a := vx) (d := 2) (by omega) (by omega) (by omega)) ?_
  refine z_top (y := 0) (congrArg nI hvx) ?_
  refine lv_istore (lv' := [(5, .int 0), (0, .ref o), (1, .int 2), (2, .int (nI vx)), (3, .int (nI vy)), (4, .ref wa)]) hx hb dL_wants_3 hl (by decide) rfl (fun ls hl => ?_)
  refine lv_iload_n hx hb dL_wants_5 rfl (lv_at hl 3 rfl) ?_
  refine lv_iconst (v := 2) hx hb dL_wants_6 (by decide) ?_
  refine lv_idiv hx hb dL_wants_7 (by decide) ?_
  refine z_top (y := (nI (vx / 2))) (z_div (a := vx) (d := 2) (by omega) (by omega) (by omega)) ?_
  refine lv_iconst (v := 4) hx hb dL_wants_8 (by decide) ?_
  refine lv_irem hx hb dL_wants_9 (by decide) ?_
  refine z_top (y := (nI ((vx / 2) % 4))) (z_rem (a := (vx / 2)) (d := 4) (by omega) (by omega) (by omega)) ?_
  obtain ⟨op, eop, hop⟩ := z_modv (vx / 2) (d := 4) (by decide)
  refine z_top (y := (nI op)) (congrArg nI eop) ?_
  refine lv_istore (lv' := [(6, .int (nI op)), (5, .int 0), (0, .ref o), (1, .int 2), (2, .int (nI vx)), (3, .int (nI vy)), (4, .ref wa)]) hx hb dL_wants_10 hl (by decide) rfl (fun ls hl => ?_)
  refine lv_bipush (v := 6) hx hb dL_wants_12 (by decide) ?_
  refine lv_iconst (v := 4) hx hb dL_wants_14 (by decide) ?_
  refine lv_iload hx hb dL_wants_15 (lv_at hl 1 rfl) ?_
  refine lv_imul hx hb dL_wants_17 ?_
  refine z_top (y := 0) (by decide) ?_
  refine lv_iload hx hb dL_wants_18 (lv_at hl 0 rfl) ?_
  refine lv_iadd hx hb dL_wants_20 ?_
  refine z_top (y := (nI op)) (Int32.zero_add _) ?_
  refine lv_imul hx hb dL_wants_21 ?_
  refine z_top (y := (nI (6 * op))) (z_mul 6 op) ?_
  refine lv_istore (lv' := [(7, .int (nI (6 * op))), (6, .int (nI op)), (5, .int 0), (0, .ref o), (1, .int 2), (2, .int (nI vx)), (3, .int (nI vy)), (4, .ref wa)]) hx hb dL_wants_22 hl (by decide) rfl (fun ls hl => ?_)
  refine lv_aload_n hx hb dL_wants_24 rfl (lv_at hl 3 rfl) ?_
  refine lv_iload hx hb dL_wants_25 (lv_at hl 2 rfl) ?_
  have hPc := hP.sub (ws' := [(o, .inr (4, [.ref F, .ref G, .int (nI qv), .int nw, .int se, .ref (pa 0), .ref an, .ref ln])), cE x xv]) [0, 1] rfl
  have hDc := hD.sub (ws' := [(o, .inr (4, [.ref F, .ref G, .int (nI qv), .int nw, .int se, .ref (pa 0), .ref an, .ref ln])), cE x xv]) [0, 1] (by decide) rfl
  have hFc := va_free (wc := [(o, .inr (4, [.ref F, .ref G, .int (nI qv), .int nw, .int se, .ref (pa 0), .ref an, .ref ln])), cE x xv]) hD hS hA [0, 1] rfl
  refine va_calli (va_runV (As := [.int 0]) (rest := []) ⟨hx, hb, hml, hown, hts⟩ (c_X3_state_k l D cA s.heap.size o F G (nI qv) nw se pa an ln x (y 0) 0 xv (by first | exact he | exact en_flip he | exact en_01 he | exact en_10 he)) (cwV 1 hts gL_wants_X3_state rfl rfl rfl (by decide +kernel) ⟨Nat.le_of_ble_eq_true rfl, Nat.le_of_ble_eq_true rfl⟩) ⟨zU_blind, va_recv hK hPc (ci := 4) (q0 := 0) rfl rfl, fun U hU hW => ⟨rfl, zU_call hU hPc hW.alike hK hDc⟩⟩ rfl rfl hl.1 rfl (lv_room (Nat.le_of_ble_eq_true rfl)) dL_wants_27 ⟨(Nat.zero_le _), (Nat.zero_le _)⟩) hS (fun q _ h => hFc q h) hFc (fun zr u t H1 locs ht hvm hw hB hz1 hk1 hS => ?_)
  obtain ⟨hP1, hD1⟩ := hB
  rw [ht] at hP1
  obtain ⟨hP, hD⟩ := va_join (wr := [(x 1, .inl (cA 0, 4, .inl (xd 0))), (x 2, .inl (cA 0, 4, .inl (xd 1))), (x 3, .inl (cA 0, 4, .inl (xd 2))), (x 4, .inl (cA 0, 4, .inl (xd 3))), (x 5, .inl (cA 0, 4, .inl (xd 4))), (x 6, .inl (cA 1, 4, .inl (xd 5))), (x 7, .inl (cA 0, 4, .inl (xd 6))), (x 8, .inl (cA 0, 4, .inl (xd 7))), cE y yv, (wa, .inl (cA 0, 48, .inl ww))]) (w1 := [(o, .inr (4, [.ref F, .ref G, .int (nI qv), .int nw, .int se, .ref (pa 0), .ref an, .ref ln])), cE x xv]) hP hD [0, 1] [2, 3, 4, 5, 6, 7, 8, 9, 10, 11] rfl rfl (by decide) (by decide) hk1 hFc hP1 hD1
  generalize H1 = H at hP hS ⊢
  have hP := hP.sub (ws' := [(o, .inr (4, [.ref F, .ref G, .int (nI qv), .int nw, .int se, .ref (pa 0), .ref an, .ref ln])), cE x xv, (x 1, .inl (cA 0, 4, .inl (xd 0))), (x 2, .inl (cA 0, 4, .inl (xd 1))), (x 3, .inl (cA 0, 4, .inl (xd 2))), (x 4, .inl (cA 0, 4, .inl (xd 3))), (x 5, .inl (cA 0, 4, .inl (xd 4))), (x 6, .inl (cA 1, 4, .inl (xd 5))), (x 7, .inl (cA 0, 4, .inl (xd 6))), (x 8, .inl (cA 0, 4, .inl (xd 7))), cE y yv, (wa, .inl (cA 0, 48, .inl ww))]) [10, 11, 0, 1, 2, 3, 4, 5, 6, 7, 8, 9] rfl
  have hD := hD.sub (ws' := [(o, .inr (4, [.ref F, .ref G, .int (nI qv), .int nw, .int se, .ref (pa 0), .ref an, .ref ln])), cE x xv, (x 1, .inl (cA 0, 4, .inl (xd 0))), (x 2, .inl (cA 0, 4, .inl (xd 1))), (x 3, .inl (cA 0, 4, .inl (xd 2))), (x 4, .inl (cA 0, 4, .inl (xd 3))), (x 5, .inl (cA 0, 4, .inl (xd 4))), (x 6, .inl (cA 1, 4, .inl (xd 5))), (x 7, .inl (cA 0, 4, .inl (xd 6))), (x 8, .inl (cA 0, 4, .inl (xd 7))), cE y yv, (wa, .inl (cA 0, 48, .inl ww))]) [10, 11, 0, 1, 2, 3, 4, 5, 6, 7, 8, 9] (by decide) rfl
  clear hPc hDc hFc hP1 hD1 hk1 hz1
  have hw_1 := hw
  obtain rfl := hw
  refine z_top (y := (nI sx)) hx0 ?_
  have hPc := hP.sub (ws' := []) [] rfl
  have hDc := hD.sub (ws' := []) [] (by decide) rfl
  have hFc := va_free (wc := []) hD hS hA [] rfl
  refine va_calli (va_runS (As := [.int (nI sx)]) (rest := []) ⟨hx, hb, hml, hown, hts⟩ (c_L_isShut l D cA H.size sx (by omega)) (va_cwS 1 hts gL_wants_L_isShut rfl rfl rfl (by decide +kernel) ⟨Nat.le_of_ble_eq_true rfl, Nat.le_of_ble_eq_true rfl⟩) ⟨zU_blind, fun U hU hW => ⟨rfl, zU_call hU hPc hW.alike hK hDc⟩⟩ rfl rfl hl.1 rfl (lv_room (Nat.le_of_ble_eq_true rfl)) dL_wants_30 ⟨(Nat.zero_le _), (Nat.zero_le _)⟩) hS (fun q _ h => hFc q h) hFc (fun zr u t H1 locs ht hvm hw hB hz1 hk1 hS => ?_)
  obtain ⟨hP1, hD1⟩ := hB
  rw [ht] at hP1
  obtain ⟨hP, hD⟩ := va_join (wr := [(o, .inr (4, [.ref F, .ref G, .int (nI qv), .int nw, .int se, .ref (pa 0), .ref an, .ref ln])), cE x xv, (x 1, .inl (cA 0, 4, .inl (xd 0))), (x 2, .inl (cA 0, 4, .inl (xd 1))), (x 3, .inl (cA 0, 4, .inl (xd 2))), (x 4, .inl (cA 0, 4, .inl (xd 3))), (x 5, .inl (cA 0, 4, .inl (xd 4))), (x 6, .inl (cA 1, 4, .inl (xd 5))), (x 7, .inl (cA 0, 4, .inl (xd 6))), (x 8, .inl (cA 0, 4, .inl (xd 7))), cE y yv, (wa, .inl (cA 0, 48, .inl ww))]) (w1 := []) hP hD [] [0, 1, 2, 3, 4, 5, 6, 7, 8, 9, 10, 11] rfl rfl (by decide) (by decide) hk1 hFc hP1 hD1
  generalize H1 = H at hP hS ⊢
  have hP := hP.sub (ws' := [(o, .inr (4, [.ref F, .ref G, .int (nI qv), .int nw, .int se, .ref (pa 0), .ref an, .ref ln])), cE x xv, (x 1, .inl (cA 0, 4, .inl (xd 0))), (x 2, .inl (cA 0, 4, .inl (xd 1))), (x 3, .inl (cA 0, 4, .inl (xd 2))), (x 4, .inl (cA 0, 4, .inl (xd 3))), (x 5, .inl (cA 0, 4, .inl (xd 4))), (x 6, .inl (cA 1, 4, .inl (xd 5))), (x 7, .inl (cA 0, 4, .inl (xd 6))), (x 8, .inl (cA 0, 4, .inl (xd 7))), cE y yv, (wa, .inl (cA 0, 48, .inl ww))]) [0, 1, 2, 3, 4, 5, 6, 7, 8, 9, 10, 11] rfl
  have hD := hD.sub (ws' := [(o, .inr (4, [.ref F, .ref G, .int (nI qv), .int nw, .int se, .ref (pa 0), .ref an, .ref ln])), cE x xv, (x 1, .inl (cA 0, 4, .inl (xd 0))), (x 2, .inl (cA 0, 4, .inl (xd 1))), (x 3, .inl (cA 0, 4, .inl (xd 2))), (x 4, .inl (cA 0, 4, .inl (xd 3))), (x 5, .inl (cA 0, 4, .inl (xd 4))), (x 6, .inl (cA 1, 4, .inl (xd 5))), (x 7, .inl (cA 0, 4, .inl (xd 6))), (x 8, .inl (cA 0, 4, .inl (xd 7))), cE y yv, (wa, .inl (cA 0, 48, .inl ww))]) [0, 1, 2, 3, 4, 5, 6, 7, 8, 9, 10, 11] (by decide) rfl
  clear hPc hDc hFc hP1 hD1 hk1 hz1
  have hw_2 := hw
  rcases z_bool hw with ⟨h_2, rfl⟩ | ⟨h_2, rfl⟩
  · skip
    refine lv_istore (lv' := [(8, .int 1), (7, .int (nI (6 * op))), (6, .int (nI op)), (5, .int 0), (0, .ref o), (1, .int 2), (2, .int (nI vx)), (3, .int (nI vy)), (4, .ref wa)]) hx hb dL_wants_33 hl (by decide) rfl (fun ls hl => ?_)
    refine z_cut (Inv := fun H locs ls st => ∃ (lt : Nat), st = [.int (nI lt)] ∧ va_P D vwCl [(o, .inr (4, [.ref F, .ref G, .int (nI qv), .int nw, .int se, .ref (pa 0), .ref an, .ref ln])), cE x xv, (x 1, .inl (cA 0, 4, .inl (xd 0))), (x 2, .inl (cA 0, 4, .inl (xd 1))), (x 3, .inl (cA 0, 4, .inl (xd 2))), (x 4, .inl (cA 0, 4, .inl (xd 3))), (x 5, .inl (cA 0, 4, .inl (xd 4))), (x 6, .inl (cA 1, 4, .inl (xd 5))), (x 7, .inl (cA 0, 4, .inl (xd 6))), (x 8, .inl (cA 0, 4, .inl (xd 7))), cE y yv, (wa, .inl (cA 0, 48, .inl ww))] H ∧ va_D A [(o, .inr (4, [.ref F, .ref G, .int (nI qv), .int nw, .int se, .ref (pa 0), .ref an, .ref ln])), cE x xv, (x 1, .inl (cA 0, 4, .inl (xd 0))), (x 2, .inl (cA 0, 4, .inl (xd 1))), (x 3, .inl (cA 0, 4, .inl (xd 2))), (x 4, .inl (cA 0, 4, .inl (xd 3))), (x 5, .inl (cA 0, 4, .inl (xd 4))), (x 6, .inl (cA 1, 4, .inl (xd 5))), (x 7, .inl (cA 0, 4, .inl (xd 6))), (x 8, .inl (cA 0, 4, .inl (xd 7))), cE y yv, (wa, .inl (cA 0, 48, .inl ww))] ∧ va_S A s.heap H locs ∧ lv_has ls 15 [(8, .int 1), (7, .int (nI (6 * op))), (6, .int (nI op)), (5, .int 0), (0, .ref o), (1, .int 2), (2, .int (nI vx)), (3, .int (nI vy)), (4, .ref wa)] ∧ lt ≤ 100) 51 (fun H locs ls st hQ9 => ?_) (fun kJ => ?_)
    · obtain ⟨lt, rfl, hP, hD, hS, hl, hlt⟩ := hQ9
      refine lv_istore (lv' := [(9, .int (nI lt)), (8, .int 1), (7, .int (nI (6 * op))), (6, .int (nI op)), (5, .int 0), (0, .ref o), (1, .int 2), (2, .int (nI vx)), (3, .int (nI vy)), (4, .ref wa)]) hx hb dL_wants_51 hl (by decide) rfl (fun ls hl => ?_)
      refine lv_iload hx hb dL_wants_53 (lv_at hl 0 rfl) ?_
      refine lv_iload_n hx hb dL_wants_55 rfl (lv_at hl 8 rfl) ?_
      refine lv_sipush (v := 303) hx hb dL_wants_56 (by decide) ?_
      refine lv_idiv hx hb dL_wants_59 (by decide) ?_
      refine z_top (y := (nI (vy / 303))) (z_div (a := vy) (d := 303) (by omega) (by omega) (by omega)) ?_
      refine lv_bipush (v := 101) hx hb dL_wants_60 (by decide) ?_
      refine lv_iload hx hb dL_wants_62 (lv_at hl 0 rfl) ?_
      refine lv_isub hx hb dL_wants_64 ?_
      refine z_top (y := (nI (101 - lt))) (z_sub (a := 101) (b := lt) (by omega)) ?_
      refine lv_irem hx hb dL_wants_65 (nI_n0 (by omega) (by omega)) ?_
      refine z_top (y := (nI ((vy / 303) % (101 - lt)))) (z_rem (a := (vy / 303)) (d := (101 - lt)) (by omega) (by omega) (by omega)) ?_
      obtain ⟨mz, emz, hmz⟩ := z_modv (vy / 303) (d := 101 - lt) (by omega)
      refine z_top (y := (nI mz)) (congrArg nI emz) ?_
      refine lv_iadd hx hb dL_wants_66 ?_
      refine z_top (y := (nI (lt + mz))) (z_add lt mz) ?_
      refine lv_istore (lv' := [(10, .int (nI (lt + mz))), (9, .int (nI lt)), (8, .int 1), (7, .int (nI (6 * op))), (6, .int (nI op)), (5, .int 0), (0, .ref o), (1, .int 2), (2, .int (nI vx)), (3, .int (nI vy)), (4, .ref wa)]) hx hb dL_wants_67 hl (by decide) rfl (fun ls hl => ?_)
      refine z_cut (Inv := fun H locs ls st => ∃ (wi : Int32), st = [.int wi] ∧ va_P D vwCl [(o, .inr (4, [.ref F, .ref G, .int (nI qv), .int nw, .int se, .ref (pa 0), .ref an, .ref ln])), cE x xv, (x 1, .inl (cA 0, 4, .inl (xd 0))), (x 2, .inl (cA 0, 4, .inl (xd 1))), (x 3, .inl (cA 0, 4, .inl (xd 2))), (x 4, .inl (cA 0, 4, .inl (xd 3))), (x 5, .inl (cA 0, 4, .inl (xd 4))), (x 6, .inl (cA 1, 4, .inl (xd 5))), (x 7, .inl (cA 0, 4, .inl (xd 6))), (x 8, .inl (cA 0, 4, .inl (xd 7))), cE y yv, (wa, .inl (cA 0, 48, .inl ww))] H ∧ va_D A [(o, .inr (4, [.ref F, .ref G, .int (nI qv), .int nw, .int se, .ref (pa 0), .ref an, .ref ln])), cE x xv, (x 1, .inl (cA 0, 4, .inl (xd 0))), (x 2, .inl (cA 0, 4, .inl (xd 1))), (x 3, .inl (cA 0, 4, .inl (xd 2))), (x 4, .inl (cA 0, 4, .inl (xd 3))), (x 5, .inl (cA 0, 4, .inl (xd 4))), (x 6, .inl (cA 1, 4, .inl (xd 5))), (x 7, .inl (cA 0, 4, .inl (xd 6))), (x 8, .inl (cA 0, 4, .inl (xd 7))), cE y yv, (wa, .inl (cA 0, 48, .inl ww))] ∧ va_S A s.heap H locs ∧ lv_has ls 15 [(10, .int (nI (lt + mz))), (9, .int (nI lt)), (8, .int 1), (7, .int (nI (6 * op))), (6, .int (nI op)), (5, .int 0), (0, .ref o), (1, .int 2), (2, .int (nI vx)), (3, .int (nI vy)), (4, .ref wa)] ∧ (wi = -1 ∨ inr wi (nI lt) (nI (lt + mz))) ∧ okv wi) 97 (fun H locs ls st hQ9 => ?_) (fun kJ => ?_)
      · obtain ⟨wi, rfl, hP, hD, hS, hl, hwi, hwo⟩ := hQ9
        refine lv_istore (lv' := [(11, .int wi), (10, .int (nI (lt + mz))), (9, .int (nI lt)), (8, .int 1), (7, .int (nI (6 * op))), (6, .int (nI op)), (5, .int 0), (0, .ref o), (1, .int 2), (2, .int (nI vx)), (3, .int (nI vy)), (4, .ref wa)]) hx hb dL_wants_97 hl (by decide) rfl (fun ls hl => ?_)
        refine lv_aload_n hx hb dL_wants_99 rfl (lv_at hl 7 rfl) ?_
        refine lv_iconst (v := 0) hx hb dL_wants_100 (by decide) ?_
        have hPc := hP.sub (ws' := [(o, .inr (4, [.ref F, .ref G, .int (nI qv), .int nw, .int se, .ref (pa 0), .ref an, .ref ln])), cE x xv]) [0, 1] rfl
        have hDc := hD.sub (ws' := [(o, .inr (4, [.ref F, .ref G, .int (nI qv), .int nw, .int se, .ref (pa 0), .ref an, .ref ln])), cE x xv]) [0, 1] (by decide) rfl
        have hFc := va_free (wc := [(o, .inr (4, [.ref F, .ref G, .int (nI qv), .int nw, .int se, .ref (pa 0), .ref an, .ref ln])), cE x xv]) hD hS hA [0, 1] rfl
        refine va_calli (va_runV (As := [.int 0]) (rest := []) ⟨hx, hb, hml, hown, hts⟩ (c_X3_state_k l D cA H.size o F G (nI qv) nw se pa an ln x (y 0) 0 xv (by first | exact he | exact en_flip he | exact en_01 he | exact en_10 he)) (cwV 1 hts gL_wants_X3_state rfl rfl rfl (by decide +kernel) ⟨Nat.le_of_ble_eq_true rfl, Nat.le_of_ble_eq_true rfl⟩) ⟨zU_blind, va_recv hK hPc (ci := 4) (q0 := 0) rfl rfl, fun U hU hW => ⟨rfl, zU_call hU hPc hW.alike hK hDc⟩⟩ rfl rfl hl.1 rfl (lv_room (Nat.le_of_ble_eq_true rfl)) dL_wants_101 ⟨(Nat.zero_le _), (Nat.zero_le _)⟩) hS (fun q _ h => hFc q h) hFc (fun zr u t H1 locs ht hvm hw hB hz1 hk1 hS => ?_)
        obtain ⟨hP1, hD1⟩ := hB
        rw [ht] at hP1
        obtain ⟨hP, hD⟩ := va_join (wr := [(x 1, .inl (cA 0, 4, .inl (xd 0))), (x 2, .inl (cA 0, 4, .inl (xd 1))), (x 3, .inl (cA 0, 4, .inl (xd 2))), (x 4, .inl (cA 0, 4, .inl (xd 3))), (x 5, .inl (cA 0, 4, .inl (xd 4))), (x 6, .inl (cA 1, 4, .inl (xd 5))), (x 7, .inl (cA 0, 4, .inl (xd 6))), (x 8, .inl (cA 0, 4, .inl (xd 7))), cE y yv, (wa, .inl (cA 0, 48, .inl ww))]) (w1 := [(o, .inr (4, [.ref F, .ref G, .int (nI qv), .int nw, .int se, .ref (pa 0), .ref an, .ref ln])), cE x xv]) hP hD [0, 1] [2, 3, 4, 5, 6, 7, 8, 9, 10, 11] rfl rfl (by decide) (by decide) hk1 hFc hP1 hD1
        generalize H1 = H at hP hS ⊢
        have hP := hP.sub (ws' := [(o, .inr (4, [.ref F, .ref G, .int (nI qv), .int nw, .int se, .ref (pa 0), .ref an, .ref ln])), cE x xv, (x 1, .inl (cA 0, 4, .inl (xd 0))), (x 2, .inl (cA 0, 4, .inl (xd 1))), (x 3, .inl (cA 0, 4, .inl (xd 2))), (x 4, .inl (cA 0, 4, .inl (xd 3))), (x 5, .inl (cA 0, 4, .inl (xd 4))), (x 6, .inl (cA 1, 4, .inl (xd 5))), (x 7, .inl (cA 0, 4, .inl (xd 6))), (x 8, .inl (cA 0, 4, .inl (xd 7))), cE y yv, (wa, .inl (cA 0, 48, .inl ww))]) [10, 11, 0, 1, 2, 3, 4, 5, 6, 7, 8, 9] rfl
        have hD := hD.sub (ws' := [(o, .inr (4, [.ref F, .ref G, .int (nI qv), .int nw, .int se, .ref (pa 0), .ref an, .ref ln])), cE x xv, (x 1, .inl (cA 0, 4, .inl (xd 0))), (x 2, .inl (cA 0, 4, .inl (xd 1))), (x 3, .inl (cA 0, 4, .inl (xd 2))), (x 4, .inl (cA 0, 4, .inl (xd 3))), (x 5, .inl (cA 0, 4, .inl (xd 4))), (x 6, .inl (cA 1, 4, .inl (xd 5))), (x 7, .inl (cA 0, 4, .inl (xd 6))), (x 8, .inl (cA 0, 4, .inl (xd 7))), cE y yv, (wa, .inl (cA 0, 48, .inl ww))]) [10, 11, 0, 1, 2, 3, 4, 5, 6, 7, 8, 9] (by decide) rfl
        clear hPc hDc hFc hP1 hD1 hk1 hz1
        have hw_3 := hw
        obtain rfl := hw
        refine z_top (y := (nI sx)) hx0 ?_
        refine lv_bipush (v := 8) hx hb dL_wants_104 (by decide) ?_
        refine lv_aload_n hx hb dL_wants_106 rfl (lv_at hl 7 rfl) ?_
        refine lv_iconst (v := 1) hx hb dL_wants_107 (by decide) ?_
        have hPc := hP.sub (ws' := [(o, .inr (4, [.ref F, .ref G, .int (nI qv), .int nw, .int se, .ref (pa 0), .ref an, .ref ln])), cE y yv]) [0, 10] rfl
        have hDc := hD.sub (ws' := [(o, .inr (4, [.ref F, .ref G, .int (nI qv), .int nw, .int se, .ref (pa 0), .ref an, .ref ln])), cE y yv]) [0, 10] (by decide) rfl
        have hFc := va_free (wc := [(o, .inr (4, [.ref F, .ref G, .int (nI qv), .int nw, .int se, .ref (pa 0), .ref an, .ref ln])), cE y yv]) hD hS hA [0, 10] rfl
        refine va_calli (va_runV (As := [.int 1]) (rest := [.int 8, .int (nI sx)]) ⟨hx, hb, hml, hown, hts⟩ (c_X3_state_k l D cA H.size o F G (nI qv) nw se pa an ln y (x 0) 1 yv (by first | exact he | exact en_flip he | exact en_01 he | exact en_10 he)) (cwV 1 hts gL_wants_X3_state rfl rfl rfl (by decide +kernel) ⟨Nat.le_of_ble_eq_true rfl, Nat.le_of_ble_eq_true rfl⟩) ⟨zU_blind, va_recv hK hPc (ci := 4) (q0 := 0) rfl rfl, fun U hU hW => ⟨rfl, zU_call hU hPc hW.alike hK hDc⟩⟩ rfl rfl hl.1 rfl (lv_room (Nat.le_of_ble_eq_true rfl)) dL_wants_108 ⟨(Nat.zero_le _), (Nat.zero_le _)⟩) hS (fun q _ h => hFc q h) hFc (fun zr u t H1 locs ht hvm hw hB hz1 hk1 hS => ?_)
        obtain ⟨hP1, hD1⟩ := hB
        rw [ht] at hP1
        obtain ⟨hP, hD⟩ := va_join (wr := [cE x xv, (x 1, .inl (cA 0, 4, .inl (xd 0))), (x 2, .inl (cA 0, 4, .inl (xd 1))), (x 3, .inl (cA 0, 4, .inl (xd 2))), (x 4, .inl (cA 0, 4, .inl (xd 3))), (x 5, .inl (cA 0, 4, .inl (xd 4))), (x 6, .inl (cA 1, 4, .inl (xd 5))), (x 7, .inl (cA 0, 4, .inl (xd 6))), (x 8, .inl (cA 0, 4, .inl (xd 7))), (wa, .inl (cA 0, 48, .inl ww))]) (w1 := [(o, .inr (4, [.ref F, .ref G, .int (nI qv), .int nw, .int se, .ref (pa 0), .ref an, .ref ln])), cE y yv]) hP hD [0, 10] [1, 2, 3, 4, 5, 6, 7, 8, 9, 11] rfl rfl (by decide) (by decide) hk1 hFc hP1 hD1
        generalize H1 = H at hP hS ⊢
        have hP := hP.sub (ws' := [(o, .inr (4, [.ref F, .ref G, .int (nI qv), .int nw, .int se, .ref (pa 0), .ref an, .ref ln])), cE x xv, (x 1, .inl (cA 0, 4, .inl (xd 0))), (x 2, .inl (cA 0, 4, .inl (xd 1))), (x 3, .inl (cA 0, 4, .inl (xd 2))), (x 4, .inl (cA 0, 4, .inl (xd 3))), (x 5, .inl (cA 0, 4, .inl (xd 4))), (x 6, .inl (cA 1, 4, .inl (xd 5))), (x 7, .inl (cA 0, 4, .inl (xd 6))), (x 8, .inl (cA 0, 4, .inl (xd 7))), cE y yv, (wa, .inl (cA 0, 48, .inl ww))]) [10, 0, 1, 2, 3, 4, 5, 6, 7, 8, 11, 9] rfl
        have hD := hD.sub (ws' := [(o, .inr (4, [.ref F, .ref G, .int (nI qv), .int nw, .int se, .ref (pa 0), .ref an, .ref ln])), cE x xv, (x 1, .inl (cA 0, 4, .inl (xd 0))), (x 2, .inl (cA 0, 4, .inl (xd 1))), (x 3, .inl (cA 0, 4, .inl (xd 2))), (x 4, .inl (cA 0, 4, .inl (xd 3))), (x 5, .inl (cA 0, 4, .inl (xd 4))), (x 6, .inl (cA 1, 4, .inl (xd 5))), (x 7, .inl (cA 0, 4, .inl (xd 6))), (x 8, .inl (cA 0, 4, .inl (xd 7))), cE y yv, (wa, .inl (cA 0, 48, .inl ww))]) [10, 0, 1, 2, 3, 4, 5, 6, 7, 8, 11, 9] (by decide) rfl
        clear hPc hDc hFc hP1 hD1 hk1 hz1
        have hw_4 := hw
        obtain rfl := hw
        refine z_top (y := (nI sy)) hy0 ?_
        refine lv_imul hx hb dL_wants_111 ?_
        refine z_top (y := (nI (8 * sy))) (z_mul 8 sy) ?_
        refine lv_iadd hx hb dL_wants_112 ?_
        refine z_top (y := (nI (sx + 8 * sy))) (z_add sx (8 * sy)) ?_
        refine lv_istore (lv' := [(12, .int (nI (sx + 8 * sy))), (11, .int wi), (10, .int (nI (lt + mz))), (9, .int (nI lt)), (8, .int 1), (7, .int (nI (6 * op))), (6, .int (nI op)), (5, .int 0), (0, .ref o), (1, .int 2), (2, .int (nI vx)), (3, .int (nI vy)), (4, .ref wa)]) hx hb dL_wants_113 hl (by decide) rfl (fun ls hl => ?_)
        refine lv_iload_n hx hb dL_wants_115 rfl (lv_at hl 9 rfl) ?_
        refine lv_if_ne (tgt := 129) hx hb dL_wants_116 (by decide) (fun _ => ?_) (fun c_5 => absurd c_5 (by decide))
        refine lv_aload hx hb dL_wants_129 (lv_at hl 12 rfl) ?_
        refine lv_iload hx hb dL_wants_131 (lv_at hl 5 rfl) ?_
        refine lv_iconst (v := 5) hx hb dL_wants_133 (by decide) ?_
        refine lv_iadd hx hb dL_wants_134 ?_
        refine z_top (y := (nI (6 * op + 5))) (z_add (6 * op) 5) ?_
        refine z_iald (k := (6 * op + 5)) (v := ((xd 5) op)) hx hb hK hP 11 0 rfl rfl rfl (by omega) (by decide) (wr_at (hWr op hop).2.2.2 (by omega)) dL_wants_135 ?_
        refine lv_istore (lv' := [(13, .int ((xd 5) op)), (12, .int (nI (sx + 8 * sy))), (11, .int wi), (10, .int (nI (lt + mz))), (9, .int (nI lt)), (8, .int 1), (7, .int (nI (6 * op))), (6, .int (nI op)), (5, .int 0), (0, .ref o), (1, .int 2), (2, .int (nI vx)), (3, .int (nI vy)), (4, .ref wa)]) hx hb dL_wants_136 hl (by decide) rfl (fun ls hl => ?_)
        refine lv_aload_n hx hb dL_wants_138 rfl (lv_at hl 9 rfl) ?_
        refine lv_iload_n hx hb dL_wants_139 rfl (lv_at hl 10 rfl) ?_
        refine lv_iload hx hb dL_wants_140 (lv_at hl 8 rfl) ?_
        refine lv_iload hx hb dL_wants_142 (lv_at hl 7 rfl) ?_
        refine lv_iload_n hx hb dL_wants_144 rfl (lv_at hl 10 rfl) ?_
        refine lv_iconst (v := 2) hx hb dL_wants_145 (by decide) ?_
        refine lv_icmp_ne (tgt := 158) hx hb dL_wants_146 (by decide) (fun c_6 => absurd c_6 (by decide)) (fun _ => ?_)
        refine lv_iload_n hx hb dL_wants_149 rfl (lv_at hl 11 rfl) ?_
        refine lv_bipush (v := 8) hx hb dL_wants_150 (by decide) ?_
        refine lv_idiv hx hb dL_wants_152 (by decide) ?_
        refine z_top (y := (nI (vx / 8))) (z_div (a := vx) (d := 8) (by omega) (by omega) (by omega)) ?_
        refine lv_iconst (v := 2) hx hb dL_wants_153 (by decide) ?_
        refine lv_irem hx hb dL_wants_154 (by decide) ?_
        refine z_top (y := (nI ((vx / 8) % 2))) (z_rem (a := (vx / 8)) (d := 2) (by omega) (by omega) (by omega)) ?_
        refine lv_goto (tgt := 160) hx hb dL_wants_155 (by decide) ?_
        refine lv_iload hx hb dL_wants_160 (lv_at hl 4 rfl) ?_
        refine lv_iload hx hb dL_wants_162 (lv_at hl 3 rfl) ?_
        have hPc := hP.sub (ws' := [(o, .inr (4, [.ref F, .ref G, .int (nI qv), .int nw, .int se, .ref (pa 0), .ref an, .ref ln])), cE x xv, (x 6, .inl (cA 1, 4, .inl (xd 5)))]) [0, 1, 7] rfl
        have hDc := hD.sub (ws' := [(o, .inr (4, [.ref F, .ref G, .int (nI qv), .int nw, .int se, .ref (pa 0), .ref an, .ref ln])), cE x xv, (x 6, .inl (cA 1, 4, .inl (xd 5)))]) [0, 1, 7] (by decide) rfl
        have hFc := va_free (wc := [(o, .inr (4, [.ref F, .ref G, .int (nI qv), .int nw, .int se, .ref (pa 0), .ref an, .ref ln])), cE x xv, (x 6, .inl (cA 1, 4, .inl (xd 5)))]) hD hS hA [0, 1, 7] rfl
        refine va_calli (vx_runSW (As := [.ref o, .int 2, .int 0, .int (nI op), .int (nI ((vx / 8) % 2)), .int (nI lt), .int (nI (lt + mz))]) (rest := []) ⟨hx, hb, hml, hown, hts⟩ (c_asks_refuse_k l D cA H.size o F G (nI qv) nw se pa an ln x (y 0) 0 xv op ((vx / 8) % 2) (xd 5) (nI lt) (nI (lt + mz)) (by first | exact he | exact en_flip he | exact en_01 he | exact en_10 he) hop (by omega) (hI.2.1.1.1 op hop).2.2.2.2.1 ((s_shut hI).mpr (by omega))) (vx_cwSW 7 hts gL_wants_L_asks rfl rfl rfl (by decide +kernel) ⟨Nat.le_of_ble_eq_true rfl, Nat.le_of_ble_eq_true rfl⟩) ⟨zU_blind, fun U hU hW => ⟨rfl, zU_call hU hPc hW.alike hK hDc⟩⟩ rfl rfl hl.1 rfl (lv_room (Nat.le_of_ble_eq_true rfl)) dL_wants_164 ⟨(Nat.zero_le _), (Nat.zero_le _)⟩) hS (fun q _ h => hFc q h) hFc (fun zr u t H1 locs ht hvm hw hB hz1 hk1 hS => ?_)
        obtain ⟨w5'_7, rfl⟩ : ∃ z, z = u := ⟨_, rfl⟩
        obtain ⟨hP1, hD1⟩ := hB
        rw [ht] at hP1
        try dsimp only at hw hP1 hD1
        obtain ⟨hP, hD⟩ := va_join (wr := [(x 1, .inl (cA 0, 4, .inl (xd 0))), (x 2, .inl (cA 0, 4, .inl (xd 1))), (x 3, .inl (cA 0, 4, .inl (xd 2))), (x 4, .inl (cA 0, 4, .inl (xd 3))), (x 5, .inl (cA 0, 4, .inl (xd 4))), (x 7, .inl (cA 0, 4, .inl (xd 6))), (x 8, .inl (cA 0, 4, .inl (xd 7))), cE y yv, (wa, .inl (cA 0, 48, .inl ww))]) (w1 := [(o, .inr (4, [.ref F, .ref G, .int (nI qv), .int nw, .int se, .ref (pa 0), .ref an, .ref ln])), cE x xv, (x 6, .inl (cA 1, 4, .inl w5'_7))]) hP hD [0, 1, 7] [2, 3, 4, 5, 6, 8, 9, 10, 11] rfl rfl (by decide) (by decide) hk1 hFc hP1 hD1
        generalize H1 = H at hP hS ⊢
        have hP := hP.sub (ws' := [(o, .inr (4, [.ref F, .ref G, .int (nI qv), .int nw, .int se, .ref (pa 0), .ref an, .ref ln])), cE x xv, (x 1, .inl (cA 0, 4, .inl (xd 0))), (x 2, .inl (cA 0, 4, .inl (xd 1))), (x 3, .inl (cA 0, 4, .inl (xd 2))), (x 4, .inl (cA 0, 4, .inl (xd 3))), (x 5, .inl (cA 0, 4, .inl (xd 4))), (x 6, .inl (cA 1, 4, .inl w5'_7)), (x 7, .inl (cA 0, 4, .inl (xd 6))), (x 8, .inl (cA 0, 4, .inl (xd 7))), cE y yv, (wa, .inl (cA 0, 48, .inl ww))]) [9, 10, 0, 1, 2, 3, 4, 11, 5, 6, 7, 8] rfl
        have hD := hD.sub (ws' := [(o, .inr (4, [.ref F, .ref G, .int (nI qv), .int nw, .int se, .ref (pa 0), .ref an, .ref ln])), cE x xv, (x 1, .inl (cA 0, 4, .inl (xd 0))), (x 2, .inl (cA 0, 4, .inl (xd 1))), (x 3, .inl (cA 0, 4, .inl (xd 2))), (x 4, .inl (cA 0, 4, .inl (xd 3))), (x 5, .inl (cA 0, 4, .inl (xd 4))), (x 6, .inl (cA 1, 4, .inl w5'_7)), (x 7, .inl (cA 0, 4, .inl (xd 6))), (x 8, .inl (cA 0, 4, .inl (xd 7))), cE y yv, (wa, .inl (cA 0, 48, .inl ww))]) [9, 10, 0, 1, 2, 3, 4, 11, 5, 6, 7, 8] (by decide) rfl
        clear hPc hDc hFc hP1 hD1 hk1 hz1
        obtain ⟨rfl, hw⟩ := hw
        have hw_7 := hw
        obtain rfl := hw
        refine lv_istore (lv' := [(14, .int ((xd 5) op)), (13, .int ((xd 5) op)), (12, .int (nI (sx + 8 * sy))), (11, .int wi), (10, .int (nI (lt + mz))), (9, .int (nI lt)), (8, .int 1), (7, .int (nI (6 * op))), (6, .int (nI op)), (5, .int 0), (0, .ref o), (1, .int 2), (2, .int (nI vx)), (3, .int (nI vy)), (4, .ref wa)]) hx hb dL_wants_167 hl (by decide) rfl (fun ls hl => ?_)
        refine lv_iload hx hb dL_wants_169 (lv_at hl 6 rfl) ?_
        refine lv_if_eq (tgt := 208) hx hb dL_wants_171 (by decide) (fun c_8 => absurd c_8 (by decide)) (fun _ => ?_)
        refine lv_iload_n hx hb dL_wants_174 rfl (lv_at hl 11 rfl) ?_
        refine lv_if_ne (tgt := 208) hx hb dL_wants_175 (by decide) (fun _ => ?_) (fun c_9 => absurd c_9 (by decide))
        refine lv_iload hx hb dL_wants_208 (lv_at hl 6 rfl) ?_
        refine lv_if_eq (tgt := 239) hx hb dL_wants_210 (by decide) (fun c_10 => absurd c_10 (by decide)) (fun _ => ?_)
        refine lv_iload_n hx hb dL_wants_213 rfl (lv_at hl 11 rfl) ?_
        refine lv_iconst (v := 1) hx hb dL_wants_214 (by decide) ?_
        refine lv_icmp_ne (tgt := 239) hx hb dL_wants_215 (by decide) (fun _ => ?_) (fun c_11 => absurd c_11 (by decide))
        refine lv_iload hx hb dL_wants_239 (lv_at hl 6 rfl) ?_
        refine lv_if_eq (tgt := 257) hx hb dL_wants_241 (by decide) (fun c_12 => absurd c_12 (by decide)) (fun _ => ?_)
        refine lv_aload hx hb dL_wants_244 (lv_at hl 14 rfl) ?_
        refine lv_iload hx hb dL_wants_246 (lv_at hl 7 rfl) ?_
        refine lv_iconst (v := 5) hx hb dL_wants_248 (by decide) ?_
        refine lv_iadd hx hb dL_wants_249 ?_
        refine z_top (y := (nI (6 * op + 5))) (z_add (6 * op) 5) ?_
        refine lv_iload_n hx hb dL_wants_250 rfl (lv_at hl 12 rfl) ?_
        refine lv_bipush (v := 8) hx hb dL_wants_251 (by decide) ?_
        refine lv_idiv hx hb dL_wants_253 (by decide) ?_
        refine z_top (y := (nI (vx / 8))) (z_div (a := vx) (d := 8) (by omega) (by omega) (by omega)) ?_
        refine lv_iconst (v := 2) hx hb dL_wants_254 (by decide) ?_
        refine lv_irem hx hb dL_wants_255 (by decide) ?_
        refine z_top (y := (nI ((vx / 8) % 2))) (z_rem (a := (vx / 8)) (d := 2) (by omega) (by omega) (by omega)) ?_
        refine z_iast (k := (6 * op + 5)) hx hb hK hP hD hS 11 0 rfl rfl rfl (by omega) (by decide) dL_wants_256 (fun H locs hP hD hS => ?_)
        have hP : va_P D vwCl [(o, .inr (4, [.ref F, .ref G, .int (nI qv), .int nw, .int se, .ref (pa 0), .ref an, .ref ln])), cE x xv, (x 1, .inl (cA 0, 4, .inl (xd 0))), (x 2, .inl (cA 0, 4, .inl (xd 1))), (x 3, .inl (cA 0, 4, .inl (xd 2))), (x 4, .inl (cA 0, 4, .inl (xd 3))), (x 5, .inl (cA 0, 4, .inl (xd 4))), (x 6, .inl (cA 1, 4, .inl (upd (xd 5) op (nI ((vx / 8) % 2))))), (x 7, .inl (cA 0, 4, .inl (xd 6))), (x 8, .inl (cA 0, 4, .inl (xd 7))), cE y yv, (wa, .inl (cA 0, 48, .inl (upd ww (6 * op + 5) (nI ((vx / 8) % 2)))))] H := hP
        have hD : va_D A [(o, .inr (4, [.ref F, .ref G, .int (nI qv), .int nw, .int se, .ref (pa 0), .ref an, .ref ln])), cE x xv, (x 1, .inl (cA 0, 4, .inl (xd 0))), (x 2, .inl (cA 0, 4, .inl (xd 1))), (x 3, .inl (cA 0, 4, .inl (xd 2))), (x 4, .inl (cA 0, 4, .inl (xd 3))), (x 5, .inl (cA 0, 4, .inl (xd 4))), (x 6, .inl (cA 1, 4, .inl (upd (xd 5) op (nI ((vx / 8) % 2))))), (x 7, .inl (cA 0, 4, .inl (xd 6))), (x 8, .inl (cA 0, 4, .inl (xd 7))), cE y yv, (wa, .inl (cA 0, 48, .inl (upd ww (6 * op + 5) (nI ((vx / 8) % 2)))))] := hD
        refine lv_iload hx hb dL_wants_257 (lv_at hl 0 rfl) ?_
        refine lv_iload hx hb dL_wants_259 (lv_at hl 6 rfl) ?_
        refine lv_if_ne (tgt := 269) hx hb dL_wants_261 (by decide) (fun _ => ?_) (fun c_13 => absurd c_13 (by decide))
        refine lv_iload_n hx hb dL_wants_269 rfl (lv_at hl 11 rfl) ?_
        refine lv_iconst (v := 1) hx hb dL_wants_270 (by decide) ?_
        refine lv_icmp_ne (tgt := 278) hx hb dL_wants_271 (by decide) (fun _ => ?_) (fun c_14 => absurd c_14 (by decide))
        refine lv_iload hx hb dL_wants_278 (lv_at hl 1 rfl) ?_
        refine lv_icmp_ne (tgt := 306) hx hb dL_wants_280 (by decide) (fun c_15 => absurd rfl c_15) (fun _ => ?_)
        refine lv_aload_n hx hb dL_wants_283 rfl (lv_at hl 10 rfl) ?_
        refine lv_iconst (v := 0) hx hb dL_wants_284 (by decide) ?_
        have hPc := hP.sub (ws' := [(o, .inr (4, [.ref F, .ref G, .int (nI qv), .int nw, .int se, .ref (pa 0), .ref an, .ref ln])), cE x xv]) [0, 1] rfl
        have hDc := hD.sub (ws' := [(o, .inr (4, [.ref F, .ref G, .int (nI qv), .int nw, .int se, .ref (pa 0), .ref an, .ref ln])), cE x xv]) [0, 1] (by decide) rfl
        have hFc := va_free (wc := [(o, .inr (4, [.ref F, .ref G, .int (nI qv), .int nw, .int se, .ref (pa 0), .ref an, .ref ln])), cE x xv]) hD hS hA [0, 1] rfl
        refine va_calli (va_runV (As := [.int 0]) (rest := []) ⟨hx, hb, hml, hown, hts⟩ (c_X3_state_k l D cA H.size o F G (nI qv) nw se pa an ln x (y 0) 0 xv (by first | exact he | exact en_flip he | exact en_01 he | exact en_10 he)) (cwV 1 hts gL_wants_X3_state rfl rfl rfl (by decide +kernel) ⟨Nat.le_of_ble_eq_true rfl, Nat.le_of_ble_eq_true rfl⟩) ⟨zU_blind, va_recv hK hPc (ci := 4) (q0 := 0) rfl rfl, fun U hU hW => ⟨rfl, zU_call hU hPc hW.alike hK hDc⟩⟩ rfl rfl hl.1 rfl (lv_room (Nat.le_of_ble_eq_true rfl)) dL_wants_285 ⟨(Nat.zero_le _), (Nat.zero_le _)⟩) hS (fun q _ h => hFc q h) hFc (fun zr u t H1 locs ht hvm hw hB hz1 hk1 hS => ?_)
        obtain ⟨hP1, hD1⟩ := hB
        rw [ht] at hP1
        obtain ⟨hP, hD⟩ := va_join (wr := [(x 1, .inl (cA 0, 4, .inl (xd 0))), (x 2, .inl (cA 0, 4, .inl (xd 1))), (x 3, .inl (cA 0, 4, .inl (xd 2))), (x 4, .inl (cA 0, 4, .inl (xd 3))), (x 5, .inl (cA 0, 4, .inl (xd 4))), (x 6, .inl (cA 1, 4, .inl (upd (xd 5) op (nI ((vx / 8) % 2))))), (x 7, .inl (cA 0, 4, .inl (xd 6))), (x 8, .inl (cA 0, 4, .inl (xd 7))), cE y yv, (wa, .inl (cA 0, 48, .inl (upd ww (6 * op + 5) (nI ((vx / 8) % 2)))))]) (w1 := [(o, .inr (4, [.ref F, .ref G, .int (nI qv), .int nw, .int se, .ref (pa 0), .ref an, .ref ln])), cE x xv]) hP hD [0, 1] [2, 3, 4, 5, 6, 7, 8, 9, 10, 11] rfl rfl (by decide) (by decide) hk1 hFc hP1 hD1
        generalize H1 = H at hP hS ⊢
        have hP := hP.sub (ws' := [(o, .inr (4, [.ref F, .ref G, .int (nI qv), .int nw, .int se, .ref (pa 0), .ref an, .ref ln])), cE x xv, (x 1, .inl (cA 0, 4, .inl (xd 0))), (x 2, .inl (cA 0, 4, .inl (xd 1))), (x 3, .inl (cA 0, 4, .inl (xd 2))), (x 4, .inl (cA 0, 4, .inl (xd 3))), (x 5, .inl (cA 0, 4, .inl (xd 4))), (x 6, .inl (cA 1, 4, .inl (upd (xd 5) op (nI ((vx / 8) % 2))))), (x 7, .inl (cA 0, 4, .inl (xd 6))), (x 8, .inl (cA 0, 4, .inl (xd 7))), cE y yv, (wa, .inl (cA 0, 48, .inl (upd ww (6 * op + 5) (nI ((vx / 8) % 2)))))]) [10, 11, 0, 1, 2, 3, 4, 5, 6, 7, 8, 9] rfl
        have hD := hD.sub (ws' := [(o, .inr (4, [.ref F, .ref G, .int (nI qv), .int nw, .int se, .ref (pa 0), .ref an, .ref ln])), cE x xv, (x 1, .inl (cA 0, 4, .inl (xd 0))), (x 2, .inl (cA 0, 4, .inl (xd 1))), (x 3, .inl (cA 0, 4, .inl (xd 2))), (x 4, .inl (cA 0, 4, .inl (xd 3))), (x 5, .inl (cA 0, 4, .inl (xd 4))), (x 6, .inl (cA 1, 4, .inl (upd (xd 5) op (nI ((vx / 8) % 2))))), (x 7, .inl (cA 0, 4, .inl (xd 6))), (x 8, .inl (cA 0, 4, .inl (xd 7))), cE y yv, (wa, .inl (cA 0, 48, .inl (upd ww (6 * op + 5) (nI ((vx / 8) % 2)))))]) [10, 11, 0, 1, 2, 3, 4, 5, 6, 7, 8, 9] (by decide) rfl
        clear hPc hDc hFc hP1 hD1 hk1 hz1
        have hw_16 := hw
        obtain rfl := hw
        refine z_top (y := (nI sx)) hx0 ?_
        refine lv_bipush (v := 8) hx hb dL_wants_288 (by decide) ?_
        refine lv_aload_n hx hb dL_wants_290 rfl (lv_at hl 10 rfl) ?_
        refine lv_iconst (v := 1) hx hb dL_wants_291 (by decide) ?_
        have hPc := hP.sub (ws' := [(o, .inr (4, [.ref F, .ref G, .int (nI qv), .int nw, .int se, .ref (pa 0), .ref an, .ref ln])), cE y yv]) [0, 10] rfl
        have hDc := hD.sub (ws' := [(o, .inr (4, [.ref F, .ref G, .int (nI qv), .int nw, .int se, .ref (pa 0), .ref an, .ref ln])), cE y yv]) [0, 10] (by decide) rfl
        have hFc := va_free (wc := [(o, .inr (4, [.ref F, .ref G, .int (nI qv), .int nw, .int se, .ref (pa 0), .ref an, .ref ln])), cE y yv]) hD hS hA [0, 10] rfl
        refine va_calli (va_runV (As := [.int 1]) (rest := [.int 8, .int (nI sx)]) ⟨hx, hb, hml, hown, hts⟩ (c_X3_state_k l D cA H.size o F G (nI qv) nw se pa an ln y (x 0) 1 yv (by first | exact he | exact en_flip he | exact en_01 he | exact en_10 he)) (cwV 1 hts gL_wants_X3_state rfl rfl rfl (by decide +kernel) ⟨Nat.le_of_ble_eq_true rfl, Nat.le_of_ble_eq_true rfl⟩) ⟨zU_blind, va_recv hK hPc (ci := 4) (q0 := 0) rfl rfl, fun U hU hW => ⟨rfl, zU_call hU hPc hW.alike hK hDc⟩⟩ rfl rfl hl.1 rfl (lv_room (Nat.le_of_ble_eq_true rfl)) dL_wants_292 ⟨(Nat.zero_le _), (Nat.zero_le _)⟩) hS (fun q _ h => hFc q h) hFc (fun zr u t H1 locs ht hvm hw hB hz1 hk1 hS => ?_)
        obtain ⟨hP1, hD1⟩ := hB
        rw [ht] at hP1
        obtain ⟨hP, hD⟩ := va_join (wr := [cE x xv, (x 1, .inl (cA 0, 4, .inl (xd 0))), (x 2, .inl (cA 0, 4, .inl (xd 1))), (x 3, .inl (cA 0, 4, .inl (xd 2))), (x 4, .inl (cA 0, 4, .inl (xd 3))), (x 5, .inl (cA 0, 4, .inl (xd 4))), (x 6, .inl (cA 1, 4, .inl (upd (xd 5) op (nI ((vx / 8) % 2))))), (x 7, .inl (cA 0, 4, .inl (xd 6))), (x 8, .inl (cA 0, 4, .inl (xd 7))), (wa, .inl (cA 0, 48, .inl (upd ww (6 * op + 5) (nI ((vx / 8) % 2)))))]) (w1 := [(o, .inr (4, [.ref F, .ref G, .int (nI qv), .int nw, .int se, .ref (pa 0), .ref an, .ref ln])), cE y yv]) hP hD [0, 10] [1, 2, 3, 4, 5, 6, 7, 8, 9, 11] rfl rfl (by decide) (by decide) hk1 hFc hP1 hD1
        generalize H1 = H at hP hS ⊢
        have hP := hP.sub (ws' := [(o, .inr (4, [.ref F, .ref G, .int (nI qv), .int nw, .int se, .ref (pa 0), .ref an, .ref ln])), cE x xv, (x 1, .inl (cA 0, 4, .inl (xd 0))), (x 2, .inl (cA 0, 4, .inl (xd 1))), (x 3, .inl (cA 0, 4, .inl (xd 2))), (x 4, .inl (cA 0, 4, .inl (xd 3))), (x 5, .inl (cA 0, 4, .inl (xd 4))), (x 6, .inl (cA 1, 4, .inl (upd (xd 5) op (nI ((vx / 8) % 2))))), (x 7, .inl (cA 0, 4, .inl (xd 6))), (x 8, .inl (cA 0, 4, .inl (xd 7))), cE y yv, (wa, .inl (cA 0, 48, .inl (upd ww (6 * op + 5) (nI ((vx / 8) % 2)))))]) [10, 0, 1, 2, 3, 4, 5, 6, 7, 8, 11, 9] rfl
        have hD := hD.sub (ws' := [(o, .inr (4, [.ref F, .ref G, .int (nI qv), .int nw, .int se, .ref (pa 0), .ref an, .ref ln])), cE x xv, (x 1, .inl (cA 0, 4, .inl (xd 0))), (x 2, .inl (cA 0, 4, .inl (xd 1))), (x 3, .inl (cA 0, 4, .inl (xd 2))), (x 4, .inl (cA 0, 4, .inl (xd 3))), (x 5, .inl (cA 0, 4, .inl (xd 4))), (x 6, .inl (cA 1, 4, .inl (upd (xd 5) op (nI ((vx / 8) % 2))))), (x 7, .inl (cA 0, 4, .inl (xd 6))), (x 8, .inl (cA 0, 4, .inl (xd 7))), cE y yv, (wa, .inl (cA 0, 48, .inl (upd ww (6 * op + 5) (nI ((vx / 8) % 2)))))]) [10, 0, 1, 2, 3, 4, 5, 6, 7, 8, 11, 9] (by decide) rfl
        clear hPc hDc hFc hP1 hD1 hk1 hz1
        have hw_17 := hw
        obtain rfl := hw
        refine z_top (y := (nI sy)) hy0 ?_
        refine lv_imul hx hb dL_wants_295 ?_
        refine z_top (y := (nI (8 * sy))) (z_mul 8 sy) ?_
        refine lv_iadd hx hb dL_wants_296 ?_
        refine z_top (y := (nI (sx + 8 * sy))) (z_add sx (8 * sy)) ?_
        refine lv_iload hx hb dL_wants_297 (lv_at hl 2 rfl) ?_
        refine lv_icmp_ne (tgt := 306) hx hb dL_wants_299 (by decide) (fun c_18 => absurd rfl c_18) (fun _ => ?_)
        refine lv_iconst (v := 1) hx hb dL_wants_302 (by decide) ?_
        refine lv_goto (tgt := 307) hx hb dL_wants_303 (by decide) ?_
        refine W.widen (k := 1) (n := 6) (by omega) (by omega) ?_
        exact W.zret (v := 1) hx hb hr rfl (fun t ht hW => ⟨⟨1, ((va_up xd 5 (upd (xd 5) op (nI ((vx / 8) % 2)))), upd ww (6 * op + 5) (nI ((vx / 8) % 2))), rfl, ⟨⟨sx, kx, tx, sy, ky, ty, refuse_t hI (by omega) (by omega), by omega, by omega⟩, WRe_refuse hWr hop (by omega), WRe_oth (i := 0) (e := 0) (b := 5) (hWr2) (by decide) hop (by omega) (by decide), rfl⟩, ⟨by rw [ht]; exact hP, by rw [hAe]; exact hD⟩⟩, hS.F ht⟩) hS.2.2 dL_wants_307
      · skip
        refine lv_iload_n hx hb dL_wants_69 rfl (lv_at hl 8 rfl) ?_
        refine lv_bipush (v := 8) hx hb dL_wants_70 (by decide) ?_
        refine lv_idiv hx hb dL_wants_72 (by decide) ?_
        refine z_top (y := (nI (vx / 8))) (z_div (a := vx) (d := 8) (by omega) (by omega) (by omega)) ?_
        refine lv_iconst (v := 3) hx hb dL_wants_73 (by decide) ?_
        refine lv_irem hx hb dL_wants_74 (by decide) ?_
        refine z_top (y := (nI ((vx / 8) % 3))) (z_rem (a := (vx / 8)) (d := 3) (by omega) (by omega) (by omega)) ?_
        refine lv_if_ne (tgt := 82) hx hb dL_wants_75 (by decide) (fun c_19 => ?_) (fun c_19 => ?_)
        · have c_19 := mt (nI_eq (a := (vx / 8) % 3) (b := 0) (by omega) (by omega)).mpr c_19
          refine lv_iload hx hb dL_wants_82 (lv_at hl 1 rfl) ?_
          refine lv_iload_n hx hb dL_wants_84 rfl (lv_at hl 8 rfl) ?_
          refine lv_bipush (v := 24) hx hb dL_wants_85 (by decide) ?_
          refine lv_idiv hx hb dL_wants_87 (by decide) ?_
          refine z_top (y := (nI (vx / 24))) (z_div (a := vx) (d := 24) (by omega) (by omega) (by omega)) ?_
          refine lv_iload hx hb dL_wants_88 (lv_at hl 0 rfl) ?_
          refine lv_iload hx hb dL_wants_90 (lv_at hl 1 rfl) ?_
          refine lv_isub hx hb dL_wants_92 ?_
          refine z_top (y := (nI (lt + mz - lt))) (z_sub (by omega)) ?_
          refine lv_iconst (v := 1) hx hb dL_wants_93 (by decide) ?_
          refine lv_iadd hx hb dL_wants_94 ?_
          refine z_top (y := (nI (lt + mz - lt + 1))) (z_add (lt + mz - lt) 1) ?_
          refine lv_irem hx hb dL_wants_95 (nI_n0 (by omega) (by omega)) ?_
          refine z_top (y := (nI ((vx / 24) % (lt + mz - lt + 1)))) (z_rem (a := (vx / 24)) (d := (lt + mz - lt + 1)) (by omega) (by omega) (by omega)) ?_
          obtain ⟨wz, ewz, hwz⟩ := z_modv (vx / 24) (d := lt + mz - lt + 1) (by omega)
          refine z_top (y := (nI wz)) (congrArg nI ewz) ?_
          refine lv_iadd hx hb dL_wants_96 ?_
          refine z_top (y := (nI (lt + wz))) (z_add lt wz) ?_
          exact kJ _ _ _ _ ⟨(nI (lt + wz)), rfl, hP, hD, hS, lv_sub hl [0, 1, 2, 3, 4, 5, 6, 7, 8, 9, 10] rfl, (Or.inr (inr_nI (by omega) (by omega) (by omega))), (okv_nI (by omega))⟩
        · have c_19 := (nI_eq (a := (vx / 8) % 3) (b := 0) (by omega) (by omega)).mp c_19
          refine lv_iconst (v := (-1)) hx hb dL_wants_78 (by decide) ?_
          refine lv_goto (tgt := 97) hx hb dL_wants_79 (by decide) ?_
          exact kJ _ _ _ _ ⟨(-1), rfl, hP, hD, hS, lv_sub hl [0, 1, 2, 3, 4, 5, 6, 7, 8, 9, 10] rfl, (Or.inl rfl), (Or.inl rfl)⟩
    · skip
      refine lv_iload_n hx hb dL_wants_35 rfl (lv_at hl 7 rfl) ?_
      refine lv_iconst (v := 3) hx hb dL_wants_36 (by decide) ?_
      refine lv_irem hx hb dL_wants_37 (by decide) ?_
      refine z_top (y := (nI (vy % 3))) (z_rem (a := vy) (d := 3) (by omega) (by omega) (by omega)) ?_
      refine lv_if_ne (tgt := 45) hx hb dL_wants_38 (by decide) (fun c_20 => ?_) (fun c_20 => ?_)
      · have c_20 := mt (nI_eq (a := vy % 3) (b := 0) (by omega) (by omega)).mpr c_20
        refine lv_iload_n hx hb dL_wants_45 rfl (lv_at hl 7 rfl) ?_
        refine lv_iconst (v := 3) hx hb dL_wants_46 (by decide) ?_
        refine lv_idiv hx hb dL_wants_47 (by decide) ?_
        refine z_top (y := (nI (vy / 3))) (z_div (a := vy) (d := 3) (by omega) (by omega) (by omega)) ?_
        refine lv_bipush (v := 101) hx hb dL_wants_48 (by decide) ?_
        refine lv_irem hx hb dL_wants_50 (by decide) ?_
        refine z_top (y := (nI ((vy / 3) % 101))) (z_rem (a := (vy / 3)) (d := 101) (by omega) (by omega) (by omega)) ?_
        exact kJ _ _ _ _ ⟨(vy / 3) % 101, rfl, hP, hD, hS, lv_sub hl [0, 1, 2, 3, 4, 5, 6, 7, 8] rfl, (by omega)⟩
      · have c_20 := (nI_eq (a := vy % 3) (b := 0) (by omega) (by omega)).mp c_20
        refine lv_iconst (v := 0) hx hb dL_wants_41 (by decide) ?_
        refine lv_goto (tgt := 51) hx hb dL_wants_42 (by decide) ?_
        exact kJ _ _ _ _ ⟨0, rfl, hP, hD, hS, lv_sub hl [0, 1, 2, 3, 4, 5, 6, 7, 8] rfl, (by omega)⟩
  · skip
    refine lv_istore (lv' := [(8, .int 0), (7, .int (nI (6 * op))), (6, .int (nI op)), (5, .int 0), (0, .ref o), (1, .int 2), (2, .int (nI vx)), (3, .int (nI vy)), (4, .ref wa)]) hx hb dL_wants_33 hl (by decide) rfl (fun ls hl => ?_)
    refine z_cut (Inv := fun H locs ls st => ∃ (lt : Nat), st = [.int (nI lt)] ∧ va_P D vwCl [(o, .inr (4, [.ref F, .ref G, .int (nI qv), .int nw, .int se, .ref (pa 0), .ref an, .ref ln])), cE x xv, (x 1, .inl (cA 0, 4, .inl (xd 0))), (x 2, .inl (cA 0, 4, .inl (xd 1))), (x 3, .inl (cA 0, 4, .inl (xd 2))), (x 4, .inl (cA 0, 4, .inl (xd 3))), (x 5, .inl (cA 0, 4, .inl (xd 4))), (x 6, .inl (cA 1, 4, .inl (xd 5))), (x 7, .inl (cA 0, 4, .inl (xd 6))), (x 8, .inl (cA 0, 4, .inl (xd 7))), cE y yv, (wa, .inl (cA 0, 48, .inl ww))] H ∧ va_D A [(o, .inr (4, [.ref F, .ref G, .int (nI qv), .int nw, .int se, .ref (pa 0), .ref an, .ref ln])), cE x xv, (x 1, .inl (cA 0, 4, .inl (xd 0))), (x 2, .inl (cA 0, 4, .inl (xd 1))), (x 3, .inl (cA 0, 4, .inl (xd 2))), (x 4, .inl (cA 0, 4, .inl (xd 3))), (x 5, .inl (cA 0, 4, .inl (xd 4))), (x 6, .inl (cA 1, 4, .inl (xd 5))), (x 7, .inl (cA 0, 4, .inl (xd 6))), (x 8, .inl (cA 0, 4, .inl (xd 7))), cE y yv, (wa, .inl (cA 0, 48, .inl ww))] ∧ va_S A s.heap H locs ∧ lv_has ls 15 [(8, .int 0), (7, .int (nI (6 * op))), (6, .int (nI op)), (5, .int 0), (0, .ref o), (1, .int 2), (2, .int (nI vx)), (3, .int (nI vy)), (4, .ref wa)] ∧ lt ≤ 100) 51 (fun H locs ls st hQ9 => ?_) (fun kJ => ?_)
    · obtain ⟨lt, rfl, hP, hD, hS, hl, hlt⟩ := hQ9
      refine lv_istore (lv' := [(9, .int (nI lt)), (8, .int 0), (7, .int (nI (6 * op))), (6, .int (nI op)), (5, .int 0), (0, .ref o), (1, .int 2), (2, .int (nI vx)), (3, .int (nI vy)), (4, .ref wa)]) hx hb dL_wants_51 hl (by decide) rfl (fun ls hl => ?_)
      refine lv_iload hx hb dL_wants_53 (lv_at hl 0 rfl) ?_
      refine lv_iload_n hx hb dL_wants_55 rfl (lv_at hl 8 rfl) ?_
      refine lv_sipush (v := 303) hx hb dL_wants_56 (by decide) ?_
      refine lv_idiv hx hb dL_wants_59 (by decide) ?_
      refine z_top (y := (nI (vy / 303))) (z_div (a := vy) (d := 303) (by omega) (by omega) (by omega)) ?_
      refine lv_bipush (v := 101) hx hb dL_wants_60 (by decide) ?_
      refine lv_iload hx hb dL_wants_62 (lv_at hl 0 rfl) ?_
      refine lv_isub hx hb dL_wants_64 ?_
      refine z_top (y := (nI (101 - lt))) (z_sub (a := 101) (b := lt) (by omega)) ?_
      refine lv_irem hx hb dL_wants_65 (nI_n0 (by omega) (by omega)) ?_
      refine z_top (y := (nI ((vy / 303) % (101 - lt)))) (z_rem (a := (vy / 303)) (d := (101 - lt)) (by omega) (by omega) (by omega)) ?_
      obtain ⟨mz, emz, hmz⟩ := z_modv (vy / 303) (d := 101 - lt) (by omega)
      refine z_top (y := (nI mz)) (congrArg nI emz) ?_
      refine lv_iadd hx hb dL_wants_66 ?_
      refine z_top (y := (nI (lt + mz))) (z_add lt mz) ?_
      refine lv_istore (lv' := [(10, .int (nI (lt + mz))), (9, .int (nI lt)), (8, .int 0), (7, .int (nI (6 * op))), (6, .int (nI op)), (5, .int 0), (0, .ref o), (1, .int 2), (2, .int (nI vx)), (3, .int (nI vy)), (4, .ref wa)]) hx hb dL_wants_67 hl (by decide) rfl (fun ls hl => ?_)
      refine z_cut (Inv := fun H locs ls st => ∃ (wi : Int32), st = [.int wi] ∧ va_P D vwCl [(o, .inr (4, [.ref F, .ref G, .int (nI qv), .int nw, .int se, .ref (pa 0), .ref an, .ref ln])), cE x xv, (x 1, .inl (cA 0, 4, .inl (xd 0))), (x 2, .inl (cA 0, 4, .inl (xd 1))), (x 3, .inl (cA 0, 4, .inl (xd 2))), (x 4, .inl (cA 0, 4, .inl (xd 3))), (x 5, .inl (cA 0, 4, .inl (xd 4))), (x 6, .inl (cA 1, 4, .inl (xd 5))), (x 7, .inl (cA 0, 4, .inl (xd 6))), (x 8, .inl (cA 0, 4, .inl (xd 7))), cE y yv, (wa, .inl (cA 0, 48, .inl ww))] H ∧ va_D A [(o, .inr (4, [.ref F, .ref G, .int (nI qv), .int nw, .int se, .ref (pa 0), .ref an, .ref ln])), cE x xv, (x 1, .inl (cA 0, 4, .inl (xd 0))), (x 2, .inl (cA 0, 4, .inl (xd 1))), (x 3, .inl (cA 0, 4, .inl (xd 2))), (x 4, .inl (cA 0, 4, .inl (xd 3))), (x 5, .inl (cA 0, 4, .inl (xd 4))), (x 6, .inl (cA 1, 4, .inl (xd 5))), (x 7, .inl (cA 0, 4, .inl (xd 6))), (x 8, .inl (cA 0, 4, .inl (xd 7))), cE y yv, (wa, .inl (cA 0, 48, .inl ww))] ∧ va_S A s.heap H locs ∧ lv_has ls 15 [(10, .int (nI (lt + mz))), (9, .int (nI lt)), (8, .int 0), (7, .int (nI (6 * op))), (6, .int (nI op)), (5, .int 0), (0, .ref o), (1, .int 2), (2, .int (nI vx)), (3, .int (nI vy)), (4, .ref wa)] ∧ (wi = -1 ∨ inr wi (nI lt) (nI (lt + mz))) ∧ okv wi) 97 (fun H locs ls st hQ9 => ?_) (fun kJ => ?_)
      · obtain ⟨wi, rfl, hP, hD, hS, hl, hwi, hwo⟩ := hQ9
        refine lv_istore (lv' := [(11, .int wi), (10, .int (nI (lt + mz))), (9, .int (nI lt)), (8, .int 0), (7, .int (nI (6 * op))), (6, .int (nI op)), (5, .int 0), (0, .ref o), (1, .int 2), (2, .int (nI vx)), (3, .int (nI vy)), (4, .ref wa)]) hx hb dL_wants_97 hl (by decide) rfl (fun ls hl => ?_)
        refine lv_aload_n hx hb dL_wants_99 rfl (lv_at hl 7 rfl) ?_
        refine lv_iconst (v := 0) hx hb dL_wants_100 (by decide) ?_
        have hPc := hP.sub (ws' := [(o, .inr (4, [.ref F, .ref G, .int (nI qv), .int nw, .int se, .ref (pa 0), .ref an, .ref ln])), cE x xv]) [0, 1] rfl
        have hDc := hD.sub (ws' := [(o, .inr (4, [.ref F, .ref G, .int (nI qv), .int nw, .int se, .ref (pa 0), .ref an, .ref ln])), cE x xv]) [0, 1] (by decide) rfl
        have hFc := va_free (wc := [(o, .inr (4, [.ref F, .ref G, .int (nI qv), .int nw, .int se, .ref (pa 0), .ref an, .ref ln])), cE x xv]) hD hS hA [0, 1] rfl
        refine va_calli (va_runV (As := [.int 0]) (rest := []) ⟨hx, hb, hml, hown, hts⟩ (c_X3_state_k l D cA H.size o F G (nI qv) nw se pa an ln x (y 0) 0 xv (by first | exact he | exact en_flip he | exact en_01 he | exact en_10 he)) (cwV 1 hts gL_wants_X3_state rfl rfl rfl (by decide +kernel) ⟨Nat.le_of_ble_eq_true rfl, Nat.le_of_ble_eq_true rfl⟩) ⟨zU_blind, va_recv hK hPc (ci := 4) (q0 := 0) rfl rfl, fun U hU hW => ⟨rfl, zU_call hU hPc hW.alike hK hDc⟩⟩ rfl rfl hl.1 rfl (lv_room (Nat.le_of_ble_eq_true rfl)) dL_wants_101 ⟨(Nat.zero_le _), (Nat.zero_le _)⟩) hS (fun q _ h => hFc q h) hFc (fun zr u t H1 locs ht hvm hw hB hz1 hk1 hS => ?_)
        obtain ⟨hP1, hD1⟩ := hB
        rw [ht] at hP1
        obtain ⟨hP, hD⟩ := va_join (wr := [(x 1, .inl (cA 0, 4, .inl (xd 0))), (x 2, .inl (cA 0, 4, .inl (xd 1))), (x 3, .inl (cA 0, 4, .inl (xd 2))), (x 4, .inl (cA 0, 4, .inl (xd 3))), (x 5, .inl (cA 0, 4, .inl (xd 4))), (x 6, .inl (cA 1, 4, .inl (xd 5))), (x 7, .inl (cA 0, 4, .inl (xd 6))), (x 8, .inl (cA 0, 4, .inl (xd 7))), cE y yv, (wa, .inl (cA 0, 48, .inl ww))]) (w1 := [(o, .inr (4, [.ref F, .ref G, .int (nI qv), .int nw, .int se, .ref (pa 0), .ref an, .ref ln])), cE x xv]) hP hD [0, 1] [2, 3, 4, 5, 6, 7, 8, 9, 10, 11] rfl rfl (by decide) (by decide) hk1 hFc hP1 hD1
        generalize H1 = H at hP hS ⊢
        have hP := hP.sub (ws' := [(o, .inr (4, [.ref F, .ref G, .int (nI qv), .int nw, .int se, .ref (pa 0), .ref an, .ref ln])), cE x xv, (x 1, .inl (cA 0, 4, .inl (xd 0))), (x 2, .inl (cA 0, 4, .inl (xd 1))), (x 3, .inl (cA 0, 4, .inl (xd 2))), (x 4, .inl (cA 0, 4, .inl (xd 3))), (x 5, .inl (cA 0, 4, .inl (xd 4))), (x 6, .inl (cA 1, 4, .inl (xd 5))), (x 7, .inl (cA 0, 4, .inl (xd 6))), (x 8, .inl (cA 0, 4, .inl (xd 7))), cE y yv, (wa, .inl (cA 0, 48, .inl ww))]) [10, 11, 0, 1, 2, 3, 4, 5, 6, 7, 8, 9] rfl
        have hD := hD.sub (ws' := [(o, .inr (4, [.ref F, .ref G, .int (nI qv), .int nw, .int se, .ref (pa 0), .ref an, .ref ln])), cE x xv, (x 1, .inl (cA 0, 4, .inl (xd 0))), (x 2, .inl (cA 0, 4, .inl (xd 1))), (x 3, .inl (cA 0, 4, .inl (xd 2))), (x 4, .inl (cA 0, 4, .inl (xd 3))), (x 5, .inl (cA 0, 4, .inl (xd 4))), (x 6, .inl (cA 1, 4, .inl (xd 5))), (x 7, .inl (cA 0, 4, .inl (xd 6))), (x 8, .inl (cA 0, 4, .inl (xd 7))), cE y yv, (wa, .inl (cA 0, 48, .inl ww))]) [10, 11, 0, 1, 2, 3, 4, 5, 6, 7, 8, 9] (by decide) rfl
        clear hPc hDc hFc hP1 hD1 hk1 hz1
        have hw_21 := hw
        obtain rfl := hw
        refine z_top (y := (nI sx)) hx0 ?_
        refine lv_bipush (v := 8) hx hb dL_wants_104 (by decide) ?_
        refine lv_aload_n hx hb dL_wants_106 rfl (lv_at hl 7 rfl) ?_
        refine lv_iconst (v := 1) hx hb dL_wants_107 (by decide) ?_
        have hPc := hP.sub (ws' := [(o, .inr (4, [.ref F, .ref G, .int (nI qv), .int nw, .int se, .ref (pa 0), .ref an, .ref ln])), cE y yv]) [0, 10] rfl
        have hDc := hD.sub (ws' := [(o, .inr (4, [.ref F, .ref G, .int (nI qv), .int nw, .int se, .ref (pa 0), .ref an, .ref ln])), cE y yv]) [0, 10] (by decide) rfl
        have hFc := va_free (wc := [(o, .inr (4, [.ref F, .ref G, .int (nI qv), .int nw, .int se, .ref (pa 0), .ref an, .ref ln])), cE y yv]) hD hS hA [0, 10] rfl
        refine va_calli (va_runV (As := [.int 1]) (rest := [.int 8, .int (nI sx)]) ⟨hx, hb, hml, hown, hts⟩ (c_X3_state_k l D cA H.size o F G (nI qv) nw se pa an ln y (x 0) 1 yv (by first | exact he | exact en_flip he | exact en_01 he | exact en_10 he)) (cwV 1 hts gL_wants_X3_state rfl rfl rfl (by decide +kernel) ⟨Nat.le_of_ble_eq_true rfl, Nat.le_of_ble_eq_true rfl⟩) ⟨zU_blind, va_recv hK hPc (ci := 4) (q0 := 0) rfl rfl, fun U hU hW => ⟨rfl, zU_call hU hPc hW.alike hK hDc⟩⟩ rfl rfl hl.1 rfl (lv_room (Nat.le_of_ble_eq_true rfl)) dL_wants_108 ⟨(Nat.zero_le _), (Nat.zero_le _)⟩) hS (fun q _ h => hFc q h) hFc (fun zr u t H1 locs ht hvm hw hB hz1 hk1 hS => ?_)
        obtain ⟨hP1, hD1⟩ := hB
        rw [ht] at hP1
        obtain ⟨hP, hD⟩ := va_join (wr := [cE x xv, (x 1, .inl (cA 0, 4, .inl (xd 0))), (x 2, .inl (cA 0, 4, .inl (xd 1))), (x 3, .inl (cA 0, 4, .inl (xd 2))), (x 4, .inl (cA 0, 4, .inl (xd 3))), (x 5, .inl (cA 0, 4, .inl (xd 4))), (x 6, .inl (cA 1, 4, .inl (xd 5))), (x 7, .inl (cA 0, 4, .inl (xd 6))), (x 8, .inl (cA 0, 4, .inl (xd 7))), (wa, .inl (cA 0, 48, .inl ww))]) (w1 := [(o, .inr (4, [.ref F, .ref G, .int (nI qv), .int nw, .int se, .ref (pa 0), .ref an, .ref ln])), cE y yv]) hP hD [0, 10] [1, 2, 3, 4, 5, 6, 7, 8, 9, 11] rfl rfl (by decide) (by decide) hk1 hFc hP1 hD1
        generalize H1 = H at hP hS ⊢
        have hP := hP.sub (ws' := [(o, .inr (4, [.ref F, .ref G, .int (nI qv), .int nw, .int se, .ref (pa 0), .ref an, .ref ln])), cE x xv, (x 1, .inl (cA 0, 4, .inl (xd 0))), (x 2, .inl (cA 0, 4, .inl (xd 1))), (x 3, .inl (cA 0, 4, .inl (xd 2))), (x 4, .inl (cA 0, 4, .inl (xd 3))), (x 5, .inl (cA 0, 4, .inl (xd 4))), (x 6, .inl (cA 1, 4, .inl (xd 5))), (x 7, .inl (cA 0, 4, .inl (xd 6))), (x 8, .inl (cA 0, 4, .inl (xd 7))), cE y yv, (wa, .inl (cA 0, 48, .inl ww))]) [10, 0, 1, 2, 3, 4, 5, 6, 7, 8, 11, 9] rfl
        have hD := hD.sub (ws' := [(o, .inr (4, [.ref F, .ref G, .int (nI qv), .int nw, .int se, .ref (pa 0), .ref an, .ref ln])), cE x xv, (x 1, .inl (cA 0, 4, .inl (xd 0))), (x 2, .inl (cA 0, 4, .inl (xd 1))), (x 3, .inl (cA 0, 4, .inl (xd 2))), (x 4, .inl (cA 0, 4, .inl (xd 3))), (x 5, .inl (cA 0, 4, .inl (xd 4))), (x 6, .inl (cA 1, 4, .inl (xd 5))), (x 7, .inl (cA 0, 4, .inl (xd 6))), (x 8, .inl (cA 0, 4, .inl (xd 7))), cE y yv, (wa, .inl (cA 0, 48, .inl ww))]) [10, 0, 1, 2, 3, 4, 5, 6, 7, 8, 11, 9] (by decide) rfl
        clear hPc hDc hFc hP1 hD1 hk1 hz1
        have hw_22 := hw
        obtain rfl := hw
        refine z_top (y := (nI sy)) hy0 ?_
        refine lv_imul hx hb dL_wants_111 ?_
        refine z_top (y := (nI (8 * sy))) (z_mul 8 sy) ?_
        refine lv_iadd hx hb dL_wants_112 ?_
        refine z_top (y := (nI (sx + 8 * sy))) (z_add sx (8 * sy)) ?_
        refine lv_istore (lv' := [(12, .int (nI (sx + 8 * sy))), (11, .int wi), (10, .int (nI (lt + mz))), (9, .int (nI lt)), (8, .int 0), (7, .int (nI (6 * op))), (6, .int (nI op)), (5, .int 0), (0, .ref o), (1, .int 2), (2, .int (nI vx)), (3, .int (nI vy)), (4, .ref wa)]) hx hb dL_wants_113 hl (by decide) rfl (fun ls hl => ?_)
        refine lv_iload_n hx hb dL_wants_115 rfl (lv_at hl 9 rfl) ?_
        refine lv_if_ne (tgt := 129) hx hb dL_wants_116 (by decide) (fun _ => ?_) (fun c_23 => absurd c_23 (by decide))
        refine lv_aload hx hb dL_wants_129 (lv_at hl 12 rfl) ?_
        refine lv_iload hx hb dL_wants_131 (lv_at hl 5 rfl) ?_
        refine lv_iconst (v := 5) hx hb dL_wants_133 (by decide) ?_
        refine lv_iadd hx hb dL_wants_134 ?_
        refine z_top (y := (nI (6 * op + 5))) (z_add (6 * op) 5) ?_
        refine z_iald (k := (6 * op + 5)) (v := ((xd 5) op)) hx hb hK hP 11 0 rfl rfl rfl (by omega) (by decide) (wr_at (hWr op hop).2.2.2 (by omega)) dL_wants_135 ?_
        refine lv_istore (lv' := [(13, .int ((xd 5) op)), (12, .int (nI (sx + 8 * sy))), (11, .int wi), (10, .int (nI (lt + mz))), (9, .int (nI lt)), (8, .int 0), (7, .int (nI (6 * op))), (6, .int (nI op)), (5, .int 0), (0, .ref o), (1, .int 2), (2, .int (nI vx)), (3, .int (nI vy)), (4, .ref wa)]) hx hb dL_wants_136 hl (by decide) rfl (fun ls hl => ?_)
        refine lv_aload_n hx hb dL_wants_138 rfl (lv_at hl 9 rfl) ?_
        refine lv_iload_n hx hb dL_wants_139 rfl (lv_at hl 10 rfl) ?_
        refine lv_iload hx hb dL_wants_140 (lv_at hl 8 rfl) ?_
        refine lv_iload hx hb dL_wants_142 (lv_at hl 7 rfl) ?_
        refine lv_iload_n hx hb dL_wants_144 rfl (lv_at hl 10 rfl) ?_
        refine lv_iconst (v := 2) hx hb dL_wants_145 (by decide) ?_
        refine lv_icmp_ne (tgt := 158) hx hb dL_wants_146 (by decide) (fun c_24 => absurd c_24 (by decide)) (fun _ => ?_)
        refine lv_iload_n hx hb dL_wants_149 rfl (lv_at hl 11 rfl) ?_
        refine lv_bipush (v := 8) hx hb dL_wants_150 (by decide) ?_
        refine lv_idiv hx hb dL_wants_152 (by decide) ?_
        refine z_top (y := (nI (vx / 8))) (z_div (a := vx) (d := 8) (by omega) (by omega) (by omega)) ?_
        refine lv_iconst (v := 2) hx hb dL_wants_153 (by decide) ?_
        refine lv_irem hx hb dL_wants_154 (by decide) ?_
        refine z_top (y := (nI ((vx / 8) % 2))) (z_rem (a := (vx / 8)) (d := 2) (by omega) (by omega) (by omega)) ?_
        refine lv_goto (tgt := 160) hx hb dL_wants_155 (by decide) ?_
        refine lv_iload hx hb dL_wants_160 (lv_at hl 4 rfl) ?_
        refine lv_iload hx hb dL_wants_162 (lv_at hl 3 rfl) ?_
        have hPc := hP.sub (ws' := [(o, .inr (4, [.ref F, .ref G, .int (nI qv), .int nw, .int se, .ref (pa 0), .ref an, .ref ln])), cE x xv]) [0, 1] rfl
        have hDc := hD.sub (ws' := [(o, .inr (4, [.ref F, .ref G, .int (nI qv), .int nw, .int se, .ref (pa 0), .ref an, .ref ln])), cE x xv]) [0, 1] (by decide) rfl
        have hFc := va_free (wc := [(o, .inr (4, [.ref F, .ref G, .int (nI qv), .int nw, .int se, .ref (pa 0), .ref an, .ref ln])), cE x xv]) hD hS hA [0, 1] rfl
        refine va_calli (vx_runSW (As := [.ref o, .int 2, .int 0, .int (nI op), .int (nI ((vx / 8) % 2)), .int (nI lt), .int (nI (lt + mz))]) (rest := []) ⟨hx, hb, hml, hown, hts⟩ (c_asks_refuse_s l D cA zv H.size o F G (nI qv) nw se pa an ln x (y 0) 0 xv op ((vx / 8) % 2) (nI lt) (nI (lt + mz)) (by assumption) (by first | exact he | exact en_flip he | exact en_01 he | exact en_10 he) hop (fun q9 => absurd ((s_shut hI).mp q9) (by omega)) (by omega)) (vx_cwSW 7 hts gL_wants_L_asks rfl rfl rfl (by decide +kernel) ⟨Nat.le_of_ble_eq_true rfl, Nat.le_of_ble_eq_true rfl⟩) ⟨zUX_blind, fun U hU hW => ⟨rfl, zUX_call hE0 hX0 hS hFc hU hPc hW hK hDc⟩⟩ rfl rfl hl.1 rfl (lv_room (Nat.le_of_ble_eq_true rfl)) dL_wants_164 ⟨Nat.le_of_ble_eq_true rfl, Nat.le_of_ble_eq_true rfl⟩) hS (fun q _ h => hFc q h) hFc (fun zr u t H1 locs ht hvm hw hB hz1 hk1 hS => ?_)
        obtain ⟨hP1, hD1⟩ := hB
        rw [ht] at hP1
        obtain ⟨hP, hD⟩ := va_join (wr := [(x 1, .inl (cA 0, 4, .inl (xd 0))), (x 2, .inl (cA 0, 4, .inl (xd 1))), (x 3, .inl (cA 0, 4, .inl (xd 2))), (x 4, .inl (cA 0, 4, .inl (xd 3))), (x 5, .inl (cA 0, 4, .inl (xd 4))), (x 6, .inl (cA 1, 4, .inl (xd 5))), (x 7, .inl (cA 0, 4, .inl (xd 6))), (x 8, .inl (cA 0, 4, .inl (xd 7))), cE y yv, (wa, .inl (cA 0, 48, .inl ww))]) (w1 := [(o, .inr (4, [.ref F, .ref G, .int (nI qv), .int nw, .int se, .ref (pa 0), .ref an, .ref ln])), cE x xv]) hP hD [0, 1] [2, 3, 4, 5, 6, 7, 8, 9, 10, 11] rfl rfl (by decide) (by decide) hk1 hFc hP1 hD1
        generalize H1 = H at hP hS ⊢
        have hP := hP.sub (ws' := [(o, .inr (4, [.ref F, .ref G, .int (nI qv), .int nw, .int se, .ref (pa 0), .ref an, .ref ln])), cE x xv, (x 1, .inl (cA 0, 4, .inl (xd 0))), (x 2, .inl (cA 0, 4, .inl (xd 1))), (x 3, .inl (cA 0, 4, .inl (xd 2))), (x 4, .inl (cA 0, 4, .inl (xd 3))), (x 5, .inl (cA 0, 4, .inl (xd 4))), (x 6, .inl (cA 1, 4, .inl (xd 5))), (x 7, .inl (cA 0, 4, .inl (xd 6))), (x 8, .inl (cA 0, 4, .inl (xd 7))), cE y yv, (wa, .inl (cA 0, 48, .inl ww))]) [10, 11, 0, 1, 2, 3, 4, 5, 6, 7, 8, 9] rfl
        have hD := hD.sub (ws' := [(o, .inr (4, [.ref F, .ref G, .int (nI qv), .int nw, .int se, .ref (pa 0), .ref an, .ref ln])), cE x xv, (x 1, .inl (cA 0, 4, .inl (xd 0))), (x 2, .inl (cA 0, 4, .inl (xd 1))), (x 3, .inl (cA 0, 4, .inl (xd 2))), (x 4, .inl (cA 0, 4, .inl (xd 3))), (x 5, .inl (cA 0, 4, .inl (xd 4))), (x 6, .inl (cA 1, 4, .inl (xd 5))), (x 7, .inl (cA 0, 4, .inl (xd 6))), (x 8, .inl (cA 0, 4, .inl (xd 7))), cE y yv, (wa, .inl (cA 0, 48, .inl ww))]) [10, 11, 0, 1, 2, 3, 4, 5, 6, 7, 8, 9] (by decide) rfl
        clear hPc hDc hFc hP1 hD1 hk1 hz1
        refine W.widen (k := 1) (n := 6) (by omega) (by omega) ?_
        have hw_25 := hw
        obtain rfl := hw
        refine lv_istore (lv' := [(14, .int (-8)), (13, .int ((xd 5) op)), (12, .int (nI (sx + 8 * sy))), (11, .int wi), (10, .int (nI (lt + mz))), (9, .int (nI lt)), (8, .int 0), (7, .int (nI (6 * op))), (6, .int (nI op)), (5, .int 0), (0, .ref o), (1, .int 2), (2, .int (nI vx)), (3, .int (nI vy)), (4, .ref wa)]) hx hb dL_wants_167 hl (by decide) rfl (fun ls hl => ?_)
        refine lv_iload hx hb dL_wants_169 (lv_at hl 6 rfl) ?_
        refine lv_if_eq (tgt := 208) hx hb dL_wants_171 (by decide) (fun _ => ?_) (fun c_26 => absurd c_26 (by decide))
        refine lv_iload hx hb dL_wants_208 (lv_at hl 6 rfl) ?_
        refine lv_if_eq (tgt := 239) hx hb dL_wants_210 (by decide) (fun _ => ?_) (fun c_27 => absurd c_27 (by decide))
        refine lv_iload hx hb dL_wants_239 (lv_at hl 6 rfl) ?_
        refine lv_if_eq (tgt := 257) hx hb dL_wants_241 (by decide) (fun _ => ?_) (fun c_28 => absurd c_28 (by decide))
        refine lv_iload hx hb dL_wants_257 (lv_at hl 0 rfl) ?_
        refine lv_iload hx hb dL_wants_259 (lv_at hl 6 rfl) ?_
        refine lv_if_ne (tgt := 269) hx hb dL_wants_261 (by decide) (fun c_29 => absurd c_29 (by decide)) (fun _ => ?_)
        refine lv_bipush (v := (-8)) hx hb dL_wants_264 (by decide) ?_
        refine lv_goto (tgt := 280) hx hb dL_wants_266 (by decide) ?_
        refine lv_icmp_ne (tgt := 306) hx hb dL_wants_280 (by decide) (fun c_30 => absurd c_30 (by decide)) (fun _ => ?_)
        refine lv_aload_n hx hb dL_wants_283 rfl (lv_at hl 10 rfl) ?_
        refine lv_iconst (v := 0) hx hb dL_wants_284 (by decide) ?_
        have hPc := hP.sub (ws' := [(o, .inr (4, [.ref F, .ref G, .int (nI qv), .int nw, .int se, .ref (pa 0), .ref an, .ref ln])), cE x xv]) [0, 1] rfl
        have hDc := hD.sub (ws' := [(o, .inr (4, [.ref F, .ref G, .int (nI qv), .int nw, .int se, .ref (pa 0), .ref an, .ref ln])), cE x xv]) [0, 1] (by decide) rfl
        have hFc := va_free (wc := [(o, .inr (4, [.ref F, .ref G, .int (nI qv), .int nw, .int se, .ref (pa 0), .ref an, .ref ln])), cE x xv]) hD hS hA [0, 1] rfl
        refine va_calli (va_runV (As := [.int 0]) (rest := []) ⟨hx, hb, hml, hown, hts⟩ (c_X3_state_k l D cA H.size o F G (nI qv) nw se pa an ln x (y 0) 0 xv (by first | exact he | exact en_flip he | exact en_01 he | exact en_10 he)) (cwV 1 hts gL_wants_X3_state rfl rfl rfl (by decide +kernel) ⟨Nat.le_of_ble_eq_true rfl, Nat.le_of_ble_eq_true rfl⟩) ⟨zU_blind, va_recv hK hPc (ci := 4) (q0 := 0) rfl rfl, fun U hU hW => ⟨rfl, zU_call hU hPc hW.alike hK hDc⟩⟩ rfl rfl hl.1 rfl (lv_room (Nat.le_of_ble_eq_true rfl)) dL_wants_285 ⟨Nat.le_of_ble_eq_true rfl, Nat.le_of_ble_eq_true rfl⟩) hS (fun q _ h => hFc q h) hFc (fun zr u t H1 locs ht hvm hw hB hz1 hk1 hS => ?_)
        obtain ⟨hP1, hD1⟩ := hB
        rw [ht] at hP1
        obtain ⟨hP, hD⟩ := va_join (wr := [(x 1, .inl (cA 0, 4, .inl (xd 0))), (x 2, .inl (cA 0, 4, .inl (xd 1))), (x 3, .inl (cA 0, 4, .inl (xd 2))), (x 4, .inl (cA 0, 4, .inl (xd 3))), (x 5, .inl (cA 0, 4, .inl (xd 4))), (x 6, .inl (cA 1, 4, .inl (xd 5))), (x 7, .inl (cA 0, 4, .inl (xd 6))), (x 8, .inl (cA 0, 4, .inl (xd 7))), cE y yv, (wa, .inl (cA 0, 48, .inl ww))]) (w1 := [(o, .inr (4, [.ref F, .ref G, .int (nI qv), .int nw, .int se, .ref (pa 0), .ref an, .ref ln])), cE x xv]) hP hD [0, 1] [2, 3, 4, 5, 6, 7, 8, 9, 10, 11] rfl rfl (by decide) (by decide) hk1 hFc hP1 hD1
        generalize H1 = H at hP hS ⊢
        have hP := hP.sub (ws' := [(o, .inr (4, [.ref F, .ref G, .int (nI qv), .int nw, .int se, .ref (pa 0), .ref an, .ref ln])), cE x xv, (x 1, .inl (cA 0, 4, .inl (xd 0))), (x 2, .inl (cA 0, 4, .inl (xd 1))), (x 3, .inl (cA 0, 4, .inl (xd 2))), (x 4, .inl (cA 0, 4, .inl (xd 3))), (x 5, .inl (cA 0, 4, .inl (xd 4))), (x 6, .inl (cA 1, 4, .inl (xd 5))), (x 7, .inl (cA 0, 4, .inl (xd 6))), (x 8, .inl (cA 0, 4, .inl (xd 7))), cE y yv, (wa, .inl (cA 0, 48, .inl ww))]) [10, 11, 0, 1, 2, 3, 4, 5, 6, 7, 8, 9] rfl
        have hD := hD.sub (ws' := [(o, .inr (4, [.ref F, .ref G, .int (nI qv), .int nw, .int se, .ref (pa 0), .ref an, .ref ln])), cE x xv, (x 1, .inl (cA 0, 4, .inl (xd 0))), (x 2, .inl (cA 0, 4, .inl (xd 1))), (x 3, .inl (cA 0, 4, .inl (xd 2))), (x 4, .inl (cA 0, 4, .inl (xd 3))), (x 5, .inl (cA 0, 4, .inl (xd 4))), (x 6, .inl (cA 1, 4, .inl (xd 5))), (x 7, .inl (cA 0, 4, .inl (xd 6))), (x 8, .inl (cA 0, 4, .inl (xd 7))), cE y yv, (wa, .inl (cA 0, 48, .inl ww))]) [10, 11, 0, 1, 2, 3, 4, 5, 6, 7, 8, 9] (by decide) rfl
        clear hPc hDc hFc hP1 hD1 hk1 hz1
        have hw_31 := hw
        obtain rfl := hw
        refine z_top (y := (nI sx)) hx0 ?_
        refine lv_bipush (v := 8) hx hb dL_wants_288 (by decide) ?_
        refine lv_aload_n hx hb dL_wants_290 rfl (lv_at hl 10 rfl) ?_
        refine lv_iconst (v := 1) hx hb dL_wants_291 (by decide) ?_
        have hPc := hP.sub (ws' := [(o, .inr (4, [.ref F, .ref G, .int (nI qv), .int nw, .int se, .ref (pa 0), .ref an, .ref ln])), cE y yv]) [0, 10] rfl
        have hDc := hD.sub (ws' := [(o, .inr (4, [.ref F, .ref G, .int (nI qv), .int nw, .int se, .ref (pa 0), .ref an, .ref ln])), cE y yv]) [0, 10] (by decide) rfl
        have hFc := va_free (wc := [(o, .inr (4, [.ref F, .ref G, .int (nI qv), .int nw, .int se, .ref (pa 0), .ref an, .ref ln])), cE y yv]) hD hS hA [0, 10] rfl
        refine va_calli (va_runV (As := [.int 1]) (rest := [.int 8, .int (nI sx)]) ⟨hx, hb, hml, hown, hts⟩ (c_X3_state_k l D cA H.size o F G (nI qv) nw se pa an ln y (x 0) 1 yv (by first | exact he | exact en_flip he | exact en_01 he | exact en_10 he)) (cwV 1 hts gL_wants_X3_state rfl rfl rfl (by decide +kernel) ⟨Nat.le_of_ble_eq_true rfl, Nat.le_of_ble_eq_true rfl⟩) ⟨zU_blind, va_recv hK hPc (ci := 4) (q0 := 0) rfl rfl, fun U hU hW => ⟨rfl, zU_call hU hPc hW.alike hK hDc⟩⟩ rfl rfl hl.1 rfl (lv_room (Nat.le_of_ble_eq_true rfl)) dL_wants_292 ⟨Nat.le_of_ble_eq_true rfl, Nat.le_of_ble_eq_true rfl⟩) hS (fun q _ h => hFc q h) hFc (fun zr u t H1 locs ht hvm hw hB hz1 hk1 hS => ?_)
        obtain ⟨hP1, hD1⟩ := hB
        rw [ht] at hP1
        obtain ⟨hP, hD⟩ := va_join (wr := [cE x xv, (x 1, .inl (cA 0, 4, .inl (xd 0))), (x 2, .inl (cA 0, 4, .inl (xd 1))), (x 3, .inl (cA 0, 4, .inl (xd 2))), (x 4, .inl (cA 0, 4, .inl (xd 3))), (x 5, .inl (cA 0, 4, .inl (xd 4))), (x 6, .inl (cA 1, 4, .inl (xd 5))), (x 7, .inl (cA 0, 4, .inl (xd 6))), (x 8, .inl (cA 0, 4, .inl (xd 7))), (wa, .inl (cA 0, 48, .inl ww))]) (w1 := [(o, .inr (4, [.ref F, .ref G, .int (nI qv), .int nw, .int se, .ref (pa 0), .ref an, .ref ln])), cE y yv]) hP hD [0, 10] [1, 2, 3, 4, 5, 6, 7, 8, 9, 11] rfl rfl (by decide) (by decide) hk1 hFc hP1 hD1
        generalize H1 = H at hP hS ⊢
        have hP := hP.sub (ws' := [(o, .inr (4, [.ref F, .ref G, .int (nI qv), .int nw, .int se, .ref (pa 0), .ref an, .ref ln])), cE x xv, (x 1, .inl (cA 0, 4, .inl (xd 0))), (x 2, .inl (cA 0, 4, .inl (xd 1))), (x 3, .inl (cA 0, 4, .inl (xd 2))), (x 4, .inl (cA 0, 4, .inl (xd 3))), (x 5, .inl (cA 0, 4, .inl (xd 4))), (x 6, .inl (cA 1, 4, .inl (xd 5))), (x 7, .inl (cA 0, 4, .inl (xd 6))), (x 8, .inl (cA 0, 4, .inl (xd 7))), cE y yv, (wa, .inl (cA 0, 48, .inl ww))]) [10, 0, 1, 2, 3, 4, 5, 6, 7, 8, 11, 9] rfl
        have hD := hD.sub (ws' := [(o, .inr (4, [.ref F, .ref G, .int (nI qv), .int nw, .int se, .ref (pa 0), .ref an, .ref ln])), cE x xv, (x 1, .inl (cA 0, 4, .inl (xd 0))), (x 2, .inl (cA 0, 4, .inl (xd 1))), (x 3, .inl (cA 0, 4, .inl (xd 2))), (x 4, .inl (cA 0, 4, .inl (xd 3))), (x 5, .inl (cA 0, 4, .inl (xd 4))), (x 6, .inl (cA 1, 4, .inl (xd 5))), (x 7, .inl (cA 0, 4, .inl (xd 6))), (x 8, .inl (cA 0, 4, .inl (xd 7))), cE y yv, (wa, .inl (cA 0, 48, .inl ww))]) [10, 0, 1, 2, 3, 4, 5, 6, 7, 8, 11, 9] (by decide) rfl
        clear hPc hDc hFc hP1 hD1 hk1 hz1
        have hw_32 := hw
        obtain rfl := hw
        refine z_top (y := (nI sy)) hy0 ?_
        refine lv_imul hx hb dL_wants_295 ?_
        refine z_top (y := (nI (8 * sy))) (z_mul 8 sy) ?_
        refine lv_iadd hx hb dL_wants_296 ?_
        refine z_top (y := (nI (sx + 8 * sy))) (z_add sx (8 * sy)) ?_
        refine lv_iload hx hb dL_wants_297 (lv_at hl 2 rfl) ?_
        refine lv_icmp_ne (tgt := 306) hx hb dL_wants_299 (by decide) (fun c_33 => absurd rfl c_33) (fun _ => ?_)
        refine lv_iconst (v := 1) hx hb dL_wants_302 (by decide) ?_
        refine lv_goto (tgt := 307) hx hb dL_wants_303 (by decide) ?_
        refine W.widen (k := 1) (n := 6) (by omega) (by omega) ?_
        exact W.zret (v := 1) hx hb hr rfl (fun t ht hW => ⟨⟨1, (xd, ww), rfl, ⟨⟨sx, kx, tx, sy, ky, ty, hI, by omega, by omega⟩, hWr, hWr2, rfl⟩, ⟨by rw [ht]; exact hP, by rw [hAe]; exact hD⟩⟩, hS.F ht⟩) hS.2.2 dL_wants_307
      · skip
        refine lv_iload_n hx hb dL_wants_69 rfl (lv_at hl 8 rfl) ?_
        refine lv_bipush (v := 8) hx hb dL_wants_70 (by decide) ?_
        refine lv_idiv hx hb dL_wants_72 (by decide) ?_
        refine z_top (y := (nI (vx / 8))) (z_div (a := vx) (d := 8) (by omega) (by omega) (by omega)) ?_
        refine lv_iconst (v := 3) hx hb dL_wants_73 (by decide) ?_
        refine lv_irem hx hb dL_wants_74 (by decide) ?_
        refine z_top (y := (nI ((vx / 8) % 3))) (z_rem (a := (vx / 8)) (d := 3) (by omega) (by omega) (by omega)) ?_
        refine lv_if_ne (tgt := 82) hx hb dL_wants_75 (by decide) (fun c_34 => ?_) (fun c_34 => ?_)
        · have c_34 := mt (nI_eq (a := (vx / 8) % 3) (b := 0) (by omega) (by omega)).mpr c_34
          refine lv_iload hx hb dL_wants_82 (lv_at hl 1 rfl) ?_
          refine lv_iload_n hx hb dL_wants_84 rfl (lv_at hl 8 rfl) ?_
          refine lv_bipush (v := 24) hx hb dL_wants_85 (by decide) ?_
          refine lv_idiv hx hb dL_wants_87 (by decide) ?_
          refine z_top (y := (nI (vx / 24))) (z_div (a := vx) (d := 24) (by omega) (by omega) (by omega)) ?_
          refine lv_iload hx hb dL_wants_88 (lv_at hl 0 rfl) ?_
          refine lv_iload hx hb dL_wants_90 (lv_at hl 1 rfl) ?_
          refine lv_isub hx hb dL_wants_92 ?_
          refine z_top (y := (nI (lt + mz - lt))) (z_sub (by omega)) ?_
          refine lv_iconst (v := 1) hx hb dL_wants_93 (by decide) ?_
          refine lv_iadd hx hb dL_wants_94 ?_
          refine z_top (y := (nI (lt + mz - lt + 1))) (z_add (lt + mz - lt) 1) ?_
          refine lv_irem hx hb dL_wants_95 (nI_n0 (by omega) (by omega)) ?_
          refine z_top (y := (nI ((vx / 24) % (lt + mz - lt + 1)))) (z_rem (a := (vx / 24)) (d := (lt + mz - lt + 1)) (by omega) (by omega) (by omega)) ?_
          obtain ⟨wz, ewz, hwz⟩ := z_modv (vx / 24) (d := lt + mz - lt + 1) (by omega)
          refine z_top (y := (nI wz)) (congrArg nI ewz) ?_
          refine lv_iadd hx hb dL_wants_96 ?_
          refine z_top (y := (nI (lt + wz))) (z_add lt wz) ?_
          exact kJ _ _ _ _ ⟨(nI (lt + wz)), rfl, hP, hD, hS, lv_sub hl [0, 1, 2, 3, 4, 5, 6, 7, 8, 9, 10] rfl, (Or.inr (inr_nI (by omega) (by omega) (by omega))), (okv_nI (by omega))⟩
        · have c_34 := (nI_eq (a := (vx / 8) % 3) (b := 0) (by omega) (by omega)).mp c_34
          refine lv_iconst (v := (-1)) hx hb dL_wants_78 (by decide) ?_
          refine lv_goto (tgt := 97) hx hb dL_wants_79 (by decide) ?_
          exact kJ _ _ _ _ ⟨(-1), rfl, hP, hD, hS, lv_sub hl [0, 1, 2, 3, 4, 5, 6, 7, 8, 9, 10] rfl, (Or.inl rfl), (Or.inl rfl)⟩
    · skip
      refine lv_iload_n hx hb dL_wants_35 rfl (lv_at hl 7 rfl) ?_
      refine lv_iconst (v := 3) hx hb dL_wants_36 (by decide) ?_
      refine lv_irem hx hb dL_wants_37 (by decide) ?_
      refine z_top (y := (nI (vy % 3))) (z_rem (a := vy) (d := 3) (by omega) (by omega) (by omega)) ?_
      refine lv_if_ne (tgt := 45) hx hb dL_wants_38 (by decide) (fun c_35 => ?_) (fun c_35 => ?_)
      · have c_35 := mt (nI_eq (a := vy % 3) (b := 0) (by omega) (by omega)).mpr c_35
        refine lv_iload_n hx hb dL_wants_45 rfl (lv_at hl 7 rfl) ?_
        refine lv_iconst (v := 3) hx hb dL_wants_46 (by decide) ?_
        refine lv_idiv hx hb dL_wants_47 (by decide) ?_
        refine z_top (y := (nI (vy / 3))) (z_div (a := vy) (d := 3) (by omega) (by omega) (by omega)) ?_
        refine lv_bipush (v := 101) hx hb dL_wants_48 (by decide) ?_
        refine lv_irem hx hb dL_wants_50 (by decide) ?_
        refine z_top (y := (nI ((vy / 3) % 101))) (z_rem (a := (vy / 3)) (d := 101) (by omega) (by omega) (by omega)) ?_
        exact kJ _ _ _ _ ⟨(vy / 3) % 101, rfl, hP, hD, hS, lv_sub hl [0, 1, 2, 3, 4, 5, 6, 7, 8] rfl, (by omega)⟩
      · have c_35 := (nI_eq (a := vy % 3) (b := 0) (by omega) (by omega)).mp c_35
        refine lv_iconst (v := 0) hx hb dL_wants_41 (by decide) ?_
        refine lv_goto (tgt := 51) hx hb dL_wants_42 (by decide) ?_
        exact kJ _ _ _ _ ⟨0, rfl, hP, hD, hS, lv_sub hl [0, 1, 2, 3, 4, 5, 6, 7, 8] rfl, (by omega)⟩
set_option maxHeartbeats 4000000 in
set_option maxRecDepth 100000 in
/-- wants(o, 0, x, y, w), the end 1 -/
theorem c_wants_10 (l : Launch) (D : va_G) (cA : Nat → ClassId) (zv : Nat → Nat) (sz : Nat) (o F G : Nat) (nw se : Int32) (pa : Nat → Nat) (an ln : Nat) (x y : Nat → Nat) (vx vy : Nat) (xv yv : Nat → Int32) (xr yr : Nat → Nat → Int32) (xf yf : Nat) (QX QY : Qt) (xd yd : Nat → Nat → Int32) (B gv qv : Nat) (wa : Nat) (ww : Nat → Int32) (hl0 : l.stackTraces = false) (he : en 1 F G (x 0) (y 0)) (hvx : vx % 2 = 1) (hvb : vx < 1073741824) (hvc : vy < 1073741824) (hPW : PW B gv qv xv xd QX yv yd QY) (hWr : WRe 1 xd ww) (hWr2 : WRe 0 yd ww) : Met l yL_wants wsL_wants ({ frames := 11, cells := 1, slots := 6, locals := 174 }) (va_Pc [.ref o, .int 0, .int (nI vx), .int (nI vy), .ref wa] (zUX D cA zv sz [(o, .inr (4, [.ref F, .ref G, .int (nI qv), .int nw, .int se, .ref (pa 0), .ref an, .ref ln])), cE x xv, (x 1, .inl (cA 0, 4, .inl (xd 0))), (x 2, .inl (cA 0, 4, .inl (xd 1))), (x 3, .inl (cA 0, 4, .inl (xd 2))), (x 4, .inl (cA 0, 4, .inl (xd 3))), (x 5, .inl (cA 0, 4, .inl (xd 4))), (x 6, .inl (cA 1, 4, .inl (xd 5))), (x 7, .inl (cA 0, 4, .inl (xd 6))), (x 8, .inl (cA 0, 4, .inl (xd 7))), cE y yv, (wa, .inl (cA 0, 48, .inl ww))])) (va_Qi (fun (r : Int32) (u : ((Nat → Nat → Int32) × (Nat → Int32))) => PW (B + 1) gv qv xv u.1 QX yv yd QY ∧ WRe 1 u.1 u.2 ∧ WRe 0 yd u.2 ∧ r = 1) (fun (u : ((Nat → Nat → Int32) × (Nat → Int32))) t => zB D [(o, .inr (4, [.ref F, .ref G, .int (nI qv), .int nw, .int se, .ref (pa 0), .ref an, .ref ln])), cE x xv, (x 1, .inl (cA 0, 4, .inl (xd 0))), (x 2, .inl (cA 0, 4, .inl (xd 1))), (x 3, .inl (cA 0, 4, .inl (xd 2))), (x 4, .inl (cA 0, 4, .inl (xd 3))), (x 5, .inl (cA 0, 4, .inl (xd 4))), (x 6, .inl (cA 1, 4, .inl (xd 5))), (x 7, .inl (cA 0, 4, .inl (xd 6))), (x 8, .inl (cA 0, 4, .inl (xd 7))), cE y yv, (wa, .inl (cA 0, 48, .inl ww))] sz [(o, .inr (4, [.ref F, .ref G, .int (nI qv), .int nw, .int se, .ref (pa 0), .ref an, .ref ln])), cE x xv, (x 1, .inl (cA 0, 4, .inl (u.1 0))), (x 2, .inl (cA 0, 4, .inl (u.1 1))), (x 3, .inl (cA 0, 4, .inl (u.1 2))), (x 4, .inl (cA 0, 4, .inl (u.1 3))), (x 5, .inl (cA 0, 4, .inl (u.1 4))), (x 6, .inl (cA 1, 4, .inl (u.1 5))), (x 7, .inl (cA 0, 4, .inl (u.1 6))), (x 8, .inl (cA 0, 4, .inl (u.1 7))), cE y yv, (wa, .inl (cA 0, 48, .inl u.2))] t) (va_A [(o, .inr (4, [.ref F, .ref G, .int (nI qv), .int nw, .int se, .ref (pa 0), .ref an, .ref ln])), cE x xv, (x 1, .inl (cA 0, 4, .inl (xd 0))), (x 2, .inl (cA 0, 4, .inl (xd 1))), (x 3, .inl (cA 0, 4, .inl (xd 2))), (x 4, .inl (cA 0, 4, .inl (xd 3))), (x 5, .inl (cA 0, 4, .inl (xd 4))), (x 6, .inl (cA 1, 4, .inl (xd 5))), (x 7, .inl (cA 0, 4, .inl (xd 6))), (x 8, .inl (cA 0, 4, .inl (xd 7))), cE y yv, (wa, .inl (cA 0, 48, .inl ww))] sz)) 1 6 (va_A [(o, .inr (4, [.ref F, .ref G, .int (nI qv), .int nw, .int se, .ref (pa 0), .ref an, .ref ln])), cE x xv, (x 1, .inl (cA 0, 4, .inl (xd 0))), (x 2, .inl (cA 0, 4, .inl (xd 1))), (x 3, .inl (cA 0, 4, .inl (xd 2))), (x 4, .inl (cA 0, 4, .inl (xd 3))), (x 5, .inl (cA 0, 4, .inl (xd 4))), (x 6, .inl (cA 1, 4, .inl (xd 5))), (x 7, .inl (cA 0, 4, .inl (xd 6))), (x 8, .inl (cA 0, 4, .inl (xd 7))), cE y yv, (wa, .inl (cA 0, 48, .inl ww))] sz) := by
  refine Met.ofW (cc := cL_wants) (maxL := 15) (ret := (some .boolean)) (by decide) rfl ?_
  intro p e s m args below meth c s₁ B hml hv
  obtain ⟨rfl, ⟨hsz, hP, hK, hD0, hE0⟩, hX0⟩ := hv
  have hx := B.exec
  have hb := B.bytes
  have hr := B.returns
  have hts := atoms_spec (ws := wsL_wants) B.pre
  have hown : s.vm.findClass RL = some m.cls := findClass_of_methodNamed B.named
  have hlocks := B.notSynchronized
  subst hsz
  have hD := hD0.self (sz := s.heap.size)
  generalize hAe : va_A [(o, .inr (4, [.ref F, .ref G, .int (nI qv), .int nw, .int se, .ref (pa 0), .ref an, .ref ln])), cE x xv, (x 1, .inl (cA 0, 4, .inl (xd 0))), (x 2, .inl (cA 0, 4, .inl (xd 1))), (x 3, .inl (cA 0, 4, .inl (xd 2))), (x 4, .inl (cA 0, 4, .inl (xd 3))), (x 5, .inl (cA 0, 4, .inl (xd 4))), (x 6, .inl (cA 1, 4, .inl (xd 5))), (x 7, .inl (cA 0, 4, .inl (xd 6))), (x 8, .inl (cA 0, 4, .inl (xd 7))), cE y yv, (wa, .inl (cA 0, 48, .inl ww))] s.heap.size = A at hD hE0 hX0 ⊢
  have hA : ∀ q : Nat, s.heap.size ≤ q → A q := fun q h => by rw [← hAe]; exact Or.inr h
  have hS : va_S A s.heap s.heap [] := va_S.rf
  have hl := lv_entry ([.ref o, .int 0, .int (nI vx), .int (nI vy), .ref wa]) (n := 15) (Nat.le_of_ble_eq_true rfl)
  rw [lg_entry_eq]
  generalize (lg_sl ([.ref o, .int 0, .int (nI vx), .int (nI vy), .ref wa]) ++ List.replicate (15 - (lg_sl ([.ref o, .int 0, .int (nI vx), .int (nI vy), .ref wa])).length) Slot.unset).toArray = ls at hl ⊢
  have hl : lv_has ls 15 [(0, .ref o), (1, .int 0), (2, .int (nI vx)), (3, .int (nI vy)), (4, .ref wa)] := hl
  obtain ⟨sx, kx, tx, sy, ky, ty, hI, hbx, hby⟩ := hPW
  obtain ⟨hx0, hx2, hx3, hx7, hx10, hx4⟩ := id hI.1.1
  obtain ⟨hy0, hy2, hy3, hy7, hy10, hy4⟩ := id hI.1.2
  have hQx := hI.2.2.2.1.1
  have hQy := hI.2.2.2.1.2
  have hq1 := hI.2.2.2.2.1
  refine lv_iload_n hx hb dL_wants_0 rfl (lv_at hl 2 rfl) ?_
  refine lv_iconst (v := 2) hx hb dL_wants_1 (by decide) ?_
  refine lv_irem hx hb dL_wants_2 (by decide) ?_
  refine z_top (y := (nI (vx % 2))) (z_rem (a := vx) (d := 2) (by omega) (by omega) (by omega)) ?_
  refine z_top (y := 1) (congrArg nI hvx) ?_
  refine lv_istore (lv' := [(5, .int 1), (0, .ref o), (1, .int 0), (2, .int (nI vx)), (3, .int (nI vy)), (4, .ref wa)]) hx hb dL_wants_3 hl (by decide) rfl (fun ls hl => ?_)
  refine lv_iload_n hx hb dL_wants_5 rfl (lv_at hl 3 rfl) ?_
  refine lv_iconst (v := 2) hx hb dL_wants_6 (by decide) ?_
  refine lv_idiv hx hb dL_wants_7 (by decide) ?_
  refine z_top (y := (nI (vx / 2))) (z_div (a := vx) (d := 2) (by omega) (by omega) (by omega)) ?_
  refine lv_iconst (v := 4) hx hb dL_wants_8 (by decide) ?_
  refine lv_irem hx hb dL_wants_9 (by decide) ?_
  refine z_top (y := (nI ((vx / 2) % 4))) (z_rem (a := (vx / 2)) (d := 4) (by omega) (by omega) (by omega)) ?_
  obtain ⟨op, eop, hop⟩ := z_modv (vx / 2) (d := 4) (by decide)
  refine z_top (y := (nI op)) (congrArg nI eop) ?_
  refine lv_istore (lv' := [(6, .int (nI op)), (5, .int 1), (0, .ref o), (1, .int 0), (2, .int (nI vx)), (3, .int (nI vy)), (4, .ref wa)]) hx hb dL_wants_10 hl (by decide) rfl (fun ls hl => ?_)
  refine lv_bipush (v := 6) hx hb dL_wants_12 (by decide) ?_
  refine lv_iconst (v := 4) hx hb dL_wants_14 (by decide) ?_
  refine lv_iload hx hb dL_wants_15 (lv_at hl 1 rfl) ?_
  refine lv_imul hx hb dL_wants_17 ?_
  refine z_top (y := 4) (by decide) ?_
  refine lv_iload hx hb dL_wants_18 (lv_at hl 0 rfl) ?_
  refine lv_iadd hx hb dL_wants_20 ?_
  refine z_top (y := (nI (4 + op))) (z_add 4 op) ?_
  refine lv_imul hx hb dL_wants_21 ?_
  refine z_top (y := (nI (6 * (4 + op)))) (z_mul 6 (4 + op)) ?_
  refine lv_istore (lv' := [(7, .int (nI (6 * (4 + op)))), (6, .int (nI op)), (5, .int 1), (0, .ref o), (1, .int 0), (2, .int (nI vx)), (3, .int (nI vy)), (4, .ref wa)]) hx hb dL_wants_22 hl (by decide) rfl (fun ls hl => ?_)
  refine lv_aload_n hx hb dL_wants_24 rfl (lv_at hl 3 rfl) ?_
  refine lv_iload hx hb dL_wants_25 (lv_at hl 2 rfl) ?_
  have hPc := hP.sub (ws' := [(o, .inr (4, [.ref F, .ref G, .int (nI qv), .int nw, .int se, .ref (pa 0), .ref an, .ref ln])), cE x xv]) [0, 1] rfl
  have hDc := hD.sub (ws' := [(o, .inr (4, [.ref F, .ref G, .int (nI qv), .int nw, .int se, .ref (pa 0), .ref an, .ref ln])), cE x xv]) [0, 1] (by decide) rfl
  have hFc := va_free (wc := [(o, .inr (4, [.ref F, .ref G, .int (nI qv), .int nw, .int se, .ref (pa 0), .ref an, .ref ln])), cE x xv]) hD hS hA [0, 1] rfl
  refine va_calli (va_runV (As := [.int 1]) (rest := []) ⟨hx, hb, hml, hown, hts⟩ (c_X3_state_k l D cA s.heap.size o F G (nI qv) nw se pa an ln x (y 0) 1 xv (by first | exact he | exact en_flip he | exact en_01 he | exact en_10 he)) (cwV 1 hts gL_wants_X3_state rfl rfl rfl (by decide +kernel) ⟨Nat.le_of_ble_eq_true rfl, Nat.le_of_ble_eq_true rfl⟩) ⟨zU_blind, va_recv hK hPc (ci := 4) (q0 := 0) rfl rfl, fun U hU hW => ⟨rfl, zU_call hU hPc hW.alike hK hDc⟩⟩ rfl rfl hl.1 rfl (lv_room (Nat.le_of_ble_eq_true rfl)) dL_wants_27 ⟨(Nat.zero_le _), (Nat.zero_le _)⟩) hS (fun q _ h => hFc q h) hFc (fun zr u t H1 locs ht hvm hw hB hz1 hk1 hS => ?_)
  obtain ⟨hP1, hD1⟩ := hB
  rw [ht] at hP1
  obtain ⟨hP, hD⟩ := va_join (wr := [(x 1, .inl (cA 0, 4, .inl (xd 0))), (x 2, .inl (cA 0, 4, .inl (xd 1))), (x 3, .inl (cA 0, 4, .inl (xd 2))), (x 4, .inl (cA 0, 4, .inl (xd 3))), (x 5, .inl (cA 0, 4, .inl (xd 4))), (x 6, .inl (cA 1, 4, .inl (xd 5))), (x 7, .inl (cA 0, 4, .inl (xd 6))), (x 8, .inl (cA 0, 4, .inl (xd 7))), cE y yv, (wa, .inl (cA 0, 48, .inl ww))]) (w1 := [(o, .inr (4, [.ref F, .ref G, .int (nI qv), .int nw, .int se, .ref (pa 0), .ref an, .ref ln])), cE x xv]) hP hD [0, 1] [2, 3, 4, 5, 6, 7, 8, 9, 10, 11] rfl rfl (by decide) (by decide) hk1 hFc hP1 hD1
  generalize H1 = H at hP hS ⊢
  have hP := hP.sub (ws' := [(o, .inr (4, [.ref F, .ref G, .int (nI qv), .int nw, .int se, .ref (pa 0), .ref an, .ref ln])), cE x xv, (x 1, .inl (cA 0, 4, .inl (xd 0))), (x 2, .inl (cA 0, 4, .inl (xd 1))), (x 3, .inl (cA 0, 4, .inl (xd 2))), (x 4, .inl (cA 0, 4, .inl (xd 3))), (x 5, .inl (cA 0, 4, .inl (xd 4))), (x 6, .inl (cA 1, 4, .inl (xd 5))), (x 7, .inl (cA 0, 4, .inl (xd 6))), (x 8, .inl (cA 0, 4, .inl (xd 7))), cE y yv, (wa, .inl (cA 0, 48, .inl ww))]) [10, 11, 0, 1, 2, 3, 4, 5, 6, 7, 8, 9] rfl
  have hD := hD.sub (ws' := [(o, .inr (4, [.ref F, .ref G, .int (nI qv), .int nw, .int se, .ref (pa 0), .ref an, .ref ln])), cE x xv, (x 1, .inl (cA 0, 4, .inl (xd 0))), (x 2, .inl (cA 0, 4, .inl (xd 1))), (x 3, .inl (cA 0, 4, .inl (xd 2))), (x 4, .inl (cA 0, 4, .inl (xd 3))), (x 5, .inl (cA 0, 4, .inl (xd 4))), (x 6, .inl (cA 1, 4, .inl (xd 5))), (x 7, .inl (cA 0, 4, .inl (xd 6))), (x 8, .inl (cA 0, 4, .inl (xd 7))), cE y yv, (wa, .inl (cA 0, 48, .inl ww))]) [10, 11, 0, 1, 2, 3, 4, 5, 6, 7, 8, 9] (by decide) rfl
  clear hPc hDc hFc hP1 hD1 hk1 hz1
  have hw_1 := hw
  obtain rfl := hw
  refine z_top (y := (nI sx)) hx0 ?_
  have hPc := hP.sub (ws' := []) [] rfl
  have hDc := hD.sub (ws' := []) [] (by decide) rfl
  have hFc := va_free (wc := []) hD hS hA [] rfl
  refine va_calli (va_runS (As := [.int (nI sx)]) (rest := []) ⟨hx, hb, hml, hown, hts⟩ (c_L_isShut l D cA H.size sx (by omega)) (va_cwS 1 hts gL_wants_L_isShut rfl rfl rfl (by decide +kernel) ⟨Nat.le_of_ble_eq_true rfl, Nat.le_of_ble_eq_true rfl⟩) ⟨zU_blind, fun U hU hW => ⟨rfl, zU_call hU hPc hW.alike hK hDc⟩⟩ rfl rfl hl.1 rfl (lv_room (Nat.le_of_ble_eq_true rfl)) dL_wants_30 ⟨(Nat.zero_le _), (Nat.zero_le _)⟩) hS (fun q _ h => hFc q h) hFc (fun zr u t H1 locs ht hvm hw hB hz1 hk1 hS => ?_)
  obtain ⟨hP1, hD1⟩ := hB
  rw [ht] at hP1
  obtain ⟨hP, hD⟩ := va_join (wr := [(o, .inr (4, [.ref F, .ref G, .int (nI qv), .int nw, .int se, .ref (pa 0), .ref an, .ref ln])), cE x xv, (x 1, .inl (cA 0, 4, .inl (xd 0))), (x 2, .inl (cA 0, 4, .inl (xd 1))), (x 3, .inl (cA 0, 4, .inl (xd 2))), (x 4, .inl (cA 0, 4, .inl (xd 3))), (x 5, .inl (cA 0, 4, .inl (xd 4))), (x 6, .inl (cA 1, 4, .inl (xd 5))), (x 7, .inl (cA 0, 4, .inl (xd 6))), (x 8, .inl (cA 0, 4, .inl (xd 7))), cE y yv, (wa, .inl (cA 0, 48, .inl ww))]) (w1 := []) hP hD [] [0, 1, 2, 3, 4, 5, 6, 7, 8, 9, 10, 11] rfl rfl (by decide) (by decide) hk1 hFc hP1 hD1
  generalize H1 = H at hP hS ⊢
  have hP := hP.sub (ws' := [(o, .inr (4, [.ref F, .ref G, .int (nI qv), .int nw, .int se, .ref (pa 0), .ref an, .ref ln])), cE x xv, (x 1, .inl (cA 0, 4, .inl (xd 0))), (x 2, .inl (cA 0, 4, .inl (xd 1))), (x 3, .inl (cA 0, 4, .inl (xd 2))), (x 4, .inl (cA 0, 4, .inl (xd 3))), (x 5, .inl (cA 0, 4, .inl (xd 4))), (x 6, .inl (cA 1, 4, .inl (xd 5))), (x 7, .inl (cA 0, 4, .inl (xd 6))), (x 8, .inl (cA 0, 4, .inl (xd 7))), cE y yv, (wa, .inl (cA 0, 48, .inl ww))]) [0, 1, 2, 3, 4, 5, 6, 7, 8, 9, 10, 11] rfl
  have hD := hD.sub (ws' := [(o, .inr (4, [.ref F, .ref G, .int (nI qv), .int nw, .int se, .ref (pa 0), .ref an, .ref ln])), cE x xv, (x 1, .inl (cA 0, 4, .inl (xd 0))), (x 2, .inl (cA 0, 4, .inl (xd 1))), (x 3, .inl (cA 0, 4, .inl (xd 2))), (x 4, .inl (cA 0, 4, .inl (xd 3))), (x 5, .inl (cA 0, 4, .inl (xd 4))), (x 6, .inl (cA 1, 4, .inl (xd 5))), (x 7, .inl (cA 0, 4, .inl (xd 6))), (x 8, .inl (cA 0, 4, .inl (xd 7))), cE y yv, (wa, .inl (cA 0, 48, .inl ww))]) [0, 1, 2, 3, 4, 5, 6, 7, 8, 9, 10, 11] (by decide) rfl
  clear hPc hDc hFc hP1 hD1 hk1 hz1
  have hw_2 := hw
  rcases z_bool hw with ⟨h_2, rfl⟩ | ⟨h_2, rfl⟩
  · skip
    refine lv_istore (lv' := [(8, .int 1), (7, .int (nI (6 * (4 + op)))), (6, .int (nI op)), (5, .int 1), (0, .ref o), (1, .int 0), (2, .int (nI vx)), (3, .int (nI vy)), (4, .ref wa)]) hx hb dL_wants_33 hl (by decide) rfl (fun ls hl => ?_)
    refine z_cut (Inv := fun H locs ls st => ∃ (lt : Nat), st = [.int (nI lt)] ∧ va_P D vwCl [(o, .inr (4, [.ref F, .ref G, .int (nI qv), .int nw, .int se, .ref (pa 0), .ref an, .ref ln])), cE x xv, (x 1, .inl (cA 0, 4, .inl (xd 0))), (x 2, .inl (cA 0, 4, .inl (xd 1))), (x 3, .inl (cA 0, 4, .inl (xd 2))), (x 4, .inl (cA 0, 4, .inl (xd 3))), (x 5, .inl (cA 0, 4, .inl (xd 4))), (x 6, .inl (cA 1, 4, .inl (xd 5))), (x 7, .inl (cA 0, 4, .inl (xd 6))), (x 8, .inl (cA 0, 4, .inl (xd 7))), cE y yv, (wa, .inl (cA 0, 48, .inl ww))] H ∧ va_D A [(o, .inr (4, [.ref F, .ref G, .int (nI qv), .int nw, .int se, .ref (pa 0), .ref an, .ref ln])), cE x xv, (x 1, .inl (cA 0, 4, .inl (xd 0))), (x 2, .inl (cA 0, 4, .inl (xd 1))), (x 3, .inl (cA 0, 4, .inl (xd 2))), (x 4, .inl (cA 0, 4, .inl (xd 3))), (x 5, .inl (cA 0, 4, .inl (xd 4))), (x 6, .inl (cA 1, 4, .inl (xd 5))), (x 7, .inl (cA 0, 4, .inl (xd 6))), (x 8, .inl (cA 0, 4, .inl (xd 7))), cE y yv, (wa, .inl (cA 0, 48, .inl ww))] ∧ va_S A s.heap H locs ∧ lv_has ls 15 [(8, .int 1), (7, .int (nI (6 * (4 + op)))), (6, .int (nI op)), (5, .int 1), (0, .ref o), (1, .int 0), (2, .int (nI vx)), (3, .int (nI vy)), (4, .ref wa)] ∧ lt ≤ 100) 51 (fun H locs ls st hQ9 => ?_) (fun kJ => ?_)
    · obtain ⟨lt, rfl, hP, hD, hS, hl, hlt⟩ := hQ9
      refine lv_istore (lv' := [(9, .int (nI lt)), (8, .int 1), (7, .int (nI (6 * (4 + op)))), (6, .int (nI op)), (5, .int 1), (0, .ref o), (1, .int 0), (2, .int (nI vx)), (3, .int (nI vy)), (4, .ref wa)]) hx hb dL_wants_51 hl (by decide) rfl (fun ls hl => ?_)
      refine lv_iload hx hb dL_wants_53 (lv_at hl 0 rfl) ?_
      refine lv_iload_n hx hb dL_wants_55 rfl (lv_at hl 8 rfl) ?_
      refine lv_sipush (v := 303) hx hb dL_wants_56 (by decide) ?_
      refine lv_idiv hx hb dL_wants_59 (by decide) ?_
      refine z_top (y := (nI (vy / 303))) (z_div (a := vy) (d := 303) (by omega) (by omega) (by omega)) ?_
      refine lv_bipush (v := 101) hx hb dL_wants_60 (by decide) ?_
      refine lv_iload hx hb dL_wants_62 (lv_at hl 0 rfl) ?_
      refine lv_isub hx hb dL_wants_64 ?_
      refine z_top (y := (nI (101 - lt))) (z_sub (a := 101) (b := lt) (by omega)) ?_
      refine lv_irem hx hb dL_wants_65 (nI_n0 (by omega) (by omega)) ?_
      refine z_top (y := (nI ((vy / 303) % (101 - lt)))) (z_rem (a := (vy / 303)) (d := (101 - lt)) (by omega) (by omega) (by omega)) ?_
      obtain ⟨mz, emz, hmz⟩ := z_modv (vy / 303) (d := 101 - lt) (by omega)
      refine z_top (y := (nI mz)) (congrArg nI emz) ?_
      refine lv_iadd hx hb dL_wants_66 ?_
      refine z_top (y := (nI (lt + mz))) (z_add lt mz) ?_
      refine lv_istore (lv' := [(10, .int (nI (lt + mz))), (9, .int (nI lt)), (8, .int 1), (7, .int (nI (6 * (4 + op)))), (6, .int (nI op)), (5, .int 1), (0, .ref o), (1, .int 0), (2, .int (nI vx)), (3, .int (nI vy)), (4, .ref wa)]) hx hb dL_wants_67 hl (by decide) rfl (fun ls hl => ?_)
      refine z_cut (Inv := fun H locs ls st => ∃ (wi : Int32), st = [.int wi] ∧ va_P D vwCl [(o, .inr (4, [.ref F, .ref G, .int (nI qv), .int nw, .int se, .ref (pa 0), .ref an, .ref ln])), cE x xv, (x 1, .inl (cA 0, 4, .inl (xd 0))), (x 2, .inl (cA 0, 4, .inl (xd 1))), (x 3, .inl (cA 0, 4, .inl (xd 2))), (x 4, .inl (cA 0, 4, .inl (xd 3))), (x 5, .inl (cA 0, 4, .inl (xd 4))), (x 6, .inl (cA 1, 4, .inl (xd 5))), (x 7, .inl (cA 0, 4, .inl (xd 6))), (x 8, .inl (cA 0, 4, .inl (xd 7))), cE y yv, (wa, .inl (cA 0, 48, .inl ww))] H ∧ va_D A [(o, .inr (4, [.ref F, .ref G, .int (nI qv), .int nw, .int se, .ref (pa 0), .ref an, .ref ln])), cE x xv, (x 1, .inl (cA 0, 4, .inl (xd 0))), (x 2, .inl (cA 0, 4, .inl (xd 1))), (x 3, .inl (cA 0, 4, .inl (xd 2))), (x 4, .inl (cA 0, 4, .inl (xd 3))), (x 5, .inl (cA 0, 4, .inl (xd 4))), (x 6, .inl (cA 1, 4, .inl (xd 5))), (x 7, .inl (cA 0, 4, .inl (xd 6))), (x 8, .inl (cA 0, 4, .inl (xd 7))), cE y yv, (wa, .inl (cA 0, 48, .inl ww))] ∧ va_S A s.heap H locs ∧ lv_has ls 15 [(10, .int (nI (lt + mz))), (9, .int (nI lt)), (8, .int 1), (7, .int (nI (6 * (4 + op)))), (6, .int (nI op)), (5, .int 1), (0, .ref o), (1, .int 0), (2, .int (nI vx)), (3, .int (nI vy)), (4, .ref wa)] ∧ (wi = -1 ∨ inr wi (nI lt) (nI (lt + mz))) ∧ okv wi) 97 (fun H locs ls st hQ9 => ?_) (fun kJ => ?_)
      · obtain ⟨wi, rfl, hP, hD, hS, hl, hwi, hwo⟩ := hQ9
        refine lv_istore (lv' := [(11, .int wi), (10, .int (nI (lt + mz))), (9, .int (nI lt)), (8, .int 1), (7, .int (nI (6 * (4 + op)))), (6, .int (nI op)), (5, .int 1), (0, .ref o), (1, .int 0), (2, .int (nI vx)), (3, .int (nI vy)), (4, .ref wa)]) hx hb dL_wants_97 hl (by decide) rfl (fun ls hl => ?_)
        refine lv_aload_n hx hb dL_wants_99 rfl (lv_at hl 7 rfl) ?_
        refine lv_iconst (v := 0) hx hb dL_wants_100 (by decide) ?_
        have hPc := hP.sub (ws' := [(o, .inr (4, [.ref F, .ref G, .int (nI qv), .int nw, .int se, .ref (pa 0), .ref an, .ref ln])), cE y yv]) [0, 10] rfl
        have hDc := hD.sub (ws' := [(o, .inr (4, [.ref F, .ref G, .int (nI qv), .int nw, .int se, .ref (pa 0), .ref an, .ref ln])), cE y yv]) [0, 10] (by decide) rfl
        have hFc := va_free (wc := [(o, .inr (4, [.ref F, .ref G, .int (nI qv), .int nw, .int se, .ref (pa 0), .ref an, .ref ln])), cE y yv]) hD hS hA [0, 10] rfl
        refine va_calli (va_runV (As := [.int 0]) (rest := []) ⟨hx, hb, hml, hown, hts⟩ (c_X3_state_k l D cA H.size o F G (nI qv) nw se pa an ln y (x 0) 0 yv (by first | exact he | exact en_flip he | exact en_01 he | exact en_10 he)) (cwV 1 hts gL_wants_X3_state rfl rfl rfl (by decide +kernel) ⟨Nat.le_of_ble_eq_true rfl, Nat.le_of_ble_eq_true rfl⟩) ⟨zU_blind, va_recv hK hPc (ci := 4) (q0 := 0) rfl rfl, fun U hU hW => ⟨rfl, zU_call hU hPc hW.alike hK hDc⟩⟩ rfl rfl hl.1 rfl (lv_room (Nat.le_of_ble_eq_true rfl)) dL_wants_101 ⟨(Nat.zero_le _), (Nat.zero_le _)⟩) hS (fun q _ h => hFc q h) hFc (fun zr u t H1 locs ht hvm hw hB hz1 hk1 hS => ?_)
        obtain ⟨hP1, hD1⟩ := hB
        rw [ht] at hP1
        obtain ⟨hP, hD⟩ := va_join (wr := [cE x xv, (x 1, .inl (cA 0, 4, .inl (xd 0))), (x 2, .inl (cA 0, 4, .inl (xd 1))), (x 3, .inl (cA 0, 4, .inl (xd 2))), (x 4, .inl (cA 0, 4, .inl (xd 3))), (x 5, .inl (cA 0, 4, .inl (xd 4))), (x 6, .inl (cA 1, 4, .inl (xd 5))), (x 7, .inl (cA 0, 4, .inl (xd 6))), (x 8, .inl (cA 0, 4, .inl (xd 7))), (wa, .inl (cA 0, 48, .inl ww))]) (w1 := [(o, .inr (4, [.ref F, .ref G, .int (nI qv), .int nw, .int se, .ref (pa 0), .ref an, .ref ln])), cE y yv]) hP hD [0, 10] [1, 2, 3, 4, 5, 6, 7, 8, 9, 11] rfl rfl (by decide) (by decide) hk1 hFc hP1 hD1
        generalize H1 = H at hP hS ⊢
        have hP := hP.sub (ws' := [(o, .inr (4, [.ref F, .ref G, .int (nI qv), .int nw, .int se, .ref (pa 0), .ref an, .ref ln])), cE x xv, (x 1, .inl (cA 0, 4, .inl (xd 0))), (x 2, .inl (cA 0, 4, .inl (xd 1))), (x 3, .inl (cA 0, 4, .inl (xd 2))), (x 4, .inl (cA 0, 4, .inl (xd 3))), (x 5, .inl (cA 0, 4, .inl (xd 4))), (x 6, .inl (cA 1, 4, .inl (xd 5))), (x 7, .inl (cA 0, 4, .inl (xd 6))), (x 8, .inl (cA 0, 4, .inl (xd 7))), cE y yv, (wa, .inl (cA 0, 48, .inl ww))]) [10, 0, 1, 2, 3, 4, 5, 6, 7, 8, 11, 9] rfl
        have hD := hD.sub (ws' := [(o, .inr (4, [.ref F, .ref G, .int (nI qv), .int nw, .int se, .ref (pa 0), .ref an, .ref ln])), cE x xv, (x 1, .inl (cA 0, 4, .inl (xd 0))), (x 2, .inl (cA 0, 4, .inl (xd 1))), (x 3, .inl (cA 0, 4, .inl (xd 2))), (x 4, .inl (cA 0, 4, .inl (xd 3))), (x 5, .inl (cA 0, 4, .inl (xd 4))), (x 6, .inl (cA 1, 4, .inl (xd 5))), (x 7, .inl (cA 0, 4, .inl (xd 6))), (x 8, .inl (cA 0, 4, .inl (xd 7))), cE y yv, (wa, .inl (cA 0, 48, .inl ww))]) [10, 0, 1, 2, 3, 4, 5, 6, 7, 8, 11, 9] (by decide) rfl
        clear hPc hDc hFc hP1 hD1 hk1 hz1
        have hw_3 := hw
        obtain rfl := hw
        refine z_top (y := (nI sy)) hy0 ?_
        refine lv_bipush (v := 8) hx hb dL_wants_104 (by decide) ?_
        refine lv_aload_n hx hb dL_wants_106 rfl (lv_at hl 7 rfl) ?_
        refine lv_iconst (v := 1) hx hb dL_wants_107 (by decide) ?_
        have hPc := hP.sub (ws' := [(o, .inr (4, [.ref F, .ref G, .int (nI qv), .int nw, .int se, .ref (pa 0), .ref an, .ref ln])), cE x xv]) [0, 1] rfl
        have hDc := hD.sub (ws' := [(o, .inr (4, [.ref F, .ref G, .int (nI qv), .int nw, .int se, .ref (pa 0), .ref an, .ref ln])), cE x xv]) [0, 1] (by decide) rfl
        have hFc := va_free (wc := [(o, .inr (4, [.ref F, .ref G, .int (nI qv), .int nw, .int se, .ref (pa 0), .ref an, .ref ln])), cE x xv]) hD hS hA [0, 1] rfl
        refine va_calli (va_runV (As := [.int 1]) (rest := [.int 8, .int (nI sy)]) ⟨hx, hb, hml, hown, hts⟩ (c_X3_state_k l D cA H.size o F G (nI qv) nw se pa an ln x (y 0) 1 xv (by first | exact he | exact en_flip he | exact en_01 he | exact en_10 he)) (cwV 1 hts gL_wants_X3_state rfl rfl rfl (by decide +kernel) ⟨Nat.le_of_ble_eq_true rfl, Nat.le_of_ble_eq_true rfl⟩) ⟨zU_blind, va_recv hK hPc (ci := 4) (q0 := 0) rfl rfl, fun U hU hW => ⟨rfl, zU_call hU hPc hW.alike hK hDc⟩⟩ rfl rfl hl.1 rfl (lv_room (Nat.le_of_ble_eq_true rfl)) dL_wants_108 ⟨(Nat.zero_le _), (Nat.zero_le _)⟩) hS (fun q _ h => hFc q h) hFc (fun zr u t H1 locs ht hvm hw hB hz1 hk1 hS => ?_)
        obtain ⟨hP1, hD1⟩ := hB
        rw [ht] at hP1
        obtain ⟨hP, hD⟩ := va_join (wr := [(x 1, .inl (cA 0, 4, .inl (xd 0))), (x 2, .inl (cA 0, 4, .inl (xd 1))), (x 3, .inl (cA 0, 4, .inl (xd 2))), (x 4, .inl (cA 0, 4, .inl (xd 3))), (x 5, .inl (cA 0, 4, .inl (xd 4))), (x 6, .inl (cA 1, 4, .inl (xd 5))), (x 7, .inl (cA 0, 4, .inl (xd 6))), (x 8, .inl (cA 0, 4, .inl (xd 7))), cE y yv, (wa, .inl (cA 0, 48, .inl ww))]) (w1 := [(o, .inr (4, [.ref F, .ref G, .int (nI qv), .int nw, .int se, .ref (pa 0), .ref an, .ref ln])), cE x xv]) hP hD [0, 1] [2, 3, 4, 5, 6, 7, 8, 9, 10, 11] rfl rfl (by decide) (by decide) hk1 hFc hP1 hD1
        generalize H1 = H at hP hS ⊢
        have hP := hP.sub (ws' := [(o, .inr (4, [.ref F, .ref G, .int (nI qv), .int nw, .int se, .ref (pa 0), .ref an, .ref ln])), cE x xv, (x 1, .inl (cA 0, 4, .inl (xd 0))), (x 2, .inl (cA 0, 4, .inl (xd 1))), (x 3, .inl (cA 0, 4, .inl (xd 2))), (x 4, .inl (cA 0, 4, .inl (xd 3))), (x 5, .inl (cA 0, 4, .inl (xd 4))), (x 6, .inl (cA 1, 4, .inl (xd 5))), (x 7, .inl (cA 0, 4, .inl (xd 6))), (x 8, .inl (cA 0, 4, .inl (xd 7))), cE y yv, (wa, .inl (cA 0, 48, .inl ww))]) [10, 11, 0, 1, 2, 3, 4, 5, 6, 7, 8, 9] rfl
        have hD := hD.sub (ws' := [(o, .inr (4, [.ref F, .ref G, .int (nI qv), .int nw, .int se, .ref (pa 0), .ref an, .ref ln])), cE x xv, (x 1, .inl (cA 0, 4, .inl (xd 0))), (x 2, .inl (cA 0, 4, .inl (xd 1))), (x 3, .inl (cA 0, 4, .inl (xd 2))), (x 4, .inl (cA 0, 4, .inl (xd 3))), (x 5, .inl (cA 0, 4, .inl (xd 4))), (x 6, .inl (cA 1, 4, .inl (xd 5))), (x 7, .inl (cA 0, 4, .inl (xd 6))), (x 8, .inl (cA 0, 4, .inl (xd 7))), cE y yv, (wa, .inl (cA 0, 48, .inl ww))]) [10, 11, 0, 1, 2, 3, 4, 5, 6, 7, 8, 9] (by decide) rfl
        clear hPc hDc hFc hP1 hD1 hk1 hz1
        have hw_4 := hw
        obtain rfl := hw
        refine z_top (y := (nI sx)) hx0 ?_
        refine lv_imul hx hb dL_wants_111 ?_
        refine z_top (y := (nI (8 * sx))) (z_mul 8 sx) ?_
        refine lv_iadd hx hb dL_wants_112 ?_
        refine z_top (y := (nI (sy + 8 * sx))) (z_add sy (8 * sx)) ?_
        refine lv_istore (lv' := [(12, .int (nI (sy + 8 * sx))), (11, .int wi), (10, .int (nI (lt + mz))), (9, .int (nI lt)), (8, .int 1), (7, .int (nI (6 * (4 + op)))), (6, .int (nI op)), (5, .int 1), (0, .ref o), (1, .int 0), (2, .int (nI vx)), (3, .int (nI vy)), (4, .ref wa)]) hx hb dL_wants_113 hl (by decide) rfl (fun ls hl => ?_)
        refine lv_iload_n hx hb dL_wants_115 rfl (lv_at hl 9 rfl) ?_
        refine lv_if_ne (tgt := 129) hx hb dL_wants_116 (by decide) (fun c_5 => absurd c_5 (by decide)) (fun _ => ?_)
        refine lv_aload hx hb dL_wants_119 (lv_at hl 12 rfl) ?_
        refine lv_iload hx hb dL_wants_121 (lv_at hl 5 rfl) ?_
        refine z_iald (k := (6 * (4 + op))) (v := ((xd 0) op + 1)) hx hb hK hP 11 0 rfl rfl rfl (by omega) (by decide) (wr_at (hWr op hop).1 (by omega)) dL_wants_123 ?_
        refine lv_iconst (v := 1) hx hb dL_wants_124 (by decide) ?_
        refine lv_isub hx hb dL_wants_125 ?_
        refine z_top (y := ((xd 0) op)) i_as ?_
        refine lv_goto (tgt := 136) hx hb dL_wants_126 (by decide) ?_
        refine lv_istore (lv' := [(13, .int ((xd 0) op)), (12, .int (nI (sy + 8 * sx))), (11, .int wi), (10, .int (nI (lt + mz))), (9, .int (nI lt)), (8, .int 1), (7, .int (nI (6 * (4 + op)))), (6, .int (nI op)), (5, .int 1), (0, .ref o), (1, .int 0), (2, .int (nI vx)), (3, .int (nI vy)), (4, .ref wa)]) hx hb dL_wants_136 hl (by decide) rfl (fun ls hl => ?_)
        refine lv_aload_n hx hb dL_wants_138 rfl (lv_at hl 9 rfl) ?_
        refine lv_iload_n hx hb dL_wants_139 rfl (lv_at hl 10 rfl) ?_
        refine lv_iload hx hb dL_wants_140 (lv_at hl 8 rfl) ?_
        refine lv_iload hx hb dL_wants_142 (lv_at hl 7 rfl) ?_
        refine lv_iload_n hx hb dL_wants_144 rfl (lv_at hl 10 rfl) ?_
        refine lv_iconst (v := 2) hx hb dL_wants_145 (by decide) ?_
        refine lv_icmp_ne (tgt := 158) hx hb dL_wants_146 (by decide) (fun _ => ?_) (fun c_6 => absurd c_6 (by decide))
        refine lv_iload hx hb dL_wants_158 (lv_at hl 2 rfl) ?_
        refine lv_iload hx hb dL_wants_160 (lv_at hl 4 rfl) ?_
        refine lv_iload hx hb dL_wants_162 (lv_at hl 3 rfl) ?_
        have hPc := hP.sub (ws' := [(o, .inr (4, [.ref F, .ref G, .int (nI qv), .int nw, .int se, .ref (pa 0), .ref an, .ref ln])), cE x xv, (x 1, .inl (cA 0, 4, .inl (xd 0))), (x 2, .inl (cA 0, 4, .inl (xd 1))), (x 3, .inl (cA 0, 4, .inl (xd 2)))]) [0, 1, 2, 3, 4] rfl
        have hDc := hD.sub (ws' := [(o, .inr (4, [.ref F, .ref G, .int (nI qv), .int nw, .int se, .ref (pa 0), .ref an, .ref ln])), cE x xv, (x 1, .inl (cA 0, 4, .inl (xd 0))), (x 2, .inl (cA 0, 4, .inl (xd 1))), (x 3, .inl (cA 0, 4, .inl (xd 2)))]) [0, 1, 2, 3, 4] (by decide) rfl
        have hFc := va_free (wc := [(o, .inr (4, [.ref F, .ref G, .int (nI qv), .int nw, .int se, .ref (pa 0), .ref an, .ref ln])), cE x xv, (x 1, .inl (cA 0, 4, .inl (xd 0))), (x 2, .inl (cA 0, 4, .inl (xd 1))), (x 3, .inl (cA 0, 4, .inl (xd 2)))]) hD hS hA [0, 1, 2, 3, 4] rfl
        refine va_calli (vx_runSW (As := [.ref o, .int 0, .int 1, .int (nI op), .int wi, .int (nI lt), .int (nI (lt + mz))]) (rest := []) ⟨hx, hb, hml, hown, hts⟩ (c_asks_wish_k l D cA H.size o F G (nI qv) nw se pa an ln x (y 0) 1 xv op wi (nI lt) (nI (lt + mz)) (xd 0) (xd 1) (xd 2) (by first | exact he | exact en_flip he | exact en_01 he | exact en_10 he) hop ⟨inr_nI (a := lt) (b := 0) (c := 100) (by omega) (by omega) (by decide), inr_nI (a := lt + mz) (b := lt) (c := 100) (by omega) (by omega) (by decide)⟩ hwi ((s_shut hI).mpr (by omega))) (vx_cwSW 7 hts gL_wants_L_asks rfl rfl rfl (by decide +kernel) ⟨Nat.le_of_ble_eq_true rfl, Nat.le_of_ble_eq_true rfl⟩) ⟨zU_blind, fun U hU hW => ⟨rfl, zU_call hU hPc hW.alike hK hDc⟩⟩ rfl rfl hl.1 rfl (lv_room (Nat.le_of_ble_eq_true rfl)) dL_wants_164 ⟨(Nat.zero_le _), (Nat.zero_le _)⟩) hS (fun q _ h => hFc q h) hFc (fun zr u t H1 locs ht hvm hw hB hz1 hk1 hS => ?_)
        obtain ⟨hP1, hD1⟩ := hB
        rw [ht] at hP1
        obtain ⟨hP, hD⟩ := va_join (wr := [(x 4, .inl (cA 0, 4, .inl (xd 3))), (x 5, .inl (cA 0, 4, .inl (xd 4))), (x 6, .inl (cA 1, 4, .inl (xd 5))), (x 7, .inl (cA 0, 4, .inl (xd 6))), (x 8, .inl (cA 0, 4, .inl (xd 7))), cE y yv, (wa, .inl (cA 0, 48, .inl ww))]) (w1 := [(o, .inr (4, [.ref F, .ref G, .int (nI qv), .int nw, .int se, .ref (pa 0), .ref an, .ref ln])), cE x xv, (x 1, .inl (cA 0, 4, .inl (upd (xd 0) op wi))), (x 2, .inl (cA 0, 4, .inl (upd (xd 1) op (nI lt)))), (x 3, .inl (cA 0, 4, .inl (upd (xd 2) op (nI (lt + mz)))))]) hP hD [0, 1, 2, 3, 4] [5, 6, 7, 8, 9, 10, 11] rfl rfl (by decide) (by decide) hk1 hFc hP1 hD1
        generalize H1 = H at hP hS ⊢
        have hP := hP.sub (ws' := [(o, .inr (4, [.ref F, .ref G, .int (nI qv), .int nw, .int se, .ref (pa 0), .ref an, .ref ln])), cE x xv, (x 1, .inl (cA 0, 4, .inl (upd (xd 0) op wi))), (x 2, .inl (cA 0, 4, .inl (upd (xd 1) op (nI lt)))), (x 3, .inl (cA 0, 4, .inl (upd (xd 2) op (nI (lt + mz))))), (x 4, .inl (cA 0, 4, .inl (xd 3))), (x 5, .inl (cA 0, 4, .inl (xd 4))), (x 6, .inl (cA 1, 4, .inl (xd 5))), (x 7, .inl (cA 0, 4, .inl (xd 6))), (x 8, .inl (cA 0, 4, .inl (xd 7))), cE y yv, (wa, .inl (cA 0, 48, .inl ww))]) [7, 8, 9, 10, 11, 0, 1, 2, 3, 4, 5, 6] rfl
        have hD := hD.sub (ws' := [(o, .inr (4, [.ref F, .ref G, .int (nI qv), .int nw, .int se, .ref (pa 0), .ref an, .ref ln])), cE x xv, (x 1, .inl (cA 0, 4, .inl (upd (xd 0) op wi))), (x 2, .inl (cA 0, 4, .inl (upd (xd 1) op (nI lt)))), (x 3, .inl (cA 0, 4, .inl (upd (xd 2) op (nI (lt + mz))))), (x 4, .inl (cA 0, 4, .inl (xd 3))), (x 5, .inl (cA 0, 4, .inl (xd 4))), (x 6, .inl (cA 1, 4, .inl (xd 5))), (x 7, .inl (cA 0, 4, .inl (xd 6))), (x 8, .inl (cA 0, 4, .inl (xd 7))), cE y yv, (wa, .inl (cA 0, 48, .inl ww))]) [7, 8, 9, 10, 11, 0, 1, 2, 3, 4, 5, 6] (by decide) rfl
        clear hPc hDc hFc hP1 hD1 hk1 hz1
        have hw_7 := hw
        obtain rfl := hw
        refine lv_istore (lv' := [(14, .int ((xd 0) op)), (13, .int ((xd 0) op)), (12, .int (nI (sy + 8 * sx))), (11, .int wi), (10, .int (nI (lt + mz))), (9, .int (nI lt)), (8, .int 1), (7, .int (nI (6 * (4 + op)))), (6, .int (nI op)), (5, .int 1), (0, .ref o), (1, .int 0), (2, .int (nI vx)), (3, .int (nI vy)), (4, .ref wa)]) hx hb dL_wants_167 hl (by decide) rfl (fun ls hl => ?_)
        refine lv_iload hx hb dL_wants_169 (lv_at hl 6 rfl) ?_
        refine lv_if_eq (tgt := 208) hx hb dL_wants_171 (by decide) (fun c_8 => absurd c_8 (by decide)) (fun _ => ?_)
        refine lv_iload_n hx hb dL_wants_174 rfl (lv_at hl 11 rfl) ?_
        refine lv_if_ne (tgt := 208) hx hb dL_wants_175 (by decide) (fun c_9 => absurd c_9 (by decide)) (fun _ => ?_)
        refine lv_aload hx hb dL_wants_178 (lv_at hl 14 rfl) ?_
        refine lv_iload hx hb dL_wants_180 (lv_at hl 7 rfl) ?_
        refine lv_iload hx hb dL_wants_182 (lv_at hl 3 rfl) ?_
        refine lv_iconst (v := 1) hx hb dL_wants_184 (by decide) ?_
        refine lv_iadd hx hb dL_wants_185 ?_
        refine z_iast (k := (6 * (4 + op))) hx hb hK hP hD hS 11 0 rfl rfl rfl (by omega) (by decide) dL_wants_186 (fun H locs hP hD hS => ?_)
        have hP : va_P D vwCl [(o, .inr (4, [.ref F, .ref G, .int (nI qv), .int nw, .int se, .ref (pa 0), .ref an, .ref ln])), cE x xv, (x 1, .inl (cA 0, 4, .inl (upd (xd 0) op wi))), (x 2, .inl (cA 0, 4, .inl (upd (xd 1) op (nI lt)))), (x 3, .inl (cA 0, 4, .inl (upd (xd 2) op (nI (lt + mz))))), (x 4, .inl (cA 0, 4, .inl (xd 3))), (x 5, .inl (cA 0, 4, .inl (xd 4))), (x 6, .inl (cA 1, 4, .inl (xd 5))), (x 7, .inl (cA 0, 4, .inl (xd 6))), (x 8, .inl (cA 0, 4, .inl (xd 7))), cE y yv, (wa, .inl (cA 0, 48, .inl (upd ww (6 * (4 + op)) (wi + 1))))] H := hP
        have hD : va_D A [(o, .inr (4, [.ref F, .ref G, .int (nI qv), .int nw, .int se, .ref (pa 0), .ref an, .ref ln])), cE x xv, (x 1, .inl (cA 0, 4, .inl (upd (xd 0) op wi))), (x 2, .inl (cA 0, 4, .inl (upd (xd 1) op (nI lt)))), (x 3, .inl (cA 0, 4, .inl (upd (xd 2) op (nI (lt + mz))))), (x 4, .inl (cA 0, 4, .inl (xd 3))), (x 5, .inl (cA 0, 4, .inl (xd 4))), (x 6, .inl (cA 1, 4, .inl (xd 5))), (x 7, .inl (cA 0, 4, .inl (xd 6))), (x 8, .inl (cA 0, 4, .inl (xd 7))), cE y yv, (wa, .inl (cA 0, 48, .inl (upd ww (6 * (4 + op)) (wi + 1))))] := hD
        refine lv_aload hx hb dL_wants_187 (lv_at hl 14 rfl) ?_
        refine lv_iload hx hb dL_wants_189 (lv_at hl 7 rfl) ?_
        refine lv_iconst (v := 1) hx hb dL_wants_191 (by decide) ?_
        refine lv_iadd hx hb dL_wants_192 ?_
        refine z_top (y := (nI (6 * (4 + op) + 1))) (z_add (6 * (4 + op)) 1) ?_
        refine lv_iload hx hb dL_wants_193 (lv_at hl 5 rfl) ?_
        refine z_iast (k := (6 * (4 + op) + 1)) hx hb hK hP hD hS 11 0 rfl rfl rfl (by omega) (by decide) dL_wants_195 (fun H locs hP hD hS => ?_)
        have hP : va_P D vwCl [(o, .inr (4, [.ref F, .ref G, .int (nI qv), .int nw, .int se, .ref (pa 0), .ref an, .ref ln])), cE x xv, (x 1, .inl (cA 0, 4, .inl (upd (xd 0) op wi))), (x 2, .inl (cA 0, 4, .inl (upd (xd 1) op (nI lt)))), (x 3, .inl (cA 0, 4, .inl (upd (xd 2) op (nI (lt + mz))))), (x 4, .inl (cA 0, 4, .inl (xd 3))), (x 5, .inl (cA 0, 4, .inl (xd 4))), (x 6, .inl (cA 1, 4, .inl (xd 5))), (x 7, .inl (cA 0, 4, .inl (xd 6))), (x 8, .inl (cA 0, 4, .inl (xd 7))), cE y yv, (wa, .inl (cA 0, 48, .inl (upd (upd ww (6 * (4 + op)) (wi + 1)) (6 * (4 + op) + 1) (nI lt))))] H := hP
        have hD : va_D A [(o, .inr (4, [.ref F, .ref G, .int (nI qv), .int nw, .int se, .ref (pa 0), .ref an, .ref ln])), cE x xv, (x 1, .inl (cA 0, 4, .inl (upd (xd 0) op wi))), (x 2, .inl (cA 0, 4, .inl (upd (xd 1) op (nI lt)))), (x 3, .inl (cA 0, 4, .inl (upd (xd 2) op (nI (lt + mz))))), (x 4, .inl (cA 0, 4, .inl (xd 3))), (x 5, .inl (cA 0, 4, .inl (xd 4))), (x 6, .inl (cA 1, 4, .inl (xd 5))), (x 7, .inl (cA 0, 4, .inl (xd 6))), (x 8, .inl (cA 0, 4, .inl (xd 7))), cE y yv, (wa, .inl (cA 0, 48, .inl (upd (upd ww (6 * (4 + op)) (wi + 1)) (6 * (4 + op) + 1) (nI lt))))] := hD
        refine lv_aload hx hb dL_wants_196 (lv_at hl 14 rfl) ?_
        refine lv_iload hx hb dL_wants_198 (lv_at hl 7 rfl) ?_
        refine lv_iconst (v := 2) hx hb dL_wants_200 (by decide) ?_
        refine lv_iadd hx hb dL_wants_201 ?_
        refine z_top (y := (nI (6 * (4 + op) + 2))) (z_add (6 * (4 + op)) 2) ?_
        refine lv_iload hx hb dL_wants_202 (lv_at hl 4 rfl) ?_
        refine z_iast (k := (6 * (4 + op) + 2)) hx hb hK hP hD hS 11 0 rfl rfl rfl (by omega) (by decide) dL_wants_204 (fun H locs hP hD hS => ?_)
        have hP : va_P D vwCl [(o, .inr (4, [.ref F, .ref G, .int (nI qv), .int nw, .int se, .ref (pa 0), .ref an, .ref ln])), cE x xv, (x 1, .inl (cA 0, 4, .inl (upd (xd 0) op wi))), (x 2, .inl (cA 0, 4, .inl (upd (xd 1) op (nI lt)))), (x 3, .inl (cA 0, 4, .inl (upd (xd 2) op (nI (lt + mz))))), (x 4, .inl (cA 0, 4, .inl (xd 3))), (x 5, .inl (cA 0, 4, .inl (xd 4))), (x 6, .inl (cA 1, 4, .inl (xd 5))), (x 7, .inl (cA 0, 4, .inl (xd 6))), (x 8, .inl (cA 0, 4, .inl (xd 7))), cE y yv, (wa, .inl (cA 0, 48, .inl (upd (upd (upd ww (6 * (4 + op)) (wi + 1)) (6 * (4 + op) + 1) (nI lt)) (6 * (4 + op) + 2) (nI (lt + mz)))))] H := hP
        have hD : va_D A [(o, .inr (4, [.ref F, .ref G, .int (nI qv), .int nw, .int se, .ref (pa 0), .ref an, .ref ln])), cE x xv, (x 1, .inl (cA 0, 4, .inl (upd (xd 0) op wi))), (x 2, .inl (cA 0, 4, .inl (upd (xd 1) op (nI lt)))), (x 3, .inl (cA 0, 4, .inl (upd (xd 2) op (nI (lt + mz))))), (x 4, .inl (cA 0, 4, .inl (xd 3))), (x 5, .inl (cA 0, 4, .inl (xd 4))), (x 6, .inl (cA 1, 4, .inl (xd 5))), (x 7, .inl (cA 0, 4, .inl (xd 6))), (x 8, .inl (cA 0, 4, .inl (xd 7))), cE y yv, (wa, .inl (cA 0, 48, .inl (upd (upd (upd ww (6 * (4 + op)) (wi + 1)) (6 * (4 + op) + 1) (nI lt)) (6 * (4 + op) + 2) (nI (lt + mz)))))] := hD
        refine lv_goto (tgt := 257) hx hb dL_wants_205 (by decide) ?_
        refine lv_iload hx hb dL_wants_257 (lv_at hl 0 rfl) ?_
        refine lv_iload hx hb dL_wants_259 (lv_at hl 6 rfl) ?_
        refine lv_if_ne (tgt := 269) hx hb dL_wants_261 (by decide) (fun _ => ?_) (fun c_10 => absurd c_10 (by decide))
        refine lv_iload_n hx hb dL_wants_269 rfl (lv_at hl 11 rfl) ?_
        refine lv_iconst (v := 1) hx hb dL_wants_270 (by decide) ?_
        refine lv_icmp_ne (tgt := 278) hx hb dL_wants_271 (by decide) (fun _ => ?_) (fun c_11 => absurd c_11 (by decide))
        refine lv_iload hx hb dL_wants_278 (lv_at hl 1 rfl) ?_
        refine lv_icmp_ne (tgt := 306) hx hb dL_wants_280 (by decide) (fun c_12 => absurd rfl c_12) (fun _ => ?_)
        refine lv_aload_n hx hb dL_wants_283 rfl (lv_at hl 10 rfl) ?_
        refine lv_iconst (v := 0) hx hb dL_wants_284 (by decide) ?_
        have hPc := hP.sub (ws' := [(o, .inr (4, [.ref F, .ref G, .int (nI qv), .int nw, .int se, .ref (pa 0), .ref an, .ref ln])), cE y yv]) [0, 10] rfl
        have hDc := hD.sub (ws' := [(o, .inr (4, [.ref F, .ref G, .int (nI qv), .int nw, .int se, .ref (pa 0), .ref an, .ref ln])), cE y yv]) [0, 10] (by decide) rfl
        have hFc := va_free (wc := [(o, .inr (4, [.ref F, .ref G, .int (nI qv), .int nw, .int se, .ref (pa 0), .ref an, .ref ln])), cE y yv]) hD hS hA [0, 10] rfl
        refine va_calli (va_runV (As := [.int 0]) (rest := []) ⟨hx, hb, hml, hown, hts⟩ (c_X3_state_k l D cA H.size o F G (nI qv) nw se pa an ln y (x 0) 0 yv (by first | exact he | exact en_flip he | exact en_01 he | exact en_10 he)) (cwV 1 hts gL_wants_X3_state rfl rfl rfl (by decide +kernel) ⟨Nat.le_of_ble_eq_true rfl, Nat.le_of_ble_eq_true rfl⟩) ⟨zU_blind, va_recv hK hPc (ci := 4) (q0 := 0) rfl rfl, fun U hU hW => ⟨rfl, zU_call hU hPc hW.alike hK hDc⟩⟩ rfl rfl hl.1 rfl (lv_room (Nat.le_of_ble_eq_true rfl)) dL_wants_285 ⟨(Nat.zero_le _), (Nat.zero_le _)⟩) hS (fun q _ h => hFc q h) hFc (fun zr u t H1 locs ht hvm hw hB hz1 hk1 hS => ?_)
        obtain ⟨hP1, hD1⟩ := hB
        rw [ht] at hP1
        obtain ⟨hP, hD⟩ := va_join (wr := [cE x xv, (x 1, .inl (cA 0, 4, .inl (upd (xd 0) op wi))), (x 2, .inl (cA 0, 4, .inl (upd (xd 1) op (nI lt)))), (x 3, .inl (cA 0, 4, .inl (upd (xd 2) op (nI (lt + mz))))), (x 4, .inl (cA 0, 4, .inl (xd 3))), (x 5, .inl (cA 0, 4, .inl (xd 4))), (x 6, .inl (cA 1, 4, .inl (xd 5))), (x 7, .inl (cA 0, 4, .inl (xd 6))), (x 8, .inl (cA 0, 4, .inl (xd 7))), (wa, .inl (cA 0, 48, .inl (upd (upd (upd ww (6 * (4 + op)) (wi + 1)) (6 * (4 + op) + 1) (nI lt)) (6 * (4 + op) + 2) (nI (lt + mz)))))]) (w1 := [(o, .inr (4, [.ref F, .ref G, .int (nI qv), .int nw, .int se, .ref (pa 0), .ref an, .ref ln])), cE y yv]) hP hD [0, 10] [1, 2, 3, 4, 5, 6, 7, 8, 9, 11] rfl rfl (by decide) (by decide) hk1 hFc hP1 hD1
        generalize H1 = H at hP hS ⊢
        have hP := hP.sub (ws' := [(o, .inr (4, [.ref F, .ref G, .int (nI qv), .int nw, .int se, .ref (pa 0), .ref an, .ref ln])), cE x xv, (x 1, .inl (cA 0, 4, .inl (upd (xd 0) op wi))), (x 2, .inl (cA 0, 4, .inl (upd (xd 1) op (nI lt)))), (x 3, .inl (cA 0, 4, .inl (upd (xd 2) op (nI (lt + mz))))), (x 4, .inl (cA 0, 4, .inl (xd 3))), (x 5, .inl (cA 0, 4, .inl (xd 4))), (x 6, .inl (cA 1, 4, .inl (xd 5))), (x 7, .inl (cA 0, 4, .inl (xd 6))), (x 8, .inl (cA 0, 4, .inl (xd 7))), cE y yv, (wa, .inl (cA 0, 48, .inl (upd (upd (upd ww (6 * (4 + op)) (wi + 1)) (6 * (4 + op) + 1) (nI lt)) (6 * (4 + op) + 2) (nI (lt + mz)))))]) [10, 0, 1, 2, 3, 4, 5, 6, 7, 8, 11, 9] rfl
        have hD := hD.sub (ws' := [(o, .inr (4, [.ref F, .ref G, .int (nI qv), .int nw, .int se, .ref (pa 0), .ref an, .ref ln])), cE x xv, (x 1, .inl (cA 0, 4, .inl (upd (xd 0) op wi))), (x 2, .inl (cA 0, 4, .inl (upd (xd 1) op (nI lt)))), (x 3, .inl (cA 0, 4, .inl (upd (xd 2) op (nI (lt + mz))))), (x 4, .inl (cA 0, 4, .inl (xd 3))), (x 5, .inl (cA 0, 4, .inl (xd 4))), (x 6, .inl (cA 1, 4, .inl (xd 5))), (x 7, .inl (cA 0, 4, .inl (xd 6))), (x 8, .inl (cA 0, 4, .inl (xd 7))), cE y yv, (wa, .inl (cA 0, 48, .inl (upd (upd (upd ww (6 * (4 + op)) (wi + 1)) (6 * (4 + op) + 1) (nI lt)) (6 * (4 + op) + 2) (nI (lt + mz)))))]) [10, 0, 1, 2, 3, 4, 5, 6, 7, 8, 11, 9] (by decide) rfl
        clear hPc hDc hFc hP1 hD1 hk1 hz1
        have hw_13 := hw
        obtain rfl := hw
        refine z_top (y := (nI sy)) hy0 ?_
        refine lv_bipush (v := 8) hx hb dL_wants_288 (by decide) ?_
        refine lv_aload_n hx hb dL_wants_290 rfl (lv_at hl 10 rfl) ?_
        refine lv_iconst (v := 1) hx hb dL_wants_291 (by decide) ?_
        have hPc := hP.sub (ws' := [(o, .inr (4, [.ref F, .ref G, .int (nI qv), .int nw, .int se, .ref (pa 0), .ref an, .ref ln])), cE x xv]) [0, 1] rfl
        have hDc := hD.sub (ws' := [(o, .inr (4, [.ref F, .ref G, .int (nI qv), .int nw, .int se, .ref (pa 0), .ref an, .ref ln])), cE x xv]) [0, 1] (by decide) rfl
        have hFc := va_free (wc := [(o, .inr (4, [.ref F, .ref G, .int (nI qv), .int nw, .int se, .ref (pa 0), .ref an, .ref ln])), cE x xv]) hD hS hA [0, 1] rfl
        refine va_calli (va_runV (As := [.int 1]) (rest := [.int 8, .int (nI sy)]) ⟨hx, hb, hml, hown, hts⟩ (c_X3_state_k l D cA H.size o F G (nI qv) nw se pa an ln x (y 0) 1 xv (by first | exact he | exact en_flip he | exact en_01 he | exact en_10 he)) (cwV 1 hts gL_wants_X3_state rfl rfl rfl (by decide +kernel) ⟨Nat.le_of_ble_eq_true rfl, Nat.le_of_ble_eq_true rfl⟩) ⟨zU_blind, va_recv hK hPc (ci := 4) (q0 := 0) rfl rfl, fun U hU hW => ⟨rfl, zU_call hU hPc hW.alike hK hDc⟩⟩ rfl rfl hl.1 rfl (lv_room (Nat.le_of_ble_eq_true rfl)) dL_wants_292 ⟨(Nat.zero_le _), (Nat.zero_le _)⟩) hS (fun q _ h => hFc q h) hFc (fun zr u t H1 locs ht hvm hw hB hz1 hk1 hS => ?_)
        obtain ⟨hP1, hD1⟩ := hB
        rw [ht] at hP1
        obtain ⟨hP, hD⟩ := va_join (wr := [(x 1, .inl (cA 0, 4, .inl (upd (xd 0) op wi))), (x 2, .inl (cA 0, 4, .inl (upd (xd 1) op (nI lt)))), (x 3, .inl (cA 0, 4, .inl (upd (xd 2) op (nI (lt + mz))))), (x 4, .inl (cA 0, 4, .inl (xd 3))), (x 5, .inl (cA 0, 4, .inl (xd 4))), (x 6, .inl (cA 1, 4, .inl (xd 5))), (x 7, .inl (cA 0, 4, .inl (xd 6))), (x 8, .inl (cA 0, 4, .inl (xd 7))), cE y yv, (wa, .inl (cA 0, 48, .inl (upd (upd (upd ww (6 * (4 + op)) (wi + 1)) (6 * (4 + op) + 1) (nI lt)) (6 * (4 + op) + 2) (nI (lt + mz)))))]) (w1 := [(o, .inr (4, [.ref F, .ref G, .int (nI qv), .int nw, .int se, .ref (pa 0), .ref an, .ref ln])), cE x xv]) hP hD [0, 1] [2, 3, 4, 5, 6, 7, 8, 9, 10, 11] rfl rfl (by decide) (by decide) hk1 hFc hP1 hD1
        generalize H1 = H at hP hS ⊢
        have hP := hP.sub (ws' := [(o, .inr (4, [.ref F, .ref G, .int (nI qv), .int nw, .int se, .ref (pa 0), .ref an, .ref ln])), cE x xv, (x 1, .inl (cA 0, 4, .inl (upd (xd 0) op wi))), (x 2, .inl (cA 0, 4, .inl (upd (xd 1) op (nI lt)))), (x 3, .inl (cA 0, 4, .inl (upd (xd 2) op (nI (lt + mz))))), (x 4, .inl (cA 0, 4, .inl (xd 3))), (x 5, .inl (cA 0, 4, .inl (xd 4))), (x 6, .inl (cA 1, 4, .inl (xd 5))), (x 7, .inl (cA 0, 4, .inl (xd 6))), (x 8, .inl (cA 0, 4, .inl (xd 7))), cE y yv, (wa, .inl (cA 0, 48, .inl (upd (upd (upd ww (6 * (4 + op)) (wi + 1)) (6 * (4 + op) + 1) (nI lt)) (6 * (4 + op) + 2) (nI (lt + mz)))))]) [10, 11, 0, 1, 2, 3, 4, 5, 6, 7, 8, 9] rfl
        have hD := hD.sub (ws' := [(o, .inr (4, [.ref F, .ref G, .int (nI qv), .int nw, .int se, .ref (pa 0), .ref an, .ref ln])), cE x xv, (x 1, .inl (cA 0, 4, .inl (upd (xd 0) op wi))), (x 2, .inl (cA 0, 4, .inl (upd (xd 1) op (nI lt)))), (x 3, .inl (cA 0, 4, .inl (upd (xd 2) op (nI (lt + mz))))), (x 4, .inl (cA 0, 4, .inl (xd 3))), (x 5, .inl (cA 0, 4, .inl (xd 4))), (x 6, .inl (cA 1, 4, .inl (xd 5))), (x 7, .inl (cA 0, 4, .inl (xd 6))), (x 8, .inl (cA 0, 4, .inl (xd 7))), cE y yv, (wa, .inl (cA 0, 48, .inl (upd (upd (upd ww (6 * (4 + op)) (wi + 1)) (6 * (4 + op) + 1) (nI lt)) (6 * (4 + op) + 2) (nI (lt + mz)))))]) [10, 11, 0, 1, 2, 3, 4, 5, 6, 7, 8, 9] (by decide) rfl
        clear hPc hDc hFc hP1 hD1 hk1 hz1
        have hw_14 := hw
        obtain rfl := hw
        refine z_top (y := (nI sx)) hx0 ?_
        refine lv_imul hx hb dL_wants_295 ?_
        refine z_top (y := (nI (8 * sx))) (z_mul 8 sx) ?_
        refine lv_iadd hx hb dL_wants_296 ?_
        refine z_top (y := (nI (sy + 8 * sx))) (z_add sy (8 * sx)) ?_
        refine lv_iload hx hb dL_wants_297 (lv_at hl 2 rfl) ?_
        refine lv_icmp_ne (tgt := 306) hx hb dL_wants_299 (by decide) (fun c_15 => absurd rfl c_15) (fun _ => ?_)
        refine lv_iconst (v := 1) hx hb dL_wants_302 (by decide) ?_
        refine lv_goto (tgt := 307) hx hb dL_wants_303 (by decide) ?_
        refine W.widen (k := 1) (n := 6) (by omega) (by omega) ?_
        exact W.zret (v := 1) hx hb hr rfl (fun t ht hW => ⟨⟨1, ((va_up (va_up (va_up xd 0 (upd (xd 0) op wi)) 1 (upd (xd 1) op (nI lt))) 2 (upd (xd 2) op (nI (lt + mz)))), upd (upd (upd ww (6 * (4 + op)) (wi + 1)) (6 * (4 + op) + 1) (nI lt)) (6 * (4 + op) + 2) (nI (lt + mz))), rfl, ⟨⟨sx, kx, tx, sy, ky, ty, wish_t hI (by omega) hwo (by omega) (by omega), by omega, by omega⟩, WRe_wish hWr hop (by omega) (by omega) (by omega), WRe_oth (i := 0) (e := 1) (b := 2) (WRe_oth (i := 0) (e := 1) (b := 1) (WRe_oth (i := 0) (e := 1) (b := 0) (hWr2) (by decide) hop (by omega) (by decide)) (by decide) hop (by omega) (by decide)) (by decide) hop (by omega) (by decide), rfl⟩, ⟨by rw [ht]; exact hP, by rw [hAe]; exact hD⟩⟩, hS.F ht⟩) hS.2.2 dL_wants_307
      · skip
        refine lv_iload_n hx hb dL_wants_69 rfl (lv_at hl 8 rfl) ?_
        refine lv_bipush (v := 8) hx hb dL_wants_70 (by decide) ?_
        refine lv_idiv hx hb dL_wants_72 (by decide) ?_
        refine z_top (y := (nI (vx / 8))) (z_div (a := vx) (d := 8) (by omega) (by omega) (by omega)) ?_
        refine lv_iconst (v := 3) hx hb dL_wants_73 (by decide) ?_
        refine lv_irem hx hb dL_wants_74 (by decide) ?_
        refine z_top (y := (nI ((vx / 8) % 3))) (z_rem (a := (vx / 8)) (d := 3) (by omega) (by omega) (by omega)) ?_
        refine lv_if_ne (tgt := 82) hx hb dL_wants_75 (by decide) (fun c_16 => ?_) (fun c_16 => ?_)
        · have c_16 := mt (nI_eq (a := (vx / 8) % 3) (b := 0) (by omega) (by omega)).mpr c_16
          refine lv_iload hx hb dL_wants_82 (lv_at hl 1 rfl) ?_
          refine lv_iload_n hx hb dL_wants_84 rfl (lv_at hl 8 rfl) ?_
          refine lv_bipush (v := 24) hx hb dL_wants_85 (by decide) ?_
          refine lv_idiv hx hb dL_wants_87 (by decide) ?_
          refine z_top (y := (nI (vx / 24))) (z_div (a := vx) (d := 24) (by omega) (by omega) (by omega)) ?_
          refine lv_iload hx hb dL_wants_88 (lv_at hl 0 rfl) ?_
          refine lv_iload hx hb dL_wants_90 (lv_at hl 1 rfl) ?_
          refine lv_isub hx hb dL_wants_92 ?_
          refine z_top (y := (nI (lt + mz - lt))) (z_sub (by omega)) ?_
          refine lv_iconst (v := 1) hx hb dL_wants_93 (by decide) ?_
          refine lv_iadd hx hb dL_wants_94 ?_
          refine z_top (y := (nI (lt + mz - lt + 1))) (z_add (lt + mz - lt) 1) ?_
          refine lv_irem hx hb dL_wants_95 (nI_n0 (by omega) (by omega)) ?_
          refine z_top (y := (nI ((vx / 24) % (lt + mz - lt + 1)))) (z_rem (a := (vx / 24)) (d := (lt + mz - lt + 1)) (by omega) (by omega) (by omega)) ?_
          obtain ⟨wz, ewz, hwz⟩ := z_modv (vx / 24) (d := lt + mz - lt + 1) (by omega)
          refine z_top (y := (nI wz)) (congrArg nI ewz) ?_
          refine lv_iadd hx hb dL_wants_96 ?_
          refine z_top (y := (nI (lt + wz))) (z_add lt wz) ?_
          exact kJ _ _ _ _ ⟨(nI (lt + wz)), rfl, hP, hD, hS, lv_sub hl [0, 1, 2, 3, 4, 5, 6, 7, 8, 9, 10] rfl, (Or.inr (inr_nI (by omega) (by omega) (by omega))), (okv_nI (by omega))⟩
        · have c_16 := (nI_eq (a := (vx / 8) % 3) (b := 0) (by omega) (by omega)).mp c_16
          refine lv_iconst (v := (-1)) hx hb dL_wants_78 (by decide) ?_
          refine lv_goto (tgt := 97) hx hb dL_wants_79 (by decide) ?_
          exact kJ _ _ _ _ ⟨(-1), rfl, hP, hD, hS, lv_sub hl [0, 1, 2, 3, 4, 5, 6, 7, 8, 9, 10] rfl, (Or.inl rfl), (Or.inl rfl)⟩
    · skip
      refine lv_iload_n hx hb dL_wants_35 rfl (lv_at hl 7 rfl) ?_
      refine lv_iconst (v := 3) hx hb dL_wants_36 (by decide) ?_
      refine lv_irem hx hb dL_wants_37 (by decide) ?_
      refine z_top (y := (nI (vy % 3))) (z_rem (a := vy) (d := 3) (by omega) (by omega) (by omega)) ?_
      refine lv_if_ne (tgt := 45) hx hb dL_wants_38 (by decide) (fun c_17 => ?_) (fun c_17 => ?_)
      · have c_17 := mt (nI_eq (a := vy % 3) (b := 0) (by omega) (by omega)).mpr c_17
        refine lv_iload_n hx hb dL_wants_45 rfl (lv_at hl 7 rfl) ?_
        refine lv_iconst (v := 3) hx hb dL_wants_46 (by decide) ?_
        refine lv_idiv hx hb dL_wants_47 (by decide) ?_
        refine z_top (y := (nI (vy / 3))) (z_div (a := vy) (d := 3) (by omega) (by omega) (by omega)) ?_
        refine lv_bipush (v := 101) hx hb dL_wants_48 (by decide) ?_
        refine lv_irem hx hb dL_wants_50 (by decide) ?_
        refine z_top (y := (nI ((vy / 3) % 101))) (z_rem (a := (vy / 3)) (d := 101) (by omega) (by omega) (by omega)) ?_
        exact kJ _ _ _ _ ⟨(vy / 3) % 101, rfl, hP, hD, hS, lv_sub hl [0, 1, 2, 3, 4, 5, 6, 7, 8] rfl, (by omega)⟩
      · have c_17 := (nI_eq (a := vy % 3) (b := 0) (by omega) (by omega)).mp c_17
        refine lv_iconst (v := 0) hx hb dL_wants_41 (by decide) ?_
        refine lv_goto (tgt := 51) hx hb dL_wants_42 (by decide) ?_
        exact kJ _ _ _ _ ⟨0, rfl, hP, hD, hS, lv_sub hl [0, 1, 2, 3, 4, 5, 6, 7, 8] rfl, (by omega)⟩
  · skip
    refine lv_istore (lv' := [(8, .int 0), (7, .int (nI (6 * (4 + op)))), (6, .int (nI op)), (5, .int 1), (0, .ref o), (1, .int 0), (2, .int (nI vx)), (3, .int (nI vy)), (4, .ref wa)]) hx hb dL_wants_33 hl (by decide) rfl (fun ls hl => ?_)
    refine z_cut (Inv := fun H locs ls st => ∃ (lt : Nat), st = [.int (nI lt)] ∧ va_P D vwCl [(o, .inr (4, [.ref F, .ref G, .int (nI qv), .int nw, .int se, .ref (pa 0), .ref an, .ref ln])), cE x xv, (x 1, .inl (cA 0, 4, .inl (xd 0))), (x 2, .inl (cA 0, 4, .inl (xd 1))), (x 3, .inl (cA 0, 4, .inl (xd 2))), (x 4, .inl (cA 0, 4, .inl (xd 3))), (x 5, .inl (cA 0, 4, .inl (xd 4))), (x 6, .inl (cA 1, 4, .inl (xd 5))), (x 7, .inl (cA 0, 4, .inl (xd 6))), (x 8, .inl (cA 0, 4, .inl (xd 7))), cE y yv, (wa, .inl (cA 0, 48, .inl ww))] H ∧ va_D A [(o, .inr (4, [.ref F, .ref G, .int (nI qv), .int nw, .int se, .ref (pa 0), .ref an, .ref ln])), cE x xv, (x 1, .inl (cA 0, 4, .inl (xd 0))), (x 2, .inl (cA 0, 4, .inl (xd 1))), (x 3, .inl (cA 0, 4, .inl (xd 2))), (x 4, .inl (cA 0, 4, .inl (xd 3))), (x 5, .inl (cA 0, 4, .inl (xd 4))), (x 6, .inl (cA 1, 4, .inl (xd 5))), (x 7, .inl (cA 0, 4, .inl (xd 6))), (x 8, .inl (cA 0, 4, .inl (xd 7))), cE y yv, (wa, .inl (cA 0, 48, .inl ww))] ∧ va_S A s.heap H locs ∧ lv_has ls 15 [(8, .int 0), (7, .int (nI (6 * (4 + op)))), (6, .int (nI op)), (5, .int 1), (0, .ref o), (1, .int 0), (2, .int (nI vx)), (3, .int (nI vy)), (4, .ref wa)] ∧ lt ≤ 100) 51 (fun H locs ls st hQ9 => ?_) (fun kJ => ?_)
    · obtain ⟨lt, rfl, hP, hD, hS, hl, hlt⟩ := hQ9
      refine lv_istore (lv' := [(9, .int (nI lt)), (8, .int 0), (7, .int (nI (6 * (4 + op)))), (6, .int (nI op)), (5, .int 1), (0, .ref o), (1, .int 0), (2, .int (nI vx)), (3, .int (nI vy)), (4, .ref wa)]) hx hb dL_wants_51 hl (by decide) rfl (fun ls hl => ?_)
      refine lv_iload hx hb dL_wants_53 (lv_at hl 0 rfl) ?_
      refine lv_iload_n hx hb dL_wants_55 rfl (lv_at hl 8 rfl) ?_
      refine lv_sipush (v := 303) hx hb dL_wants_56 (by decide) ?_
      refine lv_idiv hx hb dL_wants_59 (by decide) ?_
      refine z_top (y := (nI (vy / 303))) (z_div (a := vy) (d := 303) (by omega) (by omega) (by omega)) ?_
      refine lv_bipush (v := 101) hx hb dL_wants_60 (by decide) ?_
      refine lv_iload hx hb dL_wants_62 (lv_at hl 0 rfl) ?_
      refine lv_isub hx hb dL_wants_64 ?_
      refine z_top (y := (nI (101 - lt))) (z_sub (a := 101) (b := lt) (by omega)) ?_
      refine lv_irem hx hb dL_wants_65 (nI_n0 (by omega) (by omega)) ?_
      refine z_top (y := (nI ((vy / 303) % (101 - lt)))) (z_rem (a := (vy / 303)) (d := (101 - lt)) (by omega) (by omega) (by omega)) ?_
      obtain ⟨mz, emz, hmz⟩ := z_modv (vy / 303) (d := 101 - lt) (by omega)
      refine z_top (y := (nI mz)) (congrArg nI emz) ?_
      refine lv_iadd hx hb dL_wants_66 ?_
      refine z_top (y := (nI (lt + mz))) (z_add lt mz) ?_
      refine lv_istore (lv' := [(10, .int (nI (lt + mz))), (9, .int (nI lt)), (8, .int 0), (7, .int (nI (6 * (4 + op)))), (6, .int (nI op)), (5, .int 1), (0, .ref o), (1, .int 0), (2, .int (nI vx)), (3, .int (nI vy)), (4, .ref wa)]) hx hb dL_wants_67 hl (by decide) rfl (fun ls hl => ?_)
      refine z_cut (Inv := fun H locs ls st => ∃ (wi : Int32), st = [.int wi] ∧ va_P D vwCl [(o, .inr (4, [.ref F, .ref G, .int (nI qv), .int nw, .int se, .ref (pa 0), .ref an, .ref ln])), cE x xv, (x 1, .inl (cA 0, 4, .inl (xd 0))), (x 2, .inl (cA 0, 4, .inl (xd 1))), (x 3, .inl (cA 0, 4, .inl (xd 2))), (x 4, .inl (cA 0, 4, .inl (xd 3))), (x 5, .inl (cA 0, 4, .inl (xd 4))), (x 6, .inl (cA 1, 4, .inl (xd 5))), (x 7, .inl (cA 0, 4, .inl (xd 6))), (x 8, .inl (cA 0, 4, .inl (xd 7))), cE y yv, (wa, .inl (cA 0, 48, .inl ww))] H ∧ va_D A [(o, .inr (4, [.ref F, .ref G, .int (nI qv), .int nw, .int se, .ref (pa 0), .ref an, .ref ln])), cE x xv, (x 1, .inl (cA 0, 4, .inl (xd 0))), (x 2, .inl (cA 0, 4, .inl (xd 1))), (x 3, .inl (cA 0, 4, .inl (xd 2))), (x 4, .inl (cA 0, 4, .inl (xd 3))), (x 5, .inl (cA 0, 4, .inl (xd 4))), (x 6, .inl (cA 1, 4, .inl (xd 5))), (x 7, .inl (cA 0, 4, .inl (xd 6))), (x 8, .inl (cA 0, 4, .inl (xd 7))), cE y yv, (wa, .inl (cA 0, 48, .inl ww))] ∧ va_S A s.heap H locs ∧ lv_has ls 15 [(10, .int (nI (lt + mz))), (9, .int (nI lt)), (8, .int 0), (7, .int (nI (6 * (4 + op)))), (6, .int (nI op)), (5, .int 1), (0, .ref o), (1, .int 0), (2, .int (nI vx)), (3, .int (nI vy)), (4, .ref wa)] ∧ (wi = -1 ∨ inr wi (nI lt) (nI (lt + mz))) ∧ okv wi) 97 (fun H locs ls st hQ9 => ?_) (fun kJ => ?_)
      · obtain ⟨wi, rfl, hP, hD, hS, hl, hwi, hwo⟩ := hQ9
        refine lv_istore (lv' := [(11, .int wi), (10, .int (nI (lt + mz))), (9, .int (nI lt)), (8, .int 0), (7, .int (nI (6 * (4 + op)))), (6, .int (nI op)), (5, .int 1), (0, .ref o), (1, .int 0), (2, .int (nI vx)), (3, .int (nI vy)), (4, .ref wa)]) hx hb dL_wants_97 hl (by decide) rfl (fun ls hl => ?_)
        refine lv_aload_n hx hb dL_wants_99 rfl (lv_at hl 7 rfl) ?_
        refine lv_iconst (v := 0) hx hb dL_wants_100 (by decide) ?_
        have hPc := hP.sub (ws' := [(o, .inr (4, [.ref F, .ref G, .int (nI qv), .int nw, .int se, .ref (pa 0), .ref an, .ref ln])), cE y yv]) [0, 10] rfl
        have hDc := hD.sub (ws' := [(o, .inr (4, [.ref F, .ref G, .int (nI qv), .int nw, .int se, .ref (pa 0), .ref an, .ref ln])), cE y yv]) [0, 10] (by decide) rfl
        have hFc := va_free (wc := [(o, .inr (4, [.ref F, .ref G, .int (nI qv), .int nw, .int se, .ref (pa 0), .ref an, .ref ln])), cE y yv]) hD hS hA [0, 10] rfl
        refine va_calli (va_runV (As := [.int 0]) (rest := []) ⟨hx, hb, hml, hown, hts⟩ (c_X3_state_k l D cA H.size o F G (nI qv) nw se pa an ln y (x 0) 0 yv (by first | exact he | exact en_flip he | exact en_01 he | exact en_10 he)) (cwV 1 hts gL_wants_X3_state rfl rfl rfl (by decide +kernel) ⟨Nat.le_of_ble_eq_true rfl, Nat.le_of_ble_eq_true rfl⟩) ⟨zU_blind, va_recv hK hPc (ci := 4) (q0 := 0) rfl rfl, fun U hU hW => ⟨rfl, zU_call hU hPc hW.alike hK hDc⟩⟩ rfl rfl hl.1 rfl (lv_room (Nat.le_of_ble_eq_true rfl)) dL_wants_101 ⟨(Nat.zero_le _), (Nat.zero_le _)⟩) hS (fun q _ h => hFc q h) hFc (fun zr u t H1 locs ht hvm hw hB hz1 hk1 hS => ?_)
        obtain ⟨hP1, hD1⟩ := hB
        rw [ht] at hP1
        obtain ⟨hP, hD⟩ := va_join (wr := [cE x xv, (x 1, .inl (cA 0, 4, .inl (xd 0))), (x 2, .inl (cA 0, 4, .inl (xd 1))), (x 3, .inl (cA 0, 4, .inl (xd 2))), (x 4, .inl (cA 0, 4, .inl (xd 3))), (x 5, .inl (cA 0, 4, .inl (xd 4))), (x 6, .inl (cA 1, 4, .inl (xd 5))), (x 7, .inl (cA 0, 4, .inl (xd 6))), (x 8, .inl (cA 0, 4, .inl (xd 7))), (wa, .inl (cA 0, 48, .inl ww))]) (w1 := [(o, .inr (4, [.ref F, .ref G, .int (nI qv), .int nw, .int se, .ref (pa 0), .ref an, .ref ln])), cE y yv]) hP hD [0, 10] [1, 2, 3, 4, 5, 6, 7, 8, 9, 11] rfl rfl (by decide) (by decide) hk1 hFc hP1 hD1
        generalize H1 = H at hP hS ⊢
        have hP := hP.sub (ws' := [(o, .inr (4, [.ref F, .ref G, .int (nI qv), .int nw, .int se, .ref (pa 0), .ref an, .ref ln])), cE x xv, (x 1, .inl (cA 0, 4, .inl (xd 0))), (x 2, .inl (cA 0, 4, .inl (xd 1))), (x 3, .inl (cA 0, 4, .inl (xd 2))), (x 4, .inl (cA 0, 4, .inl (xd 3))), (x 5, .inl (cA 0, 4, .inl (xd 4))), (x 6, .inl (cA 1, 4, .inl (xd 5))), (x 7, .inl (cA 0, 4, .inl (xd 6))), (x 8, .inl (cA 0, 4, .inl (xd 7))), cE y yv, (wa, .inl (cA 0, 48, .inl ww))]) [10, 0, 1, 2, 3, 4, 5, 6, 7, 8, 11, 9] rfl
        have hD := hD.sub (ws' := [(o, .inr (4, [.ref F, .ref G, .int (nI qv), .int nw, .int se, .ref (pa 0), .ref an, .ref ln])), cE x xv, (x 1, .inl (cA 0, 4, .inl (xd 0))), (x 2, .inl (cA 0, 4, .inl (xd 1))), (x 3, .inl (cA 0, 4, .inl (xd 2))), (x 4, .inl (cA 0, 4, .inl (xd 3))), (x 5, .inl (cA 0, 4, .inl (xd 4))), (x 6, .inl (cA 1, 4, .inl (xd 5))), (x 7, .inl (cA 0, 4, .inl (xd 6))), (x 8, .inl (cA 0, 4, .inl (xd 7))), cE y yv, (wa, .inl (cA 0, 48, .inl ww))]) [10, 0, 1, 2, 3, 4, 5, 6, 7, 8, 11, 9] (by decide) rfl
        clear hPc hDc hFc hP1 hD1 hk1 hz1
        have hw_18 := hw
        obtain rfl := hw
        refine z_top (y := (nI sy)) hy0 ?_
        refine lv_bipush (v := 8) hx hb dL_wants_104 (by decide) ?_
        refine lv_aload_n hx hb dL_wants_106 rfl (lv_at hl 7 rfl) ?_
        refine lv_iconst (v := 1) hx hb dL_wants_107 (by decide) ?_
        have hPc := hP.sub (ws' := [(o, .inr (4, [.ref F, .ref G, .int (nI qv), .int nw, .int se, .ref (pa 0), .ref an, .ref ln])), cE x xv]) [0, 1] rfl
        have hDc := hD.sub (ws' := [(o, .inr (4, [.ref F, .ref G, .int (nI qv), .int nw, .int se, .ref (pa 0), .ref an, .ref ln])), cE x xv]) [0, 1] (by decide) rfl
        have hFc := va_free (wc := [(o, .inr (4, [.ref F, .ref G, .int (nI qv), .int nw, .int se, .ref (pa 0), .ref an, .ref ln])), cE x xv]) hD hS hA [0, 1] rfl
        refine va_calli (va_runV (As := [.int 1]) (rest := [.int 8, .int (nI sy)]) ⟨hx, hb, hml, hown, hts⟩ (c_X3_state_k l D cA H.size o F G (nI qv) nw se pa an ln x (y 0) 1 xv (by first | exact he | exact en_flip he | exact en_01 he | exact en_10 he)) (cwV 1 hts gL_wants_X3_state rfl rfl rfl (by decide +kernel) ⟨Nat.le_of_ble_eq_true rfl, Nat.le_of_ble_eq_true rfl⟩) ⟨zU_blind, va_recv hK hPc (ci := 4) (q0 := 0) rfl rfl, fun U hU hW => ⟨rfl, zU_call hU hPc hW.alike hK hDc⟩⟩ rfl rfl hl.1 rfl (lv_room (Nat.le_of_ble_eq_true rfl)) dL_wants_108 ⟨(Nat.zero_le _), (Nat.zero_le _)⟩) hS (fun q _ h => hFc q h) hFc (fun zr u t H1 locs ht hvm hw hB hz1 hk1 hS => ?_)
        obtain ⟨hP1, hD1⟩ := hB
        rw [ht] at hP1
        obtain ⟨hP, hD⟩ := va_join (wr := [(x 1, .inl (cA 0, 4, .inl (xd 0))), (x 2, .inl (cA 0, 4, .inl (xd 1))), (x 3, .inl (cA 0, 4, .inl (xd 2))), (x 4, .inl (cA 0, 4, .inl (xd 3))), (x 5, .inl (cA 0, 4, .inl (xd 4))), (x 6, .inl (cA 1, 4, .inl (xd 5))), (x 7, .inl (cA 0, 4, .inl (xd 6))), (x 8, .inl (cA 0, 4, .inl (xd 7))), cE y yv, (wa, .inl (cA 0, 48, .inl ww))]) (w1 := [(o, .inr (4, [.ref F, .ref G, .int (nI qv), .int nw, .int se, .ref (pa 0), .ref an, .ref ln])), cE x xv]) hP hD [0, 1] [2, 3, 4, 5, 6, 7, 8, 9, 10, 11] rfl rfl (by decide) (by decide) hk1 hFc hP1 hD1
        generalize H1 = H at hP hS ⊢
        have hP := hP.sub (ws' := [(o, .inr (4, [.ref F, .ref G, .int (nI qv), .int nw, .int se, .ref (pa 0), .ref an, .ref ln])), cE x xv, (x 1, .inl (cA 0, 4, .inl (xd 0))), (x 2, .inl (cA 0, 4, .inl (xd 1))), (x 3, .inl (cA 0, 4, .inl (xd 2))), (x 4, .inl (cA 0, 4, .inl (xd 3))), (x 5, .inl (cA 0, 4, .inl (xd 4))), (x 6, .inl (cA 1, 4, .inl (xd 5))), (x 7, .inl (cA 0, 4, .inl (xd 6))), (x 8, .inl (cA 0, 4, .inl (xd 7))), cE y yv, (wa, .inl (cA 0, 48, .inl ww))]) [10, 11, 0, 1, 2, 3, 4, 5, 6, 7, 8, 9] rfl
        have hD := hD.sub (ws' := [(o, .inr (4, [.ref F, .ref G, .int (nI qv), .int nw, .int se, .ref (pa 0), .ref an, .ref ln])), cE x xv, (x 1, .inl (cA 0, 4, .inl (xd 0))), (x 2, .inl (cA 0, 4, .inl (xd 1))), (x 3, .inl (cA 0, 4, .inl (xd 2))), (x 4, .inl (cA 0, 4, .inl (xd 3))), (x 5, .inl (cA 0, 4, .inl (xd 4))), (x 6, .inl (cA 1, 4, .inl (xd 5))), (x 7, .inl (cA 0, 4, .inl (xd 6))), (x 8, .inl (cA 0, 4, .inl (xd 7))), cE y yv, (wa, .inl (cA 0, 48, .inl ww))]) [10, 11, 0, 1, 2, 3, 4, 5, 6, 7, 8, 9] (by decide) rfl
        clear hPc hDc hFc hP1 hD1 hk1 hz1
        have hw_19 := hw
        obtain rfl := hw
        refine z_top (y := (nI sx)) hx0 ?_
        refine lv_imul hx hb dL_wants_111 ?_
        refine z_top (y := (nI (8 * sx))) (z_mul 8 sx) ?_
        refine lv_iadd hx hb dL_wants_112 ?_
        refine z_top (y := (nI (sy + 8 * sx))) (z_add sy (8 * sx)) ?_
        refine lv_istore (lv' := [(12, .int (nI (sy + 8 * sx))), (11, .int wi), (10, .int (nI (lt + mz))), (9, .int (nI lt)), (8, .int 0), (7, .int (nI (6 * (4 + op)))), (6, .int (nI op)), (5, .int 1), (0, .ref o), (1, .int 0), (2, .int (nI vx)), (3, .int (nI vy)), (4, .ref wa)]) hx hb dL_wants_113 hl (by decide) rfl (fun ls hl => ?_)
        refine lv_iload_n hx hb dL_wants_115 rfl (lv_at hl 9 rfl) ?_
        refine lv_if_ne (tgt := 129) hx hb dL_wants_116 (by decide) (fun c_20 => absurd c_20 (by decide)) (fun _ => ?_)
        refine lv_aload hx hb dL_wants_119 (lv_at hl 12 rfl) ?_
        refine lv_iload hx hb dL_wants_121 (lv_at hl 5 rfl) ?_
        refine z_iald (k := (6 * (4 + op))) (v := ((xd 0) op + 1)) hx hb hK hP 11 0 rfl rfl rfl (by omega) (by decide) (wr_at (hWr op hop).1 (by omega)) dL_wants_123 ?_
        refine lv_iconst (v := 1) hx hb dL_wants_124 (by decide) ?_
        refine lv_isub hx hb dL_wants_125 ?_
        refine z_top (y := ((xd 0) op)) i_as ?_
        refine lv_goto (tgt := 136) hx hb dL_wants_126 (by decide) ?_
        refine lv_istore (lv' := [(13, .int ((xd 0) op)), (12, .int (nI (sy + 8 * sx))), (11, .int wi), (10, .int (nI (lt + mz))), (9, .int (nI lt)), (8, .int 0), (7, .int (nI (6 * (4 + op)))), (6, .int (nI op)), (5, .int 1), (0, .ref o), (1, .int 0), (2, .int (nI vx)), (3, .int (nI vy)), (4, .ref wa)]) hx hb dL_wants_136 hl (by decide) rfl (fun ls hl => ?_)
        refine lv_aload_n hx hb dL_wants_138 rfl (lv_at hl 9 rfl) ?_
        refine lv_iload_n hx hb dL_wants_139 rfl (lv_at hl 10 rfl) ?_
        refine lv_iload hx hb dL_wants_140 (lv_at hl 8 rfl) ?_
        refine lv_iload hx hb dL_wants_142 (lv_at hl 7 rfl) ?_
        refine lv_iload_n hx hb dL_wants_144 rfl (lv_at hl 10 rfl) ?_
        refine lv_iconst (v := 2) hx hb dL_wants_145 (by decide) ?_
        refine lv_icmp_ne (tgt := 158) hx hb dL_wants_146 (by decide) (fun _ => ?_) (fun c_21 => absurd c_21 (by decide))
        refine lv_iload hx hb dL_wants_158 (lv_at hl 2 rfl) ?_
        refine lv_iload hx hb dL_wants_160 (lv_at hl 4 rfl) ?_
        refine lv_iload hx hb dL_wants_162 (lv_at hl 3 rfl) ?_
        have hPc := hP.sub (ws' := [(o, .inr (4, [.ref F, .ref G, .int (nI qv), .int nw, .int se, .ref (pa 0), .ref an, .ref ln])), cE x xv]) [0, 1] rfl
        have hDc := hD.sub (ws' := [(o, .inr (4, [.ref F, .ref G, .int (nI qv), .int nw, .int se, .ref (pa 0), .ref an, .ref ln])), cE x xv]) [0, 1] (by decide) rfl
        have hFc := va_free (wc := [(o, .inr (4, [.ref F, .ref G, .int (nI qv), .int nw, .int se, .ref (pa 0), .ref an, .ref ln])), cE x xv]) hD hS hA [0, 1] rfl
        refine va_calli (vx_runSW (As := [.ref o, .int 0, .int 1, .int (nI op), .int wi, .int (nI lt), .int (nI (lt + mz))]) (rest := []) ⟨hx, hb, hml, hown, hts⟩ (c_asks_wish_s l D cA zv H.size o F G (nI qv) nw se pa an ln x (y 0) 1 xv op wi (nI lt) (nI (lt + mz)) (by assumption) (by first | exact he | exact en_flip he | exact en_01 he | exact en_10 he) hop ⟨inr_nI (a := lt) (b := 0) (c := 100) (by omega) (by omega) (by decide), inr_nI (a := lt + mz) (b := lt) (c := 100) (by omega) (by omega) (by decide)⟩ hwi (fun q9 => absurd ((s_shut hI).mp q9) (by omega))) (vx_cwSW 7 hts gL_wants_L_asks rfl rfl rfl (by decide +kernel) ⟨Nat.le_of_ble_eq_true rfl, Nat.le_of_ble_eq_true rfl⟩) ⟨zUX_blind, fun U hU hW => ⟨rfl, zUX_call hE0 hX0 hS hFc hU hPc hW hK hDc⟩⟩ rfl rfl hl.1 rfl (lv_room (Nat.le_of_ble_eq_true rfl)) dL_wants_164 ⟨Nat.le_of_ble_eq_true rfl, Nat.le_of_ble_eq_true rfl⟩) hS (fun q _ h => hFc q h) hFc (fun zr u t H1 locs ht hvm hw hB hz1 hk1 hS => ?_)
        obtain ⟨hP1, hD1⟩ := hB
        rw [ht] at hP1
        obtain ⟨hP, hD⟩ := va_join (wr := [(x 1, .inl (cA 0, 4, .inl (xd 0))), (x 2, .inl (cA 0, 4, .inl (xd 1))), (x 3, .inl (cA 0, 4, .inl (xd 2))), (x 4, .inl (cA 0, 4, .inl (xd 3))), (x 5, .inl (cA 0, 4, .inl (xd 4))), (x 6, .inl (cA 1, 4, .inl (xd 5))), (x 7, .inl (cA 0, 4, .inl (xd 6))), (x 8, .inl (cA 0, 4, .inl (xd 7))), cE y yv, (wa, .inl (cA 0, 48, .inl ww))]) (w1 := [(o, .inr (4, [.ref F, .ref G, .int (nI qv), .int nw, .int se, .ref (pa 0), .ref an, .ref ln])), cE x xv]) hP hD [0, 1] [2, 3, 4, 5, 6, 7, 8, 9, 10, 11] rfl rfl (by decide) (by decide) hk1 hFc hP1 hD1
        generalize H1 = H at hP hS ⊢
        have hP := hP.sub (ws' := [(o, .inr (4, [.ref F, .ref G, .int (nI qv), .int nw, .int se, .ref (pa 0), .ref an, .ref ln])), cE x xv, (x 1, .inl (cA 0, 4, .inl (xd 0))), (x 2, .inl (cA 0, 4, .inl (xd 1))), (x 3, .inl (cA 0, 4, .inl (xd 2))), (x 4, .inl (cA 0, 4, .inl (xd 3))), (x 5, .inl (cA 0, 4, .inl (xd 4))), (x 6, .inl (cA 1, 4, .inl (xd 5))), (x 7, .inl (cA 0, 4, .inl (xd 6))), (x 8, .inl (cA 0, 4, .inl (xd 7))), cE y yv, (wa, .inl (cA 0, 48, .inl ww))]) [10, 11, 0, 1, 2, 3, 4, 5, 6, 7, 8, 9] rfl
        have hD := hD.sub (ws' := [(o, .inr (4, [.ref F, .ref G, .int (nI qv), .int nw, .int se, .ref (pa 0), .ref an, .ref ln])), cE x xv, (x 1, .inl (cA 0, 4, .inl (xd 0))), (x 2, .inl (cA 0, 4, .inl (xd 1))), (x 3, .inl (cA 0, 4, .inl (xd 2))), (x 4, .inl (cA 0, 4, .inl (xd 3))), (x 5, .inl (cA 0, 4, .inl (xd 4))), (x 6, .inl (cA 1, 4, .inl (xd 5))), (x 7, .inl (cA 0, 4, .inl (xd 6))), (x 8, .inl (cA 0, 4, .inl (xd 7))), cE y yv, (wa, .inl (cA 0, 48, .inl ww))]) [10, 11, 0, 1, 2, 3, 4, 5, 6, 7, 8, 9] (by decide) rfl
        clear hPc hDc hFc hP1 hD1 hk1 hz1
        refine W.widen (k := 1) (n := 6) (by omega) (by omega) ?_
        have hw_22 := hw
        obtain rfl := hw
        refine lv_istore (lv' := [(14, .int (-8)), (13, .int ((xd 0) op)), (12, .int (nI (sy + 8 * sx))), (11, .int wi), (10, .int (nI (lt + mz))), (9, .int (nI lt)), (8, .int 0), (7, .int (nI (6 * (4 + op)))), (6, .int (nI op)), (5, .int 1), (0, .ref o), (1, .int 0), (2, .int (nI vx)), (3, .int (nI vy)), (4, .ref wa)]) hx hb dL_wants_167 hl (by decide) rfl (fun ls hl => ?_)
        refine lv_iload hx hb dL_wants_169 (lv_at hl 6 rfl) ?_
        refine lv_if_eq (tgt := 208) hx hb dL_wants_171 (by decide) (fun _ => ?_) (fun c_23 => absurd c_23 (by decide))
        refine lv_iload hx hb dL_wants_208 (lv_at hl 6 rfl) ?_
        refine lv_if_eq (tgt := 239) hx hb dL_wants_210 (by decide) (fun _ => ?_) (fun c_24 => absurd c_24 (by decide))
        refine lv_iload hx hb dL_wants_239 (lv_at hl 6 rfl) ?_
        refine lv_if_eq (tgt := 257) hx hb dL_wants_241 (by decide) (fun _ => ?_) (fun c_25 => absurd c_25 (by decide))
        refine lv_iload hx hb dL_wants_257 (lv_at hl 0 rfl) ?_
        refine lv_iload hx hb dL_wants_259 (lv_at hl 6 rfl) ?_
        refine lv_if_ne (tgt := 269) hx hb dL_wants_261 (by decide) (fun c_26 => absurd c_26 (by decide)) (fun _ => ?_)
        refine lv_bipush (v := (-8)) hx hb dL_wants_264 (by decide) ?_
        refine lv_goto (tgt := 280) hx hb dL_wants_266 (by decide) ?_
        refine lv_icmp_ne (tgt := 306) hx hb dL_wants_280 (by decide) (fun c_27 => absurd c_27 (by decide)) (fun _ => ?_)
        refine lv_aload_n hx hb dL_wants_283 rfl (lv_at hl 10 rfl) ?_
        refine lv_iconst (v := 0) hx hb dL_wants_284 (by decide) ?_
        have hPc := hP.sub (ws' := [(o, .inr (4, [.ref F, .ref G, .int (nI qv), .int nw, .int se, .ref (pa 0), .ref an, .ref ln])), cE y yv]) [0, 10] rfl
        have hDc := hD.sub (ws' := [(o, .inr (4, [.ref F, .ref G, .int (nI qv), .int nw, .int se, .ref (pa 0), .ref an, .ref ln])), cE y yv]) [0, 10] (by decide) rfl
        have hFc := va_free (wc := [(o, .inr (4, [.ref F, .ref G, .int (nI qv), .int nw, .int se, .ref (pa 0), .ref an, .ref ln])), cE y yv]) hD hS hA [0, 10] rfl
        refine va_calli (va_runV (As := [.int 0]) (rest := []) ⟨hx, hb, hml, hown, hts⟩ (c_X3_state_k l D cA H.size o F G (nI qv) nw se pa an ln y (x 0) 0 yv (by first | exact he | exact en_flip he | exact en_01 he | exact en_10 he)) (cwV 1 hts gL_wants_X3_state rfl rfl rfl (by decide +kernel) ⟨Nat.le_of_ble_eq_true rfl, Nat.le_of_ble_eq_true rfl⟩) ⟨zU_blind, va_recv hK hPc (ci := 4) (q0 := 0) rfl rfl, fun U hU hW => ⟨rfl, zU_call hU hPc hW.alike hK hDc⟩⟩ rfl rfl hl.1 rfl (lv_room (Nat.le_of_ble_eq_true rfl)) dL_wants_285 ⟨Nat.le_of_ble_eq_true rfl, Nat.le_of_ble_eq_true rfl⟩) hS (fun q _ h => hFc q h) hFc (fun zr u t H1 locs ht hvm hw hB hz1 hk1 hS => ?_)
        obtain ⟨hP1, hD1⟩ := hB
        rw [ht] at hP1
        obtain ⟨hP, hD⟩ := va_join (wr := [cE x xv, (x 1, .inl (cA 0, 4, .inl (xd 0))), (x 2, .inl (cA 0, 4, .inl (xd 1))), (x 3, .inl (cA 0, 4, .inl (xd 2))), (x 4, .inl (cA 0, 4, .inl (xd 3))), (x 5, .inl (cA 0, 4, .inl (xd 4))), (x 6, .inl (cA 1, 4, .inl (xd 5))), (x 7, .inl (cA 0, 4, .inl (xd 6))), (x 8, .inl (cA 0, 4, .inl (xd 7))), (wa, .inl (cA 0, 48, .inl ww))]) (w1 := [(o, .inr (4, [.ref F, .ref G, .int (nI qv), .int nw, .int se, .ref (pa 0), .ref an, .ref ln])), cE y yv]) hP hD [0, 10] [1, 2, 3, 4, 5, 6, 7, 8, 9, 11] rfl rfl (by decide) (by decide) hk1 hFc hP1 hD1
        generalize H1 = H at hP hS ⊢
        have hP := hP.sub (ws' := [(o, .inr (4, [.ref F, .ref G, .int (nI qv), .int nw, .int se, .ref (pa 0), .ref an, .ref ln])), cE x xv, (x 1, .inl (cA 0, 4, .inl (xd 0))), (x 2, .inl (cA 0, 4, .inl (xd 1))), (x 3, .inl (cA 0, 4, .inl (xd 2))), (x 4, .inl (cA 0, 4, .inl (xd 3))), (x 5, .inl (cA 0, 4, .inl (xd 4))), (x 6, .inl (cA 1, 4, .inl (xd 5))), (x 7, .inl (cA 0, 4, .inl (xd 6))), (x 8, .inl (cA 0, 4, .inl (xd 7))), cE y yv, (wa, .inl (cA 0, 48, .inl ww))]) [10, 0, 1, 2, 3, 4, 5, 6, 7, 8, 11, 9] rfl
        have hD := hD.sub (ws' := [(o, .inr (4, [.ref F, .ref G, .int (nI qv), .int nw, .int se, .ref (pa 0), .ref an, .ref ln])), cE x xv, (x 1, .inl (cA 0, 4, .inl (xd 0))), (x 2, .inl (cA 0, 4, .inl (xd 1))), (x 3, .inl (cA 0, 4, .inl (xd 2))), (x 4, .inl (cA 0, 4, .inl (xd 3))), (x 5, .inl (cA 0, 4, .inl (xd 4))), (x 6, .inl (cA 1, 4, .inl (xd 5))), (x 7, .inl (cA 0, 4, .inl (xd 6))), (x 8, .inl (cA 0, 4, .inl (xd 7))), cE y yv, (wa, .inl (cA 0, 48, .inl ww))]) [10, 0, 1, 2, 3, 4, 5, 6, 7, 8, 11, 9] (by decide) rfl
        clear hPc hDc hFc hP1 hD1 hk1 hz1
        have hw_28 := hw
        obtain rfl := hw
        refine z_top (y := (nI sy)) hy0 ?_
        refine lv_bipush (v := 8) hx hb dL_wants_288 (by decide) ?_
        refine lv_aload_n hx hb dL_wants_290 rfl (lv_at hl 10 rfl) ?_
        refine lv_iconst (v := 1) hx hb dL_wants_291 (by decide) ?_
        have hPc := hP.sub (ws' := [(o, .inr (4, [.ref F, .ref G, .int (nI qv), .int nw, .int se, .ref (pa 0), .ref an, .ref ln])), cE x xv]) [0, 1] rfl
        have hDc := hD.sub (ws' := [(o, .inr (4, [.ref F, .ref G, .int (nI qv), .int nw, .int se, .ref (pa 0), .ref an, .ref ln])), cE x xv]) [0, 1] (by decide) rfl
        have hFc := va_free (wc := [(o, .inr (4, [.ref F, .ref G, .int (nI qv), .int nw, .int se, .ref (pa 0), .ref an, .ref ln])), cE x xv]) hD hS hA [0, 1] rfl
        refine va_calli (va_runV (As := [.int 1]) (rest := [.int 8, .int (nI sy)]) ⟨hx, hb, hml, hown, hts⟩ (c_X3_state_k l D cA H.size o F G (nI qv) nw se pa an ln x (y 0) 1 xv (by first | exact he | exact en_flip he | exact en_01 he | exact en_10 he)) (cwV 1 hts gL_wants_X3_state rfl rfl rfl (by decide +kernel) ⟨Nat.le_of_ble_eq_true rfl, Nat.le_of_ble_eq_true rfl⟩) ⟨zU_blind, va_recv hK hPc (ci := 4) (q0 := 0) rfl rfl, fun U hU hW => ⟨rfl, zU_call hU hPc hW.alike hK hDc⟩⟩ rfl rfl hl.1 rfl (lv_room (Nat.le_of_ble_eq_true rfl)) dL_wants_292 ⟨Nat.le_of_ble_eq_true rfl, Nat.le_of_ble_eq_true rfl⟩) hS (fun q _ h => hFc q h) hFc (fun zr u t H1 locs ht hvm hw hB hz1 hk1 hS => ?_)
        obtain ⟨hP1, hD1⟩ := hB
        rw [ht] at hP1
        obtain ⟨hP, hD⟩ := va_join (wr := [(x 1, .inl (cA 0, 4, .inl (xd 0))), (x 2, .inl (cA 0, 4, .inl (xd 1))), (x 3, .inl (cA 0, 4, .inl (xd 2))), (x 4, .inl (cA 0, 4, .inl (xd 3))), (x 5, .inl (cA 0, 4, .inl (xd 4))), (x 6, .inl (cA 1, 4, .inl (xd 5))), (x 7, .inl (cA 0, 4, .inl (xd 6))), (x 8, .inl (cA 0, 4, .inl (xd 7))), cE y yv, (wa, .inl (cA 0, 48, .inl ww))]) (w1 := [(o, .inr (4, [.ref F, .ref G, .int (nI qv), .int nw, .int se, .ref (pa 0), .ref an, .ref ln])), cE x xv]) hP hD [0, 1] [2, 3, 4, 5, 6, 7, 8, 9, 10, 11] rfl rfl (by decide) (by decide) hk1 hFc hP1 hD1
        generalize H1 = H at hP hS ⊢
        have hP := hP.sub (ws' := [(o, .inr (4, [.ref F, .ref G, .int (nI qv), .int nw, .int se, .ref (pa 0), .ref an, .ref ln])), cE x xv, (x 1, .inl (cA 0, 4, .inl (xd 0))), (x 2, .inl (cA 0, 4, .inl (xd 1))), (x 3, .inl (cA 0, 4, .inl (xd 2))), (x 4, .inl (cA 0, 4, .inl (xd 3))), (x 5, .inl (cA 0, 4, .inl (xd 4))), (x 6, .inl (cA 1, 4, .inl (xd 5))), (x 7, .inl (cA 0, 4, .inl (xd 6))), (x 8, .inl (cA 0, 4, .inl (xd 7))), cE y yv, (wa, .inl (cA 0, 48, .inl ww))]) [10, 11, 0, 1, 2, 3, 4, 5, 6, 7, 8, 9] rfl
        have hD := hD.sub (ws' := [(o, .inr (4, [.ref F, .ref G, .int (nI qv), .int nw, .int se, .ref (pa 0), .ref an, .ref ln])), cE x xv, (x 1, .inl (cA 0, 4, .inl (xd 0))), (x 2, .inl (cA 0, 4, .inl (xd 1))), (x 3, .inl (cA 0, 4, .inl (xd 2))), (x 4, .inl (cA 0, 4, .inl (xd 3))), (x 5, .inl (cA 0, 4, .inl (xd 4))), (x 6, .inl (cA 1, 4, .inl (xd 5))), (x 7, .inl (cA 0, 4, .inl (xd 6))), (x 8, .inl (cA 0, 4, .inl (xd 7))), cE y yv, (wa, .inl (cA 0, 48, .inl ww))]) [10, 11, 0, 1, 2, 3, 4, 5, 6, 7, 8, 9] (by decide) rfl
        clear hPc hDc hFc hP1 hD1 hk1 hz1
        have hw_29 := hw
        obtain rfl := hw
        refine z_top (y := (nI sx)) hx0 ?_
        refine lv_imul hx hb dL_wants_295 ?_
        refine z_top (y := (nI (8 * sx))) (z_mul 8 sx) ?_
        refine lv_iadd hx hb dL_wants_296 ?_
        refine z_top (y := (nI (sy + 8 * sx))) (z_add sy (8 * sx)) ?_
        refine lv_iload hx hb dL_wants_297 (lv_at hl 2 rfl) ?_
        refine lv_icmp_ne (tgt := 306) hx hb dL_wants_299 (by decide) (fun c_30 => absurd rfl c_30) (fun _ => ?_)
        refine lv_iconst (v := 1) hx hb dL_wants_302 (by decide) ?_
        refine lv_goto (tgt := 307) hx hb dL_wants_303 (by decide) ?_
        refine W.widen (k := 1) (n := 6) (by omega) (by omega) ?_
        exact W.zret (v := 1) hx hb hr rfl (fun t ht hW => ⟨⟨1, (xd, ww), rfl, ⟨⟨sx, kx, tx, sy, ky, ty, hI, by omega, by omega⟩, hWr, hWr2, rfl⟩, ⟨by rw [ht]; exact hP, by rw [hAe]; exact hD⟩⟩, hS.F ht⟩) hS.2.2 dL_wants_307
      · skip
        refine lv_iload_n hx hb dL_wants_69 rfl (lv_at hl 8 rfl) ?_
        refine lv_bipush (v := 8) hx hb dL_wants_70 (by decide) ?_
        refine lv_idiv hx hb dL_wants_72 (by decide) ?_
        refine z_top (y := (nI (vx / 8))) (z_div (a := vx) (d := 8) (by omega) (by omega) (by omega)) ?_
        refine lv_iconst (v := 3) hx hb dL_wants_73 (by decide) ?_
        refine lv_irem hx hb dL_wants_74 (by decide) ?_
        refine z_top (y := (nI ((vx / 8) % 3))) (z_rem (a := (vx / 8)) (d := 3) (by omega) (by omega) (by omega)) ?_
        refine lv_if_ne (tgt := 82) hx hb dL_wants_75 (by decide) (fun c_31 => ?_) (fun c_31 => ?_)
        · have c_31 := mt (nI_eq (a := (vx / 8) % 3) (b := 0) (by omega) (by omega)).mpr c_31
          refine lv_iload hx hb dL_wants_82 (lv_at hl 1 rfl) ?_
          refine lv_iload_n hx hb dL_wants_84 rfl (lv_at hl 8 rfl) ?_
          refine lv_bipush (v := 24) hx hb dL_wants_85 (by decide) ?_
          refine lv_idiv hx hb dL_wants_87 (by decide) ?_
          refine z_top (y := (nI (vx / 24))) (z_div (a := vx) (d := 24) (by omega) (by omega) (by omega)) ?_
          refine lv_iload hx hb dL_wants_88 (lv_at hl 0 rfl) ?_
          refine lv_iload hx hb dL_wants_90 (lv_at hl 1 rfl) ?_
          refine lv_isub hx hb dL_wants_92 ?_
          refine z_top (y := (nI (lt + mz - lt))) (z_sub (by omega)) ?_
          refine lv_iconst (v := 1) hx hb dL_wants_93 (by decide) ?_
          refine lv_iadd hx hb dL_wants_94 ?_
          refine z_top (y := (nI (lt + mz - lt + 1))) (z_add (lt + mz - lt) 1) ?_
          refine lv_irem hx hb dL_wants_95 (nI_n0 (by omega) (by omega)) ?_
          refine z_top (y := (nI ((vx / 24) % (lt + mz - lt + 1)))) (z_rem (a := (vx / 24)) (d := (lt + mz - lt + 1)) (by omega) (by omega) (by omega)) ?_
          obtain ⟨wz, ewz, hwz⟩ := z_modv (vx / 24) (d := lt + mz - lt + 1) (by omega)
          refine z_top (y := (nI wz)) (congrArg nI ewz) ?_
          refine lv_iadd hx hb dL_wants_96 ?_
          refine z_top (y := (nI (lt + wz))) (z_add lt wz) ?_
          exact kJ _ _ _ _ ⟨(nI (lt + wz)), rfl, hP, hD, hS, lv_sub hl [0, 1, 2, 3, 4, 5, 6, 7, 8, 9, 10] rfl, (Or.inr (inr_nI (by omega) (by omega) (by omega))), (okv_nI (by omega))⟩
        · have c_31 := (nI_eq (a := (vx / 8) % 3) (b := 0) (by omega) (by omega)).mp c_31
          refine lv_iconst (v := (-1)) hx hb dL_wants_78 (by decide) ?_
          refine lv_goto (tgt := 97) hx hb dL_wants_79 (by decide) ?_
          exact kJ _ _ _ _ ⟨(-1), rfl, hP, hD, hS, lv_sub hl [0, 1, 2, 3, 4, 5, 6, 7, 8, 9, 10] rfl, (Or.inl rfl), (Or.inl rfl)⟩
    · skip
      refine lv_iload_n hx hb dL_wants_35 rfl (lv_at hl 7 rfl) ?_
      refine lv_iconst (v := 3) hx hb dL_wants_36 (by decide) ?_
      refine lv_irem hx hb dL_wants_37 (by decide) ?_
      refine z_top (y := (nI (vy % 3))) (z_rem (a := vy) (d := 3) (by omega) (by omega) (by omega)) ?_
      refine lv_if_ne (tgt := 45) hx hb dL_wants_38 (by decide) (fun c_32 => ?_) (fun c_32 => ?_)
      · have c_32 := mt (nI_eq (a := vy % 3) (b := 0) (by omega) (by omega)).mpr c_32
        refine lv_iload_n hx hb dL_wants_45 rfl (lv_at hl 7 rfl) ?_
        refine lv_iconst (v := 3) hx hb dL_wants_46 (by decide) ?_
        refine lv_idiv hx hb dL_wants_47 (by decide) ?_
        refine z_top (y := (nI (vy / 3))) (z_div (a := vy) (d := 3) (by omega) (by omega) (by omega)) ?_
        refine lv_bipush (v := 101) hx hb dL_wants_48 (by decide) ?_
        refine lv_irem hx hb dL_wants_50 (by decide) ?_
        refine z_top (y := (nI ((vy / 3) % 101))) (z_rem (a := (vy / 3)) (d := 101) (by omega) (by omega) (by omega)) ?_
        exact kJ _ _ _ _ ⟨(vy / 3) % 101, rfl, hP, hD, hS, lv_sub hl [0, 1, 2, 3, 4, 5, 6, 7, 8] rfl, (by omega)⟩
      · have c_32 := (nI_eq (a := vy % 3) (b := 0) (by omega) (by omega)).mp c_32
        refine lv_iconst (v := 0) hx hb dL_wants_41 (by decide) ?_
        refine lv_goto (tgt := 51) hx hb dL_wants_42 (by decide) ?_
        exact kJ _ _ _ _ ⟨0, rfl, hP, hD, hS, lv_sub hl [0, 1, 2, 3, 4, 5, 6, 7, 8] rfl, (by omega)⟩
set_option maxHeartbeats 4000000 in
set_option maxRecDepth 100000 in
/-- wants(o, 1, x, y, w), the end 1 -/
theorem c_wants_11 (l : Launch) (D : va_G) (cA : Nat → ClassId) (zv : Nat → Nat) (sz : Nat) (o F G : Nat) (nw se : Int32) (pa : Nat → Nat) (an ln : Nat) (x y : Nat → Nat) (vx vy : Nat) (xv yv : Nat → Int32) (xr yr : Nat → Nat → Int32) (xf yf : Nat) (QX QY : Qt) (xd yd : Nat → Nat → Int32) (B gv qv : Nat) (wa : Nat) (ww : Nat → Int32) (hl0 : l.stackTraces = false) (he : en 1 F G (x 0) (y 0)) (hvx : vx % 2 = 1) (hvb : vx < 1073741824) (hvc : vy < 1073741824) (hPW : PW B gv qv xv xd QX yv yd QY) (hWr : WRe 1 xd ww) (hWr2 : WRe 0 yd ww) : Met l yL_wants wsL_wants ({ frames := 12, cells := 1, slots := 6, locals := 196 }) (va_Pc [.ref o, .int 1, .int (nI vx), .int (nI vy), .ref wa] (zUX D cA zv sz [(o, .inr (4, [.ref F, .ref G, .int (nI qv), .int nw, .int se, .ref (pa 0), .ref an, .ref ln])), cE x xv, (x 1, .inl (cA 0, 4, .inl (xd 0))), (x 2, .inl (cA 0, 4, .inl (xd 1))), (x 3, .inl (cA 0, 4, .inl (xd 2))), (x 4, .inl (cA 0, 4, .inl (xd 3))), (x 5, .inl (cA 0, 4, .inl (xd 4))), (x 6, .inl (cA 1, 4, .inl (xd 5))), (x 7, .inl (cA 0, 4, .inl (xd 6))), (x 8, .inl (cA 0, 4, .inl (xd 7))), cE y yv, (wa, .inl (cA 0, 48, .inl ww))])) (va_Qi (fun (r : Int32) (u : ((Nat → Nat → Int32) × (Nat → Int32))) => PW (B + 1) gv qv xv u.1 QX yv yd QY ∧ WRe 1 u.1 u.2 ∧ WRe 0 yd u.2 ∧ r = 1) (fun (u : ((Nat → Nat → Int32) × (Nat → Int32))) t => zB D [(o, .inr (4, [.ref F, .ref G, .int (nI qv), .int nw, .int se, .ref (pa 0), .ref an, .ref ln])), cE x xv, (x 1, .inl (cA 0, 4, .inl (xd 0))), (x 2, .inl (cA 0, 4, .inl (xd 1))), (x 3, .inl (cA 0, 4, .inl (xd 2))), (x 4, .inl (cA 0, 4, .inl (xd 3))), (x 5, .inl (cA 0, 4, .inl (xd 4))), (x 6, .inl (cA 1, 4, .inl (xd 5))), (x 7, .inl (cA 0, 4, .inl (xd 6))), (x 8, .inl (cA 0, 4, .inl (xd 7))), cE y yv, (wa, .inl (cA 0, 48, .inl ww))] sz [(o, .inr (4, [.ref F, .ref G, .int (nI qv), .int nw, .int se, .ref (pa 0), .ref an, .ref ln])), cE x xv, (x 1, .inl (cA 0, 4, .inl (u.1 0))), (x 2, .inl (cA 0, 4, .inl (u.1 1))), (x 3, .inl (cA 0, 4, .inl (u.1 2))), (x 4, .inl (cA 0, 4, .inl (u.1 3))), (x 5, .inl (cA 0, 4, .inl (u.1 4))), (x 6, .inl (cA 1, 4, .inl (u.1 5))), (x 7, .inl (cA 0, 4, .inl (u.1 6))), (x 8, .inl (cA 0, 4, .inl (u.1 7))), cE y yv, (wa, .inl (cA 0, 48, .inl u.2))] t) (va_A [(o, .inr (4, [.ref F, .ref G, .int (nI qv), .int nw, .int se, .ref (pa 0), .ref an, .ref ln])), cE x xv, (x 1, .inl (cA 0, 4, .inl (xd 0))), (x 2, .inl (cA 0, 4, .inl (xd 1))), (x 3, .inl (cA 0, 4, .inl (xd 2))), (x 4, .inl (cA 0, 4, .inl (xd 3))), (x 5, .inl (cA 0, 4, .inl (xd 4))), (x 6, .inl (cA 1, 4, .inl (xd 5))), (x 7, .inl (cA 0, 4, .inl (xd 6))), (x 8, .inl (cA 0, 4, .inl (xd 7))), cE y yv, (wa, .inl (cA 0, 48, .inl ww))] sz)) 1 6 (va_A [(o, .inr (4, [.ref F, .ref G, .int (nI qv), .int nw, .int se, .ref (pa 0), .ref an, .ref ln])), cE x xv, (x 1, .inl (cA 0, 4, .inl (xd 0))), (x 2, .inl (cA 0, 4, .inl (xd 1))), (x 3, .inl (cA 0, 4, .inl (xd 2))), (x 4, .inl (cA 0, 4, .inl (xd 3))), (x 5, .inl (cA 0, 4, .inl (xd 4))), (x 6, .inl (cA 1, 4, .inl (xd 5))), (x 7, .inl (cA 0, 4, .inl (xd 6))), (x 8, .inl (cA 0, 4, .inl (xd 7))), cE y yv, (wa, .inl (cA 0, 48, .inl ww))] sz) := by
  refine Met.ofW (cc := cL_wants) (maxL := 15) (ret := (some .boolean)) (by decide) rfl ?_
  intro p e s m args below meth c s₁ B hml hv
  obtain ⟨rfl, ⟨hsz, hP, hK, hD0, hE0⟩, hX0⟩ := hv
  have hx := B.exec
  have hb := B.bytes
  have hr := B.returns
  have hts := atoms_spec (ws := wsL_wants) B.pre
  have hown : s.vm.findClass RL = some m.cls := findClass_of_methodNamed B.named
  have hlocks := B.notSynchronized
  subst hsz
  have hD := hD0.self (sz := s.heap.size)
  generalize hAe : va_A [(o, .inr (4, [.ref F, .ref G, .int (nI qv), .int nw, .int se, .ref (pa 0), .ref an, .ref ln])), cE x xv, (x 1, .inl (cA 0, 4, .inl (xd 0))), (x 2, .inl (cA 0, 4, .inl (xd 1))), (x 3, .inl (cA 0, 4, .inl (xd 2))), (x 4, .inl (cA 0, 4, .inl (xd 3))), (x 5, .inl (cA 0, 4, .inl (xd 4))), (x 6, .inl (cA 1, 4, .inl (xd 5))), (x 7, .inl (cA 0, 4, .inl (xd 6))), (x 8, .inl (cA 0, 4, .inl (xd 7))), cE y yv, (wa, .inl (cA 0, 48, .inl ww))] s.heap.size = A at hD hE0 hX0 ⊢
  have hA : ∀ q : Nat, s.heap.size ≤ q → A q := fun q h => by rw [← hAe]; exact Or.inr h
  have hS : va_S A s.heap s.heap [] := va_S.rf
  have hl := lv_entry ([.ref o, .int 1, .int (nI vx), .int (nI vy), .ref wa]) (n := 15) (Nat.le_of_ble_eq_true rfl)
  rw [lg_entry_eq]
  generalize (lg_sl ([.ref o, .int 1, .int (nI vx), .int (nI vy), .ref wa]) ++ List.replicate (15 - (lg_sl ([.ref o, .int 1, .int (nI vx), .int (nI vy), .ref wa])).length) Slot.unset).toArray = ls at hl ⊢
  have hl : lv_has ls 15 [(0, .ref o), (1, .int 1), (2, .int (nI vx)), (3, .int (nI vy)), (4, .ref wa)] := hl
  obtain ⟨sx, kx, tx, sy, ky, ty, hI, hbx, hby⟩ := hPW
  obtain ⟨hx0, hx2, hx3, hx7, hx10, hx4⟩ := id hI.1.1
  obtain ⟨hy0, hy2, hy3, hy7, hy10, hy4⟩ := id hI.1.2
  have hQx := hI.2.2.2.1.1
  have hQy := hI.2.2.2.1.2
  have hq1 := hI.2.2.2.2.1
  refine lv_iload_n hx hb dL_wants_0 rfl (lv_at hl 2 rfl) ?_
  refine lv_iconst (v := 2) hx hb dL_wants_1 (by decide) ?_
  refine lv_irem hx hb dL_wants_2 (by decide) ?_
  refine z_top (y := (nI (vx % 2))) (z_rem (a := vx) (d := 2) (by omega) (by omega) (by omega)) ?_
  refine z_top (y := 1) (congrArg nI hvx) ?_
  refine lv_istore (lv' := [(5, .int 1), (0, .ref o), (1, .int 1), (2, .int (nI vx)), (3, .int (nI vy)), (4, .ref wa)]) hx hb dL_wants_3 hl (by decide) rfl (fun ls hl => ?_)
  refine lv_iload_n hx hb dL_wants_5 rfl (lv_at hl 3 rfl) ?_
  refine lv_iconst (v := 2) hx hb dL_wants_6 (by decide) ?_
  refine lv_idiv hx hb dL_wants_7 (by decide) ?_
  refine z_top (y := (nI (vx / 2))) (z_div (a := vx) (d := 2) (by omega) (by omega) (by omega)) ?_
  refine lv_iconst (v := 4) hx hb dL_wants_8 (by decide) ?_
  refine lv_irem hx hb dL_wants_9 (by decide) ?_
  refine z_top (y := (nI ((vx / 2) % 4))) (z_rem (a := (vx / 2)) (d := 4) (by omega) (by omega) (by omega)) ?_
  obtain ⟨op, eop, hop⟩ := z_modv (vx / 2) (d := 4) (by decide)
  refine z_top (y := (nI op)) (congrArg nI eop) ?_
  refine lv_istore (lv' := [(6, .int (nI op)), (5, .int 1), (0, .ref o), (1, .int 1), (2, .int (nI vx)), (3, .int (nI vy)), (4, .ref wa)]) hx hb dL_wants_10 hl (by decide) rfl (fun ls hl => ?_)
  refine lv_bipush (v := 6) hx hb dL_wants_12 (by decide) ?_
  refine lv_iconst (v := 4) hx hb dL_wants_14 (by decide) ?_
  refine lv_iload hx hb dL_wants_15 (lv_at hl 1 rfl) ?_
  refine lv_imul hx hb dL_wants_17 ?_
  refine z_top (y := 4) (by decide) ?_
  refine lv_iload hx hb dL_wants_18 (lv_at hl 0 rfl) ?_
  refine lv_iadd hx hb dL_wants_20 ?_
  refine z_top (y := (nI (4 + op))) (z_add 4 op) ?_
  refine lv_imul hx hb dL_wants_21 ?_
  refine z_top (y := (nI (6 * (4 + op)))) (z_mul 6 (4 + op)) ?_
  refine lv_istore (lv' := [(7, .int (nI (6 * (4 + op)))), (6, .int (nI op)), (5, .int 1), (0, .ref o), (1, .int 1), (2, .int (nI vx)), (3, .int (nI vy)), (4, .ref wa)]) hx hb dL_wants_22 hl (by decide) rfl (fun ls hl => ?_)
  refine lv_aload_n hx hb dL_wants_24 rfl (lv_at hl 3 rfl) ?_
  refine lv_iload hx hb dL_wants_25 (lv_at hl 2 rfl) ?_
  have hPc := hP.sub (ws' := [(o, .inr (4, [.ref F, .ref G, .int (nI qv), .int nw, .int se, .ref (pa 0), .ref an, .ref ln])), cE x xv]) [0, 1] rfl
  have hDc := hD.sub (ws' := [(o, .inr (4, [.ref F, .ref G, .int (nI qv), .int nw, .int se, .ref (pa 0), .ref an, .ref ln])), cE x xv]) [0, 1] (by decide) rfl
  have hFc := va_free (wc := [(o, .inr (4, [.ref F, .ref G, .int (nI qv), .int nw, .int se, .ref (pa 0), .ref an, .ref ln])), cE x xv]) hD hS hA [0, 1] rfl
  refine va_calli (va_runV (As := [.int 1]) (rest := []) ⟨hx, hb, hml, hown, hts⟩ (c_X3_state_k l D cA s.heap.size o F G (nI qv) nw se pa an ln x (y 0) 1 xv (by first | exact he | exact en_flip he | exact en_01 he | exact en_10 he)) (cwV 1 hts gL_wants_X3_state rfl rfl rfl (by decide +kernel) ⟨Nat.le_of_ble_eq_true rfl, Nat.le_of_ble_eq_true rfl⟩) ⟨zU_blind, va_recv hK hPc (ci := 4) (q0 := 0) rfl rfl, fun U hU hW => ⟨rfl, zU_call hU hPc hW.alike hK hDc⟩⟩ rfl rfl hl.1 rfl (lv_room (Nat.le_of_ble_eq_true rfl)) dL_wants_27 ⟨(Nat.zero_le _), (Nat.zero_le _)⟩) hS (fun q _ h => hFc q h) hFc (fun zr u t H1 locs ht hvm hw hB hz1 hk1 hS => ?_)
  obtain ⟨hP1, hD1⟩ := hB
  rw [ht] at hP1
  obtain ⟨hP, hD⟩ := va_join (wr := [(x 1, .inl (cA 0, 4, .inl (xd 0))), (x 2, .inl (cA 0, 4, .inl (xd 1))), (x 3, .inl (cA 0, 4, .inl (xd 2))), (x 4, .inl (cA 0, 4, .inl (xd 3))), (x 5, .inl (cA 0, 4, .inl (xd 4))), (x 6, .inl (cA 1, 4, .inl (xd 5))), (x 7, .inl (cA 0, 4, .inl (xd 6))), (x 8, .inl (cA 0, 4, .inl (xd 7))), cE y yv, (wa, .inl (cA 0, 48, .inl ww))]) (w1 := [(o, .inr (4, [.ref F, .ref G, .int (nI qv), .int nw, .int se, .ref (pa 0), .ref an, .ref ln])), cE x xv]) hP hD [0, 1] [2, 3, 4, 5, 6, 7, 8, 9, 10, 11] rfl rfl (by decide) (by decide) hk1 hFc hP1 hD1
  generalize H1 = H at hP hS ⊢
  have hP := hP.sub (ws' := [(o, .inr (4, [.ref F, .ref G, .int (nI qv), .int nw, .int se, .ref (pa 0), .ref an, .ref ln])), cE x xv, (x 1, .inl (cA 0, 4, .inl (xd 0))), (x 2, .inl (cA 0, 4, .inl (xd 1))), (x 3, .inl (cA 0, 4, .inl (xd 2))), (x 4, .inl (cA 0, 4, .inl (xd 3))), (x 5, .inl (cA 0, 4, .inl (xd 4))), (x 6, .inl (cA 1, 4, .inl (xd 5))), (x 7, .inl (cA 0, 4, .inl (xd 6))), (x 8, .inl (cA 0, 4, .inl (xd 7))), cE y yv, (wa, .inl (cA 0, 48, .inl ww))]) [10, 11, 0, 1, 2, 3, 4, 5, 6, 7, 8, 9] rfl
  have hD := hD.sub (ws' := [(o, .inr (4, [.ref F, .ref G, .int (nI qv), .int nw, .int se, .ref (pa 0), .ref an, .ref ln])), cE x xv, (x 1, .inl (cA 0, 4, .inl (xd 0))), (x 2, .inl (cA 0, 4, .inl (xd 1))), (x 3, .inl (cA 0, 4, .inl (xd 2))), (x 4, .inl (cA 0, 4, .inl (xd 3))), (x 5, .inl (cA 0, 4, .inl (xd 4))), (x 6, .inl (cA 1, 4, .inl (xd 5))), (x 7, .inl (cA 0, 4, .inl (xd 6))), (x 8, .inl (cA 0, 4, .inl (xd 7))), cE y yv, (wa, .inl (cA 0, 48, .inl ww))]) [10, 11, 0, 1, 2, 3, 4, 5, 6, 7, 8, 9] (by decide) rfl
  clear hPc hDc hFc hP1 hD1 hk1 hz1
  have hw_1 := hw
  obtain rfl := hw
  refine z_top (y := (nI sx)) hx0 ?_
  have hPc := hP.sub (ws' := []) [] rfl
  have hDc := hD.sub (ws' := []) [] (by decide) rfl
  have hFc := va_free (wc := []) hD hS hA [] rfl
  refine va_calli (va_runS (As := [.int (nI sx)]) (rest := []) ⟨hx, hb, hml, hown, hts⟩ (c_L_isShut l D cA H.size sx (by omega)) (va_cwS 1 hts gL_wants_L_isShut rfl rfl rfl (by decide +kernel) ⟨Nat.le_of_ble_eq_true rfl, Nat.le_of_ble_eq_true rfl⟩) ⟨zU_blind, fun U hU hW => ⟨rfl, zU_call hU hPc hW.alike hK hDc⟩⟩ rfl rfl hl.1 rfl (lv_room (Nat.le_of_ble_eq_true rfl)) dL_wants_30 ⟨(Nat.zero_le _), (Nat.zero_le _)⟩) hS (fun q _ h => hFc q h) hFc (fun zr u t H1 locs ht hvm hw hB hz1 hk1 hS => ?_)
  obtain ⟨hP1, hD1⟩ := hB
  rw [ht] at hP1
  obtain ⟨hP, hD⟩ := va_join (wr := [(o, .inr (4, [.ref F, .ref G, .int (nI qv), .int nw, .int se, .ref (pa 0), .ref an, .ref ln])), cE x xv, (x 1, .inl (cA 0, 4, .inl (xd 0))), (x 2, .inl (cA 0, 4, .inl (xd 1))), (x 3, .inl (cA 0, 4, .inl (xd 2))), (x 4, .inl (cA 0, 4, .inl (xd 3))), (x 5, .inl (cA 0, 4, .inl (xd 4))), (x 6, .inl (cA 1, 4, .inl (xd 5))), (x 7, .inl (cA 0, 4, .inl (xd 6))), (x 8, .inl (cA 0, 4, .inl (xd 7))), cE y yv, (wa, .inl (cA 0, 48, .inl ww))]) (w1 := []) hP hD [] [0, 1, 2, 3, 4, 5, 6, 7, 8, 9, 10, 11] rfl rfl (by decide) (by decide) hk1 hFc hP1 hD1
  generalize H1 = H at hP hS ⊢
  have hP := hP.sub (ws' := [(o, .inr (4, [.ref F, .ref G, .int (nI qv), .int nw, .int se, .ref (pa 0), .ref an, .ref ln])), cE x xv, (x 1, .inl (cA 0, 4, .inl (xd 0))), (x 2, .inl (cA 0, 4, .inl (xd 1))), (x 3, .inl (cA 0, 4, .inl (xd 2))), (x 4, .inl (cA 0, 4, .inl (xd 3))), (x 5, .inl (cA 0, 4, .inl (xd 4))), (x 6, .inl (cA 1, 4, .inl (xd 5))), (x 7, .inl (cA 0, 4, .inl (xd 6))), (x 8, .inl (cA 0, 4, .inl (xd 7))), cE y yv, (wa, .inl (cA 0, 48, .inl ww))]) [0, 1, 2, 3, 4, 5, 6, 7, 8, 9, 10, 11] rfl
  have hD := hD.sub (ws' := [(o, .inr (4, [.ref F, .ref G, .int (nI qv), .int nw, .int se, .ref (pa 0), .ref an, .ref ln])), cE x xv, (x 1, .inl (cA 0, 4, .inl (xd 0))), (x 2, .inl (cA 0, 4, .inl (xd 1))), (x 3, .inl (cA 0, 4, .inl (xd 2))), (x 4, .inl (cA 0, 4, .inl (xd 3))), (x 5, .inl (cA 0, 4, .inl (xd 4))), (x 6, .inl (cA 1, 4, .inl (xd 5))), (x 7, .inl (cA 0, 4, .inl (xd 6))), (x 8, .inl (cA 0, 4, .inl (xd 7))), cE y yv, (wa, .inl (cA 0, 48, .inl ww))]) [0, 1, 2, 3, 4, 5, 6, 7, 8, 9, 10, 11] (by decide) rfl
  clear hPc hDc hFc hP1 hD1 hk1 hz1
  have hw_2 := hw
  rcases z_bool hw with ⟨h_2, rfl⟩ | ⟨h_2, rfl⟩
  · skip
    refine lv_istore (lv' := [(8, .int 1), (7, .int (nI (6 * (4 + op)))), (6, .int (nI op)), (5, .int 1), (0, .ref o), (1, .int 1), (2, .int (nI vx)), (3, .int (nI vy)), (4, .ref wa)]) hx hb dL_wants_33 hl (by decide) rfl (fun ls hl => ?_)
    refine z_cut (Inv := fun H locs ls st => ∃ (lt : Nat), st = [.int (nI lt)] ∧ va_P D vwCl [(o, .inr (4, [.ref F, .ref G, .int (nI qv), .int nw, .int se, .ref (pa 0), .ref an, .ref ln])), cE x xv, (x 1, .inl (cA 0, 4, .inl (xd 0))), (x 2, .inl (cA 0, 4, .inl (xd 1))), (x 3, .inl (cA 0, 4, .inl (xd 2))), (x 4, .inl (cA 0, 4, .inl (xd 3))), (x 5, .inl (cA 0, 4, .inl (xd 4))), (x 6, .inl (cA 1, 4, .inl (xd 5))), (x 7, .inl (cA 0, 4, .inl (xd 6))), (x 8, .inl (cA 0, 4, .inl (xd 7))), cE y yv, (wa, .inl (cA 0, 48, .inl ww))] H ∧ va_D A [(o, .inr (4, [.ref F, .ref G, .int (nI qv), .int nw, .int se, .ref (pa 0), .ref an, .ref ln])), cE x xv, (x 1, .inl (cA 0, 4, .inl (xd 0))), (x 2, .inl (cA 0, 4, .inl (xd 1))), (x 3, .inl (cA 0, 4, .inl (xd 2))), (x 4, .inl (cA 0, 4, .inl (xd 3))), (x 5, .inl (cA 0, 4, .inl (xd 4))), (x 6, .inl (cA 1, 4, .inl (xd 5))), (x 7, .inl (cA 0, 4, .inl (xd 6))), (x 8, .inl (cA 0, 4, .inl (xd 7))), cE y yv, (wa, .inl (cA 0, 48, .inl ww))] ∧ va_S A s.heap H locs ∧ lv_has ls 15 [(8, .int 1), (7, .int (nI (6 * (4 + op)))), (6, .int (nI op)), (5, .int 1), (0, .ref o), (1, .int 1), (2, .int (nI vx)), (3, .int (nI vy)), (4, .ref wa)] ∧ lt ≤ 100) 51 (fun H locs ls st hQ9 => ?_) (fun kJ => ?_)
    · obtain ⟨lt, rfl, hP, hD, hS, hl, hlt⟩ := hQ9
      refine lv_istore (lv' := [(9, .int (nI lt)), (8, .int 1), (7, .int (nI (6 * (4 + op)))), (6, .int (nI op)), (5, .int 1), (0, .ref o), (1, .int 1), (2, .int (nI vx)), (3, .int (nI vy)), (4, .ref wa)]) hx hb dL_wants_51 hl (by decide) rfl (fun ls hl => ?_)
      refine lv_iload hx hb dL_wants_53 (lv_at hl 0 rfl) ?_
      refine lv_iload_n hx hb dL_wants_55 rfl (lv_at hl 8 rfl) ?_
      refine lv_sipush (v := 303) hx hb dL_wants_56 (by decide) ?_
      refine lv_idiv hx hb dL_wants_59 (by decide) ?_
      refine z_top (y := (nI (vy / 303))) (z_div (a := vy) (d := 303) (by omega) (by omega) (by omega)) ?_
      refine lv_bipush (v := 101) hx hb dL_wants_60 (by decide) ?_
      refine lv_iload hx hb dL_wants_62 (lv_at hl 0 rfl) ?_
      refine lv_isub hx hb dL_wants_64 ?_
      refine z_top (y := (nI (101 - lt))) (z_sub (a := 101) (b := lt) (by omega)) ?_
      refine lv_irem hx hb dL_wants_65 (nI_n0 (by omega) (by omega)) ?_
      refine z_top (y := (nI ((vy / 303) % (101 - lt)))) (z_rem (a := (vy / 303)) (d := (101 - lt)) (by omega) (by omega) (by omega)) ?_
      obtain ⟨mz, emz, hmz⟩ := z_modv (vy / 303) (d := 101 - lt) (by omega)
      refine z_top (y := (nI mz)) (congrArg nI emz) ?_
      refine lv_iadd hx hb dL_wants_66 ?_
      refine z_top (y := (nI (lt + mz))) (z_add lt mz) ?_
      refine lv_istore (lv' := [(10, .int (nI (lt + mz))), (9, .int (nI lt)), (8, .int 1), (7, .int (nI (6 * (4 + op)))), (6, .int (nI op)), (5, .int 1), (0, .ref o), (1, .int 1), (2, .int (nI vx)), (3, .int (nI vy)), (4, .ref wa)]) hx hb dL_wants_67 hl (by decide) rfl (fun ls hl => ?_)
      refine z_cut (Inv := fun H locs ls st => ∃ (wi : Int32), st = [.int wi] ∧ va_P D vwCl [(o, .inr (4, [.ref F, .ref G, .int (nI qv), .int nw, .int se, .ref (pa 0), .ref an, .ref ln])), cE x xv, (x 1, .inl (cA 0, 4, .inl (xd 0))), (x 2, .inl (cA 0, 4, .inl (xd 1))), (x 3, .inl (cA 0, 4, .inl (xd 2))), (x 4, .inl (cA 0, 4, .inl (xd 3))), (x 5, .inl (cA 0, 4, .inl (xd 4))), (x 6, .inl (cA 1, 4, .inl (xd 5))), (x 7, .inl (cA 0, 4, .inl (xd 6))), (x 8, .inl (cA 0, 4, .inl (xd 7))), cE y yv, (wa, .inl (cA 0, 48, .inl ww))] H ∧ va_D A [(o, .inr (4, [.ref F, .ref G, .int (nI qv), .int nw, .int se, .ref (pa 0), .ref an, .ref ln])), cE x xv, (x 1, .inl (cA 0, 4, .inl (xd 0))), (x 2, .inl (cA 0, 4, .inl (xd 1))), (x 3, .inl (cA 0, 4, .inl (xd 2))), (x 4, .inl (cA 0, 4, .inl (xd 3))), (x 5, .inl (cA 0, 4, .inl (xd 4))), (x 6, .inl (cA 1, 4, .inl (xd 5))), (x 7, .inl (cA 0, 4, .inl (xd 6))), (x 8, .inl (cA 0, 4, .inl (xd 7))), cE y yv, (wa, .inl (cA 0, 48, .inl ww))] ∧ va_S A s.heap H locs ∧ lv_has ls 15 [(10, .int (nI (lt + mz))), (9, .int (nI lt)), (8, .int 1), (7, .int (nI (6 * (4 + op)))), (6, .int (nI op)), (5, .int 1), (0, .ref o), (1, .int 1), (2, .int (nI vx)), (3, .int (nI vy)), (4, .ref wa)] ∧ (wi = -1 ∨ inr wi (nI lt) (nI (lt + mz))) ∧ okv wi) 97 (fun H locs ls st hQ9 => ?_) (fun kJ => ?_)
      · obtain ⟨wi, rfl, hP, hD, hS, hl, hwi, hwo⟩ := hQ9
        refine lv_istore (lv' := [(11, .int wi), (10, .int (nI (lt + mz))), (9, .int (nI lt)), (8, .int 1), (7, .int (nI (6 * (4 + op)))), (6, .int (nI op)), (5, .int 1), (0, .ref o), (1, .int 1), (2, .int (nI vx)), (3, .int (nI vy)), (4, .ref wa)]) hx hb dL_wants_97 hl (by decide) rfl (fun ls hl => ?_)
        refine lv_aload_n hx hb dL_wants_99 rfl (lv_at hl 7 rfl) ?_
        refine lv_iconst (v := 0) hx hb dL_wants_100 (by decide) ?_
        have hPc := hP.sub (ws' := [(o, .inr (4, [.ref F, .ref G, .int (nI qv), .int nw, .int se, .ref (pa 0), .ref an, .ref ln])), cE y yv]) [0, 10] rfl
        have hDc := hD.sub (ws' := [(o, .inr (4, [.ref F, .ref G, .int (nI qv), .int nw, .int se, .ref (pa 0), .ref an, .ref ln])), cE y yv]) [0, 10] (by decide) rfl
        have hFc := va_free (wc := [(o, .inr (4, [.ref F, .ref G, .int (nI qv), .int nw, .int se, .ref (pa 0), .ref an, .ref ln])), cE y yv]) hD hS hA [0, 10] rfl
        refine va_calli (va_runV (As := [.int 0]) (rest := []) ⟨hx, hb, hml, hown, hts⟩ (c_X3_state_k l D cA H.size o F G (nI qv) nw se pa an ln y (x 0) 0 yv (by first | exact he | exact en_flip he | exact en_01 he | exact en_10 he)) (cwV 1 hts gL_wants_X3_state rfl rfl rfl (by decide +kernel) ⟨Nat.le_of_ble_eq_true rfl, Nat.le_of_ble_eq_true rfl⟩) ⟨zU_blind, va_recv hK hPc (ci := 4) (q0 := 0) rfl rfl, fun U hU hW => ⟨rfl, zU_call hU hPc hW.alike hK hDc⟩⟩ rfl rfl hl.1 rfl (lv_room (Nat.le_of_ble_eq_true rfl)) dL_wants_101 ⟨(Nat.zero_le _), (Nat.zero_le _)⟩) hS (fun q _ h => hFc q h) hFc (fun zr u t H1 locs ht hvm hw hB hz1 hk1 hS => ?_)
        obtain ⟨hP1, hD1⟩ := hB
        rw [ht] at hP1
        obtain ⟨hP, hD⟩ := va_join (wr := [cE x xv, (x 1, .inl (cA 0, 4, .inl (xd 0))), (x 2, .inl (cA 0, 4, .inl (xd 1))), (x 3, .inl (cA 0, 4, .inl (xd 2))), (x 4, .inl (cA 0, 4, .inl (xd 3))), (x 5, .inl (cA 0, 4, .inl (xd 4))), (x 6, .inl (cA 1, 4, .inl (xd 5))), (x 7, .inl (cA 0, 4, .inl (xd 6))), (x 8, .inl (cA 0, 4, .inl (xd 7))), (wa, .inl (cA 0, 48, .inl ww))]) (w1 := [(o, .inr (4, [.ref F, .ref G, .int (nI qv), .int nw, .int se, .ref (pa 0), .ref an, .ref ln])), cE y yv]) hP hD [0, 10] [1, 2, 3, 4, 5, 6, 7, 8, 9, 11] rfl rfl (by decide) (by decide) hk1 hFc hP1 hD1
        generalize H1 = H at hP hS ⊢
        have hP := hP.sub (ws' := [(o, .inr (4, [.ref F, .ref G, .int (nI qv), .int nw, .int se, .ref (pa 0), .ref an, .ref ln])), cE x xv, (x 1, .inl (cA 0, 4, .inl (xd 0))), (x 2, .inl (cA 0, 4, .inl (xd 1))), (x 3, .inl (cA 0, 4, .inl (xd 2))), (x 4, .inl (cA 0, 4, .inl (xd 3))), (x 5, .inl (cA 0, 4, .inl (xd 4))), (x 6, .inl (cA 1, 4, .inl (xd 5))), (x 7, .inl (cA 0, 4, .inl (xd 6))), (x 8, .inl (cA 0, 4, .inl (xd 7))), cE y yv, (wa, .inl (cA 0, 48, .inl ww))]) [10, 0, 1, 2, 3, 4, 5, 6, 7, 8, 11, 9] rfl
        have hD := hD.sub (ws' := [(o, .inr (4, [.ref F, .ref G, .int (nI qv), .int nw, .int se, .ref (pa 0), .ref an, .ref ln])), cE x xv, (x 1, .inl (cA 0, 4, .inl (xd 0))), (x 2, .inl (cA 0, 4, .inl (xd 1))), (x 3, .inl (cA 0, 4, .inl (xd 2))), (x 4, .inl (cA 0, 4, .inl (xd 3))), (x 5, .inl (cA 0, 4, .inl (xd 4))), (x 6, .inl (cA 1, 4, .inl (xd 5))), (x 7, .inl (cA 0, 4, .inl (xd 6))), (x 8, .inl (cA 0, 4, .inl (xd 7))), cE y yv, (wa, .inl (cA 0, 48, .inl ww))]) [10, 0, 1, 2, 3, 4, 5, 6, 7, 8, 11, 9] (by decide) rfl
        clear hPc hDc hFc hP1 hD1 hk1 hz1
        have hw_3 := hw
        obtain rfl := hw
        refine z_top (y := (nI sy)) hy0 ?_
        refine lv_bipush (v := 8) hx hb dL_wants_104 (by decide) ?_
        refine lv_aload_n hx hb dL_wants_106 rfl (lv_at hl 7 rfl) ?_
        refine lv_iconst (v := 1) hx hb dL_wants_107 (by decide) ?_
        have hPc := hP.sub (ws' := [(o, .inr (4, [.ref F, .ref G, .int (nI qv), .int nw, .int se, .ref (pa 0), .ref an, .ref ln])), cE x xv]) [0, 1] rfl
        have hDc := hD.sub (ws' := [(o, .inr (4, [.ref F, .ref G, .int (nI qv), .int nw, .int se, .ref (pa 0), .ref an, .ref ln])), cE x xv]) [0, 1] (by decide) rfl
        have hFc := va_free (wc := [(o, .inr (4, [.ref F, .ref G, .int (nI qv), .int nw, .int se, .ref (pa 0), .ref an, .ref ln])), cE x xv]) hD hS hA [0, 1] rfl
        refine va_calli (va_runV (As := [.int 1]) (rest := [.int 8, .int (nI sy)]) ⟨hx, hb, hml, hown, hts⟩ (c_X3_state_k l D cA H.size o F G (nI qv) nw se pa an ln x (y 0) 1 xv (by first | exact he | exact en_flip he | exact en_01 he | exact en_10 he)) (cwV 1 hts gL_wants_X3_state rfl rfl rfl (by decide +kernel) ⟨Nat.le_of_ble_eq_true rfl, Nat.le_of_ble_eq_true rfl⟩) ⟨zU_blind, va_recv hK hPc (ci := 4) (q0 := 0) rfl rfl, fun U hU hW => ⟨rfl, zU_call hU hPc hW.alike hK hDc⟩⟩ rfl rfl hl.1 rfl (lv_room (Nat.le_of_ble_eq_true rfl)) dL_wants_108 ⟨(Nat.zero_le _), (Nat.zero_le _)⟩) hS (fun q _ h => hFc q h) hFc (fun zr u t H1 locs ht hvm hw hB hz1 hk1 hS => ?_)
        obtain ⟨hP1, hD1⟩ := hB
        rw [ht] at hP1
        obtain ⟨hP, hD⟩ := va_join (wr := [(x 1, .inl (cA 0, 4, .inl (xd 0))), (x 2, .inl (cA 0, 4, .inl (xd 1))), (x 3, .inl (cA 0, 4, .inl (xd 2))), (x 4, .inl (cA 0, 4, .inl (xd 3))), (x 5, .inl (cA 0, 4, .inl (xd 4))), (x 6, .inl (cA 1, 4, .inl (xd 5))), (x 7, .inl (cA 0, 4, .inl (xd 6))), (x 8, .inl (cA 0, 4, .inl (xd 7))), cE y yv, (wa, .inl (cA 0, 48, .inl ww))]) (w1 := [(o, .inr (4, [.ref F, .ref G, .int (nI qv), .int nw, .int se, .ref (pa 0), .ref an, .ref ln])), cE x xv]) hP hD [0, 1] [2, 3, 4, 5, 6, 7, 8, 9, 10, 11] rfl rfl (by decide) (by decide) hk1 hFc hP1 hD1
        generalize H1 = H at hP hS ⊢
        have hP := hP.sub (ws' := [(o, .inr (4, [.ref F, .ref G, .int (nI qv), .int nw, .int se, .ref (pa 0), .ref an, .ref ln])), cE x xv, (x 1, .inl (cA 0, 4, .inl (xd 0))), (x 2, .inl (cA 0, 4, .inl (xd 1))), (x 3, .inl (cA 0, 4, .inl (xd 2))), (x 4, .inl (cA 0, 4, .inl (xd 3))), (x 5, .inl (cA 0, 4, .inl (xd 4))), (x 6, .inl (cA 1, 4, .inl (xd 5))), (x 7, .inl (cA 0, 4, .inl (xd 6))), (x 8, .inl (cA 0, 4, .inl (xd 7))), cE y yv, (wa, .inl (cA 0, 48, .inl ww))]) [10, 11, 0, 1, 2, 3, 4, 5, 6, 7, 8, 9] rfl
        have hD := hD.sub (ws' := [(o, .inr (4, [.ref F, .ref G, .int (nI qv), .int nw, .int se, .ref (pa 0), .ref an, .ref ln])), cE x xv, (x 1, .inl (cA 0, 4, .inl (xd 0))), (x 2, .inl (cA 0, 4, .inl (xd 1))), (x 3, .inl (cA 0, 4, .inl (xd 2))), (x 4, .inl (cA 0, 4, .inl (xd 3))), (x 5, .inl (cA 0, 4, .inl (xd 4))), (x 6, .inl (cA 1, 4, .inl (xd 5))), (x 7, .inl (cA 0, 4, .inl (xd 6))), (x 8, .inl (cA 0, 4, .inl (xd 7))), cE y yv, (wa, .inl (cA 0, 48, .inl ww))]) [10, 11, 0, 1, 2, 3, 4, 5, 6, 7, 8, 9] (by decide) rfl
        clear hPc hDc hFc hP1 hD1 hk1 hz1
        have hw_4 := hw
        obtain rfl := hw
        refine z_top (y := (nI sx)) hx0 ?_
        refine lv_imul hx hb dL_wants_111 ?_
        refine z_top (y := (nI (8 * sx))) (z_mul 8 sx) ?_
        refine lv_iadd hx hb dL_wants_112 ?_
        refine z_top (y := (nI (sy + 8 * sx))) (z_add sy (8 * sx)) ?_
        refine lv_istore (lv' := [(12, .int (nI (sy + 8 * sx))), (11, .int wi), (10, .int (nI (lt + mz))), (9, .int (nI lt)), (8, .int 1), (7, .int (nI (6 * (4 + op)))), (6, .int (nI op)), (5, .int 1), (0, .ref o), (1, .int 1), (2, .int (nI vx)), (3, .int (nI vy)), (4, .ref wa)]) hx hb dL_wants_113 hl (by decide) rfl (fun ls hl => ?_)
        refine lv_iload_n hx hb dL_wants_115 rfl (lv_at hl 9 rfl) ?_
        refine lv_if_ne (tgt := 129) hx hb dL_wants_116 (by decide) (fun _ => ?_) (fun c_5 => absurd c_5 (by decide))
        refine lv_aload hx hb dL_wants_129 (lv_at hl 12 rfl) ?_
        refine lv_iload hx hb dL_wants_131 (lv_at hl 5 rfl) ?_
        refine lv_iconst (v := 5) hx hb dL_wants_133 (by decide) ?_
        refine lv_iadd hx hb dL_wants_134 ?_
        refine z_top (y := (nI (6 * (4 + op) + 5))) (z_add (6 * (4 + op)) 5) ?_
        refine z_iald (k := (6 * (4 + op) + 5)) (v := ((xd 5) op)) hx hb hK hP 11 0 rfl rfl rfl (by omega) (by decide) (wr_at (hWr op hop).2.2.2 (by omega)) dL_wants_135 ?_
        refine lv_istore (lv' := [(13, .int ((xd 5) op)), (12, .int (nI (sy + 8 * sx))), (11, .int wi), (10, .int (nI (lt + mz))), (9, .int (nI lt)), (8, .int 1), (7, .int (nI (6 * (4 + op)))), (6, .int (nI op)), (5, .int 1), (0, .ref o), (1, .int 1), (2, .int (nI vx)), (3, .int (nI vy)), (4, .ref wa)]) hx hb dL_wants_136 hl (by decide) rfl (fun ls hl => ?_)
        refine lv_aload_n hx hb dL_wants_138 rfl (lv_at hl 9 rfl) ?_
        refine lv_iload_n hx hb dL_wants_139 rfl (lv_at hl 10 rfl) ?_
        refine lv_iload hx hb dL_wants_140 (lv_at hl 8 rfl) ?_
        refine lv_iload hx hb dL_wants_142 (lv_at hl 7 rfl) ?_
        refine lv_iload_n hx hb dL_wants_144 rfl (lv_at hl 10 rfl) ?_
        refine lv_iconst (v := 2) hx hb dL_wants_145 (by decide) ?_
        refine lv_icmp_ne (tgt := 158) hx hb dL_wants_146 (by decide) (fun _ => ?_) (fun c_6 => absurd c_6 (by decide))
        refine lv_iload hx hb dL_wants_158 (lv_at hl 2 rfl) ?_
        refine lv_iload hx hb dL_wants_160 (lv_at hl 4 rfl) ?_
        refine lv_iload hx hb dL_wants_162 (lv_at hl 3 rfl) ?_
        have hPc := hP.sub (ws' := [(o, .inr (4, [.ref F, .ref G, .int (nI qv), .int nw, .int se, .ref (pa 0), .ref an, .ref ln])), cE x xv, (x 4, .inl (cA 0, 4, .inl (xd 3))), (x 5, .inl (cA 0, 4, .inl (xd 4)))]) [0, 1, 5, 6] rfl
        have hDc := hD.sub (ws' := [(o, .inr (4, [.ref F, .ref G, .int (nI qv), .int nw, .int se, .ref (pa 0), .ref an, .ref ln])), cE x xv, (x 4, .inl (cA 0, 4, .inl (xd 3))), (x 5, .inl (cA 0, 4, .inl (xd 4)))]) [0, 1, 5, 6] (by decide) rfl
        have hFc := va_free (wc := [(o, .inr (4, [.ref F, .ref G, .int (nI qv), .int nw, .int se, .ref (pa 0), .ref an, .ref ln])), cE x xv, (x 4, .inl (cA 0, 4, .inl (xd 3))), (x 5, .inl (cA 0, 4, .inl (xd 4)))]) hD hS hA [0, 1, 5, 6] rfl
        refine va_calli (vx_runSW (As := [.ref o, .int 1, .int 1, .int (nI op), .int wi, .int (nI lt), .int (nI (lt + mz))]) (rest := []) ⟨hx, hb, hml, hown, hts⟩ (c_asks_allow_k l D cA H.size o F G (nI qv) nw se pa an ln x (y 0) 1 xv op (nI lt) (nI (lt + mz)) (xd 3) (xd 4) wi (by first | exact he | exact en_flip he | exact en_01 he | exact en_10 he) hop ⟨inr_nI (a := lt) (b := 0) (c := 100) (by omega) (by omega) (by decide), inr_nI (a := lt + mz) (b := lt) (c := 100) (by omega) (by omega) (by decide)⟩ ((s_shut hI).mpr (by omega))) (vx_cwSW 7 hts gL_wants_L_asks rfl rfl rfl (by decide +kernel) ⟨Nat.le_of_ble_eq_true rfl, Nat.le_of_ble_eq_true rfl⟩) ⟨zU_blind, fun U hU hW => ⟨rfl, zU_call hU hPc hW.alike hK hDc⟩⟩ rfl rfl hl.1 rfl (lv_room (Nat.le_of_ble_eq_true rfl)) dL_wants_164 ⟨(Nat.zero_le _), (Nat.zero_le _)⟩) hS (fun q _ h => hFc q h) hFc (fun zr u t H1 locs ht hvm hw hB hz1 hk1 hS => ?_)
        obtain ⟨hP1, hD1⟩ := hB
        rw [ht] at hP1
        obtain ⟨hP, hD⟩ := va_join (wr := [(x 1, .inl (cA 0, 4, .inl (xd 0))), (x 2, .inl (cA 0, 4, .inl (xd 1))), (x 3, .inl (cA 0, 4, .inl (xd 2))), (x 6, .inl (cA 1, 4, .inl (xd 5))), (x 7, .inl (cA 0, 4, .inl (xd 6))), (x 8, .inl (cA 0, 4, .inl (xd 7))), cE y yv, (wa, .inl (cA 0, 48, .inl ww))]) (w1 := [(o, .inr (4, [.ref F, .ref G, .int (nI qv), .int nw, .int se, .ref (pa 0), .ref an, .ref ln])), cE x xv, (x 4, .inl (cA 0, 4, .inl (upd (xd 3) op (nI lt)))), (x 5, .inl (cA 0, 4, .inl (upd (xd 4) op (nI (lt + mz)))))]) hP hD [0, 1, 5, 6] [2, 3, 4, 7, 8, 9, 10, 11] rfl rfl (by decide) (by decide) hk1 hFc hP1 hD1
        generalize H1 = H at hP hS ⊢
        have hP := hP.sub (ws' := [(o, .inr (4, [.ref F, .ref G, .int (nI qv), .int nw, .int se, .ref (pa 0), .ref an, .ref ln])), cE x xv, (x 1, .inl (cA 0, 4, .inl (xd 0))), (x 2, .inl (cA 0, 4, .inl (xd 1))), (x 3, .inl (cA 0, 4, .inl (xd 2))), (x 4, .inl (cA 0, 4, .inl (upd (xd 3) op (nI lt)))), (x 5, .inl (cA 0, 4, .inl (upd (xd 4) op (nI (lt + mz))))), (x 6, .inl (cA 1, 4, .inl (xd 5))), (x 7, .inl (cA 0, 4, .inl (xd 6))), (x 8, .inl (cA 0, 4, .inl (xd 7))), cE y yv, (wa, .inl (cA 0, 48, .inl ww))]) [8, 9, 0, 1, 2, 10, 11, 3, 4, 5, 6, 7] rfl
        have hD := hD.sub (ws' := [(o, .inr (4, [.ref F, .ref G, .int (nI qv), .int nw, .int se, .ref (pa 0), .ref an, .ref ln])), cE x xv, (x 1, .inl (cA 0, 4, .inl (xd 0))), (x 2, .inl (cA 0, 4, .inl (xd 1))), (x 3, .inl (cA 0, 4, .inl (xd 2))), (x 4, .inl (cA 0, 4, .inl (upd (xd 3) op (nI lt)))), (x 5, .inl (cA 0, 4, .inl (upd (xd 4) op (nI (lt + mz))))), (x 6, .inl (cA 1, 4, .inl (xd 5))), (x 7, .inl (cA 0, 4, .inl (xd 6))), (x 8, .inl (cA 0, 4, .inl (xd 7))), cE y yv, (wa, .inl (cA 0, 48, .inl ww))]) [8, 9, 0, 1, 2, 10, 11, 3, 4, 5, 6, 7] (by decide) rfl
        clear hPc hDc hFc hP1 hD1 hk1 hz1
        have hw_7 := hw
        obtain rfl := hw
        refine lv_istore (lv' := [(14, .int 0), (13, .int ((xd 5) op)), (12, .int (nI (sy + 8 * sx))), (11, .int wi), (10, .int (nI (lt + mz))), (9, .int (nI lt)), (8, .int 1), (7, .int (nI (6 * (4 + op)))), (6, .int (nI op)), (5, .int 1), (0, .ref o), (1, .int 1), (2, .int (nI vx)), (3, .int (nI vy)), (4, .ref wa)]) hx hb dL_wants_167 hl (by decide) rfl (fun ls hl => ?_)
        refine lv_iload hx hb dL_wants_169 (lv_at hl 6 rfl) ?_
        refine lv_if_eq (tgt := 208) hx hb dL_wants_171 (by decide) (fun c_8 => absurd c_8 (by decide)) (fun _ => ?_)
        refine lv_iload_n hx hb dL_wants_174 rfl (lv_at hl 11 rfl) ?_
        refine lv_if_ne (tgt := 208) hx hb dL_wants_175 (by decide) (fun _ => ?_) (fun c_9 => absurd c_9 (by decide))
        refine lv_iload hx hb dL_wants_208 (lv_at hl 6 rfl) ?_
        refine lv_if_eq (tgt := 239) hx hb dL_wants_210 (by decide) (fun c_10 => absurd c_10 (by decide)) (fun _ => ?_)
        refine lv_iload_n hx hb dL_wants_213 rfl (lv_at hl 11 rfl) ?_
        refine lv_iconst (v := 1) hx hb dL_wants_214 (by decide) ?_
        refine lv_icmp_ne (tgt := 239) hx hb dL_wants_215 (by decide) (fun c_11 => absurd c_11 (by decide)) (fun _ => ?_)
        refine lv_aload hx hb dL_wants_218 (lv_at hl 14 rfl) ?_
        refine lv_iload hx hb dL_wants_220 (lv_at hl 7 rfl) ?_
        refine lv_iconst (v := 3) hx hb dL_wants_222 (by decide) ?_
        refine lv_iadd hx hb dL_wants_223 ?_
        refine z_top (y := (nI (6 * (4 + op) + 3))) (z_add (6 * (4 + op)) 3) ?_
        refine lv_iload hx hb dL_wants_224 (lv_at hl 5 rfl) ?_
        refine z_iast (k := (6 * (4 + op) + 3)) hx hb hK hP hD hS 11 0 rfl rfl rfl (by omega) (by decide) dL_wants_226 (fun H locs hP hD hS => ?_)
        have hP : va_P D vwCl [(o, .inr (4, [.ref F, .ref G, .int (nI qv), .int nw, .int se, .ref (pa 0), .ref an, .ref ln])), cE x xv, (x 1, .inl (cA 0, 4, .inl (xd 0))), (x 2, .inl (cA 0, 4, .inl (xd 1))), (x 3, .inl (cA 0, 4, .inl (xd 2))), (x 4, .inl (cA 0, 4, .inl (upd (xd 3) op (nI lt)))), (x 5, .inl (cA 0, 4, .inl (upd (xd 4) op (nI (lt + mz))))), (x 6, .inl (cA 1, 4, .inl (xd 5))), (x 7, .inl (cA 0, 4, .inl (xd 6))), (x 8, .inl (cA 0, 4, .inl (xd 7))), cE y yv, (wa, .inl (cA 0, 48, .inl (upd ww (6 * (4 + op) + 3) (nI lt))))] H := hP
        have hD : va_D A [(o, .inr (4, [.ref F, .ref G, .int (nI qv), .int nw, .int se, .ref (pa 0), .ref an, .ref ln])), cE x xv, (x 1, .inl (cA 0, 4, .inl (xd 0))), (x 2, .inl (cA 0, 4, .inl (xd 1))), (x 3, .inl (cA 0, 4, .inl (xd 2))), (x 4, .inl (cA 0, 4, .inl (upd (xd 3) op (nI lt)))), (x 5, .inl (cA 0, 4, .inl (upd (xd 4) op (nI (lt + mz))))), (x 6, .inl (cA 1, 4, .inl (xd 5))), (x 7, .inl (cA 0, 4, .inl (xd 6))), (x 8, .inl (cA 0, 4, .inl (xd 7))), cE y yv, (wa, .inl (cA 0, 48, .inl (upd ww (6 * (4 + op) + 3) (nI lt))))] := hD
        refine lv_aload hx hb dL_wants_227 (lv_at hl 14 rfl) ?_
        refine lv_iload hx hb dL_wants_229 (lv_at hl 7 rfl) ?_
        refine lv_iconst (v := 4) hx hb dL_wants_231 (by decide) ?_
        refine lv_iadd hx hb dL_wants_232 ?_
        refine z_top (y := (nI (6 * (4 + op) + 4))) (z_add (6 * (4 + op)) 4) ?_
        refine lv_iload hx hb dL_wants_233 (lv_at hl 4 rfl) ?_
        refine z_iast (k := (6 * (4 + op) + 4)) hx hb hK hP hD hS 11 0 rfl rfl rfl (by omega) (by decide) dL_wants_235 (fun H locs hP hD hS => ?_)
        have hP : va_P D vwCl [(o, .inr (4, [.ref F, .ref G, .int (nI qv), .int nw, .int se, .ref (pa 0), .ref an, .ref ln])), cE x xv, (x 1, .inl (cA 0, 4, .inl (xd 0))), (x 2, .inl (cA 0, 4, .inl (xd 1))), (x 3, .inl (cA 0, 4, .inl (xd 2))), (x 4, .inl (cA 0, 4, .inl (upd (xd 3) op (nI lt)))), (x 5, .inl (cA 0, 4, .inl (upd (xd 4) op (nI (lt + mz))))), (x 6, .inl (cA 1, 4, .inl (xd 5))), (x 7, .inl (cA 0, 4, .inl (xd 6))), (x 8, .inl (cA 0, 4, .inl (xd 7))), cE y yv, (wa, .inl (cA 0, 48, .inl (upd (upd ww (6 * (4 + op) + 3) (nI lt)) (6 * (4 + op) + 4) (nI (lt + mz)))))] H := hP
        have hD : va_D A [(o, .inr (4, [.ref F, .ref G, .int (nI qv), .int nw, .int se, .ref (pa 0), .ref an, .ref ln])), cE x xv, (x 1, .inl (cA 0, 4, .inl (xd 0))), (x 2, .inl (cA 0, 4, .inl (xd 1))), (x 3, .inl (cA 0, 4, .inl (xd 2))), (x 4, .inl (cA 0, 4, .inl (upd (xd 3) op (nI lt)))), (x 5, .inl (cA 0, 4, .inl (upd (xd 4) op (nI (lt + mz))))), (x 6, .inl (cA 1, 4, .inl (xd 5))), (x 7, .inl (cA 0, 4, .inl (xd 6))), (x 8, .inl (cA 0, 4, .inl (xd 7))), cE y yv, (wa, .inl (cA 0, 48, .inl (upd (upd ww (6 * (4 + op) + 3) (nI lt)) (6 * (4 + op) + 4) (nI (lt + mz)))))] := hD
        refine lv_goto (tgt := 257) hx hb dL_wants_236 (by decide) ?_
        refine lv_iload hx hb dL_wants_257 (lv_at hl 0 rfl) ?_
        refine lv_iload hx hb dL_wants_259 (lv_at hl 6 rfl) ?_
        refine lv_if_ne (tgt := 269) hx hb dL_wants_261 (by decide) (fun _ => ?_) (fun c_12 => absurd c_12 (by decide))
        refine lv_iload_n hx hb dL_wants_269 rfl (lv_at hl 11 rfl) ?_
        refine lv_iconst (v := 1) hx hb dL_wants_270 (by decide) ?_
        refine lv_icmp_ne (tgt := 278) hx hb dL_wants_271 (by decide) (fun c_13 => absurd c_13 (by decide)) (fun _ => ?_)
        refine lv_iconst (v := 0) hx hb dL_wants_274 (by decide) ?_
        refine lv_goto (tgt := 280) hx hb dL_wants_275 (by decide) ?_
        refine lv_icmp_ne (tgt := 306) hx hb dL_wants_280 (by decide) (fun c_14 => absurd c_14 (by decide)) (fun _ => ?_)
        refine lv_aload_n hx hb dL_wants_283 rfl (lv_at hl 10 rfl) ?_
        refine lv_iconst (v := 0) hx hb dL_wants_284 (by decide) ?_
        have hPc := hP.sub (ws' := [(o, .inr (4, [.ref F, .ref G, .int (nI qv), .int nw, .int se, .ref (pa 0), .ref an, .ref ln])), cE y yv]) [0, 10] rfl
        have hDc := hD.sub (ws' := [(o, .inr (4, [.ref F, .ref G, .int (nI qv), .int nw, .int se, .ref (pa 0), .ref an, .ref ln])), cE y yv]) [0, 10] (by decide) rfl
        have hFc := va_free (wc := [(o, .inr (4, [.ref F, .ref G, .int (nI qv), .int nw, .int se, .ref (pa 0), .ref an, .ref ln])), cE y yv]) hD hS hA [0, 10] rfl
        refine va_calli (va_runV (As := [.int 0]) (rest := []) ⟨hx, hb, hml, hown, hts⟩ (c_X3_state_k l D cA H.size o F G (nI qv) nw se pa an ln y (x 0) 0 yv (by first | exact he | exact en_flip he | exact en_01 he | exact en_10 he)) (cwV 1 hts gL_wants_X3_state rfl rfl rfl (by decide +kernel) ⟨Nat.le_of_ble_eq_true rfl, Nat.le_of_ble_eq_true rfl⟩) ⟨zU_blind, va_recv hK hPc (ci := 4) (q0 := 0) rfl rfl, fun U hU hW => ⟨rfl, zU_call hU hPc hW.alike hK hDc⟩⟩ rfl rfl hl.1 rfl (lv_room (Nat.le_of_ble_eq_true rfl)) dL_wants_285 ⟨(Nat.zero_le _), (Nat.zero_le _)⟩) hS (fun q _ h => hFc q h) hFc (fun zr u t H1 locs ht hvm hw hB hz1 hk1 hS => ?_)
        obtain ⟨hP1, hD1⟩ := hB
        rw [ht] at hP1
        obtain ⟨hP, hD⟩ := va_join (wr := [cE x xv, (x 1, .inl (cA 0, 4, .inl (xd 0))), (x 2, .inl (cA 0, 4, .inl (xd 1))), (x 3, .inl (cA 0, 4, .inl (xd 2))), (x 4, .inl (cA 0, 4, .inl (upd (xd 3) op (nI lt)))), (x 5, .inl (cA 0, 4, .inl (upd (xd 4) op (nI (lt + mz))))), (x 6, .inl (cA 1, 4, .inl (xd 5))), (x 7, .inl (cA 0, 4, .inl (xd 6))), (x 8, .inl (cA 0, 4, .inl (xd 7))), (wa, .inl (cA 0, 48, .inl (upd (upd ww (6 * (4 + op) + 3) (nI lt)) (6 * (4 + op) + 4) (nI (lt + mz)))))]) (w1 := [(o, .inr (4, [.ref F, .ref G, .int (nI qv), .int nw, .int se, .ref (pa 0), .ref an, .ref ln])), cE y yv]) hP hD [0, 10] [1, 2, 3, 4, 5, 6, 7, 8, 9, 11] rfl rfl (by decide) (by decide) hk1 hFc hP1 hD1
        generalize H1 = H at hP hS ⊢
        have hP := hP.sub (ws' := [(o, .inr (4, [.ref F, .ref G, .int (nI qv), .int nw, .int se, .ref (pa 0), .ref an, .ref ln])), cE x xv, (x 1, .inl (cA 0, 4, .inl (xd 0))), (x 2, .inl (cA 0, 4, .inl (xd 1))), (x 3, .inl (cA 0, 4, .inl (xd 2))), (x 4, .inl (cA 0, 4, .inl (upd (xd 3) op (nI lt)))), (x 5, .inl (cA 0, 4, .inl (upd (xd 4) op (nI (lt + mz))))), (x 6, .inl (cA 1, 4, .inl (xd 5))), (x 7, .inl (cA 0, 4, .inl (xd 6))), (x 8, .inl (cA 0, 4, .inl (xd 7))), cE y yv, (wa, .inl (cA 0, 48, .inl (upd (upd ww (6 * (4 + op) + 3) (nI lt)) (6 * (4 + op) + 4) (nI (lt + mz)))))]) [10, 0, 1, 2, 3, 4, 5, 6, 7, 8, 11, 9] rfl
        have hD := hD.sub (ws' := [(o, .inr (4, [.ref F, .ref G, .int (nI qv), .int nw, .int se, .ref (pa 0), .ref an, .ref ln])), cE x xv, (x 1, .inl (cA 0, 4, .inl (xd 0))), (x 2, .inl (cA 0, 4, .inl (xd 1))), (x 3, .inl (cA 0, 4, .inl (xd 2))), (x 4, .inl (cA 0, 4, .inl (upd (xd 3) op (nI lt)))), (x 5, .inl (cA 0, 4, .inl (upd (xd 4) op (nI (lt + mz))))), (x 6, .inl (cA 1, 4, .inl (xd 5))), (x 7, .inl (cA 0, 4, .inl (xd 6))), (x 8, .inl (cA 0, 4, .inl (xd 7))), cE y yv, (wa, .inl (cA 0, 48, .inl (upd (upd ww (6 * (4 + op) + 3) (nI lt)) (6 * (4 + op) + 4) (nI (lt + mz)))))]) [10, 0, 1, 2, 3, 4, 5, 6, 7, 8, 11, 9] (by decide) rfl
        clear hPc hDc hFc hP1 hD1 hk1 hz1
        have hw_15 := hw
        obtain rfl := hw
        refine z_top (y := (nI sy)) hy0 ?_
        refine lv_bipush (v := 8) hx hb dL_wants_288 (by decide) ?_
        refine lv_aload_n hx hb dL_wants_290 rfl (lv_at hl 10 rfl) ?_
        refine lv_iconst (v := 1) hx hb dL_wants_291 (by decide) ?_
        have hPc := hP.sub (ws' := [(o, .inr (4, [.ref F, .ref G, .int (nI qv), .int nw, .int se, .ref (pa 0), .ref an, .ref ln])), cE x xv]) [0, 1] rfl
        have hDc := hD.sub (ws' := [(o, .inr (4, [.ref F, .ref G, .int (nI qv), .int nw, .int se, .ref (pa 0), .ref an, .ref ln])), cE x xv]) [0, 1] (by decide) rfl
        have hFc := va_free (wc := [(o, .inr (4, [.ref F, .ref G, .int (nI qv), .int nw, .int se, .ref (pa 0), .ref an, .ref ln])), cE x xv]) hD hS hA [0, 1] rfl
        refine va_calli (va_runV (As := [.int 1]) (rest := [.int 8, .int (nI sy)]) ⟨hx, hb, hml, hown, hts⟩ (c_X3_state_k l D cA H.size o F G (nI qv) nw se pa an ln x (y 0) 1 xv (by first | exact he | exact en_flip he | exact en_01 he | exact en_10 he)) (cwV 1 hts gL_wants_X3_state rfl rfl rfl (by decide +kernel) ⟨Nat.le_of_ble_eq_true rfl, Nat.le_of_ble_eq_true rfl⟩) ⟨zU_blind, va_recv hK hPc (ci := 4) (q0 := 0) rfl rfl, fun U hU hW => ⟨rfl, zU_call hU hPc hW.alike hK hDc⟩⟩ rfl rfl hl.1 rfl (lv_room (Nat.le_of_ble_eq_true rfl)) dL_wants_292 ⟨(Nat.zero_le _), (Nat.zero_le _)⟩) hS (fun q _ h => hFc q h) hFc (fun zr u t H1 locs ht hvm hw hB hz1 hk1 hS => ?_)
        obtain ⟨hP1, hD1⟩ := hB
        rw [ht] at hP1
        obtain ⟨hP, hD⟩ := va_join (wr := [(x 1, .inl (cA 0, 4, .inl (xd 0))), (x 2, .inl (cA 0, 4, .inl (xd 1))), (x 3, .inl (cA 0, 4, .inl (xd 2))), (x 4, .inl (cA 0, 4, .inl (upd (xd 3) op (nI lt)))), (x 5, .inl (cA 0, 4, .inl (upd (xd 4) op (nI (lt + mz))))), (x 6, .inl (cA 1, 4, .inl (xd 5))), (x 7, .inl (cA 0, 4, .inl (xd 6))), (x 8, .inl (cA 0, 4, .inl (xd 7))), cE y yv, (wa, .inl (cA 0, 48, .inl (upd (upd ww (6 * (4 + op) + 3) (nI lt)) (6 * (4 + op) + 4) (nI (lt + mz)))))]) (w1 := [(o, .inr (4, [.ref F, .ref G, .int (nI qv), .int nw, .int se, .ref (pa 0), .ref an, .ref ln])), cE x xv]) hP hD [0, 1] [2, 3, 4, 5, 6, 7, 8, 9, 10, 11] rfl rfl (by decide) (by decide) hk1 hFc hP1 hD1
        generalize H1 = H at hP hS ⊢
        have hP := hP.sub (ws' := [(o, .inr (4, [.ref F, .ref G, .int (nI qv), .int nw, .int se, .ref (pa 0), .ref an, .ref ln])), cE x xv, (x 1, .inl (cA 0, 4, .inl (xd 0))), (x 2, .inl (cA 0, 4, .inl (xd 1))), (x 3, .inl (cA 0, 4, .inl (xd 2))), (x 4, .inl (cA 0, 4, .inl (upd (xd 3) op (nI lt)))), (x 5, .inl (cA 0, 4, .inl (upd (xd 4) op (nI (lt + mz))))), (x 6, .inl (cA 1, 4, .inl (xd 5))), (x 7, .inl (cA 0, 4, .inl (xd 6))), (x 8, .inl (cA 0, 4, .inl (xd 7))), cE y yv, (wa, .inl (cA 0, 48, .inl (upd (upd ww (6 * (4 + op) + 3) (nI lt)) (6 * (4 + op) + 4) (nI (lt + mz)))))]) [10, 11, 0, 1, 2, 3, 4, 5, 6, 7, 8, 9] rfl
        have hD := hD.sub (ws' := [(o, .inr (4, [.ref F, .ref G, .int (nI qv), .int nw, .int se, .ref (pa 0), .ref an, .ref ln])), cE x xv, (x 1, .inl (cA 0, 4, .inl (xd 0))), (x 2, .inl (cA 0, 4, .inl (xd 1))), (x 3, .inl (cA 0, 4, .inl (xd 2))), (x 4, .inl (cA 0, 4, .inl (upd (xd 3) op (nI lt)))), (x 5, .inl (cA 0, 4, .inl (upd (xd 4) op (nI (lt + mz))))), (x 6, .inl (cA 1, 4, .inl (xd 5))), (x 7, .inl (cA 0, 4, .inl (xd 6))), (x 8, .inl (cA 0, 4, .inl (xd 7))), cE y yv, (wa, .inl (cA 0, 48, .inl (upd (upd ww (6 * (4 + op) + 3) (nI lt)) (6 * (4 + op) + 4) (nI (lt + mz)))))]) [10, 11, 0, 1, 2, 3, 4, 5, 6, 7, 8, 9] (by decide) rfl
        clear hPc hDc hFc hP1 hD1 hk1 hz1
        have hw_16 := hw
        obtain rfl := hw
        refine z_top (y := (nI sx)) hx0 ?_
        refine lv_imul hx hb dL_wants_295 ?_
        refine z_top (y := (nI (8 * sx))) (z_mul 8 sx) ?_
        refine lv_iadd hx hb dL_wants_296 ?_
        refine z_top (y := (nI (sy + 8 * sx))) (z_add sy (8 * sx)) ?_
        refine lv_iload hx hb dL_wants_297 (lv_at hl 2 rfl) ?_
        refine lv_icmp_ne (tgt := 306) hx hb dL_wants_299 (by decide) (fun c_17 => absurd rfl c_17) (fun _ => ?_)
        refine lv_iconst (v := 1) hx hb dL_wants_302 (by decide) ?_
        refine lv_goto (tgt := 307) hx hb dL_wants_303 (by decide) ?_
        refine W.widen (k := 1) (n := 6) (by omega) (by omega) ?_
        exact W.zret (v := 1) hx hb hr rfl (fun t ht hW => ⟨⟨1, ((va_up (va_up xd 3 (upd (xd 3) op (nI lt))) 4 (upd (xd 4) op (nI (lt + mz)))), upd (upd ww (6 * (4 + op) + 3) (nI lt)) (6 * (4 + op) + 4) (nI (lt + mz))), rfl, ⟨⟨sx, kx, tx, sy, ky, ty, allow_t hI (by omega) (by omega) (by omega), by omega, by omega⟩, WRe_allow hWr hop (by omega) (by omega), WRe_oth (i := 0) (e := 1) (b := 4) (WRe_oth (i := 0) (e := 1) (b := 3) (hWr2) (by decide) hop (by omega) (by decide)) (by decide) hop (by omega) (by decide), rfl⟩, ⟨by rw [ht]; exact hP, by rw [hAe]; exact hD⟩⟩, hS.F ht⟩) hS.2.2 dL_wants_307
      · skip
        refine lv_iload_n hx hb dL_wants_69 rfl (lv_at hl 8 rfl) ?_
        refine lv_bipush (v := 8) hx hb dL_wants_70 (by decide) ?_
        refine lv_idiv hx hb dL_wants_72 (by decide) ?_
        refine z_top (y := (nI (vx / 8))) (z_div (a := vx) (d := 8) (by omega) (by omega) (by omega)) ?_
        refine lv_iconst (v := 3) hx hb dL_wants_73 (by decide) ?_
        refine lv_irem hx hb dL_wants_74 (by decide) ?_
        refine z_top (y := (nI ((vx / 8) % 3))) (z_rem (a := (vx / 8)) (d := 3) (by omega) (by omega) (by omega)) ?_
        refine lv_if_ne (tgt := 82) hx hb dL_wants_75 (by decide) (fun c_18 => ?_) (fun c_18 => ?_)
        · have c_18 := mt (nI_eq (a := (vx / 8) % 3) (b := 0) (by omega) (by omega)).mpr c_18
          refine lv_iload hx hb dL_wants_82 (lv_at hl 1 rfl) ?_
          refine lv_iload_n hx hb dL_wants_84 rfl (lv_at hl 8 rfl) ?_
          refine lv_bipush (v := 24) hx hb dL_wants_85 (by decide) ?_
          refine lv_idiv hx hb dL_wants_87 (by decide) ?_
          refine z_top (y := (nI (vx / 24))) (z_div (a := vx) (d := 24) (by omega) (by omega) (by omega)) ?_
          refine lv_iload hx hb dL_wants_88 (lv_at hl 0 rfl) ?_
          refine lv_iload hx hb dL_wants_90 (lv_at hl 1 rfl) ?_
          refine lv_isub hx hb dL_wants_92 ?_
          refine z_top (y := (nI (lt + mz - lt))) (z_sub (by omega)) ?_
          refine lv_iconst (v := 1) hx hb dL_wants_93 (by decide) ?_
          refine lv_iadd hx hb dL_wants_94 ?_
          refine z_top (y := (nI (lt + mz - lt + 1))) (z_add (lt + mz - lt) 1) ?_
          refine lv_irem hx hb dL_wants_95 (nI_n0 (by omega) (by omega)) ?_
          refine z_top (y := (nI ((vx / 24) % (lt + mz - lt + 1)))) (z_rem (a := (vx / 24)) (d := (lt + mz - lt + 1)) (by omega) (by omega) (by omega)) ?_
          obtain ⟨wz, ewz, hwz⟩ := z_modv (vx / 24) (d := lt + mz - lt + 1) (by omega)
          refine z_top (y := (nI wz)) (congrArg nI ewz) ?_
          refine lv_iadd hx hb dL_wants_96 ?_
          refine z_top (y := (nI (lt + wz))) (z_add lt wz) ?_
          exact kJ _ _ _ _ ⟨(nI (lt + wz)), rfl, hP, hD, hS, lv_sub hl [0, 1, 2, 3, 4, 5, 6, 7, 8, 9, 10] rfl, (Or.inr (inr_nI (by omega) (by omega) (by omega))), (okv_nI (by omega))⟩
        · have c_18 := (nI_eq (a := (vx / 8) % 3) (b := 0) (by omega) (by omega)).mp c_18
          refine lv_iconst (v := (-1)) hx hb dL_wants_78 (by decide) ?_
          refine lv_goto (tgt := 97) hx hb dL_wants_79 (by decide) ?_
          exact kJ _ _ _ _ ⟨(-1), rfl, hP, hD, hS, lv_sub hl [0, 1, 2, 3, 4, 5, 6, 7, 8, 9, 10] rfl, (Or.inl rfl), (Or.inl rfl)⟩
    · skip
      refine lv_iload_n hx hb dL_wants_35 rfl (lv_at hl 7 rfl) ?_
      refine lv_iconst (v := 3) hx hb dL_wants_36 (by decide) ?_
      refine lv_irem hx hb dL_wants_37 (by decide) ?_
      refine z_top (y := (nI (vy % 3))) (z_rem (a := vy) (d := 3) (by omega) (by omega) (by omega)) ?_
      refine lv_if_ne (tgt := 45) hx hb dL_wants_38 (by decide) (fun c_19 => ?_) (fun c_19 => ?_)
      · have c_19 := mt (nI_eq (a := vy % 3) (b := 0) (by omega) (by omega)).mpr c_19
        refine lv_iload_n hx hb dL_wants_45 rfl (lv_at hl 7 rfl) ?_
        refine lv_iconst (v := 3) hx hb dL_wants_46 (by decide) ?_
        refine lv_idiv hx hb dL_wants_47 (by decide) ?_
        refine z_top (y := (nI (vy / 3))) (z_div (a := vy) (d := 3) (by omega) (by omega) (by omega)) ?_
        refine lv_bipush (v := 101) hx hb dL_wants_48 (by decide) ?_
        refine lv_irem hx hb dL_wants_50 (by decide) ?_
        refine z_top (y := (nI ((vy / 3) % 101))) (z_rem (a := (vy / 3)) (d := 101) (by omega) (by omega) (by omega)) ?_
        exact kJ _ _ _ _ ⟨(vy / 3) % 101, rfl, hP, hD, hS, lv_sub hl [0, 1, 2, 3, 4, 5, 6, 7, 8] rfl, (by omega)⟩
      · have c_19 := (nI_eq (a := vy % 3) (b := 0) (by omega) (by omega)).mp c_19
        refine lv_iconst (v := 0) hx hb dL_wants_41 (by decide) ?_
        refine lv_goto (tgt := 51) hx hb dL_wants_42 (by decide) ?_
        exact kJ _ _ _ _ ⟨0, rfl, hP, hD, hS, lv_sub hl [0, 1, 2, 3, 4, 5, 6, 7, 8] rfl, (by omega)⟩
  · skip
    refine lv_istore (lv' := [(8, .int 0), (7, .int (nI (6 * (4 + op)))), (6, .int (nI op)), (5, .int 1), (0, .ref o), (1, .int 1), (2, .int (nI vx)), (3, .int (nI vy)), (4, .ref wa)]) hx hb dL_wants_33 hl (by decide) rfl (fun ls hl => ?_)
    refine z_cut (Inv := fun H locs ls st => ∃ (lt : Nat), st = [.int (nI lt)] ∧ va_P D vwCl [(o, .inr (4, [.ref F, .ref G, .int (nI qv), .int nw, .int se, .ref (pa 0), .ref an, .ref ln])), cE x xv, (x 1, .inl (cA 0, 4, .inl (xd 0))), (x 2, .inl (cA 0, 4, .inl (xd 1))), (x 3, .inl (cA 0, 4, .inl (xd 2))), (x 4, .inl (cA 0, 4, .inl (xd 3))), (x 5, .inl (cA 0, 4, .inl (xd 4))), (x 6, .inl (cA 1, 4, .inl (xd 5))), (x 7, .inl (cA 0, 4, .inl (xd 6))), (x 8, .inl (cA 0, 4, .inl (xd 7))), cE y yv, (wa, .inl (cA 0, 48, .inl ww))] H ∧ va_D A [(o, .inr (4, [.ref F, .ref G, .int (nI qv), .int nw, .int se, .ref (pa 0), .ref an, .ref ln])), cE x xv, (x 1, .inl (cA 0, 4, .inl (xd 0))), (x 2, .inl (cA 0, 4, .inl (xd 1))), (x 3, .inl (cA 0, 4, .inl (xd 2))), (x 4, .inl (cA 0, 4, .inl (xd 3))), (x 5, .inl (cA 0, 4, .inl (xd 4))), (x 6, .inl (cA 1, 4, .inl (xd 5))), (x 7, .inl (cA 0, 4, .inl (xd 6))), (x 8, .inl (cA 0, 4, .inl (xd 7))), cE y yv, (wa, .inl (cA 0, 48, .inl ww))] ∧ va_S A s.heap H locs ∧ lv_has ls 15 [(8, .int 0), (7, .int (nI (6 * (4 + op)))), (6, .int (nI op)), (5, .int 1), (0, .ref o), (1, .int 1), (2, .int (nI vx)), (3, .int (nI vy)), (4, .ref wa)] ∧ lt ≤ 100) 51 (fun H locs ls st hQ9 => ?_) (fun kJ => ?_)
    · obtain ⟨lt, rfl, hP, hD, hS, hl, hlt⟩ := hQ9
      refine lv_istore (lv' := [(9, .int (nI lt)), (8, .int 0), (7, .int (nI (6 * (4 + op)))), (6, .int (nI op)), (5, .int 1), (0, .ref o), (1, .int 1), (2, .int (nI vx)), (3, .int (nI vy)), (4, .ref wa)]) hx hb dL_wants_51 hl (by decide) rfl (fun ls hl => ?_)
      refine lv_iload hx hb dL_wants_53 (lv_at hl 0 rfl) ?_
      refine lv_iload_n hx hb dL_wants_55 rfl (lv_at hl 8 rfl) ?_
      refine lv_sipush (v := 303) hx hb dL_wants_56 (by decide) ?_
      refine lv_idiv hx hb dL_wants_59 (by decide) ?_
      refine z_top (y := (nI (vy / 303))) (z_div (a := vy) (d := 303) (by omega) (by omega) (by omega)) ?_
      refine lv_bipush (v := 101) hx hb dL_wants_60 (by decide) ?_
      refine lv_iload hx hb dL_wants_62 (lv_at hl 0 rfl) ?_
      refine lv_isub hx hb dL_wants_64 ?_
      refine z_top (y := (nI (101 - lt))) (z_sub (a := 101) (b := lt) (by omega)) ?_
      refine lv_irem hx hb dL_wants_65 (nI_n0 (by omega) (by omega)) ?_
      refine z_top (y := (nI ((vy / 303) % (101 - lt)))) (z_rem (a := (vy / 303)) (d := (101 - lt)) (by omega) (by omega) (by omega)) ?_
      obtain ⟨mz, emz, hmz⟩ := z_modv (vy / 303) (d := 101 - lt) (by omega)
      refine z_top (y := (nI mz)) (congrArg nI emz) ?_
      refine lv_iadd hx hb dL_wants_66 ?_
      refine z_top (y := (nI (lt + mz))) (z_add lt mz) ?_
      refine lv_istore (lv' := [(10, .int (nI (lt + mz))), (9, .int (nI lt)), (8, .int 0), (7, .int (nI (6 * (4 + op)))), (6, .int (nI op)), (5, .int 1), (0, .ref o), (1, .int 1), (2, .int (nI vx)), (3, .int (nI vy)), (4, .ref wa)]) hx hb dL_wants_67 hl (by decide) rfl (fun ls hl => ?_)
      refine z_cut (Inv := fun H locs ls st => ∃ (wi : Int32), st = [.int wi] ∧ va_P D vwCl [(o, .inr (4, [.ref F, .ref G, .int (nI qv), .int nw, .int se, .ref (pa 0), .ref an, .ref ln])), cE x xv, (x 1, .inl (cA 0, 4, .inl (xd 0))), (x 2, .inl (cA 0, 4, .inl (xd 1))), (x 3, .inl (cA 0, 4, .inl (xd 2))), (x 4, .inl (cA 0, 4, .inl (xd 3))), (x 5, .inl (cA 0, 4, .inl (xd 4))), (x 6, .inl (cA 1, 4, .inl (xd 5))), (x 7, .inl (cA 0, 4, .inl (xd 6))), (x 8, .inl (cA 0, 4, .inl (xd 7))), cE y yv, (wa, .inl (cA 0, 48, .inl ww))] H ∧ va_D A [(o, .inr (4, [.ref F, .ref G, .int (nI qv), .int nw, .int se, .ref (pa 0), .ref an, .ref ln])), cE x xv, (x 1, .inl (cA 0, 4, .inl (xd 0))), (x 2, .inl (cA 0, 4, .inl (xd 1))), (x 3, .inl (cA 0, 4, .inl (xd 2))), (x 4, .inl (cA 0, 4, .inl (xd 3))), (x 5, .inl (cA 0, 4, .inl (xd 4))), (x 6, .inl (cA 1, 4, .inl (xd 5))), (x 7, .inl (cA 0, 4, .inl (xd 6))), (x 8, .inl (cA 0, 4, .inl (xd 7))), cE y yv, (wa, .inl (cA 0, 48, .inl ww))] ∧ va_S A s.heap H locs ∧ lv_has ls 15 [(10, .int (nI (lt + mz))), (9, .int (nI lt)), (8, .int 0), (7, .int (nI (6 * (4 + op)))), (6, .int (nI op)), (5, .int 1), (0, .ref o), (1, .int 1), (2, .int (nI vx)), (3, .int (nI vy)), (4, .ref wa)] ∧ (wi = -1 ∨ inr wi (nI lt) (nI (lt + mz))) ∧ okv wi) 97 (fun H locs ls st hQ9 => ?_) (fun kJ => ?_)
      · obtain ⟨wi, rfl, hP, hD, hS, hl, hwi, hwo⟩ := hQ9
        refine lv_istore (lv' := [(11, .int wi), (10, .int (nI (lt + mz))), (9, .int (nI lt)), (8, .int 0), (7, .int (nI (6 * (4 + op)))), (6, .int (nI op)), (5, .int 1), (0, .ref o), (1, .int 1), (2, .int (nI vx)), (3, .int (nI vy)), (4, .ref wa)]) hx hb dL_wants_97 hl (by decide) rfl (fun ls hl => ?_)
        refine lv_aload_n hx hb dL_wants_99 rfl (lv_at hl 7 rfl) ?_
        refine lv_iconst (v := 0) hx hb dL_wants_100 (by decide) ?_
        have hPc := hP.sub (ws' := [(o, .inr (4, [.ref F, .ref G, .int (nI qv), .int nw, .int se, .ref (pa 0), .ref an, .ref ln])), cE y yv]) [0, 10] rfl
        have hDc := hD.sub (ws' := [(o, .inr (4, [.ref F, .ref G, .int (nI qv), .int nw, .int se, .ref (pa 0), .ref an, .ref ln])), cE y yv]) [0, 10] (by decide) rfl
        have hFc := va_free (wc := [(o, .inr (4, [.ref F, .ref G, .int (nI qv), .int nw, .int se, .ref (pa 0), .ref an, .ref ln])), cE y yv]) hD hS hA [0, 10] rfl
        refine va_calli (va_runV (As := [.int 0]) (rest := []) ⟨hx, hb, hml, hown, hts⟩ (c_X3_state_k l D cA H.size o F G (nI qv) nw se pa an ln y (x 0) 0 yv (by first | exact he | exact en_flip he | exact en_01 he | exact en_10 he)) (cwV 1 hts gL_wants_X3_state rfl rfl rfl (by decide +kernel) ⟨Nat.le_of_ble_eq_true rfl, Nat.le_of_ble_eq_true rfl⟩) ⟨zU_blind, va_recv hK hPc (ci := 4) (q0 := 0) rfl rfl, fun U hU hW => ⟨rfl, zU_call hU hPc hW.alike hK hDc⟩⟩ rfl rfl hl.1 rfl (lv_room (Nat.le_of_ble_eq_true rfl)) dL_wants_101 ⟨(Nat.zero_le _), (Nat.zero_le _)⟩) hS (fun q _ h => hFc q h) hFc (fun zr u t H1 locs ht hvm hw hB hz1 hk1 hS => ?_)
        obtain ⟨hP1, hD1⟩ := hB
        rw [ht] at hP1
        obtain ⟨hP, hD⟩ := va_join (wr := [cE x xv, (x 1, .inl (cA 0, 4, .inl (xd 0))), (x 2, .inl (cA 0, 4, .inl (xd 1))), (x 3, .inl (cA 0, 4, .inl (xd 2))), (x 4, .inl (cA 0, 4, .inl (xd 3))), (x 5, .inl (cA 0, 4, .inl (xd 4))), (x 6, .inl (cA 1, 4, .inl (xd 5))), (x 7, .inl (cA 0, 4, .inl (xd 6))), (x 8, .inl (cA 0, 4, .inl (xd 7))), (wa, .inl (cA 0, 48, .inl ww))]) (w1 := [(o, .inr (4, [.ref F, .ref G, .int (nI qv), .int nw, .int se, .ref (pa 0), .ref an, .ref ln])), cE y yv]) hP hD [0, 10] [1, 2, 3, 4, 5, 6, 7, 8, 9, 11] rfl rfl (by decide) (by decide) hk1 hFc hP1 hD1
        generalize H1 = H at hP hS ⊢
        have hP := hP.sub (ws' := [(o, .inr (4, [.ref F, .ref G, .int (nI qv), .int nw, .int se, .ref (pa 0), .ref an, .ref ln])), cE x xv, (x 1, .inl (cA 0, 4, .inl (xd 0))), (x 2, .inl (cA 0, 4, .inl (xd 1))), (x 3, .inl (cA 0, 4, .inl (xd 2))), (x 4, .inl (cA 0, 4, .inl (xd 3))), (x 5, .inl (cA 0, 4, .inl (xd 4))), (x 6, .inl (cA 1, 4, .inl (xd 5))), (x 7, .inl (cA 0, 4, .inl (xd 6))), (x 8, .inl (cA 0, 4, .inl (xd 7))), cE y yv, (wa, .inl (cA 0, 48, .inl ww))]) [10, 0, 1, 2, 3, 4, 5, 6, 7, 8, 11, 9] rfl
        have hD := hD.sub (ws' := [(o, .inr (4, [.ref F, .ref G, .int (nI qv), .int nw, .int se, .ref (pa 0), .ref an, .ref ln])), cE x xv, (x 1, .inl (cA 0, 4, .inl (xd 0))), (x 2, .inl (cA 0, 4, .inl (xd 1))), (x 3, .inl (cA 0, 4, .inl (xd 2))), (x 4, .inl (cA 0, 4, .inl (xd 3))), (x 5, .inl (cA 0, 4, .inl (xd 4))), (x 6, .inl (cA 1, 4, .inl (xd 5))), (x 7, .inl (cA 0, 4, .inl (xd 6))), (x 8, .inl (cA 0, 4, .inl (xd 7))), cE y yv, (wa, .inl (cA 0, 48, .inl ww))]) [10, 0, 1, 2, 3, 4, 5, 6, 7, 8, 11, 9] (by decide) rfl
        clear hPc hDc hFc hP1 hD1 hk1 hz1
        have hw_20 := hw
        obtain rfl := hw
        refine z_top (y := (nI sy)) hy0 ?_
        refine lv_bipush (v := 8) hx hb dL_wants_104 (by decide) ?_
        refine lv_aload_n hx hb dL_wants_106 rfl (lv_at hl 7 rfl) ?_
        refine lv_iconst (v := 1) hx hb dL_wants_107 (by decide) ?_
        have hPc := hP.sub (ws' := [(o, .inr (4, [.ref F, .ref G, .int (nI qv), .int nw, .int se, .ref (pa 0), .ref an, .ref ln])), cE x xv]) [0, 1] rfl
        have hDc := hD.sub (ws' := [(o, .inr (4, [.ref F, .ref G, .int (nI qv), .int nw, .int se, .ref (pa 0), .ref an, .ref ln])), cE x xv]) [0, 1] (by decide) rfl
        have hFc := va_free (wc := [(o, .inr (4, [.ref F, .ref G, .int (nI qv), .int nw, .int se, .ref (pa 0), .ref an, .ref ln])), cE x xv]) hD hS hA [0, 1] rfl
        refine va_calli (va_runV (As := [.int 1]) (rest := [.int 8, .int (nI sy)]) ⟨hx, hb, hml, hown, hts⟩ (c_X3_state_k l D cA H.size o F G (nI qv) nw se pa an ln x (y 0) 1 xv (by first | exact he | exact en_flip he | exact en_01 he | exact en_10 he)) (cwV 1 hts gL_wants_X3_state rfl rfl rfl (by decide +kernel) ⟨Nat.le_of_ble_eq_true rfl, Nat.le_of_ble_eq_true rfl⟩) ⟨zU_blind, va_recv hK hPc (ci := 4) (q0 := 0) rfl rfl, fun U hU hW => ⟨rfl, zU_call hU hPc hW.alike hK hDc⟩⟩ rfl rfl hl.1 rfl (lv_room (Nat.le_of_ble_eq_true rfl)) dL_wants_108 ⟨(Nat.zero_le _), (Nat.zero_le _)⟩) hS (fun q _ h => hFc q h) hFc (fun zr u t H1 locs ht hvm hw hB hz1 hk1 hS => ?_)
        obtain ⟨hP1, hD1⟩ := hB
        rw [ht] at hP1
        obtain ⟨hP, hD⟩ := va_join (wr := [(x 1, .inl (cA 0, 4, .inl (xd 0))), (x 2, .inl (cA 0, 4, .inl (xd 1))), (x 3, .inl (cA 0, 4, .inl (xd 2))), (x 4, .inl (cA 0, 4, .inl (xd 3))), (x 5, .inl (cA 0, 4, .inl (xd 4))), (x 6, .inl (cA 1, 4, .inl (xd 5))), (x 7, .inl (cA 0, 4, .inl (xd 6))), (x 8, .inl (cA 0, 4, .inl (xd 7))), cE y yv, (wa, .inl (cA 0, 48, .inl ww))]) (w1 := [(o, .inr (4, [.ref F, .ref G, .int (nI qv), .int nw, .int se, .ref (pa 0), .ref an, .ref ln])), cE x xv]) hP hD [0, 1] [2, 3, 4, 5, 6, 7, 8, 9, 10, 11] rfl rfl (by decide) (by decide) hk1 hFc hP1 hD1
        generalize H1 = H at hP hS ⊢
        have hP := hP.sub (ws' := [(o, .inr (4, [.ref F, .ref G, .int (nI qv), .int nw, .int se, .ref (pa 0), .ref an, .ref ln])), cE x xv, (x 1, .inl (cA 0, 4, .inl (xd 0))), (x 2, .inl (cA 0, 4, .inl (xd 1))), (x 3, .inl (cA 0, 4, .inl (xd 2))), (x 4, .inl (cA 0, 4, .inl (xd 3))), (x 5, .inl (cA 0, 4, .inl (xd 4))), (x 6, .inl (cA 1, 4, .inl (xd 5))), (x 7, .inl (cA 0, 4, .inl (xd 6))), (x 8, .inl (cA 0, 4, .inl (xd 7))), cE y yv, (wa, .inl (cA 0, 48, .inl ww))]) [10, 11, 0, 1, 2, 3, 4, 5, 6, 7, 8, 9] rfl
        have hD := hD.sub (ws' := [(o, .inr (4, [.ref F, .ref G, .int (nI qv), .int nw, .int se, .ref (pa 0), .ref an, .ref ln])), cE x xv, (x 1, .inl (cA 0, 4, .inl (xd 0))), (x 2, .inl (cA 0, 4, .inl (xd 1))), (x 3, .inl (cA 0, 4, .inl (xd 2))), (x 4, .inl (cA 0, 4, .inl (xd 3))), (x 5, .inl (cA 0, 4, .inl (xd 4))), (x 6, .inl (cA 1, 4, .inl (xd 5))), (x 7, .inl (cA 0, 4, .inl (xd 6))), (x 8, .inl (cA 0, 4, .inl (xd 7))), cE y yv, (wa, .inl (cA 0, 48, .inl ww))]) [10, 11, 0, 1, 2, 3, 4, 5, 6, 7, 8, 9] (by decide) rfl
        clear hPc hDc hFc hP1 hD1 hk1 hz1
        have hw_21 := hw
        obtain rfl := hw
        refine z_top (y := (nI sx)) hx0 ?_
        refine lv_imul hx hb dL_wants_111 ?_
        refine z_top (y := (nI (8 * sx))) (z_mul 8 sx) ?_
        refine lv_iadd hx hb dL_wants_112 ?_
        refine z_top (y := (nI (sy + 8 * sx))) (z_add sy (8 * sx)) ?_
        refine lv_istore (lv' := [(12, .int (nI (sy + 8 * sx))), (11, .int wi), (10, .int (nI (lt + mz))), (9, .int (nI lt)), (8, .int 0), (7, .int (nI (6 * (4 + op)))), (6, .int (nI op)), (5, .int 1), (0, .ref o), (1, .int 1), (2, .int (nI vx)), (3, .int (nI vy)), (4, .ref wa)]) hx hb dL_wants_113 hl (by decide) rfl (fun ls hl => ?_)
        refine lv_iload_n hx hb dL_wants_115 rfl (lv_at hl 9 rfl) ?_
        refine lv_if_ne (tgt := 129) hx hb dL_wants_116 (by decide) (fun _ => ?_) (fun c_22 => absurd c_22 (by decide))
        refine lv_aload hx hb dL_wants_129 (lv_at hl 12 rfl) ?_
        refine lv_iload hx hb dL_wants_131 (lv_at hl 5 rfl) ?_
        refine lv_iconst (v := 5) hx hb dL_wants_133 (by decide) ?_
        refine lv_iadd hx hb dL_wants_134 ?_
        refine z_top (y := (nI (6 * (4 + op) + 5))) (z_add (6 * (4 + op)) 5) ?_
        refine z_iald (k := (6 * (4 + op) + 5)) (v := ((xd 5) op)) hx hb hK hP 11 0 rfl rfl rfl (by omega) (by decide) (wr_at (hWr op hop).2.2.2 (by omega)) dL_wants_135 ?_
        refine lv_istore (lv' := [(13, .int ((xd 5) op)), (12, .int (nI (sy + 8 * sx))), (11, .int wi), (10, .int (nI (lt + mz))), (9, .int (nI lt)), (8, .int 0), (7, .int (nI (6 * (4 + op)))), (6, .int (nI op)), (5, .int 1), (0, .ref o), (1, .int 1), (2, .int (nI vx)), (3, .int (nI vy)), (4, .ref wa)]) hx hb dL_wants_136 hl (by decide) rfl (fun ls hl => ?_)
        refine lv_aload_n hx hb dL_wants_138 rfl (lv_at hl 9 rfl) ?_
        refine lv_iload_n hx hb dL_wants_139 rfl (lv_at hl 10 rfl) ?_
        refine lv_iload hx hb dL_wants_140 (lv_at hl 8 rfl) ?_
        refine lv_iload hx hb dL_wants_142 (lv_at hl 7 rfl) ?_
        refine lv_iload_n hx hb dL_wants_144 rfl (lv_at hl 10 rfl) ?_
        refine lv_iconst (v := 2) hx hb dL_wants_145 (by decide) ?_
        refine lv_icmp_ne (tgt := 158) hx hb dL_wants_146 (by decide) (fun _ => ?_) (fun c_23 => absurd c_23 (by decide))
        refine lv_iload hx hb dL_wants_158 (lv_at hl 2 rfl) ?_
        refine lv_iload hx hb dL_wants_160 (lv_at hl 4 rfl) ?_
        refine lv_iload hx hb dL_wants_162 (lv_at hl 3 rfl) ?_
        have hPc := hP.sub (ws' := [(o, .inr (4, [.ref F, .ref G, .int (nI qv), .int nw, .int se, .ref (pa 0), .ref an, .ref ln])), cE x xv]) [0, 1] rfl
        have hDc := hD.sub (ws' := [(o, .inr (4, [.ref F, .ref G, .int (nI qv), .int nw, .int se, .ref (pa 0), .ref an, .ref ln])), cE x xv]) [0, 1] (by decide) rfl
        have hFc := va_free (wc := [(o, .inr (4, [.ref F, .ref G, .int (nI qv), .int nw, .int se, .ref (pa 0), .ref an, .ref ln])), cE x xv]) hD hS hA [0, 1] rfl
        refine va_calli (vx_runSW (As := [.ref o, .int 1, .int 1, .int (nI op), .int wi, .int (nI lt), .int (nI (lt + mz))]) (rest := []) ⟨hx, hb, hml, hown, hts⟩ (c_asks_allow_s l D cA zv H.size o F G (nI qv) nw se pa an ln x (y 0) 1 xv op (nI lt) (nI (lt + mz)) wi (by assumption) (by first | exact he | exact en_flip he | exact en_01 he | exact en_10 he) hop ⟨inr_nI (a := lt) (b := 0) (c := 100) (by omega) (by omega) (by decide), inr_nI (a := lt + mz) (b := lt) (c := 100) (by omega) (by omega) (by decide)⟩ (fun q9 => absurd ((s_shut hI).mp q9) (by omega))) (vx_cwSW 7 hts gL_wants_L_asks rfl rfl rfl (by decide +kernel) ⟨Nat.le_of_ble_eq_true rfl, Nat.le_of_ble_eq_true rfl⟩) ⟨zUX_blind, fun U hU hW => ⟨rfl, zUX_call hE0 hX0 hS hFc hU hPc hW hK hDc⟩⟩ rfl rfl hl.1 rfl (lv_room (Nat.le_of_ble_eq_true rfl)) dL_wants_164 ⟨Nat.le_of_ble_eq_true rfl, Nat.le_of_ble_eq_true rfl⟩) hS (fun q _ h => hFc q h) hFc (fun zr u t H1 locs ht hvm hw hB hz1 hk1 hS => ?_)
        obtain ⟨hP1, hD1⟩ := hB
        rw [ht] at hP1
        obtain ⟨hP, hD⟩ := va_join (wr := [(x 1, .inl (cA 0, 4, .inl (xd 0))), (x 2, .inl (cA 0, 4, .inl (xd 1))), (x 3, .inl (cA 0, 4, .inl (xd 2))), (x 4, .inl (cA 0, 4, .inl (xd 3))), (x 5, .inl (cA 0, 4, .inl (xd 4))), (x 6, .inl (cA 1, 4, .inl (xd 5))), (x 7, .inl (cA 0, 4, .inl (xd 6))), (x 8, .inl (cA 0, 4, .inl (xd 7))), cE y yv, (wa, .inl (cA 0, 48, .inl ww))]) (w1 := [(o, .inr (4, [.ref F, .ref G, .int (nI qv), .int nw, .int se, .ref (pa 0), .ref an, .ref ln])), cE x xv]) hP hD [0, 1] [2, 3, 4, 5, 6, 7, 8, 9, 10, 11] rfl rfl (by decide) (by decide) hk1 hFc hP1 hD1
        generalize H1 = H at hP hS ⊢
        have hP := hP.sub (ws' := [(o, .inr (4, [.ref F, .ref G, .int (nI qv), .int nw, .int se, .ref (pa 0), .ref an, .ref ln])), cE x xv, (x 1, .inl (cA 0, 4, .inl (xd 0))), (x 2, .inl (cA 0, 4, .inl (xd 1))), (x 3, .inl (cA 0, 4, .inl (xd 2))), (x 4, .inl (cA 0, 4, .inl (xd 3))), (x 5, .inl (cA 0, 4, .inl (xd 4))), (x 6, .inl (cA 1, 4, .inl (xd 5))), (x 7, .inl (cA 0, 4, .inl (xd 6))), (x 8, .inl (cA 0, 4, .inl (xd 7))), cE y yv, (wa, .inl (cA 0, 48, .inl ww))]) [10, 11, 0, 1, 2, 3, 4, 5, 6, 7, 8, 9] rfl
        have hD := hD.sub (ws' := [(o, .inr (4, [.ref F, .ref G, .int (nI qv), .int nw, .int se, .ref (pa 0), .ref an, .ref ln])), cE x xv, (x 1, .inl (cA 0, 4, .inl (xd 0))), (x 2, .inl (cA 0, 4, .inl (xd 1))), (x 3, .inl (cA 0, 4, .inl (xd 2))), (x 4, .inl (cA 0, 4, .inl (xd 3))), (x 5, .inl (cA 0, 4, .inl (xd 4))), (x 6, .inl (cA 1, 4, .inl (xd 5))), (x 7, .inl (cA 0, 4, .inl (xd 6))), (x 8, .inl (cA 0, 4, .inl (xd 7))), cE y yv, (wa, .inl (cA 0, 48, .inl ww))]) [10, 11, 0, 1, 2, 3, 4, 5, 6, 7, 8, 9] (by decide) rfl
        clear hPc hDc hFc hP1 hD1 hk1 hz1
        refine W.widen (k := 1) (n := 6) (by omega) (by omega) ?_
        have hw_24 := hw
        obtain rfl := hw
        refine lv_istore (lv' := [(14, .int (-8)), (13, .int ((xd 5) op)), (12, .int (nI (sy + 8 * sx))), (11, .int wi), (10, .int (nI (lt + mz))), (9, .int (nI lt)), (8, .int 0), (7, .int (nI (6 * (4 + op)))), (6, .int (nI op)), (5, .int 1), (0, .ref o), (1, .int 1), (2, .int (nI vx)), (3, .int (nI vy)), (4, .ref wa)]) hx hb dL_wants_167 hl (by decide) rfl (fun ls hl => ?_)
        refine lv_iload hx hb dL_wants_169 (lv_at hl 6 rfl) ?_
        refine lv_if_eq (tgt := 208) hx hb dL_wants_171 (by decide) (fun _ => ?_) (fun c_25 => absurd c_25 (by decide))
        refine lv_iload hx hb dL_wants_208 (lv_at hl 6 rfl) ?_
        refine lv_if_eq (tgt := 239) hx hb dL_wants_210 (by decide) (fun _ => ?_) (fun c_26 => absurd c_26 (by decide))
        refine lv_iload hx hb dL_wants_239 (lv_at hl 6 rfl) ?_
        refine lv_if_eq (tgt := 257) hx hb dL_wants_241 (by decide) (fun _ => ?_) (fun c_27 => absurd c_27 (by decide))
        refine lv_iload hx hb dL_wants_257 (lv_at hl 0 rfl) ?_
        refine lv_iload hx hb dL_wants_259 (lv_at hl 6 rfl) ?_
        refine lv_if_ne (tgt := 269) hx hb dL_wants_261 (by decide) (fun c_28 => absurd c_28 (by decide)) (fun _ => ?_)
        refine lv_bipush (v := (-8)) hx hb dL_wants_264 (by decide) ?_
        refine lv_goto (tgt := 280) hx hb dL_wants_266 (by decide) ?_
        refine lv_icmp_ne (tgt := 306) hx hb dL_wants_280 (by decide) (fun c_29 => absurd c_29 (by decide)) (fun _ => ?_)
        refine lv_aload_n hx hb dL_wants_283 rfl (lv_at hl 10 rfl) ?_
        refine lv_iconst (v := 0) hx hb dL_wants_284 (by decide) ?_
        have hPc := hP.sub (ws' := [(o, .inr (4, [.ref F, .ref G, .int (nI qv), .int nw, .int se, .ref (pa 0), .ref an, .ref ln])), cE y yv]) [0, 10] rfl
        have hDc := hD.sub (ws' := [(o, .inr (4, [.ref F, .ref G, .int (nI qv), .int nw, .int se, .ref (pa 0), .ref an, .ref ln])), cE y yv]) [0, 10] (by decide) rfl
        have hFc := va_free (wc := [(o, .inr (4, [.ref F, .ref G, .int (nI qv), .int nw, .int se, .ref (pa 0), .ref an, .ref ln])), cE y yv]) hD hS hA [0, 10] rfl
        refine va_calli (va_runV (As := [.int 0]) (rest := []) ⟨hx, hb, hml, hown, hts⟩ (c_X3_state_k l D cA H.size o F G (nI qv) nw se pa an ln y (x 0) 0 yv (by first | exact he | exact en_flip he | exact en_01 he | exact en_10 he)) (cwV 1 hts gL_wants_X3_state rfl rfl rfl (by decide +kernel) ⟨Nat.le_of_ble_eq_true rfl, Nat.le_of_ble_eq_true rfl⟩) ⟨zU_blind, va_recv hK hPc (ci := 4) (q0 := 0) rfl rfl, fun U hU hW => ⟨rfl, zU_call hU hPc hW.alike hK hDc⟩⟩ rfl rfl hl.1 rfl (lv_room (Nat.le_of_ble_eq_true rfl)) dL_wants_285 ⟨Nat.le_of_ble_eq_true rfl, Nat.le_of_ble_eq_true rfl⟩) hS (fun q _ h => hFc q h) hFc (fun zr u t H1 locs ht hvm hw hB hz1 hk1 hS => ?_)
        obtain ⟨hP1, hD1⟩ := hB
        rw [ht] at hP1
        obtain ⟨hP, hD⟩ := va_join (wr := [cE x xv, (x 1, .inl (cA 0, 4, .inl (xd 0))), (x 2, .inl (cA 0, 4, .inl (xd 1))), (x 3, .inl (cA 0, 4, .inl (xd 2))), (x 4, .inl (cA 0, 4, .inl (xd 3))), (x 5, .inl (cA 0, 4, .inl (xd 4))), (x 6, .inl (cA 1, 4, .inl (xd 5))), (x 7, .inl (cA 0, 4, .inl (xd 6))), (x 8, .inl (cA 0, 4, .inl (xd 7))), (wa, .inl (cA 0, 48, .inl ww))]) (w1 := [(o, .inr (4, [.ref F, .ref G, .int (nI qv), .int nw, .int se, .ref (pa 0), .ref an, .ref ln])), cE y yv]) hP hD [0, 10] [1, 2, 3, 4, 5, 6, 7, 8, 9, 11] rfl rfl (by decide) (by decide) hk1 hFc hP1 hD1
        generalize H1 = H at hP hS ⊢
        have hP := hP.sub (ws' := [(o, .inr (4, [.ref F, .ref G, .int (nI qv), .int nw, .int se, .ref (pa 0), .ref an, .ref ln])), cE x xv, (x 1, .inl (cA 0, 4, .inl (xd 0))), (x 2, .inl (cA 0, 4, .inl (xd 1))), (x 3, .inl (cA 0, 4, .inl (xd 2))), (x 4, .inl (cA 0, 4, .inl (xd 3))), (x 5, .inl (cA 0, 4, .inl (xd 4))), (x 6, .inl (cA 1, 4, .inl (xd 5))), (x 7, .inl (cA 0, 4, .inl (xd 6))), (x 8, .inl (cA 0, 4, .inl (xd 7))), cE y yv, (wa, .inl (cA 0, 48, .inl ww))]) [10, 0, 1, 2, 3, 4, 5, 6, 7, 8, 11, 9] rfl
        have hD := hD.sub (ws' := [(o, .inr (4, [.ref F, .ref G, .int (nI qv), .int nw, .int se, .ref (pa 0), .ref an, .ref ln])), cE x xv, (x 1, .inl (cA 0, 4, .inl (xd 0))), (x 2, .inl (cA 0, 4, .inl (xd 1))), (x 3, .inl (cA 0, 4, .inl (xd 2))), (x 4, .inl (cA 0, 4, .inl (xd 3))), (x 5, .inl (cA 0, 4, .inl (xd 4))), (x 6, .inl (cA 1, 4, .inl (xd 5))), (x 7, .inl (cA 0, 4, .inl (xd 6))), (x 8, .inl (cA 0, 4, .inl (xd 7))), cE y yv, (wa, .inl (cA 0, 48, .inl ww))]) [10, 0, 1, 2, 3, 4, 5, 6, 7, 8, 11, 9] (by decide) rfl
        clear hPc hDc hFc hP1 hD1 hk1 hz1
        have hw_30 := hw
        obtain rfl := hw
        refine z_top (y := (nI sy)) hy0 ?_
        refine lv_bipush (v := 8) hx hb dL_wants_288 (by decide) ?_
        refine lv_aload_n hx hb dL_wants_290 rfl (lv_at hl 10 rfl) ?_
        refine lv_iconst (v := 1) hx hb dL_wants_291 (by decide) ?_
        have hPc := hP.sub (ws' := [(o, .inr (4, [.ref F, .ref G, .int (nI qv), .int nw, .int se, .ref (pa 0), .ref an, .ref ln])), cE x xv]) [0, 1] rfl
        have hDc := hD.sub (ws' := [(o, .inr (4, [.ref F, .ref G, .int (nI qv), .int nw, .int se, .ref (pa 0), .ref an, .ref ln])), cE x xv]) [0, 1] (by decide) rfl
        have hFc := va_free (wc := [(o, .inr (4, [.ref F, .ref G, .int (nI qv), .int nw, .int se, .ref (pa 0), .ref an, .ref ln])), cE x xv]) hD hS hA [0, 1] rfl
        refine va_calli (va_runV (As := [.int 1]) (rest := [.int 8, .int (nI sy)]) ⟨hx, hb, hml, hown, hts⟩ (c_X3_state_k l D cA H.size o F G (nI qv) nw se pa an ln x (y 0) 1 xv (by first | exact he | exact en_flip he | exact en_01 he | exact en_10 he)) (cwV 1 hts gL_wants_X3_state rfl rfl rfl (by decide +kernel) ⟨Nat.le_of_ble_eq_true rfl, Nat.le_of_ble_eq_true rfl⟩) ⟨zU_blind, va_recv hK hPc (ci := 4) (q0 := 0) rfl rfl, fun U hU hW => ⟨rfl, zU_call hU hPc hW.alike hK hDc⟩⟩ rfl rfl hl.1 rfl (lv_room (Nat.le_of_ble_eq_true rfl)) dL_wants_292 ⟨Nat.le_of_ble_eq_true rfl, Nat.le_of_ble_eq_true rfl⟩) hS (fun q _ h => hFc q h) hFc (fun zr u t H1 locs ht hvm hw hB hz1 hk1 hS => ?_)
        obtain ⟨hP1, hD1⟩ := hB
        rw [ht] at hP1
        obtain ⟨hP, hD⟩ := va_join (wr := [(x 1, .inl (cA 0, 4, .inl (xd 0))), (x 2, .inl (cA 0, 4, .inl (xd 1))), (x 3, .inl (cA 0, 4, .inl (xd 2))), (x 4, .inl (cA 0, 4, .inl (xd 3))), (x 5, .inl (cA 0, 4, .inl (xd 4))), (x 6, .inl (cA 1, 4, .inl (xd 5))), (x 7, .inl (cA 0, 4, .inl (xd 6))), (x 8, .inl (cA 0, 4, .inl (xd 7))), cE y yv, (wa, .inl (cA 0, 48, .inl ww))]) (w1 := [(o, .inr (4, [.ref F, .ref G, .int (nI qv), .int nw, .int se, .ref (pa 0), .ref an, .ref ln])), cE x xv]) hP hD [0, 1] [2, 3, 4, 5, 6, 7, 8, 9, 10, 11] rfl rfl (by decide) (by decide) hk1 hFc hP1 hD1
        generalize H1 = H at hP hS ⊢
        have hP := hP.sub (ws' := [(o, .inr (4, [.ref F, .ref G, .int (nI qv), .int nw, .int se, .ref (pa 0), .ref an, .ref ln])), cE x xv, (x 1, .inl (cA 0, 4, .inl (xd 0))), (x 2, .inl (cA 0, 4, .inl (xd 1))), (x 3, .inl (cA 0, 4, .inl (xd 2))), (x 4, .inl (cA 0, 4, .inl (xd 3))), (x 5, .inl (cA 0, 4, .inl (xd 4))), (x 6, .inl (cA 1, 4, .inl (xd 5))), (x 7, .inl (cA 0, 4, .inl (xd 6))), (x 8, .inl (cA 0, 4, .inl (xd 7))), cE y yv, (wa, .inl (cA 0, 48, .inl ww))]) [10, 11, 0, 1, 2, 3, 4, 5, 6, 7, 8, 9] rfl
        have hD := hD.sub (ws' := [(o, .inr (4, [.ref F, .ref G, .int (nI qv), .int nw, .int se, .ref (pa 0), .ref an, .ref ln])), cE x xv, (x 1, .inl (cA 0, 4, .inl (xd 0))), (x 2, .inl (cA 0, 4, .inl (xd 1))), (x 3, .inl (cA 0, 4, .inl (xd 2))), (x 4, .inl (cA 0, 4, .inl (xd 3))), (x 5, .inl (cA 0, 4, .inl (xd 4))), (x 6, .inl (cA 1, 4, .inl (xd 5))), (x 7, .inl (cA 0, 4, .inl (xd 6))), (x 8, .inl (cA 0, 4, .inl (xd 7))), cE y yv, (wa, .inl (cA 0, 48, .inl ww))]) [10, 11, 0, 1, 2, 3, 4, 5, 6, 7, 8, 9] (by decide) rfl
        clear hPc hDc hFc hP1 hD1 hk1 hz1
        have hw_31 := hw
        obtain rfl := hw
        refine z_top (y := (nI sx)) hx0 ?_
        refine lv_imul hx hb dL_wants_295 ?_
        refine z_top (y := (nI (8 * sx))) (z_mul 8 sx) ?_
        refine lv_iadd hx hb dL_wants_296 ?_
        refine z_top (y := (nI (sy + 8 * sx))) (z_add sy (8 * sx)) ?_
        refine lv_iload hx hb dL_wants_297 (lv_at hl 2 rfl) ?_
        refine lv_icmp_ne (tgt := 306) hx hb dL_wants_299 (by decide) (fun c_32 => absurd rfl c_32) (fun _ => ?_)
        refine lv_iconst (v := 1) hx hb dL_wants_302 (by decide) ?_
        refine lv_goto (tgt := 307) hx hb dL_wants_303 (by decide) ?_
        refine W.widen (k := 1) (n := 6) (by omega) (by omega) ?_
        exact W.zret (v := 1) hx hb hr rfl (fun t ht hW => ⟨⟨1, (xd, ww), rfl, ⟨⟨sx, kx, tx, sy, ky, ty, hI, by omega, by omega⟩, hWr, hWr2, rfl⟩, ⟨by rw [ht]; exact hP, by rw [hAe]; exact hD⟩⟩, hS.F ht⟩) hS.2.2 dL_wants_307
      · skip
        refine lv_iload_n hx hb dL_wants_69 rfl (lv_at hl 8 rfl) ?_
        refine lv_bipush (v := 8) hx hb dL_wants_70 (by decide) ?_
        refine lv_idiv hx hb dL_wants_72 (by decide) ?_
        refine z_top (y := (nI (vx / 8))) (z_div (a := vx) (d := 8) (by omega) (by omega) (by omega)) ?_
        refine lv_iconst (v := 3) hx hb dL_wants_73 (by decide) ?_
        refine lv_irem hx hb dL_wants_74 (by decide) ?_
        refine z_top (y := (nI ((vx / 8) % 3))) (z_rem (a := (vx / 8)) (d := 3) (by omega) (by omega) (by omega)) ?_
        refine lv_if_ne (tgt := 82) hx hb dL_wants_75 (by decide) (fun c_33 => ?_) (fun c_33 => ?_)
        · have c_33 := mt (nI_eq (a := (vx / 8) % 3) (b := 0) (by omega) (by omega)).mpr c_33
          refine lv_iload hx hb dL_wants_82 (lv_at hl 1 rfl) ?_
          refine lv_iload_n hx hb dL_wants_84 rfl (lv_at hl 8 rfl) ?_
          refine lv_bipush (v := 24) hx hb dL_wants_85 (by decide) ?_
          refine lv_idiv hx hb dL_wants_87 (by decide) ?_
          refine z_top (y := (nI (vx / 24))) (z_div (a := vx) (d := 24) (by omega) (by omega) (by omega)) ?_
          refine lv_iload hx hb dL_wants_88 (lv_at hl 0 rfl) ?_
          refine lv_iload hx hb dL_wants_90 (lv_at hl 1 rfl) ?_
          refine lv_isub hx hb dL_wants_92 ?_
          refine z_top (y := (nI (lt + mz - lt))) (z_sub (by omega)) ?_
          refine lv_iconst (v := 1) hx hb dL_wants_93 (by decide) ?_
          refine lv_iadd hx hb dL_wants_94 ?_
          refine z_top (y := (nI (lt + mz - lt + 1))) (z_add (lt + mz - lt) 1) ?_
          refine lv_irem hx hb dL_wants_95 (nI_n0 (by omega) (by omega)) ?_
          refine z_top (y := (nI ((vx / 24) % (lt + mz - lt + 1)))) (z_rem (a := (vx / 24)) (d := (lt + mz - lt + 1)) (by omega) (by omega) (by omega)) ?_
          obtain ⟨wz, ewz, hwz⟩ := z_modv (vx / 24) (d := lt + mz - lt + 1) (by omega)
          refine z_top (y := (nI wz)) (congrArg nI ewz) ?_
          refine lv_iadd hx hb dL_wants_96 ?_
          refine z_top (y := (nI (lt + wz))) (z_add lt wz) ?_
          exact kJ _ _ _ _ ⟨(nI (lt + wz)), rfl, hP, hD, hS, lv_sub hl [0, 1, 2, 3, 4, 5, 6, 7, 8, 9, 10] rfl, (Or.inr (inr_nI (by omega) (by omega) (by omega))), (okv_nI (by omega))⟩
        · have c_33 := (nI_eq (a := (vx / 8) % 3) (b := 0) (by omega) (by omega)).mp c_33
          refine lv_iconst (v := (-1)) hx hb dL_wants_78 (by decide) ?_
          refine lv_goto (tgt := 97) hx hb dL_wants_79 (by decide) ?_
          exact kJ _ _ _ _ ⟨(-1), rfl, hP, hD, hS, lv_sub hl [0, 1, 2, 3, 4, 5, 6, 7, 8, 9, 10] rfl, (Or.inl rfl), (Or.inl rfl)⟩
    · skip
      refine lv_iload_n hx hb dL_wants_35 rfl (lv_at hl 7 rfl) ?_
      refine lv_iconst (v := 3) hx hb dL_wants_36 (by decide) ?_
      refine lv_irem hx hb dL_wants_37 (by decide) ?_
      refine z_top (y := (nI (vy % 3))) (z_rem (a := vy) (d := 3) (by omega) (by omega) (by omega)) ?_
      refine lv_if_ne (tgt := 45) hx hb dL_wants_38 (by decide) (fun c_34 => ?_) (fun c_34 => ?_)
      · have c_34 := mt (nI_eq (a := vy % 3) (b := 0) (by omega) (by omega)).mpr c_34
        refine lv_iload_n hx hb dL_wants_45 rfl (lv_at hl 7 rfl) ?_
        refine lv_iconst (v := 3) hx hb dL_wants_46 (by decide) ?_
        refine lv_idiv hx hb dL_wants_47 (by decide) ?_
        refine z_top (y := (nI (vy / 3))) (z_div (a := vy) (d := 3) (by omega) (by omega) (by omega)) ?_
        refine lv_bipush (v := 101) hx hb dL_wants_48 (by decide) ?_
        refine lv_irem hx hb dL_wants_50 (by decide) ?_
        refine z_top (y := (nI ((vy / 3) % 101))) (z_rem (a := (vy / 3)) (d := 101) (by omega) (by omega) (by omega)) ?_
        exact kJ _ _ _ _ ⟨(vy / 3) % 101, rfl, hP, hD, hS, lv_sub hl [0, 1, 2, 3, 4, 5, 6, 7, 8] rfl, (by omega)⟩
      · have c_34 := (nI_eq (a := vy % 3) (b := 0) (by omega) (by omega)).mp c_34
        refine lv_iconst (v := 0) hx hb dL_wants_41 (by decide) ?_
        refine lv_goto (tgt := 51) hx hb dL_wants_42 (by decide) ?_
        exact kJ _ _ _ _ ⟨0, rfl, hP, hD, hS, lv_sub hl [0, 1, 2, 3, 4, 5, 6, 7, 8] rfl, (by omega)⟩
set_option maxHeartbeats 4000000 in
set_option maxRecDepth 100000 in
/-- wants(o, 2, x, y, w), the end 1 -/
theorem c_wants_12 (l : Launch) (D : va_G) (cA : Nat → ClassId) (zv : Nat → Nat) (sz : Nat) (o F G : Nat) (nw se : Int32) (pa : Nat → Nat) (an ln : Nat) (x y : Nat → Nat) (vx vy : Nat) (xv yv : Nat → Int32) (xr yr : Nat → Nat → Int32) (xf yf : Nat) (QX QY : Qt) (xd yd : Nat → Nat → Int32) (B gv qv : Nat) (wa : Nat) (ww : Nat → Int32) (hl0 : l.stackTraces = false) (he : en 1 F G (x 0) (y 0)) (hvx : vx % 2 = 1) (hvb : vx < 1073741824) (hvc : vy < 1073741824) (hPW : PW B gv qv xv xd QX yv yd QY) (hWr : WRe 1 xd ww) (hWr2 : WRe 0 yd ww) : Met l yL_wants wsL_wants ({ frames := 11, cells := 1, slots := 6, locals := 172 }) (va_Pc [.ref o, .int 2, .int (nI vx), .int (nI vy), .ref wa] (zUX D cA zv sz [(o, .inr (4, [.ref F, .ref G, .int (nI qv), .int nw, .int se, .ref (pa 0), .ref an, .ref ln])), cE x xv, (x 1, .inl (cA 0, 4, .inl (xd 0))), (x 2, .inl (cA 0, 4, .inl (xd 1))), (x 3, .inl (cA 0, 4, .inl (xd 2))), (x 4, .inl (cA 0, 4, .inl (xd 3))), (x 5, .inl (cA 0, 4, .inl (xd 4))), (x 6, .inl (cA 1, 4, .inl (xd 5))), (x 7, .inl (cA 0, 4, .inl (xd 6))), (x 8, .inl (cA 0, 4, .inl (xd 7))), cE y yv, (wa, .inl (cA 0, 48, .inl ww))])) (va_Qi (fun (r : Int32) (u : ((Nat → Nat → Int32) × (Nat → Int32))) => PW (B + 1) gv qv xv u.1 QX yv yd QY ∧ WRe 1 u.1 u.2 ∧ WRe 0 yd u.2 ∧ r = 1) (fun (u : ((Nat → Nat → Int32) × (Nat → Int32))) t => zB D [(o, .inr (4, [.ref F, .ref G, .int (nI qv), .int nw, .int se, .ref (pa 0), .ref an, .ref ln])), cE x xv, (x 1, .inl (cA 0, 4, .inl (xd 0))), (x 2, .inl (cA 0, 4, .inl (xd 1))), (x 3, .inl (cA 0, 4, .inl (xd 2))), (x 4, .inl (cA 0, 4, .inl (xd 3))), (x 5, .inl (cA 0, 4, .inl (xd 4))), (x 6, .inl (cA 1, 4, .inl (xd 5))), (x 7, .inl (cA 0, 4, .inl (xd 6))), (x 8, .inl (cA 0, 4, .inl (xd 7))), cE y yv, (wa, .inl (cA 0, 48, .inl ww))] sz [(o, .inr (4, [.ref F, .ref G, .int (nI qv), .int nw, .int se, .ref (pa 0), .ref an, .ref ln])), cE x xv, (x 1, .inl (cA 0, 4, .inl (u.1 0))), (x 2, .inl (cA 0, 4, .inl (u.1 1))), (x 3, .inl (cA 0, 4, .inl (u.1 2))), (x 4, .inl (cA 0, 4, .inl (u.1 3))), (x 5, .inl (cA 0, 4, .inl (u.1 4))), (x 6, .inl (cA 1, 4, .inl (u.1 5))), (x 7, .inl (cA 0, 4, .inl (u.1 6))), (x 8, .inl (cA 0, 4, .inl (u.1 7))), cE y yv, (wa, .inl (cA 0, 48, .inl u.2))] t) (va_A [(o, .inr (4, [.ref F, .ref G, .int (nI qv), .int nw, .int se, .ref (pa 0), .ref an, .ref ln])), cE x xv, (x 1, .inl (cA 0, 4, .inl (xd 0))), (x 2, .inl (cA 0, 4, .inl (xd 1))), (x 3, .inl (cA 0, 4, .inl (xd 2))), (x 4, .inl (cA 0, 4, .inl (xd 3))), (x 5, .inl (cA 0, 4, .inl (xd 4))), (x 6, .inl (cA 1, 4, .inl (xd 5))), (x 7, .inl (cA 0, 4, .inl (xd 6))), (x 8, .inl (cA 0, 4, .inl (xd 7))), cE y yv, (wa, .inl (cA 0, 48, .inl ww))] sz)) 1 6 (va_A [(o, .inr (4, [.ref F, .ref G, .int (nI qv), .int nw, .int se, .ref (pa 0), .ref an, .ref ln])), cE x xv, (x 1, .inl (cA 0, 4, .inl (xd 0))), (x 2, .inl (cA 0, 4, .inl (xd 1))), (x 3, .inl (cA 0, 4, .inl (xd 2))), (x 4, .inl (cA 0, 4, .inl (xd 3))), (x 5, .inl (cA 0, 4, .inl (xd 4))), (x 6, .inl (cA 1, 4, .inl (xd 5))), (x 7, .inl (cA 0, 4, .inl (xd 6))), (x 8, .inl (cA 0, 4, .inl (xd 7))), cE y yv, (wa, .inl (cA 0, 48, .inl ww))] sz) := by
  refine Met.ofW (cc := cL_wants) (maxL := 15) (ret := (some .boolean)) (by decide) rfl ?_
  intro p e s m args below meth c s₁ B hml hv
  obtain ⟨rfl, ⟨hsz, hP, hK, hD0, hE0⟩, hX0⟩ := hv
  have hx := B.exec
  have hb := B.bytes
  have hr := B.returns
  have hts := atoms_spec (ws := wsL_wants) B.pre
  have hown : s.vm.findClass RL = some m.cls := findClass_of_methodNamed B.named
  have hlocks := B.notSynchronized
  subst hsz
  have hD := hD0.self (sz := s.heap.size)
  generalize hAe : va_A [(o, .inr (4, [.ref F, .ref G, .int (nI qv), .int nw, .int se, .ref (pa 0), .ref an, .ref ln])), cE x xv, (x 1, .inl (cA 0, 4, .inl (xd 0))), (x 2, .inl (cA 0, 4, .inl (xd 1))), (x 3, .inl (cA 0, 4, .inl (xd 2))), (x 4, .inl (cA 0, 4, .inl (xd 3))), (x 5, .inl (cA 0, 4, .inl (xd 4))), (x 6, .inl (cA 1, 4, .inl (xd 5))), (x 7, .inl (cA 0, 4, .inl (xd 6))), (x 8, .inl (cA 0, 4, .inl (xd 7))), cE y yv, (wa, .inl (cA 0, 48, .inl ww))] s.heap.size = A at hD hE0 hX0 ⊢
  have hA : ∀ q : Nat, s.heap.size ≤ q → A q := fun q h => by rw [← hAe]; exact Or.inr h
  have hS : va_S A s.heap s.heap [] := va_S.rf
  have hl := lv_entry ([.ref o, .int 2, .int (nI vx), .int (nI vy), .ref wa]) (n := 15) (Nat.le_of_ble_eq_true rfl)
  rw [lg_entry_eq]
  generalize (lg_sl ([.ref o, .int 2, .int (nI vx), .int (nI vy), .ref wa]) ++ List.replicate (15 - (lg_sl ([.ref o, .int 2, .int (nI vx), .int (nI vy), .ref wa])).length) Slot.unset).toArray = ls at hl ⊢
  have hl : lv_has ls 15 [(0, .ref o), (1, .int 2), (2, .int (nI vx)), (3, .int (nI vy)), (4, .ref wa)] := hl
  obtain ⟨sx, kx, tx, sy, ky, ty, hI, hbx, hby⟩ := hPW
  obtain ⟨hx0, hx2, hx3, hx7, hx10, hx4⟩ := id hI.1.1
  obtain ⟨hy0, hy2, hy3, hy7, hy10, hy4⟩ := id hI.1.2
  have hQx := hI.2.2.2.1.1
  have hQy := hI.2.2.2.1.2
  have hq1 := hI.2.2.2.2.1
  refine lv_iload_n hx hb dL_wants_0 rfl (lv_at hl 2 rfl) ?_
  refine lv_iconst (v := 2) hx hb dL_wants_1 (by decide) ?_
  refine lv_irem hx hb dL_wants_2 (by decide) ?_
  refine z_top (y := (nI (vx % 2))) (z_rem (a := vx) (d := 2) (by omega) (by omega) (by omega)) ?_
  refine z_top (y := 1) (congrArg nI hvx) ?_
  refine lv_istore (lv' := [(5, .int 1), (0, .ref o), (1, .int 2), (2, .int (nI vx)), (3, .int (nI vy)), (4, .ref wa)]) hx hb dL_wants_3 hl (by decide) rfl (fun ls hl => ?_)
  refine lv_iload_n hx hb dL_wants_5 rfl (lv_at hl 3 rfl) ?_
  refine lv_iconst (v := 2) hx hb dL_wants_6 (by decide) ?_
  refine lv_idiv hx hb dL_wants_7 (by decide) ?_
  refine z_top (y := (nI (vx / 2))) (z_div (a := vx) (d := 2) (by omega) (by omega) (by omega)) ?_
  refine lv_iconst (v := 4) hx hb dL_wants_8 (by decide) ?_
  refine lv_irem hx hb dL_wants_9 (by decide) ?_
  refine z_top (y := (nI ((vx / 2) % 4))) (z_rem (a := (vx / 2)) (d := 4) (by omega) (by omega) (by omega)) ?_
  obtain ⟨op, eop, hop⟩ := z_modv (vx / 2) (d := 4) (by decide)
  refine z_top (y := (nI op)) (congrArg nI eop) ?_
  refine lv_istore (lv' := [(6, .int (nI op)), (5, .int 1), (0, .ref o), (1, .int 2), (2, .int (nI vx)), (3, .int (nI vy)), (4, .ref wa)]) hx hb dL_wants_10 hl (by decide) rfl (fun ls hl => ?_)
  refine lv_bipush (v := 6) hx hb dL_wants_12 (by decide) ?_
  refine lv_iconst (v := 4) hx hb dL_wants_14 (by decide) ?_
  refine lv_iload hx hb dL_wants_15 (lv_at hl 1 rfl) ?_
  refine lv_imul hx hb dL_wants_17 ?_
  refine z_top (y := 4) (by decide) ?_
  refine lv_iload hx hb dL_wants_18 (lv_at hl 0 rfl) ?_
  refine lv_iadd hx hb dL_wants_20 ?_
  refine z_top (y := (nI (4 + op))) (z_add 4 op) ?_
  refine lv_imul hx hb dL_wants_21 ?_
  refine z_top (y := (nI (6 * (4 + op)))) (z_mul 6 (4 + op)) ?_
  refine lv_istore (lv' := [(7, .int (nI (6 * (4 + op)))), (6, .int (nI op)), (5, .int 1), (0, .ref o), (1, .int 2), (2, .int (nI vx)), (3, .int (nI vy)), (4, .ref wa)]) hx hb dL_wants_22 hl (by decide) rfl (fun ls hl => ?_)
  refine lv_aload_n hx hb dL_wants_24 rfl (lv_at hl 3 rfl) ?_
  refine lv_iload hx hb dL_wants_25 (lv_at hl 2 rfl) ?_
  have hPc := hP.sub (ws' := [(o, .inr (4, [.ref F, .ref G, .int (nI qv), .int nw, .int se, .ref (pa 0), .ref an, .ref ln])), cE x xv]) [0, 1] rfl
  have hDc := hD.sub (ws' := [(o, .inr (4, [.ref F, .ref G, .int (nI qv), .int nw, .int se, .ref (pa 0), .ref an, .ref ln])), cE x xv]) [0, 1] (by decide) rfl
  have hFc := va_free (wc := [(o, .inr (4, [.ref F, .ref G, .int (nI qv), .int nw, .int se, .ref (pa 0), .ref an, .ref ln])), cE x xv]) hD hS hA [0, 1] rfl
  refine va_calli (va_runV (As := [.int 1]) (rest := []) ⟨hx, hb, hml, hown, hts⟩ (c_X3_state_k l D cA s.heap.size o F G (nI qv) nw se pa an ln x (y 0) 1 xv (by first | exact he | exact en_flip he | exact en_01 he | exact en_10 he)) (cwV 1 hts gL_wants_X3_state rfl rfl rfl (by decide +kernel) ⟨Nat.le_of_ble_eq_true rfl, Nat.le_of_ble_eq_true rfl⟩) ⟨zU_blind, va_recv hK hPc (ci := 4) (q0 := 0) rfl rfl, fun U hU hW => ⟨rfl, zU_call hU hPc hW.alike hK hDc⟩⟩ rfl rfl hl.1 rfl (lv_room (Nat.le_of_ble_eq_true rfl)) dL_wants_27 ⟨(Nat.zero_le _), (Nat.zero_le _)⟩) hS (fun q _ h => hFc q h) hFc (fun zr u t H1 locs ht hvm hw hB hz1 hk1 hS => ?_)
  obtain ⟨hP1, hD1⟩ := hB
  rw [ht] at hP1
  obtain ⟨hP, hD⟩ := va_join (wr := [(x 1, .inl (cA 0, 4, .inl (xd 0))), (x 2, .inl (cA 0, 4, .inl (xd 1))), (x 3, .inl (cA 0, 4, .inl (xd 2))), (x 4, .inl (cA 0, 4, .inl (xd 3))), (x 5, .inl (cA 0, 4, .inl (xd 4))), (x 6, .inl (cA 1, 4, .inl (xd 5))), (x 7, .inl (cA 0, 4, .inl (xd 6))), (x 8, .inl (cA 0, 4, .inl (xd 7))), cE y yv, (wa, .inl (cA 0, 48, .inl ww))]) (w1 := [(o, .inr (4, [.ref F, .ref G, .int (nI qv), .int nw, .int se, .ref (pa 0), .ref an, .ref ln])), cE x xv]) hP hD [0, 1] [2, 3, 4, 5, 6, 7, 8, 9, 10, 11] rfl rfl (by decide) (by decide) hk1 hFc hP1 hD1
  generalize H1 = H at hP hS ⊢
  have hP := hP.sub (ws' := [(o, .inr (4, [.ref F, .ref G, .int (nI qv), .int nw, .int se, .ref (pa 0), .ref an, .ref ln])), cE x xv, (x 1, .inl (cA 0, 4, .inl (xd 0))), (x 2, .inl (cA 0, 4, .inl (xd 1))), (x 3, .inl (cA 0, 4, .inl (xd 2))), (x 4, .inl (cA 0, 4, .inl (xd 3))), (x 5, .inl (cA 0, 4, .inl (xd 4))), (x 6, .inl (cA 1, 4, .inl (xd 5))), (x 7, .inl (cA 0, 4, .inl (xd 6))), (x 8, .inl (cA 0, 4, .inl (xd 7))), cE y yv, (wa, .inl (cA 0, 48, .inl ww))]) [10, 11, 0, 1, 2, 3, 4, 5, 6, 7, 8, 9] rfl
  have hD := hD.sub (ws' := [(o, .inr (4, [.ref F, .ref G, .int (nI qv), .int nw, .int se, .ref (pa 0), .ref an, .ref ln])), cE x xv, (x 1, .inl (cA 0, 4, .inl (xd 0))), (x 2, .inl (cA 0, 4, .inl (xd 1))), (x 3, .inl (cA 0, 4, .inl (xd 2))), (x 4, .inl (cA 0, 4, .inl (xd 3))), (x 5, .inl (cA 0, 4, .inl (xd 4))), (x 6, .inl (cA 1, 4, .inl (xd 5))), (x 7, .inl (cA 0, 4, .inl (xd 6))), (x 8, .inl (cA 0, 4, .inl (xd 7))), cE y yv, (wa, .inl (cA 0, 48, .inl ww))]) [10, 11, 0, 1, 2, 3, 4, 5, 6, 7, 8, 9] (by decide) rfl
  clear hPc hDc hFc hP1 hD1 hk1 hz1
  have hw_1 := hw
  obtain rfl := hw
  refine z_top (y := (nI sx)) hx0 ?_
  have hPc := hP.sub (ws' := []) [] rfl
  have hDc := hD.sub (ws' := []) [] (by decide) rfl
  have hFc := va_free (wc := []) hD hS hA [] rfl
  refine va_calli (va_runS (As := [.int (nI sx)]) (rest := []) ⟨hx, hb, hml, hown, hts⟩ (c_L_isShut l D cA H.size sx (by omega)) (va_cwS 1 hts gL_wants_L_isShut rfl rfl rfl (by decide +kernel) ⟨Nat.le_of_ble_eq_true rfl, Nat.le_of_ble_eq_true rfl⟩) ⟨zU_blind, fun U hU hW => ⟨rfl, zU_call hU hPc hW.alike hK hDc⟩⟩ rfl rfl hl.1 rfl (lv_room (Nat.le_of_ble_eq_true rfl)) dL_wants_30 ⟨(Nat.zero_le _), (Nat.zero_le _)⟩) hS (fun q _ h => hFc q h) hFc (fun zr u t H1 locs ht hvm hw hB hz1 hk1 hS => ?_)
  obtain ⟨hP1, hD1⟩ := hB
  rw [ht] at hP1
  obtain ⟨hP, hD⟩ := va_join (wr := [(o, .inr (4, [.ref F, .ref G, .int (nI qv), .int nw, .int se, .ref (pa 0), .ref an, .ref ln])), cE x xv, (x 1, .inl (cA 0, 4, .inl (xd 0))), (x 2, .inl (cA 0, 4, .inl (xd 1))), (x 3, .inl (cA 0, 4, .inl (xd 2))), (x 4, .inl (cA 0, 4, .inl (xd 3))), (x 5, .inl (cA 0, 4, .inl (xd 4))), (x 6, .inl (cA 1, 4, .inl (xd 5))), (x 7, .inl (cA 0, 4, .inl (xd 6))), (x 8, .inl (cA 0, 4, .inl (xd 7))), cE y yv, (wa, .inl (cA 0, 48, .inl ww))]) (w1 := []) hP hD [] [0, 1, 2, 3, 4, 5, 6, 7, 8, 9, 10, 11] rfl rfl (by decide) (by decide) hk1 hFc hP1 hD1
  generalize H1 = H at hP hS ⊢
  have hP := hP.sub (ws' := [(o, .inr (4, [.ref F, .ref G, .int (nI qv), .int nw, .int se, .ref (pa 0), .ref an, .ref ln])), cE x xv, (x 1, .inl (cA 0, 4, .inl (xd 0))), (x 2, .inl (cA 0, 4, .inl (xd 1))), (x 3, .inl (cA 0, 4, .inl (xd 2))), (x 4, .inl (cA 0, 4, .inl (xd 3))), (x 5, .inl (cA 0, 4, .inl (xd 4))), (x 6, .inl (cA 1, 4, .inl (xd 5))), (x 7, .inl (cA 0, 4, .inl (xd 6))), (x 8, .inl (cA 0, 4, .inl (xd 7))), cE y yv, (wa, .inl (cA 0, 48, .inl ww))]) [0, 1, 2, 3, 4, 5, 6, 7, 8, 9, 10, 11] rfl
  have hD := hD.sub (ws' := [(o, .inr (4, [.ref F, .ref G, .int (nI qv), .int nw, .int se, .ref (pa 0), .ref an, .ref ln])), cE x xv, (x 1, .inl (cA 0, 4, .inl (xd 0))), (x 2, .inl (cA 0, 4, .inl (xd 1))), (x 3, .inl (cA 0, 4, .inl (xd 2))), (x 4, .inl (cA 0, 4, .inl (xd 3))), (x 5, .inl (cA 0, 4, .inl (xd 4))), (x 6, .inl (cA 1, 4, .inl (xd 5))), (x 7, .inl (cA 0, 4, .inl (xd 6))), (x 8, .inl (cA 0, 4, .inl (xd 7))), cE y yv, (wa, .inl (cA 0, 48, .inl ww))]) [0, 1, 2, 3, 4, 5, 6, 7, 8, 9, 10, 11] (by decide) rfl
  clear hPc hDc hFc hP1 hD1 hk1 hz1
  have hw_2 := hw
  rcases z_bool hw with ⟨h_2, rfl⟩ | ⟨h_2, rfl⟩
  · skip
    refine lv_istore (lv' := [(8, .int 1), (7, .int (nI (6 * (4 + op)))), (6, .int (nI op)), (5, .int 1), (0, .ref o), (1, .int 2), (2, .int (nI vx)), (3, .int (nI vy)), (4, .ref wa)]) hx hb dL_wants_33 hl (by decide) rfl (fun ls hl => ?_)
    refine z_cut (Inv := fun H locs ls st => ∃ (lt : Nat), st = [.int (nI lt)] ∧ va_P D vwCl [(o, .inr (4, [.ref F, .ref G, .int (nI qv), .int nw, .int se, .ref (pa 0), .ref an, .ref ln])), cE x xv, (x 1, .inl (cA 0, 4, .inl (xd 0))), (x 2, .inl (cA 0, 4, .inl (xd 1))), (x 3, .inl (cA 0, 4, .inl (xd 2))), (x 4, .inl (cA 0, 4, .inl (xd 3))), (x 5, .inl (cA 0, 4, .inl (xd 4))), (x 6, .inl (cA 1, 4, .inl (xd 5))), (x 7, .inl (cA 0, 4, .inl (xd 6))), (x 8, .inl (cA 0, 4, .inl (xd 7))), cE y yv, (wa, .inl (cA 0, 48, .inl ww))] H ∧ va_D A [(o, .inr (4, [.ref F, .ref G, .int (nI qv), .int nw, .int se, .ref (pa 0), .ref an, .ref ln])), cE x xv, (x 1, .inl (cA 0, 4, .inl (xd 0))), (x 2, .inl (cA 0, 4, .inl (xd 1))), (x 3, .inl (cA 0, 4, .inl (xd 2))), (x 4, .inl (cA 0, 4, .inl (xd 3))), (x 5, .inl (cA 0, 4, .inl (xd 4))), (x 6, .inl (cA 1, 4, .inl (xd 5))), (x 7, .inl (cA 0, 4, .inl (xd 6))), (x 8, .inl (cA 0, 4, .inl (xd 7))), cE y yv, (wa, .inl (cA 0, 48, .inl ww))] ∧ va_S A s.heap H locs ∧ lv_has ls 15 [(8, .int 1), (7, .int (nI (6 * (4 + op)))), (6, .int (nI op)), (5, .int 1), (0, .ref o), (1, .int 2), (2, .int (nI vx)), (3, .int (nI vy)), (4, .ref wa)] ∧ lt ≤ 100) 51 (fun H locs ls st hQ9 => ?_) (fun kJ => ?_)
    · obtain ⟨lt, rfl, hP, hD, hS, hl, hlt⟩ := hQ9
      refine lv_istore (lv' := [(9, .int (nI lt)), (8, .int 1), (7, .int (nI (6 * (4 + op)))), (6, .int (nI op)), (5, .int 1), (0, .ref o), (1, .int 2), (2, .int (nI vx)), (3, .int (nI vy)), (4, .ref wa)]) hx hb dL_wants_51 hl (by decide) rfl (fun ls hl => ?_)
      refine lv_iload hx hb dL_wants_53 (lv_at hl 0 rfl) ?_
      refine lv_iload_n hx hb dL_wants_55 rfl (lv_at hl 8 rfl) ?_
      refine lv_sipush (v := 303) hx hb dL_wants_56 (by decide) ?_
      refine lv_idiv hx hb dL_wants_59 (by decide) ?_
      refine z_top (y := (nI (vy / 303))) (z_div (a := vy) (d := 303) (by omega) (by omega) (by omega)) ?_
      refine lv_bipush (v := 101) hx hb dL_wants_60 (by decide) ?_
      refine lv_iload hx hb dL_wants_62 (lv_at hl 0 rfl) ?_
      refine lv_isub hx hb dL_wants_64 ?_
      refine z_top (y := (nI (101 - lt))) (z_sub (a := 101) (b := lt) (by omega)) ?_
      refine lv_irem hx hb dL_wants_65 (nI_n0 (by omega) (by omega)) ?_
      refine z_top (y := (nI ((vy / 303) % (101 - lt)))) (z_rem (a := (vy / 303)) (d := (101 - lt)) (by omega) (by omega) (by omega)) ?_
      obtain ⟨mz, emz, hmz⟩ := z_modv (vy / 303) (d := 101 - lt) (by omega)
      refine z_top (y := (nI mz)) (congrArg nI emz) ?_
      refine lv_iadd hx hb dL_wants_66 ?_
      refine z_top (y := (nI (lt + mz))) (z_add lt mz) ?_
      refine lv_istore (lv' := [(10, .int (nI (lt + mz))), (9, .int (nI lt)), (8, .int 1), (7, .int (nI (6 * (4 + op)))), (6, .int (nI op)), (5, .int 1), (0, .ref o), (1, .int 2), (2, .int (nI vx)), (3, .int (nI vy)), (4, .ref wa)]) hx hb dL_wants_67 hl (by decide) rfl (fun ls hl => ?_)
      refine z_cut (Inv := fun H locs ls st => ∃ (wi : Int32), st = [.int wi] ∧ va_P D vwCl [(o, .inr (4, [.ref F, .ref G, .int (nI qv), .int nw, .int se, .ref (pa 0), .ref an, .ref ln])), cE x xv, (x 1, .inl (cA 0, 4, .inl (xd 0))), (x 2, .inl (cA 0, 4, .inl (xd 1))), (x 3, .inl (cA 0, 4, .inl (xd 2))), (x 4, .inl (cA 0, 4, .inl (xd 3))), (x 5, .inl (cA 0, 4, .inl (xd 4))), (x 6, .inl (cA 1, 4, .inl (xd 5))), (x 7, .inl (cA 0, 4, .inl (xd 6))), (x 8, .inl (cA 0, 4, .inl (xd 7))), cE y yv, (wa, .inl (cA 0, 48, .inl ww))] H ∧ va_D A [(o, .inr (4, [.ref F, .ref G, .int (nI qv), .int nw, .int se, .ref (pa 0), .ref an, .ref ln])), cE x xv, (x 1, .inl (cA 0, 4, .inl (xd 0))), (x 2, .inl (cA 0, 4, .inl (xd 1))), (x 3, .inl (cA 0, 4, .inl (xd 2))), (x 4, .inl (cA 0, 4, .inl (xd 3))), (x 5, .inl (cA 0, 4, .inl (xd 4))), (x 6, .inl (cA 1, 4, .inl (xd 5))), (x 7, .inl (cA 0, 4, .inl (xd 6))), (x 8, .inl (cA 0, 4, .inl (xd 7))), cE y yv, (wa, .inl (cA 0, 48, .inl ww))] ∧ va_S A s.heap H locs ∧ lv_has ls 15 [(10, .int (nI (lt + mz))), (9, .int (nI lt)), (8, .int 1), (7, .int (nI (6 * (4 + op)))), (6, .int (nI op)), (5, .int 1), (0, .ref o), (1, .int 2), (2, .int (nI vx)), (3, .int (nI vy)), (4, .ref wa)] ∧ (wi = -1 ∨ inr wi (nI lt) (nI (lt + mz))) ∧ okv wi) 97 (fun H locs ls st hQ9 => ?_) (fun kJ => ?_)
      · obtain ⟨wi, rfl, hP, hD, hS, hl, hwi, hwo⟩ := hQ9
        refine lv_istore (lv' := [(11, .int wi), (10, .int (nI (lt + mz))), (9, .int (nI lt)), (8, .int 1), (7, .int (nI (6 * (4 + op)))), (6, .int (nI op)), (5, .int 1), (0, .ref o), (1, .int 2), (2, .int (nI vx)), (3, .int (nI vy)), (4, .ref wa)]) hx hb dL_wants_97 hl (by decide) rfl (fun ls hl => ?_)
        refine lv_aload_n hx hb dL_wants_99 rfl (lv_at hl 7 rfl) ?_
        refine lv_iconst (v := 0) hx hb dL_wants_100 (by decide) ?_
        have hPc := hP.sub (ws' := [(o, .inr (4, [.ref F, .ref G, .int (nI qv), .int nw, .int se, .ref (pa 0), .ref an, .ref ln])), cE y yv]) [0, 10] rfl
        have hDc := hD.sub (ws' := [(o, .inr (4, [.ref F, .ref G, .int (nI qv), .int nw, .int se, .ref (pa 0), .ref an, .ref ln])), cE y yv]) [0, 10] (by decide) rfl
        have hFc := va_free (wc := [(o, .inr (4, [.ref F, .ref G, .int (nI qv), .int nw, .int se, .ref (pa 0), .ref an, .ref ln])), cE y yv]) hD hS hA [0, 10] rfl
        refine va_calli (va_runV (As := [.int 0]) (rest := []) ⟨hx, hb, hml, hown, hts⟩ (c_X3_state_k l D cA H.size o F G (nI qv) nw se pa an ln y (x 0) 0 yv (by first | exact he | exact en_flip he | exact en_01 he | exact en_10 he)) (cwV 1 hts gL_wants_X3_state rfl rfl rfl (by decide +kernel) ⟨Nat.le_of_ble_eq_true rfl, Nat.le_of_ble_eq_true rfl⟩) ⟨zU_blind, va_recv hK hPc (ci := 4) (q0 := 0) rfl rfl, fun U hU hW => ⟨rfl, zU_call hU hPc hW.alike hK hDc⟩⟩ rfl rfl hl.1 rfl (lv_room (Nat.le_of_ble_eq_true rfl)) dL_wants_101 ⟨(Nat.zero_le _), (Nat.zero_le _)⟩) hS (fun q _ h => hFc q h) hFc (fun zr u t H1 locs ht hvm hw hB hz1 hk1 hS => ?_)
        obtain ⟨hP1, hD1⟩ := hB
        rw [ht] at hP1
        obtain ⟨hP, hD⟩ := va_join (wr := [cE x xv, (x 1, .inl (cA 0, 4, .inl (xd 0))), (x 2, .inl (cA 0, 4, .inl (xd 1))), (x 3, .inl (cA 0, 4, .inl (xd 2))), (x 4, .inl (cA 0, 4, .inl (xd 3))), (x 5, .inl (cA 0, 4, .inl (xd 4))), (x 6, .inl (cA 1, 4, .inl (xd 5))), (x 7, .inl (cA 0, 4, .inl (xd 6))), (x 8, .inl (cA 0, 4, .inl (xd 7))), (wa, .inl (cA 0, 48, .inl ww))]) (w1 := [(o, .inr (4, [.ref F, .ref G, .int (nI qv), .int nw, .int se, .ref (pa 0), .ref an, .ref ln])), cE y yv]) hP hD [0, 10] [1, 2, 3, 4, 5, 6, 7, 8, 9, 11] rfl rfl (by decide) (by decide) hk1 hFc hP1 hD1
        generalize H1 = H at hP hS ⊢
        have hP := hP.sub (ws' := [(o, .inr (4, [.ref F, .ref G, .int (nI qv), .int nw, .int se, .ref (pa 0), .ref an, .ref ln])), cE x xv, (x 1, .inl (cA 0, 4, .inl (xd 0))), (x 2, .inl (cA 0, 4, .inl (xd 1))), (x 3, .inl (cA 0, 4, .inl (xd 2))), (x 4, .inl (cA 0, 4, .inl (xd 3))), (x 5, .inl (cA 0, 4, .inl (xd 4))), (x 6, .inl (cA 1, 4, .inl (xd 5))), (x 7, .inl (cA 0, 4, .inl (xd 6))), (x 8, .inl (cA 0, 4, .inl (xd 7))), cE y yv, (wa, .inl (cA 0, 48, .inl ww))]) [10, 0, 1, 2, 3, 4, 5, 6, 7, 8, 11, 9] rfl
        have hD := hD.sub (ws' := [(o, .inr (4, [.ref F, .ref G, .int (nI qv), .int nw, .int se, .ref (pa 0), .ref an, .ref ln])), cE x xv, (x 1, .inl (cA 0, 4, .inl (xd 0))), (x 2, .inl (cA 0, 4, .inl (xd 1))), (x 3, .inl (cA 0, 4, .inl (xd 2))), (x 4, .inl (cA 0, 4, .inl (xd 3))), (x 5, .inl (cA 0, 4, .inl (xd 4))), (x 6, .inl (cA 1, 4, .inl (xd 5))), (x 7, .inl (cA 0, 4, .inl (xd 6))), (x 8, .inl (cA 0, 4, .inl (xd 7))), cE y yv, (wa, .inl (cA 0, 48, .inl ww))]) [10, 0, 1, 2, 3, 4, 5, 6, 7, 8, 11, 9] (by decide) rfl
        clear hPc hDc hFc hP1 hD1 hk1 hz1
        have hw_3 := hw
        obtain rfl := hw
        refine z_top (y := (nI sy)) hy0 ?_
        refine lv_bipush (v := 8) hx hb dL_wants_104 (by decide) ?_
        refine lv_aload_n hx hb dL_wants_106 rfl (lv_at hl 7 rfl) ?_
        refine lv_iconst (v := 1) hx hb dL_wants_107 (by decide) ?_
        have hPc := hP.sub (ws' := [(o, .inr (4, [.ref F, .ref G, .int (nI qv), .int nw, .int se, .ref (pa 0), .ref an, .ref ln])), cE x xv]) [0, 1] rfl
        have hDc := hD.sub (ws' := [(o, .inr (4, [.ref F, .ref G, .int (nI qv), .int nw, .int se, .ref (pa 0), .ref an, .ref ln])), cE x xv]) [0, 1] (by decide) rfl
        have hFc := va_free (wc := [(o, .inr (4, [.ref F, .ref G, .int (nI qv), .int nw, .int se, .ref (pa 0), .ref an, .ref ln])), cE x xv]) hD hS hA [0, 1] rfl
        refine va_calli (va_runV (As := [.int 1]) (rest := [.int 8, .int (nI sy)]) ⟨hx, hb, hml, hown, hts⟩ (c_X3_state_k l D cA H.size o F G (nI qv) nw se pa an ln x (y 0) 1 xv (by first | exact he | exact en_flip he | exact en_01 he | exact en_10 he)) (cwV 1 hts gL_wants_X3_state rfl rfl rfl (by decide +kernel) ⟨Nat.le_of_ble_eq_true rfl, Nat.le_of_ble_eq_true rfl⟩) ⟨zU_blind, va_recv hK hPc (ci := 4) (q0 := 0) rfl rfl, fun U hU hW => ⟨rfl, zU_call hU hPc hW.alike hK hDc⟩⟩ rfl rfl hl.1 rfl (lv_room (Nat.le_of_ble_eq_true rfl)) dL_wants_108 ⟨(Nat.zero_le _), (Nat.zero_le _)⟩) hS (fun q _ h => hFc q h) hFc (fun zr u t H1 locs ht hvm hw hB hz1 hk1 hS => ?_)
        obtain ⟨hP1, hD1⟩ := hB
        rw [ht] at hP1
        obtain ⟨hP, hD⟩ := va_join (wr := [(x 1, .inl (cA 0, 4, .inl (xd 0))), (x 2, .inl (cA 0, 4, .inl (xd 1))), (x 3, .inl (cA 0, 4, .inl (xd 2))), (x 4, .inl (cA 0, 4, .inl (xd 3))), (x 5, .inl (cA 0, 4, .inl (xd 4))), (x 6, .inl (cA 1, 4, .inl (xd 5))), (x 7, .inl (cA 0, 4, .inl (xd 6))), (x 8, .inl (cA 0, 4, .inl (xd 7))), cE y yv, (wa, .inl (cA 0, 48, .inl ww))]) (w1 := [(o, .inr (4, [.ref F, .ref G, .int (nI qv), .int nw, .int se, .ref (pa 0), .ref an, .ref ln])), cE x xv]) hP hD [0, 1] [2, 3, 4, 5, 6, 7, 8, 9, 10, 11] rfl rfl (by decide) (by decide) hk1 hFc hP1 hD1
        generalize H1 = H at hP hS ⊢
        have hP := hP.sub (ws' := [(o, .inr (4, [.ref F, .ref G, .int (nI qv), .int nw, .int se, .ref (pa 0), .ref an, .ref ln])), cE x xv, (x 1, .inl (cA 0, 4, .inl (xd 0))), (x 2, .inl (cA 0, 4, .inl (xd 1))), (x 3, .inl (cA 0, 4, .inl (xd 2))), (x 4, .inl (cA 0, 4, .inl (xd 3))), (x 5, .inl (cA 0, 4, .inl (xd 4))), (x 6, .inl (cA 1, 4, .inl (xd 5))), (x 7, .inl (cA 0, 4, .inl (xd 6))), (x 8, .inl (cA 0, 4, .inl (xd 7))), cE y yv, (wa, .inl (cA 0, 48, .inl ww))]) [10, 11, 0, 1, 2, 3, 4, 5, 6, 7, 8, 9] rfl
        have hD := hD.sub (ws' := [(o, .inr (4, [.ref F, .ref G, .int (nI qv), .int nw, .int se, .ref (pa 0), .ref an, .ref ln])), cE x xv, (x 1, .inl (cA 0, 4, .inl (xd 0))), (x 2, .inl (cA 0, 4, .inl (xd 1))), (x 3, .inl (cA 0, 4, .inl (xd 2))), (x 4, .inl (cA 0, 4, .inl (xd 3))), (x 5, .inl (cA 0, 4, .inl (xd 4))), (x 6, .inl (cA 1, 4, .inl (xd 5))), (x 7, .inl (cA 0, 4, .inl (xd 6))), (x 8, .inl (cA 0, 4, .inl (xd 7))), cE y yv, (wa, .inl (cA 0, 48, .inl ww))]) [10, 11, 0, 1, 2, 3, 4, 5, 6, 7, 8, 9] (by decide) rfl
        clear hPc hDc hFc hP1 hD1 hk1 hz1
        have hw_4 := hw
        obtain rfl := hw
        refine z_top (y := (nI sx)) hx0 ?_
        refine lv_imul hx hb dL_wants_111 ?_
        refine z_top (y := (nI (8 * sx))) (z_mul 8 sx) ?_
        refine lv_iadd hx hb dL_wants_112 ?_
        refine z_top (y := (nI (sy + 8 * sx))) (z_add sy (8 * sx)) ?_
        refine lv_istore (lv' := [(12, .int (nI (sy + 8 * sx))), (11, .int wi), (10, .int (nI (lt + mz))), (9, .int (nI lt)), (8, .int 1), (7, .int (nI (6 * (4 + op)))), (6, .int (nI op)), (5, .int 1), (0, .ref o), (1, .int 2), (2, .int (nI vx)), (3, .int (nI vy)), (4, .ref wa)]) hx hb dL_wants_113 hl (by decide) rfl (fun ls hl => ?_)
        refine lv_iload_n hx hb dL_wants_115 rfl (lv_at hl 9 rfl) ?_
        refine lv_if_ne (tgt := 129) hx hb dL_wants_116 (by decide) (fun _ => ?_) (fun c_5 => absurd c_5 (by decide))
        refine lv_aload hx hb dL_wants_129 (lv_at hl 12 rfl) ?_
        refine lv_iload hx hb dL_wants_131 (lv_at hl 5 rfl) ?_
        refine lv_iconst (v := 5) hx hb dL_wants_133 (by decide) ?_
        refine lv_iadd hx hb dL_wants_134 ?_
        refine z_top (y := (nI (6 * (4 + op) + 5))) (z_add (6 * (4 + op)) 5) ?_
        refine z_iald (k := (6 * (4 + op) + 5)) (v := ((xd 5) op)) hx hb hK hP 11 0 rfl rfl rfl (by omega) (by decide) (wr_at (hWr op hop).2.2.2 (by omega)) dL_wants_135 ?_
        refine lv_istore (lv' := [(13, .int ((xd 5) op)), (12, .int (nI (sy + 8 * sx))), (11, .int wi), (10, .int (nI (lt + mz))), (9, .int (nI lt)), (8, .int 1), (7, .int (nI (6 * (4 + op)))), (6, .int (nI op)), (5, .int 1), (0, .ref o), (1, .int 2), (2, .int (nI vx)), (3, .int (nI vy)), (4, .ref wa)]) hx hb dL_wants_136 hl (by decide) rfl (fun ls hl => ?_)
        refine lv_aload_n hx hb dL_wants_138 rfl (lv_at hl 9 rfl) ?_
        refine lv_iload_n hx hb dL_wants_139 rfl (lv_at hl 10 rfl) ?_
        refine lv_iload hx hb dL_wants_140 (lv_at hl 8 rfl) ?_
        refine lv_iload hx hb dL_wants_142 (lv_at hl 7 rfl) ?_
        refine lv_iload_n hx hb dL_wants_144 rfl (lv_at hl 10 rfl) ?_
        refine lv_iconst (v := 2) hx hb dL_wants_145 (by decide) ?_
        refine lv_icmp_ne (tgt := 158) hx hb dL_wants_146 (by decide) (fun c_6 => absurd c_6 (by decide)) (fun _ => ?_)
        refine lv_iload_n hx hb dL_wants_149 rfl (lv_at hl 11 rfl) ?_
        refine lv_bipush (v := 8) hx hb dL_wants_150 (by decide) ?_
        refine lv_idiv hx hb dL_wants_152 (by decide) ?_
        refine z_top (y := (nI (vx / 8))) (z_div (a := vx) (d := 8) (by omega) (by omega) (by omega)) ?_
        refine lv_iconst (v := 2) hx hb dL_wants_153 (by decide) ?_
        refine lv_irem hx hb dL_wants_154 (by decide) ?_
        refine z_top (y := (nI ((vx / 8) % 2))) (z_rem (a := (vx / 8)) (d := 2) (by omega) (by omega) (by omega)) ?_
        refine lv_goto (tgt := 160) hx hb dL_wants_155 (by decide) ?_
        refine lv_iload hx hb dL_wants_160 (lv_at hl 4 rfl) ?_
        refine lv_iload hx hb dL_wants_162 (lv_at hl 3 rfl) ?_
        have hPc := hP.sub (ws' := [(o, .inr (4, [.ref F, .ref G, .int (nI qv), .int nw, .int se, .ref (pa 0), .ref an, .ref ln])), cE x xv, (x 6, .inl (cA 1, 4, .inl (xd 5)))]) [0, 1, 7] rfl
        have hDc := hD.sub (ws' := [(o, .inr (4, [.ref F, .ref G, .int (nI qv), .int nw, .int se, .ref (pa 0), .ref an, .ref ln])), cE x xv, (x 6, .inl (cA 1, 4, .inl (xd 5)))]) [0, 1, 7] (by decide) rfl
        have hFc := va_free (wc := [(o, .inr (4, [.ref F, .ref G, .int (nI qv), .int nw, .int se, .ref (pa 0), .ref an, .ref ln])), cE x xv, (x 6, .inl (cA 1, 4, .inl (xd 5)))]) hD hS hA [0, 1, 7] rfl
        refine va_calli (vx_runSW (As := [.ref o, .int 2, .int 1, .int (nI op), .int (nI ((vx / 8) % 2)), .int (nI lt), .int (nI (lt + mz))]) (rest := []) ⟨hx, hb, hml, hown, hts⟩ (c_asks_refuse_k l D cA H.size o F G (nI qv) nw se pa an ln x (y 0) 1 xv op ((vx / 8) % 2) (xd 5) (nI lt) (nI (lt + mz)) (by first | exact he | exact en_flip he | exact en_01 he | exact en_10 he) hop (by omega) (hI.2.1.1.1 op hop).2.2.2.2.1 ((s_shut hI).mpr (by omega))) (vx_cwSW 7 hts gL_wants_L_asks rfl rfl rfl (by decide +kernel) ⟨Nat.le_of_ble_eq_true rfl, Nat.le_of_ble_eq_true rfl⟩) ⟨zU_blind, fun U hU hW => ⟨rfl, zU_call hU hPc hW.alike hK hDc⟩⟩ rfl rfl hl.1 rfl (lv_room (Nat.le_of_ble_eq_true rfl)) dL_wants_164 ⟨(Nat.zero_le _), (Nat.zero_le _)⟩) hS (fun q _ h => hFc q h) hFc (fun zr u t H1 locs ht hvm hw hB hz1 hk1 hS => ?_)
        obtain ⟨w5'_7, rfl⟩ : ∃ z, z = u := ⟨_, rfl⟩
        obtain ⟨hP1, hD1⟩ := hB
        rw [ht] at hP1
        try dsimp only at hw hP1 hD1
        obtain ⟨hP, hD⟩ := va_join (wr := [(x 1, .inl (cA 0, 4, .inl (xd 0))), (x 2, .inl (cA 0, 4, .inl (xd 1))), (x 3, .inl (cA 0, 4, .inl (xd 2))), (x 4, .inl (cA 0, 4, .inl (xd 3))), (x 5, .inl (cA 0, 4, .inl (xd 4))), (x 7, .inl (cA 0, 4, .inl (xd 6))), (x 8, .inl (cA 0, 4, .inl (xd 7))), cE y yv, (wa, .inl (cA 0, 48, .inl ww))]) (w1 := [(o, .inr (4, [.ref F, .ref G, .int (nI qv), .int nw, .int se, .ref (pa 0), .ref an, .ref ln])), cE x xv, (x 6, .inl (cA 1, 4, .inl w5'_7))]) hP hD [0, 1, 7] [2, 3, 4, 5, 6, 8, 9, 10, 11] rfl rfl (by decide) (by decide) hk1 hFc hP1 hD1
        generalize H1 = H at hP hS ⊢
        have hP := hP.sub (ws' := [(o, .inr (4, [.ref F, .ref G, .int (nI qv), .int nw, .int se, .ref (pa 0), .ref an, .ref ln])), cE x xv, (x 1, .inl (cA 0, 4, .inl (xd 0))), (x 2, .inl (cA 0, 4, .inl (xd 1))), (x 3, .inl (cA 0, 4, .inl (xd 2))), (x 4, .inl (cA 0, 4, .inl (xd 3))), (x 5, .inl (cA 0, 4, .inl (xd 4))), (x 6, .inl (cA 1, 4, .inl w5'_7)), (x 7, .inl (cA 0, 4, .inl (xd 6))), (x 8, .inl (cA 0, 4, .inl (xd 7))), cE y yv, (wa, .inl (cA 0, 48, .inl ww))]) [9, 10, 0, 1, 2, 3, 4, 11, 5, 6, 7, 8] rfl
        have hD := hD.sub (ws' := [(o, .inr (4, [.ref F, .ref G, .int (nI qv), .int nw, .int se, .ref (pa 0), .ref an, .ref ln])), cE x xv, (x 1, .inl (cA 0, 4, .inl (xd 0))), (x 2, .inl (cA 0, 4, .inl (xd 1))), (x 3, .inl (cA 0, 4, .inl (xd 2))), (x 4, .inl (cA 0, 4, .inl (xd 3))), (x 5, .inl (cA 0, 4, .inl (xd 4))), (x 6, .inl (cA 1, 4, .inl w5'_7)), (x 7, .inl (cA 0, 4, .inl (xd 6))), (x 8, .inl (cA 0, 4, .inl (xd 7))), cE y yv, (wa, .inl (cA 0, 48, .inl ww))]) [9, 10, 0, 1, 2, 3, 4, 11, 5, 6, 7, 8] (by decide) rfl
        clear hPc hDc hFc hP1 hD1 hk1 hz1
        obtain ⟨rfl, hw⟩ := hw
        have hw_7 := hw
        obtain rfl := hw
        refine lv_istore (lv' := [(14, .int ((xd 5) op)), (13, .int ((xd 5) op)), (12, .int (nI (sy + 8 * sx))), (11, .int wi), (10, .int (nI (lt + mz))), (9, .int (nI lt)), (8, .int 1), (7, .int (nI (6 * (4 + op)))), (6, .int (nI op)), (5, .int 1), (0, .ref o), (1, .int 2), (2, .int (nI vx)), (3, .int (nI vy)), (4, .ref wa)]) hx hb dL_wants_167 hl (by decide) rfl (fun ls hl => ?_)
        refine lv_iload hx hb dL_wants_169 (lv_at hl 6 rfl) ?_
        refine lv_if_eq (tgt := 208) hx hb dL_wants_171 (by decide) (fun c_8 => absurd c_8 (by decide)) (fun _ => ?_)
        refine lv_iload_n hx hb dL_wants_174 rfl (lv_at hl 11 rfl) ?_
        refine lv_if_ne (tgt := 208) hx hb dL_wants_175 (by decide) (fun _ => ?_) (fun c_9 => absurd c_9 (by decide))
        refine lv_iload hx hb dL_wants_208 (lv_at hl 6 rfl) ?_
        refine lv_if_eq (tgt := 239) hx hb dL_wants_210 (by decide) (fun c_10 => absurd c_10 (by decide)) (fun _ => ?_)
        refine lv_iload_n hx hb dL_wants_213 rfl (lv_at hl 11 rfl) ?_
        refine lv_iconst (v := 1) hx hb dL_wants_214 (by decide) ?_
        refine lv_icmp_ne (tgt := 239) hx hb dL_wants_215 (by decide) (fun _ => ?_) (fun c_11 => absurd c_11 (by decide))
        refine lv_iload hx hb dL_wants_239 (lv_at hl 6 rfl) ?_
        refine lv_if_eq (tgt := 257) hx hb dL_wants_241 (by decide) (fun c_12 => absurd c_12 (by decide)) (fun _ => ?_)
        refine lv_aload hx hb dL_wants_244 (lv_at hl 14 rfl) ?_
        refine lv_iload hx hb dL_wants_246 (lv_at hl 7 rfl) ?_
        refine lv_iconst (v := 5) hx hb dL_wants_248 (by decide) ?_
        refine lv_iadd hx hb dL_wants_249 ?_
        refine z_top (y := (nI (6 * (4 + op) + 5))) (z_add (6 * (4 + op)) 5) ?_
        refine lv_iload_n hx hb dL_wants_250 rfl (lv_at hl 12 rfl) ?_
        refine lv_bipush (v := 8) hx hb dL_wants_251 (by decide) ?_
        refine lv_idiv hx hb dL_wants_253 (by decide) ?_
        refine z_top (y := (nI (vx / 8))) (z_div (a := vx) (d := 8) (by omega) (by omega) (by omega)) ?_
        refine lv_iconst (v := 2) hx hb dL_wants_254 (by decide) ?_
        refine lv_irem hx hb dL_wants_255 (by decide) ?_
        refine z_top (y := (nI ((vx / 8) % 2))) (z_rem (a := (vx / 8)) (d := 2) (by omega) (by omega) (by omega)) ?_
        refine z_iast (k := (6 * (4 + op) + 5)) hx hb hK hP hD hS 11 0 rfl rfl rfl (by omega) (by decide) dL_wants_256 (fun H locs hP hD hS => ?_)
        have hP : va_P D vwCl [(o, .inr (4, [.ref F, .ref G, .int (nI qv), .int nw, .int se, .ref (pa 0), .ref an, .ref ln])), cE x xv, (x 1, .inl (cA 0, 4, .inl (xd 0))), (x 2, .inl (cA 0, 4, .inl (xd 1))), (x 3, .inl (cA 0, 4, .inl (xd 2))), (x 4, .inl (cA 0, 4, .inl (xd 3))), (x 5, .inl (cA 0, 4, .inl (xd 4))), (x 6, .inl (cA 1, 4, .inl (upd (xd 5) op (nI ((vx / 8) % 2))))), (x 7, .inl (cA 0, 4, .inl (xd 6))), (x 8, .inl (cA 0, 4, .inl (xd 7))), cE y yv, (wa, .inl (cA 0, 48, .inl (upd ww (6 * (4 + op) + 5) (nI ((vx / 8) % 2)))))] H := hP
        have hD : va_D A [(o, .inr (4, [.ref F, .ref G, .int (nI qv), .int nw, .int se, .ref (pa 0), .ref an, .ref ln])), cE x xv, (x 1, .inl (cA 0, 4, .inl (xd 0))), (x 2, .inl (cA 0, 4, .inl (xd 1))), (x 3, .inl (cA 0, 4, .inl (xd 2))), (x 4, .inl (cA 0, 4, .inl (xd 3))), (x 5, .inl (cA 0, 4, .inl (xd 4))), (x 6, .inl (cA 1, 4, .inl (upd (xd 5) op (nI ((vx / 8) % 2))))), (x 7, .inl (cA 0, 4, .inl (xd 6))), (x 8, .inl (cA 0, 4, .inl (xd 7))), cE y yv, (wa, .inl (cA 0, 48, .inl (upd ww (6 * (4 + op) + 5) (nI ((vx / 8) % 2)))))] := hD
        refine lv_iload hx hb dL_wants_257 (lv_at hl 0 rfl) ?_
        refine lv_iload hx hb dL_wants_259 (lv_at hl 6 rfl) ?_
        refine lv_if_ne (tgt := 269) hx hb dL_wants_261 (by decide) (fun _ => ?_) (fun c_13 => absurd c_13 (by decide))
        refine lv_iload_n hx hb dL_wants_269 rfl (lv_at hl 11 rfl) ?_
        refine lv_iconst (v := 1) hx hb dL_wants_270 (by decide) ?_
        refine lv_icmp_ne (tgt := 278) hx hb dL_wants_271 (by decide) (fun _ => ?_) (fun c_14 => absurd c_14 (by decide))
        refine lv_iload hx hb dL_wants_278 (lv_at hl 1 rfl) ?_
        refine lv_icmp_ne (tgt := 306) hx hb dL_wants_280 (by decide) (fun c_15 => absurd rfl c_15) (fun _ => ?_)
        refine lv_aload_n hx hb dL_wants_283 rfl (lv_at hl 10 rfl) ?_
        refine lv_iconst (v := 0) hx hb dL_wants_284 (by decide) ?_
        have hPc := hP.sub (ws' := [(o, .inr (4, [.ref F, .ref G, .int (nI qv), .int nw, .int se, .ref (pa 0), .ref an, .ref ln])), cE y yv]) [0, 10] rfl
        have hDc := hD.sub (ws' := [(o, .inr (4, [.ref F, .ref G, .int (nI qv), .int nw, .int se, .ref (pa 0), .ref an, .ref ln])), cE y yv]) [0, 10] (by decide) rfl
        have hFc := va_free (wc := [(o, .inr (4, [.ref F, .ref G, .int (nI qv), .int nw, .int se, .ref (pa 0), .ref an, .ref ln])), cE y yv]) hD hS hA [0, 10] rfl
        refine va_calli (va_runV (As := [.int 0]) (rest := []) ⟨hx, hb, hml, hown, hts⟩ (c_X3_state_k l D cA H.size o F G (nI qv) nw se pa an ln y (x 0) 0 yv (by first | exact he | exact en_flip he | exact en_01 he | exact en_10 he)) (cwV 1 hts gL_wants_X3_state rfl rfl rfl (by decide +kernel) ⟨Nat.le_of_ble_eq_true rfl, Nat.le_of_ble_eq_true rfl⟩) ⟨zU_blind, va_recv hK hPc (ci := 4) (q0 := 0) rfl rfl, fun U hU hW => ⟨rfl, zU_call hU hPc hW.alike hK hDc⟩⟩ rfl rfl hl.1 rfl (lv_room (Nat.le_of_ble_eq_true rfl)) dL_wants_285 ⟨(Nat.zero_le _), (Nat.zero_le _)⟩) hS (fun q _ h => hFc q h) hFc (fun zr u t H1 locs ht hvm hw hB hz1 hk1 hS => ?_)
        obtain ⟨hP1, hD1⟩ := hB
        rw [ht] at hP1
        obtain ⟨hP, hD⟩ := va_join (wr := [cE x xv, (x 1, .inl (cA 0, 4, .inl (xd 0))), (x 2, .inl (cA 0, 4, .inl (xd 1))), (x 3, .inl (cA 0, 4, .inl (xd 2))), (x 4, .inl (cA 0, 4, .inl (xd 3))), (x 5, .inl (cA 0, 4, .inl (xd 4))), (x 6, .inl (cA 1, 4, .inl (upd (xd 5) op (nI ((vx / 8) % 2))))), (x 7, .inl (cA 0, 4, .inl (xd 6))), (x 8, .inl (cA 0, 4, .inl (xd 7))), (wa, .inl (cA 0, 48, .inl (upd ww (6 * (4 + op) + 5) (nI ((vx / 8) % 2)))))]) (w1 := [(o, .inr (4, [.ref F, .ref G, .int (nI qv), .int nw, .int se, .ref (pa 0), .ref an, .ref ln])), cE y yv]) hP hD [0, 10] [1, 2, 3, 4, 5, 6, 7, 8, 9, 11] rfl rfl (by decide) (by decide) hk1 hFc hP1 hD1
        generalize H1 = H at hP hS ⊢
        have hP := hP.sub (ws' := [(o, .inr (4, [.ref F, .ref G, .int (nI qv), .int nw, .int se, .ref (pa 0), .ref an, .ref ln])), cE x xv, (x 1, .inl (cA 0, 4, .inl (xd 0))), (x 2, .inl (cA 0, 4, .inl (xd 1))), (x 3, .inl (cA 0, 4, .inl (xd 2))), (x 4, .inl (cA 0, 4, .inl (xd 3))), (x 5, .inl (cA 0, 4, .inl (xd 4))), (x 6, .inl (cA 1, 4, .inl (upd (xd 5) op (nI ((vx / 8) % 2))))), (x 7, .inl (cA 0, 4, .inl (xd 6))), (x 8, .inl (cA 0, 4, .inl (xd 7))), cE y yv, (wa, .inl (cA 0, 48, .inl (upd ww (6 * (4 + op) + 5) (nI ((vx / 8) % 2)))))]) [10, 0, 1, 2, 3, 4, 5, 6, 7, 8, 11, 9] rfl
        have hD := hD.sub (ws' := [(o, .inr (4, [.ref F, .ref G, .int (nI qv), .int nw, .int se, .ref (pa 0), .ref an, .ref ln])), cE x xv, (x 1, .inl (cA 0, 4, .inl (xd 0))), (x 2, .inl (cA 0, 4, .inl (xd 1))), (x 3, .inl (cA 0, 4, .inl (xd 2))), (x 4, .inl (cA 0, 4, .inl (xd 3))), (x 5, .inl (cA 0, 4, .inl (xd 4))), (x 6, .inl (cA 1, 4, .inl (upd (xd 5) op (nI ((vx / 8) % 2))))), (x 7, .inl (cA 0, 4, .inl (xd 6))), (x 8, .inl (cA 0, 4, .inl (xd 7))), cE y yv, (wa, .inl (cA 0, 48, .inl (upd ww (6 * (4 + op) + 5) (nI ((vx / 8) % 2)))))]) [10, 0, 1, 2, 3, 4, 5, 6, 7, 8, 11, 9] (by decide) rfl
        clear hPc hDc hFc hP1 hD1 hk1 hz1
        have hw_16 := hw
        obtain rfl := hw
        refine z_top (y := (nI sy)) hy0 ?_
        refine lv_bipush (v := 8) hx hb dL_wants_288 (by decide) ?_
        refine lv_aload_n hx hb dL_wants_290 rfl (lv_at hl 10 rfl) ?_
        refine lv_iconst (v := 1) hx hb dL_wants_291 (by decide) ?_
        have hPc := hP.sub (ws' := [(o, .inr (4, [.ref F, .ref G, .int (nI qv), .int nw, .int se, .ref (pa 0), .ref an, .ref ln])), cE x xv]) [0, 1] rfl
        have hDc := hD.sub (ws' := [(o, .inr (4, [.ref F, .ref G, .int (nI qv), .int nw, .int se, .ref (pa 0), .ref an, .ref ln])), cE x xv]) [0, 1] (by decide) rfl
        have hFc := va_free (wc := [(o, .inr (4, [.ref F, .ref G, .int (nI qv), .int nw, .int se, .ref (pa 0), .ref an, .ref ln])), cE x xv]) hD hS hA [0, 1] rfl
        refine va_calli (va_runV (As := [.int 1]) (rest := [.int 8, .int (nI sy)]) ⟨hx, hb, hml, hown, hts⟩ (c_X3_state_k l D cA H.size o F G (nI qv) nw se pa an ln x (y 0) 1 xv (by first | exact he | exact en_flip he | exact en_01 he | exact en_10 he)) (cwV 1 hts gL_wants_X3_state rfl rfl rfl (by decide +kernel) ⟨Nat.le_of_ble_eq_true rfl, Nat.le_of_ble_eq_true rfl⟩) ⟨zU_blind, va_recv hK hPc (ci := 4) (q0 := 0) rfl rfl, fun U hU hW => ⟨rfl, zU_call hU hPc hW.alike hK hDc⟩⟩ rfl rfl hl.1 rfl (lv_room (Nat.le_of_ble_eq_true rfl)) dL_wants_292 ⟨(Nat.zero_le _), (Nat.zero_le _)⟩) hS (fun q _ h => hFc q h) hFc (fun zr u t H1 locs ht hvm hw hB hz1 hk1 hS => ?_)
        obtain ⟨hP1, hD1⟩ := hB
        rw [ht] at hP1
        obtain ⟨hP, hD⟩ := va_join (wr := [(x 1, .inl (cA 0, 4, .inl (xd 0))), (x 2, .inl (cA 0, 4, .inl (xd 1))), (x 3, .inl (cA 0, 4, .inl (xd 2))), (x 4, .inl (cA 0, 4, .inl (xd 3))), (x 5, .inl (cA 0, 4, .inl (xd 4))), (x 6, .inl (cA 1, 4, .inl (upd (xd 5) op (nI ((vx / 8) % 2))))), (x 7, .inl (cA 0, 4, .inl (xd 6))), (x 8, .inl (cA 0, 4, .inl (xd 7))), cE y yv, (wa, .inl (cA 0, 48, .inl (upd ww (6 * (4 + op) + 5) (nI ((vx / 8) % 2)))))]) (w1 := [(o, .inr (4, [.ref F, .ref G, .int (nI qv), .int nw, .int se, .ref (pa 0), .ref an, .ref ln])), cE x xv]) hP hD [0, 1] [2, 3, 4, 5, 6, 7, 8, 9, 10, 11] rfl rfl (by decide) (by decide) hk1 hFc hP1 hD1
        generalize H1 = H at hP hS ⊢
        have hP := hP.sub (ws' := [(o, .inr (4, [.ref F, .ref G, .int (nI qv), .int nw, .int se, .ref (pa 0), .ref an, .ref ln])), cE x xv, (x 1, .inl (cA 0, 4, .inl (xd 0))), (x 2, .inl (cA 0, 4, .inl (xd 1))), (x 3, .inl (cA 0, 4, .inl (xd 2))), (x 4, .inl (cA 0, 4, .inl (xd 3))), (x 5, .inl (cA 0, 4, .inl (xd 4))), (x 6, .inl (cA 1, 4, .inl (upd (xd 5) op (nI ((vx / 8) % 2))))), (x 7, .inl (cA 0, 4, .inl (xd 6))), (x 8, .inl (cA 0, 4, .inl (xd 7))), cE y yv, (wa, .inl (cA 0, 48, .inl (upd ww (6 * (4 + op) + 5) (nI ((vx / 8) % 2)))))]) [10, 11, 0, 1, 2, 3, 4, 5, 6, 7, 8, 9] rfl
        have hD := hD.sub (ws' := [(o, .inr (4, [.ref F, .ref G, .int (nI qv), .int nw, .int se, .ref (pa 0), .ref an, .ref ln])), cE x xv, (x 1, .inl (cA 0, 4, .inl (xd 0))), (x 2, .inl (cA 0, 4, .inl (xd 1))), (x 3, .inl (cA 0, 4, .inl (xd 2))), (x 4, .inl (cA 0, 4, .inl (xd 3))), (x 5, .inl (cA 0, 4, .inl (xd 4))), (x 6, .inl (cA 1, 4, .inl (upd (xd 5) op (nI ((vx / 8) % 2))))), (x 7, .inl (cA 0, 4, .inl (xd 6))), (x 8, .inl (cA 0, 4, .inl (xd 7))), cE y yv, (wa, .inl (cA 0, 48, .inl (upd ww (6 * (4 + op) + 5) (nI ((vx / 8) % 2)))))]) [10, 11, 0, 1, 2, 3, 4, 5, 6, 7, 8, 9] (by decide) rfl
        clear hPc hDc hFc hP1 hD1 hk1 hz1
        have hw_17 := hw
        obtain rfl := hw
        refine z_top (y := (nI sx)) hx0 ?_
        refine lv_imul hx hb dL_wants_295 ?_
        refine z_top (y := (nI (8 * sx))) (z_mul 8 sx) ?_
        refine lv_iadd hx hb dL_wants_296 ?_
        refine z_top (y := (nI (sy + 8 * sx))) (z_add sy (8 * sx)) ?_
        refine lv_iload hx hb dL_wants_297 (lv_at hl 2 rfl) ?_
        refine lv_icmp_ne (tgt := 306) hx hb dL_wants_299 (by decide) (fun c_18 => absurd rfl c_18) (fun _ => ?_)
        refine lv_iconst (v := 1) hx hb dL_wants_302 (by decide) ?_
        refine lv_goto (tgt := 307) hx hb dL_wants_303 (by decide) ?_
        refine W.widen (k := 1) (n := 6) (by omega) (by omega) ?_
        exact W.zret (v := 1) hx hb hr rfl (fun t ht hW => ⟨⟨1, ((va_up xd 5 (upd (xd 5) op (nI ((vx / 8) % 2)))), upd ww (6 * (4 + op) + 5) (nI ((vx / 8) % 2))), rfl, ⟨⟨sx, kx, tx, sy, ky, ty, refuse_t hI (by omega) (by omega), by omega, by omega⟩, WRe_refuse hWr hop (by omega), WRe_oth (i := 0) (e := 1) (b := 5) (hWr2) (by decide) hop (by omega) (by decide), rfl⟩, ⟨by rw [ht]; exact hP, by rw [hAe]; exact hD⟩⟩, hS.F ht⟩) hS.2.2 dL_wants_307
      · skip
        refine lv_iload_n hx hb dL_wants_69 rfl (lv_at hl 8 rfl) ?_
        refine lv_bipush (v := 8) hx hb dL_wants_70 (by decide) ?_
        refine lv_idiv hx hb dL_wants_72 (by decide) ?_
        refine z_top (y := (nI (vx / 8))) (z_div (a := vx) (d := 8) (by omega) (by omega) (by omega)) ?_
        refine lv_iconst (v := 3) hx hb dL_wants_73 (by decide) ?_
        refine lv_irem hx hb dL_wants_74 (by decide) ?_
        refine z_top (y := (nI ((vx / 8) % 3))) (z_rem (a := (vx / 8)) (d := 3) (by omega) (by omega) (by omega)) ?_
        refine lv_if_ne (tgt := 82) hx hb dL_wants_75 (by decide) (fun c_19 => ?_) (fun c_19 => ?_)
        · have c_19 := mt (nI_eq (a := (vx / 8) % 3) (b := 0) (by omega) (by omega)).mpr c_19
          refine lv_iload hx hb dL_wants_82 (lv_at hl 1 rfl) ?_
          refine lv_iload_n hx hb dL_wants_84 rfl (lv_at hl 8 rfl) ?_
          refine lv_bipush (v := 24) hx hb dL_wants_85 (by decide) ?_
          refine lv_idiv hx hb dL_wants_87 (by decide) ?_
          refine z_top (y := (nI (vx / 24))) (z_div (a := vx) (d := 24) (by omega) (by omega) (by omega)) ?_
          refine lv_iload hx hb dL_wants_88 (lv_at hl 0 rfl) ?_
          refine lv_iload hx hb dL_wants_90 (lv_at hl 1 rfl) ?_
          refine lv_isub hx hb dL_wants_92 ?_
          refine z_top (y := (nI (lt + mz - lt))) (z_sub (by omega)) ?_
          refine lv_iconst (v := 1) hx hb dL_wants_93 (by decide) ?_
          refine lv_iadd hx hb dL_wants_94 ?_
          refine z_top (y := (nI (lt + mz - lt + 1))) (z_add (lt + mz - lt) 1) ?_
          refine lv_irem hx hb dL_wants_95 (nI_n0 (by omega) (by omega)) ?_
          refine z_top (y := (nI ((vx / 24) % (lt + mz - lt + 1)))) (z_rem (a := (vx / 24)) (d := (lt + mz - lt + 1)) (by omega) (by omega) (by omega)) ?_
          obtain ⟨wz, ewz, hwz⟩ := z_modv (vx / 24) (d := lt + mz - lt + 1) (by omega)
          refine z_top (y := (nI wz)) (congrArg nI ewz) ?_
          refine lv_iadd hx hb dL_wants_96 ?_
          refine z_top (y := (nI (lt + wz))) (z_add lt wz) ?_
          exact kJ _ _ _ _ ⟨(nI (lt + wz)), rfl, hP, hD, hS, lv_sub hl [0, 1, 2, 3, 4, 5, 6, 7, 8, 9, 10] rfl, (Or.inr (inr_nI (by omega) (by omega) (by omega))), (okv_nI (by omega))⟩
        · have c_19 := (nI_eq (a := (vx / 8) % 3) (b := 0) (by omega) (by omega)).mp c_19
          refine lv_iconst (v := (-1)) hx hb dL_wants_78 (by decide) ?_
          refine lv_goto (tgt := 97) hx hb dL_wants_79 (by decide) ?_
          exact kJ _ _ _ _ ⟨(-1), rfl, hP, hD, hS, lv_sub hl [0, 1, 2, 3, 4, 5, 6, 7, 8, 9, 10] rfl, (Or.inl rfl), (Or.inl rfl)⟩
    · skip
      refine lv_iload_n hx hb dL_wants_35 rfl (lv_at hl 7 rfl) ?_
      refine lv_iconst (v := 3) hx hb dL_wants_36 (by decide) ?_
      refine lv_irem hx hb dL_wants_37 (by decide) ?_
      refine z_top (y := (nI (vy % 3))) (z_rem (a := vy) (d := 3) (by omega) (by omega) (by omega)) ?_
      refine lv_if_ne (tgt := 45) hx hb dL_wants_38 (by decide) (fun c_20 => ?_) (fun c_20 => ?_)
      · have c_20 := mt (nI_eq (a := vy % 3) (b := 0) (by omega) (by omega)).mpr c_20
        refine lv_iload_n hx hb dL_wants_45 rfl (lv_at hl 7 rfl) ?_
        refine lv_iconst (v := 3) hx hb dL_wants_46 (by decide) ?_
        refine lv_idiv hx hb dL_wants_47 (by decide) ?_
        refine z_top (y := (nI (vy / 3))) (z_div (a := vy) (d := 3) (by omega) (by omega) (by omega)) ?_
        refine lv_bipush (v := 101) hx hb dL_wants_48 (by decide) ?_
        refine lv_irem hx hb dL_wants_50 (by decide) ?_
        refine z_top (y := (nI ((vy / 3) % 101))) (z_rem (a := (vy / 3)) (d := 101) (by omega) (by omega) (by omega)) ?_
        exact kJ _ _ _ _ ⟨(vy / 3) % 101, rfl, hP, hD, hS, lv_sub hl [0, 1, 2, 3, 4, 5, 6, 7, 8] rfl, (by omega)⟩
      · have c_20 := (nI_eq (a := vy % 3) (b := 0) (by omega) (by omega)).mp c_20
        refine lv_iconst (v := 0) hx hb dL_wants_41 (by decide) ?_
        refine lv_goto (tgt := 51) hx hb dL_wants_42 (by decide) ?_
        exact kJ _ _ _ _ ⟨0, rfl, hP, hD, hS, lv_sub hl [0, 1, 2, 3, 4, 5, 6, 7, 8] rfl, (by omega)⟩
  · skip
    refine lv_istore (lv' := [(8, .int 0), (7, .int (nI (6 * (4 + op)))), (6, .int (nI op)), (5, .int 1), (0, .ref o), (1, .int 2), (2, .int (nI vx)), (3, .int (nI vy)), (4, .ref wa)]) hx hb dL_wants_33 hl (by decide) rfl (fun ls hl => ?_)
    refine z_cut (Inv := fun H locs ls st => ∃ (lt : Nat), st = [.int (nI lt)] ∧ va_P D vwCl [(o, .inr (4, [.ref F, .ref G, .int (nI qv), .int nw, .int se, .ref (pa 0), .ref an, .ref ln])), cE x xv, (x 1, .inl (cA 0, 4, .inl (xd 0))), (x 2, .inl (cA 0, 4, .inl (xd 1))), (x 3, .inl (cA 0, 4, .inl (xd 2))), (x 4, .inl (cA 0, 4, .inl (xd 3))), (x 5, .inl (cA 0, 4, .inl (xd 4))), (x 6, .inl (cA 1, 4, .inl (xd 5))), (x 7, .inl (cA 0, 4, .inl (xd 6))), (x 8, .inl (cA 0, 4, .inl (xd 7))), cE y yv, (wa, .inl (cA 0, 48, .inl ww))] H ∧ va_D A [(o, .inr (4, [.ref F, .ref G, .int (nI qv), .int nw, .int se, .ref (pa 0), .ref an, .ref ln])), cE x xv, (x 1, .inl (cA 0, 4, .inl (xd 0))), (x 2, .inl (cA 0, 4, .inl (xd 1))), (x 3, .inl (cA 0, 4, .inl (xd 2))), (x 4, .inl (cA 0, 4, .inl (xd 3))), (x 5, .inl (cA 0, 4, .inl (xd 4))), (x 6, .inl (cA 1, 4, .inl (xd 5))), (x 7, .inl (cA 0, 4, .inl (xd 6))), (x 8, .inl (cA 0, 4, .inl (xd 7))), cE y yv, (wa, .inl (cA 0, 48, .inl ww))] ∧ va_S A s.heap H locs ∧ lv_has ls 15 [(8, .int 0), (7, .int (nI (6 * (4 + op)))), (6, .int (nI op)), (5, .int 1), (0, .ref o), (1, .int 2), (2, .int (nI vx)), (3, .int (nI vy)), (4, .ref wa)] ∧ lt ≤ 100) 51 (fun H locs ls st hQ9 => ?_) (fun kJ => ?_)
    · obtain ⟨lt, rfl, hP, hD, hS, hl, hlt⟩ := hQ9
      refine lv_istore (lv' := [(9, .int (nI lt)), (8, .int 0), (7, .int (nI (6 * (4 + op)))), (6, .int (nI op)), (5, .int 1), (0, .ref o), (1, .int 2), (2, .int (nI vx)), (3, .int (nI vy)), (4, .ref wa)]) hx hb dL_wants_51 hl (by decide) rfl (fun ls hl => ?_)
      refine lv_iload hx hb dL_wants_53 (lv_at hl 0 rfl) ?_
      refine lv_iload_n hx hb dL_wants_55 rfl (lv_at hl 8 rfl) ?_
      refine lv_sipush (v := 303) hx hb dL_wants_56 (by decide) ?_
      refine lv_idiv hx hb dL_wants_59 (by decide) ?_
      refine z_top (y := (nI (vy / 303))) (z_div (a := vy) (d := 303) (by omega) (by omega) (by omega)) ?_
      refine lv_bipush (v := 101) hx hb dL_wants_60 (by decide) ?_
      refine lv_iload hx hb dL_wants_62 (lv_at hl 0 rfl) ?_
      refine lv_isub hx hb dL_wants_64 ?_
      refine z_top (y := (nI (101 - lt))) (z_sub (a := 101) (b := lt) (by omega)) ?_
      refine lv_irem hx hb dL_wants_65 (nI_n0 (by omega) (by omega)) ?_
      refine z_top (y := (nI ((vy / 303) % (101 - lt)))) (z_rem (a := (vy / 303)) (d := (101 - lt)) (by omega) (by omega) (by omega)) ?_
      obtain ⟨mz, emz, hmz⟩ := z_modv (vy / 303) (d := 101 - lt) (by omega)
      refine z_top (y := (nI mz)) (congrArg nI emz) ?_
      refine lv_iadd hx hb dL_wants_66 ?_
      refine z_top (y := (nI (lt + mz))) (z_add lt mz) ?_
      refine lv_istore (lv' := [(10, .int (nI (lt + mz))), (9, .int (nI lt)), (8, .int 0), (7, .int (nI (6 * (4 + op)))), (6, .int (nI op)), (5, .int 1), (0, .ref o), (1, .int 2), (2, .int (nI vx)), (3, .int (nI vy)), (4, .ref wa)]) hx hb dL_wants_67 hl (by decide) rfl (fun ls hl => ?_)
      refine z_cut (Inv := fun H locs ls st => ∃ (wi : Int32), st = [.int wi] ∧ va_P D vwCl [(o, .inr (4, [.ref F, .ref G, .int (nI qv), .int nw, .int se, .ref (pa 0), .ref an, .ref ln])), cE x xv, (x 1, .inl (cA 0, 4, .inl (xd 0))), (x 2, .inl (cA 0, 4, .inl (xd 1))), (x 3, .inl (cA 0, 4, .inl (xd 2))), (x 4, .inl (cA 0, 4, .inl (xd 3))), (x 5, .inl (cA 0, 4, .inl (xd 4))), (x 6, .inl (cA 1, 4, .inl (xd 5))), (x 7, .inl (cA 0, 4, .inl (xd 6))), (x 8, .inl (cA 0, 4, .inl (xd 7))), cE y yv, (wa, .inl (cA 0, 48, .inl ww))] H ∧ va_D A [(o, .inr (4, [.ref F, .ref G, .int (nI qv), .int nw, .int se, .ref (pa 0), .ref an, .ref ln])), cE x xv, (x 1, .inl (cA 0, 4, .inl (xd 0))), (x 2, .inl (cA 0, 4, .inl (xd 1))), (x 3, .inl (cA 0, 4, .inl (xd 2))), (x 4, .inl (cA 0, 4, .inl (xd 3))), (x 5, .inl (cA 0, 4, .inl (xd 4))), (x 6, .inl (cA 1, 4, .inl (xd 5))), (x 7, .inl (cA 0, 4, .inl (xd 6))), (x 8, .inl (cA 0, 4, .inl (xd 7))), cE y yv, (wa, .inl (cA 0, 48, .inl ww))] ∧ va_S A s.heap H locs ∧ lv_has ls 15 [(10, .int (nI (lt + mz))), (9, .int (nI lt)), (8, .int 0), (7, .int (nI (6 * (4 + op)))), (6, .int (nI op)), (5, .int 1), (0, .ref o), (1, .int 2), (2, .int (nI vx)), (3, .int (nI vy)), (4, .ref wa)] ∧ (wi = -1 ∨ inr wi (nI lt) (nI (lt + mz))) ∧ okv wi) 97 (fun H locs ls st hQ9 => ?_) (fun kJ => ?_)
      · obtain ⟨wi, rfl, hP, hD, hS, hl, hwi, hwo⟩ := hQ9
        refine lv_istore (lv' := [(11, .int wi), (10, .int (nI (lt + mz))), (9, .int (nI lt)), (8, .int 0), (7, .int (nI (6 * (4 + op)))), (6, .int (nI op)), (5, .int 1), (0, .ref o), (1, .int 2), (2, .int (nI vx)), (3, .int (nI vy)), (4, .ref wa)]) hx hb dL_wants_97 hl (by decide) rfl (fun ls hl => ?_)
        refine lv_aload_n hx hb dL_wants_99 rfl (lv_at hl 7 rfl) ?_
        refine lv_iconst (v := 0) hx hb dL_wants_100 (by decide) ?_
        have hPc := hP.sub (ws' := [(o, .inr (4, [.ref F, .ref G, .int (nI qv), .int nw, .int se, .ref (pa 0), .ref an, .ref ln])), cE y yv]) [0, 10] rfl
        have hDc := hD.sub (ws' := [(o, .inr (4, [.ref F, .ref G, .int (nI qv), .int nw, .int se, .ref (pa 0), .ref an, .ref ln])), cE y yv]) [0, 10] (by decide) rfl
        have hFc := va_free (wc := [(o, .inr (4, [.ref F, .ref G, .int (nI qv), .int nw, .int se, .ref (pa 0), .ref an, .ref ln])), cE y yv]) hD hS hA [0, 10] rfl
        refine va_calli (va_runV (As := [.int 0]) (rest := []) ⟨hx, hb, hml, hown, hts⟩ (c_X3_state_k l D cA H.size o F G (nI qv) nw se pa an ln y (x 0) 0 yv (by first | exact he | exact en_flip he | exact en_01 he | exact en_10 he)) (cwV 1 hts gL_wants_X3_state rfl rfl rfl (by decide +kernel) ⟨Nat.le_of_ble_eq_true rfl, Nat.le_of_ble_eq_true rfl⟩) ⟨zU_blind, va_recv hK hPc (ci := 4) (q0 := 0) rfl rfl, fun U hU hW => ⟨rfl, zU_call hU hPc hW.alike hK hDc⟩⟩ rfl rfl hl.1 rfl (lv_room (Nat.le_of_ble_eq_true rfl)) dL_wants_101 ⟨(Nat.zero_le _), (Nat.zero_le _)⟩) hS (fun q _ h => hFc q h) hFc (fun zr u t H1 locs ht hvm hw hB hz1 hk1 hS => ?_)
        obtain ⟨hP1, hD1⟩ := hB
        rw [ht] at hP1
        obtain ⟨hP, hD⟩ := va_join (wr := [cE x xv, (x 1, .inl (cA 0, 4, .inl (xd 0))), (x 2, .inl (cA 0, 4, .inl (xd 1))), (x 3, .inl (cA 0, 4, .inl (xd 2))), (x 4, .inl (cA 0, 4, .inl (xd 3))), (x 5, .inl (cA 0, 4, .inl (xd 4))), (x 6, .inl (cA 1, 4, .inl (xd 5))), (x 7, .inl (cA 0, 4, .inl (xd 6))), (x 8, .inl (cA 0, 4, .inl (xd 7))), (wa, .inl (cA 0, 48, .inl ww))]) (w1 := [(o, .inr (4, [.ref F, .ref G, .int (nI qv), .int nw, .int se, .ref (pa 0), .ref an, .ref ln])), cE y yv]) hP hD [0, 10] [1, 2, 3, 4, 5, 6, 7, 8, 9, 11] rfl rfl (by decide) (by decide) hk1 hFc hP1 hD1
        generalize H1 = H at hP hS ⊢
        have hP := hP.sub (ws' := [(o, .inr (4, [.ref F, .ref G, .int (nI qv), .int nw, .int se, .ref (pa 0), .ref an, .ref ln])), cE x xv, (x 1, .inl (cA 0, 4, .inl (xd 0))), (x 2, .inl (cA 0, 4, .inl (xd 1))), (x 3, .inl (cA 0, 4, .inl (xd 2))), (x 4, .inl (cA 0, 4, .inl (xd 3))), (x 5, .inl (cA 0, 4, .inl (xd 4))), (x 6, .inl (cA 1, 4, .inl (xd 5))), (x 7, .inl (cA 0, 4, .inl (xd 6))), (x 8, .inl (cA 0, 4, .inl (xd 7))), cE y yv, (wa, .inl (cA 0, 48, .inl ww))]) [10, 0, 1, 2, 3, 4, 5, 6, 7, 8, 11, 9] rfl
        have hD := hD.sub (ws' := [(o, .inr (4, [.ref F, .ref G, .int (nI qv), .int nw, .int se, .ref (pa 0), .ref an, .ref ln])), cE x xv, (x 1, .inl (cA 0, 4, .inl (xd 0))), (x 2, .inl (cA 0, 4, .inl (xd 1))), (x 3, .inl (cA 0, 4, .inl (xd 2))), (x 4, .inl (cA 0, 4, .inl (xd 3))), (x 5, .inl (cA 0, 4, .inl (xd 4))), (x 6, .inl (cA 1, 4, .inl (xd 5))), (x 7, .inl (cA 0, 4, .inl (xd 6))), (x 8, .inl (cA 0, 4, .inl (xd 7))), cE y yv, (wa, .inl (cA 0, 48, .inl ww))]) [10, 0, 1, 2, 3, 4, 5, 6, 7, 8, 11, 9] (by decide) rfl
        clear hPc hDc hFc hP1 hD1 hk1 hz1
        have hw_21 := hw
        obtain rfl := hw
        refine z_top (y := (nI sy)) hy0 ?_
        refine lv_bipush (v := 8) hx hb dL_wants_104 (by decide) ?_
        refine lv_aload_n hx hb dL_wants_106 rfl (lv_at hl 7 rfl) ?_
        refine lv_iconst (v := 1) hx hb dL_wants_107 (by decide) ?_
        have hPc := hP.sub (ws' := [(o, .inr (4, [.ref F, .ref G, .int (nI qv), .int nw, .int se, .ref (pa 0), .ref an, .ref ln])), cE x xv]) [0, 1] rfl
        have hDc := hD.sub (ws' := [(o, .inr (4, [.ref F, .ref G, .int (nI qv), .int nw, .int se, .ref (pa 0), .ref an, .ref ln])), cE x xv]) [0, 1] (by decide) rfl
        have hFc := va_free (wc := [(o, .inr (4, [.ref F, .ref G, .int (nI qv), .int nw, .int se, .ref (pa 0), .ref an, .ref ln])), cE x xv]) hD hS hA [0, 1] rfl
        refine va_calli (va_runV (As := [.int 1]) (rest := [.int 8, .int (nI sy)]) ⟨hx, hb, hml, hown, hts⟩ (c_X3_state_k l D cA H.size o F G (nI qv) nw se pa an ln x (y 0) 1 xv (by first | exact he | exact en_flip he | exact en_01 he | exact en_10 he)) (cwV 1 hts gL_wants_X3_state rfl rfl rfl (by decide +kernel) ⟨Nat.le_of_ble_eq_true rfl, Nat.le_of_ble_eq_true rfl⟩) ⟨zU_blind, va_recv hK hPc (ci := 4) (q0 := 0) rfl rfl, fun U hU hW => ⟨rfl, zU_call hU hPc hW.alike hK hDc⟩⟩ rfl rfl hl.1 rfl (lv_room (Nat.le_of_ble_eq_true rfl)) dL_wants_108 ⟨(Nat.zero_le _), (Nat.zero_le _)⟩) hS (fun q _ h => hFc q h) hFc (fun zr u t H1 locs ht hvm hw hB hz1 hk1 hS => ?_)
        obtain ⟨hP1, hD1⟩ := hB
        rw [ht] at hP1
        obtain ⟨hP, hD⟩ := va_join (wr := [(x 1, .inl (cA 0, 4, .inl (xd 0))), (x 2, .inl (cA 0, 4, .inl (xd 1))), (x 3, .inl (cA 0, 4, .inl (xd 2))), (x 4, .inl (cA 0, 4, .inl (xd 3))), (x 5, .inl (cA 0, 4, .inl (xd 4))), (x 6, .inl (cA 1, 4, .inl (xd 5))), (x 7, .inl (cA 0, 4, .inl (xd 6))), (x 8, .inl (cA 0, 4, .inl (xd 7))), cE y yv, (wa, .inl (cA 0, 48, .inl ww))]) (w1 := [(o, .inr (4, [.ref F, .ref G, .int (nI qv), .int nw, .int se, .ref (pa 0), .ref an, .ref ln])), cE x xv]) hP hD [0, 1] [2, 3, 4, 5, 6, 7, 8, 9, 10, 11] rfl rfl (by decide) (by decide) hk1 hFc hP1 hD1
        generalize H1 = H at hP hS ⊢
        have hP := hP.sub (ws' := [(o, .inr (4, [.ref F, .ref G, .int (nI qv), .int nw, .int se, .ref (pa 0), .ref an, .ref ln])), cE x xv, (x 1, .inl (cA 0, 4, .inl (xd 0))), (x 2, .inl (cA 0, 4, .inl (xd 1))), (x 3, .inl (cA 0, 4, .inl (xd 2))), (x 4, .inl (cA 0, 4, .inl (xd 3))), (x 5, .inl (cA 0, 4, .inl (xd 4))), (x 6, .inl (cA 1, 4, .inl (xd 5))), (x 7, .inl (cA 0, 4, .inl (xd 6))), (x 8, .inl (cA 0, 4, .inl (xd 7))), cE y yv, (wa, .inl (cA 0, 48, .inl ww))]) [10, 11, 0, 1, 2, 3, 4, 5, 6, 7, 8, 9] rfl
        have hD := hD.sub (ws' := [(o, .inr (4, [.ref F, .ref G, .int (nI qv), .int nw, .int se, .ref (pa 0), .ref an, .ref ln])), cE x xv, (x 1, .inl (cA 0, 4, .inl (xd 0))), (x 2, .inl (cA 0, 4, .inl (xd 1))), (x 3, .inl (cA 0, 4, .inl (xd 2))), (x 4, .inl (cA 0, 4, .inl (xd 3))), (x 5, .inl (cA 0, 4, .inl (xd 4))), (x 6, .inl (cA 1, 4, .inl (xd 5))), (x 7, .inl (cA 0, 4, .inl (xd 6))), (x 8, .inl (cA 0, 4, .inl (xd 7))), cE y yv, (wa, .inl (cA 0, 48, .inl ww))]) [10, 11, 0, 1, 2, 3, 4, 5, 6, 7, 8, 9] (by decide) rfl
        clear hPc hDc hFc hP1 hD1 hk1 hz1
        have hw_22 := hw
        obtain rfl := hw
        refine z_top (y := (nI sx)) hx0 ?_
        refine lv_imul hx hb dL_wants_111 ?_
        refine z_top (y := (nI (8 * sx))) (z_mul 8 sx) ?_
        refine lv_iadd hx hb dL_wants_112 ?_
        refine z_top (y := (nI (sy + 8 * sx))) (z_add sy (8 * sx)) ?_
        refine lv_istore (lv' := [(12, .int (nI (sy + 8 * sx))), (11, .int wi), (10, .int (nI (lt + mz))), (9, .int (nI lt)), (8, .int 0), (7, .int (nI (6 * (4 + op)))), (6, .int (nI op)), (5, .int 1), (0, .ref o), (1, .int 2), (2, .int (nI vx)), (3, .int (nI vy)), (4, .ref wa)]) hx hb dL_wants_113 hl (by decide) rfl (fun ls hl => ?_)
        refine lv_iload_n hx hb dL_wants_115 rfl (lv_at hl 9 rfl) ?_
        refine lv_if_ne (tgt := 129) hx hb dL_wants_116 (by decide) (fun _ => ?_) (fun c_23 => absurd c_23 (by decide))
        refine lv_aload hx hb dL_wants_129 (lv_at hl 12 rfl) ?_
        refine lv_iload hx hb dL_wants_131 (lv_at hl 5 rfl) ?_
        refine lv_iconst (v := 5) hx hb dL_wants_133 (by decide) ?_
        refine lv_iadd hx hb dL_wants_134 ?_
        refine z_top (y := (nI (6 * (4 + op) + 5))) (z_add (6 * (4 + op)) 5) ?_
        refine z_iald (k := (6 * (4 + op) + 5)) (v := ((xd 5) op)) hx hb hK hP 11 0 rfl rfl rfl (by omega) (by decide) (wr_at (hWr op hop).2.2.2 (by omega)) dL_wants_135 ?_
        refine lv_istore (lv' := [(13, .int ((xd 5) op)), (12, .int (nI (sy + 8 * sx))), (11, .int wi), (10, .int (nI (lt + mz))), (9, .int (nI lt)), (8, .int 0), (7, .int (nI (6 * (4 + op)))), (6, .int (nI op)), (5, .int 1), (0, .ref o), (1, .int 2), (2, .int (nI vx)), (3, .int (nI vy)), (4, .ref wa)]) hx hb dL_wants_136 hl (by decide) rfl (fun ls hl => ?_)
        refine lv_aload_n hx hb dL_wants_138 rfl (lv_at hl 9 rfl) ?_
        refine lv_iload_n hx hb dL_wants_139 rfl (lv_at hl 10 rfl) ?_
        refine lv_iload hx hb dL_wants_140 (lv_at hl 8 rfl) ?_
        refine lv_iload hx hb dL_wants_142 (lv_at hl 7 rfl) ?_
        refine lv_iload_n hx hb dL_wants_144 rfl (lv_at hl 10 rfl) ?_
        refine lv_iconst (v := 2) hx hb dL_wants_145 (by decide) ?_
        refine lv_icmp_ne (tgt := 158) hx hb dL_wants_146 (by decide) (fun c_24 => absurd c_24 (by decide)) (fun _ => ?_)
        refine lv_iload_n hx hb dL_wants_149 rfl (lv_at hl 11 rfl) ?_
        refine lv_bipush (v := 8) hx hb dL_wants_150 (by decide) ?_
        refine lv_idiv hx hb dL_wants_152 (by decide) ?_
        refine z_top (y := (nI (vx / 8))) (z_div (a := vx) (d := 8) (by omega) (by omega) (by omega)) ?_
        refine lv_iconst (v := 2) hx hb dL_wants_153 (by decide) ?_
        refine lv_irem hx hb dL_wants_154 (by decide) ?_
        refine z_top (y := (nI ((vx / 8) % 2))) (z_rem (a := (vx / 8)) (d := 2) (by omega) (by omega) (by omega)) ?_
        refine lv_goto (tgt := 160) hx hb dL_wants_155 (by decide) ?_
        refine lv_iload hx hb dL_wants_160 (lv_at hl 4 rfl) ?_
        refine lv_iload hx hb dL_wants_162 (lv_at hl 3 rfl) ?_
        have hPc := hP.sub (ws' := [(o, .inr (4, [.ref F, .ref G, .int (nI qv), .int nw, .int se, .ref (pa 0), .ref an, .ref ln])), cE x xv]) [0, 1] rfl
        have hDc := hD.sub (ws' := [(o, .inr (4, [.ref F, .ref G, .int (nI qv), .int nw, .int se, .ref (pa 0), .ref an, .ref ln])), cE x xv]) [0, 1] (by decide) rfl
        have hFc := va_free (wc := [(o, .inr (4, [.ref F, .ref G, .int (nI qv), .int nw, .int se, .ref (pa 0), .ref an, .ref ln])), cE x xv]) hD hS hA [0, 1] rfl
        refine va_calli (vx_runSW (As := [.ref o, .int 2, .int 1, .int (nI op), .int (nI ((vx / 8) % 2)), .int (nI lt), .int (nI (lt + mz))]) (rest := []) ⟨hx, hb, hml, hown, hts⟩ (c_asks_refuse_s l D cA zv H.size o F G (nI qv) nw se pa an ln x (y 0) 1 xv op ((vx / 8) % 2) (nI lt) (nI (lt + mz)) (by assumption) (by first | exact he | exact en_flip he | exact en_01 he | exact en_10 he) hop (fun q9 => absurd ((s_shut hI).mp q9) (by omega)) (by omega)) (vx_cwSW 7 hts gL_wants_L_asks rfl rfl rfl (by decide +kernel) ⟨Nat.le_of_ble_eq_true rfl, Nat.le_of_ble_eq_true rfl⟩) ⟨zUX_blind, fun U hU hW => ⟨rfl, zUX_call hE0 hX0 hS hFc hU hPc hW hK hDc⟩⟩ rfl rfl hl.1 rfl (lv_room (Nat.le_of_ble_eq_true rfl)) dL_wants_164 ⟨Nat.le_of_ble_eq_true rfl, Nat.le_of_ble_eq_true rfl⟩) hS (fun q _ h => hFc q h) hFc (fun zr u t H1 locs ht hvm hw hB hz1 hk1 hS => ?_)
        obtain ⟨hP1, hD1⟩ := hB
        rw [ht] at hP1
        obtain ⟨hP, hD⟩ := va_join (wr := [(x 1, .inl (cA 0, 4, .inl (xd 0))), (x 2, .inl (cA 0, 4, .inl (xd 1))), (x 3, .inl (cA 0, 4, .inl (xd 2))), (x 4, .inl (cA 0, 4, .inl (xd 3))), (x 5, .inl (cA 0, 4, .inl (xd 4))), (x 6, .inl (cA 1, 4, .inl (xd 5))), (x 7, .inl (cA 0, 4, .inl (xd 6))), (x 8, .inl (cA 0, 4, .inl (xd 7))), cE y yv, (wa, .inl (cA 0, 48, .inl ww))]) (w1 := [(o, .inr (4, [.ref F, .ref G, .int (nI qv), .int nw, .int se, .ref (pa 0), .ref an, .ref ln])), cE x xv]) hP hD [0, 1] [2, 3, 4, 5, 6, 7, 8, 9, 10, 11] rfl rfl (by decide) (by decide) hk1 hFc hP1 hD1
        generalize H1 = H at hP hS ⊢
        have hP := hP.sub (ws' := [(o, .inr (4, [.ref F, .ref G, .int (nI qv), .int nw, .int se, .ref (pa 0), .ref an, .ref ln])), cE x xv, (x 1, .inl (cA 0, 4, .inl (xd 0))), (x 2, .inl (cA 0, 4, .inl (xd 1))), (x 3, .inl (cA 0, 4, .inl (xd 2))), (x 4, .inl (cA 0, 4, .inl (xd 3))), (x 5, .inl (cA 0, 4, .inl (xd 4))), (x 6, .inl (cA 1, 4, .inl (xd 5))), (x 7, .inl (cA 0, 4, .inl (xd 6))), (x 8, .inl (cA 0, 4, .inl (xd 7))), cE y yv, (wa, .inl (cA 0, 48, .inl ww))]) [10, 11, 0, 1, 2, 3, 4, 5, 6, 7, 8, 9] rfl
        have hD := hD.sub (ws' := [(o, .inr (4, [.ref F, .ref G, .int (nI qv), .int nw, .int se, .ref (pa 0), .ref an, .ref ln])), cE x xv, (x 1, .inl (cA 0, 4, .inl (xd 0))), (x 2, .inl (cA 0, 4, .inl (xd 1))), (x 3, .inl (cA 0, 4, .inl (xd 2))), (x 4, .inl (cA 0, 4, .inl (xd 3))), (x 5, .inl (cA 0, 4, .inl (xd 4))), (x 6, .inl (cA 1, 4, .inl (xd 5))), (x 7, .inl (cA 0, 4, .inl (xd 6))), (x 8, .inl (cA 0, 4, .inl (xd 7))), cE y yv, (wa, .inl (cA 0, 48, .inl ww))]) [10, 11, 0, 1, 2, 3, 4, 5, 6, 7, 8, 9] (by decide) rfl
        clear hPc hDc hFc hP1 hD1 hk1 hz1
        refine W.widen (k := 1) (n := 6) (by omega) (by omega) ?_
        have hw_25 := hw
        obtain rfl := hw
        refine lv_istore (lv' := [(14, .int (-8)), (13, .int ((xd 5) op)), (12, .int (nI (sy + 8 * sx))), (11, .int wi), (10, .int (nI (lt + mz))), (9, .int (nI lt)), (8, .int 0), (7, .int (nI (6 * (4 + op)))), (6, .int (nI op)), (5, .int 1), (0, .ref o), (1, .int 2), (2, .int (nI vx)), (3, .int (nI vy)), (4, .ref wa)]) hx hb dL_wants_167 hl (by decide) rfl (fun ls hl => ?_)
        refine lv_iload hx hb dL_wants_169 (lv_at hl 6 rfl) ?_
        refine lv_if_eq (tgt := 208) hx hb dL_wants_171 (by decide) (fun _ => ?_) (fun c_26 => absurd c_26 (by decide))
        refine lv_iload hx hb dL_wants_208 (lv_at hl 6 rfl) ?_
        refine lv_if_eq (tgt := 239) hx hb dL_wants_210 (by decide) (fun _ => ?_) (fun c_27 => absurd c_27 (by decide))
        refine lv_iload hx hb dL_wants_239 (lv_at hl 6 rfl) ?_
        refine lv_if_eq (tgt := 257) hx hb dL_wants_241 (by decide) (fun _ => ?_) (fun c_28 => absurd c_28 (by decide))
        refine lv_iload hx hb dL_wants_257 (lv_at hl 0 rfl) ?_
        refine lv_iload hx hb dL_wants_259 (lv_at hl 6 rfl) ?_
        refine lv_if_ne (tgt := 269) hx hb dL_wants_261 (by decide) (fun c_29 => absurd c_29 (by decide)) (fun _ => ?_)
        refine lv_bipush (v := (-8)) hx hb dL_wants_264 (by decide) ?_
        refine lv_goto (tgt := 280) hx hb dL_wants_266 (by decide) ?_
        refine lv_icmp_ne (tgt := 306) hx hb dL_wants_280 (by decide) (fun c_30 => absurd c_30 (by decide)) (fun _ => ?_)
        refine lv_aload_n hx hb dL_wants_283 rfl (lv_at hl 10 rfl) ?_
        refine lv_iconst (v := 0) hx hb dL_wants_284 (by decide) ?_
        have hPc := hP.sub (ws' := [(o, .inr (4, [.ref F, .ref G, .int (nI qv), .int nw, .int se, .ref (pa 0), .ref an, .ref ln])), cE y yv]) [0, 10] rfl
        have hDc := hD.sub (ws' := [(o, .inr (4, [.ref F, .ref G, .int (nI qv), .int nw, .int se, .ref (pa 0), .ref an, .ref ln])), cE y yv]) [0, 10] (by decide) rfl
        have hFc := va_free (wc := [(o, .inr (4, [.ref F, .ref G, .int (nI qv), .int nw, .int se, .ref (pa 0), .ref an, .ref ln])), cE y yv]) hD hS hA [0, 10] rfl
        refine va_calli (va_runV (As := [.int 0]) (rest := []) ⟨hx, hb, hml, hown, hts⟩ (c_X3_state_k l D cA H.size o F G (nI qv) nw se pa an ln y (x 0) 0 yv (by first | exact he | exact en_flip he | exact en_01 he | exact en_10 he)) (cwV 1 hts gL_wants_X3_state rfl rfl rfl (by decide +kernel) ⟨Nat.le_of_ble_eq_true rfl, Nat.le_of_ble_eq_true rfl⟩) ⟨zU_blind, va_recv hK hPc (ci := 4) (q0 := 0) rfl rfl, fun U hU hW => ⟨rfl, zU_call hU hPc hW.alike hK hDc⟩⟩ rfl rfl hl.1 rfl (lv_room (Nat.le_of_ble_eq_true rfl)) dL_wants_285 ⟨Nat.le_of_ble_eq_true rfl, Nat.le_of_ble_eq_true rfl⟩) hS (fun q _ h => hFc q h) hFc (fun zr u t H1 locs ht hvm hw hB hz1 hk1 hS => ?_)
        obtain ⟨hP1, hD1⟩ := hB
        rw [ht] at hP1
        obtain ⟨hP, hD⟩ := va_join (wr := [cE x xv, (x 1, .inl (cA 0, 4, .inl (xd 0))), (x 2, .inl (cA 0, 4, .inl (xd 1))), (x 3, .inl (cA 0, 4, .inl (xd 2))), (x 4, .inl (cA 0, 4, .inl (xd 3))), (x 5, .inl (cA 0, 4, .inl (xd 4))), (x 6, .inl (cA 1, 4, .inl (xd 5))), (x 7, .inl (cA 0, 4, .inl (xd 6))), (x 8, .inl (cA 0, 4, .inl (xd 7))), (wa, .inl (cA 0, 48, .inl ww))]) (w1 := [(o, .inr (4, [.ref F, .ref G, .int (nI qv), .int nw, .int se, .ref (pa 0), .ref an, .ref ln])), cE y yv]) hP hD [0, 10] [1, 2, 3, 4, 5, 6, 7, 8, 9, 11] rfl rfl (by decide) (by decide) hk1 hFc hP1 hD1
        generalize H1 = H at hP hS ⊢
        have hP := hP.sub (ws' := [(o, .inr (4, [.ref F, .ref G, .int (nI qv), .int nw, .int se, .ref (pa 0), .ref an, .ref ln])), cE x xv, (x 1, .inl (cA 0, 4, .inl (xd 0))), (x 2, .inl (cA 0, 4, .inl (xd 1))), (x 3, .inl (cA 0, 4, .inl (xd 2))), (x 4, .inl (cA 0, 4, .inl (xd 3))), (x 5, .inl (cA 0, 4, .inl (xd 4))), (x 6, .inl (cA 1, 4, .inl (xd 5))), (x 7, .inl (cA 0, 4, .inl (xd 6))), (x 8, .inl (cA 0, 4, .inl (xd 7))), cE y yv, (wa, .inl (cA 0, 48, .inl ww))]) [10, 0, 1, 2, 3, 4, 5, 6, 7, 8, 11, 9] rfl
        have hD := hD.sub (ws' := [(o, .inr (4, [.ref F, .ref G, .int (nI qv), .int nw, .int se, .ref (pa 0), .ref an, .ref ln])), cE x xv, (x 1, .inl (cA 0, 4, .inl (xd 0))), (x 2, .inl (cA 0, 4, .inl (xd 1))), (x 3, .inl (cA 0, 4, .inl (xd 2))), (x 4, .inl (cA 0, 4, .inl (xd 3))), (x 5, .inl (cA 0, 4, .inl (xd 4))), (x 6, .inl (cA 1, 4, .inl (xd 5))), (x 7, .inl (cA 0, 4, .inl (xd 6))), (x 8, .inl (cA 0, 4, .inl (xd 7))), cE y yv, (wa, .inl (cA 0, 48, .inl ww))]) [10, 0, 1, 2, 3, 4, 5, 6, 7, 8, 11, 9] (by decide) rfl
        clear hPc hDc hFc hP1 hD1 hk1 hz1
        have hw_31 := hw
        obtain rfl := hw
        refine z_top (y := (nI sy)) hy0 ?_
        refine lv_bipush (v := 8) hx hb dL_wants_288 (by decide) ?_
        refine lv_aload_n hx hb dL_wants_290 rfl (lv_at hl 10 rfl) ?_
        refine lv_iconst (v := 1) hx hb dL_wants_291 (by decide) ?_
        have hPc := hP.sub (ws' := [(o, .inr (4, [.ref F, .ref G, .int (nI qv), .int nw, .int se, .ref (pa 0), .ref an, .ref ln])), cE x xv]) [0, 1] rfl
        have hDc := hD.sub (ws' := [(o, .inr (4, [.ref F, .ref G, .int (nI qv), .int nw, .int se, .ref (pa 0), .ref an, .ref ln])), cE x xv]) [0, 1] (by decide) rfl
        have hFc := va_free (wc := [(o, .inr (4, [.ref F, .ref G, .int (nI qv), .int nw, .int se, .ref (pa 0), .ref an, .ref ln])), cE x xv]) hD hS hA [0, 1] rfl
        refine va_calli (va_runV (As := [.int 1]) (rest := [.int 8, .int (nI sy)]) ⟨hx, hb, hml, hown, hts⟩ (c_X3_state_k l D cA H.size o F G (nI qv) nw se pa an ln x (y 0) 1 xv (by first | exact he | exact en_flip he | exact en_01 he | exact en_10 he)) (cwV 1 hts gL_wants_X3_state rfl rfl rfl (by decide +kernel) ⟨Nat.le_of_ble_eq_true rfl, Nat.le_of_ble_eq_true rfl⟩) ⟨zU_blind, va_recv hK hPc (ci := 4) (q0 := 0) rfl rfl, fun U hU hW => ⟨rfl, zU_call hU hPc hW.alike hK hDc⟩⟩ rfl rfl hl.1 rfl (lv_room (Nat.le_of_ble_eq_true rfl)) dL_wants_292 ⟨Nat.le_of_ble_eq_true rfl, Nat.le_of_ble_eq_true rfl⟩) hS (fun q _ h => hFc q h) hFc (fun zr u t H1 locs ht hvm hw hB hz1 hk1 hS => ?_)
        obtain ⟨hP1, hD1⟩ := hB
        rw [ht] at hP1
        obtain ⟨hP, hD⟩ := va_join (wr := [(x 1, .inl (cA 0, 4, .inl (xd 0))), (x 2, .inl (cA 0, 4, .inl (xd 1))), (x 3, .inl (cA 0, 4, .inl (xd 2))), (x 4, .inl (cA 0, 4, .inl (xd 3))), (x 5, .inl (cA 0, 4, .inl (xd 4))), (x 6, .inl (cA 1, 4, .inl (xd 5))), (x 7, .inl (cA 0, 4, .inl (xd 6))), (x 8, .inl (cA 0, 4, .inl (xd 7))), cE y yv, (wa, .inl (cA 0, 48, .inl ww))]) (w1 := [(o, .inr (4, [.ref F, .ref G, .int (nI qv), .int nw, .int se, .ref (pa 0), .ref an, .ref ln])), cE x xv]) hP hD [0, 1] [2, 3, 4, 5, 6, 7, 8, 9, 10, 11] rfl rfl (by decide) (by decide) hk1 hFc hP1 hD1
        generalize H1 = H at hP hS ⊢
        have hP := hP.sub (ws' := [(o, .inr (4, [.ref F, .ref G, .int (nI qv), .int nw, .int se, .ref (pa 0), .ref an, .ref ln])), cE x xv, (x 1, .inl (cA 0, 4, .inl (xd 0))), (x 2, .inl (cA 0, 4, .inl (xd 1))), (x 3, .inl (cA 0, 4, .inl (xd 2))), (x 4, .inl (cA 0, 4, .inl (xd 3))), (x 5, .inl (cA 0, 4, .inl (xd 4))), (x 6, .inl (cA 1, 4, .inl (xd 5))), (x 7, .inl (cA 0, 4, .inl (xd 6))), (x 8, .inl (cA 0, 4, .inl (xd 7))), cE y yv, (wa, .inl (cA 0, 48, .inl ww))]) [10, 11, 0, 1, 2, 3, 4, 5, 6, 7, 8, 9] rfl
        have hD := hD.sub (ws' := [(o, .inr (4, [.ref F, .ref G, .int (nI qv), .int nw, .int se, .ref (pa 0), .ref an, .ref ln])), cE x xv, (x 1, .inl (cA 0, 4, .inl (xd 0))), (x 2, .inl (cA 0, 4, .inl (xd 1))), (x 3, .inl (cA 0, 4, .inl (xd 2))), (x 4, .inl (cA 0, 4, .inl (xd 3))), (x 5, .inl (cA 0, 4, .inl (xd 4))), (x 6, .inl (cA 1, 4, .inl (xd 5))), (x 7, .inl (cA 0, 4, .inl (xd 6))), (x 8, .inl (cA 0, 4, .inl (xd 7))), cE y yv, (wa, .inl (cA 0, 48, .inl ww))]) [10, 11, 0, 1, 2, 3, 4, 5, 6, 7, 8, 9] (by decide) rfl
        clear hPc hDc hFc hP1 hD1 hk1 hz1
        have hw_32 := hw
        obtain rfl := hw
        refine z_top (y := (nI sx)) hx0 ?_
        refine lv_imul hx hb dL_wants_295 ?_
        refine z_top (y := (nI (8 * sx))) (z_mul 8 sx) ?_
        refine lv_iadd hx hb dL_wants_296 ?_
        refine z_top (y := (nI (sy + 8 * sx))) (z_add sy (8 * sx)) ?_
        refine lv_iload hx hb dL_wants_297 (lv_at hl 2 rfl) ?_
        refine lv_icmp_ne (tgt := 306) hx hb dL_wants_299 (by decide) (fun c_33 => absurd rfl c_33) (fun _ => ?_)
        refine lv_iconst (v := 1) hx hb dL_wants_302 (by decide) ?_
        refine lv_goto (tgt := 307) hx hb dL_wants_303 (by decide) ?_
        refine W.widen (k := 1) (n := 6) (by omega) (by omega) ?_
        exact W.zret (v := 1) hx hb hr rfl (fun t ht hW => ⟨⟨1, (xd, ww), rfl, ⟨⟨sx, kx, tx, sy, ky, ty, hI, by omega, by omega⟩, hWr, hWr2, rfl⟩, ⟨by rw [ht]; exact hP, by rw [hAe]; exact hD⟩⟩, hS.F ht⟩) hS.2.2 dL_wants_307
      · skip
        refine lv_iload_n hx hb dL_wants_69 rfl (lv_at hl 8 rfl) ?_
        refine lv_bipush (v := 8) hx hb dL_wants_70 (by decide) ?_
        refine lv_idiv hx hb dL_wants_72 (by decide) ?_
        refine z_top (y := (nI (vx / 8))) (z_div (a := vx) (d := 8) (by omega) (by omega) (by omega)) ?_
        refine lv_iconst (v := 3) hx hb dL_wants_73 (by decide) ?_
        refine lv_irem hx hb dL_wants_74 (by decide) ?_
        refine z_top (y := (nI ((vx / 8) % 3))) (z_rem (a := (vx / 8)) (d := 3) (by omega) (by omega) (by omega)) ?_
        refine lv_if_ne (tgt := 82) hx hb dL_wants_75 (by decide) (fun c_34 => ?_) (fun c_34 => ?_)
        · have c_34 := mt (nI_eq (a := (vx / 8) % 3) (b := 0) (by omega) (by omega)).mpr c_34
          refine lv_iload hx hb dL_wants_82 (lv_at hl 1 rfl) ?_
          refine lv_iload_n hx hb dL_wants_84 rfl (lv_at hl 8 rfl) ?_
          refine lv_bipush (v := 24) hx hb dL_wants_85 (by decide) ?_
          refine lv_idiv hx hb dL_wants_87 (by decide) ?_
          refine z_top (y := (nI (vx / 24))) (z_div (a := vx) (d := 24) (by omega) (by omega) (by omega)) ?_
          refine lv_iload hx hb dL_wants_88 (lv_at hl 0 rfl) ?_
          refine lv_iload hx hb dL_wants_90 (lv_at hl 1 rfl) ?_
          refine lv_isub hx hb dL_wants_92 ?_
          refine z_top (y := (nI (lt + mz - lt))) (z_sub (by omega)) ?_
          refine lv_iconst (v := 1) hx hb dL_wants_93 (by decide) ?_
          refine lv_iadd hx hb dL_wants_94 ?_
          refine z_top (y := (nI (lt + mz - lt + 1))) (z_add (lt + mz - lt) 1) ?_
          refine lv_irem hx hb dL_wants_95 (nI_n0 (by omega) (by omega)) ?_
          refine z_top (y := (nI ((vx / 24) % (lt + mz - lt + 1)))) (z_rem (a := (vx / 24)) (d := (lt + mz - lt + 1)) (by omega) (by omega) (by omega)) ?_
          obtain ⟨wz, ewz, hwz⟩ := z_modv (vx / 24) (d := lt + mz - lt + 1) (by omega)
          refine z_top (y := (nI wz)) (congrArg nI ewz) ?_
          refine lv_iadd hx hb dL_wants_96 ?_
          refine z_top (y := (nI (lt + wz))) (z_add lt wz) ?_
          exact kJ _ _ _ _ ⟨(nI (lt + wz)), rfl, hP, hD, hS, lv_sub hl [0, 1, 2, 3, 4, 5, 6, 7, 8, 9, 10] rfl, (Or.inr (inr_nI (by omega) (by omega) (by omega))), (okv_nI (by omega))⟩
        · have c_34 := (nI_eq (a := (vx / 8) % 3) (b := 0) (by omega) (by omega)).mp c_34
          refine lv_iconst (v := (-1)) hx hb dL_wants_78 (by decide) ?_
          refine lv_goto (tgt := 97) hx hb dL_wants_79 (by decide) ?_
          exact kJ _ _ _ _ ⟨(-1), rfl, hP, hD, hS, lv_sub hl [0, 1, 2, 3, 4, 5, 6, 7, 8, 9, 10] rfl, (Or.inl rfl), (Or.inl rfl)⟩
    · skip
      refine lv_iload_n hx hb dL_wants_35 rfl (lv_at hl 7 rfl) ?_
      refine lv_iconst (v := 3) hx hb dL_wants_36 (by decide) ?_
      refine lv_irem hx hb dL_wants_37 (by decide) ?_
      refine z_top (y := (nI (vy % 3))) (z_rem (a := vy) (d := 3) (by omega) (by omega) (by omega)) ?_
      refine lv_if_ne (tgt := 45) hx hb dL_wants_38 (by decide) (fun c_35 => ?_) (fun c_35 => ?_)
      · have c_35 := mt (nI_eq (a := vy % 3) (b := 0) (by omega) (by omega)).mpr c_35
        refine lv_iload_n hx hb dL_wants_45 rfl (lv_at hl 7 rfl) ?_
        refine lv_iconst (v := 3) hx hb dL_wants_46 (by decide) ?_
        refine lv_idiv hx hb dL_wants_47 (by decide) ?_
        refine z_top (y := (nI (vy / 3))) (z_div (a := vy) (d := 3) (by omega) (by omega) (by omega)) ?_
        refine lv_bipush (v := 101) hx hb dL_wants_48 (by decide) ?_
        refine lv_irem hx hb dL_wants_50 (by decide) ?_
        refine z_top (y := (nI ((vy / 3) % 101))) (z_rem (a := (vy / 3)) (d := 101) (by omega) (by omega) (by omega)) ?_
        exact kJ _ _ _ _ ⟨(vy / 3) % 101, rfl, hP, hD, hS, lv_sub hl [0, 1, 2, 3, 4, 5, 6, 7, 8] rfl, (by omega)⟩
      · have c_35 := (nI_eq (a := vy % 3) (b := 0) (by omega) (by omega)).mp c_35
        refine lv_iconst (v := 0) hx hb dL_wants_41 (by decide) ?_
        refine lv_goto (tgt := 51) hx hb dL_wants_42 (by decide) ?_
        exact kJ _ _ _ _ ⟨0, rfl, hP, hD, hS, lv_sub hl [0, 1, 2, 3, 4, 5, 6, 7, 8] rfl, (by omega)⟩
