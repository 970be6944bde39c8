set_option maxHeartbeats 4000000 in
set_option maxRecDepth 100000 in
theorem c_L_wish_k (l : Launch) (D : va_G) (cA : Nat → ClassId) (sz : Nat) (o F G : Nat) (lo nw se : Int32) (pa : Nat → Nat) (an ln : Nat) (x : Nat → Nat) (y0 : Nat) (n : Int32) (xv : Nat → Int32) (k : Nat) (wi le mo : Int32) (w0 w1 w2 : Nat → Int32) (ou : Nat) (ov : Nat → Int64) (he : en n F G (x 0) y0) (hk : k < 4) (hsp : sSp le mo) (hwi : wi = -1 ∨ inr wi le mo) (hsh : sSh (xv 0)) : Met l yL_wish wsL_wish ({ frames := 3, cells := 0, slots := 0, locals := 67 }) (va_Pc [.ref o, .int n, .int (nI k), .int wi, .int le, .int mo, .ref ou] (zU D cA sz [(o, .inr (5, [.ref F, .ref G, .int lo, .int nw, .int se, .ref (pa 0), .ref an, .ref ln])), cE x xv, (x 1, .inl (cA 0, 4, .inl w0)), (x 2, .inl (cA 0, 4, .inl w1)), (x 3, .inl (cA 0, 4, .inl w2)), (ou, .inl (cA 3, 1, .inr (.inl ov)))])) (va_Qi (fun (r : Int32) (_ : Unit) => r = 0) (fun (_ : Unit) t => zB D [(o, .inr (5, [.ref F, .ref G, .int lo, .int nw, .int se, .ref (pa 0), .ref an, .ref ln])), cE x xv, (x 1, .inl (cA 0, 4, .inl w0)), (x 2, .inl (cA 0, 4, .inl w1)), (x 3, .inl (cA 0, 4, .inl w2)), (ou, .inl (cA 3, 1, .inr (.inl ov)))] sz [(o, .inr (5, [.ref F, .ref G, .int lo, .int nw, .int se, .ref (pa 0), .ref an, .ref ln])), cE x xv, (x 1, .inl (cA 0, 4, .inl (upd w0 k wi))), (x 2, .inl (cA 0, 4, .inl (upd w1 k le))), (x 3, .inl (cA 0, 4, .inl (upd w2 k mo))), (ou, .inl (cA 3, 1, .inr (.inl (vp_updL ov 0 (w0 k).toInt64))))] t) (va_A [(o, .inr (5, [.ref F, .ref G, .int lo, .int nw, .int se, .ref (pa 0), .ref an, .ref ln])), cE x xv, (x 1, .inl (cA 0, 4, .inl w0)), (x 2, .inl (cA 0, 4, .inl w1)), (x 3, .inl (cA 0, 4, .inl w2)), (ou, .inl (cA 3, 1, .inr (.inl ov)))] sz)) 0 0 (va_A [(o, .inr (5, [.ref F, .ref G, .int lo, .int nw, .int se, .ref (pa 0), .ref an, .ref ln])), cE x xv, (x 1, .inl (cA 0, 4, .inl w0)), (x 2, .inl (cA 0, 4, .inl w1)), (x 3, .inl (cA 0, 4, .inl w2)), (ou, .inl (cA 3, 1, .inr (.inl ov)))] sz) := by
  refine z_ofWH (cc := cL_wish) (maxL := 8) (ret := (some .int)) (hh := [(0, 16, 19, 13), (0, 16, 23, 15)]) (by decide) rfl ?_
  intro p e s m args below meth c s₁ B hml htab hv
  obtain ⟨rfl, hsz, hP, hK, hD0⟩ := hv
  have hx := B.exec
  have hb := B.bytes
  have hr := B.returns
  have hts := atoms_spec (ws := wsL_wish) B.pre
  have hown : s.vm.findClass RL = some m.cls := findClass_of_methodNamed B.named
  have hlocks := B.notSynchronized
  subst hsz
  have hD := hD0.self (sz := s.heap.size)
  generalize hAe : va_A [(o, .inr (5, [.ref F, .ref G, .int lo, .int nw, .int se, .ref (pa 0), .ref an, .ref ln])), cE x xv, (x 1, .inl (cA 0, 4, .inl w0)), (x 2, .inl (cA 0, 4, .inl w1)), (x 3, .inl (cA 0, 4, .inl w2)), (ou, .inl (cA 3, 1, .inr (.inl ov)))] s.heap.size = A at hD ⊢
  have hA : ∀ q : Nat, s.heap.size ≤ q → A q := fun q h => by rw [← hAe]; exact Or.inr h
  have hS : va_S A s.heap s.heap [] := va_S.rf
  have hl := lv_entry ([.ref o, .int n, .int (nI k), .int wi, .int le, .int mo, .ref ou]) (n := 8) (Nat.le_of_ble_eq_true rfl)
  rw [lg_entry_eq]
  generalize (lg_sl ([.ref o, .int n, .int (nI k), .int wi, .int le, .int mo, .ref ou]) ++ List.replicate (8 - (lg_sl ([.ref o, .int n, .int (nI k), .int wi, .int le, .int mo, .ref ou])).length) Slot.unset).toArray = ls at hl ⊢
  have hl : lv_has ls 8 [(0, .ref o), (1, .int n), (2, .int (nI k)), (3, .int wi), (4, .int le), (5, .int mo), (6, .ref ou)] := hl
  refine lv_aload hx hb dL_wish_0 (lv_at hl 6 rfl) ?_
  refine lv_iconst (v := 0) hx hb dL_wish_2 (by decide) ?_
  refine lv_aload_n hx hb dL_wish_3 rfl (lv_at hl 0 rfl) ?_
  refine lv_iload_n hx hb dL_wish_4 rfl (lv_at hl 1 rfl) ?_
  refine lv_iload_n hx hb dL_wish_5 rfl (lv_at hl 2 rfl) ?_
  refine lv_iload_n hx hb dL_wish_6 rfl (lv_at hl 3 rfl) ?_
  refine lv_iload hx hb dL_wish_7 (lv_at hl 4 rfl) ?_
  refine lv_iload hx hb dL_wish_9 (lv_at hl 5 rfl) ?_
  have hPc := hP.sub (ws' := [(o, .inr (5, [.ref F, .ref G, .int lo, .int nw, .int se, .ref (pa 0), .ref an, .ref ln])), cE x xv, (x 1, .inl (cA 0, 4, .inl w0)), (x 2, .inl (cA 0, 4, .inl w1)), (x 3, .inl (cA 0, 4, .inl w2))]) [0, 1, 2, 3, 4] rfl
  have hDc := hD.sub (ws' := [(o, .inr (5, [.ref F, .ref G, .int lo, .int nw, .int se, .ref (pa 0), .ref an, .ref ln])), cE x xv, (x 1, .inl (cA 0, 4, .inl w0)), (x 2, .inl (cA 0, 4, .inl w1)), (x 3, .inl (cA 0, 4, .inl w2))]) [0, 1, 2, 3, 4] (by decide) rfl
  have hFc := va_free (wc := [(o, .inr (5, [.ref F, .ref G, .int lo, .int nw, .int se, .ref (pa 0), .ref an, .ref ln])), cE x xv, (x 1, .inl (cA 0, 4, .inl w0)), (x 2, .inl (cA 0, 4, .inl w1)), (x 3, .inl (cA 0, 4, .inl w2))]) hD hS hA [0, 1, 2, 3, 4] rfl
  refine va_calli (va_runV (As := [.int n, .int (nI k), .int wi, .int le, .int mo]) (rest := [.int 0, .ref ou]) ⟨hx, hb, hml, hown, hts⟩ (c_X3_wish_k l D cA s.heap.size o F G lo nw se pa an ln x y0 n xv k wi le mo w0 w1 w2 (by assumption) (by assumption) (by assumption) (by assumption) (by assumption)) (cwV 5 hts gL_wish_X3_wish rfl rfl rfl (by decide +kernel) ⟨Nat.le_of_ble_eq_true rfl, Nat.le_of_ble_eq_true rfl⟩) ⟨zU_blind, va_recv hK hPc (ci := 5) (q0 := 0) rfl rfl, fun U hU hW => ⟨rfl, zU_call hU hPc hW.alike hK hDc⟩⟩ rfl rfl hl.1 rfl (lv_room (Nat.le_of_ble_eq_true rfl)) dL_wish_11 ⟨(Nat.zero_le _), (Nat.zero_le _)⟩) hS (fun q _ h => hFc q h) hFc (fun zr u t H1 locs ht hvm hw hB hz1 hk1 hS => ?_)
  obtain ⟨hP1, hD1⟩ := hB
  rw [ht] at hP1
  obtain ⟨hP, hD⟩ := va_join (wr := [(ou, .inl (cA 3, 1, .inr (.inl ov)))]) (w1 := [(o, .inr (5, [.ref F, .ref G, .int lo, .int nw, .int se, .ref (pa 0), .ref an, .ref ln])), cE x xv, (x 1, .inl (cA 0, 4, .inl (upd w0 k wi))), (x 2, .inl (cA 0, 4, .inl (upd w1 k le))), (x 3, .inl (cA 0, 4, .inl (upd w2 k mo)))]) hP hD [0, 1, 2, 3, 4] [5] rfl rfl (by decide) (by decide) hk1 hFc hP1 hD1
  generalize H1 = H at hP hS ⊢
  have hP := hP.sub (ws' := [(o, .inr (5, [.ref F, .ref G, .int lo, .int nw, .int se, .ref (pa 0), .ref an, .ref ln])), cE x xv, (x 1, .inl (cA 0, 4, .inl (upd w0 k wi))), (x 2, .inl (cA 0, 4, .inl (upd w1 k le))), (x 3, .inl (cA 0, 4, .inl (upd w2 k mo))), (ou, .inl (cA 3, 1, .inr (.inl ov)))]) [1, 2, 3, 4, 5, 0] rfl
  have hD := hD.sub (ws' := [(o, .inr (5, [.ref F, .ref G, .int lo, .int nw, .int se, .ref (pa 0), .ref an, .ref ln])), cE x xv, (x 1, .inl (cA 0, 4, .inl (upd w0 k wi))), (x 2, .inl (cA 0, 4, .inl (upd w1 k le))), (x 3, .inl (cA 0, 4, .inl (upd w2 k mo))), (ou, .inl (cA 3, 1, .inr (.inl ov)))]) [1, 2, 3, 4, 5, 0] (by decide) rfl
  clear hPc hDc hFc hP1 hD1 hk1 hz1
  have hw_1 := hw
  obtain rfl := hw
  refine lv_i2l (v := (w0 k).toInt64) hx hb dL_wish_14 rfl ?_
  refine z_last (k := 0) hx hb hK hP hD hS 5 3 rfl rfl rfl (by omega) (by decide) dL_wish_15 (fun H locs hP hD hS => ?_)
  have hP : va_P D vwCl [(o, .inr (5, [.ref F, .ref G, .int lo, .int nw, .int se, .ref (pa 0), .ref an, .ref ln])), cE x xv, (x 1, .inl (cA 0, 4, .inl (upd w0 k wi))), (x 2, .inl (cA 0, 4, .inl (upd w1 k le))), (x 3, .inl (cA 0, 4, .inl (upd w2 k mo))), (ou, .inl (cA 3, 1, .inr (.inl (vp_updL ov 0 ((w0 k).toInt64)))))] H := hP
  have hD : va_D A [(o, .inr (5, [.ref F, .ref G, .int lo, .int nw, .int se, .ref (pa 0), .ref an, .ref ln])), cE x xv, (x 1, .inl (cA 0, 4, .inl (upd w0 k wi))), (x 2, .inl (cA 0, 4, .inl (upd w1 k le))), (x 3, .inl (cA 0, 4, .inl (upd w2 k mo))), (ou, .inl (cA 3, 1, .inr (.inl (vp_updL ov 0 ((w0 k).toInt64)))))] := hD
  refine lv_goto (tgt := 27) hx hb dL_wish_16 (by decide) ?_
  refine lv_iconst (v := 0) hx hb dL_wish_27 (by decide) ?_
  refine W.widen (k := 0) (n := 0) (by omega) (by omega) ?_
  exact W.iret (v := 0) hx hb hr (fun t ht hW => ⟨⟨0, (), rfl, rfl, ⟨by rw [ht]; exact hP, by rw [hAe]; exact hD⟩⟩, hS.F ht⟩) hS.2.2 dL_wish_28
set_option maxHeartbeats 4000000 in
set_option maxRecDepth 100000 in
theorem c_L_wish_s (l : Launch) (D : va_G) (cA : Nat → ClassId) (zv : Nat → Nat) (sz : Nat) (o F G : Nat) (lo nw se : Int32) (pa : Nat → Nat) (an ln : Nat) (x : Nat → Nat) (y0 : Nat) (n : Int32) (xv : Nat → Int32) (k : Nat) (wi le mo : Int32) (ou : Nat) (hl0 : l.stackTraces = false) (he : en n F G (x 0) y0) (hk : k < 4) (hsp : sSp le mo) (hwi : wi = -1 ∨ inr wi le mo) (hsh : ¬ sSh (xv 0)) : Met l yL_wish wsL_wish ({ frames := 10, cells := 1, slots := 6, locals := 147 }) (va_Pc [.ref o, .int n, .int (nI k), .int wi, .int le, .int mo, .ref ou] (zUX D cA zv sz [(o, .inr (5, [.ref F, .ref G, .int lo, .int nw, .int se, .ref (pa 0), .ref an, .ref ln])), cE x xv])) (va_Qi (fun (r : Int32) (_ : Unit) => r = 2) (fun (_ : Unit) t => zB D [(o, .inr (5, [.ref F, .ref G, .int lo, .int nw, .int se, .ref (pa 0), .ref an, .ref ln])), cE x xv] sz [(o, .inr (5, [.ref F, .ref G, .int lo, .int nw, .int se, .ref (pa 0), .ref an, .ref ln])), cE x xv] t) (va_A [(o, .inr (5, [.ref F, .ref G, .int lo, .int nw, .int se, .ref (pa 0), .ref an, .ref ln])), cE x xv] sz)) 1 6 (va_A [(o, .inr (5, [.ref F, .ref G, .int lo, .int nw, .int se, .ref (pa 0), .ref an, .ref ln])), cE x xv] sz) := by
  refine z_ofWH (cc := cL_wish) (maxL := 8) (ret := (some .int)) (hh := [(0, 16, 19, 13), (0, 16, 23, 15)]) (by decide) rfl ?_
  intro p e s m args below meth c s₁ B hml htab hv
  obtain ⟨rfl, ⟨hsz, hP, hK, hD0, hE0⟩, hX0⟩ := hv
  have hx := B.exec
  have hb := B.bytes
  have hr := B.returns
  have hts := atoms_spec (ws := wsL_wish) B.pre
  have hown : s.vm.findClass RL = some m.cls := findClass_of_methodNamed B.named
  have hlocks := B.notSynchronized
  subst hsz
  have hD := hD0.self (sz := s.heap.size)
  generalize hAe : va_A [(o, .inr (5, [.ref F, .ref G, .int lo, .int nw, .int se, .ref (pa 0), .ref an, .ref ln])), cE x xv] s.heap.size = A at hD hE0 hX0 ⊢
  have hA : ∀ q : Nat, s.heap.size ≤ q → A q := fun q h => by rw [← hAe]; exact Or.inr h
  have hS : va_S A s.heap s.heap [] := va_S.rf
  have hl := lv_entry ([.ref o, .int n, .int (nI k), .int wi, .int le, .int mo, .ref ou]) (n := 8) (Nat.le_of_ble_eq_true rfl)
  rw [lg_entry_eq]
  generalize (lg_sl ([.ref o, .int n, .int (nI k), .int wi, .int le, .int mo, .ref ou]) ++ List.replicate (8 - (lg_sl ([.ref o, .int n, .int (nI k), .int wi, .int le, .int mo, .ref ou])).length) Slot.unset).toArray = ls at hl ⊢
  have hl : lv_has ls 8 [(0, .ref o), (1, .int n), (2, .int (nI k)), (3, .int wi), (4, .int le), (5, .int mo), (6, .ref ou)] := hl
  refine lv_aload hx hb dL_wish_0 (lv_at hl 6 rfl) ?_
  refine lv_iconst (v := 0) hx hb dL_wish_2 (by decide) ?_
  refine lv_aload_n hx hb dL_wish_3 rfl (lv_at hl 0 rfl) ?_
  refine lv_iload_n hx hb dL_wish_4 rfl (lv_at hl 1 rfl) ?_
  refine lv_iload_n hx hb dL_wish_5 rfl (lv_at hl 2 rfl) ?_
  refine lv_iload_n hx hb dL_wish_6 rfl (lv_at hl 3 rfl) ?_
  refine lv_iload hx hb dL_wish_7 (lv_at hl 4 rfl) ?_
  refine lv_iload hx hb dL_wish_9 (lv_at hl 5 rfl) ?_
  have hPc := hP.sub (ws' := [(o, .inr (5, [.ref F, .ref G, .int lo, .int nw, .int se, .ref (pa 0), .ref an, .ref ln])), cE x xv]) [0, 1] rfl
  have hDc := hD.sub (ws' := [(o, .inr (5, [.ref F, .ref G, .int lo, .int nw, .int se, .ref (pa 0), .ref an, .ref ln])), cE x xv]) [0, 1] (by decide) rfl
  have hFc := va_free (wc := [(o, .inr (5, [.ref F, .ref G, .int lo, .int nw, .int se, .ref (pa 0), .ref an, .ref ln])), cE x xv]) hD hS hA [0, 1] rfl
  refine vx_calli (vx_runV (As := [.int n, .int (nI k), .int wi, .int le, .int mo]) (rest := [.int 0, .ref ou]) ⟨hx, hb, hml, hown, hts⟩ (c_X3_wish_s l D cA zv s.heap.size hl0 o F G lo nw se pa an ln x y0 n xv k wi le mo (by assumption) (by assumption) (by assumption) (by assumption) (by assumption)) (cwV 5 hts gL_wish_X3_wish rfl rfl rfl (by decide +kernel) ⟨Nat.le_of_ble_eq_true rfl, Nat.le_of_ble_eq_true rfl⟩) ⟨zUX_blind, va_recv hK hPc (ci := 5) (q0 := 0) rfl rfl, fun U hU hW => ⟨rfl, zUX_call hE0 hX0 hS hFc hU hPc hW hK hDc⟩⟩ rfl rfl hl.1 rfl (lv_room (Nat.le_of_ble_eq_true rfl)) dL_wish_11 ⟨Nat.le_of_ble_eq_true rfl, Nat.le_of_ble_eq_true rfl⟩) hS (fun q _ h => hFc q h) hFc (fun q _ h => hFc q h) (fun E9 ce9 q9 u t H1 locs ht hvm hpx hB hz1 hk1 hS hcell hcv hcl => ?_) (fun zr u t H1 locs1 ht hvm hw _ _ _ _ => hw.elim)
  obtain ⟨rfl, hP1, hD1⟩ := hB
  rw [ht] at hP1
  obtain ⟨hP, hD⟩ := va_join (wr := []) (w1 := [(o, .inr (5, [.ref F, .ref G, .int lo, .int nw, .int se, .ref (pa 0), .ref an, .ref ln])), cE x xv]) hP hD [0, 1] [] rfl rfl (by decide) (by decide) hk1 hFc hP1 hD1
  have hP := hP.sub (ws' := [(o, .inr (5, [.ref F, .ref G, .int lo, .int nw, .int se, .ref (pa 0), .ref an, .ref ln])), cE x xv]) [0, 1] rfl
  have hD := hD.sub (ws' := [(o, .inr (5, [.ref F, .ref G, .int lo, .int nw, .int se, .ref (pa 0), .ref an, .ref ln])), cE x xv]) [0, 1] (by decide) rfl
  refine vx_catch hown [⟨0, 16, 19, 13⟩] ⟨0, 16, 23, 15⟩ [] htab (fun z hz => by obtain rfl := List.mem_singleton.mp hz; exact Or.inr ⟨by decide, _, (hts (.classLink RL 13 "java/lang/IllegalArgumentException") (List.mem_of_getElem? (i := 1) rfl)), hX0.2.2.2.2.1⟩) (by decide) (by decide) (hts (.classLink RL 15 "java/lang/IllegalStateException") (List.mem_of_getElem? (i := 2) rfl)) (va_Nw.use rfl (hX0.1.1 "java/lang/IllegalStateException" (by decide))) hcell hcv hcl ?_
  refine W.eq (g2 := F0 m 23 ls [.ref q9]) rfl ?_
  clear hcell
  generalize H1 = H at hP hS ⊢
  refine W.widen (k := 1) (n := 6) (by omega) (by omega) ?_
  refine lv_astore (lv' := [(7, .ref q9), (0, .ref o), (1, .int n), (2, .int (nI k)), (3, .int wi), (4, .int le), (5, .int mo), (6, .ref ou)]) hx hb dL_wish_23 hl (by decide) rfl (fun ls hl => ?_)
  refine lv_iconst (v := 2) hx hb dL_wish_25 (by decide) ?_
  refine W.widen (k := 1) (n := 6) (by omega) (by omega) ?_
  exact W.iret (v := 2) hx hb hr (fun t ht hW => ⟨⟨2, (), rfl, rfl, ⟨by rw [ht]; exact hP, by rw [hAe]; exact hD⟩⟩, hS.F ht⟩) hS.2.2 dL_wish_26
set_option maxHeartbeats 4000000 in
set_option maxRecDepth 100000 in
theorem c_L_wish_b (l : Launch) (D : va_G) (cA : Nat → ClassId) (zv : Nat → Nat) (sz : Nat) (o F G : Nat) (lo nw se : Int32) (pa : Nat → Nat) (an ln : Nat) (n q wi le mo : Int32) (ou : Nat) (hl0 : l.stackTraces = false) (hbad : ¬ ((inr n 0 1 ∧ inr q 0 3) ∧ (sSp le mo) ∧ (wi = -1 ∨ inr wi le mo))) : Met l yL_wish wsL_wish ({ frames := 10, cells := 1, slots := 6, locals := 148 }) (va_Pc [.ref o, .int n, .int q, .int wi, .int le, .int mo, .ref ou] (zUX D cA zv sz [(o, .inr (5, [.ref F, .ref G, .int lo, .int nw, .int se, .ref (pa 0), .ref an, .ref ln]))])) (va_Qi (fun (r : Int32) (_ : Unit) => r = 1) (fun (_ : Unit) t => zB D [(o, .inr (5, [.ref F, .ref G, .int lo, .int nw, .int se, .ref (pa 0), .ref an, .ref ln]))] sz [(o, .inr (5, [.ref F, .ref G, .int lo, .int nw, .int se, .ref (pa 0), .ref an, .ref ln]))] t) (va_A [(o, .inr (5, [.ref F, .ref G, .int lo, .int nw, .int se, .ref (pa 0), .ref an, .ref ln]))] sz)) 1 6 (va_A [(o, .inr (5, [.ref F, .ref G, .int lo, .int nw, .int se, .ref (pa 0), .ref an, .ref ln]))] sz) := by
  refine z_ofWH (cc := cL_wish) (maxL := 8) (ret := (some .int)) (hh := [(0, 16, 19, 13), (0, 16, 23, 15)]) (by decide) rfl ?_
  intro p e s m args below meth c s₁ B hml htab hv
  obtain ⟨rfl, ⟨hsz, hP, hK, hD0, hE0⟩, hX0⟩ := hv
  have hx := B.exec
  have hb := B.bytes
  have hr := B.returns
  have hts := atoms_spec (ws := wsL_wish) B.pre
  have hown : s.vm.findClass RL = some m.cls := findClass_of_methodNamed B.named
  have hlocks := B.notSynchronized
  subst hsz
  have hD := hD0.self (sz := s.heap.size)
  generalize hAe : va_A [(o, .inr (5, [.ref F, .ref G, .int lo, .int nw, .int se, .ref (pa 0), .ref an, .ref ln]))] s.heap.size = A at hD hE0 hX0 ⊢
  have hA : ∀ q : Nat, s.heap.size ≤ q → A q := fun q h => by rw [← hAe]; exact Or.inr h
  have hS : va_S A s.heap s.heap [] := va_S.rf
  have hl := lv_entry ([.ref o, .int n, .int q, .int wi, .int le, .int mo, .ref ou]) (n := 8) (Nat.le_of_ble_eq_true rfl)
  rw [lg_entry_eq]
  generalize (lg_sl ([.ref o, .int n, .int q, .int wi, .int le, .int mo, .ref ou]) ++ List.replicate (8 - (lg_sl ([.ref o, .int n, .int q, .int wi, .int le, .int mo, .ref ou])).length) Slot.unset).toArray = ls at hl ⊢
  have hl : lv_has ls 8 [(0, .ref o), (1, .int n), (2, .int q), (3, .int wi), (4, .int le), (5, .int mo), (6, .ref ou)] := hl
  refine lv_aload hx hb dL_wish_0 (lv_at hl 6 rfl) ?_
  refine lv_iconst (v := 0) hx hb dL_wish_2 (by decide) ?_
  refine lv_aload_n hx hb dL_wish_3 rfl (lv_at hl 0 rfl) ?_
  refine lv_iload_n hx hb dL_wish_4 rfl (lv_at hl 1 rfl) ?_
  refine lv_iload_n hx hb dL_wish_5 rfl (lv_at hl 2 rfl) ?_
  refine lv_iload_n hx hb dL_wish_6 rfl (lv_at hl 3 rfl) ?_
  refine lv_iload hx hb dL_wish_7 (lv_at hl 4 rfl) ?_
  refine lv_iload hx hb dL_wish_9 (lv_at hl 5 rfl) ?_
  have hPc := hP.sub (ws' := [(o, .inr (5, [.ref F, .ref G, .int lo, .int nw, .int se, .ref (pa 0), .ref an, .ref ln]))]) [0] rfl
  have hDc := hD.sub (ws' := [(o, .inr (5, [.ref F, .ref G, .int lo, .int nw, .int se, .ref (pa 0), .ref an, .ref ln]))]) [0] (by decide) rfl
  have hFc := va_free (wc := [(o, .inr (5, [.ref F, .ref G, .int lo, .int nw, .int se, .ref (pa 0), .ref an, .ref ln]))]) hD hS hA [0] rfl
  refine vx_calli (vx_runV (As := [.int n, .int q, .int wi, .int le, .int mo]) (rest := [.int 0, .ref ou]) ⟨hx, hb, hml, hown, hts⟩ (c_X3_wish_b l D cA zv s.heap.size hl0 o F G lo nw se pa an ln n q wi le mo (by assumption)) (cwV 5 hts gL_wish_X3_wish rfl rfl rfl (by decide +kernel) ⟨Nat.le_of_ble_eq_true rfl, Nat.le_of_ble_eq_true rfl⟩) ⟨zUX_blind, va_recv hK hPc (ci := 5) (q0 := 0) rfl rfl, fun U hU hW => ⟨rfl, zUX_call hE0 hX0 hS hFc hU hPc hW hK hDc⟩⟩ rfl rfl hl.1 rfl (lv_room (Nat.le_of_ble_eq_true rfl)) dL_wish_11 ⟨Nat.le_of_ble_eq_true rfl, Nat.le_of_ble_eq_true rfl⟩) hS (fun q _ h => hFc q h) hFc (fun q _ h => hFc q h) (fun E9 ce9 q9 u t H1 locs ht hvm hpx hB hz1 hk1 hS hcell hcv hcl => ?_) (fun zr u t H1 locs1 ht hvm hw _ _ _ _ => hw.elim)
  obtain ⟨rfl, hP1, hD1⟩ := hB
  rw [ht] at hP1
  obtain ⟨hP, hD⟩ := va_join (wr := []) (w1 := [(o, .inr (5, [.ref F, .ref G, .int lo, .int nw, .int se, .ref (pa 0), .ref an, .ref ln]))]) hP hD [0] [] rfl rfl (by decide) (by decide) hk1 hFc hP1 hD1
  have hP := hP.sub (ws' := [(o, .inr (5, [.ref F, .ref G, .int lo, .int nw, .int se, .ref (pa 0), .ref an, .ref ln]))]) [0] rfl
  have hD := hD.sub (ws' := [(o, .inr (5, [.ref F, .ref G, .int lo, .int nw, .int se, .ref (pa 0), .ref an, .ref ln]))]) [0] (by decide) rfl
  refine vx_catch hown [] ⟨0, 16, 19, 13⟩ [⟨0, 16, 23, 15⟩] htab (fun z hz => absurd hz List.not_mem_nil) (by decide) (by decide) (hts (.classLink RL 13 "java/lang/IllegalArgumentException") (List.mem_of_getElem? (i := 1) rfl)) (va_Nw.use rfl (hX0.1.1 "java/lang/IllegalArgumentException" (by decide))) hcell hcv hcl ?_
  refine W.eq (g2 := F0 m 19 ls [.ref q9]) rfl ?_
  clear hcell
  generalize H1 = H at hP hS ⊢
  refine W.widen (k := 1) (n := 6) (by omega) (by omega) ?_
  refine lv_astore (lv' := [(7, .ref q9), (0, .ref o), (1, .int n), (2, .int q), (3, .int wi), (4, .int le), (5, .int mo), (6, .ref ou)]) hx hb dL_wish_19 hl (by decide) rfl (fun ls hl => ?_)
  refine lv_iconst (v := 1) hx hb dL_wish_21 (by decide) ?_
  refine W.widen (k := 1) (n := 6) (by omega) (by omega) ?_
  exact W.iret (v := 1) hx hb hr (fun t ht hW => ⟨⟨1, (), rfl, rfl, ⟨by rw [ht]; exact hP, by rw [hAe]; exact hD⟩⟩, hS.F ht⟩) hS.2.2 dL_wish_22
set_option maxHeartbeats 4000000 in
set_option maxRecDepth 100000 in
theorem c_L_allow_k (l : Launch) (D : va_G) (cA : Nat → ClassId) (sz : Nat) (o F G : Nat) (lo nw se : Int32) (pa : Nat → Nat) (an ln : Nat) (x : Nat → Nat) (y0 : Nat) (n : Int32) (xv : Nat → Int32) (k : Nat) (le mo : Int32) (w3 w4 : Nat → Int32) (he : en n F G (x 0) y0) (hk : k < 4) (hsp : sSp le mo) (hsh : sSh (xv 0)) : Met l yL_allow wsL_allow ({ frames := 3, cells := 0, slots := 0, locals := 65 }) (va_Pc [.ref o, .int n, .int (nI k), .int le, .int mo] (zU D cA sz [(o, .inr (5, [.ref F, .ref G, .int lo, .int nw, .int se, .ref (pa 0), .ref an, .ref ln])), cE x xv, (x 4, .inl (cA 0, 4, .inl w3)), (x 5, .inl (cA 0, 4, .inl w4))])) (va_Qi (fun (r : Int32) (_ : Unit) => r = 0) (fun (_ : Unit) t => zB D [(o, .inr (5, [.ref F, .ref G, .int lo, .int nw, .int se, .ref (pa 0), .ref an, .ref ln])), cE x xv, (x 4, .inl (cA 0, 4, .inl w3)), (x 5, .inl (cA 0, 4, .inl w4))] sz [(o, .inr (5, [.ref F, .ref G, .int lo, .int nw, .int se, .ref (pa 0), .ref an, .ref ln])), cE x xv, (x 4, .inl (cA 0, 4, .inl (upd w3 k le))), (x 5, .inl (cA 0, 4, .inl (upd w4 k mo)))] t) (va_A [(o, .inr (5, [.ref F, .ref G, .int lo, .int nw, .int se, .ref (pa 0), .ref an, .ref ln])), cE x xv, (x 4, .inl (cA 0, 4, .inl w3)), (x 5, .inl (cA 0, 4, .inl w4))] sz)) 0 0 (va_A [(o, .inr (5, [.ref F, .ref G, .int lo, .int nw, .int se, .ref (pa 0), .ref an, .ref ln])), cE x xv, (x 4, .inl (cA 0, 4, .inl w3)), (x 5, .inl (cA 0, 4, .inl w4))] sz) := by
  refine z_ofWH (cc := cL_allow) (maxL := 6) (ret := (some .int)) (hh := [(0, 9, 12, 13), (0, 9, 16, 15)]) (by decide) rfl ?_
  intro p e s m args below meth c s₁ B hml htab hv
  obtain ⟨rfl, hsz, hP, hK, hD0⟩ := hv
  have hx := B.exec
  have hb := B.bytes
  have hr := B.returns
  have hts := atoms_spec (ws := wsL_allow) B.pre
  have hown : s.vm.findClass RL = some m.cls := findClass_of_methodNamed B.named
  have hlocks := B.notSynchronized
  subst hsz
  have hD := hD0.self (sz := s.heap.size)
  generalize hAe : va_A [(o, .inr (5, [.ref F, .ref G, .int lo, .int nw, .int se, .ref (pa 0), .ref an, .ref ln])), cE x xv, (x 4, .inl (cA 0, 4, .inl w3)), (x 5, .inl (cA 0, 4, .inl w4))] s.heap.size = A at hD ⊢
  have hA : ∀ q : Nat, s.heap.size ≤ q → A q := fun q h => by rw [← hAe]; exact Or.inr h
  have hS : va_S A s.heap s.heap [] := va_S.rf
  have hl := lv_entry ([.ref o, .int n, .int (nI k), .int le, .int mo]) (n := 6) (Nat.le_of_ble_eq_true rfl)
  rw [lg_entry_eq]
  generalize (lg_sl ([.ref o, .int n, .int (nI k), .int le, .int mo]) ++ List.replicate (6 - (lg_sl ([.ref o, .int n, .int (nI k), .int le, .int mo])).length) Slot.unset).toArray = ls at hl ⊢
  have hl : lv_has ls 6 [(0, .ref o), (1, .int n), (2, .int (nI k)), (3, .int le), (4, .int mo)] := hl
  refine lv_aload_n hx hb dL_allow_0 rfl (lv_at hl 0 rfl) ?_
  refine lv_iload_n hx hb dL_allow_1 rfl (lv_at hl 1 rfl) ?_
  refine lv_iload_n hx hb dL_allow_2 rfl (lv_at hl 2 rfl) ?_
  refine lv_iload_n hx hb dL_allow_3 rfl (lv_at hl 3 rfl) ?_
  refine lv_iload hx hb dL_allow_4 (lv_at hl 4 rfl) ?_
  have hPc := hP.sub (ws' := [(o, .inr (5, [.ref F, .ref G, .int lo, .int nw, .int se, .ref (pa 0), .ref an, .ref ln])), cE x xv, (x 4, .inl (cA 0, 4, .inl w3)), (x 5, .inl (cA 0, 4, .inl w4))]) [0, 1, 2, 3] rfl
  have hDc := hD.sub (ws' := [(o, .inr (5, [.ref F, .ref G, .int lo, .int nw, .int se, .ref (pa 0), .ref an, .ref ln])), cE x xv, (x 4, .inl (cA 0, 4, .inl w3)), (x 5, .inl (cA 0, 4, .inl w4))]) [0, 1, 2, 3] (by decide) rfl
  have hFc := va_free (wc := [(o, .inr (5, [.ref F, .ref G, .int lo, .int nw, .int se, .ref (pa 0), .ref an, .ref ln])), cE x xv, (x 4, .inl (cA 0, 4, .inl w3)), (x 5, .inl (cA 0, 4, .inl w4))]) hD hS hA [0, 1, 2, 3] rfl
  refine va_callv (va_runV (As := [.int n, .int (nI k), .int le, .int mo]) (rest := []) ⟨hx, hb, hml, hown, hts⟩ (c_X3_allow_k l D cA s.heap.size o F G lo nw se pa an ln x y0 n xv k le mo w3 w4 (by assumption) (by assumption) (by assumption) (by assumption)) (cwV 4 hts gL_allow_X3_allow rfl rfl rfl (by decide +kernel) ⟨Nat.le_of_ble_eq_true rfl, Nat.le_of_ble_eq_true rfl⟩) ⟨zU_blind, va_recv hK hPc (ci := 5) (q0 := 0) rfl rfl, fun U hU hW => ⟨rfl, zU_call hU hPc hW.alike hK hDc⟩⟩ rfl rfl hl.1 rfl (lv_room (Nat.le_of_ble_eq_true rfl)) dL_allow_6 ⟨(Nat.zero_le _), (Nat.zero_le _)⟩) hS (fun q _ h => hFc q h) hFc (fun u t H1 locs ht hvm hw hB hz1 hk1 hS => ?_)
  obtain ⟨hP1, hD1⟩ := hB
  rw [ht] at hP1
  obtain ⟨hP, hD⟩ := va_join (wr := []) (w1 := [(o, .inr (5, [.ref F, .ref G, .int lo, .int nw, .int se, .ref (pa 0), .ref an, .ref ln])), cE x xv, (x 4, .inl (cA 0, 4, .inl (upd w3 k le))), (x 5, .inl (cA 0, 4, .inl (upd w4 k mo)))]) hP hD [0, 1, 2, 3] [] rfl rfl (by decide) (by decide) hk1 hFc hP1 hD1
  generalize H1 = H at hP hS ⊢
  have hP := hP.sub (ws' := [(o, .inr (5, [.ref F, .ref G, .int lo, .int nw, .int se, .ref (pa 0), .ref an, .ref ln])), cE x xv, (x 4, .inl (cA 0, 4, .inl (upd w3 k le))), (x 5, .inl (cA 0, 4, .inl (upd w4 k mo)))]) [0, 1, 2, 3] rfl
  have hD := hD.sub (ws' := [(o, .inr (5, [.ref F, .ref G, .int lo, .int nw, .int se, .ref (pa 0), .ref an, .ref ln])), cE x xv, (x 4, .inl (cA 0, 4, .inl (upd w3 k le))), (x 5, .inl (cA 0, 4, .inl (upd w4 k mo)))]) [0, 1, 2, 3] (by decide) rfl
  clear hPc hDc hFc hP1 hD1 hk1 hz1
  have hw_1 := hw
  refine lv_goto (tgt := 20) hx hb dL_allow_9 (by decide) ?_
  refine lv_iconst (v := 0) hx hb dL_allow_20 (by decide) ?_
  refine W.widen (k := 0) (n := 0) (by omega) (by omega) ?_
  exact W.iret (v := 0) hx hb hr (fun t ht hW => ⟨⟨0, (), rfl, rfl, ⟨by rw [ht]; exact hP, by rw [hAe]; exact hD⟩⟩, hS.F ht⟩) hS.2.2 dL_allow_21
set_option maxHeartbeats 4000000 in
set_option maxRecDepth 100000 in
theorem c_L_allow_s (l : Launch) (D : va_G) (cA : Nat → ClassId) (zv : Nat → Nat) (sz : Nat) (o F G : Nat) (lo nw se : Int32) (pa : Nat → Nat) (an ln : Nat) (x : Nat → Nat) (y0 : Nat) (n : Int32) (xv : Nat → Int32) (k : Nat) (le mo : Int32) (hl0 : l.stackTraces = false) (he : en n F G (x 0) y0) (hk : k < 4) (hsp : sSp le mo) (hsh : ¬ sSh (xv 0)) : Met l yL_allow wsL_allow ({ frames := 10, cells := 1, slots := 6, locals := 145 }) (va_Pc [.ref o, .int n, .int (nI k), .int le, .int mo] (zUX D cA zv sz [(o, .inr (5, [.ref F, .ref G, .int lo, .int nw, .int se, .ref (pa 0), .ref an, .ref ln])), cE x xv])) (va_Qi (fun (r : Int32) (_ : Unit) => r = 2) (fun (_ : Unit) t => zB D [(o, .inr (5, [.ref F, .ref G, .int lo, .int nw, .int se, .ref (pa 0), .ref an, .ref ln])), cE x xv] sz [(o, .inr (5, [.ref F, .ref G, .int lo, .int nw, .int se, .ref (pa 0), .ref an, .ref ln])), cE x xv] t) (va_A [(o, .inr (5, [.ref F, .ref G, .int lo, .int nw, .int se, .ref (pa 0), .ref an, .ref ln])), cE x xv] sz)) 1 6 (va_A [(o, .inr (5, [.ref F, .ref G, .int lo, .int nw, .int se, .ref (pa 0), .ref an, .ref ln])), cE x xv] sz) := by
  refine z_ofWH (cc := cL_allow) (maxL := 6) (ret := (some .int)) (hh := [(0, 9, 12, 13), (0, 9, 16, 15)]) (by decide) rfl ?_
  intro p e s m args below meth c s₁ B hml htab hv
  obtain ⟨rfl, ⟨hsz, hP, hK, hD0, hE0⟩, hX0⟩ := hv
  have hx := B.exec
  have hb := B.bytes
  have hr := B.returns
  have hts := atoms_spec (ws := wsL_allow) B.pre
  have hown : s.vm.findClass RL = some m.cls := findClass_of_methodNamed B.named
  have hlocks := B.notSynchronized
  subst hsz
  have hD := hD0.self (sz := s.heap.size)
  generalize hAe : va_A [(o, .inr (5, [.ref F, .ref G, .int lo, .int nw, .int se, .ref (pa 0), .ref an, .ref ln])), cE x xv] s.heap.size = A at hD hE0 hX0 ⊢
  have hA : ∀ q : Nat, s.heap.size ≤ q → A q := fun q h => by rw [← hAe]; exact Or.inr h
  have hS : va_S A s.heap s.heap [] := va_S.rf
  have hl := lv_entry ([.ref o, .int n, .int (nI k), .int le, .int mo]) (n := 6) (Nat.le_of_ble_eq_true rfl)
  rw [lg_entry_eq]
  generalize (lg_sl ([.ref o, .int n, .int (nI k), .int le, .int mo]) ++ List.replicate (6 - (lg_sl ([.ref o, .int n, .int (nI k), .int le, .int mo])).length) Slot.unset).toArray = ls at hl ⊢
  have hl : lv_has ls 6 [(0, .ref o), (1, .int n), (2, .int (nI k)), (3, .int le), (4, .int mo)] := hl
  refine lv_aload_n hx hb dL_allow_0 rfl (lv_at hl 0 rfl) ?_
  refine lv_iload_n hx hb dL_allow_1 rfl (lv_at hl 1 rfl) ?_
  refine lv_iload_n hx hb dL_allow_2 rfl (lv_at hl 2 rfl) ?_
  refine lv_iload_n hx hb dL_allow_3 rfl (lv_at hl 3 rfl) ?_
  refine lv_iload hx hb dL_allow_4 (lv_at hl 4 rfl) ?_
  have hPc := hP.sub (ws' := [(o, .inr (5, [.ref F, .ref G, .int lo, .int nw, .int se, .ref (pa 0), .ref an, .ref ln])), cE x xv]) [0, 1] rfl
  have hDc := hD.sub (ws' := [(o, .inr (5, [.ref F, .ref G, .int lo, .int nw, .int se, .ref (pa 0), .ref an, .ref ln])), cE x xv]) [0, 1] (by decide) rfl
  have hFc := va_free (wc := [(o, .inr (5, [.ref F, .ref G, .int lo, .int nw, .int se, .ref (pa 0), .ref an, .ref ln])), cE x xv]) hD hS hA [0, 1] rfl
  refine vx_callv (vx_runV (As := [.int n, .int (nI k), .int le, .int mo]) (rest := []) ⟨hx, hb, hml, hown, hts⟩ (c_X3_allow_s l D cA zv s.heap.size hl0 o F G lo nw se pa an ln x y0 n xv k le mo (by assumption) (by assumption) (by assumption) (by assumption)) (cwV 4 hts gL_allow_X3_allow rfl rfl rfl (by decide +kernel) ⟨Nat.le_of_ble_eq_true rfl, Nat.le_of_ble_eq_true rfl⟩) ⟨zUX_blind, va_recv hK hPc (ci := 5) (q0 := 0) rfl rfl, fun U hU hW => ⟨rfl, zUX_call hE0 hX0 hS hFc hU hPc hW hK hDc⟩⟩ rfl rfl hl.1 rfl (lv_room (Nat.le_of_ble_eq_true rfl)) dL_allow_6 ⟨Nat.le_of_ble_eq_true rfl, Nat.le_of_ble_eq_true rfl⟩) hS (fun q _ h => hFc q h) hFc (fun q _ h => hFc q h) (fun E9 ce9 q9 u t H1 locs ht hvm hpx hB hz1 hk1 hS hcell hcv hcl => ?_) (fun u t H1 locs1 ht hvm hw _ _ _ _ => hw.elim)
  obtain ⟨rfl, hP1, hD1⟩ := hB
  rw [ht] at hP1
  obtain ⟨hP, hD⟩ := va_join (wr := []) (w1 := [(o, .inr (5, [.ref F, .ref G, .int lo, .int nw, .int se, .ref (pa 0), .ref an, .ref ln])), cE x xv]) hP hD [0, 1] [] rfl rfl (by decide) (by decide) hk1 hFc hP1 hD1
  have hP := hP.sub (ws' := [(o, .inr (5, [.ref F, .ref G, .int lo, .int nw, .int se, .ref (pa 0), .ref an, .ref ln])), cE x xv]) [0, 1] rfl
  have hD := hD.sub (ws' := [(o, .inr (5, [.ref F, .ref G, .int lo, .int nw, .int se, .ref (pa 0), .ref an, .ref ln])), cE x xv]) [0, 1] (by decide) rfl
  refine vx_catch hown [⟨0, 9, 12, 13⟩] ⟨0, 9, 16, 15⟩ [] htab (fun z hz => by obtain rfl := List.mem_singleton.mp hz; exact Or.inr ⟨by decide, _, (hts (.classLink RL 13 "java/lang/IllegalArgumentException") (List.mem_of_getElem? (i := 1) rfl)), hX0.2.2.2.2.1⟩) (by decide) (by decide) (hts (.classLink RL 15 "java/lang/IllegalStateException") (List.mem_of_getElem? (i := 2) rfl)) (va_Nw.use rfl (hX0.1.1 "java/lang/IllegalStateException" (by decide))) hcell hcv hcl ?_
  refine W.eq (g2 := F0 m 16 ls [.ref q9]) rfl ?_
  clear hcell
  generalize H1 = H at hP hS ⊢
  refine W.widen (k := 1) (n := 6) (by omega) (by omega) ?_
  refine lv_astore (lv' := [(5, .ref q9), (0, .ref o), (1, .int n), (2, .int (nI k)), (3, .int le), (4, .int mo)]) hx hb dL_allow_16 hl (by decide) rfl (fun ls hl => ?_)
  refine lv_iconst (v := 2) hx hb dL_allow_18 (by decide) ?_
  refine W.widen (k := 1) (n := 6) (by omega) (by omega) ?_
  exact W.iret (v := 2) hx hb hr (fun t ht hW => ⟨⟨2, (), rfl, rfl, ⟨by rw [ht]; exact hP, by rw [hAe]; exact hD⟩⟩, hS.F ht⟩) hS.2.2 dL_allow_19
set_option maxHeartbeats 4000000 in
set_option maxRecDepth 100000 in
theorem c_L_allow_b (l : Launch) (D : va_G) (cA : Nat → ClassId) (zv : Nat → Nat) (sz : Nat) (o F G : Nat) (lo nw se : Int32) (pa : Nat → Nat) (an ln : Nat) (n q le mo : Int32) (hl0 : l.stackTraces = false) (hbad : ¬ ((inr n 0 1 ∧ inr q 0 3) ∧ (sSp le mo))) : Met l yL_allow wsL_allow ({ frames := 10, cells := 1, slots := 6, locals := 146 }) (va_Pc [.ref o, .int n, .int q, .int le, .int mo] (zUX D cA zv sz [(o, .inr (5, [.ref F, .ref G, .int lo, .int nw, .int se, .ref (pa 0), .ref an, .ref ln]))])) (va_Qi (fun (r : Int32) (_ : Unit) => r = 1) (fun (_ : Unit) t => zB D [(o, .inr (5, [.ref F, .ref G, .int lo, .int nw, .int se, .ref (pa 0), .ref an, .ref ln]))] sz [(o, .inr (5, [.ref F, .ref G, .int lo, .int nw, .int se, .ref (pa 0), .ref an, .ref ln]))] t) (va_A [(o, .inr (5, [.ref F, .ref G, .int lo, .int nw, .int se, .ref (pa 0), .ref an, .ref ln]))] sz)) 1 6 (va_A [(o, .inr (5, [.ref F, .ref G, .int lo, .int nw, .int se, .ref (pa 0), .ref an, .ref ln]))] sz) := by
  refine z_ofWH (cc := cL_allow) (maxL := 6) (ret := (some .int)) (hh := [(0, 9, 12, 13), (0, 9, 16, 15)]) (by decide) rfl ?_
  intro p e s m args below meth c s₁ B hml htab hv
  obtain ⟨rfl, ⟨hsz, hP, hK, hD0, hE0⟩, hX0⟩ := hv
  have hx := B.exec
  have hb := B.bytes
  have hr := B.returns
  have hts := atoms_spec (ws := wsL_allow) B.pre
  have hown : s.vm.findClass RL = some m.cls := findClass_of_methodNamed B.named
  have hlocks := B.notSynchronized
  subst hsz
  have hD := hD0.self (sz := s.heap.size)
  generalize hAe : va_A [(o, .inr (5, [.ref F, .ref G, .int lo, .int nw, .int se, .ref (pa 0), .ref an, .ref ln]))] s.heap.size = A at hD hE0 hX0 ⊢
  have hA : ∀ q : Nat, s.heap.size ≤ q → A q := fun q h => by rw [← hAe]; exact Or.inr h
  have hS : va_S A s.heap s.heap [] := va_S.rf
  have hl := lv_entry ([.ref o, .int n, .int q, .int le, .int mo]) (n := 6) (Nat.le_of_ble_eq_true rfl)
  rw [lg_entry_eq]
  generalize (lg_sl ([.ref o, .int n, .int q, .int le, .int mo]) ++ List.replicate (6 - (lg_sl ([.ref o, .int n, .int q, .int le, .int mo])).length) Slot.unset).toArray = ls at hl ⊢
  have hl : lv_has ls 6 [(0, .ref o), (1, .int n), (2, .int q), (3, .int le), (4, .int mo)] := hl
  refine lv_aload_n hx hb dL_allow_0 rfl (lv_at hl 0 rfl) ?_
  refine lv_iload_n hx hb dL_allow_1 rfl (lv_at hl 1 rfl) ?_
  refine lv_iload_n hx hb dL_allow_2 rfl (lv_at hl 2 rfl) ?_
  refine lv_iload_n hx hb dL_allow_3 rfl (lv_at hl 3 rfl) ?_
  refine lv_iload hx hb dL_allow_4 (lv_at hl 4 rfl) ?_
  have hPc := hP.sub (ws' := [(o, .inr (5, [.ref F, .ref G, .int lo, .int nw, .int se, .ref (pa 0), .ref an, .ref ln]))]) [0] rfl
  have hDc := hD.sub (ws' := [(o, .inr (5, [.ref F, .ref G, .int lo, .int nw, .int se, .ref (pa 0), .ref an, .ref ln]))]) [0] (by decide) rfl
  have hFc := va_free (wc := [(o, .inr (5, [.ref F, .ref G, .int lo, .int nw, .int se, .ref (pa 0), .ref an, .ref ln]))]) hD hS hA [0] rfl
  refine vx_callv (vx_runV (As := [.int n, .int q, .int le, .int mo]) (rest := []) ⟨hx, hb, hml, hown, hts⟩ (c_X3_allow_b l D cA zv s.heap.size hl0 o F G lo nw se pa an ln n q le mo (by assumption)) (cwV 4 hts gL_allow_X3_allow rfl rfl rfl (by decide +kernel) ⟨Nat.le_of_ble_eq_true rfl, Nat.le_of_ble_eq_true rfl⟩) ⟨zUX_blind, va_recv hK hPc (ci := 5) (q0 := 0) rfl rfl, fun U hU hW => ⟨rfl, zUX_call hE0 hX0 hS hFc hU hPc hW hK hDc⟩⟩ rfl rfl hl.1 rfl (lv_room (Nat.le_of_ble_eq_true rfl)) dL_allow_6 ⟨Nat.le_of_ble_eq_true rfl, Nat.le_of_ble_eq_true rfl⟩) hS (fun q _ h => hFc q h) hFc (fun q _ h => hFc q h) (fun E9 ce9 q9 u t H1 locs ht hvm hpx hB hz1 hk1 hS hcell hcv hcl => ?_) (fun u t H1 locs1 ht hvm hw _ _ _ _ => hw.elim)
  obtain ⟨rfl, hP1, hD1⟩ := hB
  rw [ht] at hP1
  obtain ⟨hP, hD⟩ := va_join (wr := []) (w1 := [(o, .inr (5, [.ref F, .ref G, .int lo, .int nw, .int se, .ref (pa 0), .ref an, .ref ln]))]) hP hD [0] [] rfl rfl (by decide) (by decide) hk1 hFc hP1 hD1
  have hP := hP.sub (ws' := [(o, .inr (5, [.ref F, .ref G, .int lo, .int nw, .int se, .ref (pa 0), .ref an, .ref ln]))]) [0] rfl
  have hD := hD.sub (ws' := [(o, .inr (5, [.ref F, .ref G, .int lo, .int nw, .int se, .ref (pa 0), .ref an, .ref ln]))]) [0] (by decide) rfl
  refine vx_catch hown [] ⟨0, 9, 12, 13⟩ [⟨0, 9, 16, 15⟩] htab (fun z hz => absurd hz List.not_mem_nil) (by decide) (by decide) (hts (.classLink RL 13 "java/lang/IllegalArgumentException") (List.mem_of_getElem? (i := 1) rfl)) (va_Nw.use rfl (hX0.1.1 "java/lang/IllegalArgumentException" (by decide))) hcell hcv hcl ?_
  refine W.eq (g2 := F0 m 12 ls [.ref q9]) rfl ?_
  clear hcell
  generalize H1 = H at hP hS ⊢
  refine W.widen (k := 1) (n := 6) (by omega) (by omega) ?_
  refine lv_astore (lv' := [(5, .ref q9), (0, .ref o), (1, .int n), (2, .int q), (3, .int le), (4, .int mo)]) hx hb dL_allow_12 hl (by decide) rfl (fun ls hl => ?_)
  refine lv_iconst (v := 1) hx hb dL_allow_14 (by decide) ?_
  refine W.widen (k := 1) (n := 6) (by omega) (by omega) ?_
  exact W.iret (v := 1) hx hb hr (fun t ht hW => ⟨⟨1, (), rfl, rfl, ⟨by rw [ht]; exact hP, by rw [hAe]; exact hD⟩⟩, hS.F ht⟩) hS.2.2 dL_allow_15
set_option maxHeartbeats 4000000 in
set_option maxRecDepth 100000 in
theorem c_L_refuse_k (l : Launch) (D : va_G) (cA : Nat → ClassId) (sz : Nat) (o F G : Nat) (lo nw se : Int32) (pa : Nat → Nat) (an ln : Nat) (x : Nat → Nat) (y0 : Nat) (n : Int32) (xv : Nat → Int32) (k : Nat) (q : Int32) (w5 : Nat → Int32) (ou : Nat) (ov : Nat → Int64) (he : en n F G (x 0) y0) (hk : k < 4) (hb01 : q = 0 ∨ q = 1) (hw5 : w5 k = 0 ∨ w5 k = 1) (hsh : sSh (xv 0)) : Met l yL_refuse wsL_refuse ({ frames := 3, cells := 0, slots := 0, locals := 65 }) (va_Pc [.ref o, .int n, .int (nI k), .int q, .ref ou] (zU D cA sz [(o, .inr (5, [.ref F, .ref G, .int lo, .int nw, .int se, .ref (pa 0), .ref an, .ref ln])), cE x xv, (x 6, .inl (cA 1, 4, .inl w5)), (ou, .inl (cA 3, 1, .inr (.inl ov)))])) (va_Qi (fun (r : Int32) (u : (Nat → Int64)) => u = vp_updL ov 0 (if w5 k = 0 then 0 else 1) ∧ r = 0) (fun (u : (Nat → Int64)) t => zB D [(o, .inr (5, [.ref F, .ref G, .int lo, .int nw, .int se, .ref (pa 0), .ref an, .ref ln])), cE x xv, (x 6, .inl (cA 1, 4, .inl w5)), (ou, .inl (cA 3, 1, .inr (.inl ov)))] sz [(o, .inr (5, [.ref F, .ref G, .int lo, .int nw, .int se, .ref (pa 0), .ref an, .ref ln])), cE x xv, (x 6, .inl (cA 1, 4, .inl (upd w5 k q))), (ou, .inl (cA 3, 1, .inr (.inl u)))] t) (va_A [(o, .inr (5, [.ref F, .ref G, .int lo, .int nw, .int se, .ref (pa 0), .ref an, .ref ln])), cE x xv, (x 6, .inl (cA 1, 4, .inl w5)), (ou, .inl (cA 3, 1, .inr (.inl ov)))] sz)) 0 0 (va_A [(o, .inr (5, [.ref F, .ref G, .int lo, .int nw, .int se, .ref (pa 0), .ref an, .ref ln])), cE x xv, (x 6, .inl (cA 1, 4, .inl w5)), (ou, .inl (cA 3, 1, .inr (.inl ov)))] sz) := by
  refine z_ofWH (cc := cL_refuse) (maxL := 6) (ret := (some .int)) (hh := [(0, 19, 22, 13), (0, 19, 26, 15)]) (by decide) rfl ?_
  intro p e s m args below meth c s₁ B hml htab hv
  obtain ⟨rfl, hsz, hP, hK, hD0⟩ := hv
  have hx := B.exec
  have hb := B.bytes
  have hr := B.returns
  have hts := atoms_spec (ws := wsL_refuse) B.pre
  have hown : s.vm.findClass RL = some m.cls := findClass_of_methodNamed B.named
  have hlocks := B.notSynchronized
  subst hsz
  have hD := hD0.self (sz := s.heap.size)
  generalize hAe : va_A [(o, .inr (5, [.ref F, .ref G, .int lo, .int nw, .int se, .ref (pa 0), .ref an, .ref ln])), cE x xv, (x 6, .inl (cA 1, 4, .inl w5)), (ou, .inl (cA 3, 1, .inr (.inl ov)))] s.heap.size = A at hD ⊢
  have hA : ∀ q : Nat, s.heap.size ≤ q → A q := fun q h => by rw [← hAe]; exact Or.inr h
  have hS : va_S A s.heap s.heap [] := va_S.rf
  have hl := lv_entry ([.ref o, .int n, .int (nI k), .int q, .ref ou]) (n := 6) (Nat.le_of_ble_eq_true rfl)
  rw [lg_entry_eq]
  generalize (lg_sl ([.ref o, .int n, .int (nI k), .int q, .ref ou]) ++ List.replicate (6 - (lg_sl ([.ref o, .int n, .int (nI k), .int q, .ref ou])).length) Slot.unset).toArray = ls at hl ⊢
  have hl : lv_has ls 6 [(0, .ref o), (1, .int n), (2, .int (nI k)), (3, .int q), (4, .ref ou)] := hl
  refine lv_aload hx hb dL_refuse_0 (lv_at hl 4 rfl) ?_
  refine lv_iconst (v := 0) hx hb dL_refuse_2 (by decide) ?_
  refine lv_aload_n hx hb dL_refuse_3 rfl (lv_at hl 0 rfl) ?_
  refine lv_iload_n hx hb dL_refuse_4 rfl (lv_at hl 1 rfl) ?_
  refine lv_iload_n hx hb dL_refuse_5 rfl (lv_at hl 2 rfl) ?_
  refine lv_iload_n hx hb dL_refuse_6 rfl (lv_at hl 3 rfl) ?_
  have hPc := hP.sub (ws' := [(o, .inr (5, [.ref F, .ref G, .int lo, .int nw, .int se, .ref (pa 0), .ref an, .ref ln])), cE x xv, (x 6, .inl (cA 1, 4, .inl w5))]) [0, 1, 2] rfl
  have hDc := hD.sub (ws' := [(o, .inr (5, [.ref F, .ref G, .int lo, .int nw, .int se, .ref (pa 0), .ref an, .ref ln])), cE x xv, (x 6, .inl (cA 1, 4, .inl w5))]) [0, 1, 2] (by decide) rfl
  have hFc := va_free (wc := [(o, .inr (5, [.ref F, .ref G, .int lo, .int nw, .int se, .ref (pa 0), .ref an, .ref ln])), cE x xv, (x 6, .inl (cA 1, 4, .inl w5))]) hD hS hA [0, 1, 2] rfl
  refine va_calli (va_runV (As := [.int n, .int (nI k), .int q]) (rest := [.int 0, .ref ou]) ⟨hx, hb, hml, hown, hts⟩ (c_X3_refuse_k l D cA s.heap.size o F G lo nw se pa an ln x y0 n xv k q w5 (by assumption) (by assumption) (by assumption) (by assumption) (by assumption)) (cwV 3 hts gL_refuse_X3_refuse rfl rfl rfl (by decide +kernel) ⟨Nat.le_of_ble_eq_true rfl, Nat.le_of_ble_eq_true rfl⟩) ⟨zU_blind, va_recv hK hPc (ci := 5) (q0 := 0) rfl rfl, fun U hU hW => ⟨rfl, zU_call hU hPc hW.alike hK hDc⟩⟩ rfl rfl hl.1 rfl (lv_room (Nat.le_of_ble_eq_true rfl)) dL_refuse_7 ⟨(Nat.zero_le _), (Nat.zero_le _)⟩) hS (fun q _ h => hFc q h) hFc (fun zr u t H1 locs ht hvm hw hB hz1 hk1 hS => ?_)
  obtain ⟨hP1, hD1⟩ := hB
  rw [ht] at hP1
  obtain ⟨hP, hD⟩ := va_join (wr := [(ou, .inl (cA 3, 1, .inr (.inl ov)))]) (w1 := [(o, .inr (5, [.ref F, .ref G, .int lo, .int nw, .int se, .ref (pa 0), .ref an, .ref ln])), cE x xv, (x 6, .inl (cA 1, 4, .inl (upd w5 k q)))]) hP hD [0, 1, 2] [3] rfl rfl (by decide) (by decide) hk1 hFc hP1 hD1
  generalize H1 = H at hP hS ⊢
  have hP := hP.sub (ws' := [(o, .inr (5, [.ref F, .ref G, .int lo, .int nw, .int se, .ref (pa 0), .ref an, .ref ln])), cE x xv, (x 6, .inl (cA 1, 4, .inl (upd w5 k q))), (ou, .inl (cA 3, 1, .inr (.inl ov)))]) [1, 2, 3, 0] rfl
  have hD := hD.sub (ws' := [(o, .inr (5, [.ref F, .ref G, .int lo, .int nw, .int se, .ref (pa 0), .ref an, .ref ln])), cE x xv, (x 6, .inl (cA 1, 4, .inl (upd w5 k q))), (ou, .inl (cA 3, 1, .inr (.inl ov)))]) [1, 2, 3, 0] (by decide) rfl
  clear hPc hDc hFc hP1 hD1 hk1 hz1
  have hw_1 := hw
  obtain rfl := hw
  refine lv_if_eq (tgt := 17) hx hb dL_refuse_10 (by decide) (fun c_2 => ?_) (fun c_2 => ?_)
  · skip
    refine lv_lconst (v := 0) hx hb dL_refuse_17 (by decide) ?_
    refine z_last (k := 0) hx hb hK hP hD hS 3 3 rfl rfl rfl (by omega) (by decide) dL_refuse_18 (fun H locs hP hD hS => ?_)
    have hP : va_P D vwCl [(o, .inr (5, [.ref F, .ref G, .int lo, .int nw, .int se, .ref (pa 0), .ref an, .ref ln])), cE x xv, (x 6, .inl (cA 1, 4, .inl (upd w5 k q))), (ou, .inl (cA 3, 1, .inr (.inl (vp_updL ov 0 0))))] H := hP
    have hD : va_D A [(o, .inr (5, [.ref F, .ref G, .int lo, .int nw, .int se, .ref (pa 0), .ref an, .ref ln])), cE x xv, (x 6, .inl (cA 1, 4, .inl (upd w5 k q))), (ou, .inl (cA 3, 1, .inr (.inl (vp_updL ov 0 0))))] := hD
    refine lv_goto (tgt := 30) hx hb dL_refuse_19 (by decide) ?_
    refine lv_iconst (v := 0) hx hb dL_refuse_30 (by decide) ?_
    refine W.widen (k := 0) (n := 0) (by omega) (by omega) ?_
    exact W.iret (v := 0) hx hb hr (fun t ht hW => ⟨⟨0, (vp_updL ov 0 0), rfl, ⟨by rw [if_pos c_2], rfl⟩, ⟨by rw [ht]; exact hP, by rw [hAe]; exact hD⟩⟩, hS.F ht⟩) hS.2.2 dL_refuse_31
  · skip
    refine lv_lconst (v := 1) hx hb dL_refuse_13 (by decide) ?_
    refine lv_goto (tgt := 18) hx hb dL_refuse_14 (by decide) ?_
    refine z_last (k := 0) hx hb hK hP hD hS 3 3 rfl rfl rfl (by omega) (by decide) dL_refuse_18 (fun H locs hP hD hS => ?_)
    have hP : va_P D vwCl [(o, .inr (5, [.ref F, .ref G, .int lo, .int nw, .int se, .ref (pa 0), .ref an, .ref ln])), cE x xv, (x 6, .inl (cA 1, 4, .inl (upd w5 k q))), (ou, .inl (cA 3, 1, .inr (.inl (vp_updL ov 0 1))))] H := hP
    have hD : va_D A [(o, .inr (5, [.ref F, .ref G, .int lo, .int nw, .int se, .ref (pa 0), .ref an, .ref ln])), cE x xv, (x 6, .inl (cA 1, 4, .inl (upd w5 k q))), (ou, .inl (cA 3, 1, .inr (.inl (vp_updL ov 0 1))))] := hD
    refine lv_goto (tgt := 30) hx hb dL_refuse_19 (by decide) ?_
    refine lv_iconst (v := 0) hx hb dL_refuse_30 (by decide) ?_
    refine W.widen (k := 0) (n := 0) (by omega) (by omega) ?_
    exact W.iret (v := 0) hx hb hr (fun t ht hW => ⟨⟨0, (vp_updL ov 0 1), rfl, ⟨by rw [if_neg c_2], rfl⟩, ⟨by rw [ht]; exact hP, by rw [hAe]; exact hD⟩⟩, hS.F ht⟩) hS.2.2 dL_refuse_31
set_option maxHeartbeats 4000000 in
set_option maxRecDepth 100000 in
theorem c_L_refuse_s (l : Launch) (D : va_G) (cA : Nat → ClassId) (zv : Nat → Nat) (sz : Nat) (o F G : Nat) (lo nw se : Int32) (pa : Nat → Nat) (an ln : Nat) (x : Nat → Nat) (y0 : Nat) (n : Int32) (xv : Nat → Int32) (k : Nat) (q : Int32) (ou : Nat) (hl0 : l.stackTraces = false) (he : en n F G (x 0) y0) (hk : k < 4) (hsh : ¬ sSh (xv 0)) : Met l yL_refuse wsL_refuse ({ frames := 10, cells := 1, slots := 6, locals := 145 }) (va_Pc [.ref o, .int n, .int (nI k), .int q, .ref ou] (zUX D cA zv sz [(o, .inr (5, [.ref F, .ref G, .int lo, .int nw, .int se, .ref (pa 0), .ref an, .ref ln])), cE x xv])) (va_Qi (fun (r : Int32) (_ : Unit) => r = 2) (fun (_ : Unit) t => zB D [(o, .inr (5, [.ref F, .ref G, .int lo, .int nw, .int se, .ref (pa 0), .ref an, .ref ln])), cE x xv] sz [(o, .inr (5, [.ref F, .ref G, .int lo, .int nw, .int se, .ref (pa 0), .ref an, .ref ln])), cE x xv] t) (va_A [(o, .inr (5, [.ref F, .ref G, .int lo, .int nw, .int se, .ref (pa 0), .ref an, .ref ln])), cE x xv] sz)) 1 6 (va_A [(o, .inr (5, [.ref F, .ref G, .int lo, .int nw, .int se, .ref (pa 0), .ref an, .ref ln])), cE x xv] sz) := by
  refine z_ofWH (cc := cL_refuse) (maxL := 6) (ret := (some .int)) (hh := [(0, 19, 22, 13), (0, 19, 26, 15)]) (by decide) rfl ?_
  intro p e s m args below meth c s₁ B hml htab hv
  obtain ⟨rfl, ⟨hsz, hP, hK, hD0, hE0⟩, hX0⟩ := hv
  have hx := B.exec
  have hb := B.bytes
  have hr := B.returns
  have hts := atoms_spec (ws := wsL_refuse) B.pre
  have hown : s.vm.findClass RL = some m.cls := findClass_of_methodNamed B.named
  have hlocks := B.notSynchronized
  subst hsz
  have hD := hD0.self (sz := s.heap.size)
  generalize hAe : va_A [(o, .inr (5, [.ref F, .ref G, .int lo, .int nw, .int se, .ref (pa 0), .ref an, .ref ln])), cE x xv] s.heap.size = A at hD hE0 hX0 ⊢
  have hA : ∀ q : Nat, s.heap.size ≤ q → A q := fun q h => by rw [← hAe]; exact Or.inr h
  have hS : va_S A s.heap s.heap [] := va_S.rf
  have hl := lv_entry ([.ref o, .int n, .int (nI k), .int q, .ref ou]) (n := 6) (Nat.le_of_ble_eq_true rfl)
  rw [lg_entry_eq]
  generalize (lg_sl ([.ref o, .int n, .int (nI k), .int q, .ref ou]) ++ List.replicate (6 - (lg_sl ([.ref o, .int n, .int (nI k), .int q, .ref ou])).length) Slot.unset).toArray = ls at hl ⊢
  have hl : lv_has ls 6 [(0, .ref o), (1, .int n), (2, .int (nI k)), (3, .int q), (4, .ref ou)] := hl
  refine lv_aload hx hb dL_refuse_0 (lv_at hl 4 rfl) ?_
  refine lv_iconst (v := 0) hx hb dL_refuse_2 (by decide) ?_
  refine lv_aload_n hx hb dL_refuse_3 rfl (lv_at hl 0 rfl) ?_
  refine lv_iload_n hx hb dL_refuse_4 rfl (lv_at hl 1 rfl) ?_
  refine lv_iload_n hx hb dL_refuse_5 rfl (lv_at hl 2 rfl) ?_
  refine lv_iload_n hx hb dL_refuse_6 rfl (lv_at hl 3 rfl) ?_
  have hPc := hP.sub (ws' := [(o, .inr (5, [.ref F, .ref G, .int lo, .int nw, .int se, .ref (pa 0), .ref an, .ref ln])), cE x xv]) [0, 1] rfl
  have hDc := hD.sub (ws' := [(o, .inr (5, [.ref F, .ref G, .int lo, .int nw, .int se, .ref (pa 0), .ref an, .ref ln])), cE x xv]) [0, 1] (by decide) rfl
  have hFc := va_free (wc := [(o, .inr (5, [.ref F, .ref G, .int lo, .int nw, .int se, .ref (pa 0), .ref an, .ref ln])), cE x xv]) hD hS hA [0, 1] rfl
  refine vx_calli (vx_runV (As := [.int n, .int (nI k), .int q]) (rest := [.int 0, .ref ou]) ⟨hx, hb, hml, hown, hts⟩ (c_X3_refuse_s l D cA zv s.heap.size hl0 o F G lo nw se pa an ln x y0 n xv k q (by assumption) (by assumption) (by assumption)) (cwV 3 hts gL_refuse_X3_refuse rfl rfl rfl (by decide +kernel) ⟨Nat.le_of_ble_eq_true rfl, Nat.le_of_ble_eq_true rfl⟩) ⟨zUX_blind, va_recv hK hPc (ci := 5) (q0 := 0) rfl rfl, fun U hU hW => ⟨rfl, zUX_call hE0 hX0 hS hFc hU hPc hW hK hDc⟩⟩ rfl rfl hl.1 rfl (lv_room (Nat.le_of_ble_eq_true rfl)) dL_refuse_7 ⟨Nat.le_of_ble_eq_true rfl, Nat.le_of_ble_eq_true rfl⟩) hS (fun q _ h => hFc q h) hFc (fun q _ h => hFc q h) (fun E9 ce9 q9 u t H1 locs ht hvm hpx hB hz1 hk1 hS hcell hcv hcl => ?_) (fun zr u t H1 locs1 ht hvm hw _ _ _ _ => hw.elim)
  obtain ⟨rfl, hP1, hD1⟩ := hB
  rw [ht] at hP1
  obtain ⟨hP, hD⟩ := va_join (wr := []) (w1 := [(o, .inr (5, [.ref F, .ref G, .int lo, .int nw, .int se, .ref (pa 0), .ref an, .ref ln])), cE x xv]) hP hD [0, 1] [] rfl rfl (by decide) (by decide) hk1 hFc hP1 hD1
  have hP := hP.sub (ws' := [(o, .inr (5, [.ref F, .ref G, .int lo, .int nw, .int se, .ref (pa 0), .ref an, .ref ln])), cE x xv]) [0, 1] rfl
  have hD := hD.sub (ws' := [(o, .inr (5, [.ref F, .ref G, .int lo, .int nw, .int se, .ref (pa 0), .ref an, .ref ln])), cE x xv]) [0, 1] (by decide) rfl
  refine vx_catch hown [⟨0, 19, 22, 13⟩] ⟨0, 19, 26, 15⟩ [] htab (fun z hz => by obtain rfl := List.mem_singleton.mp hz; exact Or.inr ⟨by decide, _, (hts (.classLink RL 13 "java/lang/IllegalArgumentException") (List.mem_of_getElem? (i := 1) rfl)), hX0.2.2.2.2.1⟩) (by decide) (by decide) (hts (.classLink RL 15 "java/lang/IllegalStateException") (List.mem_of_getElem? (i := 2) rfl)) (va_Nw.use rfl (hX0.1.1 "java/lang/IllegalStateException" (by decide))) hcell hcv hcl ?_
  refine W.eq (g2 := F0 m 26 ls [.ref q9]) rfl ?_
  clear hcell
  generalize H1 = H at hP hS ⊢
  refine W.widen (k := 1) (n := 6) (by omega) (by omega) ?_
  refine lv_astore (lv' := [(5, .ref q9), (0, .ref o), (1, .int n), (2, .int (nI k)), (3, .int q), (4, .ref ou)]) hx hb dL_refuse_26 hl (by decide) rfl (fun ls hl => ?_)
  refine lv_iconst (v := 2) hx hb dL_refuse_28 (by decide) ?_
  refine W.widen (k := 1) (n := 6) (by omega) (by omega) ?_
  exact W.iret (v := 2) hx hb hr (fun t ht hW => ⟨⟨2, (), rfl, rfl, ⟨by rw [ht]; exact hP, by rw [hAe]; exact hD⟩⟩, hS.F ht⟩) hS.2.2 dL_refuse_29
set_option maxHeartbeats 4000000 in
set_option maxRecDepth 100000 in
theorem c_L_refuse_b (l : Launch) (D : va_G) (cA : Nat → ClassId) (zv : Nat → Nat) (sz : Nat) (o F G : Nat) (lo nw se : Int32) (pa : Nat → Nat) (an ln : Nat) (n q z : Int32) (ou : Nat) (hl0 : l.stackTraces = false) (hbad : ¬ (inr n 0 1 ∧ inr q 0 3)) : Met l yL_refuse wsL_refuse ({ frames := 10, cells := 1, slots := 6, locals := 145 }) (va_Pc [.ref o, .int n, .int q, .int z, .ref ou] (zUX D cA zv sz [(o, .inr (5, [.ref F, .ref G, .int lo, .int nw, .int se, .ref (pa 0), .ref an, .ref ln]))])) (va_Qi (fun (r : Int32) (_ : Unit) => r = 1) (fun (_ : Unit) t => zB D [(o, .inr (5, [.ref F, .ref G, .int lo, .int nw, .int se, .ref (pa 0), .ref an, .ref ln]))] sz [(o, .inr (5, [.ref F, .ref G, .int lo, .int nw, .int se, .ref (pa 0), .ref an, .ref ln]))] t) (va_A [(o, .inr (5, [.ref F, .ref G, .int lo, .int nw, .int se, .ref (pa 0), .ref an, .ref ln]))] sz)) 1 6 (va_A [(o, .inr (5, [.ref F, .ref G, .int lo, .int nw, .int se, .ref (pa 0), .ref an, .ref ln]))] sz) := by
  refine z_ofWH (cc := cL_refuse) (maxL := 6) (ret := (some .int)) (hh := [(0, 19, 22, 13), (0, 19, 26, 15)]) (by decide) rfl ?_
  intro p e s m args below meth c s₁ B hml htab hv
  obtain ⟨rfl, ⟨hsz, hP, hK, hD0, hE0⟩, hX0⟩ := hv
  have hx := B.exec
  have hb := B.bytes
  have hr := B.returns
  have hts := atoms_spec (ws := wsL_refuse) B.pre
  have hown : s.vm.findClass RL = some m.cls := findClass_of_methodNamed B.named
  have hlocks := B.notSynchronized
  subst hsz
  have hD := hD0.self (sz := s.heap.size)
  generalize hAe : va_A [(o, .inr (5, [.ref F, .ref G, .int lo, .int nw, .int se, .ref (pa 0), .ref an, .ref ln]))] s.heap.size = A at hD hE0 hX0 ⊢
  have hA : ∀ q : Nat, s.heap.size ≤ q → A q := fun q h => by rw [← hAe]; exact Or.inr h
  have hS : va_S A s.heap s.heap [] := va_S.rf
  have hl := lv_entry ([.ref o, .int n, .int q, .int z, .ref ou]) (n := 6) (Nat.le_of_ble_eq_true rfl)
  rw [lg_entry_eq]
  generalize (lg_sl ([.ref o, .int n, .int q, .int z, .ref ou]) ++ List.replicate (6 - (lg_sl ([.ref o, .int n, .int q, .int z, .ref ou])).length) Slot.unset).toArray = ls at hl ⊢
  have hl : lv_has ls 6 [(0, .ref o), (1, .int n), (2, .int q), (3, .int z), (4, .ref ou)] := hl
  refine lv_aload hx hb dL_refuse_0 (lv_at hl 4 rfl) ?_
  refine lv_iconst (v := 0) hx hb dL_refuse_2 (by decide) ?_
  refine lv_aload_n hx hb dL_refuse_3 rfl (lv_at hl 0 rfl) ?_
  refine lv_iload_n hx hb dL_refuse_4 rfl (lv_at hl 1 rfl) ?_
  refine lv_iload_n hx hb dL_refuse_5 rfl (lv_at hl 2 rfl) ?_
  refine lv_iload_n hx hb dL_refuse_6 rfl (lv_at hl 3 rfl) ?_
  have hPc := hP.sub (ws' := [(o, .inr (5, [.ref F, .ref G, .int lo, .int nw, .int se, .ref (pa 0), .ref an, .ref ln]))]) [0] rfl
  have hDc := hD.sub (ws' := [(o, .inr (5, [.ref F, .ref G, .int lo, .int nw, .int se, .ref (pa 0), .ref an, .ref ln]))]) [0] (by decide) rfl
  have hFc := va_free (wc := [(o, .inr (5, [.ref F, .ref G, .int lo, .int nw, .int se, .ref (pa 0), .ref an, .ref ln]))]) hD hS hA [0] rfl
  refine vx_calli (vx_runV (As := [.int n, .int q, .int z]) (rest := [.int 0, .ref ou]) ⟨hx, hb, hml, hown, hts⟩ (c_X3_refuse_b l D cA zv s.heap.size hl0 o F G lo nw se pa an ln n q z (by assumption)) (cwV 3 hts gL_refuse_X3_refuse rfl rfl rfl (by decide +kernel) ⟨Nat.le_of_ble_eq_true rfl, Nat.le_of_ble_eq_true rfl⟩) ⟨zUX_blind, va_recv hK hPc (ci := 5) (q0 := 0) rfl rfl, fun U hU hW => ⟨rfl, zUX_call hE0 hX0 hS hFc hU hPc hW hK hDc⟩⟩ rfl rfl hl.1 rfl (lv_room (Nat.le_of_ble_eq_true rfl)) dL_refuse_7 ⟨Nat.le_of_ble_eq_true rfl, Nat.le_of_ble_eq_true rfl⟩) hS (fun q _ h => hFc q h) hFc (fun q _ h => hFc q h) (fun E9 ce9 q9 u t H1 locs ht hvm hpx hB hz1 hk1 hS hcell hcv hcl => ?_) (fun zr u t H1 locs1 ht hvm hw _ _ _ _ => hw.elim)
  obtain ⟨rfl, hP1, hD1⟩ := hB
  rw [ht] at hP1
  obtain ⟨hP, hD⟩ := va_join (wr := []) (w1 := [(o, .inr (5, [.ref F, .ref G, .int lo, .int nw, .int se, .ref (pa 0), .ref an, .ref ln]))]) hP hD [0] [] rfl rfl (by decide) (by decide) hk1 hFc hP1 hD1
  have hP := hP.sub (ws' := [(o, .inr (5, [.ref F, .ref G, .int lo, .int nw, .int se, .ref (pa 0), .ref an, .ref ln]))]) [0] rfl
  have hD := hD.sub (ws' := [(o, .inr (5, [.ref F, .ref G, .int lo, .int nw, .int se, .ref (pa 0), .ref an, .ref ln]))]) [0] (by decide) rfl
  refine vx_catch hown [] ⟨0, 19, 22, 13⟩ [⟨0, 19, 26, 15⟩] htab (fun z hz => absurd hz List.not_mem_nil) (by decide) (by decide) (hts (.classLink RL 13 "java/lang/IllegalArgumentException") (List.mem_of_getElem? (i := 1) rfl)) (va_Nw.use rfl (hX0.1.1 "java/lang/IllegalArgumentException" (by decide))) hcell hcv hcl ?_
  refine W.eq (g2 := F0 m 22 ls [.ref q9]) rfl ?_
  clear hcell
  generalize H1 = H at hP hS ⊢
  refine W.widen (k := 1) (n := 6) (by omega) (by omega) ?_
  refine lv_astore (lv' := [(5, .ref q9), (0, .ref o), (1, .int n), (2, .int q), (3, .int z), (4, .ref ou)]) hx hb dL_refuse_22 hl (by decide) rfl (fun ls hl => ?_)
  refine lv_iconst (v := 1) hx hb dL_refuse_24 (by decide) ?_
  refine W.widen (k := 1) (n := 6) (by omega) (by omega) ?_
  exact W.iret (v := 1) hx hb hr (fun t ht hW => ⟨⟨1, (), rfl, rfl, ⟨by rw [ht]; exact hP, by rw [hAe]; exact hD⟩⟩, hS.F ht⟩) hS.2.2 dL_refuse_25
set_option maxHeartbeats 4000000 in
set_option maxRecDepth 100000 in
theorem c_L_open_k (l : Launch) (D : va_G) (cA : Nat → ClassId) (sz : Nat) (o F G : Nat) (lo nw se : Int32) (pa : Nat → Nat) (an ln : Nat) (x y : Nat → Nat) (n : Int32) (xv yv : Nat → Int32) (xr yr : Nat → Nat → Int32) (xf yf : Nat) (QX QY : Qt)(mk : Int32) (f g : Nat → Int32) (he : en n F G (x 0) (y 0)) (hqx : rg xr xf QX) (hqy : rg yr yf QY) (hmk : inr mk 1 999) (hsh : sSh (xv 0)) : Met l yL_open wsL_open ({ frames := 5, cells := 0, slots := 0, locals := 118 }) (va_Pc [.ref o, .int n, .int mk] (zU D cA sz [(o, .inr (5, [.ref F, .ref G, .int lo, .int nw, .int se, .ref (pa 0), .ref an, .ref ln])), cE x xv, (x 9, .inr (4, [.ref (x 10), .ref (x 11), .ref (x 12), .ref (x 13), .int (nI xf), .int (nI QX.1)])), (x 10, .inl (cA 0, 12, .inl (xr 0))), (x 11, .inl (cA 0, 12, .inl (xr 1))), (x 12, .inl (cA 0, 12, .inl (xr 2))), (x 13, .inl (cA 0, 48, .inl (xr 3))), cE y yv, (y 9, .inr (4, [.ref (y 10), .ref (y 11), .ref (y 12), .ref (y 13), .int (nI yf), .int (nI QY.1)])), (y 10, .inl (cA 0, 12, .inl (yr 0))), (y 11, .inl (cA 0, 12, .inl (yr 1))), (y 12, .inl (cA 0, 12, .inl (yr 2))), (y 13, .inl (cA 0, 48, .inl (yr 3))), (x 1, .inl (cA 0, 4, .inl g)), (x 7, .inl (cA 0, 4, .inl f))])) (va_Qi (fun (r : Int32) (u : ((Nat → Int32) × (Nat → Nat → Int32) × (Nat → Nat → Int32) × Qt × Qt × Int32)) => u.1 = (rq lo (upd (upd (upd (upd xv 0 1) 3 10) 1 mk) 5 0) g QX QY se).1 ∧ u.2.2.2.1 = (rq lo (upd (upd (upd (upd xv 0 1) 3 10) 1 mk) 5 0) g QX QY se).2.1.1 ∧ u.2.2.2.2.1 = (rq lo (upd (upd (upd (upd xv 0 1) 3 10) 1 mk) 5 0) g QX QY se).2.1.2 ∧ u.2.2.2.2.2 = (rq lo (upd (upd (upd (upd xv 0 1) 3 10) 1 mk) 5 0) g QX QY se).2.2 ∧ rg u.2.1 xf u.2.2.2.1 ∧ rg u.2.2.1 yf u.2.2.2.2.1 ∧ r = 0) (fun (u : ((Nat → Int32) × (Nat → Nat → Int32) × (Nat → Nat → Int32) × Qt × Qt × Int32)) t => zB D [(o, .inr (5, [.ref F, .ref G, .int lo, .int nw, .int se, .ref (pa 0), .ref an, .ref ln])), cE x xv, (x 9, .inr (4, [.ref (x 10), .ref (x 11), .ref (x 12), .ref (x 13), .int (nI xf), .int (nI QX.1)])), (x 10, .inl (cA 0, 12, .inl (xr 0))), (x 11, .inl (cA 0, 12, .inl (xr 1))), (x 12, .inl (cA 0, 12, .inl (xr 2))), (x 13, .inl (cA 0, 48, .inl (xr 3))), cE y yv, (y 9, .inr (4, [.ref (y 10), .ref (y 11), .ref (y 12), .ref (y 13), .int (nI yf), .int (nI QY.1)])), (y 10, .inl (cA 0, 12, .inl (yr 0))), (y 11, .inl (cA 0, 12, .inl (yr 1))), (y 12, .inl (cA 0, 12, .inl (yr 2))), (y 13, .inl (cA 0, 48, .inl (yr 3))), (x 1, .inl (cA 0, 4, .inl g)), (x 7, .inl (cA 0, 4, .inl f))] sz [(o, .inr (5, [.ref F, .ref G, .int lo, .int nw, .int u.2.2.2.2.2, .ref (pa 0), .ref an, .ref ln])), cE x u.1, (x 9, .inr (4, [.ref (x 10), .ref (x 11), .ref (x 12), .ref (x 13), .int (nI xf), .int (nI u.2.2.2.1.1)])), (x 10, .inl (cA 0, 12, .inl (u.2.1 0))), (x 11, .inl (cA 0, 12, .inl (u.2.1 1))), (x 12, .inl (cA 0, 12, .inl (u.2.1 2))), (x 13, .inl (cA 0, 48, .inl (u.2.1 3))), cE y yv, (y 9, .inr (4, [.ref (y 10), .ref (y 11), .ref (y 12), .ref (y 13), .int (nI yf), .int (nI u.2.2.2.2.1.1)])), (y 10, .inl (cA 0, 12, .inl (u.2.2.1 0))), (y 11, .inl (cA 0, 12, .inl (u.2.2.1 1))), (y 12, .inl (cA 0, 12, .inl (u.2.2.1 2))), (y 13, .inl (cA 0, 48, .inl (u.2.2.1 3))), (x 1, .inl (cA 0, 4, .inl g)), (x 7, .inl (cA 0, 4, .inl g))] t) (va_A [(o, .inr (5, [.ref F, .ref G, .int lo, .int nw, .int se, .ref (pa 0), .ref an, .ref ln])), cE x xv, (x 9, .inr (4, [.ref (x 10), .ref (x 11), .ref (x 12), .ref (x 13), .int (nI xf), .int (nI QX.1)])), (x 10, .inl (cA 0, 12, .inl (xr 0))), (x 11, .inl (cA 0, 12, .inl (xr 1))), (x 12, .inl (cA 0, 12, .inl (xr 2))), (x 13, .inl (cA 0, 48, .inl (xr 3))), cE y yv, (y 9, .inr (4, [.ref (y 10), .ref (y 11), .ref (y 12), .ref (y 13), .int (nI yf), .int (nI QY.1)])), (y 10, .inl (cA 0, 12, .inl (yr 0))), (y 11, .inl (cA 0, 12, .inl (yr 1))), (y 12, .inl (cA 0, 12, .inl (yr 2))), (y 13, .inl (cA 0, 48, .inl (yr 3))), (x 1, .inl (cA 0, 4, .inl g)), (x 7, .inl (cA 0, 4, .inl f))] sz)) 0 0 (va_A [(o, .inr (5, [.ref F, .ref G, .int lo, .int nw, .int se, .ref (pa 0), .ref an, .ref ln])), cE x xv, (x 9, .inr (4, [.ref (x 10), .ref (x 11), .ref (x 12), .ref (x 13), .int (nI xf), .int (nI QX.1)])), (x 10, .inl (cA 0, 12, .inl (xr 0))), (x 11, .inl (cA 0, 12, .inl (xr 1))), (x 12, .inl (cA 0, 12, .inl (xr 2))), (x 13, .inl (cA 0, 48, .inl (xr 3))), cE y yv, (y 9, .inr (4, [.ref (y 10), .ref (y 11), .ref (y 12), .ref (y 13), .int (nI yf), .int (nI QY.1)])), (y 10, .inl (cA 0, 12, .inl (yr 0))), (y 11, .inl (cA 0, 12, .inl (yr 1))), (y 12, .inl (cA 0, 12, .inl (yr 2))), (y 13, .inl (cA 0, 48, .inl (yr 3))), (x 1, .inl (cA 0, 4, .inl g)), (x 7, .inl (cA 0, 4, .inl f))] sz) := by
  refine z_ofWH (cc := cL_open) (maxL := 4) (ret := (some .int)) (hh := [(0, 6, 9, 13), (0, 6, 12, 15)]) (by decide) rfl ?_
  intro p e s m args below meth c s₁ B hml htab hv
  obtain ⟨rfl, hsz, hP, hK, hD0⟩ := hv
  have hx := B.exec
  have hb := B.bytes
  have hr := B.returns
  have hts := atoms_spec (ws := wsL_open) B.pre
  have hown : s.vm.findClass RL = some m.cls := findClass_of_methodNamed B.named
  have hlocks := B.notSynchronized
  subst hsz
  have hD := hD0.self (sz := s.heap.size)
  generalize hAe : va_A [(o, .inr (5, [.ref F, .ref G, .int lo, .int nw, .int se, .ref (pa 0), .ref an, .ref ln])), cE x xv, (x 9, .inr (4, [.ref (x 10), .ref (x 11), .ref (x 12), .ref (x 13), .int (nI xf), .int (nI QX.1)])), (x 10, .inl (cA 0, 12, .inl (xr 0))), (x 11, .inl (cA 0, 12, .inl (xr 1))), (x 12, .inl (cA 0, 12, .inl (xr 2))), (x 13, .inl (cA 0, 48, .inl (xr 3))), cE y yv, (y 9, .inr (4, [.ref (y 10), .ref (y 11), .ref (y 12), .ref (y 13), .int (nI yf), .int (nI QY.1)])), (y 10, .inl (cA 0, 12, .inl (yr 0))), (y 11, .inl (cA 0, 12, .inl (yr 1))), (y 12, .inl (cA 0, 12, .inl (yr 2))), (y 13, .inl (cA 0, 48, .inl (yr 3))), (x 1, .inl (cA 0, 4, .inl g)), (x 7, .inl (cA 0, 4, .inl f))] s.heap.size = A at hD ⊢
  have hA : ∀ q : Nat, s.heap.size ≤ q → A q := fun q h => by rw [← hAe]; exact Or.inr h
  have hS : va_S A s.heap s.heap [] := va_S.rf
  have hl := lv_entry ([.ref o, .int n, .int mk]) (n := 4) (Nat.le_of_ble_eq_true rfl)
  rw [lg_entry_eq]
  generalize (lg_sl ([.ref o, .int n, .int mk]) ++ List.replicate (4 - (lg_sl ([.ref o, .int n, .int mk])).length) Slot.unset).toArray = ls at hl ⊢
  have hl : lv_has ls 4 [(0, .ref o), (1, .int n), (2, .int mk)] := hl
  refine lv_aload_n hx hb dL_open_0 rfl (lv_at hl 0 rfl) ?_
  refine lv_iload_n hx hb dL_open_1 rfl (lv_at hl 1 rfl) ?_
  refine lv_iload_n hx hb dL_open_2 rfl (lv_at hl 2 rfl) ?_
  have hPc := hP.sub (ws' := [(o, .inr (5, [.ref F, .ref G, .int lo, .int nw, .int se, .ref (pa 0), .ref an, .ref ln])), cE x xv, (x 9, .inr (4, [.ref (x 10), .ref (x 11), .ref (x 12), .ref (x 13), .int (nI xf), .int (nI QX.1)])), (x 10, .inl (cA 0, 12, .inl (xr 0))), (x 11, .inl (cA 0, 12, .inl (xr 1))), (x 12, .inl (cA 0, 12, .inl (xr 2))), (x 13, .inl (cA 0, 48, .inl (xr 3))), cE y yv, (y 9, .inr (4, [.ref (y 10), .ref (y 11), .ref (y 12), .ref (y 13), .int (nI yf), .int (nI QY.1)])), (y 10, .inl (cA 0, 12, .inl (yr 0))), (y 11, .inl (cA 0, 12, .inl (yr 1))), (y 12, .inl (cA 0, 12, .inl (yr 2))), (y 13, .inl (cA 0, 48, .inl (yr 3))), (x 1, .inl (cA 0, 4, .inl g)), (x 7, .inl (cA 0, 4, .inl f))]) [0, 1, 2, 3, 4, 5, 6, 7, 8, 9, 10, 11, 12, 13, 14] rfl
  have hDc := hD.sub (ws' := [(o, .inr (5, [.ref F, .ref G, .int lo, .int nw, .int se, .ref (pa 0), .ref an, .ref ln])), cE x xv, (x 9, .inr (4, [.ref (x 10), .ref (x 11), .ref (x 12), .ref (x 13), .int (nI xf), .int (nI QX.1)])), (x 10, .inl (cA 0, 12, .inl (xr 0))), (x 11, .inl (cA 0, 12, .inl (xr 1))), (x 12, .inl (cA 0, 12, .inl (xr 2))), (x 13, .inl (cA 0, 48, .inl (xr 3))), cE y yv, (y 9, .inr (4, [.ref (y 10), .ref (y 11), .ref (y 12), .ref (y 13), .int (nI yf), .int (nI QY.1)])), (y 10, .inl (cA 0, 12, .inl (yr 0))), (y 11, .inl (cA 0, 12, .inl (yr 1))), (y 12, .inl (cA 0, 12, .inl (yr 2))), (y 13, .inl (cA 0, 48, .inl (yr 3))), (x 1, .inl (cA 0, 4, .inl g)), (x 7, .inl (cA 0, 4, .inl f))]) [0, 1, 2, 3, 4, 5, 6, 7, 8, 9, 10, 11, 12, 13, 14] (by decide) rfl
  have hFc := va_free (wc := [(o, .inr (5, [.ref F, .ref G, .int lo, .int nw, .int se, .ref (pa 0), .ref an, .ref ln])), cE x xv, (x 9, .inr (4, [.ref (x 10), .ref (x 11), .ref (x 12), .ref (x 13), .int (nI xf), .int (nI QX.1)])), (x 10, .inl (cA 0, 12, .inl (xr 0))), (x 11, .inl (cA 0, 12, .inl (xr 1))), (x 12, .inl (cA 0, 12, .inl (xr 2))), (x 13, .inl (cA 0, 48, .inl (xr 3))), cE y yv, (y 9, .inr (4, [.ref (y 10), .ref (y 11), .ref (y 12), .ref (y 13), .int (nI yf), .int (nI QY.1)])), (y 10, .inl (cA 0, 12, .inl (yr 0))), (y 11, .inl (cA 0, 12, .inl (yr 1))), (y 12, .inl (cA 0, 12, .inl (yr 2))), (y 13, .inl (cA 0, 48, .inl (yr 3))), (x 1, .inl (cA 0, 4, .inl g)), (x 7, .inl (cA 0, 4, .inl f))]) hD hS hA [0, 1, 2, 3, 4, 5, 6, 7, 8, 9, 10, 11, 12, 13, 14] rfl
  refine va_callv (va_runV (As := [.int n, .int mk]) (rest := []) ⟨hx, hb, hml, hown, hts⟩ (c_X3_open_k l D cA s.heap.size o F G lo nw se pa an ln x y n xv yv xr yr xf yf QX QY mk f g (by assumption) (by assumption) (by assumption) (by assumption) (by assumption)) (cwV 2 hts gL_open_X3_open rfl rfl rfl (by decide +kernel) ⟨Nat.le_of_ble_eq_true rfl, Nat.le_of_ble_eq_true rfl⟩) ⟨zU_blind, va_recv hK hPc (ci := 5) (q0 := 0) rfl rfl, fun U hU hW => ⟨rfl, zU_call hU hPc hW.alike hK hDc⟩⟩ rfl rfl hl.1 rfl (lv_room (Nat.le_of_ble_eq_true rfl)) dL_open_3 ⟨(Nat.zero_le _), (Nat.zero_le _)⟩) hS (fun q _ h => hFc q h) hFc (fun u t H1 locs ht hvm hw hB hz1 hk1 hS => ?_)
  obtain ⟨xv'_1, xr'_1, yr'_1, QX'_1, QY'_1, se'_1⟩ := u
  obtain ⟨hP1, hD1⟩ := hB
  rw [ht] at hP1
  try dsimp only at hw hP1 hD1
  obtain ⟨hP, hD⟩ := va_join (wr := []) (w1 := [(o, .inr (5, [.ref F, .ref G, .int lo, .int nw, .int se'_1, .ref (pa 0), .ref an, .ref ln])), cE x xv'_1, (x 9, .inr (4, [.ref (x 10), .ref (x 11), .ref (x 12), .ref (x 13), .int (nI xf), .int (nI QX'_1.1)])), (x 10, .inl (cA 0, 12, .inl (xr'_1 0))), (x 11, .inl (cA 0, 12, .inl (xr'_1 1))), (x 12, .inl (cA 0, 12, .inl (xr'_1 2))), (x 13, .inl (cA 0, 48, .inl (xr'_1 3))), cE y yv, (y 9, .inr (4, [.ref (y 10), .ref (y 11), .ref (y 12), .ref (y 13), .int (nI yf), .int (nI QY'_1.1)])), (y 10, .inl (cA 0, 12, .inl (yr'_1 0))), (y 11, .inl (cA 0, 12, .inl (yr'_1 1))), (y 12, .inl (cA 0, 12, .inl (yr'_1 2))), (y 13, .inl (cA 0, 48, .inl (yr'_1 3))), (x 1, .inl (cA 0, 4, .inl g)), (x 7, .inl (cA 0, 4, .inl g))]) hP hD [0, 1, 2, 3, 4, 5, 6, 7, 8, 9, 10, 11, 12, 13, 14] [] rfl rfl (by decide) (by decide) hk1 hFc hP1 hD1
  generalize H1 = H at hP hS ⊢
  have hP := hP.sub (ws' := [(o, .inr (5, [.ref F, .ref G, .int lo, .int nw, .int se'_1, .ref (pa 0), .ref an, .ref ln])), cE x xv'_1, (x 9, .inr (4, [.ref (x 10), .ref (x 11), .ref (x 12), .ref (x 13), .int (nI xf), .int (nI QX'_1.1)])), (x 10, .inl (cA 0, 12, .inl (xr'_1 0))), (x 11, .inl (cA 0, 12, .inl (xr'_1 1))), (x 12, .inl (cA 0, 12, .inl (xr'_1 2))), (x 13, .inl (cA 0, 48, .inl (xr'_1 3))), cE y yv, (y 9, .inr (4, [.ref (y 10), .ref (y 11), .ref (y 12), .ref (y 13), .int (nI yf), .int (nI QY'_1.1)])), (y 10, .inl (cA 0, 12, .inl (yr'_1 0))), (y 11, .inl (cA 0, 12, .inl (yr'_1 1))), (y 12, .inl (cA 0, 12, .inl (yr'_1 2))), (y 13, .inl (cA 0, 48, .inl (yr'_1 3))), (x 1, .inl (cA 0, 4, .inl g)), (x 7, .inl (cA 0, 4, .inl g))]) [0, 1, 2, 3, 4, 5, 6, 7, 8, 9, 10, 11, 12, 13, 14] rfl
  have hD := hD.sub (ws' := [(o, .inr (5, [.ref F, .ref G, .int lo, .int nw, .int se'_1, .ref (pa 0), .ref an, .ref ln])), cE x xv'_1, (x 9, .inr (4, [.ref (x 10), .ref (x 11), .ref (x 12), .ref (x 13), .int (nI xf), .int (nI QX'_1.1)])), (x 10, .inl (cA 0, 12, .inl (xr'_1 0))), (x 11, .inl (cA 0, 12, .inl (xr'_1 1))), (x 12, .inl (cA 0, 12, .inl (xr'_1 2))), (x 13, .inl (cA 0, 48, .inl (xr'_1 3))), cE y yv, (y 9, .inr (4, [.ref (y 10), .ref (y 11), .ref (y 12), .ref (y 13), .int (nI yf), .int (nI QY'_1.1)])), (y 10, .inl (cA 0, 12, .inl (yr'_1 0))), (y 11, .inl (cA 0, 12, .inl (yr'_1 1))), (y 12, .inl (cA 0, 12, .inl (yr'_1 2))), (y 13, .inl (cA 0, 48, .inl (yr'_1 3))), (x 1, .inl (cA 0, 4, .inl g)), (x 7, .inl (cA 0, 4, .inl g))]) [0, 1, 2, 3, 4, 5, 6, 7, 8, 9, 10, 11, 12, 13, 14] (by decide) rfl
  clear hPc hDc hFc hP1 hD1 hk1 hz1
  obtain ⟨rfl, rfl, rfl, rfl, hw_1_0, hw_1_1⟩ := hw
  refine lv_goto (tgt := 15) hx hb dL_open_6 (by decide) ?_
  refine lv_iconst (v := 0) hx hb dL_open_15 (by decide) ?_
  refine W.widen (k := 0) (n := 0) (by omega) (by omega) ?_
  exact W.iret (v := 0) hx hb hr (fun t ht hW => ⟨⟨0, (((rq lo (upd (upd (upd (upd xv 0 1) 3 10) 1 mk) 5 0) g QX QY se).1), xr'_1, yr'_1, (rq lo (upd (upd (upd (upd xv 0 1) 3 10) 1 mk) 5 0) g QX QY se).2.1.1, (rq lo (upd (upd (upd (upd xv 0 1) 3 10) 1 mk) 5 0) g QX QY se).2.1.2, ((rq lo (upd (upd (upd (upd xv 0 1) 3 10) 1 mk) 5 0) g QX QY se).2.2)), rfl, ⟨rfl, rfl, rfl, rfl, by assumption, by assumption, rfl⟩, ⟨by rw [ht]; exact hP, by rw [hAe]; exact hD⟩⟩, hS.F ht⟩) hS.2.2 dL_open_16
set_option maxHeartbeats 4000000 in
set_option maxRecDepth 100000 in
theorem c_L_open_s (l : Launch) (D : va_G) (cA : Nat → ClassId) (zv : Nat → Nat) (sz : Nat) (o F G : Nat) (lo nw se : Int32) (pa : Nat → Nat) (an ln : Nat) (x : Nat → Nat) (y0 : Nat) (n : Int32) (xv : Nat → Int32) (mk : Int32) (hl0 : l.stackTraces = false) (he : en n F G (x 0) y0) (hmk : inr mk 1 999) (hsh : ¬ sSh (xv 0)) : Met l yL_open wsL_open ({ frames := 10, cells := 1, slots := 6, locals := 143 }) (va_Pc [.ref o, .int n, .int mk] (zUX D cA zv sz [(o, .inr (5, [.ref F, .ref G, .int lo, .int nw, .int se, .ref (pa 0), .ref an, .ref ln])), cE x xv])) (va_Qi (fun (r : Int32) (_ : Unit) => r = 2) (fun (_ : Unit) t => zB D [(o, .inr (5, [.ref F, .ref G, .int lo, .int nw, .int se, .ref (pa 0), .ref an, .ref ln])), cE x xv] sz [(o, .inr (5, [.ref F, .ref G, .int lo, .int nw, .int se, .ref (pa 0), .ref an, .ref ln])), cE x xv] t) (va_A [(o, .inr (5, [.ref F, .ref G, .int lo, .int nw, .int se, .ref (pa 0), .ref an, .ref ln])), cE x xv] sz)) 1 6 (va_A [(o, .inr (5, [.ref F, .ref G, .int lo, .int nw, .int se, .ref (pa 0), .ref an, .ref ln])), cE x xv] sz) := by
  refine z_ofWH (cc := cL_open) (maxL := 4) (ret := (some .int)) (hh := [(0, 6, 9, 13), (0, 6, 12, 15)]) (by decide) rfl ?_
  intro p e s m args below meth c s₁ B hml htab hv
  obtain ⟨rfl, ⟨hsz, hP, hK, hD0, hE0⟩, hX0⟩ := hv
  have hx := B.exec
  have hb := B.bytes
  have hr := B.returns
  have hts := atoms_spec (ws := wsL_open) B.pre
  have hown : s.vm.findClass RL = some m.cls := findClass_of_methodNamed B.named
  have hlocks := B.notSynchronized
  subst hsz
  have hD := hD0.self (sz := s.heap.size)
  generalize hAe : va_A [(o, .inr (5, [.ref F, .ref G, .int lo, .int nw, .int se, .ref (pa 0), .ref an, .ref ln])), cE x xv] s.heap.size = A at hD hE0 hX0 ⊢
  have hA : ∀ q : Nat, s.heap.size ≤ q → A q := fun q h => by rw [← hAe]; exact Or.inr h
  have hS : va_S A s.heap s.heap [] := va_S.rf
  have hl := lv_entry ([.ref o, .int n, .int mk]) (n := 4) (Nat.le_of_ble_eq_true rfl)
  rw [lg_entry_eq]
  generalize (lg_sl ([.ref o, .int n, .int mk]) ++ List.replicate (4 - (lg_sl ([.ref o, .int n, .int mk])).length) Slot.unset).toArray = ls at hl ⊢
  have hl : lv_has ls 4 [(0, .ref o), (1, .int n), (2, .int mk)] := hl
  refine lv_aload_n hx hb dL_open_0 rfl (lv_at hl 0 rfl) ?_
  refine lv_iload_n hx hb dL_open_1 rfl (lv_at hl 1 rfl) ?_
  refine lv_iload_n hx hb dL_open_2 rfl (lv_at hl 2 rfl) ?_
  have hPc := hP.sub (ws' := [(o, .inr (5, [.ref F, .ref G, .int lo, .int nw, .int se, .ref (pa 0), .ref an, .ref ln])), cE x xv]) [0, 1] rfl
  have hDc := hD.sub (ws' := [(o, .inr (5, [.ref F, .ref G, .int lo, .int nw, .int se, .ref (pa 0), .ref an, .ref ln])), cE x xv]) [0, 1] (by decide) rfl
  have hFc := va_free (wc := [(o, .inr (5, [.ref F, .ref G, .int lo, .int nw, .int se, .ref (pa 0), .ref an, .ref ln])), cE x xv]) hD hS hA [0, 1] rfl
  refine vx_callv (vx_runV (As := [.int n, .int mk]) (rest := []) ⟨hx, hb, hml, hown, hts⟩ (c_X3_open_s l D cA zv s.heap.size hl0 o F G lo nw se pa an ln x y0 n xv mk (by assumption) (by assumption) (by assumption)) (cwV 2 hts gL_open_X3_open rfl rfl rfl (by decide +kernel) ⟨Nat.le_of_ble_eq_true rfl, Nat.le_of_ble_eq_true rfl⟩) ⟨zUX_blind, va_recv hK hPc (ci := 5) (q0 := 0) rfl rfl, fun U hU hW => ⟨rfl, zUX_call hE0 hX0 hS hFc hU hPc hW hK hDc⟩⟩ rfl rfl hl.1 rfl (lv_room (Nat.le_of_ble_eq_true rfl)) dL_open_3 ⟨Nat.le_of_ble_eq_true rfl, Nat.le_of_ble_eq_true rfl⟩) hS (fun q _ h => hFc q h) hFc (fun q _ h => hFc q h) (fun E9 ce9 q9 u t H1 locs ht hvm hpx hB hz1 hk1 hS hcell hcv hcl => ?_) (fun u t H1 locs1 ht hvm hw _ _ _ _ => hw.elim)
  obtain ⟨rfl, hP1, hD1⟩ := hB
  rw [ht] at hP1
  obtain ⟨hP, hD⟩ := va_join (wr := []) (w1 := [(o, .inr (5, [.ref F, .ref G, .int lo, .int nw, .int se, .ref (pa 0), .ref an, .ref ln])), cE x xv]) hP hD [0, 1] [] rfl rfl (by decide) (by decide) hk1 hFc hP1 hD1
  have hP := hP.sub (ws' := [(o, .inr (5, [.ref F, .ref G, .int lo, .int nw, .int se, .ref (pa 0), .ref an, .ref ln])), cE x xv]) [0, 1] rfl
  have hD := hD.sub (ws' := [(o, .inr (5, [.ref F, .ref G, .int lo, .int nw, .int se, .ref (pa 0), .ref an, .ref ln])), cE x xv]) [0, 1] (by decide) rfl
  refine vx_catch hown [⟨0, 6, 9, 13⟩] ⟨0, 6, 12, 15⟩ [] htab (fun z hz => by obtain rfl := List.mem_singleton.mp hz; exact Or.inr ⟨by decide, _, (hts (.classLink RL 13 "java/lang/IllegalArgumentException") (List.mem_of_getElem? (i := 1) rfl)), hX0.2.2.2.2.1⟩) (by decide) (by decide) (hts (.classLink RL 15 "java/lang/IllegalStateException") (List.mem_of_getElem? (i := 2) rfl)) (va_Nw.use rfl (hX0.1.1 "java/lang/IllegalStateException" (by decide))) hcell hcv hcl ?_
  refine W.eq (g2 := F0 m 12 ls [.ref q9]) rfl ?_
  clear hcell
  generalize H1 = H at hP hS ⊢
  refine W.widen (k := 1) (n := 6) (by omega) (by omega) ?_
  refine lv_astore_n (lv' := [(3, .ref q9), (0, .ref o), (1, .int n), (2, .int mk)]) hx hb dL_open_12 rfl hl (by decide) rfl (fun ls hl => ?_)
  refine lv_iconst (v := 2) hx hb dL_open_13 (by decide) ?_
  refine W.widen (k := 1) (n := 6) (by omega) (by omega) ?_
  exact W.iret (v := 2) hx hb hr (fun t ht hW => ⟨⟨2, (), rfl, rfl, ⟨by rw [ht]; exact hP, by rw [hAe]; exact hD⟩⟩, hS.F ht⟩) hS.2.2 dL_open_14
set_option maxHeartbeats 4000000 in
set_option maxRecDepth 100000 in
theorem c_L_open_b (l : Launch) (D : va_G) (cA : Nat → ClassId) (zv : Nat → Nat) (sz : Nat) (o F G : Nat) (lo nw se : Int32) (pa : Nat → Nat) (an ln : Nat) (n mk : Int32) (hl0 : l.stackTraces = false) (hbad : ¬ (inr n 0 1 ∧ inr mk 1 999)) : Met l yL_open wsL_open ({ frames := 10, cells := 1, slots := 6, locals := 143 }) (va_Pc [.ref o, .int n, .int mk] (zUX D cA zv sz [(o, .inr (5, [.ref F, .ref G, .int lo, .int nw, .int se, .ref (pa 0), .ref an, .ref ln]))])) (va_Qi (fun (r : Int32) (_ : Unit) => r = 1) (fun (_ : Unit) t => zB D [(o, .inr (5, [.ref F, .ref G, .int lo, .int nw, .int se, .ref (pa 0), .ref an, .ref ln]))] sz [(o, .inr (5, [.ref F, .ref G, .int lo, .int nw, .int se, .ref (pa 0), .ref an, .ref ln]))] t) (va_A [(o, .inr (5, [.ref F, .ref G, .int lo, .int nw, .int se, .ref (pa 0), .ref an, .ref ln]))] sz)) 1 6 (va_A [(o, .inr (5, [.ref F, .ref G, .int lo, .int nw, .int se, .ref (pa 0), .ref an, .ref ln]))] sz) := by
  refine z_ofWH (cc := cL_open) (maxL := 4) (ret := (some .int)) (hh := [(0, 6, 9, 13), (0, 6, 12, 15)]) (by decide) rfl ?_
  intro p e s m args below meth c s₁ B hml htab hv
  obtain ⟨rfl, ⟨hsz, hP, hK, hD0, hE0⟩, hX0⟩ := hv
  have hx := B.exec
  have hb := B.bytes
  have hr := B.returns
  have hts := atoms_spec (ws := wsL_open) B.pre
  have hown : s.vm.findClass RL = some m.cls := findClass_of_methodNamed B.named
  have hlocks := B.notSynchronized
  subst hsz
  have hD := hD0.self (sz := s.heap.size)
  generalize hAe : va_A [(o, .inr (5, [.ref F, .ref G, .int lo, .int nw, .int se, .ref (pa 0), .ref an, .ref ln]))] s.heap.size = A at hD hE0 hX0 ⊢
  have hA : ∀ q : Nat, s.heap.size ≤ q → A q := fun q h => by rw [← hAe]; exact Or.inr h
  have hS : va_S A s.heap s.heap [] := va_S.rf
  have hl := lv_entry ([.ref o, .int n, .int mk]) (n := 4) (Nat.le_of_ble_eq_true rfl)
  rw [lg_entry_eq]
  generalize (lg_sl ([.ref o, .int n, .int mk]) ++ List.replicate (4 - (lg_sl ([.ref o, .int n, .int mk])).length) Slot.unset).toArray = ls at hl ⊢
  have hl : lv_has ls 4 [(0, .ref o), (1, .int n), (2, .int mk)] := hl
  refine lv_aload_n hx hb dL_open_0 rfl (lv_at hl 0 rfl) ?_
  refine lv_iload_n hx hb dL_open_1 rfl (lv_at hl 1 rfl) ?_
  refine lv_iload_n hx hb dL_open_2 rfl (lv_at hl 2 rfl) ?_
  have hPc := hP.sub (ws' := [(o, .inr (5, [.ref F, .ref G, .int lo, .int nw, .int se, .ref (pa 0), .ref an, .ref ln]))]) [0] rfl
  have hDc := hD.sub (ws' := [(o, .inr (5, [.ref F, .ref G, .int lo, .int nw, .int se, .ref (pa 0), .ref an, .ref ln]))]) [0] (by decide) rfl
  have hFc := va_free (wc := [(o, .inr (5, [.ref F, .ref G, .int lo, .int nw, .int se, .ref (pa 0), .ref an, .ref ln]))]) hD hS hA [0] rfl
  refine vx_callv (vx_runV (As := [.int n, .int mk]) (rest := []) ⟨hx, hb, hml, hown, hts⟩ (c_X3_open_b l D cA zv s.heap.size hl0 o F G lo nw se pa an ln n mk (by assumption)) (cwV 2 hts gL_open_X3_open rfl rfl rfl (by decide +kernel) ⟨Nat.le_of_ble_eq_true rfl, Nat.le_of_ble_eq_true rfl⟩) ⟨zUX_blind, va_recv hK hPc (ci := 5) (q0 := 0) rfl rfl, fun U hU hW => ⟨rfl, zUX_call hE0 hX0 hS hFc hU hPc hW hK hDc⟩⟩ rfl rfl hl.1 rfl (lv_room (Nat.le_of_ble_eq_true rfl)) dL_open_3 ⟨Nat.le_of_ble_eq_true rfl, Nat.le_of_ble_eq_true rfl⟩) hS (fun q _ h => hFc q h) hFc (fun q _ h => hFc q h) (fun E9 ce9 q9 u t H1 locs ht hvm hpx hB hz1 hk1 hS hcell hcv hcl => ?_) (fun u t H1 locs1 ht hvm hw _ _ _ _ => hw.elim)
  obtain ⟨rfl, hP1, hD1⟩ := hB
  rw [ht] at hP1
  obtain ⟨hP, hD⟩ := va_join (wr := []) (w1 := [(o, .inr (5, [.ref F, .ref G, .int lo, .int nw, .int se, .ref (pa 0), .ref an, .ref ln]))]) hP hD [0] [] rfl rfl (by decide) (by decide) hk1 hFc hP1 hD1
  have hP := hP.sub (ws' := [(o, .inr (5, [.ref F, .ref G, .int lo, .int nw, .int se, .ref (pa 0), .ref an, .ref ln]))]) [0] rfl
  have hD := hD.sub (ws' := [(o, .inr (5, [.ref F, .ref G, .int lo, .int nw, .int se, .ref (pa 0), .ref an, .ref ln]))]) [0] (by decide) rfl
  refine vx_catch hown [] ⟨0, 6, 9, 13⟩ [⟨0, 6, 12, 15⟩] htab (fun z hz => absurd hz List.not_mem_nil) (by decide) (by decide) (hts (.classLink RL 13 "java/lang/IllegalArgumentException") (List.mem_of_getElem? (i := 1) rfl)) (va_Nw.use rfl (hX0.1.1 "java/lang/IllegalArgumentException" (by decide))) hcell hcv hcl ?_
  refine W.eq (g2 := F0 m 9 ls [.ref q9]) rfl ?_
  clear hcell
  generalize H1 = H at hP hS ⊢
  refine W.widen (k := 1) (n := 6) (by omega) (by omega) ?_
  refine lv_astore_n (lv' := [(3, .ref q9), (0, .ref o), (1, .int n), (2, .int mk)]) hx hb dL_open_9 rfl hl (by decide) rfl (fun ls hl => ?_)
  refine lv_iconst (v := 1) hx hb dL_open_10 (by decide) ?_
  refine W.widen (k := 1) (n := 6) (by omega) (by omega) ?_
  exact W.iret (v := 1) hx hb hr (fun t ht hW => ⟨⟨1, (), rfl, rfl, ⟨by rw [ht]; exact hP, by rw [hAe]; exact hD⟩⟩, hS.F ht⟩) hS.2.2 dL_open_11
set_option maxHeartbeats 4000000 in
set_option maxRecDepth 100000 in
theorem c_L_close_k (l : Launch) (D : va_G) (cA : Nat → ClassId) (zv : Nat → Nat) (sz : Nat) (o F G : Nat) (lo nw se : Int32) (pa : Nat → Nat) (an ln : Nat) (x y : Nat → Nat) (n : Int32) (xv yv : Nat → Int32) (xr yr : Nat → Nat → Int32) (xf yf : Nat) (QX QY : Qt) (he : en n F G (x 0) (y 0)) (hqx : rg xr xf QX) (hqy : rg yr yf QY) (hup : sUp (xv 0)) : Met l yL_close wsL_close ({ frames := 5, cells := 0, slots := 0, locals := 117 }) (va_Pc [.ref o, .int n] (zUE D cA zv sz [(o, .inr (5, [.ref F, .ref G, .int lo, .int nw, .int se, .ref (pa 0), .ref an, .ref ln])), cE x xv, (x 9, .inr (4, [.ref (x 10), .ref (x 11), .ref (x 12), .ref (x 13), .int (nI xf), .int (nI QX.1)])), (x 10, .inl (cA 0, 12, .inl (xr 0))), (x 11, .inl (cA 0, 12, .inl (xr 1))), (x 12, .inl (cA 0, 12, .inl (xr 2))), (x 13, .inl (cA 0, 48, .inl (xr 3))), cE y yv, (y 9, .inr (4, [.ref (y 10), .ref (y 11), .ref (y 12), .ref (y 13), .int (nI yf), .int (nI QY.1)])), (y 10, .inl (cA 0, 12, .inl (yr 0))), (y 11, .inl (cA 0, 12, .inl (yr 1))), (y 12, .inl (cA 0, 12, .inl (yr 2))), (y 13, .inl (cA 0, 48, .inl (yr 3)))])) (va_Qi (fun (r : Int32) (u : ((Nat → Int32) × (Nat → Nat → Int32) × (Nat → Nat → Int32) × Qt × Qt × Int32)) => u.1 = upd (upd (upd xv 0 5) 6 1) 4 2 ∧ u.2.2.2.1 = (sq lo (pk 4 0 0 nB) QX QY).1 ∧ u.2.2.2.2.1 = (sq lo (pk 4 0 0 nB) QX QY).2 ∧ u.2.2.2.2.2 = se + 1 ∧ rg u.2.1 xf u.2.2.2.1 ∧ rg u.2.2.1 yf u.2.2.2.2.1 ∧ r = 0) (fun (u : ((Nat → Int32) × (Nat → Nat → Int32) × (Nat → Nat → Int32) × Qt × Qt × Int32)) t => zB D [(o, .inr (5, [.ref F, .ref G, .int lo, .int nw, .int se, .ref (pa 0), .ref an, .ref ln])), cE x xv, (x 9, .inr (4, [.ref (x 10), .ref (x 11), .ref (x 12), .ref (x 13), .int (nI xf), .int (nI QX.1)])), (x 10, .inl (cA 0, 12, .inl (xr 0))), (x 11, .inl (cA 0, 12, .inl (xr 1))), (x 12, .inl (cA 0, 12, .inl (xr 2))), (x 13, .inl (cA 0, 48, .inl (xr 3))), cE y yv, (y 9, .inr (4, [.ref (y 10), .ref (y 11), .ref (y 12), .ref (y 13), .int (nI yf), .int (nI QY.1)])), (y 10, .inl (cA 0, 12, .inl (yr 0))), (y 11, .inl (cA 0, 12, .inl (yr 1))), (y 12, .inl (cA 0, 12, .inl (yr 2))), (y 13, .inl (cA 0, 48, .inl (yr 3)))] sz [(o, .inr (5, [.ref F, .ref G, .int lo, .int nw, .int u.2.2.2.2.2, .ref (pa 0), .ref an, .ref ln])), cE x u.1, (x 9, .inr (4, [.ref (x 10), .ref (x 11), .ref (x 12), .ref (x 13), .int (nI xf), .int (nI u.2.2.2.1.1)])), (x 10, .inl (cA 0, 12, .inl (u.2.1 0))), (x 11, .inl (cA 0, 12, .inl (u.2.1 1))), (x 12, .inl (cA 0, 12, .inl (u.2.1 2))), (x 13, .inl (cA 0, 48, .inl (u.2.1 3))), cE y yv, (y 9, .inr (4, [.ref (y 10), .ref (y 11), .ref (y 12), .ref (y 13), .int (nI yf), .int (nI u.2.2.2.2.1.1)])), (y 10, .inl (cA 0, 12, .inl (u.2.2.1 0))), (y 11, .inl (cA 0, 12, .inl (u.2.2.1 1))), (y 12, .inl (cA 0, 12, .inl (u.2.2.1 2))), (y 13, .inl (cA 0, 48, .inl (u.2.2.1 3)))] t) (va_A [(o, .inr (5, [.ref F, .ref G, .int lo, .int nw, .int se, .ref (pa 0), .ref an, .ref ln])), cE x xv, (x 9, .inr (4, [.ref (x 10), .ref (x 11), .ref (x 12), .ref (x 13), .int (nI xf), .int (nI QX.1)])), (x 10, .inl (cA 0, 12, .inl (xr 0))), (x 11, .inl (cA 0, 12, .inl (xr 1))), (x 12, .inl (cA 0, 12, .inl (xr 2))), (x 13, .inl (cA 0, 48, .inl (xr 3))), cE y yv, (y 9, .inr (4, [.ref (y 10), .ref (y 11), .ref (y 12), .ref (y 13), .int (nI yf), .int (nI QY.1)])), (y 10, .inl (cA 0, 12, .inl (yr 0))), (y 11, .inl (cA 0, 12, .inl (yr 1))), (y 12, .inl (cA 0, 12, .inl (yr 2))), (y 13, .inl (cA 0, 48, .inl (yr 3)))] sz)) 0 0 (va_A [(o, .inr (5, [.ref F, .ref G, .int lo, .int nw, .int se, .ref (pa 0), .ref an, .ref ln])), cE x xv, (x 9, .inr (4, [.ref (x 10), .ref (x 11), .ref (x 12), .ref (x 13), .int (nI xf), .int (nI QX.1)])), (x 10, .inl (cA 0, 12, .inl (xr 0))), (x 11, .inl (cA 0, 12, .inl (xr 1))), (x 12, .inl (cA 0, 12, .inl (xr 2))), (x 13, .inl (cA 0, 48, .inl (xr 3))), cE y yv, (y 9, .inr (4, [.ref (y 10), .ref (y 11), .ref (y 12), .ref (y 13), .int (nI yf), .int (nI QY.1)])), (y 10, .inl (cA 0, 12, .inl (yr 0))), (y 11, .inl (cA 0, 12, .inl (yr 1))), (y 12, .inl (cA 0, 12, .inl (yr 2))), (y 13, .inl (cA 0, 48, .inl (yr 3)))] sz) := by
  refine z_ofWH (cc := cL_close) (maxL := 3) (ret := (some .int)) (hh := [(0, 5, 8, 13), (0, 5, 11, 15)]) (by decide) rfl ?_
  intro p e s m args below meth c s₁ B hml htab hv
  obtain ⟨rfl, hsz, hP, hK, hD0, hE0⟩ := hv
  have hx := B.exec
  have hb := B.bytes
  have hr := B.returns
  have hts := atoms_spec (ws := wsL_close) B.pre
  have hown : s.vm.findClass RL = some m.cls := findClass_of_methodNamed B.named
  have hlocks := B.notSynchronized
  subst hsz
  have hD := hD0.self (sz := s.heap.size)
  generalize hAe : va_A [(o, .inr (5, [.ref F, .ref G, .int lo, .int nw, .int se, .ref (pa 0), .ref an, .ref ln])), cE x xv, (x 9, .inr (4, [.ref (x 10), .ref (x 11), .ref (x 12), .ref (x 13), .int (nI xf), .int (nI QX.1)])), (x 10, .inl (cA 0, 12, .inl (xr 0))), (x 11, .inl (cA 0, 12, .inl (xr 1))), (x 12, .inl (cA 0, 12, .inl (xr 2))), (x 13, .inl (cA 0, 48, .inl (xr 3))), cE y yv, (y 9, .inr (4, [.ref (y 10), .ref (y 11), .ref (y 12), .ref (y 13), .int (nI yf), .int (nI QY.1)])), (y 10, .inl (cA 0, 12, .inl (yr 0))), (y 11, .inl (cA 0, 12, .inl (yr 1))), (y 12, .inl (cA 0, 12, .inl (yr 2))), (y 13, .inl (cA 0, 48, .inl (yr 3)))] s.heap.size = A at hD hE0 ⊢
  have hA : ∀ q : Nat, s.heap.size ≤ q → A q := fun q h => by rw [← hAe]; exact Or.inr h
  have hS : va_S A s.heap s.heap [] := va_S.rf
  have hl := lv_entry ([.ref o, .int n]) (n := 3) (Nat.le_of_ble_eq_true rfl)
  rw [lg_entry_eq]
  generalize (lg_sl ([.ref o, .int n]) ++ List.replicate (3 - (lg_sl ([.ref o, .int n])).length) Slot.unset).toArray = ls at hl ⊢
  have hl : lv_has ls 3 [(0, .ref o), (1, .int n)] := hl
  refine lv_aload_n hx hb dL_close_0 rfl (lv_at hl 0 rfl) ?_
  refine lv_iload_n hx hb dL_close_1 rfl (lv_at hl 1 rfl) ?_
  have hPc := hP.sub (ws' := [(o, .inr (5, [.ref F, .ref G, .int lo, .int nw, .int se, .ref (pa 0), .ref an, .ref ln])), cE x xv, (x 9, .inr (4, [.ref (x 10), .ref (x 11), .ref (x 12), .ref (x 13), .int (nI xf), .int (nI QX.1)])), (x 10, .inl (cA 0, 12, .inl (xr 0))), (x 11, .inl (cA 0, 12, .inl (xr 1))), (x 12, .inl (cA 0, 12, .inl (xr 2))), (x 13, .inl (cA 0, 48, .inl (xr 3))), cE y yv, (y 9, .inr (4, [.ref (y 10), .ref (y 11), .ref (y 12), .ref (y 13), .int (nI yf), .int (nI QY.1)])), (y 10, .inl (cA 0, 12, .inl (yr 0))), (y 11, .inl (cA 0, 12, .inl (yr 1))), (y 12, .inl (cA 0, 12, .inl (yr 2))), (y 13, .inl (cA 0, 48, .inl (yr 3)))]) [0, 1, 2, 3, 4, 5, 6, 7, 8, 9, 10, 11, 12] rfl
  have hDc := hD.sub (ws' := [(o, .inr (5, [.ref F, .ref G, .int lo, .int nw, .int se, .ref (pa 0), .ref an, .ref ln])), cE x xv, (x 9, .inr (4, [.ref (x 10), .ref (x 11), .ref (x 12), .ref (x 13), .int (nI xf), .int (nI QX.1)])), (x 10, .inl (cA 0, 12, .inl (xr 0))), (x 11, .inl (cA 0, 12, .inl (xr 1))), (x 12, .inl (cA 0, 12, .inl (xr 2))), (x 13, .inl (cA 0, 48, .inl (xr 3))), cE y yv, (y 9, .inr (4, [.ref (y 10), .ref (y 11), .ref (y 12), .ref (y 13), .int (nI yf), .int (nI QY.1)])), (y 10, .inl (cA 0, 12, .inl (yr 0))), (y 11, .inl (cA 0, 12, .inl (yr 1))), (y 12, .inl (cA 0, 12, .inl (yr 2))), (y 13, .inl (cA 0, 48, .inl (yr 3)))]) [0, 1, 2, 3, 4, 5, 6, 7, 8, 9, 10, 11, 12] (by decide) rfl
  have hFc := va_free (wc := [(o, .inr (5, [.ref F, .ref G, .int lo, .int nw, .int se, .ref (pa 0), .ref an, .ref ln])), cE x xv, (x 9, .inr (4, [.ref (x 10), .ref (x 11), .ref (x 12), .ref (x 13), .int (nI xf), .int (nI QX.1)])), (x 10, .inl (cA 0, 12, .inl (xr 0))), (x 11, .inl (cA 0, 12, .inl (xr 1))), (x 12, .inl (cA 0, 12, .inl (xr 2))), (x 13, .inl (cA 0, 48, .inl (xr 3))), cE y yv, (y 9, .inr (4, [.ref (y 10), .ref (y 11), .ref (y 12), .ref (y 13), .int (nI yf), .int (nI QY.1)])), (y 10, .inl (cA 0, 12, .inl (yr 0))), (y 11, .inl (cA 0, 12, .inl (yr 1))), (y 12, .inl (cA 0, 12, .inl (yr 2))), (y 13, .inl (cA 0, 48, .inl (yr 3)))]) hD hS hA [0, 1, 2, 3, 4, 5, 6, 7, 8, 9, 10, 11, 12] rfl
  refine va_callv (va_runV (As := [.int n]) (rest := []) ⟨hx, hb, hml, hown, hts⟩ (c_X3_close_k l D cA zv s.heap.size o F G lo nw se pa an ln x y n xv yv xr yr xf yf QX QY (by assumption) (by assumption) (by assumption) (by assumption)) (cwV 1 hts gL_close_X3_close rfl rfl rfl (by decide +kernel) ⟨Nat.le_of_ble_eq_true rfl, Nat.le_of_ble_eq_true rfl⟩) ⟨zUE_blind, va_recv hK hPc (ci := 5) (q0 := 0) rfl rfl, fun U hU hW => ⟨rfl, zUE_call hE0 hS hFc hU hPc hW hK hDc⟩⟩ rfl rfl hl.1 rfl (lv_room (Nat.le_of_ble_eq_true rfl)) dL_close_2 ⟨(Nat.zero_le _), (Nat.zero_le _)⟩) hS (fun q _ h => hFc q h) hFc (fun u t H1 locs ht hvm hw hB hz1 hk1 hS => ?_)
  obtain ⟨xv'_1, xr'_1, yr'_1, QX'_1, QY'_1, se'_1⟩ := u
  obtain ⟨hP1, hD1⟩ := hB
  rw [ht] at hP1
  try dsimp only at hw hP1 hD1
  obtain ⟨hP, hD⟩ := va_join (wr := []) (w1 := [(o, .inr (5, [.ref F, .ref G, .int lo, .int nw, .int se'_1, .ref (pa 0), .ref an, .ref ln])), cE x xv'_1, (x 9, .inr (4, [.ref (x 10), .ref (x 11), .ref (x 12), .ref (x 13), .int (nI xf), .int (nI QX'_1.1)])), (x 10, .inl (cA 0, 12, .inl (xr'_1 0))), (x 11, .inl (cA 0, 12, .inl (xr'_1 1))), (x 12, .inl (cA 0, 12, .inl (xr'_1 2))), (x 13, .inl (cA 0, 48, .inl (xr'_1 3))), cE y yv, (y 9, .inr (4, [.ref (y 10), .ref (y 11), .ref (y 12), .ref (y 13), .int (nI yf), .int (nI QY'_1.1)])), (y 10, .inl (cA 0, 12, .inl (yr'_1 0))), (y 11, .inl (cA 0, 12, .inl (yr'_1 1))), (y 12, .inl (cA 0, 12, .inl (yr'_1 2))), (y 13, .inl (cA 0, 48, .inl (yr'_1 3)))]) hP hD [0, 1, 2, 3, 4, 5, 6, 7, 8, 9, 10, 11, 12] [] rfl rfl (by decide) (by decide) hk1 hFc hP1 hD1
  generalize H1 = H at hP hS ⊢
  have hP := hP.sub (ws' := [(o, .inr (5, [.ref F, .ref G, .int lo, .int nw, .int se'_1, .ref (pa 0), .ref an, .ref ln])), cE x xv'_1, (x 9, .inr (4, [.ref (x 10), .ref (x 11), .ref (x 12), .ref (x 13), .int (nI xf), .int (nI QX'_1.1)])), (x 10, .inl (cA 0, 12, .inl (xr'_1 0))), (x 11, .inl (cA 0, 12, .inl (xr'_1 1))), (x 12, .inl (cA 0, 12, .inl (xr'_1 2))), (x 13, .inl (cA 0, 48, .inl (xr'_1 3))), cE y yv, (y 9, .inr (4, [.ref (y 10), .ref (y 11), .ref (y 12), .ref (y 13), .int (nI yf), .int (nI QY'_1.1)])), (y 10, .inl (cA 0, 12, .inl (yr'_1 0))), (y 11, .inl (cA 0, 12, .inl (yr'_1 1))), (y 12, .inl (cA 0, 12, .inl (yr'_1 2))), (y 13, .inl (cA 0, 48, .inl (yr'_1 3)))]) [0, 1, 2, 3, 4, 5, 6, 7, 8, 9, 10, 11, 12] rfl
  have hD := hD.sub (ws' := [(o, .inr (5, [.ref F, .ref G, .int lo, .int nw, .int se'_1, .ref (pa 0), .ref an, .ref ln])), cE x xv'_1, (x 9, .inr (4, [.ref (x 10), .ref (x 11), .ref (x 12), .ref (x 13), .int (nI xf), .int (nI QX'_1.1)])), (x 10, .inl (cA 0, 12, .inl (xr'_1 0))), (x 11, .inl (cA 0, 12, .inl (xr'_1 1))), (x 12, .inl (cA 0, 12, .inl (xr'_1 2))), (x 13, .inl (cA 0, 48, .inl (xr'_1 3))), cE y yv, (y 9, .inr (4, [.ref (y 10), .ref (y 11), .ref (y 12), .ref (y 13), .int (nI yf), .int (nI QY'_1.1)])), (y 10, .inl (cA 0, 12, .inl (yr'_1 0))), (y 11, .inl (cA 0, 12, .inl (yr'_1 1))), (y 12, .inl (cA 0, 12, .inl (yr'_1 2))), (y 13, .inl (cA 0, 48, .inl (yr'_1 3)))]) [0, 1, 2, 3, 4, 5, 6, 7, 8, 9, 10, 11, 12] (by decide) rfl
  clear hPc hDc hFc hP1 hD1 hk1 hz1
  obtain ⟨rfl, rfl, rfl, rfl, hw_1_0, hw_1_1⟩ := hw
  refine lv_goto (tgt := 14) hx hb dL_close_5 (by decide) ?_
  refine lv_iconst (v := 0) hx hb dL_close_14 (by decide) ?_
  refine W.widen (k := 0) (n := 0) (by omega) (by omega) ?_
  exact W.iret (v := 0) hx hb hr (fun t ht hW => ⟨⟨0, ((upd (upd (upd xv 0 5) 6 1) 4 2), xr'_1, yr'_1, (sq lo (pk 4 0 0 nB) QX QY).1, (sq lo (pk 4 0 0 nB) QX QY).2, (se + 1)), rfl, ⟨rfl, rfl, rfl, rfl, by assumption, by assumption, rfl⟩, ⟨by rw [ht]; exact hP, by rw [hAe]; exact hD⟩⟩, hS.F ht⟩) hS.2.2 dL_close_15
set_option maxHeartbeats 4000000 in
set_option maxRecDepth 100000 in
theorem c_L_close_s (l : Launch) (D : va_G) (cA : Nat → ClassId) (zv : Nat → Nat) (sz : Nat) (o F G : Nat) (lo nw se : Int32) (pa : Nat → Nat) (an ln : Nat) (x : Nat → Nat) (y0 : Nat) (n : Int32) (xv : Nat → Int32)  (hl0 : l.stackTraces = false) (he : en n F G (x 0) y0) (hup : ¬ sUp (xv 0)) : Met l yL_close wsL_close ({ frames := 9, cells := 1, slots := 6, locals := 122 }) (va_Pc [.ref o, .int n] (zUX D cA zv sz [(o, .inr (5, [.ref F, .ref G, .int lo, .int nw, .int se, .ref (pa 0), .ref an, .ref ln])), cE x xv])) (va_Qi (fun (r : Int32) (_ : Unit) => r = 2) (fun (_ : Unit) t => zB D [(o, .inr (5, [.ref F, .ref G, .int lo, .int nw, .int se, .ref (pa 0), .ref an, .ref ln])), cE x xv] sz [(o, .inr (5, [.ref F, .ref G, .int lo, .int nw, .int se, .ref (pa 0), .ref an, .ref ln])), cE x xv] t) (va_A [(o, .inr (5, [.ref F, .ref G, .int lo, .int nw, .int se, .ref (pa 0), .ref an, .ref ln])), cE x xv] sz)) 1 6 (va_A [(o, .inr (5, [.ref F, .ref G, .int lo, .int nw, .int se, .ref (pa 0), .ref an, .ref ln])), cE x xv] sz) := by
  refine z_ofWH (cc := cL_close) (maxL := 3) (ret := (some .int)) (hh := [(0, 5, 8, 13), (0, 5, 11, 15)]) (by decide) rfl ?_
  intro p e s m args below meth c s₁ B hml htab hv
  obtain ⟨rfl, ⟨hsz, hP, hK, hD0, hE0⟩, hX0⟩ := hv
  have hx := B.exec
  have hb := B.bytes
  have hr := B.returns
  have hts := atoms_spec (ws := wsL_close) B.pre
  have hown : s.vm.findClass RL = some m.cls := findClass_of_methodNamed B.named
  have hlocks := B.notSynchronized
  subst hsz
  have hD := hD0.self (sz := s.heap.size)
  generalize hAe : va_A [(o, .inr (5, [.ref F, .ref G, .int lo, .int nw, .int se, .ref (pa 0), .ref an, .ref ln])), cE x xv] s.heap.size = A at hD hE0 hX0 ⊢
  have hA : ∀ q : Nat, s.heap.size ≤ q → A q := fun q h => by rw [← hAe]; exact Or.inr h
  have hS : va_S A s.heap s.heap [] := va_S.rf
  have hl := lv_entry ([.ref o, .int n]) (n := 3) (Nat.le_of_ble_eq_true rfl)
  rw [lg_entry_eq]
  generalize (lg_sl ([.ref o, .int n]) ++ List.replicate (3 - (lg_sl ([.ref o, .int n])).length) Slot.unset).toArray = ls at hl ⊢
  have hl : lv_has ls 3 [(0, .ref o), (1, .int n)] := hl
  refine lv_aload_n hx hb dL_close_0 rfl (lv_at hl 0 rfl) ?_
  refine lv_iload_n hx hb dL_close_1 rfl (lv_at hl 1 rfl) ?_
  have hPc := hP.sub (ws' := [(o, .inr (5, [.ref F, .ref G, .int lo, .int nw, .int se, .ref (pa 0), .ref an, .ref ln])), cE x xv]) [0, 1] rfl
  have hDc := hD.sub (ws' := [(o, .inr (5, [.ref F, .ref G, .int lo, .int nw, .int se, .ref (pa 0), .ref an, .ref ln])), cE x xv]) [0, 1] (by decide) rfl
  have hFc := va_free (wc := [(o, .inr (5, [.ref F, .ref G, .int lo, .int nw, .int se, .ref (pa 0), .ref an, .ref ln])), cE x xv]) hD hS hA [0, 1] rfl
  refine vx_callv (vx_runV (As := [.int n]) (rest := []) ⟨hx, hb, hml, hown, hts⟩ (c_X3_close_s l D cA zv s.heap.size hl0 o F G lo nw se pa an ln x y0 n xv (by assumption) (by assumption)) (cwV 1 hts gL_close_X3_close rfl rfl rfl (by decide +kernel) ⟨Nat.le_of_ble_eq_true rfl, Nat.le_of_ble_eq_true rfl⟩) ⟨zUX_blind, va_recv hK hPc (ci := 5) (q0 := 0) rfl rfl, fun U hU hW => ⟨rfl, zUX_call hE0 hX0 hS hFc hU hPc hW hK hDc⟩⟩ rfl rfl hl.1 rfl (lv_room (Nat.le_of_ble_eq_true rfl)) dL_close_2 ⟨Nat.le_of_ble_eq_true rfl, Nat.le_of_ble_eq_true rfl⟩) hS (fun q _ h => hFc q h) hFc (fun q _ h => hFc q h) (fun E9 ce9 q9 u t H1 locs ht hvm hpx hB hz1 hk1 hS hcell hcv hcl => ?_) (fun u t H1 locs1 ht hvm hw _ _ _ _ => hw.elim)
  obtain ⟨rfl, hP1, hD1⟩ := hB
  rw [ht] at hP1
  obtain ⟨hP, hD⟩ := va_join (wr := []) (w1 := [(o, .inr (5, [.ref F, .ref G, .int lo, .int nw, .int se, .ref (pa 0), .ref an, .ref ln])), cE x xv]) hP hD [0, 1] [] rfl rfl (by decide) (by decide) hk1 hFc hP1 hD1
  have hP := hP.sub (ws' := [(o, .inr (5, [.ref F, .ref G, .int lo, .int nw, .int se, .ref (pa 0), .ref an, .ref ln])), cE x xv]) [0, 1] rfl
  have hD := hD.sub (ws' := [(o, .inr (5, [.ref F, .ref G, .int lo, .int nw, .int se, .ref (pa 0), .ref an, .ref ln])), cE x xv]) [0, 1] (by decide) rfl
  refine vx_catch hown [⟨0, 5, 8, 13⟩] ⟨0, 5, 11, 15⟩ [] htab (fun z hz => by obtain rfl := List.mem_singleton.mp hz; exact Or.inr ⟨by decide, _, (hts (.classLink RL 13 "java/lang/IllegalArgumentException") (List.mem_of_getElem? (i := 1) rfl)), hX0.2.2.2.2.1⟩) (by decide) (by decide) (hts (.classLink RL 15 "java/lang/IllegalStateException") (List.mem_of_getElem? (i := 2) rfl)) (va_Nw.use rfl (hX0.1.1 "java/lang/IllegalStateException" (by decide))) hcell hcv hcl ?_
  refine W.eq (g2 := F0 m 11 ls [.ref q9]) rfl ?_
  clear hcell
  generalize H1 = H at hP hS ⊢
  refine W.widen (k := 1) (n := 6) (by omega) (by omega) ?_
  refine lv_astore_n (lv' := [(2, .ref q9), (0, .ref o), (1, .int n)]) hx hb dL_close_11 rfl hl (by decide) rfl (fun ls hl => ?_)
  refine lv_iconst (v := 2) hx hb dL_close_12 (by decide) ?_
  refine W.widen (k := 1) (n := 6) (by omega) (by omega) ?_
  exact W.iret (v := 2) hx hb hr (fun t ht hW => ⟨⟨2, (), rfl, rfl, ⟨by rw [ht]; exact hP, by rw [hAe]; exact hD⟩⟩, hS.F ht⟩) hS.2.2 dL_close_13
set_option maxHeartbeats 4000000 in
set_option maxRecDepth 100000 in
theorem c_L_close_b (l : Launch) (D : va_G) (cA : Nat → ClassId) (zv : Nat → Nat) (sz : Nat) (o F G : Nat) (lo nw se : Int32) (pa : Nat → Nat) (an ln : Nat) (n  : Int32) (hl0 : l.stackTraces = false) (hbad : ¬ inr n 0 1) : Met l yL_close wsL_close ({ frames := 10, cells := 1, slots := 6, locals := 142 }) (va_Pc [.ref o, .int n] (zUX D cA zv sz [(o, .inr (5, [.ref F, .ref G, .int lo, .int nw, .int se, .ref (pa 0), .ref an, .ref ln]))])) (va_Qi (fun (r : Int32) (_ : Unit) => r = 1) (fun (_ : Unit) t => zB D [(o, .inr (5, [.ref F, .ref G, .int lo, .int nw, .int se, .ref (pa 0), .ref an, .ref ln]))] sz [(o, .inr (5, [.ref F, .ref G, .int lo, .int nw, .int se, .ref (pa 0), .ref an, .ref ln]))] t) (va_A [(o, .inr (5, [.ref F, .ref G, .int lo, .int nw, .int se, .ref (pa 0), .ref an, .ref ln]))] sz)) 1 6 (va_A [(o, .inr (5, [.ref F, .ref G, .int lo, .int nw, .int se, .ref (pa 0), .ref an, .ref ln]))] sz) := by
  refine z_ofWH (cc := cL_close) (maxL := 3) (ret := (some .int)) (hh := [(0, 5, 8, 13), (0, 5, 11, 15)]) (by decide) rfl ?_
  intro p e s m args below meth c s₁ B hml htab hv
  obtain ⟨rfl, ⟨hsz, hP, hK, hD0, hE0⟩, hX0⟩ := hv
  have hx := B.exec
  have hb := B.bytes
  have hr := B.returns
  have hts := atoms_spec (ws := wsL_close) B.pre
  have hown : s.vm.findClass RL = some m.cls := findClass_of_methodNamed B.named
  have hlocks := B.notSynchronized
  subst hsz
  have hD := hD0.self (sz := s.heap.size)
  generalize hAe : va_A [(o, .inr (5, [.ref F, .ref G, .int lo, .int nw, .int se, .ref (pa 0), .ref an, .ref ln]))] s.heap.size = A at hD hE0 hX0 ⊢
  have hA : ∀ q : Nat, s.heap.size ≤ q → A q := fun q h => by rw [← hAe]; exact Or.inr h
  have hS : va_S A s.heap s.heap [] := va_S.rf
  have hl := lv_entry ([.ref o, .int n]) (n := 3) (Nat.le_of_ble_eq_true rfl)
  rw [lg_entry_eq]
  generalize (lg_sl ([.ref o, .int n]) ++ List.replicate (3 - (lg_sl ([.ref o, .int n])).length) Slot.unset).toArray = ls at hl ⊢
  have hl : lv_has ls 3 [(0, .ref o), (1, .int n)] := hl
  refine lv_aload_n hx hb dL_close_0 rfl (lv_at hl 0 rfl) ?_
  refine lv_iload_n hx hb dL_close_1 rfl (lv_at hl 1 rfl) ?_
  have hPc := hP.sub (ws' := [(o, .inr (5, [.ref F, .ref G, .int lo, .int nw, .int se, .ref (pa 0), .ref an, .ref ln]))]) [0] rfl
  have hDc := hD.sub (ws' := [(o, .inr (5, [.ref F, .ref G, .int lo, .int nw, .int se, .ref (pa 0), .ref an, .ref ln]))]) [0] (by decide) rfl
  have hFc := va_free (wc := [(o, .inr (5, [.ref F, .ref G, .int lo, .int nw, .int se, .ref (pa 0), .ref an, .ref ln]))]) hD hS hA [0] rfl
  refine vx_callv (vx_runV (As := [.int n]) (rest := []) ⟨hx, hb, hml, hown, hts⟩ (c_X3_close_b l D cA zv s.heap.size hl0 o F G lo nw se pa an ln n (by assumption)) (cwV 1 hts gL_close_X3_close rfl rfl rfl (by decide +kernel) ⟨Nat.le_of_ble_eq_true rfl, Nat.le_of_ble_eq_true rfl⟩) ⟨zUX_blind, va_recv hK hPc (ci := 5) (q0 := 0) rfl rfl, fun U hU hW => ⟨rfl, zUX_call hE0 hX0 hS hFc hU hPc hW hK hDc⟩⟩ rfl rfl hl.1 rfl (lv_room (Nat.le_of_ble_eq_true rfl)) dL_close_2 ⟨Nat.le_of_ble_eq_true rfl, Nat.le_of_ble_eq_true rfl⟩) hS (fun q _ h => hFc q h) hFc (fun q _ h => hFc q h) (fun E9 ce9 q9 u t H1 locs ht hvm hpx hB hz1 hk1 hS hcell hcv hcl => ?_) (fun u t H1 locs1 ht hvm hw _ _ _ _ => hw.elim)
  obtain ⟨rfl, hP1, hD1⟩ := hB
  rw [ht] at hP1
  obtain ⟨hP, hD⟩ := va_join (wr := []) (w1 := [(o, .inr (5, [.ref F, .ref G, .int lo, .int nw, .int se, .ref (pa 0), .ref an, .ref ln]))]) hP hD [0] [] rfl rfl (by decide) (by decide) hk1 hFc hP1 hD1
  have hP := hP.sub (ws' := [(o, .inr (5, [.ref F, .ref G, .int lo, .int nw, .int se, .ref (pa 0), .ref an, .ref ln]))]) [0] rfl
  have hD := hD.sub (ws' := [(o, .inr (5, [.ref F, .ref G, .int lo, .int nw, .int se, .ref (pa 0), .ref an, .ref ln]))]) [0] (by decide) rfl
  refine vx_catch hown [] ⟨0, 5, 8, 13⟩ [⟨0, 5, 11, 15⟩] htab (fun z hz => absurd hz List.not_mem_nil) (by decide) (by decide) (hts (.classLink RL 13 "java/lang/IllegalArgumentException") (List.mem_of_getElem? (i := 1) rfl)) (va_Nw.use rfl (hX0.1.1 "java/lang/IllegalArgumentException" (by decide))) hcell hcv hcl ?_
  refine W.eq (g2 := F0 m 8 ls [.ref q9]) rfl ?_
  clear hcell
  generalize H1 = H at hP hS ⊢
  refine W.widen (k := 1) (n := 6) (by omega) (by omega) ?_
  refine lv_astore_n (lv' := [(2, .ref q9), (0, .ref o), (1, .int n)]) hx hb dL_close_8 rfl hl (by decide) rfl (fun ls hl => ?_)
  refine lv_iconst (v := 1) hx hb dL_close_9 (by decide) ?_
  refine W.widen (k := 1) (n := 6) (by omega) (by omega) ?_
  exact W.iret (v := 1) hx hb hr (fun t ht hW => ⟨⟨1, (), rfl, rfl, ⟨by rw [ht]; exact hP, by rw [hAe]; exact hD⟩⟩, hS.F ht⟩) hS.2.2 dL_close_10
