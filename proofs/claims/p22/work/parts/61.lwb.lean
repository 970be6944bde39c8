set_option maxHeartbeats 4000000 in
set_option maxRecDepth 100000 in
theorem c_asks_wish_k (l : Launch) (D : va_G) (cA : Nat → ClassId) (sz : Nat) (o F G : Nat) (lo nw se : Int32) (pa : Nat → Nat) (an ln : Nat) (x : Nat → Nat) (y0 : Nat) (n : Int32) (xv : Nat → Int32) (k : Nat) (wi le mo : Int32) (w0 w1 w2 : Nat → Int32) (he : en n F G (x 0) y0) (hk : k < 4) (hsp : sSp le mo) (hwi : wi = -1 ∨ inr wi le mo) (hsh : sSh (xv 0)) : Met l yL_asks wsL_asks ({ frames := 3, cells := 0, slots := 0, locals := 67 }) (va_Pc [.ref o, .int 0, .int n, .int (nI k), .int wi, .int le, .int mo] (zU D cA sz [(o, .inr (4, [.ref F, .ref G, .int lo, .int nw, .int se, .ref (pa 0), .ref an, .ref ln])), cE x xv, (x 1, .inl (cA 0, 4, .inl w0)), (x 2, .inl (cA 0, 4, .inl w1)), (x 3, .inl (cA 0, 4, .inl w2))])) (va_Qi (fun (r : Int32) (_ : Unit) => r = w0 k) (fun (_ : Unit) t => zB D [(o, .inr (4, [.ref F, .ref G, .int lo, .int nw, .int se, .ref (pa 0), .ref an, .ref ln])), cE x xv, (x 1, .inl (cA 0, 4, .inl w0)), (x 2, .inl (cA 0, 4, .inl w1)), (x 3, .inl (cA 0, 4, .inl w2))] sz [(o, .inr (4, [.ref F, .ref G, .int lo, .int nw, .int se, .ref (pa 0), .ref an, .ref ln])), cE x xv, (x 1, .inl (cA 0, 4, .inl (upd w0 k wi))), (x 2, .inl (cA 0, 4, .inl (upd w1 k le))), (x 3, .inl (cA 0, 4, .inl (upd w2 k mo)))] t) (va_A [(o, .inr (4, [.ref F, .ref G, .int lo, .int nw, .int se, .ref (pa 0), .ref an, .ref ln])), cE x xv, (x 1, .inl (cA 0, 4, .inl w0)), (x 2, .inl (cA 0, 4, .inl w1)), (x 3, .inl (cA 0, 4, .inl w2))] sz)) 0 0 (va_A [(o, .inr (4, [.ref F, .ref G, .int lo, .int nw, .int se, .ref (pa 0), .ref an, .ref ln])), cE x xv, (x 1, .inl (cA 0, 4, .inl w0)), (x 2, .inl (cA 0, 4, .inl w1)), (x 3, .inl (cA 0, 4, .inl w2))] sz) := by
  refine z_ofWH (cc := cL_asks) (maxL := 8) (ret := (some .int)) (hh := [(0, 129, 130, 57), (0, 129, 135, 59)]) (by decide) rfl ?_
  intro p e s m args below meth c s₁ B hml htab hv
  obtain ⟨rfl, hsz, hP, hK, hD0⟩ := hv
  have hx := B.exec
  have hb := B.bytes
  have hr := B.returns
  have hts := atoms_spec (ws := wsL_asks) B.pre
  have hown : s.vm.findClass RL = some m.cls := findClass_of_methodNamed B.named
  have hlocks := B.notSynchronized
  subst hsz
  have hD := hD0.self (sz := s.heap.size)
  generalize hAe : va_A [(o, .inr (4, [.ref F, .ref G, .int lo, .int nw, .int se, .ref (pa 0), .ref an, .ref ln])), cE x xv, (x 1, .inl (cA 0, 4, .inl w0)), (x 2, .inl (cA 0, 4, .inl w1)), (x 3, .inl (cA 0, 4, .inl w2))] s.heap.size = A at hD ⊢
  have hA : ∀ q : Nat, s.heap.size ≤ q → A q := fun q h => by rw [← hAe]; exact Or.inr h
  have hS : va_S A s.heap s.heap [] := va_S.rf
  have hl := lv_entry ([.ref o, .int 0, .int n, .int (nI k), .int wi, .int le, .int mo]) (n := 8) (Nat.le_of_ble_eq_true rfl)
  rw [lg_entry_eq]
  generalize (lg_sl ([.ref o, .int 0, .int n, .int (nI k), .int wi, .int le, .int mo]) ++ List.replicate (8 - (lg_sl ([.ref o, .int 0, .int n, .int (nI k), .int wi, .int le, .int mo])).length) Slot.unset).toArray = ls at hl ⊢
  have hl : lv_has ls 8 [(0, .ref o), (1, .int 0), (2, .int n), (3, .int (nI k)), (4, .int wi), (5, .int le), (6, .int mo)] := hl
  refine lv_iload_n hx hb dL_asks_0 rfl (lv_at hl 1 rfl) ?_
  refine lv_if_ne (tgt := 19) hx hb dL_asks_1 (by decide) (fun c_1 => absurd c_1 (by decide)) (fun _ => ?_)
  refine lv_aload_n hx hb dL_asks_4 rfl (lv_at hl 0 rfl) ?_
  refine lv_iload_n hx hb dL_asks_5 rfl (lv_at hl 2 rfl) ?_
  refine lv_iload_n hx hb dL_asks_6 rfl (lv_at hl 3 rfl) ?_
  refine lv_iload hx hb dL_asks_7 (lv_at hl 4 rfl) ?_
  refine lv_iload hx hb dL_asks_9 (lv_at hl 5 rfl) ?_
  refine lv_iload hx hb dL_asks_11 (lv_at hl 6 rfl) ?_
  have hPc := hP.sub (ws' := [(o, .inr (4, [.ref F, .ref G, .int lo, .int nw, .int se, .ref (pa 0), .ref an, .ref ln])), cE x xv, (x 1, .inl (cA 0, 4, .inl w0)), (x 2, .inl (cA 0, 4, .inl w1)), (x 3, .inl (cA 0, 4, .inl w2))]) [0, 1, 2, 3, 4] rfl
  have hDc := hD.sub (ws' := [(o, .inr (4, [.ref F, .ref G, .int lo, .int nw, .int se, .ref (pa 0), .ref an, .ref ln])), cE x xv, (x 1, .inl (cA 0, 4, .inl w0)), (x 2, .inl (cA 0, 4, .inl w1)), (x 3, .inl (cA 0, 4, .inl w2))]) [0, 1, 2, 3, 4] (by decide) rfl
  have hFc := va_free (wc := [(o, .inr (4, [.ref F, .ref G, .int lo, .int nw, .int se, .ref (pa 0), .ref an, .ref ln])), cE x xv, (x 1, .inl (cA 0, 4, .inl w0)), (x 2, .inl (cA 0, 4, .inl w1)), (x 3, .inl (cA 0, 4, .inl w2))]) hD hS hA [0, 1, 2, 3, 4] rfl
  refine va_calli (va_runV (As := [.int n, .int (nI k), .int wi, .int le, .int mo]) (rest := []) ⟨hx, hb, hml, hown, hts⟩ (c_X3_wish_k l D cA s.heap.size o F G lo nw se pa an ln x y0 n xv k wi le mo w0 w1 w2 (by assumption) (by assumption) (by assumption) (by assumption) (by assumption)) (cwV 5 hts gL_asks_X3_wish rfl rfl rfl (by decide +kernel) ⟨Nat.le_of_ble_eq_true rfl, Nat.le_of_ble_eq_true rfl⟩) ⟨zU_blind, va_recv hK hPc (ci := 4) (q0 := 0) rfl rfl, fun U hU hW => ⟨rfl, zU_call hU hPc hW.alike hK hDc⟩⟩ rfl rfl hl.1 rfl (lv_room (Nat.le_of_ble_eq_true rfl)) dL_asks_13 ⟨(Nat.zero_le _), (Nat.zero_le _)⟩) hS (fun q _ h => hFc q h) hFc (fun zr u t H1 locs ht hvm hw hB hz1 hk1 hS => ?_)
  obtain ⟨hP1, hD1⟩ := hB
  rw [ht] at hP1
  obtain ⟨hP, hD⟩ := va_join (wr := []) (w1 := [(o, .inr (4, [.ref F, .ref G, .int lo, .int nw, .int se, .ref (pa 0), .ref an, .ref ln])), cE x xv, (x 1, .inl (cA 0, 4, .inl (upd w0 k wi))), (x 2, .inl (cA 0, 4, .inl (upd w1 k le))), (x 3, .inl (cA 0, 4, .inl (upd w2 k mo)))]) hP hD [0, 1, 2, 3, 4] [] rfl rfl (by decide) (by decide) hk1 hFc hP1 hD1
  generalize H1 = H at hP hS ⊢
  have hP := hP.sub (ws' := [(o, .inr (4, [.ref F, .ref G, .int lo, .int nw, .int se, .ref (pa 0), .ref an, .ref ln])), cE x xv, (x 1, .inl (cA 0, 4, .inl (upd w0 k wi))), (x 2, .inl (cA 0, 4, .inl (upd w1 k le))), (x 3, .inl (cA 0, 4, .inl (upd w2 k mo)))]) [0, 1, 2, 3, 4] rfl
  have hD := hD.sub (ws' := [(o, .inr (4, [.ref F, .ref G, .int lo, .int nw, .int se, .ref (pa 0), .ref an, .ref ln])), cE x xv, (x 1, .inl (cA 0, 4, .inl (upd w0 k wi))), (x 2, .inl (cA 0, 4, .inl (upd w1 k le))), (x 3, .inl (cA 0, 4, .inl (upd w2 k mo)))]) [0, 1, 2, 3, 4] (by decide) rfl
  clear hPc hDc hFc hP1 hD1 hk1 hz1
  have hw_2 := hw
  obtain rfl := hw
  refine lv_goto (tgt := 129) hx hb dL_asks_16 (by decide) ?_
  refine W.widen (k := 0) (n := 0) (by omega) (by omega) ?_
  exact W.iret (v := (w0 k)) hx hb hr (fun t ht hW => ⟨⟨w0 k, (), rfl, rfl, ⟨by rw [ht]; exact hP, by rw [hAe]; exact hD⟩⟩, hS.F ht⟩) hS.2.2 dL_asks_129
set_option maxHeartbeats 4000000 in
set_option maxRecDepth 100000 in
theorem c_asks_wish_s (l : Launch) (D : va_G) (cA : Nat → ClassId) (zv : Nat → Nat) (sz : Nat) (o F G : Nat) (lo nw se : Int32) (pa : Nat → Nat) (an ln : Nat) (x : Nat → Nat) (y0 : Nat) (n : Int32) (xv : Nat → Int32) (k : Nat) (wi le mo : Int32) (hl0 : l.stackTraces = false) (he : en n F G (x 0) y0) (hk : k < 4) (hsp : sSp le mo) (hwi : wi = -1 ∨ inr wi le mo) (hsh : ¬ sSh (xv 0)) : Met l yL_asks wsL_asks ({ frames := 10, cells := 1, slots := 6, locals := 147 }) (va_Pc [.ref o, .int 0, .int n, .int (nI k), .int wi, .int le, .int mo] (zUX D cA zv sz [(o, .inr (4, [.ref F, .ref G, .int lo, .int nw, .int se, .ref (pa 0), .ref an, .ref ln])), cE x xv])) (va_Qi (fun (r : Int32) (_ : Unit) => r = (-8)) (fun (_ : Unit) t => zB D [(o, .inr (4, [.ref F, .ref G, .int lo, .int nw, .int se, .ref (pa 0), .ref an, .ref ln])), cE x xv] sz [(o, .inr (4, [.ref F, .ref G, .int lo, .int nw, .int se, .ref (pa 0), .ref an, .ref ln])), cE x xv] t) (va_A [(o, .inr (4, [.ref F, .ref G, .int lo, .int nw, .int se, .ref (pa 0), .ref an, .ref ln])), cE x xv] sz)) 1 6 (va_A [(o, .inr (4, [.ref F, .ref G, .int lo, .int nw, .int se, .ref (pa 0), .ref an, .ref ln])), cE x xv] sz) := by
  refine z_ofWH (cc := cL_asks) (maxL := 8) (ret := (some .int)) (hh := [(0, 129, 130, 57), (0, 129, 135, 59)]) (by decide) rfl ?_
  intro p e s m args below meth c s₁ B hml htab hv
  obtain ⟨rfl, ⟨hsz, hP, hK, hD0, hE0⟩, hX0⟩ := hv
  have hx := B.exec
  have hb := B.bytes
  have hr := B.returns
  have hts := atoms_spec (ws := wsL_asks) B.pre
  have hown : s.vm.findClass RL = some m.cls := findClass_of_methodNamed B.named
  have hlocks := B.notSynchronized
  subst hsz
  have hD := hD0.self (sz := s.heap.size)
  generalize hAe : va_A [(o, .inr (4, [.ref F, .ref G, .int lo, .int nw, .int se, .ref (pa 0), .ref an, .ref ln])), cE x xv] s.heap.size = A at hD hE0 hX0 ⊢
  have hA : ∀ q : Nat, s.heap.size ≤ q → A q := fun q h => by rw [← hAe]; exact Or.inr h
  have hS : va_S A s.heap s.heap [] := va_S.rf
  have hl := lv_entry ([.ref o, .int 0, .int n, .int (nI k), .int wi, .int le, .int mo]) (n := 8) (Nat.le_of_ble_eq_true rfl)
  rw [lg_entry_eq]
  generalize (lg_sl ([.ref o, .int 0, .int n, .int (nI k), .int wi, .int le, .int mo]) ++ List.replicate (8 - (lg_sl ([.ref o, .int 0, .int n, .int (nI k), .int wi, .int le, .int mo])).length) Slot.unset).toArray = ls at hl ⊢
  have hl : lv_has ls 8 [(0, .ref o), (1, .int 0), (2, .int n), (3, .int (nI k)), (4, .int wi), (5, .int le), (6, .int mo)] := hl
  refine lv_iload_n hx hb dL_asks_0 rfl (lv_at hl 1 rfl) ?_
  refine lv_if_ne (tgt := 19) hx hb dL_asks_1 (by decide) (fun c_1 => absurd c_1 (by decide)) (fun _ => ?_)
  refine lv_aload_n hx hb dL_asks_4 rfl (lv_at hl 0 rfl) ?_
  refine lv_iload_n hx hb dL_asks_5 rfl (lv_at hl 2 rfl) ?_
  refine lv_iload_n hx hb dL_asks_6 rfl (lv_at hl 3 rfl) ?_
  refine lv_iload hx hb dL_asks_7 (lv_at hl 4 rfl) ?_
  refine lv_iload hx hb dL_asks_9 (lv_at hl 5 rfl) ?_
  refine lv_iload hx hb dL_asks_11 (lv_at hl 6 rfl) ?_
  have hPc := hP.sub (ws' := [(o, .inr (4, [.ref F, .ref G, .int lo, .int nw, .int se, .ref (pa 0), .ref an, .ref ln])), cE x xv]) [0, 1] rfl
  have hDc := hD.sub (ws' := [(o, .inr (4, [.ref F, .ref G, .int lo, .int nw, .int se, .ref (pa 0), .ref an, .ref ln])), cE x xv]) [0, 1] (by decide) rfl
  have hFc := va_free (wc := [(o, .inr (4, [.ref F, .ref G, .int lo, .int nw, .int se, .ref (pa 0), .ref an, .ref ln])), cE x xv]) hD hS hA [0, 1] rfl
  refine vx_calli (vx_runV (As := [.int n, .int (nI k), .int wi, .int le, .int mo]) (rest := []) ⟨hx, hb, hml, hown, hts⟩ (c_X3_wish_s l D cA zv s.heap.size hl0 o F G lo nw se pa an ln x y0 n xv k wi le mo (by assumption) (by assumption) (by assumption) (by assumption) (by assumption)) (cwV 5 hts gL_asks_X3_wish rfl rfl rfl (by decide +kernel) ⟨Nat.le_of_ble_eq_true rfl, Nat.le_of_ble_eq_true rfl⟩) ⟨zUX_blind, va_recv hK hPc (ci := 4) (q0 := 0) rfl rfl, fun U hU hW => ⟨rfl, zUX_call hE0 hX0 hS hFc hU hPc hW hK hDc⟩⟩ rfl rfl hl.1 rfl (lv_room (Nat.le_of_ble_eq_true rfl)) dL_asks_13 ⟨Nat.le_of_ble_eq_true rfl, Nat.le_of_ble_eq_true rfl⟩) hS (fun q _ h => hFc q h) hFc (fun q _ h => hFc q h) (fun E9 ce9 q9 u t H1 locs ht hvm hpx hB hz1 hk1 hS hcell hcv hcl => ?_) (fun zr u t H1 locs1 ht hvm hw _ _ _ _ => hw.elim)
  obtain ⟨rfl, hP1, hD1⟩ := hB
  rw [ht] at hP1
  obtain ⟨hP, hD⟩ := va_join (wr := []) (w1 := [(o, .inr (4, [.ref F, .ref G, .int lo, .int nw, .int se, .ref (pa 0), .ref an, .ref ln])), cE x xv]) hP hD [0, 1] [] rfl rfl (by decide) (by decide) hk1 hFc hP1 hD1
  have hP := hP.sub (ws' := [(o, .inr (4, [.ref F, .ref G, .int lo, .int nw, .int se, .ref (pa 0), .ref an, .ref ln])), cE x xv]) [0, 1] rfl
  have hD := hD.sub (ws' := [(o, .inr (4, [.ref F, .ref G, .int lo, .int nw, .int se, .ref (pa 0), .ref an, .ref ln])), cE x xv]) [0, 1] (by decide) rfl
  refine vx_catch hown [] ⟨0, 129, 130, 57⟩ [⟨0, 129, 135, 59⟩] htab (fun z hz => absurd hz List.not_mem_nil) (by decide) (by decide) (hts (.classLink RL 57 "java/lang/IllegalStateException") (List.mem_of_getElem? (i := 1) rfl)) (va_Nw.use rfl (hX0.1.1 "java/lang/IllegalStateException" (by decide))) hcell hcv hcl ?_
  refine W.eq (g2 := F0 m 130 ls [.ref q9]) rfl ?_
  clear hcell
  generalize H1 = H at hP hS ⊢
  refine W.widen (k := 1) (n := 6) (by omega) (by omega) ?_
  refine lv_astore (lv' := [(7, .ref q9), (0, .ref o), (1, .int 0), (2, .int n), (3, .int (nI k)), (4, .int wi), (5, .int le), (6, .int mo)]) hx hb dL_asks_130 hl (by decide) rfl (fun ls hl => ?_)
  refine lv_bipush (v := (-8)) hx hb dL_asks_132 (by decide) ?_
  refine W.widen (k := 1) (n := 6) (by omega) (by omega) ?_
  exact W.iret (v := (-8)) hx hb hr (fun t ht hW => ⟨⟨(-8), (), rfl, rfl, ⟨by rw [ht]; exact hP, by rw [hAe]; exact hD⟩⟩, hS.F ht⟩) hS.2.2 dL_asks_134
set_option maxHeartbeats 4000000 in
set_option maxRecDepth 100000 in
theorem c_asks_allow_k (l : Launch) (D : va_G) (cA : Nat → ClassId) (sz : Nat) (o F G : Nat) (lo nw se : Int32) (pa : Nat → Nat) (an ln : Nat) (x : Nat → Nat) (y0 : Nat) (n : Int32) (xv : Nat → Int32) (k : Nat) (le mo : Int32) (w3 w4 : Nat → Int32) (z1 : Int32) (he : en n F G (x 0) y0) (hk : k < 4) (hsp : sSp le mo) (hsh : sSh (xv 0)) : Met l yL_asks wsL_asks ({ frames := 4, cells := 0, slots := 0, locals := 89 }) (va_Pc [.ref o, .int 1, .int n, .int (nI k), .int z1, .int le, .int mo] (zU D cA sz [(o, .inr (4, [.ref F, .ref G, .int lo, .int nw, .int se, .ref (pa 0), .ref an, .ref ln])), cE x xv, (x 4, .inl (cA 0, 4, .inl w3)), (x 5, .inl (cA 0, 4, .inl w4))])) (va_Qi (fun (r : Int32) (_ : Unit) => r = 0) (fun (_ : Unit) t => zB D [(o, .inr (4, [.ref F, .ref G, .int lo, .int nw, .int se, .ref (pa 0), .ref an, .ref ln])), cE x xv, (x 4, .inl (cA 0, 4, .inl w3)), (x 5, .inl (cA 0, 4, .inl w4))] sz [(o, .inr (4, [.ref F, .ref G, .int lo, .int nw, .int se, .ref (pa 0), .ref an, .ref ln])), cE x xv, (x 4, .inl (cA 0, 4, .inl (upd w3 k le))), (x 5, .inl (cA 0, 4, .inl (upd w4 k mo)))] t) (va_A [(o, .inr (4, [.ref F, .ref G, .int lo, .int nw, .int se, .ref (pa 0), .ref an, .ref ln])), cE x xv, (x 4, .inl (cA 0, 4, .inl w3)), (x 5, .inl (cA 0, 4, .inl w4))] sz)) 0 0 (va_A [(o, .inr (4, [.ref F, .ref G, .int lo, .int nw, .int se, .ref (pa 0), .ref an, .ref ln])), cE x xv, (x 4, .inl (cA 0, 4, .inl w3)), (x 5, .inl (cA 0, 4, .inl w4))] sz) := by
  refine z_ofWH (cc := cL_asks) (maxL := 8) (ret := (some .int)) (hh := [(0, 129, 130, 57), (0, 129, 135, 59)]) (by decide) rfl ?_
  intro p e s m args below meth c s₁ B hml htab hv
  obtain ⟨rfl, hsz, hP, hK, hD0⟩ := hv
  have hx := B.exec
  have hb := B.bytes
  have hr := B.returns
  have hts := atoms_spec (ws := wsL_asks) B.pre
  have hown : s.vm.findClass RL = some m.cls := findClass_of_methodNamed B.named
  have hlocks := B.notSynchronized
  subst hsz
  have hD := hD0.self (sz := s.heap.size)
  generalize hAe : va_A [(o, .inr (4, [.ref F, .ref G, .int lo, .int nw, .int se, .ref (pa 0), .ref an, .ref ln])), cE x xv, (x 4, .inl (cA 0, 4, .inl w3)), (x 5, .inl (cA 0, 4, .inl w4))] s.heap.size = A at hD ⊢
  have hA : ∀ q : Nat, s.heap.size ≤ q → A q := fun q h => by rw [← hAe]; exact Or.inr h
  have hS : va_S A s.heap s.heap [] := va_S.rf
  have hl := lv_entry ([.ref o, .int 1, .int n, .int (nI k), .int z1, .int le, .int mo]) (n := 8) (Nat.le_of_ble_eq_true rfl)
  rw [lg_entry_eq]
  generalize (lg_sl ([.ref o, .int 1, .int n, .int (nI k), .int z1, .int le, .int mo]) ++ List.replicate (8 - (lg_sl ([.ref o, .int 1, .int n, .int (nI k), .int z1, .int le, .int mo])).length) Slot.unset).toArray = ls at hl ⊢
  have hl : lv_has ls 8 [(0, .ref o), (1, .int 1), (2, .int n), (3, .int (nI k)), (4, .int z1), (5, .int le), (6, .int mo)] := hl
  refine lv_iload_n hx hb dL_asks_0 rfl (lv_at hl 1 rfl) ?_
  refine lv_if_ne (tgt := 19) hx hb dL_asks_1 (by decide) (fun _ => ?_) (fun c_1 => absurd c_1 (by decide))
  refine lv_iload_n hx hb dL_asks_19 rfl (lv_at hl 1 rfl) ?_
  refine lv_iconst (v := 1) hx hb dL_asks_20 (by decide) ?_
  refine lv_icmp_ne (tgt := 37) hx hb dL_asks_21 (by decide) (fun c_2 => absurd c_2 (by decide)) (fun _ => ?_)
  refine lv_aload_n hx hb dL_asks_24 rfl (lv_at hl 0 rfl) ?_
  refine lv_iload_n hx hb dL_asks_25 rfl (lv_at hl 2 rfl) ?_
  refine lv_iload_n hx hb dL_asks_26 rfl (lv_at hl 3 rfl) ?_
  refine lv_iload hx hb dL_asks_27 (lv_at hl 5 rfl) ?_
  refine lv_iload hx hb dL_asks_29 (lv_at hl 6 rfl) ?_
  have hPc := hP.sub (ws' := [(o, .inr (4, [.ref F, .ref G, .int lo, .int nw, .int se, .ref (pa 0), .ref an, .ref ln])), cE x xv, (x 4, .inl (cA 0, 4, .inl w3)), (x 5, .inl (cA 0, 4, .inl w4))]) [0, 1, 2, 3] rfl
  have hDc := hD.sub (ws' := [(o, .inr (4, [.ref F, .ref G, .int lo, .int nw, .int se, .ref (pa 0), .ref an, .ref ln])), cE x xv, (x 4, .inl (cA 0, 4, .inl w3)), (x 5, .inl (cA 0, 4, .inl w4))]) [0, 1, 2, 3] (by decide) rfl
  have hFc := va_free (wc := [(o, .inr (4, [.ref F, .ref G, .int lo, .int nw, .int se, .ref (pa 0), .ref an, .ref ln])), cE x xv, (x 4, .inl (cA 0, 4, .inl w3)), (x 5, .inl (cA 0, 4, .inl w4))]) hD hS hA [0, 1, 2, 3] rfl
  refine va_calli (va_runS (As := [.ref o, .int n, .int (nI k), .int le, .int mo]) (rest := []) ⟨hx, hb, hml, hown, hts⟩ (c_L_allows_k l D cA s.heap.size o F G lo nw se pa an ln x y0 n xv k le mo w3 w4 (by assumption) (by assumption) (by assumption) (by assumption)) (va_cwS 5 hts gL_asks_L_allows rfl rfl rfl (by decide +kernel) ⟨Nat.le_of_ble_eq_true rfl, Nat.le_of_ble_eq_true rfl⟩) ⟨zU_blind, fun U hU hW => ⟨rfl, zU_call hU hPc hW.alike hK hDc⟩⟩ rfl rfl hl.1 rfl (lv_room (Nat.le_of_ble_eq_true rfl)) dL_asks_31 ⟨(Nat.zero_le _), (Nat.zero_le _)⟩) hS (fun q _ h => hFc q h) hFc (fun zr u t H1 locs ht hvm hw hB hz1 hk1 hS => ?_)
  obtain ⟨hP1, hD1⟩ := hB
  rw [ht] at hP1
  obtain ⟨hP, hD⟩ := va_join (wr := []) (w1 := [(o, .inr (4, [.ref F, .ref G, .int lo, .int nw, .int se, .ref (pa 0), .ref an, .ref ln])), cE x xv, (x 4, .inl (cA 0, 4, .inl (upd w3 k le))), (x 5, .inl (cA 0, 4, .inl (upd w4 k mo)))]) hP hD [0, 1, 2, 3] [] rfl rfl (by decide) (by decide) hk1 hFc hP1 hD1
  generalize H1 = H at hP hS ⊢
  have hP := hP.sub (ws' := [(o, .inr (4, [.ref F, .ref G, .int lo, .int nw, .int se, .ref (pa 0), .ref an, .ref ln])), cE x xv, (x 4, .inl (cA 0, 4, .inl (upd w3 k le))), (x 5, .inl (cA 0, 4, .inl (upd w4 k mo)))]) [0, 1, 2, 3] rfl
  have hD := hD.sub (ws' := [(o, .inr (4, [.ref F, .ref G, .int lo, .int nw, .int se, .ref (pa 0), .ref an, .ref ln])), cE x xv, (x 4, .inl (cA 0, 4, .inl (upd w3 k le))), (x 5, .inl (cA 0, 4, .inl (upd w4 k mo)))]) [0, 1, 2, 3] (by decide) rfl
  clear hPc hDc hFc hP1 hD1 hk1 hz1
  have hw_3 := hw
  obtain rfl := hw
  refine lv_goto (tgt := 129) hx hb dL_asks_34 (by decide) ?_
  refine W.widen (k := 0) (n := 0) (by omega) (by omega) ?_
  exact W.iret (v := 0) hx hb hr (fun t ht hW => ⟨⟨0, (), rfl, rfl, ⟨by rw [ht]; exact hP, by rw [hAe]; exact hD⟩⟩, hS.F ht⟩) hS.2.2 dL_asks_129
set_option maxHeartbeats 4000000 in
set_option maxRecDepth 100000 in
theorem c_asks_allow_s (l : Launch) (D : va_G) (cA : Nat → ClassId) (zv : Nat → Nat) (sz : Nat) (o F G : Nat) (lo nw se : Int32) (pa : Nat → Nat) (an ln : Nat) (x : Nat → Nat) (y0 : Nat) (n : Int32) (xv : Nat → Int32) (k : Nat) (le mo : Int32) (z1 : Int32) (hl0 : l.stackTraces = false) (he : en n F G (x 0) y0) (hk : k < 4) (hsp : sSp le mo) (hsh : ¬ sSh (xv 0)) : Met l yL_asks wsL_asks ({ frames := 11, cells := 1, slots := 6, locals := 169 }) (va_Pc [.ref o, .int 1, .int n, .int (nI k), .int z1, .int le, .int mo] (zUX D cA zv sz [(o, .inr (4, [.ref F, .ref G, .int lo, .int nw, .int se, .ref (pa 0), .ref an, .ref ln])), cE x xv])) (va_Qi (fun (r : Int32) (_ : Unit) => r = (-8)) (fun (_ : Unit) t => zB D [(o, .inr (4, [.ref F, .ref G, .int lo, .int nw, .int se, .ref (pa 0), .ref an, .ref ln])), cE x xv] sz [(o, .inr (4, [.ref F, .ref G, .int lo, .int nw, .int se, .ref (pa 0), .ref an, .ref ln])), cE x xv] t) (va_A [(o, .inr (4, [.ref F, .ref G, .int lo, .int nw, .int se, .ref (pa 0), .ref an, .ref ln])), cE x xv] sz)) 1 6 (va_A [(o, .inr (4, [.ref F, .ref G, .int lo, .int nw, .int se, .ref (pa 0), .ref an, .ref ln])), cE x xv] sz) := by
  refine z_ofWH (cc := cL_asks) (maxL := 8) (ret := (some .int)) (hh := [(0, 129, 130, 57), (0, 129, 135, 59)]) (by decide) rfl ?_
  intro p e s m args below meth c s₁ B hml htab hv
  obtain ⟨rfl, ⟨hsz, hP, hK, hD0, hE0⟩, hX0⟩ := hv
  have hx := B.exec
  have hb := B.bytes
  have hr := B.returns
  have hts := atoms_spec (ws := wsL_asks) B.pre
  have hown : s.vm.findClass RL = some m.cls := findClass_of_methodNamed B.named
  have hlocks := B.notSynchronized
  subst hsz
  have hD := hD0.self (sz := s.heap.size)
  generalize hAe : va_A [(o, .inr (4, [.ref F, .ref G, .int lo, .int nw, .int se, .ref (pa 0), .ref an, .ref ln])), cE x xv] s.heap.size = A at hD hE0 hX0 ⊢
  have hA : ∀ q : Nat, s.heap.size ≤ q → A q := fun q h => by rw [← hAe]; exact Or.inr h
  have hS : va_S A s.heap s.heap [] := va_S.rf
  have hl := lv_entry ([.ref o, .int 1, .int n, .int (nI k), .int z1, .int le, .int mo]) (n := 8) (Nat.le_of_ble_eq_true rfl)
  rw [lg_entry_eq]
  generalize (lg_sl ([.ref o, .int 1, .int n, .int (nI k), .int z1, .int le, .int mo]) ++ List.replicate (8 - (lg_sl ([.ref o, .int 1, .int n, .int (nI k), .int z1, .int le, .int mo])).length) Slot.unset).toArray = ls at hl ⊢
  have hl : lv_has ls 8 [(0, .ref o), (1, .int 1), (2, .int n), (3, .int (nI k)), (4, .int z1), (5, .int le), (6, .int mo)] := hl
  refine lv_iload_n hx hb dL_asks_0 rfl (lv_at hl 1 rfl) ?_
  refine lv_if_ne (tgt := 19) hx hb dL_asks_1 (by decide) (fun _ => ?_) (fun c_1 => absurd c_1 (by decide))
  refine lv_iload_n hx hb dL_asks_19 rfl (lv_at hl 1 rfl) ?_
  refine lv_iconst (v := 1) hx hb dL_asks_20 (by decide) ?_
  refine lv_icmp_ne (tgt := 37) hx hb dL_asks_21 (by decide) (fun c_2 => absurd c_2 (by decide)) (fun _ => ?_)
  refine lv_aload_n hx hb dL_asks_24 rfl (lv_at hl 0 rfl) ?_
  refine lv_iload_n hx hb dL_asks_25 rfl (lv_at hl 2 rfl) ?_
  refine lv_iload_n hx hb dL_asks_26 rfl (lv_at hl 3 rfl) ?_
  refine lv_iload hx hb dL_asks_27 (lv_at hl 5 rfl) ?_
  refine lv_iload hx hb dL_asks_29 (lv_at hl 6 rfl) ?_
  have hPc := hP.sub (ws' := [(o, .inr (4, [.ref F, .ref G, .int lo, .int nw, .int se, .ref (pa 0), .ref an, .ref ln])), cE x xv]) [0, 1] rfl
  have hDc := hD.sub (ws' := [(o, .inr (4, [.ref F, .ref G, .int lo, .int nw, .int se, .ref (pa 0), .ref an, .ref ln])), cE x xv]) [0, 1] (by decide) rfl
  have hFc := va_free (wc := [(o, .inr (4, [.ref F, .ref G, .int lo, .int nw, .int se, .ref (pa 0), .ref an, .ref ln])), cE x xv]) hD hS hA [0, 1] rfl
  refine vx_calli (vx_runS (As := [.ref o, .int n, .int (nI k), .int le, .int mo]) (rest := []) ⟨hx, hb, hml, hown, hts⟩ (c_L_allows_s l D cA zv s.heap.size hl0 o F G lo nw se pa an ln x y0 n xv k le mo (by assumption) (by assumption) (by assumption) (by assumption)) (va_cwS 5 hts gL_asks_L_allows rfl rfl rfl (by decide +kernel) ⟨Nat.le_of_ble_eq_true rfl, Nat.le_of_ble_eq_true rfl⟩) ⟨zUX_blind, fun U hU hW => ⟨rfl, zUX_call hE0 hX0 hS hFc hU hPc hW hK hDc⟩⟩ rfl rfl hl.1 rfl (lv_room (Nat.le_of_ble_eq_true rfl)) dL_asks_31 ⟨Nat.le_of_ble_eq_true rfl, Nat.le_of_ble_eq_true rfl⟩) hS (fun q _ h => hFc q h) hFc (fun q _ h => hFc q h) (fun E9 ce9 q9 u t H1 locs ht hvm hpx hB hz1 hk1 hS hcell hcv hcl => ?_) (fun zr u t H1 locs1 ht hvm hw _ _ _ _ => hw.elim)
  obtain ⟨rfl, hP1, hD1⟩ := hB
  rw [ht] at hP1
  obtain ⟨hP, hD⟩ := va_join (wr := []) (w1 := [(o, .inr (4, [.ref F, .ref G, .int lo, .int nw, .int se, .ref (pa 0), .ref an, .ref ln])), cE x xv]) hP hD [0, 1] [] rfl rfl (by decide) (by decide) hk1 hFc hP1 hD1
  have hP := hP.sub (ws' := [(o, .inr (4, [.ref F, .ref G, .int lo, .int nw, .int se, .ref (pa 0), .ref an, .ref ln])), cE x xv]) [0, 1] rfl
  have hD := hD.sub (ws' := [(o, .inr (4, [.ref F, .ref G, .int lo, .int nw, .int se, .ref (pa 0), .ref an, .ref ln])), cE x xv]) [0, 1] (by decide) rfl
  refine vx_catch hown [] ⟨0, 129, 130, 57⟩ [⟨0, 129, 135, 59⟩] htab (fun z hz => absurd hz List.not_mem_nil) (by decide) (by decide) (hts (.classLink RL 57 "java/lang/IllegalStateException") (List.mem_of_getElem? (i := 1) rfl)) (va_Nw.use rfl (hX0.1.1 "java/lang/IllegalStateException" (by decide))) hcell hcv hcl ?_
  refine W.eq (g2 := F0 m 130 ls [.ref q9]) rfl ?_
  clear hcell
  generalize H1 = H at hP hS ⊢
  refine W.widen (k := 1) (n := 6) (by omega) (by omega) ?_
  refine lv_astore (lv' := [(7, .ref q9), (0, .ref o), (1, .int 1), (2, .int n), (3, .int (nI k)), (4, .int z1), (5, .int le), (6, .int mo)]) hx hb dL_asks_130 hl (by decide) rfl (fun ls hl => ?_)
  refine lv_bipush (v := (-8)) hx hb dL_asks_132 (by decide) ?_
  refine W.widen (k := 1) (n := 6) (by omega) (by omega) ?_
  exact W.iret (v := (-8)) hx hb hr (fun t ht hW => ⟨⟨(-8), (), rfl, rfl, ⟨by rw [ht]; exact hP, by rw [hAe]; exact hD⟩⟩, hS.F ht⟩) hS.2.2 dL_asks_134
set_option maxHeartbeats 4000000 in
set_option maxRecDepth 100000 in
theorem c_asks_refuse_k (l : Launch) (D : va_G) (cA : Nat → ClassId) (sz : Nat) (o F G : Nat) (lo nw se : Int32) (pa : Nat → Nat) (an ln : Nat) (x : Nat → Nat) (y0 : Nat) (n : Int32) (xv : Nat → Int32) (k ez : Nat) (w5 : Nat → Int32) (z2 z3 : Int32) (he : en n F G (x 0) y0) (hk : k < 4) (hez : ez ≤ 1) (hw5 : w5 k = 0 ∨ w5 k = 1) (hsh : sSh (xv 0)) : Met l yL_asks wsL_asks ({ frames := 3, cells := 0, slots := 0, locals := 65 }) (va_Pc [.ref o, .int 2, .int n, .int (nI k), .int (nI ez), .int z2, .int z3] (zU D cA sz [(o, .inr (4, [.ref F, .ref G, .int lo, .int nw, .int se, .ref (pa 0), .ref an, .ref ln])), cE x xv, (x 6, .inl (cA 1, 4, .inl w5))])) (va_Qi (fun (r : Int32) (u : (Nat → Int32)) => u = upd w5 k (nI ez) ∧ r = w5 k) (fun (u : (Nat → Int32)) t => zB D [(o, .inr (4, [.ref F, .ref G, .int lo, .int nw, .int se, .ref (pa 0), .ref an, .ref ln])), cE x xv, (x 6, .inl (cA 1, 4, .inl w5))] sz [(o, .inr (4, [.ref F, .ref G, .int lo, .int nw, .int se, .ref (pa 0), .ref an, .ref ln])), cE x xv, (x 6, .inl (cA 1, 4, .inl u))] t) (va_A [(o, .inr (4, [.ref F, .ref G, .int lo, .int nw, .int se, .ref (pa 0), .ref an, .ref ln])), cE x xv, (x 6, .inl (cA 1, 4, .inl w5))] sz)) 0 0 (va_A [(o, .inr (4, [.ref F, .ref G, .int lo, .int nw, .int se, .ref (pa 0), .ref an, .ref ln])), cE x xv, (x 6, .inl (cA 1, 4, .inl w5))] sz) := by
  refine z_ofWH (cc := cL_asks) (maxL := 8) (ret := (some .int)) (hh := [(0, 129, 130, 57), (0, 129, 135, 59)]) (by decide) rfl ?_
  intro p e s m args below meth c s₁ B hml htab hv
  obtain ⟨rfl, hsz, hP, hK, hD0⟩ := hv
  have hx := B.exec
  have hb := B.bytes
  have hr := B.returns
  have hts := atoms_spec (ws := wsL_asks) B.pre
  have hown : s.vm.findClass RL = some m.cls := findClass_of_methodNamed B.named
  have hlocks := B.notSynchronized
  subst hsz
  have hD := hD0.self (sz := s.heap.size)
  generalize hAe : va_A [(o, .inr (4, [.ref F, .ref G, .int lo, .int nw, .int se, .ref (pa 0), .ref an, .ref ln])), cE x xv, (x 6, .inl (cA 1, 4, .inl w5))] s.heap.size = A at hD ⊢
  have hA : ∀ q : Nat, s.heap.size ≤ q → A q := fun q h => by rw [← hAe]; exact Or.inr h
  have hS : va_S A s.heap s.heap [] := va_S.rf
  have hl := lv_entry ([.ref o, .int 2, .int n, .int (nI k), .int (nI ez), .int z2, .int z3]) (n := 8) (Nat.le_of_ble_eq_true rfl)
  rw [lg_entry_eq]
  generalize (lg_sl ([.ref o, .int 2, .int n, .int (nI k), .int (nI ez), .int z2, .int z3]) ++ List.replicate (8 - (lg_sl ([.ref o, .int 2, .int n, .int (nI k), .int (nI ez), .int z2, .int z3])).length) Slot.unset).toArray = ls at hl ⊢
  have hl : lv_has ls 8 [(0, .ref o), (1, .int 2), (2, .int n), (3, .int (nI k)), (4, .int (nI ez)), (5, .int z2), (6, .int z3)] := hl
  refine lv_iload_n hx hb dL_asks_0 rfl (lv_at hl 1 rfl) ?_
  refine lv_if_ne (tgt := 19) hx hb dL_asks_1 (by decide) (fun _ => ?_) (fun c_1 => absurd c_1 (by decide))
  refine lv_iload_n hx hb dL_asks_19 rfl (lv_at hl 1 rfl) ?_
  refine lv_iconst (v := 1) hx hb dL_asks_20 (by decide) ?_
  refine lv_icmp_ne (tgt := 37) hx hb dL_asks_21 (by decide) (fun _ => ?_) (fun c_2 => absurd c_2 (by decide))
  refine lv_iload_n hx hb dL_asks_37 rfl (lv_at hl 1 rfl) ?_
  refine lv_iconst (v := 2) hx hb dL_asks_38 (by decide) ?_
  refine lv_icmp_ne (tgt := 69) hx hb dL_asks_39 (by decide) (fun c_3 => absurd c_3 (by decide)) (fun _ => ?_)
  refine lv_aload_n hx hb dL_asks_42 rfl (lv_at hl 0 rfl) ?_
  refine lv_iload_n hx hb dL_asks_43 rfl (lv_at hl 2 rfl) ?_
  refine lv_iload_n hx hb dL_asks_44 rfl (lv_at hl 3 rfl) ?_
  refine lv_iload hx hb dL_asks_45 (lv_at hl 4 rfl) ?_
  refine lv_if_le (tgt := 54) hx hb dL_asks_47 (by decide) (fun c_4 => ?_) (fun c_4 => ?_)
  · have c_4 := (nI_leI (a := ez) (b := 0) (by omega) (by omega)).mp c_4
    refine lv_iconst (v := 0) hx hb dL_asks_54 (by decide) ?_
    have hPc := hP.sub (ws' := [(o, .inr (4, [.ref F, .ref G, .int lo, .int nw, .int se, .ref (pa 0), .ref an, .ref ln])), cE x xv, (x 6, .inl (cA 1, 4, .inl w5))]) [0, 1, 2] rfl
    have hDc := hD.sub (ws' := [(o, .inr (4, [.ref F, .ref G, .int lo, .int nw, .int se, .ref (pa 0), .ref an, .ref ln])), cE x xv, (x 6, .inl (cA 1, 4, .inl w5))]) [0, 1, 2] (by decide) rfl
    have hFc := va_free (wc := [(o, .inr (4, [.ref F, .ref G, .int lo, .int nw, .int se, .ref (pa 0), .ref an, .ref ln])), cE x xv, (x 6, .inl (cA 1, 4, .inl w5))]) hD hS hA [0, 1, 2] rfl
    refine va_calli (va_runV (As := [.int n, .int (nI k), .int 0]) (rest := []) ⟨hx, hb, hml, hown, hts⟩ (c_X3_refuse_k l D cA s.heap.size o F G lo nw se pa an ln x y0 n xv k 0 w5 (by assumption) (by assumption) (by decide) (by assumption) (by assumption)) (cwV 3 hts gL_asks_X3_refuse rfl rfl rfl (by decide +kernel) ⟨Nat.le_of_ble_eq_true rfl, Nat.le_of_ble_eq_true rfl⟩) ⟨zU_blind, va_recv hK hPc (ci := 4) (q0 := 0) rfl rfl, fun U hU hW => ⟨rfl, zU_call hU hPc hW.alike hK hDc⟩⟩ rfl rfl hl.1 rfl (lv_room (Nat.le_of_ble_eq_true rfl)) dL_asks_55 ⟨(Nat.zero_le _), (Nat.zero_le _)⟩) hS (fun q _ h => hFc q h) hFc (fun zr u t H1 locs ht hvm hw hB hz1 hk1 hS => ?_)
    obtain ⟨hP1, hD1⟩ := hB
    rw [ht] at hP1
    obtain ⟨hP, hD⟩ := va_join (wr := []) (w1 := [(o, .inr (4, [.ref F, .ref G, .int lo, .int nw, .int se, .ref (pa 0), .ref an, .ref ln])), cE x xv, (x 6, .inl (cA 1, 4, .inl (upd w5 k 0)))]) hP hD [0, 1, 2] [] rfl rfl (by decide) (by decide) hk1 hFc hP1 hD1
    generalize H1 = H at hP hS ⊢
    have hP := hP.sub (ws' := [(o, .inr (4, [.ref F, .ref G, .int lo, .int nw, .int se, .ref (pa 0), .ref an, .ref ln])), cE x xv, (x 6, .inl (cA 1, 4, .inl (upd w5 k 0)))]) [0, 1, 2] rfl
    have hD := hD.sub (ws' := [(o, .inr (4, [.ref F, .ref G, .int lo, .int nw, .int se, .ref (pa 0), .ref an, .ref ln])), cE x xv, (x 6, .inl (cA 1, 4, .inl (upd w5 k 0)))]) [0, 1, 2] (by decide) rfl
    clear hPc hDc hFc hP1 hD1 hk1 hz1
    have hw_5 := hw
    obtain rfl := hw
    refine lv_if_eq (tgt := 65) hx hb dL_asks_58 (by decide) (fun c_6 => ?_) (fun c_6 => ?_)
    · skip
      refine lv_iconst (v := 0) hx hb dL_asks_65 (by decide) ?_
      refine lv_goto (tgt := 129) hx hb dL_asks_66 (by decide) ?_
      refine W.widen (k := 0) (n := 0) (by omega) (by omega) ?_
      exact W.iret (v := 0) hx hb hr (fun t ht hW => ⟨⟨0, (upd w5 k 0), rfl, ⟨(by rw [show ez = 0 by omega]; rfl), c_6.symm⟩, ⟨by rw [ht]; exact hP, by rw [hAe]; exact hD⟩⟩, hS.F ht⟩) hS.2.2 dL_asks_129
    · skip
      refine lv_iconst (v := 1) hx hb dL_asks_61 (by decide) ?_
      refine lv_goto (tgt := 129) hx hb dL_asks_62 (by decide) ?_
      refine W.widen (k := 0) (n := 0) (by omega) (by omega) ?_
      exact W.iret (v := 1) hx hb hr (fun t ht hW => ⟨⟨1, (upd w5 k 0), rfl, ⟨(by rw [show ez = 0 by omega]; rfl), (hw5.resolve_left c_6).symm⟩, ⟨by rw [ht]; exact hP, by rw [hAe]; exact hD⟩⟩, hS.F ht⟩) hS.2.2 dL_asks_129
  · have c_4 := mt (nI_leI (a := ez) (b := 0) (by omega) (by omega)).mpr c_4
    refine lv_iconst (v := 1) hx hb dL_asks_50 (by decide) ?_
    refine lv_goto (tgt := 55) hx hb dL_asks_51 (by decide) ?_
    have hPc := hP.sub (ws' := [(o, .inr (4, [.ref F, .ref G, .int lo, .int nw, .int se, .ref (pa 0), .ref an, .ref ln])), cE x xv, (x 6, .inl (cA 1, 4, .inl w5))]) [0, 1, 2] rfl
    have hDc := hD.sub (ws' := [(o, .inr (4, [.ref F, .ref G, .int lo, .int nw, .int se, .ref (pa 0), .ref an, .ref ln])), cE x xv, (x 6, .inl (cA 1, 4, .inl w5))]) [0, 1, 2] (by decide) rfl
    have hFc := va_free (wc := [(o, .inr (4, [.ref F, .ref G, .int lo, .int nw, .int se, .ref (pa 0), .ref an, .ref ln])), cE x xv, (x 6, .inl (cA 1, 4, .inl w5))]) hD hS hA [0, 1, 2] rfl
    refine va_calli (va_runV (As := [.int n, .int (nI k), .int 1]) (rest := []) ⟨hx, hb, hml, hown, hts⟩ (c_X3_refuse_k l D cA s.heap.size o F G lo nw se pa an ln x y0 n xv k 1 w5 (by assumption) (by assumption) (by decide) (by assumption) (by assumption)) (cwV 3 hts gL_asks_X3_refuse rfl rfl rfl (by decide +kernel) ⟨Nat.le_of_ble_eq_true rfl, Nat.le_of_ble_eq_true rfl⟩) ⟨zU_blind, va_recv hK hPc (ci := 4) (q0 := 0) rfl rfl, fun U hU hW => ⟨rfl, zU_call hU hPc hW.alike hK hDc⟩⟩ rfl rfl hl.1 rfl (lv_room (Nat.le_of_ble_eq_true rfl)) dL_asks_55 ⟨(Nat.zero_le _), (Nat.zero_le _)⟩) hS (fun q _ h => hFc q h) hFc (fun zr u t H1 locs ht hvm hw hB hz1 hk1 hS => ?_)
    obtain ⟨hP1, hD1⟩ := hB
    rw [ht] at hP1
    obtain ⟨hP, hD⟩ := va_join (wr := []) (w1 := [(o, .inr (4, [.ref F, .ref G, .int lo, .int nw, .int se, .ref (pa 0), .ref an, .ref ln])), cE x xv, (x 6, .inl (cA 1, 4, .inl (upd w5 k 1)))]) hP hD [0, 1, 2] [] rfl rfl (by decide) (by decide) hk1 hFc hP1 hD1
    generalize H1 = H at hP hS ⊢
    have hP := hP.sub (ws' := [(o, .inr (4, [.ref F, .ref G, .int lo, .int nw, .int se, .ref (pa 0), .ref an, .ref ln])), cE x xv, (x 6, .inl (cA 1, 4, .inl (upd w5 k 1)))]) [0, 1, 2] rfl
    have hD := hD.sub (ws' := [(o, .inr (4, [.ref F, .ref G, .int lo, .int nw, .int se, .ref (pa 0), .ref an, .ref ln])), cE x xv, (x 6, .inl (cA 1, 4, .inl (upd w5 k 1)))]) [0, 1, 2] (by decide) rfl
    clear hPc hDc hFc hP1 hD1 hk1 hz1
    have hw_7 := hw
    obtain rfl := hw
    refine lv_if_eq (tgt := 65) hx hb dL_asks_58 (by decide) (fun c_8 => ?_) (fun c_8 => ?_)
    · skip
      refine lv_iconst (v := 0) hx hb dL_asks_65 (by decide) ?_
      refine lv_goto (tgt := 129) hx hb dL_asks_66 (by decide) ?_
      refine W.widen (k := 0) (n := 0) (by omega) (by omega) ?_
      exact W.iret (v := 0) hx hb hr (fun t ht hW => ⟨⟨0, (upd w5 k 1), rfl, ⟨(by rw [show ez = 1 by omega]; rfl), c_8.symm⟩, ⟨by rw [ht]; exact hP, by rw [hAe]; exact hD⟩⟩, hS.F ht⟩) hS.2.2 dL_asks_129
    · skip
      refine lv_iconst (v := 1) hx hb dL_asks_61 (by decide) ?_
      refine lv_goto (tgt := 129) hx hb dL_asks_62 (by decide) ?_
      refine W.widen (k := 0) (n := 0) (by omega) (by omega) ?_
      exact W.iret (v := 1) hx hb hr (fun t ht hW => ⟨⟨1, (upd w5 k 1), rfl, ⟨(by rw [show ez = 1 by omega]; rfl), (hw5.resolve_left c_8).symm⟩, ⟨by rw [ht]; exact hP, by rw [hAe]; exact hD⟩⟩, hS.F ht⟩) hS.2.2 dL_asks_129
set_option maxHeartbeats 4000000 in
set_option maxRecDepth 100000 in
theorem c_asks_refuse_s (l : Launch) (D : va_G) (cA : Nat → ClassId) (zv : Nat → Nat) (sz : Nat) (o F G : Nat) (lo nw se : Int32) (pa : Nat → Nat) (an ln : Nat) (x : Nat → Nat) (y0 : Nat) (n : Int32) (xv : Nat → Int32) (k ez : Nat) (z2 z3 : Int32) (hl0 : l.stackTraces = false) (he : en n F G (x 0) y0) (hk : k < 4) (hsh : ¬ sSh (xv 0)) (hez : ez ≤ 1) : Met l yL_asks wsL_asks ({ frames := 10, cells := 1, slots := 6, locals := 145 }) (va_Pc [.ref o, .int 2, .int n, .int (nI k), .int (nI ez), .int z2, .int z3] (zUX D cA zv sz [(o, .inr (4, [.ref F, .ref G, .int lo, .int nw, .int se, .ref (pa 0), .ref an, .ref ln])), cE x xv])) (va_Qi (fun (r : Int32) (_ : Unit) => r = (-8)) (fun (_ : Unit) t => zB D [(o, .inr (4, [.ref F, .ref G, .int lo, .int nw, .int se, .ref (pa 0), .ref an, .ref ln])), cE x xv] sz [(o, .inr (4, [.ref F, .ref G, .int lo, .int nw, .int se, .ref (pa 0), .ref an, .ref ln])), cE x xv] t) (va_A [(o, .inr (4, [.ref F, .ref G, .int lo, .int nw, .int se, .ref (pa 0), .ref an, .ref ln])), cE x xv] sz)) 1 6 (va_A [(o, .inr (4, [.ref F, .ref G, .int lo, .int nw, .int se, .ref (pa 0), .ref an, .ref ln])), cE x xv] sz) := by
  refine z_ofWH (cc := cL_asks) (maxL := 8) (ret := (some .int)) (hh := [(0, 129, 130, 57), (0, 129, 135, 59)]) (by decide) rfl ?_
  intro p e s m args below meth c s₁ B hml htab hv
  obtain ⟨rfl, ⟨hsz, hP, hK, hD0, hE0⟩, hX0⟩ := hv
  have hx := B.exec
  have hb := B.bytes
  have hr := B.returns
  have hts := atoms_spec (ws := wsL_asks) B.pre
  have hown : s.vm.findClass RL = some m.cls := findClass_of_methodNamed B.named
  have hlocks := B.notSynchronized
  subst hsz
  have hD := hD0.self (sz := s.heap.size)
  generalize hAe : va_A [(o, .inr (4, [.ref F, .ref G, .int lo, .int nw, .int se, .ref (pa 0), .ref an, .ref ln])), cE x xv] s.heap.size = A at hD hE0 hX0 ⊢
  have hA : ∀ q : Nat, s.heap.size ≤ q → A q := fun q h => by rw [← hAe]; exact Or.inr h
  have hS : va_S A s.heap s.heap [] := va_S.rf
  have hl := lv_entry ([.ref o, .int 2, .int n, .int (nI k), .int (nI ez), .int z2, .int z3]) (n := 8) (Nat.le_of_ble_eq_true rfl)
  rw [lg_entry_eq]
  generalize (lg_sl ([.ref o, .int 2, .int n, .int (nI k), .int (nI ez), .int z2, .int z3]) ++ List.replicate (8 - (lg_sl ([.ref o, .int 2, .int n, .int (nI k), .int (nI ez), .int z2, .int z3])).length) Slot.unset).toArray = ls at hl ⊢
  have hl : lv_has ls 8 [(0, .ref o), (1, .int 2), (2, .int n), (3, .int (nI k)), (4, .int (nI ez)), (5, .int z2), (6, .int z3)] := hl
  refine lv_iload_n hx hb dL_asks_0 rfl (lv_at hl 1 rfl) ?_
  refine lv_if_ne (tgt := 19) hx hb dL_asks_1 (by decide) (fun _ => ?_) (fun c_1 => absurd c_1 (by decide))
  refine lv_iload_n hx hb dL_asks_19 rfl (lv_at hl 1 rfl) ?_
  refine lv_iconst (v := 1) hx hb dL_asks_20 (by decide) ?_
  refine lv_icmp_ne (tgt := 37) hx hb dL_asks_21 (by decide) (fun _ => ?_) (fun c_2 => absurd c_2 (by decide))
  refine lv_iload_n hx hb dL_asks_37 rfl (lv_at hl 1 rfl) ?_
  refine lv_iconst (v := 2) hx hb dL_asks_38 (by decide) ?_
  refine lv_icmp_ne (tgt := 69) hx hb dL_asks_39 (by decide) (fun c_3 => absurd c_3 (by decide)) (fun _ => ?_)
  refine lv_aload_n hx hb dL_asks_42 rfl (lv_at hl 0 rfl) ?_
  refine lv_iload_n hx hb dL_asks_43 rfl (lv_at hl 2 rfl) ?_
  refine lv_iload_n hx hb dL_asks_44 rfl (lv_at hl 3 rfl) ?_
  refine lv_iload hx hb dL_asks_45 (lv_at hl 4 rfl) ?_
  refine lv_if_le (tgt := 54) hx hb dL_asks_47 (by decide) (fun c_4 => ?_) (fun c_4 => ?_)
  · have c_4 := (nI_leI (a := ez) (b := 0) (by omega) (by omega)).mp c_4
    refine lv_iconst (v := 0) hx hb dL_asks_54 (by decide) ?_
    have hPc := hP.sub (ws' := [(o, .inr (4, [.ref F, .ref G, .int lo, .int nw, .int se, .ref (pa 0), .ref an, .ref ln])), cE x xv]) [0, 1] rfl
    have hDc := hD.sub (ws' := [(o, .inr (4, [.ref F, .ref G, .int lo, .int nw, .int se, .ref (pa 0), .ref an, .ref ln])), cE x xv]) [0, 1] (by decide) rfl
    have hFc := va_free (wc := [(o, .inr (4, [.ref F, .ref G, .int lo, .int nw, .int se, .ref (pa 0), .ref an, .ref ln])), cE x xv]) hD hS hA [0, 1] rfl
    refine vx_calli (vx_runV (As := [.int n, .int (nI k), .int 0]) (rest := []) ⟨hx, hb, hml, hown, hts⟩ (c_X3_refuse_s l D cA zv s.heap.size hl0 o F G lo nw se pa an ln x y0 n xv k 0 (by assumption) (by assumption) (by assumption)) (cwV 3 hts gL_asks_X3_refuse rfl rfl rfl (by decide +kernel) ⟨Nat.le_of_ble_eq_true rfl, Nat.le_of_ble_eq_true rfl⟩) ⟨zUX_blind, va_recv hK hPc (ci := 4) (q0 := 0) rfl rfl, fun U hU hW => ⟨rfl, zUX_call hE0 hX0 hS hFc hU hPc hW hK hDc⟩⟩ rfl rfl hl.1 rfl (lv_room (Nat.le_of_ble_eq_true rfl)) dL_asks_55 ⟨Nat.le_of_ble_eq_true rfl, Nat.le_of_ble_eq_true rfl⟩) hS (fun q _ h => hFc q h) hFc (fun q _ h => hFc q h) (fun E9 ce9 q9 u t H1 locs ht hvm hpx hB hz1 hk1 hS hcell hcv hcl => ?_) (fun zr u t H1 locs1 ht hvm hw _ _ _ _ => hw.elim)
    obtain ⟨rfl, hP1, hD1⟩ := hB
    rw [ht] at hP1
    obtain ⟨hP, hD⟩ := va_join (wr := []) (w1 := [(o, .inr (4, [.ref F, .ref G, .int lo, .int nw, .int se, .ref (pa 0), .ref an, .ref ln])), cE x xv]) hP hD [0, 1] [] rfl rfl (by decide) (by decide) hk1 hFc hP1 hD1
    have hP := hP.sub (ws' := [(o, .inr (4, [.ref F, .ref G, .int lo, .int nw, .int se, .ref (pa 0), .ref an, .ref ln])), cE x xv]) [0, 1] rfl
    have hD := hD.sub (ws' := [(o, .inr (4, [.ref F, .ref G, .int lo, .int nw, .int se, .ref (pa 0), .ref an, .ref ln])), cE x xv]) [0, 1] (by decide) rfl
    refine vx_catch hown [] ⟨0, 129, 130, 57⟩ [⟨0, 129, 135, 59⟩] htab (fun z hz => absurd hz List.not_mem_nil) (by decide) (by decide) (hts (.classLink RL 57 "java/lang/IllegalStateException") (List.mem_of_getElem? (i := 1) rfl)) (va_Nw.use rfl (hX0.1.1 "java/lang/IllegalStateException" (by decide))) hcell hcv hcl ?_
    refine W.eq (g2 := F0 m 130 ls [.ref q9]) rfl ?_
    clear hcell
    generalize H1 = H at hP hS ⊢
    refine W.widen (k := 1) (n := 6) (by omega) (by omega) ?_
    refine lv_astore (lv' := [(7, .ref q9), (0, .ref o), (1, .int 2), (2, .int n), (3, .int (nI k)), (4, .int (nI ez)), (5, .int z2), (6, .int z3)]) hx hb dL_asks_130 hl (by decide) rfl (fun ls hl => ?_)
    refine lv_bipush (v := (-8)) hx hb dL_asks_132 (by decide) ?_
    refine W.widen (k := 1) (n := 6) (by omega) (by omega) ?_
    exact W.iret (v := (-8)) hx hb hr (fun t ht hW => ⟨⟨(-8), (), rfl, rfl, ⟨by rw [ht]; exact hP, by rw [hAe]; exact hD⟩⟩, hS.F ht⟩) hS.2.2 dL_asks_134
  · have c_4 := mt (nI_leI (a := ez) (b := 0) (by omega) (by omega)).mpr c_4
    refine lv_iconst (v := 1) hx hb dL_asks_50 (by decide) ?_
    refine lv_goto (tgt := 55) hx hb dL_asks_51 (by decide) ?_
    have hPc := hP.sub (ws' := [(o, .inr (4, [.ref F, .ref G, .int lo, .int nw, .int se, .ref (pa 0), .ref an, .ref ln])), cE x xv]) [0, 1] rfl
    have hDc := hD.sub (ws' := [(o, .inr (4, [.ref F, .ref G, .int lo, .int nw, .int se, .ref (pa 0), .ref an, .ref ln])), cE x xv]) [0, 1] (by decide) rfl
    have hFc := va_free (wc := [(o, .inr (4, [.ref F, .ref G, .int lo, .int nw, .int se, .ref (pa 0), .ref an, .ref ln])), cE x xv]) hD hS hA [0, 1] rfl
    refine vx_calli (vx_runV (As := [.int n, .int (nI k), .int 1]) (rest := []) ⟨hx, hb, hml, hown, hts⟩ (c_X3_refuse_s l D cA zv s.heap.size hl0 o F G lo nw se pa an ln x y0 n xv k 1 (by assumption) (by assumption) (by assumption)) (cwV 3 hts gL_asks_X3_refuse rfl rfl rfl (by decide +kernel) ⟨Nat.le_of_ble_eq_true rfl, Nat.le_of_ble_eq_true rfl⟩) ⟨zUX_blind, va_recv hK hPc (ci := 4) (q0 := 0) rfl rfl, fun U hU hW => ⟨rfl, zUX_call hE0 hX0 hS hFc hU hPc hW hK hDc⟩⟩ rfl rfl hl.1 rfl (lv_room (Nat.le_of_ble_eq_true rfl)) dL_asks_55 ⟨Nat.le_of_ble_eq_true rfl, Nat.le_of_ble_eq_true rfl⟩) hS (fun q _ h => hFc q h) hFc (fun q _ h => hFc q h) (fun E9 ce9 q9 u t H1 locs ht hvm hpx hB hz1 hk1 hS hcell hcv hcl => ?_) (fun zr u t H1 locs1 ht hvm hw _ _ _ _ => hw.elim)
    obtain ⟨rfl, hP1, hD1⟩ := hB
    rw [ht] at hP1
    obtain ⟨hP, hD⟩ := va_join (wr := []) (w1 := [(o, .inr (4, [.ref F, .ref G, .int lo, .int nw, .int se, .ref (pa 0), .ref an, .ref ln])), cE x xv]) hP hD [0, 1] [] rfl rfl (by decide) (by decide) hk1 hFc hP1 hD1
    have hP := hP.sub (ws' := [(o, .inr (4, [.ref F, .ref G, .int lo, .int nw, .int se, .ref (pa 0), .ref an, .ref ln])), cE x xv]) [0, 1] rfl
    have hD := hD.sub (ws' := [(o, .inr (4, [.ref F, .ref G, .int lo, .int nw, .int se, .ref (pa 0), .ref an, .ref ln])), cE x xv]) [0, 1] (by decide) rfl
    refine vx_catch hown [] ⟨0, 129, 130, 57⟩ [⟨0, 129, 135, 59⟩] htab (fun z hz => absurd hz List.not_mem_nil) (by decide) (by decide) (hts (.classLink RL 57 "java/lang/IllegalStateException") (List.mem_of_getElem? (i := 1) rfl)) (va_Nw.use rfl (hX0.1.1 "java/lang/IllegalStateException" (by decide))) hcell hcv hcl ?_
    refine W.eq (g2 := F0 m 130 ls [.ref q9]) rfl ?_
    clear hcell
    generalize H1 = H at hP hS ⊢
    refine W.widen (k := 1) (n := 6) (by omega) (by omega) ?_
    refine lv_astore (lv' := [(7, .ref q9), (0, .ref o), (1, .int 2), (2, .int n), (3, .int (nI k)), (4, .int (nI ez)), (5, .int z2), (6, .int z3)]) hx hb dL_asks_130 hl (by decide) rfl (fun ls hl => ?_)
    refine lv_bipush (v := (-8)) hx hb dL_asks_132 (by decide) ?_
    refine W.widen (k := 1) (n := 6) (by omega) (by omega) ?_
    exact W.iret (v := (-8)) hx hb hr (fun t ht hW => ⟨⟨(-8), (), rfl, rfl, ⟨by rw [ht]; exact hP, by rw [hAe]; exact hD⟩⟩, hS.F ht⟩) hS.2.2 dL_asks_134
set_option maxHeartbeats 4000000 in
set_option maxRecDepth 100000 in
theorem c_asks_open_k (l : Launch) (D : va_G) (cA : Nat → ClassId) (sz : Nat) (o F G : Nat) (lo nw se : Int32) (pa : Nat → Nat) (an ln : Nat) (x y : Nat → Nat) (n : Int32) (xv yv : Nat → Int32) (xr yr : Nat → Nat → Int32) (xf yf : Nat) (QX QY : Qt)(mk : Int32) (f g : Nat → Int32) (z2 z3 z4 : Int32) (he : en n F G (x 0) (y 0)) (hqx : rg xr xf QX) (hqy : rg yr yf QY) (hmk : inr mk 1 999) (hsh : sSh (xv 0)) : Met l yL_asks wsL_asks ({ frames := 6, cells := 0, slots := 0, locals := 140 }) (va_Pc [.ref o, .int 3, .int n, .int mk, .int z2, .int z3, .int z4] (zU D cA sz [(o, .inr (4, [.ref F, .ref G, .int lo, .int nw, .int se, .ref (pa 0), .ref an, .ref ln])), cE x xv, (x 9, .inr (3, [.ref (x 10), .ref (x 11), .ref (x 12), .ref (x 13), .int (nI xf), .int (nI QX.1)])), (x 10, .inl (cA 0, 12, .inl (xr 0))), (x 11, .inl (cA 0, 12, .inl (xr 1))), (x 12, .inl (cA 0, 12, .inl (xr 2))), (x 13, .inl (cA 0, 48, .inl (xr 3))), cE y yv, (y 9, .inr (3, [.ref (y 10), .ref (y 11), .ref (y 12), .ref (y 13), .int (nI yf), .int (nI QY.1)])), (y 10, .inl (cA 0, 12, .inl (yr 0))), (y 11, .inl (cA 0, 12, .inl (yr 1))), (y 12, .inl (cA 0, 12, .inl (yr 2))), (y 13, .inl (cA 0, 48, .inl (yr 3))), (x 1, .inl (cA 0, 4, .inl g)), (x 7, .inl (cA 0, 4, .inl f))])) (va_Qi (fun (r : Int32) (u : ((Nat → Int32) × (Nat → Nat → Int32) × (Nat → Nat → Int32) × Qt × Qt × Int32)) => u.1 = (rq lo (upd (upd (upd (upd xv 0 1) 3 10) 1 mk) 5 0) g QX QY se).1 ∧ u.2.2.2.1 = (rq lo (upd (upd (upd (upd xv 0 1) 3 10) 1 mk) 5 0) g QX QY se).2.1.1 ∧ u.2.2.2.2.1 = (rq lo (upd (upd (upd (upd xv 0 1) 3 10) 1 mk) 5 0) g QX QY se).2.1.2 ∧ u.2.2.2.2.2 = (rq lo (upd (upd (upd (upd xv 0 1) 3 10) 1 mk) 5 0) g QX QY se).2.2 ∧ rg u.2.1 xf u.2.2.2.1 ∧ rg u.2.2.1 yf u.2.2.2.2.1 ∧ r = 0) (fun (u : ((Nat → Int32) × (Nat → Nat → Int32) × (Nat → Nat → Int32) × Qt × Qt × Int32)) t => zB D [(o, .inr (4, [.ref F, .ref G, .int lo, .int nw, .int se, .ref (pa 0), .ref an, .ref ln])), cE x xv, (x 9, .inr (3, [.ref (x 10), .ref (x 11), .ref (x 12), .ref (x 13), .int (nI xf), .int (nI QX.1)])), (x 10, .inl (cA 0, 12, .inl (xr 0))), (x 11, .inl (cA 0, 12, .inl (xr 1))), (x 12, .inl (cA 0, 12, .inl (xr 2))), (x 13, .inl (cA 0, 48, .inl (xr 3))), cE y yv, (y 9, .inr (3, [.ref (y 10), .ref (y 11), .ref (y 12), .ref (y 13), .int (nI yf), .int (nI QY.1)])), (y 10, .inl (cA 0, 12, .inl (yr 0))), (y 11, .inl (cA 0, 12, .inl (yr 1))), (y 12, .inl (cA 0, 12, .inl (yr 2))), (y 13, .inl (cA 0, 48, .inl (yr 3))), (x 1, .inl (cA 0, 4, .inl g)), (x 7, .inl (cA 0, 4, .inl f))] sz [(o, .inr (4, [.ref F, .ref G, .int lo, .int nw, .int u.2.2.2.2.2, .ref (pa 0), .ref an, .ref ln])), cE x u.1, (x 9, .inr (3, [.ref (x 10), .ref (x 11), .ref (x 12), .ref (x 13), .int (nI xf), .int (nI u.2.2.2.1.1)])), (x 10, .inl (cA 0, 12, .inl (u.2.1 0))), (x 11, .inl (cA 0, 12, .inl (u.2.1 1))), (x 12, .inl (cA 0, 12, .inl (u.2.1 2))), (x 13, .inl (cA 0, 48, .inl (u.2.1 3))), cE y yv, (y 9, .inr (3, [.ref (y 10), .ref (y 11), .ref (y 12), .ref (y 13), .int (nI yf), .int (nI u.2.2.2.2.1.1)])), (y 10, .inl (cA 0, 12, .inl (u.2.2.1 0))), (y 11, .inl (cA 0, 12, .inl (u.2.2.1 1))), (y 12, .inl (cA 0, 12, .inl (u.2.2.1 2))), (y 13, .inl (cA 0, 48, .inl (u.2.2.1 3))), (x 1, .inl (cA 0, 4, .inl g)), (x 7, .inl (cA 0, 4, .inl g))] t) (va_A [(o, .inr (4, [.ref F, .ref G, .int lo, .int nw, .int se, .ref (pa 0), .ref an, .ref ln])), cE x xv, (x 9, .inr (3, [.ref (x 10), .ref (x 11), .ref (x 12), .ref (x 13), .int (nI xf), .int (nI QX.1)])), (x 10, .inl (cA 0, 12, .inl (xr 0))), (x 11, .inl (cA 0, 12, .inl (xr 1))), (x 12, .inl (cA 0, 12, .inl (xr 2))), (x 13, .inl (cA 0, 48, .inl (xr 3))), cE y yv, (y 9, .inr (3, [.ref (y 10), .ref (y 11), .ref (y 12), .ref (y 13), .int (nI yf), .int (nI QY.1)])), (y 10, .inl (cA 0, 12, .inl (yr 0))), (y 11, .inl (cA 0, 12, .inl (yr 1))), (y 12, .inl (cA 0, 12, .inl (yr 2))), (y 13, .inl (cA 0, 48, .inl (yr 3))), (x 1, .inl (cA 0, 4, .inl g)), (x 7, .inl (cA 0, 4, .inl f))] sz)) 0 0 (va_A [(o, .inr (4, [.ref F, .ref G, .int lo, .int nw, .int se, .ref (pa 0), .ref an, .ref ln])), cE x xv, (x 9, .inr (3, [.ref (x 10), .ref (x 11), .ref (x 12), .ref (x 13), .int (nI xf), .int (nI QX.1)])), (x 10, .inl (cA 0, 12, .inl (xr 0))), (x 11, .inl (cA 0, 12, .inl (xr 1))), (x 12, .inl (cA 0, 12, .inl (xr 2))), (x 13, .inl (cA 0, 48, .inl (xr 3))), cE y yv, (y 9, .inr (3, [.ref (y 10), .ref (y 11), .ref (y 12), .ref (y 13), .int (nI yf), .int (nI QY.1)])), (y 10, .inl (cA 0, 12, .inl (yr 0))), (y 11, .inl (cA 0, 12, .inl (yr 1))), (y 12, .inl (cA 0, 12, .inl (yr 2))), (y 13, .inl (cA 0, 48, .inl (yr 3))), (x 1, .inl (cA 0, 4, .inl g)), (x 7, .inl (cA 0, 4, .inl f))] sz) := by
  refine z_ofWH (cc := cL_asks) (maxL := 8) (ret := (some .int)) (hh := [(0, 129, 130, 57), (0, 129, 135, 59)]) (by decide) rfl ?_
  intro p e s m args below meth c s₁ B hml htab hv
  obtain ⟨rfl, hsz, hP, hK, hD0⟩ := hv
  have hx := B.exec
  have hb := B.bytes
  have hr := B.returns
  have hts := atoms_spec (ws := wsL_asks) B.pre
  have hown : s.vm.findClass RL = some m.cls := findClass_of_methodNamed B.named
  have hlocks := B.notSynchronized
  subst hsz
  have hD := hD0.self (sz := s.heap.size)
  generalize hAe : va_A [(o, .inr (4, [.ref F, .ref G, .int lo, .int nw, .int se, .ref (pa 0), .ref an, .ref ln])), cE x xv, (x 9, .inr (3, [.ref (x 10), .ref (x 11), .ref (x 12), .ref (x 13), .int (nI xf), .int (nI QX.1)])), (x 10, .inl (cA 0, 12, .inl (xr 0))), (x 11, .inl (cA 0, 12, .inl (xr 1))), (x 12, .inl (cA 0, 12, .inl (xr 2))), (x 13, .inl (cA 0, 48, .inl (xr 3))), cE y yv, (y 9, .inr (3, [.ref (y 10), .ref (y 11), .ref (y 12), .ref (y 13), .int (nI yf), .int (nI QY.1)])), (y 10, .inl (cA 0, 12, .inl (yr 0))), (y 11, .inl (cA 0, 12, .inl (yr 1))), (y 12, .inl (cA 0, 12, .inl (yr 2))), (y 13, .inl (cA 0, 48, .inl (yr 3))), (x 1, .inl (cA 0, 4, .inl g)), (x 7, .inl (cA 0, 4, .inl f))] s.heap.size = A at hD ⊢
  have hA : ∀ q : Nat, s.heap.size ≤ q → A q := fun q h => by rw [← hAe]; exact Or.inr h
  have hS : va_S A s.heap s.heap [] := va_S.rf
  have hl := lv_entry ([.ref o, .int 3, .int n, .int mk, .int z2, .int z3, .int z4]) (n := 8) (Nat.le_of_ble_eq_true rfl)
  rw [lg_entry_eq]
  generalize (lg_sl ([.ref o, .int 3, .int n, .int mk, .int z2, .int z3, .int z4]) ++ List.replicate (8 - (lg_sl ([.ref o, .int 3, .int n, .int mk, .int z2, .int z3, .int z4])).length) Slot.unset).toArray = ls at hl ⊢
  have hl : lv_has ls 8 [(0, .ref o), (1, .int 3), (2, .int n), (3, .int mk), (4, .int z2), (5, .int z3), (6, .int z4)] := hl
  refine lv_iload_n hx hb dL_asks_0 rfl (lv_at hl 1 rfl) ?_
  refine lv_if_ne (tgt := 19) hx hb dL_asks_1 (by decide) (fun _ => ?_) (fun c_1 => absurd c_1 (by decide))
  refine lv_iload_n hx hb dL_asks_19 rfl (lv_at hl 1 rfl) ?_
  refine lv_iconst (v := 1) hx hb dL_asks_20 (by decide) ?_
  refine lv_icmp_ne (tgt := 37) hx hb dL_asks_21 (by decide) (fun _ => ?_) (fun c_2 => absurd c_2 (by decide))
  refine lv_iload_n hx hb dL_asks_37 rfl (lv_at hl 1 rfl) ?_
  refine lv_iconst (v := 2) hx hb dL_asks_38 (by decide) ?_
  refine lv_icmp_ne (tgt := 69) hx hb dL_asks_39 (by decide) (fun _ => ?_) (fun c_3 => absurd c_3 (by decide))
  refine lv_iload_n hx hb dL_asks_69 rfl (lv_at hl 1 rfl) ?_
  refine lv_iconst (v := 3) hx hb dL_asks_70 (by decide) ?_
  refine lv_icmp_ne (tgt := 83) hx hb dL_asks_71 (by decide) (fun c_4 => absurd c_4 (by decide)) (fun _ => ?_)
  refine lv_aload_n hx hb dL_asks_74 rfl (lv_at hl 0 rfl) ?_
  refine lv_iload_n hx hb dL_asks_75 rfl (lv_at hl 2 rfl) ?_
  refine lv_iload_n hx hb dL_asks_76 rfl (lv_at hl 3 rfl) ?_
  have hPc := hP.sub (ws' := [(o, .inr (4, [.ref F, .ref G, .int lo, .int nw, .int se, .ref (pa 0), .ref an, .ref ln])), cE x xv, (x 9, .inr (3, [.ref (x 10), .ref (x 11), .ref (x 12), .ref (x 13), .int (nI xf), .int (nI QX.1)])), (x 10, .inl (cA 0, 12, .inl (xr 0))), (x 11, .inl (cA 0, 12, .inl (xr 1))), (x 12, .inl (cA 0, 12, .inl (xr 2))), (x 13, .inl (cA 0, 48, .inl (xr 3))), cE y yv, (y 9, .inr (3, [.ref (y 10), .ref (y 11), .ref (y 12), .ref (y 13), .int (nI yf), .int (nI QY.1)])), (y 10, .inl (cA 0, 12, .inl (yr 0))), (y 11, .inl (cA 0, 12, .inl (yr 1))), (y 12, .inl (cA 0, 12, .inl (yr 2))), (y 13, .inl (cA 0, 48, .inl (yr 3))), (x 1, .inl (cA 0, 4, .inl g)), (x 7, .inl (cA 0, 4, .inl f))]) [0, 1, 2, 3, 4, 5, 6, 7, 8, 9, 10, 11, 12, 13, 14] rfl
  have hDc := hD.sub (ws' := [(o, .inr (4, [.ref F, .ref G, .int lo, .int nw, .int se, .ref (pa 0), .ref an, .ref ln])), cE x xv, (x 9, .inr (3, [.ref (x 10), .ref (x 11), .ref (x 12), .ref (x 13), .int (nI xf), .int (nI QX.1)])), (x 10, .inl (cA 0, 12, .inl (xr 0))), (x 11, .inl (cA 0, 12, .inl (xr 1))), (x 12, .inl (cA 0, 12, .inl (xr 2))), (x 13, .inl (cA 0, 48, .inl (xr 3))), cE y yv, (y 9, .inr (3, [.ref (y 10), .ref (y 11), .ref (y 12), .ref (y 13), .int (nI yf), .int (nI QY.1)])), (y 10, .inl (cA 0, 12, .inl (yr 0))), (y 11, .inl (cA 0, 12, .inl (yr 1))), (y 12, .inl (cA 0, 12, .inl (yr 2))), (y 13, .inl (cA 0, 48, .inl (yr 3))), (x 1, .inl (cA 0, 4, .inl g)), (x 7, .inl (cA 0, 4, .inl f))]) [0, 1, 2, 3, 4, 5, 6, 7, 8, 9, 10, 11, 12, 13, 14] (by decide) rfl
  have hFc := va_free (wc := [(o, .inr (4, [.ref F, .ref G, .int lo, .int nw, .int se, .ref (pa 0), .ref an, .ref ln])), cE x xv, (x 9, .inr (3, [.ref (x 10), .ref (x 11), .ref (x 12), .ref (x 13), .int (nI xf), .int (nI QX.1)])), (x 10, .inl (cA 0, 12, .inl (xr 0))), (x 11, .inl (cA 0, 12, .inl (xr 1))), (x 12, .inl (cA 0, 12, .inl (xr 2))), (x 13, .inl (cA 0, 48, .inl (xr 3))), cE y yv, (y 9, .inr (3, [.ref (y 10), .ref (y 11), .ref (y 12), .ref (y 13), .int (nI yf), .int (nI QY.1)])), (y 10, .inl (cA 0, 12, .inl (yr 0))), (y 11, .inl (cA 0, 12, .inl (yr 1))), (y 12, .inl (cA 0, 12, .inl (yr 2))), (y 13, .inl (cA 0, 48, .inl (yr 3))), (x 1, .inl (cA 0, 4, .inl g)), (x 7, .inl (cA 0, 4, .inl f))]) hD hS hA [0, 1, 2, 3, 4, 5, 6, 7, 8, 9, 10, 11, 12, 13, 14] rfl
  refine va_calli (va_runS (As := [.ref o, .int n, .int mk]) (rest := []) ⟨hx, hb, hml, hown, hts⟩ (c_L_opens_k l D cA s.heap.size o F G lo nw se pa an ln x y n xv yv xr yr xf yf QX QY mk f g (by assumption) (by assumption) (by assumption) (by assumption) (by assumption)) (va_cwS 3 hts gL_asks_L_opens rfl rfl rfl (by decide +kernel) ⟨Nat.le_of_ble_eq_true rfl, Nat.le_of_ble_eq_true rfl⟩) ⟨zU_blind, fun U hU hW => ⟨rfl, zU_call hU hPc hW.alike hK hDc⟩⟩ rfl rfl hl.1 rfl (lv_room (Nat.le_of_ble_eq_true rfl)) dL_asks_77 ⟨(Nat.zero_le _), (Nat.zero_le _)⟩) hS (fun q _ h => hFc q h) hFc (fun zr u t H1 locs ht hvm hw hB hz1 hk1 hS => ?_)
  obtain ⟨xv'_5, xr'_5, yr'_5, QX'_5, QY'_5, se'_5⟩ := u
  obtain ⟨hP1, hD1⟩ := hB
  rw [ht] at hP1
  try dsimp only at hw hP1 hD1
  obtain ⟨hP, hD⟩ := va_join (wr := []) (w1 := [(o, .inr (4, [.ref F, .ref G, .int lo, .int nw, .int se'_5, .ref (pa 0), .ref an, .ref ln])), cE x xv'_5, (x 9, .inr (3, [.ref (x 10), .ref (x 11), .ref (x 12), .ref (x 13), .int (nI xf), .int (nI QX'_5.1)])), (x 10, .inl (cA 0, 12, .inl (xr'_5 0))), (x 11, .inl (cA 0, 12, .inl (xr'_5 1))), (x 12, .inl (cA 0, 12, .inl (xr'_5 2))), (x 13, .inl (cA 0, 48, .inl (xr'_5 3))), cE y yv, (y 9, .inr (3, [.ref (y 10), .ref (y 11), .ref (y 12), .ref (y 13), .int (nI yf), .int (nI QY'_5.1)])), (y 10, .inl (cA 0, 12, .inl (yr'_5 0))), (y 11, .inl (cA 0, 12, .inl (yr'_5 1))), (y 12, .inl (cA 0, 12, .inl (yr'_5 2))), (y 13, .inl (cA 0, 48, .inl (yr'_5 3))), (x 1, .inl (cA 0, 4, .inl g)), (x 7, .inl (cA 0, 4, .inl g))]) hP hD [0, 1, 2, 3, 4, 5, 6, 7, 8, 9, 10, 11, 12, 13, 14] [] rfl rfl (by decide) (by decide) hk1 hFc hP1 hD1
  generalize H1 = H at hP hS ⊢
  have hP := hP.sub (ws' := [(o, .inr (4, [.ref F, .ref G, .int lo, .int nw, .int se'_5, .ref (pa 0), .ref an, .ref ln])), cE x xv'_5, (x 9, .inr (3, [.ref (x 10), .ref (x 11), .ref (x 12), .ref (x 13), .int (nI xf), .int (nI QX'_5.1)])), (x 10, .inl (cA 0, 12, .inl (xr'_5 0))), (x 11, .inl (cA 0, 12, .inl (xr'_5 1))), (x 12, .inl (cA 0, 12, .inl (xr'_5 2))), (x 13, .inl (cA 0, 48, .inl (xr'_5 3))), cE y yv, (y 9, .inr (3, [.ref (y 10), .ref (y 11), .ref (y 12), .ref (y 13), .int (nI yf), .int (nI QY'_5.1)])), (y 10, .inl (cA 0, 12, .inl (yr'_5 0))), (y 11, .inl (cA 0, 12, .inl (yr'_5 1))), (y 12, .inl (cA 0, 12, .inl (yr'_5 2))), (y 13, .inl (cA 0, 48, .inl (yr'_5 3))), (x 1, .inl (cA 0, 4, .inl g)), (x 7, .inl (cA 0, 4, .inl g))]) [0, 1, 2, 3, 4, 5, 6, 7, 8, 9, 10, 11, 12, 13, 14] rfl
  have hD := hD.sub (ws' := [(o, .inr (4, [.ref F, .ref G, .int lo, .int nw, .int se'_5, .ref (pa 0), .ref an, .ref ln])), cE x xv'_5, (x 9, .inr (3, [.ref (x 10), .ref (x 11), .ref (x 12), .ref (x 13), .int (nI xf), .int (nI QX'_5.1)])), (x 10, .inl (cA 0, 12, .inl (xr'_5 0))), (x 11, .inl (cA 0, 12, .inl (xr'_5 1))), (x 12, .inl (cA 0, 12, .inl (xr'_5 2))), (x 13, .inl (cA 0, 48, .inl (xr'_5 3))), cE y yv, (y 9, .inr (3, [.ref (y 10), .ref (y 11), .ref (y 12), .ref (y 13), .int (nI yf), .int (nI QY'_5.1)])), (y 10, .inl (cA 0, 12, .inl (yr'_5 0))), (y 11, .inl (cA 0, 12, .inl (yr'_5 1))), (y 12, .inl (cA 0, 12, .inl (yr'_5 2))), (y 13, .inl (cA 0, 48, .inl (yr'_5 3))), (x 1, .inl (cA 0, 4, .inl g)), (x 7, .inl (cA 0, 4, .inl g))]) [0, 1, 2, 3, 4, 5, 6, 7, 8, 9, 10, 11, 12, 13, 14] (by decide) rfl
  clear hPc hDc hFc hP1 hD1 hk1 hz1
  obtain ⟨rfl, rfl, rfl, rfl, hw_5_0, hw_5_1, hw_5_2⟩ := hw
  obtain rfl := hw_5_2
  refine lv_goto (tgt := 129) hx hb dL_asks_80 (by decide) ?_
  refine W.widen (k := 0) (n := 0) (by omega) (by omega) ?_
  exact W.iret (v := 0) hx hb hr (fun t ht hW => ⟨⟨0, (((rq lo (upd (upd (upd (upd xv 0 1) 3 10) 1 mk) 5 0) g QX QY se).1), xr'_5, yr'_5, (rq lo (upd (upd (upd (upd xv 0 1) 3 10) 1 mk) 5 0) g QX QY se).2.1.1, (rq lo (upd (upd (upd (upd xv 0 1) 3 10) 1 mk) 5 0) g QX QY se).2.1.2, ((rq lo (upd (upd (upd (upd xv 0 1) 3 10) 1 mk) 5 0) g QX QY se).2.2)), rfl, ⟨rfl, rfl, rfl, rfl, by assumption, by assumption, rfl⟩, ⟨by rw [ht]; exact hP, by rw [hAe]; exact hD⟩⟩, hS.F ht⟩) hS.2.2 dL_asks_129
set_option maxHeartbeats 4000000 in
set_option maxRecDepth 100000 in
theorem c_asks_open_s (l : Launch) (D : va_G) (cA : Nat → ClassId) (zv : Nat → Nat) (sz : Nat) (o F G : Nat) (lo nw se : Int32) (pa : Nat → Nat) (an ln : Nat) (x : Nat → Nat) (y0 : Nat) (n : Int32) (xv : Nat → Int32) (mk : Int32) (z2 z3 z4 : Int32) (hl0 : l.stackTraces = false) (he : en n F G (x 0) y0) (hmk : inr mk 1 999) (hsh : ¬ sSh (xv 0)) : Met l yL_asks wsL_asks ({ frames := 11, cells := 1, slots := 6, locals := 165 }) (va_Pc [.ref o, .int 3, .int n, .int mk, .int z2, .int z3, .int z4] (zUX D cA zv sz [(o, .inr (4, [.ref F, .ref G, .int lo, .int nw, .int se, .ref (pa 0), .ref an, .ref ln])), cE x xv])) (va_Qi (fun (r : Int32) (_ : Unit) => r = (-8)) (fun (_ : Unit) t => zB D [(o, .inr (4, [.ref F, .ref G, .int lo, .int nw, .int se, .ref (pa 0), .ref an, .ref ln])), cE x xv] sz [(o, .inr (4, [.ref F, .ref G, .int lo, .int nw, .int se, .ref (pa 0), .ref an, .ref ln])), cE x xv] t) (va_A [(o, .inr (4, [.ref F, .ref G, .int lo, .int nw, .int se, .ref (pa 0), .ref an, .ref ln])), cE x xv] sz)) 1 6 (va_A [(o, .inr (4, [.ref F, .ref G, .int lo, .int nw, .int se, .ref (pa 0), .ref an, .ref ln])), cE x xv] sz) := by
  refine z_ofWH (cc := cL_asks) (maxL := 8) (ret := (some .int)) (hh := [(0, 129, 130, 57), (0, 129, 135, 59)]) (by decide) rfl ?_
  intro p e s m args below meth c s₁ B hml htab hv
  obtain ⟨rfl, ⟨hsz, hP, hK, hD0, hE0⟩, hX0⟩ := hv
  have hx := B.exec
  have hb := B.bytes
  have hr := B.returns
  have hts := atoms_spec (ws := wsL_asks) B.pre
  have hown : s.vm.findClass RL = some m.cls := findClass_of_methodNamed B.named
  have hlocks := B.notSynchronized
  subst hsz
  have hD := hD0.self (sz := s.heap.size)
  generalize hAe : va_A [(o, .inr (4, [.ref F, .ref G, .int lo, .int nw, .int se, .ref (pa 0), .ref an, .ref ln])), cE x xv] s.heap.size = A at hD hE0 hX0 ⊢
  have hA : ∀ q : Nat, s.heap.size ≤ q → A q := fun q h => by rw [← hAe]; exact Or.inr h
  have hS : va_S A s.heap s.heap [] := va_S.rf
  have hl := lv_entry ([.ref o, .int 3, .int n, .int mk, .int z2, .int z3, .int z4]) (n := 8) (Nat.le_of_ble_eq_true rfl)
  rw [lg_entry_eq]
  generalize (lg_sl ([.ref o, .int 3, .int n, .int mk, .int z2, .int z3, .int z4]) ++ List.replicate (8 - (lg_sl ([.ref o, .int 3, .int n, .int mk, .int z2, .int z3, .int z4])).length) Slot.unset).toArray = ls at hl ⊢
  have hl : lv_has ls 8 [(0, .ref o), (1, .int 3), (2, .int n), (3, .int mk), (4, .int z2), (5, .int z3), (6, .int z4)] := hl
  refine lv_iload_n hx hb dL_asks_0 rfl (lv_at hl 1 rfl) ?_
  refine lv_if_ne (tgt := 19) hx hb dL_asks_1 (by decide) (fun _ => ?_) (fun c_1 => absurd c_1 (by decide))
  refine lv_iload_n hx hb dL_asks_19 rfl (lv_at hl 1 rfl) ?_
  refine lv_iconst (v := 1) hx hb dL_asks_20 (by decide) ?_
  refine lv_icmp_ne (tgt := 37) hx hb dL_asks_21 (by decide) (fun _ => ?_) (fun c_2 => absurd c_2 (by decide))
  refine lv_iload_n hx hb dL_asks_37 rfl (lv_at hl 1 rfl) ?_
  refine lv_iconst (v := 2) hx hb dL_asks_38 (by decide) ?_
  refine lv_icmp_ne (tgt := 69) hx hb dL_asks_39 (by decide) (fun _ => ?_) (fun c_3 => absurd c_3 (by decide))
  refine lv_iload_n hx hb dL_asks_69 rfl (lv_at hl 1 rfl) ?_
  refine lv_iconst (v := 3) hx hb dL_asks_70 (by decide) ?_
  refine lv_icmp_ne (tgt := 83) hx hb dL_asks_71 (by decide) (fun c_4 => absurd c_4 (by decide)) (fun _ => ?_)
  refine lv_aload_n hx hb dL_asks_74 rfl (lv_at hl 0 rfl) ?_
  refine lv_iload_n hx hb dL_asks_75 rfl (lv_at hl 2 rfl) ?_
  refine lv_iload_n hx hb dL_asks_76 rfl (lv_at hl 3 rfl) ?_
  have hPc := hP.sub (ws' := [(o, .inr (4, [.ref F, .ref G, .int lo, .int nw, .int se, .ref (pa 0), .ref an, .ref ln])), cE x xv]) [0, 1] rfl
  have hDc := hD.sub (ws' := [(o, .inr (4, [.ref F, .ref G, .int lo, .int nw, .int se, .ref (pa 0), .ref an, .ref ln])), cE x xv]) [0, 1] (by decide) rfl
  have hFc := va_free (wc := [(o, .inr (4, [.ref F, .ref G, .int lo, .int nw, .int se, .ref (pa 0), .ref an, .ref ln])), cE x xv]) hD hS hA [0, 1] rfl
  refine vx_calli (vx_runS (As := [.ref o, .int n, .int mk]) (rest := []) ⟨hx, hb, hml, hown, hts⟩ (c_L_opens_s l D cA zv s.heap.size hl0 o F G lo nw se pa an ln x y0 n xv mk (by assumption) (by assumption) (by assumption)) (va_cwS 3 hts gL_asks_L_opens rfl rfl rfl (by decide +kernel) ⟨Nat.le_of_ble_eq_true rfl, Nat.le_of_ble_eq_true rfl⟩) ⟨zUX_blind, fun U hU hW => ⟨rfl, zUX_call hE0 hX0 hS hFc hU hPc hW hK hDc⟩⟩ rfl rfl hl.1 rfl (lv_room (Nat.le_of_ble_eq_true rfl)) dL_asks_77 ⟨Nat.le_of_ble_eq_true rfl, Nat.le_of_ble_eq_true rfl⟩) hS (fun q _ h => hFc q h) hFc (fun q _ h => hFc q h) (fun E9 ce9 q9 u t H1 locs ht hvm hpx hB hz1 hk1 hS hcell hcv hcl => ?_) (fun zr u t H1 locs1 ht hvm hw _ _ _ _ => hw.elim)
  obtain ⟨rfl, hP1, hD1⟩ := hB
  rw [ht] at hP1
  obtain ⟨hP, hD⟩ := va_join (wr := []) (w1 := [(o, .inr (4, [.ref F, .ref G, .int lo, .int nw, .int se, .ref (pa 0), .ref an, .ref ln])), cE x xv]) hP hD [0, 1] [] rfl rfl (by decide) (by decide) hk1 hFc hP1 hD1
  have hP := hP.sub (ws' := [(o, .inr (4, [.ref F, .ref G, .int lo, .int nw, .int se, .ref (pa 0), .ref an, .ref ln])), cE x xv]) [0, 1] rfl
  have hD := hD.sub (ws' := [(o, .inr (4, [.ref F, .ref G, .int lo, .int nw, .int se, .ref (pa 0), .ref an, .ref ln])), cE x xv]) [0, 1] (by decide) rfl
  refine vx_catch hown [] ⟨0, 129, 130, 57⟩ [⟨0, 129, 135, 59⟩] htab (fun z hz => absurd hz List.not_mem_nil) (by decide) (by decide) (hts (.classLink RL 57 "java/lang/IllegalStateException") (List.mem_of_getElem? (i := 1) rfl)) (va_Nw.use rfl (hX0.1.1 "java/lang/IllegalStateException" (by decide))) hcell hcv hcl ?_
  refine W.eq (g2 := F0 m 130 ls [.ref q9]) rfl ?_
  clear hcell
  generalize H1 = H at hP hS ⊢
  refine W.widen (k := 1) (n := 6) (by omega) (by omega) ?_
  refine lv_astore (lv' := [(7, .ref q9), (0, .ref o), (1, .int 3), (2, .int n), (3, .int mk), (4, .int z2), (5, .int z3), (6, .int z4)]) hx hb dL_asks_130 hl (by decide) rfl (fun ls hl => ?_)
  refine lv_bipush (v := (-8)) hx hb dL_asks_132 (by decide) ?_
  refine W.widen (k := 1) (n := 6) (by omega) (by omega) ?_
  exact W.iret (v := (-8)) hx hb hr (fun t ht hW => ⟨⟨(-8), (), rfl, rfl, ⟨by rw [ht]; exact hP, by rw [hAe]; exact hD⟩⟩, hS.F ht⟩) hS.2.2 dL_asks_134
set_option maxHeartbeats 4000000 in
set_option maxRecDepth 100000 in
theorem c_asks_close_k (l : Launch) (D : va_G) (cA : Nat → ClassId) (zv : Nat → Nat) (sz : Nat) (o F G : Nat) (lo nw se : Int32) (pa : Nat → Nat) (an ln : Nat) (x y : Nat → Nat) (n : Int32) (xv yv : Nat → Int32) (xr yr : Nat → Nat → Int32) (xf yf : Nat) (QX QY : Qt) (z1 z2 z3 z4 : Int32) (he : en n F G (x 0) (y 0)) (hqx : rg xr xf QX) (hqy : rg yr yf QY) (hup : sUp (xv 0)) : Met l yL_asks wsL_asks ({ frames := 6, cells := 0, slots := 0, locals := 138 }) (va_Pc [.ref o, .int 4, .int n, .int z1, .int z2, .int z3, .int z4] (zUE D cA zv sz [(o, .inr (4, [.ref F, .ref G, .int lo, .int nw, .int se, .ref (pa 0), .ref an, .ref ln])), cE x xv, (x 9, .inr (3, [.ref (x 10), .ref (x 11), .ref (x 12), .ref (x 13), .int (nI xf), .int (nI QX.1)])), (x 10, .inl (cA 0, 12, .inl (xr 0))), (x 11, .inl (cA 0, 12, .inl (xr 1))), (x 12, .inl (cA 0, 12, .inl (xr 2))), (x 13, .inl (cA 0, 48, .inl (xr 3))), cE y yv, (y 9, .inr (3, [.ref (y 10), .ref (y 11), .ref (y 12), .ref (y 13), .int (nI yf), .int (nI QY.1)])), (y 10, .inl (cA 0, 12, .inl (yr 0))), (y 11, .inl (cA 0, 12, .inl (yr 1))), (y 12, .inl (cA 0, 12, .inl (yr 2))), (y 13, .inl (cA 0, 48, .inl (yr 3)))])) (va_Qi (fun (r : Int32) (u : ((Nat → Int32) × (Nat → Nat → Int32) × (Nat → Nat → Int32) × Qt × Qt × Int32)) => u.1 = upd (upd (upd xv 0 5) 6 1) 4 2 ∧ u.2.2.2.1 = (sq lo (pk 4 0 0 nB) QX QY).1 ∧ u.2.2.2.2.1 = (sq lo (pk 4 0 0 nB) QX QY).2 ∧ u.2.2.2.2.2 = se + 1 ∧ rg u.2.1 xf u.2.2.2.1 ∧ rg u.2.2.1 yf u.2.2.2.2.1 ∧ r = 0) (fun (u : ((Nat → Int32) × (Nat → Nat → Int32) × (Nat → Nat → Int32) × Qt × Qt × Int32)) t => zB D [(o, .inr (4, [.ref F, .ref G, .int lo, .int nw, .int se, .ref (pa 0), .ref an, .ref ln])), cE x xv, (x 9, .inr (3, [.ref (x 10), .ref (x 11), .ref (x 12), .ref (x 13), .int (nI xf), .int (nI QX.1)])), (x 10, .inl (cA 0, 12, .inl (xr 0))), (x 11, .inl (cA 0, 12, .inl (xr 1))), (x 12, .inl (cA 0, 12, .inl (xr 2))), (x 13, .inl (cA 0, 48, .inl (xr 3))), cE y yv, (y 9, .inr (3, [.ref (y 10), .ref (y 11), .ref (y 12), .ref (y 13), .int (nI yf), .int (nI QY.1)])), (y 10, .inl (cA 0, 12, .inl (yr 0))), (y 11, .inl (cA 0, 12, .inl (yr 1))), (y 12, .inl (cA 0, 12, .inl (yr 2))), (y 13, .inl (cA 0, 48, .inl (yr 3)))] sz [(o, .inr (4, [.ref F, .ref G, .int lo, .int nw, .int u.2.2.2.2.2, .ref (pa 0), .ref an, .ref ln])), cE x u.1, (x 9, .inr (3, [.ref (x 10), .ref (x 11), .ref (x 12), .ref (x 13), .int (nI xf), .int (nI u.2.2.2.1.1)])), (x 10, .inl (cA 0, 12, .inl (u.2.1 0))), (x 11, .inl (cA 0, 12, .inl (u.2.1 1))), (x 12, .inl (cA 0, 12, .inl (u.2.1 2))), (x 13, .inl (cA 0, 48, .inl (u.2.1 3))), cE y yv, (y 9, .inr (3, [.ref (y 10), .ref (y 11), .ref (y 12), .ref (y 13), .int (nI yf), .int (nI u.2.2.2.2.1.1)])), (y 10, .inl (cA 0, 12, .inl (u.2.2.1 0))), (y 11, .inl (cA 0, 12, .inl (u.2.2.1 1))), (y 12, .inl (cA 0, 12, .inl (u.2.2.1 2))), (y 13, .inl (cA 0, 48, .inl (u.2.2.1 3)))] t) (va_A [(o, .inr (4, [.ref F, .ref G, .int lo, .int nw, .int se, .ref (pa 0), .ref an, .ref ln])), cE x xv, (x 9, .inr (3, [.ref (x 10), .ref (x 11), .ref (x 12), .ref (x 13), .int (nI xf), .int (nI QX.1)])), (x 10, .inl (cA 0, 12, .inl (xr 0))), (x 11, .inl (cA 0, 12, .inl (xr 1))), (x 12, .inl (cA 0, 12, .inl (xr 2))), (x 13, .inl (cA 0, 48, .inl (xr 3))), cE y yv, (y 9, .inr (3, [.ref (y 10), .ref (y 11), .ref (y 12), .ref (y 13), .int (nI yf), .int (nI QY.1)])), (y 10, .inl (cA 0, 12, .inl (yr 0))), (y 11, .inl (cA 0, 12, .inl (yr 1))), (y 12, .inl (cA 0, 12, .inl (yr 2))), (y 13, .inl (cA 0, 48, .inl (yr 3)))] sz)) 0 0 (va_A [(o, .inr (4, [.ref F, .ref G, .int lo, .int nw, .int se, .ref (pa 0), .ref an, .ref ln])), cE x xv, (x 9, .inr (3, [.ref (x 10), .ref (x 11), .ref (x 12), .ref (x 13), .int (nI xf), .int (nI QX.1)])), (x 10, .inl (cA 0, 12, .inl (xr 0))), (x 11, .inl (cA 0, 12, .inl (xr 1))), (x 12, .inl (cA 0, 12, .inl (xr 2))), (x 13, .inl (cA 0, 48, .inl (xr 3))), cE y yv, (y 9, .inr (3, [.ref (y 10), .ref (y 11), .ref (y 12), .ref (y 13), .int (nI yf), .int (nI QY.1)])), (y 10, .inl (cA 0, 12, .inl (yr 0))), (y 11, .inl (cA 0, 12, .inl (yr 1))), (y 12, .inl (cA 0, 12, .inl (yr 2))), (y 13, .inl (cA 0, 48, .inl (yr 3)))] sz) := by
  refine z_ofWH (cc := cL_asks) (maxL := 8) (ret := (some .int)) (hh := [(0, 129, 130, 57), (0, 129, 135, 59)]) (by decide) rfl ?_
  intro p e s m args below meth c s₁ B hml htab hv
  obtain ⟨rfl, hsz, hP, hK, hD0, hE0⟩ := hv
  have hx := B.exec
  have hb := B.bytes
  have hr := B.returns
  have hts := atoms_spec (ws := wsL_asks) B.pre
  have hown : s.vm.findClass RL = some m.cls := findClass_of_methodNamed B.named
  have hlocks := B.notSynchronized
  subst hsz
  have hD := hD0.self (sz := s.heap.size)
  generalize hAe : va_A [(o, .inr (4, [.ref F, .ref G, .int lo, .int nw, .int se, .ref (pa 0), .ref an, .ref ln])), cE x xv, (x 9, .inr (3, [.ref (x 10), .ref (x 11), .ref (x 12), .ref (x 13), .int (nI xf), .int (nI QX.1)])), (x 10, .inl (cA 0, 12, .inl (xr 0))), (x 11, .inl (cA 0, 12, .inl (xr 1))), (x 12, .inl (cA 0, 12, .inl (xr 2))), (x 13, .inl (cA 0, 48, .inl (xr 3))), cE y yv, (y 9, .inr (3, [.ref (y 10), .ref (y 11), .ref (y 12), .ref (y 13), .int (nI yf), .int (nI QY.1)])), (y 10, .inl (cA 0, 12, .inl (yr 0))), (y 11, .inl (cA 0, 12, .inl (yr 1))), (y 12, .inl (cA 0, 12, .inl (yr 2))), (y 13, .inl (cA 0, 48, .inl (yr 3)))] s.heap.size = A at hD hE0 ⊢
  have hA : ∀ q : Nat, s.heap.size ≤ q → A q := fun q h => by rw [← hAe]; exact Or.inr h
  have hS : va_S A s.heap s.heap [] := va_S.rf
  have hl := lv_entry ([.ref o, .int 4, .int n, .int z1, .int z2, .int z3, .int z4]) (n := 8) (Nat.le_of_ble_eq_true rfl)
  rw [lg_entry_eq]
  generalize (lg_sl ([.ref o, .int 4, .int n, .int z1, .int z2, .int z3, .int z4]) ++ List.replicate (8 - (lg_sl ([.ref o, .int 4, .int n, .int z1, .int z2, .int z3, .int z4])).length) Slot.unset).toArray = ls at hl ⊢
  have hl : lv_has ls 8 [(0, .ref o), (1, .int 4), (2, .int n), (3, .int z1), (4, .int z2), (5, .int z3), (6, .int z4)] := hl
  refine lv_iload_n hx hb dL_asks_0 rfl (lv_at hl 1 rfl) ?_
  refine lv_if_ne (tgt := 19) hx hb dL_asks_1 (by decide) (fun _ => ?_) (fun c_1 => absurd c_1 (by decide))
  refine lv_iload_n hx hb dL_asks_19 rfl (lv_at hl 1 rfl) ?_
  refine lv_iconst (v := 1) hx hb dL_asks_20 (by decide) ?_
  refine lv_icmp_ne (tgt := 37) hx hb dL_asks_21 (by decide) (fun _ => ?_) (fun c_2 => absurd c_2 (by decide))
  refine lv_iload_n hx hb dL_asks_37 rfl (lv_at hl 1 rfl) ?_
  refine lv_iconst (v := 2) hx hb dL_asks_38 (by decide) ?_
  refine lv_icmp_ne (tgt := 69) hx hb dL_asks_39 (by decide) (fun _ => ?_) (fun c_3 => absurd c_3 (by decide))
  refine lv_iload_n hx hb dL_asks_69 rfl (lv_at hl 1 rfl) ?_
  refine lv_iconst (v := 3) hx hb dL_asks_70 (by decide) ?_
  refine lv_icmp_ne (tgt := 83) hx hb dL_asks_71 (by decide) (fun _ => ?_) (fun c_4 => absurd c_4 (by decide))
  refine lv_iload_n hx hb dL_asks_83 rfl (lv_at hl 1 rfl) ?_
  refine lv_iconst (v := 4) hx hb dL_asks_84 (by decide) ?_
  refine lv_icmp_ne (tgt := 96) hx hb dL_asks_85 (by decide) (fun c_5 => absurd c_5 (by decide)) (fun _ => ?_)
  refine lv_aload_n hx hb dL_asks_88 rfl (lv_at hl 0 rfl) ?_
  refine lv_iload_n hx hb dL_asks_89 rfl (lv_at hl 2 rfl) ?_
  have hPc := hP.sub (ws' := [(o, .inr (4, [.ref F, .ref G, .int lo, .int nw, .int se, .ref (pa 0), .ref an, .ref ln])), cE x xv, (x 9, .inr (3, [.ref (x 10), .ref (x 11), .ref (x 12), .ref (x 13), .int (nI xf), .int (nI QX.1)])), (x 10, .inl (cA 0, 12, .inl (xr 0))), (x 11, .inl (cA 0, 12, .inl (xr 1))), (x 12, .inl (cA 0, 12, .inl (xr 2))), (x 13, .inl (cA 0, 48, .inl (xr 3))), cE y yv, (y 9, .inr (3, [.ref (y 10), .ref (y 11), .ref (y 12), .ref (y 13), .int (nI yf), .int (nI QY.1)])), (y 10, .inl (cA 0, 12, .inl (yr 0))), (y 11, .inl (cA 0, 12, .inl (yr 1))), (y 12, .inl (cA 0, 12, .inl (yr 2))), (y 13, .inl (cA 0, 48, .inl (yr 3)))]) [0, 1, 2, 3, 4, 5, 6, 7, 8, 9, 10, 11, 12] rfl
  have hDc := hD.sub (ws' := [(o, .inr (4, [.ref F, .ref G, .int lo, .int nw, .int se, .ref (pa 0), .ref an, .ref ln])), cE x xv, (x 9, .inr (3, [.ref (x 10), .ref (x 11), .ref (x 12), .ref (x 13), .int (nI xf), .int (nI QX.1)])), (x 10, .inl (cA 0, 12, .inl (xr 0))), (x 11, .inl (cA 0, 12, .inl (xr 1))), (x 12, .inl (cA 0, 12, .inl (xr 2))), (x 13, .inl (cA 0, 48, .inl (xr 3))), cE y yv, (y 9, .inr (3, [.ref (y 10), .ref (y 11), .ref (y 12), .ref (y 13), .int (nI yf), .int (nI QY.1)])), (y 10, .inl (cA 0, 12, .inl (yr 0))), (y 11, .inl (cA 0, 12, .inl (yr 1))), (y 12, .inl (cA 0, 12, .inl (yr 2))), (y 13, .inl (cA 0, 48, .inl (yr 3)))]) [0, 1, 2, 3, 4, 5, 6, 7, 8, 9, 10, 11, 12] (by decide) rfl
  have hFc := va_free (wc := [(o, .inr (4, [.ref F, .ref G, .int lo, .int nw, .int se, .ref (pa 0), .ref an, .ref ln])), cE x xv, (x 9, .inr (3, [.ref (x 10), .ref (x 11), .ref (x 12), .ref (x 13), .int (nI xf), .int (nI QX.1)])), (x 10, .inl (cA 0, 12, .inl (xr 0))), (x 11, .inl (cA 0, 12, .inl (xr 1))), (x 12, .inl (cA 0, 12, .inl (xr 2))), (x 13, .inl (cA 0, 48, .inl (xr 3))), cE y yv, (y 9, .inr (3, [.ref (y 10), .ref (y 11), .ref (y 12), .ref (y 13), .int (nI yf), .int (nI QY.1)])), (y 10, .inl (cA 0, 12, .inl (yr 0))), (y 11, .inl (cA 0, 12, .inl (yr 1))), (y 12, .inl (cA 0, 12, .inl (yr 2))), (y 13, .inl (cA 0, 48, .inl (yr 3)))]) hD hS hA [0, 1, 2, 3, 4, 5, 6, 7, 8, 9, 10, 11, 12] rfl
  refine va_calli (va_runS (As := [.ref o, .int n]) (rest := []) ⟨hx, hb, hml, hown, hts⟩ (c_L_closes_k l D cA zv s.heap.size o F G lo nw se pa an ln x y n xv yv xr yr xf yf QX QY (by assumption) (by assumption) (by assumption) (by assumption)) (va_cwS 2 hts gL_asks_L_closes rfl rfl rfl (by decide +kernel) ⟨Nat.le_of_ble_eq_true rfl, Nat.le_of_ble_eq_true rfl⟩) ⟨zUE_blind, fun U hU hW => ⟨rfl, zUE_call hE0 hS hFc hU hPc hW hK hDc⟩⟩ rfl rfl hl.1 rfl (lv_room (Nat.le_of_ble_eq_true rfl)) dL_asks_90 ⟨(Nat.zero_le _), (Nat.zero_le _)⟩) hS (fun q _ h => hFc q h) hFc (fun zr u t H1 locs ht hvm hw hB hz1 hk1 hS => ?_)
  obtain ⟨xv'_6, xr'_6, yr'_6, QX'_6, QY'_6, se'_6⟩ := u
  obtain ⟨hP1, hD1⟩ := hB
  rw [ht] at hP1
  try dsimp only at hw hP1 hD1
  obtain ⟨hP, hD⟩ := va_join (wr := []) (w1 := [(o, .inr (4, [.ref F, .ref G, .int lo, .int nw, .int se'_6, .ref (pa 0), .ref an, .ref ln])), cE x xv'_6, (x 9, .inr (3, [.ref (x 10), .ref (x 11), .ref (x 12), .ref (x 13), .int (nI xf), .int (nI QX'_6.1)])), (x 10, .inl (cA 0, 12, .inl (xr'_6 0))), (x 11, .inl (cA 0, 12, .inl (xr'_6 1))), (x 12, .inl (cA 0, 12, .inl (xr'_6 2))), (x 13, .inl (cA 0, 48, .inl (xr'_6 3))), cE y yv, (y 9, .inr (3, [.ref (y 10), .ref (y 11), .ref (y 12), .ref (y 13), .int (nI yf), .int (nI QY'_6.1)])), (y 10, .inl (cA 0, 12, .inl (yr'_6 0))), (y 11, .inl (cA 0, 12, .inl (yr'_6 1))), (y 12, .inl (cA 0, 12, .inl (yr'_6 2))), (y 13, .inl (cA 0, 48, .inl (yr'_6 3)))]) hP hD [0, 1, 2, 3, 4, 5, 6, 7, 8, 9, 10, 11, 12] [] rfl rfl (by decide) (by decide) hk1 hFc hP1 hD1
  generalize H1 = H at hP hS ⊢
  have hP := hP.sub (ws' := [(o, .inr (4, [.ref F, .ref G, .int lo, .int nw, .int se'_6, .ref (pa 0), .ref an, .ref ln])), cE x xv'_6, (x 9, .inr (3, [.ref (x 10), .ref (x 11), .ref (x 12), .ref (x 13), .int (nI xf), .int (nI QX'_6.1)])), (x 10, .inl (cA 0, 12, .inl (xr'_6 0))), (x 11, .inl (cA 0, 12, .inl (xr'_6 1))), (x 12, .inl (cA 0, 12, .inl (xr'_6 2))), (x 13, .inl (cA 0, 48, .inl (xr'_6 3))), cE y yv, (y 9, .inr (3, [.ref (y 10), .ref (y 11), .ref (y 12), .ref (y 13), .int (nI yf), .int (nI QY'_6.1)])), (y 10, .inl (cA 0, 12, .inl (yr'_6 0))), (y 11, .inl (cA 0, 12, .inl (yr'_6 1))), (y 12, .inl (cA 0, 12, .inl (yr'_6 2))), (y 13, .inl (cA 0, 48, .inl (yr'_6 3)))]) [0, 1, 2, 3, 4, 5, 6, 7, 8, 9, 10, 11, 12] rfl
  have hD := hD.sub (ws' := [(o, .inr (4, [.ref F, .ref G, .int lo, .int nw, .int se'_6, .ref (pa 0), .ref an, .ref ln])), cE x xv'_6, (x 9, .inr (3, [.ref (x 10), .ref (x 11), .ref (x 12), .ref (x 13), .int (nI xf), .int (nI QX'_6.1)])), (x 10, .inl (cA 0, 12, .inl (xr'_6 0))), (x 11, .inl (cA 0, 12, .inl (xr'_6 1))), (x 12, .inl (cA 0, 12, .inl (xr'_6 2))), (x 13, .inl (cA 0, 48, .inl (xr'_6 3))), cE y yv, (y 9, .inr (3, [.ref (y 10), .ref (y 11), .ref (y 12), .ref (y 13), .int (nI yf), .int (nI QY'_6.1)])), (y 10, .inl (cA 0, 12, .inl (yr'_6 0))), (y 11, .inl (cA 0, 12, .inl (yr'_6 1))), (y 12, .inl (cA 0, 12, .inl (yr'_6 2))), (y 13, .inl (cA 0, 48, .inl (yr'_6 3)))]) [0, 1, 2, 3, 4, 5, 6, 7, 8, 9, 10, 11, 12] (by decide) rfl
  clear hPc hDc hFc hP1 hD1 hk1 hz1
  obtain ⟨rfl, rfl, rfl, rfl, hw_6_0, hw_6_1, hw_6_2⟩ := hw
  obtain rfl := hw_6_2
  refine lv_goto (tgt := 129) hx hb dL_asks_93 (by decide) ?_
  refine W.widen (k := 0) (n := 0) (by omega) (by omega) ?_
  exact W.iret (v := 0) hx hb hr (fun t ht hW => ⟨⟨0, ((upd (upd (upd xv 0 5) 6 1) 4 2), xr'_6, yr'_6, (sq lo (pk 4 0 0 nB) QX QY).1, (sq lo (pk 4 0 0 nB) QX QY).2, (se + 1)), rfl, ⟨rfl, rfl, rfl, rfl, by assumption, by assumption, rfl⟩, ⟨by rw [ht]; exact hP, by rw [hAe]; exact hD⟩⟩, hS.F ht⟩) hS.2.2 dL_asks_129
set_option maxHeartbeats 4000000 in
set_option maxRecDepth 100000 in
theorem c_asks_close_s (l : Launch) (D : va_G) (cA : Nat → ClassId) (zv : Nat → Nat) (sz : Nat) (o F G : Nat) (lo nw se : Int32) (pa : Nat → Nat) (an ln : Nat) (x : Nat → Nat) (y0 : Nat) (n : Int32) (xv : Nat → Int32)  (z1 z2 z3 z4 : Int32) (hl0 : l.stackTraces = false) (he : en n F G (x 0) y0) (hup : ¬ sUp (xv 0)) : Met l yL_asks wsL_asks ({ frames := 10, cells := 1, slots := 6, locals := 143 }) (va_Pc [.ref o, .int 4, .int n, .int z1, .int z2, .int z3, .int z4] (zUX D cA zv sz [(o, .inr (4, [.ref F, .ref G, .int lo, .int nw, .int se, .ref (pa 0), .ref an, .ref ln])), cE x xv])) (va_Qi (fun (r : Int32) (_ : Unit) => r = (-8)) (fun (_ : Unit) t => zB D [(o, .inr (4, [.ref F, .ref G, .int lo, .int nw, .int se, .ref (pa 0), .ref an, .ref ln])), cE x xv] sz [(o, .inr (4, [.ref F, .ref G, .int lo, .int nw, .int se, .ref (pa 0), .ref an, .ref ln])), cE x xv] t) (va_A [(o, .inr (4, [.ref F, .ref G, .int lo, .int nw, .int se, .ref (pa 0), .ref an, .ref ln])), cE x xv] sz)) 1 6 (va_A [(o, .inr (4, [.ref F, .ref G, .int lo, .int nw, .int se, .ref (pa 0), .ref an, .ref ln])), cE x xv] sz) := by
  refine z_ofWH (cc := cL_asks) (maxL := 8) (ret := (some .int)) (hh := [(0, 129, 130, 57), (0, 129, 135, 59)]) (by decide) rfl ?_
  intro p e s m args below meth c s₁ B hml htab hv
  obtain ⟨rfl, ⟨hsz, hP, hK, hD0, hE0⟩, hX0⟩ := hv
  have hx := B.exec
  have hb := B.bytes
  have hr := B.returns
  have hts := atoms_spec (ws := wsL_asks) B.pre
  have hown : s.vm.findClass RL = some m.cls := findClass_of_methodNamed B.named
  have hlocks := B.notSynchronized
  subst hsz
  have hD := hD0.self (sz := s.heap.size)
  generalize hAe : va_A [(o, .inr (4, [.ref F, .ref G, .int lo, .int nw, .int se, .ref (pa 0), .ref an, .ref ln])), cE x xv] s.heap.size = A at hD hE0 hX0 ⊢
  have hA : ∀ q : Nat, s.heap.size ≤ q → A q := fun q h => by rw [← hAe]; exact Or.inr h
  have hS : va_S A s.heap s.heap [] := va_S.rf
  have hl := lv_entry ([.ref o, .int 4, .int n, .int z1, .int z2, .int z3, .int z4]) (n := 8) (Nat.le_of_ble_eq_true rfl)
  rw [lg_entry_eq]
  generalize (lg_sl ([.ref o, .int 4, .int n, .int z1, .int z2, .int z3, .int z4]) ++ List.replicate (8 - (lg_sl ([.ref o, .int 4, .int n, .int z1, .int z2, .int z3, .int z4])).length) Slot.unset).toArray = ls at hl ⊢
  have hl : lv_has ls 8 [(0, .ref o), (1, .int 4), (2, .int n), (3, .int z1), (4, .int z2), (5, .int z3), (6, .int z4)] := hl
  refine lv_iload_n hx hb dL_asks_0 rfl (lv_at hl 1 rfl) ?_
  refine lv_if_ne (tgt := 19) hx hb dL_asks_1 (by decide) (fun _ => ?_) (fun c_1 => absurd c_1 (by decide))
  refine lv_iload_n hx hb dL_asks_19 rfl (lv_at hl 1 rfl) ?_
  refine lv_iconst (v := 1) hx hb dL_asks_20 (by decide) ?_
  refine lv_icmp_ne (tgt := 37) hx hb dL_asks_21 (by decide) (fun _ => ?_) (fun c_2 => absurd c_2 (by decide))
  refine lv_iload_n hx hb dL_asks_37 rfl (lv_at hl 1 rfl) ?_
  refine lv_iconst (v := 2) hx hb dL_asks_38 (by decide) ?_
  refine lv_icmp_ne (tgt := 69) hx hb dL_asks_39 (by decide) (fun _ => ?_) (fun c_3 => absurd c_3 (by decide))
  refine lv_iload_n hx hb dL_asks_69 rfl (lv_at hl 1 rfl) ?_
  refine lv_iconst (v := 3) hx hb dL_asks_70 (by decide) ?_
  refine lv_icmp_ne (tgt := 83) hx hb dL_asks_71 (by decide) (fun _ => ?_) (fun c_4 => absurd c_4 (by decide))
  refine lv_iload_n hx hb dL_asks_83 rfl (lv_at hl 1 rfl) ?_
  refine lv_iconst (v := 4) hx hb dL_asks_84 (by decide) ?_
  refine lv_icmp_ne (tgt := 96) hx hb dL_asks_85 (by decide) (fun c_5 => absurd c_5 (by decide)) (fun _ => ?_)
  refine lv_aload_n hx hb dL_asks_88 rfl (lv_at hl 0 rfl) ?_
  refine lv_iload_n hx hb dL_asks_89 rfl (lv_at hl 2 rfl) ?_
  have hPc := hP.sub (ws' := [(o, .inr (4, [.ref F, .ref G, .int lo, .int nw, .int se, .ref (pa 0), .ref an, .ref ln])), cE x xv]) [0, 1] rfl
  have hDc := hD.sub (ws' := [(o, .inr (4, [.ref F, .ref G, .int lo, .int nw, .int se, .ref (pa 0), .ref an, .ref ln])), cE x xv]) [0, 1] (by decide) rfl
  have hFc := va_free (wc := [(o, .inr (4, [.ref F, .ref G, .int lo, .int nw, .int se, .ref (pa 0), .ref an, .ref ln])), cE x xv]) hD hS hA [0, 1] rfl
  refine vx_calli (vx_runS (As := [.ref o, .int n]) (rest := []) ⟨hx, hb, hml, hown, hts⟩ (c_L_closes_s l D cA zv s.heap.size hl0 o F G lo nw se pa an ln x y0 n xv (by assumption) (by assumption)) (va_cwS 2 hts gL_asks_L_closes rfl rfl rfl (by decide +kernel) ⟨Nat.le_of_ble_eq_true rfl, Nat.le_of_ble_eq_true rfl⟩) ⟨zUX_blind, fun U hU hW => ⟨rfl, zUX_call hE0 hX0 hS hFc hU hPc hW hK hDc⟩⟩ rfl rfl hl.1 rfl (lv_room (Nat.le_of_ble_eq_true rfl)) dL_asks_90 ⟨Nat.le_of_ble_eq_true rfl, Nat.le_of_ble_eq_true rfl⟩) hS (fun q _ h => hFc q h) hFc (fun q _ h => hFc q h) (fun E9 ce9 q9 u t H1 locs ht hvm hpx hB hz1 hk1 hS hcell hcv hcl => ?_) (fun zr u t H1 locs1 ht hvm hw _ _ _ _ => hw.elim)
  obtain ⟨rfl, hP1, hD1⟩ := hB
  rw [ht] at hP1
  obtain ⟨hP, hD⟩ := va_join (wr := []) (w1 := [(o, .inr (4, [.ref F, .ref G, .int lo, .int nw, .int se, .ref (pa 0), .ref an, .ref ln])), cE x xv]) hP hD [0, 1] [] rfl rfl (by decide) (by decide) hk1 hFc hP1 hD1
  have hP := hP.sub (ws' := [(o, .inr (4, [.ref F, .ref G, .int lo, .int nw, .int se, .ref (pa 0), .ref an, .ref ln])), cE x xv]) [0, 1] rfl
  have hD := hD.sub (ws' := [(o, .inr (4, [.ref F, .ref G, .int lo, .int nw, .int se, .ref (pa 0), .ref an, .ref ln])), cE x xv]) [0, 1] (by decide) rfl
  refine vx_catch hown [] ⟨0, 129, 130, 57⟩ [⟨0, 129, 135, 59⟩] htab (fun z hz => absurd hz List.not_mem_nil) (by decide) (by decide) (hts (.classLink RL 57 "java/lang/IllegalStateException") (List.mem_of_getElem? (i := 1) rfl)) (va_Nw.use rfl (hX0.1.1 "java/lang/IllegalStateException" (by decide))) hcell hcv hcl ?_
  refine W.eq (g2 := F0 m 130 ls [.ref q9]) rfl ?_
  clear hcell
  generalize H1 = H at hP hS ⊢
  refine W.widen (k := 1) (n := 6) (by omega) (by omega) ?_
  refine lv_astore (lv' := [(7, .ref q9), (0, .ref o), (1, .int 4), (2, .int n), (3, .int z1), (4, .int z2), (5, .int z3), (6, .int z4)]) hx hb dL_asks_130 hl (by decide) rfl (fun ls hl => ?_)
  refine lv_bipush (v := (-8)) hx hb dL_asks_132 (by decide) ?_
  refine W.widen (k := 1) (n := 6) (by omega) (by omega) ?_
  exact W.iret (v := (-8)) hx hb hr (fun t ht hW => ⟨⟨(-8), (), rfl, rfl, ⟨by rw [ht]; exact hP, by rw [hAe]; exact hD⟩⟩, hS.F ht⟩) hS.2.2 dL_asks_134
set_option maxHeartbeats 4000000 in
set_option maxRecDepth 100000 in
theorem c_asks_deliver_e (l : Launch) (D : va_G) (cA : Nat → ClassId) (zv : Nat → Nat) (sz : Nat) (o F G : Nat) (lo nw se : Int32) (pa : Nat → Nat) (an ln : Nat) (x : Nat → Nat) (y0 : Nat) (n : Int32) (xv : Nat → Int32) (xf : Nat) (QX : Qt) (z1 z2 z3 z4 : Int32) (hl0 : l.stackTraces = false) (he : en n F G (x 0) y0) (h0 : QX.1 = 0) : Met l yL_asks wsL_asks ({ frames := 10, cells := 1, slots := 6, locals := 143 }) (va_Pc [.ref o, .int 5, .int n, .int z1, .int z2, .int z3, .int z4] (zUX D cA zv sz [(o, .inr (4, [.ref F, .ref G, .int lo, .int nw, .int se, .ref (pa 0), .ref an, .ref ln])), cE x xv, (x 9, .inr (3, [.ref (x 10), .ref (x 11), .ref (x 12), .ref (x 13), .int (nI xf), .int (nI QX.1)]))])) (va_Qi (fun (r : Int32) (_ : Unit) => r = (-10)) (fun (_ : Unit) t => zB D [(o, .inr (4, [.ref F, .ref G, .int lo, .int nw, .int se, .ref (pa 0), .ref an, .ref ln])), cE x xv, (x 9, .inr (3, [.ref (x 10), .ref (x 11), .ref (x 12), .ref (x 13), .int (nI xf), .int (nI QX.1)]))] sz [(o, .inr (4, [.ref F, .ref G, .int lo, .int nw, .int se, .ref (pa 0), .ref an, .ref ln])), cE x xv, (x 9, .inr (3, [.ref (x 10), .ref (x 11), .ref (x 12), .ref (x 13), .int (nI xf), .int (nI QX.1)]))] t) (va_A [(o, .inr (4, [.ref F, .ref G, .int lo, .int nw, .int se, .ref (pa 0), .ref an, .ref ln])), cE x xv, (x 9, .inr (3, [.ref (x 10), .ref (x 11), .ref (x 12), .ref (x 13), .int (nI xf), .int (nI QX.1)]))] sz)) 1 6 (va_A [(o, .inr (4, [.ref F, .ref G, .int lo, .int nw, .int se, .ref (pa 0), .ref an, .ref ln])), cE x xv, (x 9, .inr (3, [.ref (x 10), .ref (x 11), .ref (x 12), .ref (x 13), .int (nI xf), .int (nI QX.1)]))] sz) := by
  refine z_ofWH (cc := cL_asks) (maxL := 8) (ret := (some .int)) (hh := [(0, 129, 130, 57), (0, 129, 135, 59)]) (by decide) rfl ?_
  intro p e s m args below meth c s₁ B hml htab hv
  obtain ⟨rfl, ⟨hsz, hP, hK, hD0, hE0⟩, hX0⟩ := hv
  have hx := B.exec
  have hb := B.bytes
  have hr := B.returns
  have hts := atoms_spec (ws := wsL_asks) B.pre
  have hown : s.vm.findClass RL = some m.cls := findClass_of_methodNamed B.named
  have hlocks := B.notSynchronized
  subst hsz
  have hD := hD0.self (sz := s.heap.size)
  generalize hAe : va_A [(o, .inr (4, [.ref F, .ref G, .int lo, .int nw, .int se, .ref (pa 0), .ref an, .ref ln])), cE x xv, (x 9, .inr (3, [.ref (x 10), .ref (x 11), .ref (x 12), .ref (x 13), .int (nI xf), .int (nI QX.1)]))] s.heap.size = A at hD hE0 hX0 ⊢
  have hA : ∀ q : Nat, s.heap.size ≤ q → A q := fun q h => by rw [← hAe]; exact Or.inr h
  have hS : va_S A s.heap s.heap [] := va_S.rf
  have hl := lv_entry ([.ref o, .int 5, .int n, .int z1, .int z2, .int z3, .int z4]) (n := 8) (Nat.le_of_ble_eq_true rfl)
  rw [lg_entry_eq]
  generalize (lg_sl ([.ref o, .int 5, .int n, .int z1, .int z2, .int z3, .int z4]) ++ List.replicate (8 - (lg_sl ([.ref o, .int 5, .int n, .int z1, .int z2, .int z3, .int z4])).length) Slot.unset).toArray = ls at hl ⊢
  have hl : lv_has ls 8 [(0, .ref o), (1, .int 5), (2, .int n), (3, .int z1), (4, .int z2), (5, .int z3), (6, .int z4)] := hl
  refine lv_iload_n hx hb dL_asks_0 rfl (lv_at hl 1 rfl) ?_
  refine lv_if_ne (tgt := 19) hx hb dL_asks_1 (by decide) (fun _ => ?_) (fun c_1 => absurd c_1 (by decide))
  refine lv_iload_n hx hb dL_asks_19 rfl (lv_at hl 1 rfl) ?_
  refine lv_iconst (v := 1) hx hb dL_asks_20 (by decide) ?_
  refine lv_icmp_ne (tgt := 37) hx hb dL_asks_21 (by decide) (fun _ => ?_) (fun c_2 => absurd c_2 (by decide))
  refine lv_iload_n hx hb dL_asks_37 rfl (lv_at hl 1 rfl) ?_
  refine lv_iconst (v := 2) hx hb dL_asks_38 (by decide) ?_
  refine lv_icmp_ne (tgt := 69) hx hb dL_asks_39 (by decide) (fun _ => ?_) (fun c_3 => absurd c_3 (by decide))
  refine lv_iload_n hx hb dL_asks_69 rfl (lv_at hl 1 rfl) ?_
  refine lv_iconst (v := 3) hx hb dL_asks_70 (by decide) ?_
  refine lv_icmp_ne (tgt := 83) hx hb dL_asks_71 (by decide) (fun _ => ?_) (fun c_4 => absurd c_4 (by decide))
  refine lv_iload_n hx hb dL_asks_83 rfl (lv_at hl 1 rfl) ?_
  refine lv_iconst (v := 4) hx hb dL_asks_84 (by decide) ?_
  refine lv_icmp_ne (tgt := 96) hx hb dL_asks_85 (by decide) (fun _ => ?_) (fun c_5 => absurd c_5 (by decide))
  refine lv_iload_n hx hb dL_asks_96 rfl (lv_at hl 1 rfl) ?_
  refine lv_iconst (v := 5) hx hb dL_asks_97 (by decide) ?_
  refine lv_icmp_ne (tgt := 109) hx hb dL_asks_98 (by decide) (fun c_6 => absurd c_6 (by decide)) (fun _ => ?_)
  refine lv_aload_n hx hb dL_asks_101 rfl (lv_at hl 0 rfl) ?_
  refine lv_iload_n hx hb dL_asks_102 rfl (lv_at hl 2 rfl) ?_
  have hPc := hP.sub (ws' := [(o, .inr (4, [.ref F, .ref G, .int lo, .int nw, .int se, .ref (pa 0), .ref an, .ref ln])), cE x xv, (x 9, .inr (3, [.ref (x 10), .ref (x 11), .ref (x 12), .ref (x 13), .int (nI xf), .int (nI QX.1)]))]) [0, 1, 2] rfl
  have hDc := hD.sub (ws' := [(o, .inr (4, [.ref F, .ref G, .int lo, .int nw, .int se, .ref (pa 0), .ref an, .ref ln])), cE x xv, (x 9, .inr (3, [.ref (x 10), .ref (x 11), .ref (x 12), .ref (x 13), .int (nI xf), .int (nI QX.1)]))]) [0, 1, 2] (by decide) rfl
  have hFc := va_free (wc := [(o, .inr (4, [.ref F, .ref G, .int lo, .int nw, .int se, .ref (pa 0), .ref an, .ref ln])), cE x xv, (x 9, .inr (3, [.ref (x 10), .ref (x 11), .ref (x 12), .ref (x 13), .int (nI xf), .int (nI QX.1)]))]) hD hS hA [0, 1, 2] rfl
  refine vx_calli (vx_runV (As := [.int n]) (rest := []) ⟨hx, hb, hml, hown, hts⟩ (c_X3_deliver_e l D cA zv s.heap.size hl0 o F G lo nw se pa an ln x y0 n xv xf QX (by assumption) (by assumption)) (cwV 1 hts gL_asks_X3_deliver rfl rfl rfl (by decide +kernel) ⟨Nat.le_of_ble_eq_true rfl, Nat.le_of_ble_eq_true rfl⟩) ⟨zUX_blind, va_recv hK hPc (ci := 4) (q0 := 0) rfl rfl, fun U hU hW => ⟨rfl, zUX_call hE0 hX0 hS hFc hU hPc hW hK hDc⟩⟩ rfl rfl hl.1 rfl (lv_room (Nat.le_of_ble_eq_true rfl)) dL_asks_103 ⟨Nat.le_of_ble_eq_true rfl, Nat.le_of_ble_eq_true rfl⟩) hS (fun q _ h => hFc q h) hFc (fun q _ h => hFc q h) (fun E9 ce9 q9 u t H1 locs ht hvm hpx hB hz1 hk1 hS hcell hcv hcl => ?_) (fun zr u t H1 locs1 ht hvm hw _ _ _ _ => hw.elim)
  obtain ⟨rfl, hP1, hD1⟩ := hB
  rw [ht] at hP1
  obtain ⟨hP, hD⟩ := va_join (wr := []) (w1 := [(o, .inr (4, [.ref F, .ref G, .int lo, .int nw, .int se, .ref (pa 0), .ref an, .ref ln])), cE x xv, (x 9, .inr (3, [.ref (x 10), .ref (x 11), .ref (x 12), .ref (x 13), .int (nI xf), .int (nI QX.1)]))]) hP hD [0, 1, 2] [] rfl rfl (by decide) (by decide) hk1 hFc hP1 hD1
  have hP := hP.sub (ws' := [(o, .inr (4, [.ref F, .ref G, .int lo, .int nw, .int se, .ref (pa 0), .ref an, .ref ln])), cE x xv, (x 9, .inr (3, [.ref (x 10), .ref (x 11), .ref (x 12), .ref (x 13), .int (nI xf), .int (nI QX.1)]))]) [0, 1, 2] rfl
  have hD := hD.sub (ws' := [(o, .inr (4, [.ref F, .ref G, .int lo, .int nw, .int se, .ref (pa 0), .ref an, .ref ln])), cE x xv, (x 9, .inr (3, [.ref (x 10), .ref (x 11), .ref (x 12), .ref (x 13), .int (nI xf), .int (nI QX.1)]))]) [0, 1, 2] (by decide) rfl
  refine vx_catch hown [⟨0, 129, 130, 57⟩] ⟨0, 129, 135, 59⟩ [] htab (fun z hz => by obtain rfl := List.mem_singleton.mp hz; exact Or.inr ⟨by decide, _, (hts (.classLink RL 57 "java/lang/IllegalStateException") (List.mem_of_getElem? (i := 1) rfl)), hX0.2.2.2.2.2⟩) (by decide) (by decide) (hts (.classLink RL 59 "java/util/NoSuchElementException") (List.mem_of_getElem? (i := 2) rfl)) (va_Nw.use rfl (hX0.1.1 "java/util/NoSuchElementException" (by decide))) hcell hcv hcl ?_
  refine W.eq (g2 := F0 m 135 ls [.ref q9]) rfl ?_
  clear hcell
  generalize H1 = H at hP hS ⊢
  refine W.widen (k := 1) (n := 6) (by omega) (by omega) ?_
  refine lv_astore (lv' := [(7, .ref q9), (0, .ref o), (1, .int 5), (2, .int n), (3, .int z1), (4, .int z2), (5, .int z3), (6, .int z4)]) hx hb dL_asks_135 hl (by decide) rfl (fun ls hl => ?_)
  refine lv_bipush (v := (-10)) hx hb dL_asks_137 (by decide) ?_
  refine W.widen (k := 1) (n := 6) (by omega) (by omega) ?_
  exact W.iret (v := (-10)) hx hb hr (fun t ht hW => ⟨⟨(-10), (), rfl, rfl, ⟨by rw [ht]; exact hP, by rw [hAe]; exact hD⟩⟩, hS.F ht⟩) hS.2.2 dL_asks_139
set_option maxHeartbeats 4000000 in
set_option maxRecDepth 100000 in
theorem c_asks_lose_e (l : Launch) (D : va_G) (cA : Nat → ClassId) (zv : Nat → Nat) (sz : Nat) (o F G : Nat) (lo nw se : Int32) (pa : Nat → Nat) (an ln : Nat) (x : Nat → Nat) (y0 : Nat) (n : Int32) (xv : Nat → Int32) (xf : Nat) (QX : Qt) (z1 z2 z3 z4 : Int32) (hl0 : l.stackTraces = false) (he : en n F G (x 0) y0) (h0 : QX.1 = 0) : Met l yL_asks wsL_asks ({ frames := 10, cells := 1, slots := 6, locals := 144 }) (va_Pc [.ref o, .int 6, .int n, .int z1, .int z2, .int z3, .int z4] (zUX D cA zv sz [(o, .inr (4, [.ref F, .ref G, .int lo, .int nw, .int se, .ref (pa 0), .ref an, .ref ln])), cE x xv, (x 9, .inr (3, [.ref (x 10), .ref (x 11), .ref (x 12), .ref (x 13), .int (nI xf), .int (nI QX.1)]))])) (va_Qi (fun (r : Int32) (_ : Unit) => r = (-10)) (fun (_ : Unit) t => zB D [(o, .inr (4, [.ref F, .ref G, .int lo, .int nw, .int se, .ref (pa 0), .ref an, .ref ln])), cE x xv, (x 9, .inr (3, [.ref (x 10), .ref (x 11), .ref (x 12), .ref (x 13), .int (nI xf), .int (nI QX.1)]))] sz [(o, .inr (4, [.ref F, .ref G, .int lo, .int nw, .int se, .ref (pa 0), .ref an, .ref ln])), cE x xv, (x 9, .inr (3, [.ref (x 10), .ref (x 11), .ref (x 12), .ref (x 13), .int (nI xf), .int (nI QX.1)]))] t) (va_A [(o, .inr (4, [.ref F, .ref G, .int lo, .int nw, .int se, .ref (pa 0), .ref an, .ref ln])), cE x xv, (x 9, .inr (3, [.ref (x 10), .ref (x 11), .ref (x 12), .ref (x 13), .int (nI xf), .int (nI QX.1)]))] sz)) 1 6 (va_A [(o, .inr (4, [.ref F, .ref G, .int lo, .int nw, .int se, .ref (pa 0), .ref an, .ref ln])), cE x xv, (x 9, .inr (3, [.ref (x 10), .ref (x 11), .ref (x 12), .ref (x 13), .int (nI xf), .int (nI QX.1)]))] sz) := by
  refine z_ofWH (cc := cL_asks) (maxL := 8) (ret := (some .int)) (hh := [(0, 129, 130, 57), (0, 129, 135, 59)]) (by decide) rfl ?_
  intro p e s m args below meth c s₁ B hml htab hv
  obtain ⟨rfl, ⟨hsz, hP, hK, hD0, hE0⟩, hX0⟩ := hv
  have hx := B.exec
  have hb := B.bytes
  have hr := B.returns
  have hts := atoms_spec (ws := wsL_asks) B.pre
  have hown : s.vm.findClass RL = some m.cls := findClass_of_methodNamed B.named
  have hlocks := B.notSynchronized
  subst hsz
  have hD := hD0.self (sz := s.heap.size)
  generalize hAe : va_A [(o, .inr (4, [.ref F, .ref G, .int lo, .int nw, .int se, .ref (pa 0), .ref an, .ref ln])), cE x xv, (x 9, .inr (3, [.ref (x 10), .ref (x 11), .ref (x 12), .ref (x 13), .int (nI xf), .int (nI QX.1)]))] s.heap.size = A at hD hE0 hX0 ⊢
  have hA : ∀ q : Nat, s.heap.size ≤ q → A q := fun q h => by rw [← hAe]; exact Or.inr h
  have hS : va_S A s.heap s.heap [] := va_S.rf
  have hl := lv_entry ([.ref o, .int 6, .int n, .int z1, .int z2, .int z3, .int z4]) (n := 8) (Nat.le_of_ble_eq_true rfl)
  rw [lg_entry_eq]
  generalize (lg_sl ([.ref o, .int 6, .int n, .int z1, .int z2, .int z3, .int z4]) ++ List.replicate (8 - (lg_sl ([.ref o, .int 6, .int n, .int z1, .int z2, .int z3, .int z4])).length) Slot.unset).toArray = ls at hl ⊢
  have hl : lv_has ls 8 [(0, .ref o), (1, .int 6), (2, .int n), (3, .int z1), (4, .int z2), (5, .int z3), (6, .int z4)] := hl
  refine lv_iload_n hx hb dL_asks_0 rfl (lv_at hl 1 rfl) ?_
  refine lv_if_ne (tgt := 19) hx hb dL_asks_1 (by decide) (fun _ => ?_) (fun c_1 => absurd c_1 (by decide))
  refine lv_iload_n hx hb dL_asks_19 rfl (lv_at hl 1 rfl) ?_
  refine lv_iconst (v := 1) hx hb dL_asks_20 (by decide) ?_
  refine lv_icmp_ne (tgt := 37) hx hb dL_asks_21 (by decide) (fun _ => ?_) (fun c_2 => absurd c_2 (by decide))
  refine lv_iload_n hx hb dL_asks_37 rfl (lv_at hl 1 rfl) ?_
  refine lv_iconst (v := 2) hx hb dL_asks_38 (by decide) ?_
  refine lv_icmp_ne (tgt := 69) hx hb dL_asks_39 (by decide) (fun _ => ?_) (fun c_3 => absurd c_3 (by decide))
  refine lv_iload_n hx hb dL_asks_69 rfl (lv_at hl 1 rfl) ?_
  refine lv_iconst (v := 3) hx hb dL_asks_70 (by decide) ?_
  refine lv_icmp_ne (tgt := 83) hx hb dL_asks_71 (by decide) (fun _ => ?_) (fun c_4 => absurd c_4 (by decide))
  refine lv_iload_n hx hb dL_asks_83 rfl (lv_at hl 1 rfl) ?_
  refine lv_iconst (v := 4) hx hb dL_asks_84 (by decide) ?_
  refine lv_icmp_ne (tgt := 96) hx hb dL_asks_85 (by decide) (fun _ => ?_) (fun c_5 => absurd c_5 (by decide))
  refine lv_iload_n hx hb dL_asks_96 rfl (lv_at hl 1 rfl) ?_
  refine lv_iconst (v := 5) hx hb dL_asks_97 (by decide) ?_
  refine lv_icmp_ne (tgt := 109) hx hb dL_asks_98 (by decide) (fun _ => ?_) (fun c_6 => absurd c_6 (by decide))
  refine lv_iload_n hx hb dL_asks_109 rfl (lv_at hl 1 rfl) ?_
  refine lv_bipush (v := 6) hx hb dL_asks_110 (by decide) ?_
  refine lv_icmp_ne (tgt := 123) hx hb dL_asks_112 (by decide) (fun c_7 => absurd c_7 (by decide)) (fun _ => ?_)
  refine lv_aload_n hx hb dL_asks_115 rfl (lv_at hl 0 rfl) ?_
  refine lv_iload_n hx hb dL_asks_116 rfl (lv_at hl 2 rfl) ?_
  have hPc := hP.sub (ws' := [(o, .inr (4, [.ref F, .ref G, .int lo, .int nw, .int se, .ref (pa 0), .ref an, .ref ln])), cE x xv, (x 9, .inr (3, [.ref (x 10), .ref (x 11), .ref (x 12), .ref (x 13), .int (nI xf), .int (nI QX.1)]))]) [0, 1, 2] rfl
  have hDc := hD.sub (ws' := [(o, .inr (4, [.ref F, .ref G, .int lo, .int nw, .int se, .ref (pa 0), .ref an, .ref ln])), cE x xv, (x 9, .inr (3, [.ref (x 10), .ref (x 11), .ref (x 12), .ref (x 13), .int (nI xf), .int (nI QX.1)]))]) [0, 1, 2] (by decide) rfl
  have hFc := va_free (wc := [(o, .inr (4, [.ref F, .ref G, .int lo, .int nw, .int se, .ref (pa 0), .ref an, .ref ln])), cE x xv, (x 9, .inr (3, [.ref (x 10), .ref (x 11), .ref (x 12), .ref (x 13), .int (nI xf), .int (nI QX.1)]))]) hD hS hA [0, 1, 2] rfl
  refine vx_calli (vx_runV (As := [.int n]) (rest := []) ⟨hx, hb, hml, hown, hts⟩ (c_X3_lose_e l D cA zv s.heap.size hl0 o F G lo nw se pa an ln x y0 n xv xf QX (by assumption) (by assumption)) (cwV 1 hts gL_asks_X3_lose rfl rfl rfl (by decide +kernel) ⟨Nat.le_of_ble_eq_true rfl, Nat.le_of_ble_eq_true rfl⟩) ⟨zUX_blind, va_recv hK hPc (ci := 4) (q0 := 0) rfl rfl, fun U hU hW => ⟨rfl, zUX_call hE0 hX0 hS hFc hU hPc hW hK hDc⟩⟩ rfl rfl hl.1 rfl (lv_room (Nat.le_of_ble_eq_true rfl)) dL_asks_117 ⟨Nat.le_of_ble_eq_true rfl, Nat.le_of_ble_eq_true rfl⟩) hS (fun q _ h => hFc q h) hFc (fun q _ h => hFc q h) (fun E9 ce9 q9 u t H1 locs ht hvm hpx hB hz1 hk1 hS hcell hcv hcl => ?_) (fun zr u t H1 locs1 ht hvm hw _ _ _ _ => hw.elim)
  obtain ⟨rfl, hP1, hD1⟩ := hB
  rw [ht] at hP1
  obtain ⟨hP, hD⟩ := va_join (wr := []) (w1 := [(o, .inr (4, [.ref F, .ref G, .int lo, .int nw, .int se, .ref (pa 0), .ref an, .ref ln])), cE x xv, (x 9, .inr (3, [.ref (x 10), .ref (x 11), .ref (x 12), .ref (x 13), .int (nI xf), .int (nI QX.1)]))]) hP hD [0, 1, 2] [] rfl rfl (by decide) (by decide) hk1 hFc hP1 hD1
  have hP := hP.sub (ws' := [(o, .inr (4, [.ref F, .ref G, .int lo, .int nw, .int se, .ref (pa 0), .ref an, .ref ln])), cE x xv, (x 9, .inr (3, [.ref (x 10), .ref (x 11), .ref (x 12), .ref (x 13), .int (nI xf), .int (nI QX.1)]))]) [0, 1, 2] rfl
  have hD := hD.sub (ws' := [(o, .inr (4, [.ref F, .ref G, .int lo, .int nw, .int se, .ref (pa 0), .ref an, .ref ln])), cE x xv, (x 9, .inr (3, [.ref (x 10), .ref (x 11), .ref (x 12), .ref (x 13), .int (nI xf), .int (nI QX.1)]))]) [0, 1, 2] (by decide) rfl
  refine vx_catch hown [⟨0, 129, 130, 57⟩] ⟨0, 129, 135, 59⟩ [] htab (fun z hz => by obtain rfl := List.mem_singleton.mp hz; exact Or.inr ⟨by decide, _, (hts (.classLink RL 57 "java/lang/IllegalStateException") (List.mem_of_getElem? (i := 1) rfl)), hX0.2.2.2.2.2⟩) (by decide) (by decide) (hts (.classLink RL 59 "java/util/NoSuchElementException") (List.mem_of_getElem? (i := 2) rfl)) (va_Nw.use rfl (hX0.1.1 "java/util/NoSuchElementException" (by decide))) hcell hcv hcl ?_
  refine W.eq (g2 := F0 m 135 ls [.ref q9]) rfl ?_
  clear hcell
  generalize H1 = H at hP hS ⊢
  refine W.widen (k := 1) (n := 6) (by omega) (by omega) ?_
  refine lv_astore (lv' := [(7, .ref q9), (0, .ref o), (1, .int 6), (2, .int n), (3, .int z1), (4, .int z2), (5, .int z3), (6, .int z4)]) hx hb dL_asks_135 hl (by decide) rfl (fun ls hl => ?_)
  refine lv_bipush (v := (-10)) hx hb dL_asks_137 (by decide) ?_
  refine W.widen (k := 1) (n := 6) (by omega) (by omega) ?_
  exact W.iret (v := (-10)) hx hb hr (fun t ht hW => ⟨⟨(-10), (), rfl, rfl, ⟨by rw [ht]; exact hP, by rw [hAe]; exact hD⟩⟩, hS.F ht⟩) hS.2.2 dL_asks_139
set_option maxHeartbeats 4000000 in
set_option maxRecDepth 100000 in
theorem c_asks_kind_k (l : Launch) (D : va_G) (cA : Nat → ClassId) (sz : Nat) (o F G : Nat) (lo nw se : Int32) (pa : Nat → Nat) (an ln : Nat) (x : Nat → Nat) (y0 : Nat) (n : Int32) (xv : Nat → Int32) (xr : Nat → Nat → Int32) (xf : Nat) (QX : Qt) (k : Nat) (z2 z3 z4 : Int32) (he : en n F G (x 0) y0) (hqx : rg xr xf QX) (hk : k < QX.1) : Met l yL_asks wsL_asks ({ frames := 3, cells := 0, slots := 0, locals := 65 }) (va_Pc [.ref o, .int 7, .int n, .int (nI k), .int z2, .int z3, .int z4] (zU D cA sz [(o, .inr (4, [.ref F, .ref G, .int lo, .int nw, .int se, .ref (pa 0), .ref an, .ref ln])), cE x xv, (x 9, .inr (3, [.ref (x 10), .ref (x 11), .ref (x 12), .ref (x 13), .int (nI xf), .int (nI QX.1)])), (x 10, .inl (cA 0, 12, .inl (xr 0))), (x 11, .inl (cA 0, 12, .inl (xr 1))), (x 12, .inl (cA 0, 12, .inl (xr 2))), (x 13, .inl (cA 0, 48, .inl (xr 3)))])) (va_Qi (fun (r : Int32) (_ : Unit) => r = QX.2 k 0) (fun (_ : Unit) t => zB D [(o, .inr (4, [.ref F, .ref G, .int lo, .int nw, .int se, .ref (pa 0), .ref an, .ref ln])), cE x xv, (x 9, .inr (3, [.ref (x 10), .ref (x 11), .ref (x 12), .ref (x 13), .int (nI xf), .int (nI QX.1)])), (x 10, .inl (cA 0, 12, .inl (xr 0))), (x 11, .inl (cA 0, 12, .inl (xr 1))), (x 12, .inl (cA 0, 12, .inl (xr 2))), (x 13, .inl (cA 0, 48, .inl (xr 3)))] sz [(o, .inr (4, [.ref F, .ref G, .int lo, .int nw, .int se, .ref (pa 0), .ref an, .ref ln])), cE x xv, (x 9, .inr (3, [.ref (x 10), .ref (x 11), .ref (x 12), .ref (x 13), .int (nI xf), .int (nI QX.1)])), (x 10, .inl (cA 0, 12, .inl (xr 0))), (x 11, .inl (cA 0, 12, .inl (xr 1))), (x 12, .inl (cA 0, 12, .inl (xr 2))), (x 13, .inl (cA 0, 48, .inl (xr 3)))] t) (va_A [(o, .inr (4, [.ref F, .ref G, .int lo, .int nw, .int se, .ref (pa 0), .ref an, .ref ln])), cE x xv, (x 9, .inr (3, [.ref (x 10), .ref (x 11), .ref (x 12), .ref (x 13), .int (nI xf), .int (nI QX.1)])), (x 10, .inl (cA 0, 12, .inl (xr 0))), (x 11, .inl (cA 0, 12, .inl (xr 1))), (x 12, .inl (cA 0, 12, .inl (xr 2))), (x 13, .inl (cA 0, 48, .inl (xr 3)))] sz)) 0 0 (va_A [(o, .inr (4, [.ref F, .ref G, .int lo, .int nw, .int se, .ref (pa 0), .ref an, .ref ln])), cE x xv, (x 9, .inr (3, [.ref (x 10), .ref (x 11), .ref (x 12), .ref (x 13), .int (nI xf), .int (nI QX.1)])), (x 10, .inl (cA 0, 12, .inl (xr 0))), (x 11, .inl (cA 0, 12, .inl (xr 1))), (x 12, .inl (cA 0, 12, .inl (xr 2))), (x 13, .inl (cA 0, 48, .inl (xr 3)))] sz) := by
  refine z_ofWH (cc := cL_asks) (maxL := 8) (ret := (some .int)) (hh := [(0, 129, 130, 57), (0, 129, 135, 59)]) (by decide) rfl ?_
  intro p e s m args below meth c s₁ B hml htab hv
  obtain ⟨rfl, hsz, hP, hK, hD0⟩ := hv
  have hx := B.exec
  have hb := B.bytes
  have hr := B.returns
  have hts := atoms_spec (ws := wsL_asks) B.pre
  have hown : s.vm.findClass RL = some m.cls := findClass_of_methodNamed B.named
  have hlocks := B.notSynchronized
  subst hsz
  have hD := hD0.self (sz := s.heap.size)
  generalize hAe : va_A [(o, .inr (4, [.ref F, .ref G, .int lo, .int nw, .int se, .ref (pa 0), .ref an, .ref ln])), cE x xv, (x 9, .inr (3, [.ref (x 10), .ref (x 11), .ref (x 12), .ref (x 13), .int (nI xf), .int (nI QX.1)])), (x 10, .inl (cA 0, 12, .inl (xr 0))), (x 11, .inl (cA 0, 12, .inl (xr 1))), (x 12, .inl (cA 0, 12, .inl (xr 2))), (x 13, .inl (cA 0, 48, .inl (xr 3)))] s.heap.size = A at hD ⊢
  have hA : ∀ q : Nat, s.heap.size ≤ q → A q := fun q h => by rw [← hAe]; exact Or.inr h
  have hS : va_S A s.heap s.heap [] := va_S.rf
  have hl := lv_entry ([.ref o, .int 7, .int n, .int (nI k), .int z2, .int z3, .int z4]) (n := 8) (Nat.le_of_ble_eq_true rfl)
  rw [lg_entry_eq]
  generalize (lg_sl ([.ref o, .int 7, .int n, .int (nI k), .int z2, .int z3, .int z4]) ++ List.replicate (8 - (lg_sl ([.ref o, .int 7, .int n, .int (nI k), .int z2, .int z3, .int z4])).length) Slot.unset).toArray = ls at hl ⊢
  have hl : lv_has ls 8 [(0, .ref o), (1, .int 7), (2, .int n), (3, .int (nI k)), (4, .int z2), (5, .int z3), (6, .int z4)] := hl
  refine lv_iload_n hx hb dL_asks_0 rfl (lv_at hl 1 rfl) ?_
  refine lv_if_ne (tgt := 19) hx hb dL_asks_1 (by decide) (fun _ => ?_) (fun c_1 => absurd c_1 (by decide))
  refine lv_iload_n hx hb dL_asks_19 rfl (lv_at hl 1 rfl) ?_
  refine lv_iconst (v := 1) hx hb dL_asks_20 (by decide) ?_
  refine lv_icmp_ne (tgt := 37) hx hb dL_asks_21 (by decide) (fun _ => ?_) (fun c_2 => absurd c_2 (by decide))
  refine lv_iload_n hx hb dL_asks_37 rfl (lv_at hl 1 rfl) ?_
  refine lv_iconst (v := 2) hx hb dL_asks_38 (by decide) ?_
  refine lv_icmp_ne (tgt := 69) hx hb dL_asks_39 (by decide) (fun _ => ?_) (fun c_3 => absurd c_3 (by decide))
  refine lv_iload_n hx hb dL_asks_69 rfl (lv_at hl 1 rfl) ?_
  refine lv_iconst (v := 3) hx hb dL_asks_70 (by decide) ?_
  refine lv_icmp_ne (tgt := 83) hx hb dL_asks_71 (by decide) (fun _ => ?_) (fun c_4 => absurd c_4 (by decide))
  refine lv_iload_n hx hb dL_asks_83 rfl (lv_at hl 1 rfl) ?_
  refine lv_iconst (v := 4) hx hb dL_asks_84 (by decide) ?_
  refine lv_icmp_ne (tgt := 96) hx hb dL_asks_85 (by decide) (fun _ => ?_) (fun c_5 => absurd c_5 (by decide))
  refine lv_iload_n hx hb dL_asks_96 rfl (lv_at hl 1 rfl) ?_
  refine lv_iconst (v := 5) hx hb dL_asks_97 (by decide) ?_
  refine lv_icmp_ne (tgt := 109) hx hb dL_asks_98 (by decide) (fun _ => ?_) (fun c_6 => absurd c_6 (by decide))
  refine lv_iload_n hx hb dL_asks_109 rfl (lv_at hl 1 rfl) ?_
  refine lv_bipush (v := 6) hx hb dL_asks_110 (by decide) ?_
  refine lv_icmp_ne (tgt := 123) hx hb dL_asks_112 (by decide) (fun _ => ?_) (fun c_7 => absurd c_7 (by decide))
  refine lv_aload_n hx hb dL_asks_123 rfl (lv_at hl 0 rfl) ?_
  refine lv_iload_n hx hb dL_asks_124 rfl (lv_at hl 2 rfl) ?_
  refine lv_iload_n hx hb dL_asks_125 rfl (lv_at hl 3 rfl) ?_
  have hPc := hP.sub (ws' := [(o, .inr (4, [.ref F, .ref G, .int lo, .int nw, .int se, .ref (pa 0), .ref an, .ref ln])), cE x xv, (x 9, .inr (3, [.ref (x 10), .ref (x 11), .ref (x 12), .ref (x 13), .int (nI xf), .int (nI QX.1)])), (x 10, .inl (cA 0, 12, .inl (xr 0))), (x 11, .inl (cA 0, 12, .inl (xr 1))), (x 12, .inl (cA 0, 12, .inl (xr 2))), (x 13, .inl (cA 0, 48, .inl (xr 3)))]) [0, 1, 2, 3, 4, 5, 6] rfl
  have hDc := hD.sub (ws' := [(o, .inr (4, [.ref F, .ref G, .int lo, .int nw, .int se, .ref (pa 0), .ref an, .ref ln])), cE x xv, (x 9, .inr (3, [.ref (x 10), .ref (x 11), .ref (x 12), .ref (x 13), .int (nI xf), .int (nI QX.1)])), (x 10, .inl (cA 0, 12, .inl (xr 0))), (x 11, .inl (cA 0, 12, .inl (xr 1))), (x 12, .inl (cA 0, 12, .inl (xr 2))), (x 13, .inl (cA 0, 48, .inl (xr 3)))]) [0, 1, 2, 3, 4, 5, 6] (by decide) rfl
  have hFc := va_free (wc := [(o, .inr (4, [.ref F, .ref G, .int lo, .int nw, .int se, .ref (pa 0), .ref an, .ref ln])), cE x xv, (x 9, .inr (3, [.ref (x 10), .ref (x 11), .ref (x 12), .ref (x 13), .int (nI xf), .int (nI QX.1)])), (x 10, .inl (cA 0, 12, .inl (xr 0))), (x 11, .inl (cA 0, 12, .inl (xr 1))), (x 12, .inl (cA 0, 12, .inl (xr 2))), (x 13, .inl (cA 0, 48, .inl (xr 3)))]) hD hS hA [0, 1, 2, 3, 4, 5, 6] rfl
  refine va_calli (va_runV (As := [.int n, .int (nI k)]) (rest := []) ⟨hx, hb, hml, hown, hts⟩ (c_X3_kindAt_k l D cA s.heap.size o F G lo nw se pa an ln x y0 n xv xr xf QX k (by assumption) (by assumption) (by assumption)) (cwV 2 hts gL_asks_X3_kindAt rfl rfl rfl (by decide +kernel) ⟨Nat.le_of_ble_eq_true rfl, Nat.le_of_ble_eq_true rfl⟩) ⟨zU_blind, va_recv hK hPc (ci := 4) (q0 := 0) rfl rfl, fun U hU hW => ⟨rfl, zU_call hU hPc hW.alike hK hDc⟩⟩ rfl rfl hl.1 rfl (lv_room (Nat.le_of_ble_eq_true rfl)) dL_asks_126 ⟨(Nat.zero_le _), (Nat.zero_le _)⟩) hS (fun q _ h => hFc q h) hFc (fun zr u t H1 locs ht hvm hw hB hz1 hk1 hS => ?_)
  obtain ⟨hP1, hD1⟩ := hB
  rw [ht] at hP1
  obtain ⟨hP, hD⟩ := va_join (wr := []) (w1 := [(o, .inr (4, [.ref F, .ref G, .int lo, .int nw, .int se, .ref (pa 0), .ref an, .ref ln])), cE x xv, (x 9, .inr (3, [.ref (x 10), .ref (x 11), .ref (x 12), .ref (x 13), .int (nI xf), .int (nI QX.1)])), (x 10, .inl (cA 0, 12, .inl (xr 0))), (x 11, .inl (cA 0, 12, .inl (xr 1))), (x 12, .inl (cA 0, 12, .inl (xr 2))), (x 13, .inl (cA 0, 48, .inl (xr 3)))]) hP hD [0, 1, 2, 3, 4, 5, 6] [] rfl rfl (by decide) (by decide) hk1 hFc hP1 hD1
  generalize H1 = H at hP hS ⊢
  have hP := hP.sub (ws' := [(o, .inr (4, [.ref F, .ref G, .int lo, .int nw, .int se, .ref (pa 0), .ref an, .ref ln])), cE x xv, (x 9, .inr (3, [.ref (x 10), .ref (x 11), .ref (x 12), .ref (x 13), .int (nI xf), .int (nI QX.1)])), (x 10, .inl (cA 0, 12, .inl (xr 0))), (x 11, .inl (cA 0, 12, .inl (xr 1))), (x 12, .inl (cA 0, 12, .inl (xr 2))), (x 13, .inl (cA 0, 48, .inl (xr 3)))]) [0, 1, 2, 3, 4, 5, 6] rfl
  have hD := hD.sub (ws' := [(o, .inr (4, [.ref F, .ref G, .int lo, .int nw, .int se, .ref (pa 0), .ref an, .ref ln])), cE x xv, (x 9, .inr (3, [.ref (x 10), .ref (x 11), .ref (x 12), .ref (x 13), .int (nI xf), .int (nI QX.1)])), (x 10, .inl (cA 0, 12, .inl (xr 0))), (x 11, .inl (cA 0, 12, .inl (xr 1))), (x 12, .inl (cA 0, 12, .inl (xr 2))), (x 13, .inl (cA 0, 48, .inl (xr 3)))]) [0, 1, 2, 3, 4, 5, 6] (by decide) rfl
  clear hPc hDc hFc hP1 hD1 hk1 hz1
  have hw_8 := hw
  obtain rfl := hw
  refine W.widen (k := 0) (n := 0) (by omega) (by omega) ?_
  exact W.iret (v := (QX.2 k 0)) hx hb hr (fun t ht hW => ⟨⟨QX.2 k 0, (), rfl, rfl, ⟨by rw [ht]; exact hP, by rw [hAe]; exact hD⟩⟩, hS.F ht⟩) hS.2.2 dL_asks_129
set_option maxHeartbeats 4000000 in
set_option maxRecDepth 100000 in
theorem c_asks_kind_p (l : Launch) (D : va_G) (cA : Nat → ClassId) (zv : Nat → Nat) (sz : Nat) (o F G : Nat) (lo nw se : Int32) (pa : Nat → Nat) (an ln : Nat) (x : Nat → Nat) (y0 : Nat) (n : Int32) (xv : Nat → Int32) (xf : Nat) (QX : Qt) (q : Int32) (z2 z3 z4 : Int32) (hl0 : l.stackTraces = false) (he : en n F G (x 0) y0) (hq12 : QX.1 ≤ 12) (hp : ¬ inr q 0 (nI QX.1 - 1)) : Met l yL_asks wsL_asks ({ frames := 10, cells := 1, slots := 6, locals := 144 }) (va_Pc [.ref o, .int 7, .int n, .int q, .int z2, .int z3, .int z4] (zUX D cA zv sz [(o, .inr (4, [.ref F, .ref G, .int lo, .int nw, .int se, .ref (pa 0), .ref an, .ref ln])), cE x xv, (x 9, .inr (3, [.ref (x 10), .ref (x 11), .ref (x 12), .ref (x 13), .int (nI xf), .int (nI QX.1)]))])) (va_Qi (fun (r : Int32) (_ : Unit) => r = (-10)) (fun (_ : Unit) t => zB D [(o, .inr (4, [.ref F, .ref G, .int lo, .int nw, .int se, .ref (pa 0), .ref an, .ref ln])), cE x xv, (x 9, .inr (3, [.ref (x 10), .ref (x 11), .ref (x 12), .ref (x 13), .int (nI xf), .int (nI QX.1)]))] sz [(o, .inr (4, [.ref F, .ref G, .int lo, .int nw, .int se, .ref (pa 0), .ref an, .ref ln])), cE x xv, (x 9, .inr (3, [.ref (x 10), .ref (x 11), .ref (x 12), .ref (x 13), .int (nI xf), .int (nI QX.1)]))] t) (va_A [(o, .inr (4, [.ref F, .ref G, .int lo, .int nw, .int se, .ref (pa 0), .ref an, .ref ln])), cE x xv, (x 9, .inr (3, [.ref (x 10), .ref (x 11), .ref (x 12), .ref (x 13), .int (nI xf), .int (nI QX.1)]))] sz)) 1 6 (va_A [(o, .inr (4, [.ref F, .ref G, .int lo, .int nw, .int se, .ref (pa 0), .ref an, .ref ln])), cE x xv, (x 9, .inr (3, [.ref (x 10), .ref (x 11), .ref (x 12), .ref (x 13), .int (nI xf), .int (nI QX.1)]))] sz) := by
  refine z_ofWH (cc := cL_asks) (maxL := 8) (ret := (some .int)) (hh := [(0, 129, 130, 57), (0, 129, 135, 59)]) (by decide) rfl ?_
  intro p e s m args below meth c s₁ B hml htab hv
  obtain ⟨rfl, ⟨hsz, hP, hK, hD0, hE0⟩, hX0⟩ := hv
  have hx := B.exec
  have hb := B.bytes
  have hr := B.returns
  have hts := atoms_spec (ws := wsL_asks) B.pre
  have hown : s.vm.findClass RL = some m.cls := findClass_of_methodNamed B.named
  have hlocks := B.notSynchronized
  subst hsz
  have hD := hD0.self (sz := s.heap.size)
  generalize hAe : va_A [(o, .inr (4, [.ref F, .ref G, .int lo, .int nw, .int se, .ref (pa 0), .ref an, .ref ln])), cE x xv, (x 9, .inr (3, [.ref (x 10), .ref (x 11), .ref (x 12), .ref (x 13), .int (nI xf), .int (nI QX.1)]))] s.heap.size = A at hD hE0 hX0 ⊢
  have hA : ∀ q : Nat, s.heap.size ≤ q → A q := fun q h => by rw [← hAe]; exact Or.inr h
  have hS : va_S A s.heap s.heap [] := va_S.rf
  have hl := lv_entry ([.ref o, .int 7, .int n, .int q, .int z2, .int z3, .int z4]) (n := 8) (Nat.le_of_ble_eq_true rfl)
  rw [lg_entry_eq]
  generalize (lg_sl ([.ref o, .int 7, .int n, .int q, .int z2, .int z3, .int z4]) ++ List.replicate (8 - (lg_sl ([.ref o, .int 7, .int n, .int q, .int z2, .int z3, .int z4])).length) Slot.unset).toArray = ls at hl ⊢
  have hl : lv_has ls 8 [(0, .ref o), (1, .int 7), (2, .int n), (3, .int q), (4, .int z2), (5, .int z3), (6, .int z4)] := hl
  refine lv_iload_n hx hb dL_asks_0 rfl (lv_at hl 1 rfl) ?_
  refine lv_if_ne (tgt := 19) hx hb dL_asks_1 (by decide) (fun _ => ?_) (fun c_1 => absurd c_1 (by decide))
  refine lv_iload_n hx hb dL_asks_19 rfl (lv_at hl 1 rfl) ?_
  refine lv_iconst (v := 1) hx hb dL_asks_20 (by decide) ?_
  refine lv_icmp_ne (tgt := 37) hx hb dL_asks_21 (by decide) (fun _ => ?_) (fun c_2 => absurd c_2 (by decide))
  refine lv_iload_n hx hb dL_asks_37 rfl (lv_at hl 1 rfl) ?_
  refine lv_iconst (v := 2) hx hb dL_asks_38 (by decide) ?_
  refine lv_icmp_ne (tgt := 69) hx hb dL_asks_39 (by decide) (fun _ => ?_) (fun c_3 => absurd c_3 (by decide))
  refine lv_iload_n hx hb dL_asks_69 rfl (lv_at hl 1 rfl) ?_
  refine lv_iconst (v := 3) hx hb dL_asks_70 (by decide) ?_
  refine lv_icmp_ne (tgt := 83) hx hb dL_asks_71 (by decide) (fun _ => ?_) (fun c_4 => absurd c_4 (by decide))
  refine lv_iload_n hx hb dL_asks_83 rfl (lv_at hl 1 rfl) ?_
  refine lv_iconst (v := 4) hx hb dL_asks_84 (by decide) ?_
  refine lv_icmp_ne (tgt := 96) hx hb dL_asks_85 (by decide) (fun _ => ?_) (fun c_5 => absurd c_5 (by decide))
  refine lv_iload_n hx hb dL_asks_96 rfl (lv_at hl 1 rfl) ?_
  refine lv_iconst (v := 5) hx hb dL_asks_97 (by decide) ?_
  refine lv_icmp_ne (tgt := 109) hx hb dL_asks_98 (by decide) (fun _ => ?_) (fun c_6 => absurd c_6 (by decide))
  refine lv_iload_n hx hb dL_asks_109 rfl (lv_at hl 1 rfl) ?_
  refine lv_bipush (v := 6) hx hb dL_asks_110 (by decide) ?_
  refine lv_icmp_ne (tgt := 123) hx hb dL_asks_112 (by decide) (fun _ => ?_) (fun c_7 => absurd c_7 (by decide))
  refine lv_aload_n hx hb dL_asks_123 rfl (lv_at hl 0 rfl) ?_
  refine lv_iload_n hx hb dL_asks_124 rfl (lv_at hl 2 rfl) ?_
  refine lv_iload_n hx hb dL_asks_125 rfl (lv_at hl 3 rfl) ?_
  have hPc := hP.sub (ws' := [(o, .inr (4, [.ref F, .ref G, .int lo, .int nw, .int se, .ref (pa 0), .ref an, .ref ln])), cE x xv, (x 9, .inr (3, [.ref (x 10), .ref (x 11), .ref (x 12), .ref (x 13), .int (nI xf), .int (nI QX.1)]))]) [0, 1, 2] rfl
  have hDc := hD.sub (ws' := [(o, .inr (4, [.ref F, .ref G, .int lo, .int nw, .int se, .ref (pa 0), .ref an, .ref ln])), cE x xv, (x 9, .inr (3, [.ref (x 10), .ref (x 11), .ref (x 12), .ref (x 13), .int (nI xf), .int (nI QX.1)]))]) [0, 1, 2] (by decide) rfl
  have hFc := va_free (wc := [(o, .inr (4, [.ref F, .ref G, .int lo, .int nw, .int se, .ref (pa 0), .ref an, .ref ln])), cE x xv, (x 9, .inr (3, [.ref (x 10), .ref (x 11), .ref (x 12), .ref (x 13), .int (nI xf), .int (nI QX.1)]))]) hD hS hA [0, 1, 2] rfl
  refine vx_calli (vx_runV (As := [.int n, .int q]) (rest := []) ⟨hx, hb, hml, hown, hts⟩ (c_X3_kindAt_p l D cA zv s.heap.size hl0 o F G lo nw se pa an ln x y0 n xv xf QX q (by assumption) (by assumption) (by assumption)) (cwV 2 hts gL_asks_X3_kindAt rfl rfl rfl (by decide +kernel) ⟨Nat.le_of_ble_eq_true rfl, Nat.le_of_ble_eq_true rfl⟩) ⟨zUX_blind, va_recv hK hPc (ci := 4) (q0 := 0) rfl rfl, fun U hU hW => ⟨rfl, zUX_call hE0 hX0 hS hFc hU hPc hW hK hDc⟩⟩ rfl rfl hl.1 rfl (lv_room (Nat.le_of_ble_eq_true rfl)) dL_asks_126 ⟨Nat.le_of_ble_eq_true rfl, Nat.le_of_ble_eq_true rfl⟩) hS (fun q _ h => hFc q h) hFc (fun q _ h => hFc q h) (fun E9 ce9 q9 u t H1 locs ht hvm hpx hB hz1 hk1 hS hcell hcv hcl => ?_) (fun zr u t H1 locs1 ht hvm hw _ _ _ _ => hw.elim)
  obtain ⟨rfl, hP1, hD1⟩ := hB
  rw [ht] at hP1
  obtain ⟨hP, hD⟩ := va_join (wr := []) (w1 := [(o, .inr (4, [.ref F, .ref G, .int lo, .int nw, .int se, .ref (pa 0), .ref an, .ref ln])), cE x xv, (x 9, .inr (3, [.ref (x 10), .ref (x 11), .ref (x 12), .ref (x 13), .int (nI xf), .int (nI QX.1)]))]) hP hD [0, 1, 2] [] rfl rfl (by decide) (by decide) hk1 hFc hP1 hD1
  have hP := hP.sub (ws' := [(o, .inr (4, [.ref F, .ref G, .int lo, .int nw, .int se, .ref (pa 0), .ref an, .ref ln])), cE x xv, (x 9, .inr (3, [.ref (x 10), .ref (x 11), .ref (x 12), .ref (x 13), .int (nI xf), .int (nI QX.1)]))]) [0, 1, 2] rfl
  have hD := hD.sub (ws' := [(o, .inr (4, [.ref F, .ref G, .int lo, .int nw, .int se, .ref (pa 0), .ref an, .ref ln])), cE x xv, (x 9, .inr (3, [.ref (x 10), .ref (x 11), .ref (x 12), .ref (x 13), .int (nI xf), .int (nI QX.1)]))]) [0, 1, 2] (by decide) rfl
  refine vx_catch hown [⟨0, 129, 130, 57⟩] ⟨0, 129, 135, 59⟩ [] htab (fun z hz => by obtain rfl := List.mem_singleton.mp hz; exact Or.inr ⟨by decide, _, (hts (.classLink RL 57 "java/lang/IllegalStateException") (List.mem_of_getElem? (i := 1) rfl)), hX0.2.2.2.2.2⟩) (by decide) (by decide) (hts (.classLink RL 59 "java/util/NoSuchElementException") (List.mem_of_getElem? (i := 2) rfl)) (va_Nw.use rfl (hX0.1.1 "java/util/NoSuchElementException" (by decide))) hcell hcv hcl ?_
  refine W.eq (g2 := F0 m 135 ls [.ref q9]) rfl ?_
  clear hcell
  generalize H1 = H at hP hS ⊢
  refine W.widen (k := 1) (n := 6) (by omega) (by omega) ?_
  refine lv_astore (lv' := [(7, .ref q9), (0, .ref o), (1, .int 7), (2, .int n), (3, .int q), (4, .int z2), (5, .int z3), (6, .int z4)]) hx hb dL_asks_135 hl (by decide) rfl (fun ls hl => ?_)
  refine lv_bipush (v := (-10)) hx hb dL_asks_137 (by decide) ?_
  refine W.widen (k := 1) (n := 6) (by omega) (by omega) ?_
  exact W.iret (v := (-10)) hx hb hr (fun t ht hW => ⟨⟨(-10), (), rfl, rfl, ⟨by rw [ht]; exact hP, by rw [hAe]; exact hD⟩⟩, hS.F ht⟩) hS.2.2 dL_asks_139
