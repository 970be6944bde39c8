set_option maxHeartbeats 4000000 in
set_option maxRecDepth 100000 in
theorem c_L_deliver_k (l : Launch) (D : va_G) (cA : Nat → ClassId) (zv : Nat → Nat) (sz : Nat) (o F G : Nat) (lo nw se : Int32) (pa : Nat → Nat) (an ln : Nat) (x y : Nat → Nat) (n : Int32) (xv yv : Nat → Int32) (xr yr : Nat → Nat → Int32) (xf yf : Nat) (QX QY : Qt) (xd : Nat → Nat → Int32) (kd nb mk : Int32) (w : Nat → Int32) (g : Nat → Int32) (ou : Nat) (ov : Nat → Int64) (he : en n F G (x 0) (y 0)) (hqx : rg xr xf QX) (hqy : rg yr yf QY) (h0 : 0 < QX.1) : Met l yL_deliver wsL_deliver ({ frames := 7, cells := 0, slots := 0, locals := 163 }) (va_Pc [.ref o, .int n, .ref ou] (zUE D cA zv sz [(o, .inr (5, [.ref F, .ref G, .int lo, .int nw, .int se, .ref (pa 0), .ref an, .ref ln])), cE x xv, (x 1, .inl (cA 0, 4, .inl (xd 0))), (x 2, .inl (cA 0, 4, .inl (xd 1))), (x 3, .inl (cA 0, 4, .inl (xd 2))), (x 4, .inl (cA 0, 4, .inl (xd 3))), (x 5, .inl (cA 0, 4, .inl (xd 4))), (x 6, .inl (cA 1, 4, .inl (xd 5))), (x 7, .inl (cA 0, 4, .inl (xd 6))), (x 8, .inl (cA 0, 4, .inl (xd 7))), (x 9, .inr (4, [.ref (x 10), .ref (x 11), .ref (x 12), .ref (x 13), .int (nI xf), .int (nI QX.1)])), (x 10, .inl (cA 0, 12, .inl (xr 0))), (x 11, .inl (cA 0, 12, .inl (xr 1))), (x 12, .inl (cA 0, 12, .inl (xr 2))), (x 13, .inl (cA 0, 48, .inl (xr 3))), cE y yv, (y 9, .inr (4, [.ref (y 10), .ref (y 11), .ref (y 12), .ref (y 13), .int (nI yf), .int (nI QY.1)])), (y 10, .inl (cA 0, 12, .inl (yr 0))), (y 11, .inl (cA 0, 12, .inl (yr 1))), (y 12, .inl (cA 0, 12, .inl (yr 2))), (y 13, .inl (cA 0, 48, .inl (yr 3))), (pa 0, .inr (3, [.ref (pa 1), .int kd, .int nb, .int mk])), (pa 1, .inl (cA 0, 4, .inl w)), (an, .inl (cA 0, 4, .inl g)), (ou, .inl (cA 3, 1, .inr (.inl ov)))])) (va_Qi (fun (r : Int32) (u : ((Nat → Int32) × (Nat → Nat → Int32) × (Nat → Int32) × Nat × (Nat → Nat → Int32) × (Nat → Nat → Int32) × Qt × Qt × Int32)) => u.1 = ((hea lo (QX.2 0 0) (QX.2 0 1) (QX.2 0 2) (fun k => QX.2 0 (3 + k)) xv xd (pop QX) QY se)).1 ∧ u.2.1 = ((hea lo (QX.2 0 0) (QX.2 0 1) (QX.2 0 2) (fun k => QX.2 0 (3 + k)) xv xd (pop QX) QY se)).2.1 ∧ u.2.2.2.2.2.2.1 = ((hea lo (QX.2 0 0) (QX.2 0 1) (QX.2 0 2) (fun k => QX.2 0 (3 + k)) xv xd (pop QX) QY se)).2.2.1.1 ∧ u.2.2.2.2.2.2.2.1 = ((hea lo (QX.2 0 0) (QX.2 0 1) (QX.2 0 2) (fun k => QX.2 0 (3 + k)) xv xd (pop QX) QY se)).2.2.1.2 ∧ u.2.2.2.2.2.2.2.2 = ((hea lo (QX.2 0 0) (QX.2 0 1) (QX.2 0 2) (fun k => QX.2 0 (3 + k)) xv xd (pop QX) QY se)).2.2.2 ∧ rg u.2.2.2.2.1 u.2.2.2.1 u.2.2.2.2.2.2.1 ∧ rg u.2.2.2.2.2.1 yf u.2.2.2.2.2.2.2.1 ∧ r = 0) (fun (u : ((Nat → Int32) × (Nat → Nat → Int32) × (Nat → Int32) × Nat × (Nat → Nat → Int32) × (Nat → Nat → Int32) × Qt × Qt × Int32)) t => zB D [(o, .inr (5, [.ref F, .ref G, .int lo, .int nw, .int se, .ref (pa 0), .ref an, .ref ln])), cE x xv, (x 1, .inl (cA 0, 4, .inl (xd 0))), (x 2, .inl (cA 0, 4, .inl (xd 1))), (x 3, .inl (cA 0, 4, .inl (xd 2))), (x 4, .inl (cA 0, 4, .inl (xd 3))), (x 5, .inl (cA 0, 4, .inl (xd 4))), (x 6, .inl (cA 1, 4, .inl (xd 5))), (x 7, .inl (cA 0, 4, .inl (xd 6))), (x 8, .inl (cA 0, 4, .inl (xd 7))), (x 9, .inr (4, [.ref (x 10), .ref (x 11), .ref (x 12), .ref (x 13), .int (nI xf), .int (nI QX.1)])), (x 10, .inl (cA 0, 12, .inl (xr 0))), (x 11, .inl (cA 0, 12, .inl (xr 1))), (x 12, .inl (cA 0, 12, .inl (xr 2))), (x 13, .inl (cA 0, 48, .inl (xr 3))), cE y yv, (y 9, .inr (4, [.ref (y 10), .ref (y 11), .ref (y 12), .ref (y 13), .int (nI yf), .int (nI QY.1)])), (y 10, .inl (cA 0, 12, .inl (yr 0))), (y 11, .inl (cA 0, 12, .inl (yr 1))), (y 12, .inl (cA 0, 12, .inl (yr 2))), (y 13, .inl (cA 0, 48, .inl (yr 3))), (pa 0, .inr (3, [.ref (pa 1), .int kd, .int nb, .int mk])), (pa 1, .inl (cA 0, 4, .inl w)), (an, .inl (cA 0, 4, .inl g)), (ou, .inl (cA 3, 1, .inr (.inl ov)))] sz [(o, .inr (5, [.ref F, .ref G, .int lo, .int nw, .int u.2.2.2.2.2.2.2.2, .ref (pa 0), .ref an, .ref ln])), cE x u.1, (x 1, .inl (cA 0, 4, .inl (u.2.1 0))), (x 2, .inl (cA 0, 4, .inl (u.2.1 1))), (x 3, .inl (cA 0, 4, .inl (u.2.1 2))), (x 4, .inl (cA 0, 4, .inl (u.2.1 3))), (x 5, .inl (cA 0, 4, .inl (u.2.1 4))), (x 6, .inl (cA 1, 4, .inl (u.2.1 5))), (x 7, .inl (cA 0, 4, .inl (u.2.1 6))), (x 8, .inl (cA 0, 4, .inl (u.2.1 7))), (x 9, .inr (4, [.ref (x 10), .ref (x 11), .ref (x 12), .ref (x 13), .int (nI u.2.2.2.1), .int (nI u.2.2.2.2.2.2.1.1)])), (x 10, .inl (cA 0, 12, .inl (u.2.2.2.2.1 0))), (x 11, .inl (cA 0, 12, .inl (u.2.2.2.2.1 1))), (x 12, .inl (cA 0, 12, .inl (u.2.2.2.2.1 2))), (x 13, .inl (cA 0, 48, .inl (u.2.2.2.2.1 3))), cE y yv, (y 9, .inr (4, [.ref (y 10), .ref (y 11), .ref (y 12), .ref (y 13), .int (nI yf), .int (nI u.2.2.2.2.2.2.2.1.1)])), (y 10, .inl (cA 0, 12, .inl (u.2.2.2.2.2.1 0))), (y 11, .inl (cA 0, 12, .inl (u.2.2.2.2.2.1 1))), (y 12, .inl (cA 0, 12, .inl (u.2.2.2.2.2.1 2))), (y 13, .inl (cA 0, 48, .inl (u.2.2.2.2.2.1 3))), (pa 0, .inr (3, [.ref (pa 1), .int (QX.2 0 0), .int (QX.2 0 1), .int (QX.2 0 2)])), (pa 1, .inl (cA 0, 4, .inl (fun k => QX.2 0 (3 + k)))), (an, .inl (cA 0, 4, .inl u.2.2.1)), (ou, .inl (cA 3, 1, .inr (.inl (vp_updL ov 0 (QX.2 0 0).toInt64))))] t) (va_A [(o, .inr (5, [.ref F, .ref G, .int lo, .int nw, .int se, .ref (pa 0), .ref an, .ref ln])), cE x xv, (x 1, .inl (cA 0, 4, .inl (xd 0))), (x 2, .inl (cA 0, 4, .inl (xd 1))), (x 3, .inl (cA 0, 4, .inl (xd 2))), (x 4, .inl (cA 0, 4, .inl (xd 3))), (x 5, .inl (cA 0, 4, .inl (xd 4))), (x 6, .inl (cA 1, 4, .inl (xd 5))), (x 7, .inl (cA 0, 4, .inl (xd 6))), (x 8, .inl (cA 0, 4, .inl (xd 7))), (x 9, .inr (4, [.ref (x 10), .ref (x 11), .ref (x 12), .ref (x 13), .int (nI xf), .int (nI QX.1)])), (x 10, .inl (cA 0, 12, .inl (xr 0))), (x 11, .inl (cA 0, 12, .inl (xr 1))), (x 12, .inl (cA 0, 12, .inl (xr 2))), (x 13, .inl (cA 0, 48, .inl (xr 3))), cE y yv, (y 9, .inr (4, [.ref (y 10), .ref (y 11), .ref (y 12), .ref (y 13), .int (nI yf), .int (nI QY.1)])), (y 10, .inl (cA 0, 12, .inl (yr 0))), (y 11, .inl (cA 0, 12, .inl (yr 1))), (y 12, .inl (cA 0, 12, .inl (yr 2))), (y 13, .inl (cA 0, 48, .inl (yr 3))), (pa 0, .inr (3, [.ref (pa 1), .int kd, .int nb, .int mk])), (pa 1, .inl (cA 0, 4, .inl w)), (an, .inl (cA 0, 4, .inl g)), (ou, .inl (cA 3, 1, .inr (.inl ov)))] sz)) 0 0 (va_A [(o, .inr (5, [.ref F, .ref G, .int lo, .int nw, .int se, .ref (pa 0), .ref an, .ref ln])), cE x xv, (x 1, .inl (cA 0, 4, .inl (xd 0))), (x 2, .inl (cA 0, 4, .inl (xd 1))), (x 3, .inl (cA 0, 4, .inl (xd 2))), (x 4, .inl (cA 0, 4, .inl (xd 3))), (x 5, .inl (cA 0, 4, .inl (xd 4))), (x 6, .inl (cA 1, 4, .inl (xd 5))), (x 7, .inl (cA 0, 4, .inl (xd 6))), (x 8, .inl (cA 0, 4, .inl (xd 7))), (x 9, .inr (4, [.ref (x 10), .ref (x 11), .ref (x 12), .ref (x 13), .int (nI xf), .int (nI QX.1)])), (x 10, .inl (cA 0, 12, .inl (xr 0))), (x 11, .inl (cA 0, 12, .inl (xr 1))), (x 12, .inl (cA 0, 12, .inl (xr 2))), (x 13, .inl (cA 0, 48, .inl (xr 3))), cE y yv, (y 9, .inr (4, [.ref (y 10), .ref (y 11), .ref (y 12), .ref (y 13), .int (nI yf), .int (nI QY.1)])), (y 10, .inl (cA 0, 12, .inl (yr 0))), (y 11, .inl (cA 0, 12, .inl (yr 1))), (y 12, .inl (cA 0, 12, .inl (yr 2))), (y 13, .inl (cA 0, 48, .inl (yr 3))), (pa 0, .inr (3, [.ref (pa 1), .int kd, .int nb, .int mk])), (pa 1, .inl (cA 0, 4, .inl w)), (an, .inl (cA 0, 4, .inl g)), (ou, .inl (cA 3, 1, .inr (.inl ov)))] sz) := by
  refine z_ofWH (cc := cL_deliver) (maxL := 4) (ret := (some .int)) (hh := [(0, 9, 12, 13), (0, 9, 15, 37)]) (by decide) rfl ?_
  intro p e s m args below meth c s₁ B hml htab hv
  obtain ⟨rfl, hsz, hP, hK, hD0, hE0⟩ := hv
  have hx := B.exec
  have hb := B.bytes
  have hr := B.returns
  have hts := atoms_spec (ws := wsL_deliver) B.pre
  have hown : s.vm.findClass RL = some m.cls := findClass_of_methodNamed B.named
  have hlocks := B.notSynchronized
  subst hsz
  have hD := hD0.self (sz := s.heap.size)
  generalize hAe : va_A [(o, .inr (5, [.ref F, .ref G, .int lo, .int nw, .int se, .ref (pa 0), .ref an, .ref ln])), cE x xv, (x 1, .inl (cA 0, 4, .inl (xd 0))), (x 2, .inl (cA 0, 4, .inl (xd 1))), (x 3, .inl (cA 0, 4, .inl (xd 2))), (x 4, .inl (cA 0, 4, .inl (xd 3))), (x 5, .inl (cA 0, 4, .inl (xd 4))), (x 6, .inl (cA 1, 4, .inl (xd 5))), (x 7, .inl (cA 0, 4, .inl (xd 6))), (x 8, .inl (cA 0, 4, .inl (xd 7))), (x 9, .inr (4, [.ref (x 10), .ref (x 11), .ref (x 12), .ref (x 13), .int (nI xf), .int (nI QX.1)])), (x 10, .inl (cA 0, 12, .inl (xr 0))), (x 11, .inl (cA 0, 12, .inl (xr 1))), (x 12, .inl (cA 0, 12, .inl (xr 2))), (x 13, .inl (cA 0, 48, .inl (xr 3))), cE y yv, (y 9, .inr (4, [.ref (y 10), .ref (y 11), .ref (y 12), .ref (y 13), .int (nI yf), .int (nI QY.1)])), (y 10, .inl (cA 0, 12, .inl (yr 0))), (y 11, .inl (cA 0, 12, .inl (yr 1))), (y 12, .inl (cA 0, 12, .inl (yr 2))), (y 13, .inl (cA 0, 48, .inl (yr 3))), (pa 0, .inr (3, [.ref (pa 1), .int kd, .int nb, .int mk])), (pa 1, .inl (cA 0, 4, .inl w)), (an, .inl (cA 0, 4, .inl g)), (ou, .inl (cA 3, 1, .inr (.inl ov)))] s.heap.size = A at hD hE0 ⊢
  have hA : ∀ q : Nat, s.heap.size ≤ q → A q := fun q h => by rw [← hAe]; exact Or.inr h
  have hS : va_S A s.heap s.heap [] := va_S.rf
  have hl := lv_entry ([.ref o, .int n, .ref ou]) (n := 4) (Nat.le_of_ble_eq_true rfl)
  rw [lg_entry_eq]
  generalize (lg_sl ([.ref o, .int n, .ref ou]) ++ List.replicate (4 - (lg_sl ([.ref o, .int n, .ref ou])).length) Slot.unset).toArray = ls at hl ⊢
  have hl : lv_has ls 4 [(0, .ref o), (1, .int n), (2, .ref ou)] := hl
  refine lv_aload_n hx hb dL_deliver_0 rfl (lv_at hl 2 rfl) ?_
  refine lv_iconst (v := 0) hx hb dL_deliver_1 (by decide) ?_
  refine lv_aload_n hx hb dL_deliver_2 rfl (lv_at hl 0 rfl) ?_
  refine lv_iload_n hx hb dL_deliver_3 rfl (lv_at hl 1 rfl) ?_
  have hPc := hP.sub (ws' := [(o, .inr (5, [.ref F, .ref G, .int lo, .int nw, .int se, .ref (pa 0), .ref an, .ref ln])), cE x xv, (x 1, .inl (cA 0, 4, .inl (xd 0))), (x 2, .inl (cA 0, 4, .inl (xd 1))), (x 3, .inl (cA 0, 4, .inl (xd 2))), (x 4, .inl (cA 0, 4, .inl (xd 3))), (x 5, .inl (cA 0, 4, .inl (xd 4))), (x 6, .inl (cA 1, 4, .inl (xd 5))), (x 7, .inl (cA 0, 4, .inl (xd 6))), (x 8, .inl (cA 0, 4, .inl (xd 7))), (x 9, .inr (4, [.ref (x 10), .ref (x 11), .ref (x 12), .ref (x 13), .int (nI xf), .int (nI QX.1)])), (x 10, .inl (cA 0, 12, .inl (xr 0))), (x 11, .inl (cA 0, 12, .inl (xr 1))), (x 12, .inl (cA 0, 12, .inl (xr 2))), (x 13, .inl (cA 0, 48, .inl (xr 3))), cE y yv, (y 9, .inr (4, [.ref (y 10), .ref (y 11), .ref (y 12), .ref (y 13), .int (nI yf), .int (nI QY.1)])), (y 10, .inl (cA 0, 12, .inl (yr 0))), (y 11, .inl (cA 0, 12, .inl (yr 1))), (y 12, .inl (cA 0, 12, .inl (yr 2))), (y 13, .inl (cA 0, 48, .inl (yr 3))), (pa 0, .inr (3, [.ref (pa 1), .int kd, .int nb, .int mk])), (pa 1, .inl (cA 0, 4, .inl w)), (an, .inl (cA 0, 4, .inl g))]) [0, 1, 2, 3, 4, 5, 6, 7, 8, 9, 10, 11, 12, 13, 14, 15, 16, 17, 18, 19, 20, 21, 22, 23] rfl
  have hDc := hD.sub (ws' := [(o, .inr (5, [.ref F, .ref G, .int lo, .int nw, .int se, .ref (pa 0), .ref an, .ref ln])), cE x xv, (x 1, .inl (cA 0, 4, .inl (xd 0))), (x 2, .inl (cA 0, 4, .inl (xd 1))), (x 3, .inl (cA 0, 4, .inl (xd 2))), (x 4, .inl (cA 0, 4, .inl (xd 3))), (x 5, .inl (cA 0, 4, .inl (xd 4))), (x 6, .inl (cA 1, 4, .inl (xd 5))), (x 7, .inl (cA 0, 4, .inl (xd 6))), (x 8, .inl (cA 0, 4, .inl (xd 7))), (x 9, .inr (4, [.ref (x 10), .ref (x 11), .ref (x 12), .ref (x 13), .int (nI xf), .int (nI QX.1)])), (x 10, .inl (cA 0, 12, .inl (xr 0))), (x 11, .inl (cA 0, 12, .inl (xr 1))), (x 12, .inl (cA 0, 12, .inl (xr 2))), (x 13, .inl (cA 0, 48, .inl (xr 3))), cE y yv, (y 9, .inr (4, [.ref (y 10), .ref (y 11), .ref (y 12), .ref (y 13), .int (nI yf), .int (nI QY.1)])), (y 10, .inl (cA 0, 12, .inl (yr 0))), (y 11, .inl (cA 0, 12, .inl (yr 1))), (y 12, .inl (cA 0, 12, .inl (yr 2))), (y 13, .inl (cA 0, 48, .inl (yr 3))), (pa 0, .inr (3, [.ref (pa 1), .int kd, .int nb, .int mk])), (pa 1, .inl (cA 0, 4, .inl w)), (an, .inl (cA 0, 4, .inl g))]) [0, 1, 2, 3, 4, 5, 6, 7, 8, 9, 10, 11, 12, 13, 14, 15, 16, 17, 18, 19, 20, 21, 22, 23] (by decide) rfl
  have hFc := va_free (wc := [(o, .inr (5, [.ref F, .ref G, .int lo, .int nw, .int se, .ref (pa 0), .ref an, .ref ln])), cE x xv, (x 1, .inl (cA 0, 4, .inl (xd 0))), (x 2, .inl (cA 0, 4, .inl (xd 1))), (x 3, .inl (cA 0, 4, .inl (xd 2))), (x 4, .inl (cA 0, 4, .inl (xd 3))), (x 5, .inl (cA 0, 4, .inl (xd 4))), (x 6, .inl (cA 1, 4, .inl (xd 5))), (x 7, .inl (cA 0, 4, .inl (xd 6))), (x 8, .inl (cA 0, 4, .inl (xd 7))), (x 9, .inr (4, [.ref (x 10), .ref (x 11), .ref (x 12), .ref (x 13), .int (nI xf), .int (nI QX.1)])), (x 10, .inl (cA 0, 12, .inl (xr 0))), (x 11, .inl (cA 0, 12, .inl (xr 1))), (x 12, .inl (cA 0, 12, .inl (xr 2))), (x 13, .inl (cA 0, 48, .inl (xr 3))), cE y yv, (y 9, .inr (4, [.ref (y 10), .ref (y 11), .ref (y 12), .ref (y 13), .int (nI yf), .int (nI QY.1)])), (y 10, .inl (cA 0, 12, .inl (yr 0))), (y 11, .inl (cA 0, 12, .inl (yr 1))), (y 12, .inl (cA 0, 12, .inl (yr 2))), (y 13, .inl (cA 0, 48, .inl (yr 3))), (pa 0, .inr (3, [.ref (pa 1), .int kd, .int nb, .int mk])), (pa 1, .inl (cA 0, 4, .inl w)), (an, .inl (cA 0, 4, .inl g))]) hD hS hA [0, 1, 2, 3, 4, 5, 6, 7, 8, 9, 10, 11, 12, 13, 14, 15, 16, 17, 18, 19, 20, 21, 22, 23] rfl
  refine va_calli (va_runV (As := [.int n]) (rest := [.int 0, .ref ou]) ⟨hx, hb, hml, hown, hts⟩ (c_X3_deliver_k l D cA zv s.heap.size o F G lo nw se pa an ln x y n xv yv xr yr xf yf QX QY xd kd nb mk w g (by assumption) (by assumption) (by assumption) (by assumption)) (cwV 1 hts gL_deliver_X3_deliver rfl rfl rfl (by decide +kernel) ⟨Nat.le_of_ble_eq_true rfl, Nat.le_of_ble_eq_true rfl⟩) ⟨zUE_blind, va_recv hK hPc (ci := 5) (q0 := 0) rfl rfl, fun U hU hW => ⟨rfl, zUE_call hE0 hS hFc hU hPc hW hK hDc⟩⟩ rfl rfl hl.1 rfl (lv_room (Nat.le_of_ble_eq_true rfl)) dL_deliver_4 ⟨(Nat.zero_le _), (Nat.zero_le _)⟩) hS (fun q _ h => hFc q h) hFc (fun zr u t H1 locs ht hvm hw hB hz1 hk1 hS => ?_)
  obtain ⟨xv'_1, xd'_1, g'_1, xf'_1, xr'_1, yr'_1, QX'_1, QY'_1, se'_1⟩ := u
  obtain ⟨hP1, hD1⟩ := hB
  rw [ht] at hP1
  try dsimp only at hw hP1 hD1
  obtain ⟨hP, hD⟩ := va_join (wr := [(ou, .inl (cA 3, 1, .inr (.inl ov)))]) (w1 := [(o, .inr (5, [.ref F, .ref G, .int lo, .int nw, .int se'_1, .ref (pa 0), .ref an, .ref ln])), cE x xv'_1, (x 1, .inl (cA 0, 4, .inl (xd'_1 0))), (x 2, .inl (cA 0, 4, .inl (xd'_1 1))), (x 3, .inl (cA 0, 4, .inl (xd'_1 2))), (x 4, .inl (cA 0, 4, .inl (xd'_1 3))), (x 5, .inl (cA 0, 4, .inl (xd'_1 4))), (x 6, .inl (cA 1, 4, .inl (xd'_1 5))), (x 7, .inl (cA 0, 4, .inl (xd'_1 6))), (x 8, .inl (cA 0, 4, .inl (xd'_1 7))), (x 9, .inr (4, [.ref (x 10), .ref (x 11), .ref (x 12), .ref (x 13), .int (nI xf'_1), .int (nI QX'_1.1)])), (x 10, .inl (cA 0, 12, .inl (xr'_1 0))), (x 11, .inl (cA 0, 12, .inl (xr'_1 1))), (x 12, .inl (cA 0, 12, .inl (xr'_1 2))), (x 13, .inl (cA 0, 48, .inl (xr'_1 3))), cE y yv, (y 9, .inr (4, [.ref (y 10), .ref (y 11), .ref (y 12), .ref (y 13), .int (nI yf), .int (nI QY'_1.1)])), (y 10, .inl (cA 0, 12, .inl (yr'_1 0))), (y 11, .inl (cA 0, 12, .inl (yr'_1 1))), (y 12, .inl (cA 0, 12, .inl (yr'_1 2))), (y 13, .inl (cA 0, 48, .inl (yr'_1 3))), (pa 0, .inr (3, [.ref (pa 1), .int (QX.2 0 0), .int (QX.2 0 1), .int (QX.2 0 2)])), (pa 1, .inl (cA 0, 4, .inl (fun k => QX.2 0 (3 + k)))), (an, .inl (cA 0, 4, .inl g'_1))]) hP hD [0, 1, 2, 3, 4, 5, 6, 7, 8, 9, 10, 11, 12, 13, 14, 15, 16, 17, 18, 19, 20, 21, 22, 23] [24] rfl rfl (by decide) (by decide) hk1 hFc hP1 hD1
  generalize H1 = H at hP hS ⊢
  have hP := hP.sub (ws' := [(o, .inr (5, [.ref F, .ref G, .int lo, .int nw, .int se'_1, .ref (pa 0), .ref an, .ref ln])), cE x xv'_1, (x 1, .inl (cA 0, 4, .inl (xd'_1 0))), (x 2, .inl (cA 0, 4, .inl (xd'_1 1))), (x 3, .inl (cA 0, 4, .inl (xd'_1 2))), (x 4, .inl (cA 0, 4, .inl (xd'_1 3))), (x 5, .inl (cA 0, 4, .inl (xd'_1 4))), (x 6, .inl (cA 1, 4, .inl (xd'_1 5))), (x 7, .inl (cA 0, 4, .inl (xd'_1 6))), (x 8, .inl (cA 0, 4, .inl (xd'_1 7))), (x 9, .inr (4, [.ref (x 10), .ref (x 11), .ref (x 12), .ref (x 13), .int (nI xf'_1), .int (nI QX'_1.1)])), (x 10, .inl (cA 0, 12, .inl (xr'_1 0))), (x 11, .inl (cA 0, 12, .inl (xr'_1 1))), (x 12, .inl (cA 0, 12, .inl (xr'_1 2))), (x 13, .inl (cA 0, 48, .inl (xr'_1 3))), cE y yv, (y 9, .inr (4, [.ref (y 10), .ref (y 11), .ref (y 12), .ref (y 13), .int (nI yf), .int (nI QY'_1.1)])), (y 10, .inl (cA 0, 12, .inl (yr'_1 0))), (y 11, .inl (cA 0, 12, .inl (yr'_1 1))), (y 12, .inl (cA 0, 12, .inl (yr'_1 2))), (y 13, .inl (cA 0, 48, .inl (yr'_1 3))), (pa 0, .inr (3, [.ref (pa 1), .int (QX.2 0 0), .int (QX.2 0 1), .int (QX.2 0 2)])), (pa 1, .inl (cA 0, 4, .inl (fun k => QX.2 0 (3 + k)))), (an, .inl (cA 0, 4, .inl g'_1)), (ou, .inl (cA 3, 1, .inr (.inl ov)))]) [1, 2, 3, 4, 5, 6, 7, 8, 9, 10, 11, 12, 13, 14, 15, 16, 17, 18, 19, 20, 21, 22, 23, 24, 0] rfl
  have hD := hD.sub (ws' := [(o, .inr (5, [.ref F, .ref G, .int lo, .int nw, .int se'_1, .ref (pa 0), .ref an, .ref ln])), cE x xv'_1, (x 1, .inl (cA 0, 4, .inl (xd'_1 0))), (x 2, .inl (cA 0, 4, .inl (xd'_1 1))), (x 3, .inl (cA 0, 4, .inl (xd'_1 2))), (x 4, .inl (cA 0, 4, .inl (xd'_1 3))), (x 5, .inl (cA 0, 4, .inl (xd'_1 4))), (x 6, .inl (cA 1, 4, .inl (xd'_1 5))), (x 7, .inl (cA 0, 4, .inl (xd'_1 6))), (x 8, .inl (cA 0, 4, .inl (xd'_1 7))), (x 9, .inr (4, [.ref (x 10), .ref (x 11), .ref (x 12), .ref (x 13), .int (nI xf'_1), .int (nI QX'_1.1)])), (x 10, .inl (cA 0, 12, .inl (xr'_1 0))), (x 11, .inl (cA 0, 12, .inl (xr'_1 1))), (x 12, .inl (cA 0, 12, .inl (xr'_1 2))), (x 13, .inl (cA 0, 48, .inl (xr'_1 3))), cE y yv, (y 9, .inr (4, [.ref (y 10), .ref (y 11), .ref (y 12), .ref (y 13), .int (nI yf), .int (nI QY'_1.1)])), (y 10, .inl (cA 0, 12, .inl (yr'_1 0))), (y 11, .inl (cA 0, 12, .inl (yr'_1 1))), (y 12, .inl (cA 0, 12, .inl (yr'_1 2))), (y 13, .inl (cA 0, 48, .inl (yr'_1 3))), (pa 0, .inr (3, [.ref (pa 1), .int (QX.2 0 0), .int (QX.2 0 1), .int (QX.2 0 2)])), (pa 1, .inl (cA 0, 4, .inl (fun k => QX.2 0 (3 + k)))), (an, .inl (cA 0, 4, .inl g'_1)), (ou, .inl (cA 3, 1, .inr (.inl ov)))]) [1, 2, 3, 4, 5, 6, 7, 8, 9, 10, 11, 12, 13, 14, 15, 16, 17, 18, 19, 20, 21, 22, 23, 24, 0] (by decide) rfl
  clear hPc hDc hFc hP1 hD1 hk1 hz1
  obtain ⟨rfl, rfl, rfl, rfl, rfl, hw_1_0, hw_1_1, hw_1_2⟩ := hw
  obtain rfl := hw_1_2
  refine lv_i2l (v := (QX.2 0 0).toInt64) hx hb dL_deliver_7 rfl ?_
  refine z_last (k := 0) hx hb hK hP hD hS 24 3 rfl rfl rfl (by omega) (by decide) dL_deliver_8 (fun H locs hP hD hS => ?_)
  have hP : va_P D vwCl [(o, .inr (5, [.ref F, .ref G, .int lo, .int nw, .int (((hea lo (QX.2 0 0) (QX.2 0 1) (QX.2 0 2) (fun k => QX.2 0 (3 + k)) xv xd (pop QX) QY se)).2.2.2), .ref (pa 0), .ref an, .ref ln])), cE x (((hea lo (QX.2 0 0) (QX.2 0 1) (QX.2 0 2) (fun k => QX.2 0 (3 + k)) xv xd (pop QX) QY se)).1), (x 1, .inl (cA 0, 4, .inl ((((hea lo (QX.2 0 0) (QX.2 0 1) (QX.2 0 2) (fun k => QX.2 0 (3 + k)) xv xd (pop QX) QY se)).2.1) 0))), (x 2, .inl (cA 0, 4, .inl ((((hea lo (QX.2 0 0) (QX.2 0 1) (QX.2 0 2) (fun k => QX.2 0 (3 + k)) xv xd (pop QX) QY se)).2.1) 1))), (x 3, .inl (cA 0, 4, .inl ((((hea lo (QX.2 0 0) (QX.2 0 1) (QX.2 0 2) (fun k => QX.2 0 (3 + k)) xv xd (pop QX) QY se)).2.1) 2))), (x 4, .inl (cA 0, 4, .inl ((((hea lo (QX.2 0 0) (QX.2 0 1) (QX.2 0 2) (fun k => QX.2 0 (3 + k)) xv xd (pop QX) QY se)).2.1) 3))), (x 5, .inl (cA 0, 4, .inl ((((hea lo (QX.2 0 0) (QX.2 0 1) (QX.2 0 2) (fun k => QX.2 0 (3 + k)) xv xd (pop QX) QY se)).2.1) 4))), (x 6, .inl (cA 1, 4, .inl ((((hea lo (QX.2 0 0) (QX.2 0 1) (QX.2 0 2) (fun k => QX.2 0 (3 + k)) xv xd (pop QX) QY se)).2.1) 5))), (x 7, .inl (cA 0, 4, .inl ((((hea lo (QX.2 0 0) (QX.2 0 1) (QX.2 0 2) (fun k => QX.2 0 (3 + k)) xv xd (pop QX) QY se)).2.1) 6))), (x 8, .inl (cA 0, 4, .inl ((((hea lo (QX.2 0 0) (QX.2 0 1) (QX.2 0 2) (fun k => QX.2 0 (3 + k)) xv xd (pop QX) QY se)).2.1) 7))), (x 9, .inr (4, [.ref (x 10), .ref (x 11), .ref (x 12), .ref (x 13), .int (nI xf'_1), .int (nI (((hea lo (QX.2 0 0) (QX.2 0 1) (QX.2 0 2) (fun k => QX.2 0 (3 + k)) xv xd (pop QX) QY se)).2.2.1.1).1)])), (x 10, .inl (cA 0, 12, .inl (xr'_1 0))), (x 11, .inl (cA 0, 12, .inl (xr'_1 1))), (x 12, .inl (cA 0, 12, .inl (xr'_1 2))), (x 13, .inl (cA 0, 48, .inl (xr'_1 3))), cE y yv, (y 9, .inr (4, [.ref (y 10), .ref (y 11), .ref (y 12), .ref (y 13), .int (nI yf), .int (nI (((hea lo (QX.2 0 0) (QX.2 0 1) (QX.2 0 2) (fun k => QX.2 0 (3 + k)) xv xd (pop QX) QY se)).2.2.1.2).1)])), (y 10, .inl (cA 0, 12, .inl (yr'_1 0))), (y 11, .inl (cA 0, 12, .inl (yr'_1 1))), (y 12, .inl (cA 0, 12, .inl (yr'_1 2))), (y 13, .inl (cA 0, 48, .inl (yr'_1 3))), (pa 0, .inr (3, [.ref (pa 1), .int (QX.2 0 0), .int (QX.2 0 1), .int (QX.2 0 2)])), (pa 1, .inl (cA 0, 4, .inl (fun k => QX.2 0 (3 + k)))), (an, .inl (cA 0, 4, .inl g'_1)), (ou, .inl (cA 3, 1, .inr (.inl (vp_updL ov 0 ((QX.2 0 0).toInt64)))))] H := hP
  have hD : va_D A [(o, .inr (5, [.ref F, .ref G, .int lo, .int nw, .int (((hea lo (QX.2 0 0) (QX.2 0 1) (QX.2 0 2) (fun k => QX.2 0 (3 + k)) xv xd (pop QX) QY se)).2.2.2), .ref (pa 0), .ref an, .ref ln])), cE x (((hea lo (QX.2 0 0) (QX.2 0 1) (QX.2 0 2) (fun k => QX.2 0 (3 + k)) xv xd (pop QX) QY se)).1), (x 1, .inl (cA 0, 4, .inl ((((hea lo (QX.2 0 0) (QX.2 0 1) (QX.2 0 2) (fun k => QX.2 0 (3 + k)) xv xd (pop QX) QY se)).2.1) 0))), (x 2, .inl (cA 0, 4, .inl ((((hea lo (QX.2 0 0) (QX.2 0 1) (QX.2 0 2) (fun k => QX.2 0 (3 + k)) xv xd (pop QX) QY se)).2.1) 1))), (x 3, .inl (cA 0, 4, .inl ((((hea lo (QX.2 0 0) (QX.2 0 1) (QX.2 0 2) (fun k => QX.2 0 (3 + k)) xv xd (pop QX) QY se)).2.1) 2))), (x 4, .inl (cA 0, 4, .inl ((((hea lo (QX.2 0 0) (QX.2 0 1) (QX.2 0 2) (fun k => QX.2 0 (3 + k)) xv xd (pop QX) QY se)).2.1) 3))), (x 5, .inl (cA 0, 4, .inl ((((hea lo (QX.2 0 0) (QX.2 0 1) (QX.2 0 2) (fun k => QX.2 0 (3 + k)) xv xd (pop QX) QY se)).2.1) 4))), (x 6, .inl (cA 1, 4, .inl ((((hea lo (QX.2 0 0) (QX.2 0 1) (QX.2 0 2) (fun k => QX.2 0 (3 + k)) xv xd (pop QX) QY se)).2.1) 5))), (x 7, .inl (cA 0, 4, .inl ((((hea lo (QX.2 0 0) (QX.2 0 1) (QX.2 0 2) (fun k => QX.2 0 (3 + k)) xv xd (pop QX) QY se)).2.1) 6))), (x 8, .inl (cA 0, 4, .inl ((((hea lo (QX.2 0 0) (QX.2 0 1) (QX.2 0 2) (fun k => QX.2 0 (3 + k)) xv xd (pop QX) QY se)).2.1) 7))), (x 9, .inr (4, [.ref (x 10), .ref (x 11), .ref (x 12), .ref (x 13), .int (nI xf'_1), .int (nI (((hea lo (QX.2 0 0) (QX.2 0 1) (QX.2 0 2) (fun k => QX.2 0 (3 + k)) xv xd (pop QX) QY se)).2.2.1.1).1)])), (x 10, .inl (cA 0, 12, .inl (xr'_1 0))), (x 11, .inl (cA 0, 12, .inl (xr'_1 1))), (x 12, .inl (cA 0, 12, .inl (xr'_1 2))), (x 13, .inl (cA 0, 48, .inl (xr'_1 3))), cE y yv, (y 9, .inr (4, [.ref (y 10), .ref (y 11), .ref (y 12), .ref (y 13), .int (nI yf), .int (nI (((hea lo (QX.2 0 0) (QX.2 0 1) (QX.2 0 2) (fun k => QX.2 0 (3 + k)) xv xd (pop QX) QY se)).2.2.1.2).1)])), (y 10, .inl (cA 0, 12, .inl (yr'_1 0))), (y 11, .inl (cA 0, 12, .inl (yr'_1 1))), (y 12, .inl (cA 0, 12, .inl (yr'_1 2))), (y 13, .inl (cA 0, 48, .inl (yr'_1 3))), (pa 0, .inr (3, [.ref (pa 1), .int (QX.2 0 0), .int (QX.2 0 1), .int (QX.2 0 2)])), (pa 1, .inl (cA 0, 4, .inl (fun k => QX.2 0 (3 + k)))), (an, .inl (cA 0, 4, .inl g'_1)), (ou, .inl (cA 3, 1, .inr (.inl (vp_updL ov 0 ((QX.2 0 0).toInt64)))))] := hD
  refine lv_goto (tgt := 18) hx hb dL_deliver_9 (by decide) ?_
  refine lv_iconst (v := 0) hx hb dL_deliver_18 (by decide) ?_
  refine W.widen (k := 0) (n := 0) (by omega) (by omega) ?_
  exact W.iret (v := 0) hx hb hr (fun t ht hW => ⟨⟨0, ((((hea lo (QX.2 0 0) (QX.2 0 1) (QX.2 0 2) (fun k => QX.2 0 (3 + k)) xv xd (pop QX) QY se)).1), (((hea lo (QX.2 0 0) (QX.2 0 1) (QX.2 0 2) (fun k => QX.2 0 (3 + k)) xv xd (pop QX) QY se)).2.1), g'_1, xf'_1, xr'_1, yr'_1, ((hea lo (QX.2 0 0) (QX.2 0 1) (QX.2 0 2) (fun k => QX.2 0 (3 + k)) xv xd (pop QX) QY se)).2.2.1.1, ((hea lo (QX.2 0 0) (QX.2 0 1) (QX.2 0 2) (fun k => QX.2 0 (3 + k)) xv xd (pop QX) QY se)).2.2.1.2, (((hea lo (QX.2 0 0) (QX.2 0 1) (QX.2 0 2) (fun k => QX.2 0 (3 + k)) xv xd (pop QX) QY se)).2.2.2)), rfl, ⟨rfl, rfl, rfl, rfl, rfl, by assumption, by assumption, rfl⟩, ⟨by rw [ht]; exact hP, by rw [hAe]; exact hD⟩⟩, hS.F ht⟩) hS.2.2 dL_deliver_19
set_option maxHeartbeats 4000000 in
set_option maxRecDepth 100000 in
theorem c_L_deliver_e (l : Launch) (D : va_G) (cA : Nat → ClassId) (zv : Nat → Nat) (sz : Nat) (o F G : Nat) (lo nw se : Int32) (pa : Nat → Nat) (an ln : Nat) (x : Nat → Nat) (y0 : Nat) (n : Int32) (xv : Nat → Int32) (xf : Nat) (QX : Qt) (ou : Nat) (hl0 : l.stackTraces = false) (he : en n F G (x 0) y0) (h0 : QX.1 = 0) : Met l yL_deliver wsL_deliver ({ frames := 10, cells := 1, slots := 6, locals := 143 }) (va_Pc [.ref o, .int n, .ref ou] (zUX D cA zv sz [(o, .inr (5, [.ref F, .ref G, .int lo, .int nw, .int se, .ref (pa 0), .ref an, .ref ln])), cE x xv, (x 9, .inr (4, [.ref (x 10), .ref (x 11), .ref (x 12), .ref (x 13), .int (nI xf), .int (nI QX.1)]))])) (va_Qi (fun (r : Int32) (_ : Unit) => r = 2) (fun (_ : Unit) t => zB D [(o, .inr (5, [.ref F, .ref G, .int lo, .int nw, .int se, .ref (pa 0), .ref an, .ref ln])), cE x xv, (x 9, .inr (4, [.ref (x 10), .ref (x 11), .ref (x 12), .ref (x 13), .int (nI xf), .int (nI QX.1)]))] sz [(o, .inr (5, [.ref F, .ref G, .int lo, .int nw, .int se, .ref (pa 0), .ref an, .ref ln])), cE x xv, (x 9, .inr (4, [.ref (x 10), .ref (x 11), .ref (x 12), .ref (x 13), .int (nI xf), .int (nI QX.1)]))] t) (va_A [(o, .inr (5, [.ref F, .ref G, .int lo, .int nw, .int se, .ref (pa 0), .ref an, .ref ln])), cE x xv, (x 9, .inr (4, [.ref (x 10), .ref (x 11), .ref (x 12), .ref (x 13), .int (nI xf), .int (nI QX.1)]))] sz)) 1 6 (va_A [(o, .inr (5, [.ref F, .ref G, .int lo, .int nw, .int se, .ref (pa 0), .ref an, .ref ln])), cE x xv, (x 9, .inr (4, [.ref (x 10), .ref (x 11), .ref (x 12), .ref (x 13), .int (nI xf), .int (nI QX.1)]))] sz) := by
  refine z_ofWH (cc := cL_deliver) (maxL := 4) (ret := (some .int)) (hh := [(0, 9, 12, 13), (0, 9, 15, 37)]) (by decide) rfl ?_
  intro p e s m args below meth c s₁ B hml htab hv
  obtain ⟨rfl, ⟨hsz, hP, hK, hD0, hE0⟩, hX0⟩ := hv
  have hx := B.exec
  have hb := B.bytes
  have hr := B.returns
  have hts := atoms_spec (ws := wsL_deliver) B.pre
  have hown : s.vm.findClass RL = some m.cls := findClass_of_methodNamed B.named
  have hlocks := B.notSynchronized
  subst hsz
  have hD := hD0.self (sz := s.heap.size)
  generalize hAe : va_A [(o, .inr (5, [.ref F, .ref G, .int lo, .int nw, .int se, .ref (pa 0), .ref an, .ref ln])), cE x xv, (x 9, .inr (4, [.ref (x 10), .ref (x 11), .ref (x 12), .ref (x 13), .int (nI xf), .int (nI QX.1)]))] s.heap.size = A at hD hE0 hX0 ⊢
  have hA : ∀ q : Nat, s.heap.size ≤ q → A q := fun q h => by rw [← hAe]; exact Or.inr h
  have hS : va_S A s.heap s.heap [] := va_S.rf
  have hl := lv_entry ([.ref o, .int n, .ref ou]) (n := 4) (Nat.le_of_ble_eq_true rfl)
  rw [lg_entry_eq]
  generalize (lg_sl ([.ref o, .int n, .ref ou]) ++ List.replicate (4 - (lg_sl ([.ref o, .int n, .ref ou])).length) Slot.unset).toArray = ls at hl ⊢
  have hl : lv_has ls 4 [(0, .ref o), (1, .int n), (2, .ref ou)] := hl
  refine lv_aload_n hx hb dL_deliver_0 rfl (lv_at hl 2 rfl) ?_
  refine lv_iconst (v := 0) hx hb dL_deliver_1 (by decide) ?_
  refine lv_aload_n hx hb dL_deliver_2 rfl (lv_at hl 0 rfl) ?_
  refine lv_iload_n hx hb dL_deliver_3 rfl (lv_at hl 1 rfl) ?_
  have hPc := hP.sub (ws' := [(o, .inr (5, [.ref F, .ref G, .int lo, .int nw, .int se, .ref (pa 0), .ref an, .ref ln])), cE x xv, (x 9, .inr (4, [.ref (x 10), .ref (x 11), .ref (x 12), .ref (x 13), .int (nI xf), .int (nI QX.1)]))]) [0, 1, 2] rfl
  have hDc := hD.sub (ws' := [(o, .inr (5, [.ref F, .ref G, .int lo, .int nw, .int se, .ref (pa 0), .ref an, .ref ln])), cE x xv, (x 9, .inr (4, [.ref (x 10), .ref (x 11), .ref (x 12), .ref (x 13), .int (nI xf), .int (nI QX.1)]))]) [0, 1, 2] (by decide) rfl
  have hFc := va_free (wc := [(o, .inr (5, [.ref F, .ref G, .int lo, .int nw, .int se, .ref (pa 0), .ref an, .ref ln])), cE x xv, (x 9, .inr (4, [.ref (x 10), .ref (x 11), .ref (x 12), .ref (x 13), .int (nI xf), .int (nI QX.1)]))]) hD hS hA [0, 1, 2] rfl
  refine vx_calli (vx_runV (As := [.int n]) (rest := [.int 0, .ref ou]) ⟨hx, hb, hml, hown, hts⟩ (c_X3_deliver_e l D cA zv s.heap.size hl0 o F G lo nw se pa an ln x y0 n xv xf QX (by assumption) (by assumption)) (cwV 1 hts gL_deliver_X3_deliver rfl rfl rfl (by decide +kernel) ⟨Nat.le_of_ble_eq_true rfl, Nat.le_of_ble_eq_true rfl⟩) ⟨zUX_blind, va_recv hK hPc (ci := 5) (q0 := 0) rfl rfl, fun U hU hW => ⟨rfl, zUX_call hE0 hX0 hS hFc hU hPc hW hK hDc⟩⟩ rfl rfl hl.1 rfl (lv_room (Nat.le_of_ble_eq_true rfl)) dL_deliver_4 ⟨Nat.le_of_ble_eq_true rfl, Nat.le_of_ble_eq_true rfl⟩) hS (fun q _ h => hFc q h) hFc (fun q _ h => hFc q h) (fun E9 ce9 q9 u t H1 locs ht hvm hpx hB hz1 hk1 hS hcell hcv hcl => ?_) (fun zr u t H1 locs1 ht hvm hw _ _ _ _ => hw.elim)
  obtain ⟨rfl, hP1, hD1⟩ := hB
  rw [ht] at hP1
  obtain ⟨hP, hD⟩ := va_join (wr := []) (w1 := [(o, .inr (5, [.ref F, .ref G, .int lo, .int nw, .int se, .ref (pa 0), .ref an, .ref ln])), cE x xv, (x 9, .inr (4, [.ref (x 10), .ref (x 11), .ref (x 12), .ref (x 13), .int (nI xf), .int (nI QX.1)]))]) hP hD [0, 1, 2] [] rfl rfl (by decide) (by decide) hk1 hFc hP1 hD1
  have hP := hP.sub (ws' := [(o, .inr (5, [.ref F, .ref G, .int lo, .int nw, .int se, .ref (pa 0), .ref an, .ref ln])), cE x xv, (x 9, .inr (4, [.ref (x 10), .ref (x 11), .ref (x 12), .ref (x 13), .int (nI xf), .int (nI QX.1)]))]) [0, 1, 2] rfl
  have hD := hD.sub (ws' := [(o, .inr (5, [.ref F, .ref G, .int lo, .int nw, .int se, .ref (pa 0), .ref an, .ref ln])), cE x xv, (x 9, .inr (4, [.ref (x 10), .ref (x 11), .ref (x 12), .ref (x 13), .int (nI xf), .int (nI QX.1)]))]) [0, 1, 2] (by decide) rfl
  refine vx_catch hown [⟨0, 9, 12, 13⟩] ⟨0, 9, 15, 37⟩ [] htab (fun z hz => by obtain rfl := List.mem_singleton.mp hz; exact Or.inr ⟨by decide, _, (hts (.classLink RL 13 "java/lang/IllegalArgumentException") (List.mem_of_getElem? (i := 1) rfl)), hX0.2.2.2.2.2⟩) (by decide) (by decide) (hts (.classLink RL 37 "java/util/NoSuchElementException") (List.mem_of_getElem? (i := 2) rfl)) (va_Nw.use rfl (hX0.1.1 "java/util/NoSuchElementException" (by decide))) hcell hcv hcl ?_
  refine W.eq (g2 := F0 m 15 ls [.ref q9]) rfl ?_
  clear hcell
  generalize H1 = H at hP hS ⊢
  refine W.widen (k := 1) (n := 6) (by omega) (by omega) ?_
  refine lv_astore_n (lv' := [(3, .ref q9), (0, .ref o), (1, .int n), (2, .ref ou)]) hx hb dL_deliver_15 rfl hl (by decide) rfl (fun ls hl => ?_)
  refine lv_iconst (v := 2) hx hb dL_deliver_16 (by decide) ?_
  refine W.widen (k := 1) (n := 6) (by omega) (by omega) ?_
  exact W.iret (v := 2) hx hb hr (fun t ht hW => ⟨⟨2, (), rfl, rfl, ⟨by rw [ht]; exact hP, by rw [hAe]; exact hD⟩⟩, hS.F ht⟩) hS.2.2 dL_deliver_17
set_option maxHeartbeats 4000000 in
set_option maxRecDepth 100000 in
theorem c_L_deliver_b (l : Launch) (D : va_G) (cA : Nat → ClassId) (zv : Nat → Nat) (sz : Nat) (o F G : Nat) (lo nw se : Int32) (pa : Nat → Nat) (an ln : Nat) (n  : Int32) (ou : Nat) (hl0 : l.stackTraces = false) (hbad : ¬ inr n 0 1) : Met l yL_deliver wsL_deliver ({ frames := 10, cells := 1, slots := 6, locals := 142 }) (va_Pc [.ref o, .int n, .ref ou] (zUX D cA zv sz [(o, .inr (5, [.ref F, .ref G, .int lo, .int nw, .int se, .ref (pa 0), .ref an, .ref ln]))])) (va_Qi (fun (r : Int32) (_ : Unit) => r = 1) (fun (_ : Unit) t => zB D [(o, .inr (5, [.ref F, .ref G, .int lo, .int nw, .int se, .ref (pa 0), .ref an, .ref ln]))] sz [(o, .inr (5, [.ref F, .ref G, .int lo, .int nw, .int se, .ref (pa 0), .ref an, .ref ln]))] t) (va_A [(o, .inr (5, [.ref F, .ref G, .int lo, .int nw, .int se, .ref (pa 0), .ref an, .ref ln]))] sz)) 1 6 (va_A [(o, .inr (5, [.ref F, .ref G, .int lo, .int nw, .int se, .ref (pa 0), .ref an, .ref ln]))] sz) := by
  refine z_ofWH (cc := cL_deliver) (maxL := 4) (ret := (some .int)) (hh := [(0, 9, 12, 13), (0, 9, 15, 37)]) (by decide) rfl ?_
  intro p e s m args below meth c s₁ B hml htab hv
  obtain ⟨rfl, ⟨hsz, hP, hK, hD0, hE0⟩, hX0⟩ := hv
  have hx := B.exec
  have hb := B.bytes
  have hr := B.returns
  have hts := atoms_spec (ws := wsL_deliver) B.pre
  have hown : s.vm.findClass RL = some m.cls := findClass_of_methodNamed B.named
  have hlocks := B.notSynchronized
  subst hsz
  have hD := hD0.self (sz := s.heap.size)
  generalize hAe : va_A [(o, .inr (5, [.ref F, .ref G, .int lo, .int nw, .int se, .ref (pa 0), .ref an, .ref ln]))] s.heap.size = A at hD hE0 hX0 ⊢
  have hA : ∀ q : Nat, s.heap.size ≤ q → A q := fun q h => by rw [← hAe]; exact Or.inr h
  have hS : va_S A s.heap s.heap [] := va_S.rf
  have hl := lv_entry ([.ref o, .int n, .ref ou]) (n := 4) (Nat.le_of_ble_eq_true rfl)
  rw [lg_entry_eq]
  generalize (lg_sl ([.ref o, .int n, .ref ou]) ++ List.replicate (4 - (lg_sl ([.ref o, .int n, .ref ou])).length) Slot.unset).toArray = ls at hl ⊢
  have hl : lv_has ls 4 [(0, .ref o), (1, .int n), (2, .ref ou)] := hl
  refine lv_aload_n hx hb dL_deliver_0 rfl (lv_at hl 2 rfl) ?_
  refine lv_iconst (v := 0) hx hb dL_deliver_1 (by decide) ?_
  refine lv_aload_n hx hb dL_deliver_2 rfl (lv_at hl 0 rfl) ?_
  refine lv_iload_n hx hb dL_deliver_3 rfl (lv_at hl 1 rfl) ?_
  have hPc := hP.sub (ws' := [(o, .inr (5, [.ref F, .ref G, .int lo, .int nw, .int se, .ref (pa 0), .ref an, .ref ln]))]) [0] rfl
  have hDc := hD.sub (ws' := [(o, .inr (5, [.ref F, .ref G, .int lo, .int nw, .int se, .ref (pa 0), .ref an, .ref ln]))]) [0] (by decide) rfl
  have hFc := va_free (wc := [(o, .inr (5, [.ref F, .ref G, .int lo, .int nw, .int se, .ref (pa 0), .ref an, .ref ln]))]) hD hS hA [0] rfl
  refine vx_calli (vx_runV (As := [.int n]) (rest := [.int 0, .ref ou]) ⟨hx, hb, hml, hown, hts⟩ (c_X3_deliver_b l D cA zv s.heap.size hl0 o F G lo nw se pa an ln n (by assumption)) (cwV 1 hts gL_deliver_X3_deliver rfl rfl rfl (by decide +kernel) ⟨Nat.le_of_ble_eq_true rfl, Nat.le_of_ble_eq_true rfl⟩) ⟨zUX_blind, va_recv hK hPc (ci := 5) (q0 := 0) rfl rfl, fun U hU hW => ⟨rfl, zUX_call hE0 hX0 hS hFc hU hPc hW hK hDc⟩⟩ rfl rfl hl.1 rfl (lv_room (Nat.le_of_ble_eq_true rfl)) dL_deliver_4 ⟨Nat.le_of_ble_eq_true rfl, Nat.le_of_ble_eq_true rfl⟩) hS (fun q _ h => hFc q h) hFc (fun q _ h => hFc q h) (fun E9 ce9 q9 u t H1 locs ht hvm hpx hB hz1 hk1 hS hcell hcv hcl => ?_) (fun zr u t H1 locs1 ht hvm hw _ _ _ _ => hw.elim)
  obtain ⟨rfl, hP1, hD1⟩ := hB
  rw [ht] at hP1
  obtain ⟨hP, hD⟩ := va_join (wr := []) (w1 := [(o, .inr (5, [.ref F, .ref G, .int lo, .int nw, .int se, .ref (pa 0), .ref an, .ref ln]))]) hP hD [0] [] rfl rfl (by decide) (by decide) hk1 hFc hP1 hD1
  have hP := hP.sub (ws' := [(o, .inr (5, [.ref F, .ref G, .int lo, .int nw, .int se, .ref (pa 0), .ref an, .ref ln]))]) [0] rfl
  have hD := hD.sub (ws' := [(o, .inr (5, [.ref F, .ref G, .int lo, .int nw, .int se, .ref (pa 0), .ref an, .ref ln]))]) [0] (by decide) rfl
  refine vx_catch hown [] ⟨0, 9, 12, 13⟩ [⟨0, 9, 15, 37⟩] htab (fun z hz => absurd hz List.not_mem_nil) (by decide) (by decide) (hts (.classLink RL 13 "java/lang/IllegalArgumentException") (List.mem_of_getElem? (i := 1) rfl)) (va_Nw.use rfl (hX0.1.1 "java/lang/IllegalArgumentException" (by decide))) hcell hcv hcl ?_
  refine W.eq (g2 := F0 m 12 ls [.ref q9]) rfl ?_
  clear hcell
  generalize H1 = H at hP hS ⊢
  refine W.widen (k := 1) (n := 6) (by omega) (by omega) ?_
  refine lv_astore_n (lv' := [(3, .ref q9), (0, .ref o), (1, .int n), (2, .ref ou)]) hx hb dL_deliver_12 rfl hl (by decide) rfl (fun ls hl => ?_)
  refine lv_iconst (v := 1) hx hb dL_deliver_13 (by decide) ?_
  refine W.widen (k := 1) (n := 6) (by omega) (by omega) ?_
  exact W.iret (v := 1) hx hb hr (fun t ht hW => ⟨⟨1, (), rfl, rfl, ⟨by rw [ht]; exact hP, by rw [hAe]; exact hD⟩⟩, hS.F ht⟩) hS.2.2 dL_deliver_14
set_option maxHeartbeats 4000000 in
set_option maxRecDepth 100000 in
theorem c_L_lose_k (l : Launch) (D : va_G) (cA : Nat → ClassId) (sz : Nat) (o F G : Nat) (lo nw se : Int32) (pa : Nat → Nat) (an ln : Nat) (x : Nat → Nat) (y0 : Nat) (n : Int32) (xv : Nat → Int32) (xr : Nat → Nat → Int32) (xf : Nat) (QX : Qt)  (ou : Nat) (ov : Nat → Int64) (he : en n F G (x 0) y0) (hqx : rg xr xf QX) (h0 : 0 < QX.1) : Met l yL_lose wsL_lose ({ frames := 3, cells := 0, slots := 0, locals := 65 }) (va_Pc [.ref o, .int n, .ref ou] (zU D cA sz [(o, .inr (5, [.ref F, .ref G, .int lo, .int nw, .int se, .ref (pa 0), .ref an, .ref ln])), cE x xv, (x 9, .inr (4, [.ref (x 10), .ref (x 11), .ref (x 12), .ref (x 13), .int (nI xf), .int (nI QX.1)])), (x 10, .inl (cA 0, 12, .inl (xr 0))), (x 11, .inl (cA 0, 12, .inl (xr 1))), (x 12, .inl (cA 0, 12, .inl (xr 2))), (x 13, .inl (cA 0, 48, .inl (xr 3))), (ou, .inl (cA 3, 1, .inr (.inl ov)))])) (va_Qi (fun (r : Int32) (u : Nat) => rg xr u (pop QX) ∧ r = 0) (fun (u : Nat) t => zB D [(o, .inr (5, [.ref F, .ref G, .int lo, .int nw, .int se, .ref (pa 0), .ref an, .ref ln])), cE x xv, (x 9, .inr (4, [.ref (x 10), .ref (x 11), .ref (x 12), .ref (x 13), .int (nI xf), .int (nI QX.1)])), (x 10, .inl (cA 0, 12, .inl (xr 0))), (x 11, .inl (cA 0, 12, .inl (xr 1))), (x 12, .inl (cA 0, 12, .inl (xr 2))), (x 13, .inl (cA 0, 48, .inl (xr 3))), (ou, .inl (cA 3, 1, .inr (.inl ov)))] sz [(o, .inr (5, [.ref F, .ref G, .int lo, .int nw, .int se, .ref (pa 0), .ref an, .ref ln])), cE x xv, (x 9, .inr (4, [.ref (x 10), .ref (x 11), .ref (x 12), .ref (x 13), .int (nI u), .int (nI ((pop QX).1))])), (x 10, .inl (cA 0, 12, .inl (xr 0))), (x 11, .inl (cA 0, 12, .inl (xr 1))), (x 12, .inl (cA 0, 12, .inl (xr 2))), (x 13, .inl (cA 0, 48, .inl (xr 3))), (ou, .inl (cA 3, 1, .inr (.inl (vp_updL ov 0 (QX.2 0 0).toInt64))))] t) (va_A [(o, .inr (5, [.ref F, .ref G, .int lo, .int nw, .int se, .ref (pa 0), .ref an, .ref ln])), cE x xv, (x 9, .inr (4, [.ref (x 10), .ref (x 11), .ref (x 12), .ref (x 13), .int (nI xf), .int (nI QX.1)])), (x 10, .inl (cA 0, 12, .inl (xr 0))), (x 11, .inl (cA 0, 12, .inl (xr 1))), (x 12, .inl (cA 0, 12, .inl (xr 2))), (x 13, .inl (cA 0, 48, .inl (xr 3))), (ou, .inl (cA 3, 1, .inr (.inl ov)))] sz)) 0 0 (va_A [(o, .inr (5, [.ref F, .ref G, .int lo, .int nw, .int se, .ref (pa 0), .ref an, .ref ln])), cE x xv, (x 9, .inr (4, [.ref (x 10), .ref (x 11), .ref (x 12), .ref (x 13), .int (nI xf), .int (nI QX.1)])), (x 10, .inl (cA 0, 12, .inl (xr 0))), (x 11, .inl (cA 0, 12, .inl (xr 1))), (x 12, .inl (cA 0, 12, .inl (xr 2))), (x 13, .inl (cA 0, 48, .inl (xr 3))), (ou, .inl (cA 3, 1, .inr (.inl ov)))] sz) := by
  refine z_ofWH (cc := cL_lose) (maxL := 4) (ret := (some .int)) (hh := [(0, 9, 12, 13), (0, 9, 15, 37)]) (by decide) rfl ?_
  intro p e s m args below meth c s₁ B hml htab hv
  obtain ⟨rfl, hsz, hP, hK, hD0⟩ := hv
  have hx := B.exec
  have hb := B.bytes
  have hr := B.returns
  have hts := atoms_spec (ws := wsL_lose) B.pre
  have hown : s.vm.findClass RL = some m.cls := findClass_of_methodNamed B.named
  have hlocks := B.notSynchronized
  subst hsz
  have hD := hD0.self (sz := s.heap.size)
  generalize hAe : va_A [(o, .inr (5, [.ref F, .ref G, .int lo, .int nw, .int se, .ref (pa 0), .ref an, .ref ln])), cE x xv, (x 9, .inr (4, [.ref (x 10), .ref (x 11), .ref (x 12), .ref (x 13), .int (nI xf), .int (nI QX.1)])), (x 10, .inl (cA 0, 12, .inl (xr 0))), (x 11, .inl (cA 0, 12, .inl (xr 1))), (x 12, .inl (cA 0, 12, .inl (xr 2))), (x 13, .inl (cA 0, 48, .inl (xr 3))), (ou, .inl (cA 3, 1, .inr (.inl ov)))] s.heap.size = A at hD ⊢
  have hA : ∀ q : Nat, s.heap.size ≤ q → A q := fun q h => by rw [← hAe]; exact Or.inr h
  have hS : va_S A s.heap s.heap [] := va_S.rf
  have hl := lv_entry ([.ref o, .int n, .ref ou]) (n := 4) (Nat.le_of_ble_eq_true rfl)
  rw [lg_entry_eq]
  generalize (lg_sl ([.ref o, .int n, .ref ou]) ++ List.replicate (4 - (lg_sl ([.ref o, .int n, .ref ou])).length) Slot.unset).toArray = ls at hl ⊢
  have hl : lv_has ls 4 [(0, .ref o), (1, .int n), (2, .ref ou)] := hl
  refine lv_aload_n hx hb dL_lose_0 rfl (lv_at hl 2 rfl) ?_
  refine lv_iconst (v := 0) hx hb dL_lose_1 (by decide) ?_
  refine lv_aload_n hx hb dL_lose_2 rfl (lv_at hl 0 rfl) ?_
  refine lv_iload_n hx hb dL_lose_3 rfl (lv_at hl 1 rfl) ?_
  have hPc := hP.sub (ws' := [(o, .inr (5, [.ref F, .ref G, .int lo, .int nw, .int se, .ref (pa 0), .ref an, .ref ln])), cE x xv, (x 9, .inr (4, [.ref (x 10), .ref (x 11), .ref (x 12), .ref (x 13), .int (nI xf), .int (nI QX.1)])), (x 10, .inl (cA 0, 12, .inl (xr 0))), (x 11, .inl (cA 0, 12, .inl (xr 1))), (x 12, .inl (cA 0, 12, .inl (xr 2))), (x 13, .inl (cA 0, 48, .inl (xr 3)))]) [0, 1, 2, 3, 4, 5, 6] rfl
  have hDc := hD.sub (ws' := [(o, .inr (5, [.ref F, .ref G, .int lo, .int nw, .int se, .ref (pa 0), .ref an, .ref ln])), cE x xv, (x 9, .inr (4, [.ref (x 10), .ref (x 11), .ref (x 12), .ref (x 13), .int (nI xf), .int (nI QX.1)])), (x 10, .inl (cA 0, 12, .inl (xr 0))), (x 11, .inl (cA 0, 12, .inl (xr 1))), (x 12, .inl (cA 0, 12, .inl (xr 2))), (x 13, .inl (cA 0, 48, .inl (xr 3)))]) [0, 1, 2, 3, 4, 5, 6] (by decide) rfl
  have hFc := va_free (wc := [(o, .inr (5, [.ref F, .ref G, .int lo, .int nw, .int se, .ref (pa 0), .ref an, .ref ln])), cE x xv, (x 9, .inr (4, [.ref (x 10), .ref (x 11), .ref (x 12), .ref (x 13), .int (nI xf), .int (nI QX.1)])), (x 10, .inl (cA 0, 12, .inl (xr 0))), (x 11, .inl (cA 0, 12, .inl (xr 1))), (x 12, .inl (cA 0, 12, .inl (xr 2))), (x 13, .inl (cA 0, 48, .inl (xr 3)))]) hD hS hA [0, 1, 2, 3, 4, 5, 6] rfl
  refine va_calli (va_runV (As := [.int n]) (rest := [.int 0, .ref ou]) ⟨hx, hb, hml, hown, hts⟩ (c_X3_lose_k l D cA s.heap.size o F G lo nw se pa an ln x y0 n xv xr xf QX (by assumption) (by assumption) (by assumption)) (cwV 1 hts gL_lose_X3_lose rfl rfl rfl (by decide +kernel) ⟨Nat.le_of_ble_eq_true rfl, Nat.le_of_ble_eq_true rfl⟩) ⟨zU_blind, va_recv hK hPc (ci := 5) (q0 := 0) rfl rfl, fun U hU hW => ⟨rfl, zU_call hU hPc hW.alike hK hDc⟩⟩ rfl rfl hl.1 rfl (lv_room (Nat.le_of_ble_eq_true rfl)) dL_lose_4 ⟨(Nat.zero_le _), (Nat.zero_le _)⟩) hS (fun q _ h => hFc q h) hFc (fun zr u t H1 locs ht hvm hw hB hz1 hk1 hS => ?_)
  obtain ⟨xf'_1, rfl⟩ : ∃ z, z = u := ⟨_, rfl⟩
  obtain ⟨hP1, hD1⟩ := hB
  rw [ht] at hP1
  try dsimp only at hw hP1 hD1
  obtain ⟨hP, hD⟩ := va_join (wr := [(ou, .inl (cA 3, 1, .inr (.inl ov)))]) (w1 := [(o, .inr (5, [.ref F, .ref G, .int lo, .int nw, .int se, .ref (pa 0), .ref an, .ref ln])), cE x xv, (x 9, .inr (4, [.ref (x 10), .ref (x 11), .ref (x 12), .ref (x 13), .int (nI xf'_1), .int (nI ((pop QX).1))])), (x 10, .inl (cA 0, 12, .inl (xr 0))), (x 11, .inl (cA 0, 12, .inl (xr 1))), (x 12, .inl (cA 0, 12, .inl (xr 2))), (x 13, .inl (cA 0, 48, .inl (xr 3)))]) hP hD [0, 1, 2, 3, 4, 5, 6] [7] rfl rfl (by decide) (by decide) hk1 hFc hP1 hD1
  generalize H1 = H at hP hS ⊢
  have hP := hP.sub (ws' := [(o, .inr (5, [.ref F, .ref G, .int lo, .int nw, .int se, .ref (pa 0), .ref an, .ref ln])), cE x xv, (x 9, .inr (4, [.ref (x 10), .ref (x 11), .ref (x 12), .ref (x 13), .int (nI xf'_1), .int (nI ((pop QX).1))])), (x 10, .inl (cA 0, 12, .inl (xr 0))), (x 11, .inl (cA 0, 12, .inl (xr 1))), (x 12, .inl (cA 0, 12, .inl (xr 2))), (x 13, .inl (cA 0, 48, .inl (xr 3))), (ou, .inl (cA 3, 1, .inr (.inl ov)))]) [1, 2, 3, 4, 5, 6, 7, 0] rfl
  have hD := hD.sub (ws' := [(o, .inr (5, [.ref F, .ref G, .int lo, .int nw, .int se, .ref (pa 0), .ref an, .ref ln])), cE x xv, (x 9, .inr (4, [.ref (x 10), .ref (x 11), .ref (x 12), .ref (x 13), .int (nI xf'_1), .int (nI ((pop QX).1))])), (x 10, .inl (cA 0, 12, .inl (xr 0))), (x 11, .inl (cA 0, 12, .inl (xr 1))), (x 12, .inl (cA 0, 12, .inl (xr 2))), (x 13, .inl (cA 0, 48, .inl (xr 3))), (ou, .inl (cA 3, 1, .inr (.inl ov)))]) [1, 2, 3, 4, 5, 6, 7, 0] (by decide) rfl
  clear hPc hDc hFc hP1 hD1 hk1 hz1
  obtain ⟨hw_1_0, hw_1_1⟩ := hw
  obtain rfl := hw_1_1
  refine lv_i2l (v := (QX.2 0 0).toInt64) hx hb dL_lose_7 rfl ?_
  refine z_last (k := 0) hx hb hK hP hD hS 7 3 rfl rfl rfl (by omega) (by decide) dL_lose_8 (fun H locs hP hD hS => ?_)
  have hP : va_P D vwCl [(o, .inr (5, [.ref F, .ref G, .int lo, .int nw, .int se, .ref (pa 0), .ref an, .ref ln])), cE x xv, (x 9, .inr (4, [.ref (x 10), .ref (x 11), .ref (x 12), .ref (x 13), .int (nI xf'_1), .int (nI ((pop QX).1))])), (x 10, .inl (cA 0, 12, .inl (xr 0))), (x 11, .inl (cA 0, 12, .inl (xr 1))), (x 12, .inl (cA 0, 12, .inl (xr 2))), (x 13, .inl (cA 0, 48, .inl (xr 3))), (ou, .inl (cA 3, 1, .inr (.inl (vp_updL ov 0 ((QX.2 0 0).toInt64)))))] H := hP
  have hD : va_D A [(o, .inr (5, [.ref F, .ref G, .int lo, .int nw, .int se, .ref (pa 0), .ref an, .ref ln])), cE x xv, (x 9, .inr (4, [.ref (x 10), .ref (x 11), .ref (x 12), .ref (x 13), .int (nI xf'_1), .int (nI ((pop QX).1))])), (x 10, .inl (cA 0, 12, .inl (xr 0))), (x 11, .inl (cA 0, 12, .inl (xr 1))), (x 12, .inl (cA 0, 12, .inl (xr 2))), (x 13, .inl (cA 0, 48, .inl (xr 3))), (ou, .inl (cA 3, 1, .inr (.inl (vp_updL ov 0 ((QX.2 0 0).toInt64)))))] := hD
  refine lv_goto (tgt := 18) hx hb dL_lose_9 (by decide) ?_
  refine lv_iconst (v := 0) hx hb dL_lose_18 (by decide) ?_
  refine W.widen (k := 0) (n := 0) (by omega) (by omega) ?_
  exact W.iret (v := 0) hx hb hr (fun t ht hW => ⟨⟨0, (xf'_1), rfl, ⟨by assumption, rfl⟩, ⟨by rw [ht]; exact hP, by rw [hAe]; exact hD⟩⟩, hS.F ht⟩) hS.2.2 dL_lose_19
set_option maxHeartbeats 4000000 in
set_option maxRecDepth 100000 in
theorem c_L_lose_e (l : Launch) (D : va_G) (cA : Nat → ClassId) (zv : Nat → Nat) (sz : Nat) (o F G : Nat) (lo nw se : Int32) (pa : Nat → Nat) (an ln : Nat) (x : Nat → Nat) (y0 : Nat) (n : Int32) (xv : Nat → Int32) (xf : Nat) (QX : Qt) (ou : Nat) (hl0 : l.stackTraces = false) (he : en n F G (x 0) y0) (h0 : QX.1 = 0) : Met l yL_lose wsL_lose ({ frames := 10, cells := 1, slots := 6, locals := 144 }) (va_Pc [.ref o, .int n, .ref ou] (zUX D cA zv sz [(o, .inr (5, [.ref F, .ref G, .int lo, .int nw, .int se, .ref (pa 0), .ref an, .ref ln])), cE x xv, (x 9, .inr (4, [.ref (x 10), .ref (x 11), .ref (x 12), .ref (x 13), .int (nI xf), .int (nI QX.1)]))])) (va_Qi (fun (r : Int32) (_ : Unit) => r = 2) (fun (_ : Unit) t => zB D [(o, .inr (5, [.ref F, .ref G, .int lo, .int nw, .int se, .ref (pa 0), .ref an, .ref ln])), cE x xv, (x 9, .inr (4, [.ref (x 10), .ref (x 11), .ref (x 12), .ref (x 13), .int (nI xf), .int (nI QX.1)]))] sz [(o, .inr (5, [.ref F, .ref G, .int lo, .int nw, .int se, .ref (pa 0), .ref an, .ref ln])), cE x xv, (x 9, .inr (4, [.ref (x 10), .ref (x 11), .ref (x 12), .ref (x 13), .int (nI xf), .int (nI QX.1)]))] t) (va_A [(o, .inr (5, [.ref F, .ref G, .int lo, .int nw, .int se, .ref (pa 0), .ref an, .ref ln])), cE x xv, (x 9, .inr (4, [.ref (x 10), .ref (x 11), .ref (x 12), .ref (x 13), .int (nI xf), .int (nI QX.1)]))] sz)) 1 6 (va_A [(o, .inr (5, [.ref F, .ref G, .int lo, .int nw, .int se, .ref (pa 0), .ref an, .ref ln])), cE x xv, (x 9, .inr (4, [.ref (x 10), .ref (x 11), .ref (x 12), .ref (x 13), .int (nI xf), .int (nI QX.1)]))] sz) := by
  refine z_ofWH (cc := cL_lose) (maxL := 4) (ret := (some .int)) (hh := [(0, 9, 12, 13), (0, 9, 15, 37)]) (by decide) rfl ?_
  intro p e s m args below meth c s₁ B hml htab hv
  obtain ⟨rfl, ⟨hsz, hP, hK, hD0, hE0⟩, hX0⟩ := hv
  have hx := B.exec
  have hb := B.bytes
  have hr := B.returns
  have hts := atoms_spec (ws := wsL_lose) B.pre
  have hown : s.vm.findClass RL = some m.cls := findClass_of_methodNamed B.named
  have hlocks := B.notSynchronized
  subst hsz
  have hD := hD0.self (sz := s.heap.size)
  generalize hAe : va_A [(o, .inr (5, [.ref F, .ref G, .int lo, .int nw, .int se, .ref (pa 0), .ref an, .ref ln])), cE x xv, (x 9, .inr (4, [.ref (x 10), .ref (x 11), .ref (x 12), .ref (x 13), .int (nI xf), .int (nI QX.1)]))] s.heap.size = A at hD hE0 hX0 ⊢
  have hA : ∀ q : Nat, s.heap.size ≤ q → A q := fun q h => by rw [← hAe]; exact Or.inr h
  have hS : va_S A s.heap s.heap [] := va_S.rf
  have hl := lv_entry ([.ref o, .int n, .ref ou]) (n := 4) (Nat.le_of_ble_eq_true rfl)
  rw [lg_entry_eq]
  generalize (lg_sl ([.ref o, .int n, .ref ou]) ++ List.replicate (4 - (lg_sl ([.ref o, .int n, .ref ou])).length) Slot.unset).toArray = ls at hl ⊢
  have hl : lv_has ls 4 [(0, .ref o), (1, .int n), (2, .ref ou)] := hl
  refine lv_aload_n hx hb dL_lose_0 rfl (lv_at hl 2 rfl) ?_
  refine lv_iconst (v := 0) hx hb dL_lose_1 (by decide) ?_
  refine lv_aload_n hx hb dL_lose_2 rfl (lv_at hl 0 rfl) ?_
  refine lv_iload_n hx hb dL_lose_3 rfl (lv_at hl 1 rfl) ?_
  have hPc := hP.sub (ws' := [(o, .inr (5, [.ref F, .ref G, .int lo, .int nw, .int se, .ref (pa 0), .ref an, .ref ln])), cE x xv, (x 9, .inr (4, [.ref (x 10), .ref (x 11), .ref (x 12), .ref (x 13), .int (nI xf), .int (nI QX.1)]))]) [0, 1, 2] rfl
  have hDc := hD.sub (ws' := [(o, .inr (5, [.ref F, .ref G, .int lo, .int nw, .int se, .ref (pa 0), .ref an, .ref ln])), cE x xv, (x 9, .inr (4, [.ref (x 10), .ref (x 11), .ref (x 12), .ref (x 13), .int (nI xf), .int (nI QX.1)]))]) [0, 1, 2] (by decide) rfl
  have hFc := va_free (wc := [(o, .inr (5, [.ref F, .ref G, .int lo, .int nw, .int se, .ref (pa 0), .ref an, .ref ln])), cE x xv, (x 9, .inr (4, [.ref (x 10), .ref (x 11), .ref (x 12), .ref (x 13), .int (nI xf), .int (nI QX.1)]))]) hD hS hA [0, 1, 2] rfl
  refine vx_calli (vx_runV (As := [.int n]) (rest := [.int 0, .ref ou]) ⟨hx, hb, hml, hown, hts⟩ (c_X3_lose_e l D cA zv s.heap.size hl0 o F G lo nw se pa an ln x y0 n xv xf QX (by assumption) (by assumption)) (cwV 1 hts gL_lose_X3_lose rfl rfl rfl (by decide +kernel) ⟨Nat.le_of_ble_eq_true rfl, Nat.le_of_ble_eq_true rfl⟩) ⟨zUX_blind, va_recv hK hPc (ci := 5) (q0 := 0) rfl rfl, fun U hU hW => ⟨rfl, zUX_call hE0 hX0 hS hFc hU hPc hW hK hDc⟩⟩ rfl rfl hl.1 rfl (lv_room (Nat.le_of_ble_eq_true rfl)) dL_lose_4 ⟨Nat.le_of_ble_eq_true rfl, Nat.le_of_ble_eq_true rfl⟩) hS (fun q _ h => hFc q h) hFc (fun q _ h => hFc q h) (fun E9 ce9 q9 u t H1 locs ht hvm hpx hB hz1 hk1 hS hcell hcv hcl => ?_) (fun zr u t H1 locs1 ht hvm hw _ _ _ _ => hw.elim)
  obtain ⟨rfl, hP1, hD1⟩ := hB
  rw [ht] at hP1
  obtain ⟨hP, hD⟩ := va_join (wr := []) (w1 := [(o, .inr (5, [.ref F, .ref G, .int lo, .int nw, .int se, .ref (pa 0), .ref an, .ref ln])), cE x xv, (x 9, .inr (4, [.ref (x 10), .ref (x 11), .ref (x 12), .ref (x 13), .int (nI xf), .int (nI QX.1)]))]) hP hD [0, 1, 2] [] rfl rfl (by decide) (by decide) hk1 hFc hP1 hD1
  have hP := hP.sub (ws' := [(o, .inr (5, [.ref F, .ref G, .int lo, .int nw, .int se, .ref (pa 0), .ref an, .ref ln])), cE x xv, (x 9, .inr (4, [.ref (x 10), .ref (x 11), .ref (x 12), .ref (x 13), .int (nI xf), .int (nI QX.1)]))]) [0, 1, 2] rfl
  have hD := hD.sub (ws' := [(o, .inr (5, [.ref F, .ref G, .int lo, .int nw, .int se, .ref (pa 0), .ref an, .ref ln])), cE x xv, (x 9, .inr (4, [.ref (x 10), .ref (x 11), .ref (x 12), .ref (x 13), .int (nI xf), .int (nI QX.1)]))]) [0, 1, 2] (by decide) rfl
  refine vx_catch hown [⟨0, 9, 12, 13⟩] ⟨0, 9, 15, 37⟩ [] htab (fun z hz => by obtain rfl := List.mem_singleton.mp hz; exact Or.inr ⟨by decide, _, (hts (.classLink RL 13 "java/lang/IllegalArgumentException") (List.mem_of_getElem? (i := 1) rfl)), hX0.2.2.2.2.2⟩) (by decide) (by decide) (hts (.classLink RL 37 "java/util/NoSuchElementException") (List.mem_of_getElem? (i := 2) rfl)) (va_Nw.use rfl (hX0.1.1 "java/util/NoSuchElementException" (by decide))) hcell hcv hcl ?_
  refine W.eq (g2 := F0 m 15 ls [.ref q9]) rfl ?_
  clear hcell
  generalize H1 = H at hP hS ⊢
  refine W.widen (k := 1) (n := 6) (by omega) (by omega) ?_
  refine lv_astore_n (lv' := [(3, .ref q9), (0, .ref o), (1, .int n), (2, .ref ou)]) hx hb dL_lose_15 rfl hl (by decide) rfl (fun ls hl => ?_)
  refine lv_iconst (v := 2) hx hb dL_lose_16 (by decide) ?_
  refine W.widen (k := 1) (n := 6) (by omega) (by omega) ?_
  exact W.iret (v := 2) hx hb hr (fun t ht hW => ⟨⟨2, (), rfl, rfl, ⟨by rw [ht]; exact hP, by rw [hAe]; exact hD⟩⟩, hS.F ht⟩) hS.2.2 dL_lose_17
set_option maxHeartbeats 4000000 in
set_option maxRecDepth 100000 in
theorem c_L_lose_b (l : Launch) (D : va_G) (cA : Nat → ClassId) (zv : Nat → Nat) (sz : Nat) (o F G : Nat) (lo nw se : Int32) (pa : Nat → Nat) (an ln : Nat) (n  : Int32) (ou : Nat) (hl0 : l.stackTraces = false) (hbad : ¬ inr n 0 1) : Met l yL_lose wsL_lose ({ frames := 10, cells := 1, slots := 6, locals := 143 }) (va_Pc [.ref o, .int n, .ref ou] (zUX D cA zv sz [(o, .inr (5, [.ref F, .ref G, .int lo, .int nw, .int se, .ref (pa 0), .ref an, .ref ln]))])) (va_Qi (fun (r : Int32) (_ : Unit) => r = 1) (fun (_ : Unit) t => zB D [(o, .inr (5, [.ref F, .ref G, .int lo, .int nw, .int se, .ref (pa 0), .ref an, .ref ln]))] sz [(o, .inr (5, [.ref F, .ref G, .int lo, .int nw, .int se, .ref (pa 0), .ref an, .ref ln]))] t) (va_A [(o, .inr (5, [.ref F, .ref G, .int lo, .int nw, .int se, .ref (pa 0), .ref an, .ref ln]))] sz)) 1 6 (va_A [(o, .inr (5, [.ref F, .ref G, .int lo, .int nw, .int se, .ref (pa 0), .ref an, .ref ln]))] sz) := by
  refine z_ofWH (cc := cL_lose) (maxL := 4) (ret := (some .int)) (hh := [(0, 9, 12, 13), (0, 9, 15, 37)]) (by decide) rfl ?_
  intro p e s m args below meth c s₁ B hml htab hv
  obtain ⟨rfl, ⟨hsz, hP, hK, hD0, hE0⟩, hX0⟩ := hv
  have hx := B.exec
  have hb := B.bytes
  have hr := B.returns
  have hts := atoms_spec (ws := wsL_lose) B.pre
  have hown : s.vm.findClass RL = some m.cls := findClass_of_methodNamed B.named
  have hlocks := B.notSynchronized
  subst hsz
  have hD := hD0.self (sz := s.heap.size)
  generalize hAe : va_A [(o, .inr (5, [.ref F, .ref G, .int lo, .int nw, .int se, .ref (pa 0), .ref an, .ref ln]))] s.heap.size = A at hD hE0 hX0 ⊢
  have hA : ∀ q : Nat, s.heap.size ≤ q → A q := fun q h => by rw [← hAe]; exact Or.inr h
  have hS : va_S A s.heap s.heap [] := va_S.rf
  have hl := lv_entry ([.ref o, .int n, .ref ou]) (n := 4) (Nat.le_of_ble_eq_true rfl)
  rw [lg_entry_eq]
  generalize (lg_sl ([.ref o, .int n, .ref ou]) ++ List.replicate (4 - (lg_sl ([.ref o, .int n, .ref ou])).length) Slot.unset).toArray = ls at hl ⊢
  have hl : lv_has ls 4 [(0, .ref o), (1, .int n), (2, .ref ou)] := hl
  refine lv_aload_n hx hb dL_lose_0 rfl (lv_at hl 2 rfl) ?_
  refine lv_iconst (v := 0) hx hb dL_lose_1 (by decide) ?_
  refine lv_aload_n hx hb dL_lose_2 rfl (lv_at hl 0 rfl) ?_
  refine lv_iload_n hx hb dL_lose_3 rfl (lv_at hl 1 rfl) ?_
  have hPc := hP.sub (ws' := [(o, .inr (5, [.ref F, .ref G, .int lo, .int nw, .int se, .ref (pa 0), .ref an, .ref ln]))]) [0] rfl
  have hDc := hD.sub (ws' := [(o, .inr (5, [.ref F, .ref G, .int lo, .int nw, .int se, .ref (pa 0), .ref an, .ref ln]))]) [0] (by decide) rfl
  have hFc := va_free (wc := [(o, .inr (5, [.ref F, .ref G, .int lo, .int nw, .int se, .ref (pa 0), .ref an, .ref ln]))]) hD hS hA [0] rfl
  refine vx_calli (vx_runV (As := [.int n]) (rest := [.int 0, .ref ou]) ⟨hx, hb, hml, hown, hts⟩ (c_X3_lose_b l D cA zv s.heap.size hl0 o F G lo nw se pa an ln n (by assumption)) (cwV 1 hts gL_lose_X3_lose rfl rfl rfl (by decide +kernel) ⟨Nat.le_of_ble_eq_true rfl, Nat.le_of_ble_eq_true rfl⟩) ⟨zUX_blind, va_recv hK hPc (ci := 5) (q0 := 0) rfl rfl, fun U hU hW => ⟨rfl, zUX_call hE0 hX0 hS hFc hU hPc hW hK hDc⟩⟩ rfl rfl hl.1 rfl (lv_room (Nat.le_of_ble_eq_true rfl)) dL_lose_4 ⟨Nat.le_of_ble_eq_true rfl, Nat.le_of_ble_eq_true rfl⟩) hS (fun q _ h => hFc q h) hFc (fun q _ h => hFc q h) (fun E9 ce9 q9 u t H1 locs ht hvm hpx hB hz1 hk1 hS hcell hcv hcl => ?_) (fun zr u t H1 locs1 ht hvm hw _ _ _ _ => hw.elim)
  obtain ⟨rfl, hP1, hD1⟩ := hB
  rw [ht] at hP1
  obtain ⟨hP, hD⟩ := va_join (wr := []) (w1 := [(o, .inr (5, [.ref F, .ref G, .int lo, .int nw, .int se, .ref (pa 0), .ref an, .ref ln]))]) hP hD [0] [] rfl rfl (by decide) (by decide) hk1 hFc hP1 hD1
  have hP := hP.sub (ws' := [(o, .inr (5, [.ref F, .ref G, .int lo, .int nw, .int se, .ref (pa 0), .ref an, .ref ln]))]) [0] rfl
  have hD := hD.sub (ws' := [(o, .inr (5, [.ref F, .ref G, .int lo, .int nw, .int se, .ref (pa 0), .ref an, .ref ln]))]) [0] (by decide) rfl
  refine vx_catch hown [] ⟨0, 9, 12, 13⟩ [⟨0, 9, 15, 37⟩] htab (fun z hz => absurd hz List.not_mem_nil) (by decide) (by decide) (hts (.classLink RL 13 "java/lang/IllegalArgumentException") (List.mem_of_getElem? (i := 1) rfl)) (va_Nw.use rfl (hX0.1.1 "java/lang/IllegalArgumentException" (by decide))) hcell hcv hcl ?_
  refine W.eq (g2 := F0 m 12 ls [.ref q9]) rfl ?_
  clear hcell
  generalize H1 = H at hP hS ⊢
  refine W.widen (k := 1) (n := 6) (by omega) (by omega) ?_
  refine lv_astore_n (lv' := [(3, .ref q9), (0, .ref o), (1, .int n), (2, .ref ou)]) hx hb dL_lose_12 rfl hl (by decide) rfl (fun ls hl => ?_)
  refine lv_iconst (v := 1) hx hb dL_lose_13 (by decide) ?_
  refine W.widen (k := 1) (n := 6) (by omega) (by omega) ?_
  exact W.iret (v := 1) hx hb hr (fun t ht hW => ⟨⟨1, (), rfl, rfl, ⟨by rw [ht]; exact hP, by rw [hAe]; exact hD⟩⟩, hS.F ht⟩) hS.2.2 dL_lose_14
set_option maxHeartbeats 4000000 in
set_option maxRecDepth 100000 in
theorem c_L_state_k (l : Launch) (D : va_G) (cA : Nat → ClassId) (sz : Nat) (o F G : Nat) (lo nw se : Int32) (pa : Nat → Nat) (an ln : Nat) (x : Nat → Nat) (y0 : Nat) (n : Int32) (xv : Nat → Int32)  (ou : Nat) (ov : Nat → Int64) (he : en n F G (x 0) y0) : Met l yL_state wsL_state ({ frames := 2, cells := 0, slots := 0, locals := 42 }) (va_Pc [.ref o, .int n, .ref ou] (zU D cA sz [(o, .inr (5, [.ref F, .ref G, .int lo, .int nw, .int se, .ref (pa 0), .ref an, .ref ln])), cE x xv, (ou, .inl (cA 3, 1, .inr (.inl ov)))])) (va_Qi (fun (r : Int32) (_ : Unit) => r = 0) (fun (_ : Unit) t => zB D [(o, .inr (5, [.ref F, .ref G, .int lo, .int nw, .int se, .ref (pa 0), .ref an, .ref ln])), cE x xv, (ou, .inl (cA 3, 1, .inr (.inl ov)))] sz [(o, .inr (5, [.ref F, .ref G, .int lo, .int nw, .int se, .ref (pa 0), .ref an, .ref ln])), cE x xv, (ou, .inl (cA 3, 1, .inr (.inl (vp_updL ov 0 (xv 0).toInt64))))] t) (va_A [(o, .inr (5, [.ref F, .ref G, .int lo, .int nw, .int se, .ref (pa 0), .ref an, .ref ln])), cE x xv, (ou, .inl (cA 3, 1, .inr (.inl ov)))] sz)) 0 0 (va_A [(o, .inr (5, [.ref F, .ref G, .int lo, .int nw, .int se, .ref (pa 0), .ref an, .ref ln])), cE x xv, (ou, .inl (cA 3, 1, .inr (.inl ov)))] sz) := by
  refine z_ofWH (cc := cL_state) (maxL := 4) (ret := (some .int)) (hh := [(0, 9, 12, 13)]) (by decide) rfl ?_
  intro p e s m args below meth c s₁ B hml htab hv
  obtain ⟨rfl, hsz, hP, hK, hD0⟩ := hv
  have hx := B.exec
  have hb := B.bytes
  have hr := B.returns
  have hts := atoms_spec (ws := wsL_state) B.pre
  have hown : s.vm.findClass RL = some m.cls := findClass_of_methodNamed B.named
  have hlocks := B.notSynchronized
  subst hsz
  have hD := hD0.self (sz := s.heap.size)
  generalize hAe : va_A [(o, .inr (5, [.ref F, .ref G, .int lo, .int nw, .int se, .ref (pa 0), .ref an, .ref ln])), cE x xv, (ou, .inl (cA 3, 1, .inr (.inl ov)))] s.heap.size = A at hD ⊢
  have hA : ∀ q : Nat, s.heap.size ≤ q → A q := fun q h => by rw [← hAe]; exact Or.inr h
  have hS : va_S A s.heap s.heap [] := va_S.rf
  have hl := lv_entry ([.ref o, .int n, .ref ou]) (n := 4) (Nat.le_of_ble_eq_true rfl)
  rw [lg_entry_eq]
  generalize (lg_sl ([.ref o, .int n, .ref ou]) ++ List.replicate (4 - (lg_sl ([.ref o, .int n, .ref ou])).length) Slot.unset).toArray = ls at hl ⊢
  have hl : lv_has ls 4 [(0, .ref o), (1, .int n), (2, .ref ou)] := hl
  refine lv_aload_n hx hb dL_state_0 rfl (lv_at hl 2 rfl) ?_
  refine lv_iconst (v := 0) hx hb dL_state_1 (by decide) ?_
  refine lv_aload_n hx hb dL_state_2 rfl (lv_at hl 0 rfl) ?_
  refine lv_iload_n hx hb dL_state_3 rfl (lv_at hl 1 rfl) ?_
  have hPc := hP.sub (ws' := [(o, .inr (5, [.ref F, .ref G, .int lo, .int nw, .int se, .ref (pa 0), .ref an, .ref ln])), cE x xv]) [0, 1] rfl
  have hDc := hD.sub (ws' := [(o, .inr (5, [.ref F, .ref G, .int lo, .int nw, .int se, .ref (pa 0), .ref an, .ref ln])), cE x xv]) [0, 1] (by decide) rfl
  have hFc := va_free (wc := [(o, .inr (5, [.ref F, .ref G, .int lo, .int nw, .int se, .ref (pa 0), .ref an, .ref ln])), cE x xv]) hD hS hA [0, 1] rfl
  refine va_calli (va_runV (As := [.int n]) (rest := [.int 0, .ref ou]) ⟨hx, hb, hml, hown, hts⟩ (c_X3_state_k l D cA s.heap.size o F G lo nw se pa an ln x y0 n xv (by assumption)) (cwV 1 hts gL_state_X3_state rfl rfl rfl (by decide +kernel) ⟨Nat.le_of_ble_eq_true rfl, Nat.le_of_ble_eq_true rfl⟩) ⟨zU_blind, va_recv hK hPc (ci := 5) (q0 := 0) rfl rfl, fun U hU hW => ⟨rfl, zU_call hU hPc hW.alike hK hDc⟩⟩ rfl rfl hl.1 rfl (lv_room (Nat.le_of_ble_eq_true rfl)) dL_state_4 ⟨(Nat.zero_le _), (Nat.zero_le _)⟩) hS (fun q _ h => hFc q h) hFc (fun zr u t H1 locs ht hvm hw hB hz1 hk1 hS => ?_)
  obtain ⟨hP1, hD1⟩ := hB
  rw [ht] at hP1
  obtain ⟨hP, hD⟩ := va_join (wr := [(ou, .inl (cA 3, 1, .inr (.inl ov)))]) (w1 := [(o, .inr (5, [.ref F, .ref G, .int lo, .int nw, .int se, .ref (pa 0), .ref an, .ref ln])), cE x xv]) hP hD [0, 1] [2] rfl rfl (by decide) (by decide) hk1 hFc hP1 hD1
  generalize H1 = H at hP hS ⊢
  have hP := hP.sub (ws' := [(o, .inr (5, [.ref F, .ref G, .int lo, .int nw, .int se, .ref (pa 0), .ref an, .ref ln])), cE x xv, (ou, .inl (cA 3, 1, .inr (.inl ov)))]) [1, 2, 0] rfl
  have hD := hD.sub (ws' := [(o, .inr (5, [.ref F, .ref G, .int lo, .int nw, .int se, .ref (pa 0), .ref an, .ref ln])), cE x xv, (ou, .inl (cA 3, 1, .inr (.inl ov)))]) [1, 2, 0] (by decide) rfl
  clear hPc hDc hFc hP1 hD1 hk1 hz1
  have hw_1 := hw
  obtain rfl := hw
  refine lv_i2l (v := (xv 0).toInt64) hx hb dL_state_7 rfl ?_
  refine z_last (k := 0) hx hb hK hP hD hS 2 3 rfl rfl rfl (by omega) (by decide) dL_state_8 (fun H locs hP hD hS => ?_)
  have hP : va_P D vwCl [(o, .inr (5, [.ref F, .ref G, .int lo, .int nw, .int se, .ref (pa 0), .ref an, .ref ln])), cE x xv, (ou, .inl (cA 3, 1, .inr (.inl (vp_updL ov 0 ((xv 0).toInt64)))))] H := hP
  have hD : va_D A [(o, .inr (5, [.ref F, .ref G, .int lo, .int nw, .int se, .ref (pa 0), .ref an, .ref ln])), cE x xv, (ou, .inl (cA 3, 1, .inr (.inl (vp_updL ov 0 ((xv 0).toInt64)))))] := hD
  refine lv_goto (tgt := 15) hx hb dL_state_9 (by decide) ?_
  refine lv_iconst (v := 0) hx hb dL_state_15 (by decide) ?_
  refine W.widen (k := 0) (n := 0) (by omega) (by omega) ?_
  exact W.iret (v := 0) hx hb hr (fun t ht hW => ⟨⟨0, (), rfl, rfl, ⟨by rw [ht]; exact hP, by rw [hAe]; exact hD⟩⟩, hS.F ht⟩) hS.2.2 dL_state_16
set_option maxHeartbeats 4000000 in
set_option maxRecDepth 100000 in
theorem c_L_state_b (l : Launch) (D : va_G) (cA : Nat → ClassId) (zv : Nat → Nat) (sz : Nat) (o F G : Nat) (lo nw se : Int32) (pa : Nat → Nat) (an ln : Nat) (n  : Int32) (ou : Nat) (hl0 : l.stackTraces = false) (hbad : ¬ inr n 0 1) : Met l yL_state wsL_state ({ frames := 10, cells := 1, slots := 6, locals := 141 }) (va_Pc [.ref o, .int n, .ref ou] (zUX D cA zv sz [(o, .inr (5, [.ref F, .ref G, .int lo, .int nw, .int se, .ref (pa 0), .ref an, .ref ln]))])) (va_Qi (fun (r : Int32) (_ : Unit) => r = 1) (fun (_ : Unit) t => zB D [(o, .inr (5, [.ref F, .ref G, .int lo, .int nw, .int se, .ref (pa 0), .ref an, .ref ln]))] sz [(o, .inr (5, [.ref F, .ref G, .int lo, .int nw, .int se, .ref (pa 0), .ref an, .ref ln]))] t) (va_A [(o, .inr (5, [.ref F, .ref G, .int lo, .int nw, .int se, .ref (pa 0), .ref an, .ref ln]))] sz)) 1 6 (va_A [(o, .inr (5, [.ref F, .ref G, .int lo, .int nw, .int se, .ref (pa 0), .ref an, .ref ln]))] sz) := by
  refine z_ofWH (cc := cL_state) (maxL := 4) (ret := (some .int)) (hh := [(0, 9, 12, 13)]) (by decide) rfl ?_
  intro p e s m args below meth c s₁ B hml htab hv
  obtain ⟨rfl, ⟨hsz, hP, hK, hD0, hE0⟩, hX0⟩ := hv
  have hx := B.exec
  have hb := B.bytes
  have hr := B.returns
  have hts := atoms_spec (ws := wsL_state) B.pre
  have hown : s.vm.findClass RL = some m.cls := findClass_of_methodNamed B.named
  have hlocks := B.notSynchronized
  subst hsz
  have hD := hD0.self (sz := s.heap.size)
  generalize hAe : va_A [(o, .inr (5, [.ref F, .ref G, .int lo, .int nw, .int se, .ref (pa 0), .ref an, .ref ln]))] s.heap.size = A at hD hE0 hX0 ⊢
  have hA : ∀ q : Nat, s.heap.size ≤ q → A q := fun q h => by rw [← hAe]; exact Or.inr h
  have hS : va_S A s.heap s.heap [] := va_S.rf
  have hl := lv_entry ([.ref o, .int n, .ref ou]) (n := 4) (Nat.le_of_ble_eq_true rfl)
  rw [lg_entry_eq]
  generalize (lg_sl ([.ref o, .int n, .ref ou]) ++ List.replicate (4 - (lg_sl ([.ref o, .int n, .ref ou])).length) Slot.unset).toArray = ls at hl ⊢
  have hl : lv_has ls 4 [(0, .ref o), (1, .int n), (2, .ref ou)] := hl
  refine lv_aload_n hx hb dL_state_0 rfl (lv_at hl 2 rfl) ?_
  refine lv_iconst (v := 0) hx hb dL_state_1 (by decide) ?_
  refine lv_aload_n hx hb dL_state_2 rfl (lv_at hl 0 rfl) ?_
  refine lv_iload_n hx hb dL_state_3 rfl (lv_at hl 1 rfl) ?_
  have hPc := hP.sub (ws' := [(o, .inr (5, [.ref F, .ref G, .int lo, .int nw, .int se, .ref (pa 0), .ref an, .ref ln]))]) [0] rfl
  have hDc := hD.sub (ws' := [(o, .inr (5, [.ref F, .ref G, .int lo, .int nw, .int se, .ref (pa 0), .ref an, .ref ln]))]) [0] (by decide) rfl
  have hFc := va_free (wc := [(o, .inr (5, [.ref F, .ref G, .int lo, .int nw, .int se, .ref (pa 0), .ref an, .ref ln]))]) hD hS hA [0] rfl
  refine vx_calli (vx_runV (As := [.int n]) (rest := [.int 0, .ref ou]) ⟨hx, hb, hml, hown, hts⟩ (c_X3_state_b l D cA zv s.heap.size hl0 o F G lo nw se pa an ln n (by assumption)) (cwV 1 hts gL_state_X3_state rfl rfl rfl (by decide +kernel) ⟨Nat.le_of_ble_eq_true rfl, Nat.le_of_ble_eq_true rfl⟩) ⟨zUX_blind, va_recv hK hPc (ci := 5) (q0 := 0) rfl rfl, fun U hU hW => ⟨rfl, zUX_call hE0 hX0 hS hFc hU hPc hW hK hDc⟩⟩ rfl rfl hl.1 rfl (lv_room (Nat.le_of_ble_eq_true rfl)) dL_state_4 ⟨Nat.le_of_ble_eq_true rfl, Nat.le_of_ble_eq_true rfl⟩) hS (fun q _ h => hFc q h) hFc (fun q _ h => hFc q h) (fun E9 ce9 q9 u t H1 locs ht hvm hpx hB hz1 hk1 hS hcell hcv hcl => ?_) (fun zr u t H1 locs1 ht hvm hw _ _ _ _ => hw.elim)
  obtain ⟨rfl, hP1, hD1⟩ := hB
  rw [ht] at hP1
  obtain ⟨hP, hD⟩ := va_join (wr := []) (w1 := [(o, .inr (5, [.ref F, .ref G, .int lo, .int nw, .int se, .ref (pa 0), .ref an, .ref ln]))]) hP hD [0] [] rfl rfl (by decide) (by decide) hk1 hFc hP1 hD1
  have hP := hP.sub (ws' := [(o, .inr (5, [.ref F, .ref G, .int lo, .int nw, .int se, .ref (pa 0), .ref an, .ref ln]))]) [0] rfl
  have hD := hD.sub (ws' := [(o, .inr (5, [.ref F, .ref G, .int lo, .int nw, .int se, .ref (pa 0), .ref an, .ref ln]))]) [0] (by decide) rfl
  refine vx_catch hown [] ⟨0, 9, 12, 13⟩ [] htab (fun z hz => absurd hz List.not_mem_nil) (by decide) (by decide) (hts (.classLink RL 13 "java/lang/IllegalArgumentException") (List.mem_of_getElem? (i := 1) rfl)) (va_Nw.use rfl (hX0.1.1 "java/lang/IllegalArgumentException" (by decide))) hcell hcv hcl ?_
  refine W.eq (g2 := F0 m 12 ls [.ref q9]) rfl ?_
  clear hcell
  generalize H1 = H at hP hS ⊢
  refine W.widen (k := 1) (n := 6) (by omega) (by omega) ?_
  refine lv_astore_n (lv' := [(3, .ref q9), (0, .ref o), (1, .int n), (2, .ref ou)]) hx hb dL_state_12 rfl hl (by decide) rfl (fun ls hl => ?_)
  refine lv_iconst (v := 1) hx hb dL_state_13 (by decide) ?_
  refine W.widen (k := 1) (n := 6) (by omega) (by omega) ?_
  exact W.iret (v := 1) hx hb hr (fun t ht hW => ⟨⟨1, (), rfl, rfl, ⟨by rw [ht]; exact hP, by rw [hAe]; exact hD⟩⟩, hS.F ht⟩) hS.2.2 dL_state_14
set_option maxHeartbeats 4000000 in
set_option maxRecDepth 100000 in
theorem c_L_tries_k (l : Launch) (D : va_G) (cA : Nat → ClassId) (sz : Nat) (o F G : Nat) (lo nw se : Int32) (pa : Nat → Nat) (an ln : Nat) (x : Nat → Nat) (y0 : Nat) (n : Int32) (xv : Nat → Int32)  (ou : Nat) (ov : Nat → Int64) (he : en n F G (x 0) y0) : Met l yL_tries wsL_tries ({ frames := 2, cells := 0, slots := 0, locals := 42 }) (va_Pc [.ref o, .int n, .ref ou] (zU D cA sz [(o, .inr (5, [.ref F, .ref G, .int lo, .int nw, .int se, .ref (pa 0), .ref an, .ref ln])), cE x xv, (ou, .inl (cA 3, 1, .inr (.inl ov)))])) (va_Qi (fun (r : Int32) (_ : Unit) => r = 0) (fun (_ : Unit) t => zB D [(o, .inr (5, [.ref F, .ref G, .int lo, .int nw, .int se, .ref (pa 0), .ref an, .ref ln])), cE x xv, (ou, .inl (cA 3, 1, .inr (.inl ov)))] sz [(o, .inr (5, [.ref F, .ref G, .int lo, .int nw, .int se, .ref (pa 0), .ref an, .ref ln])), cE x xv, (ou, .inl (cA 3, 1, .inr (.inl (vp_updL ov 0 (xv 3).toInt64))))] t) (va_A [(o, .inr (5, [.ref F, .ref G, .int lo, .int nw, .int se, .ref (pa 0), .ref an, .ref ln])), cE x xv, (ou, .inl (cA 3, 1, .inr (.inl ov)))] sz)) 0 0 (va_A [(o, .inr (5, [.ref F, .ref G, .int lo, .int nw, .int se, .ref (pa 0), .ref an, .ref ln])), cE x xv, (ou, .inl (cA 3, 1, .inr (.inl ov)))] sz) := by
  refine z_ofWH (cc := cL_tries) (maxL := 4) (ret := (some .int)) (hh := [(0, 9, 12, 13)]) (by decide) rfl ?_
  intro p e s m args below meth c s₁ B hml htab hv
  obtain ⟨rfl, hsz, hP, hK, hD0⟩ := hv
  have hx := B.exec
  have hb := B.bytes
  have hr := B.returns
  have hts := atoms_spec (ws := wsL_tries) B.pre
  have hown : s.vm.findClass RL = some m.cls := findClass_of_methodNamed B.named
  have hlocks := B.notSynchronized
  subst hsz
  have hD := hD0.self (sz := s.heap.size)
  generalize hAe : va_A [(o, .inr (5, [.ref F, .ref G, .int lo, .int nw, .int se, .ref (pa 0), .ref an, .ref ln])), cE x xv, (ou, .inl (cA 3, 1, .inr (.inl ov)))] s.heap.size = A at hD ⊢
  have hA : ∀ q : Nat, s.heap.size ≤ q → A q := fun q h => by rw [← hAe]; exact Or.inr h
  have hS : va_S A s.heap s.heap [] := va_S.rf
  have hl := lv_entry ([.ref o, .int n, .ref ou]) (n := 4) (Nat.le_of_ble_eq_true rfl)
  rw [lg_entry_eq]
  generalize (lg_sl ([.ref o, .int n, .ref ou]) ++ List.replicate (4 - (lg_sl ([.ref o, .int n, .ref ou])).length) Slot.unset).toArray = ls at hl ⊢
  have hl : lv_has ls 4 [(0, .ref o), (1, .int n), (2, .ref ou)] := hl
  refine lv_aload_n hx hb dL_tries_0 rfl (lv_at hl 2 rfl) ?_
  refine lv_iconst (v := 0) hx hb dL_tries_1 (by decide) ?_
  refine lv_aload_n hx hb dL_tries_2 rfl (lv_at hl 0 rfl) ?_
  refine lv_iload_n hx hb dL_tries_3 rfl (lv_at hl 1 rfl) ?_
  have hPc := hP.sub (ws' := [(o, .inr (5, [.ref F, .ref G, .int lo, .int nw, .int se, .ref (pa 0), .ref an, .ref ln])), cE x xv]) [0, 1] rfl
  have hDc := hD.sub (ws' := [(o, .inr (5, [.ref F, .ref G, .int lo, .int nw, .int se, .ref (pa 0), .ref an, .ref ln])), cE x xv]) [0, 1] (by decide) rfl
  have hFc := va_free (wc := [(o, .inr (5, [.ref F, .ref G, .int lo, .int nw, .int se, .ref (pa 0), .ref an, .ref ln])), cE x xv]) hD hS hA [0, 1] rfl
  refine va_calli (va_runV (As := [.int n]) (rest := [.int 0, .ref ou]) ⟨hx, hb, hml, hown, hts⟩ (c_X3_tries_k l D cA s.heap.size o F G lo nw se pa an ln x y0 n xv (by assumption)) (cwV 1 hts gL_tries_X3_tries rfl rfl rfl (by decide +kernel) ⟨Nat.le_of_ble_eq_true rfl, Nat.le_of_ble_eq_true rfl⟩) ⟨zU_blind, va_recv hK hPc (ci := 5) (q0 := 0) rfl rfl, fun U hU hW => ⟨rfl, zU_call hU hPc hW.alike hK hDc⟩⟩ rfl rfl hl.1 rfl (lv_room (Nat.le_of_ble_eq_true rfl)) dL_tries_4 ⟨(Nat.zero_le _), (Nat.zero_le _)⟩) hS (fun q _ h => hFc q h) hFc (fun zr u t H1 locs ht hvm hw hB hz1 hk1 hS => ?_)
  obtain ⟨hP1, hD1⟩ := hB
  rw [ht] at hP1
  obtain ⟨hP, hD⟩ := va_join (wr := [(ou, .inl (cA 3, 1, .inr (.inl ov)))]) (w1 := [(o, .inr (5, [.ref F, .ref G, .int lo, .int nw, .int se, .ref (pa 0), .ref an, .ref ln])), cE x xv]) hP hD [0, 1] [2] rfl rfl (by decide) (by decide) hk1 hFc hP1 hD1
  generalize H1 = H at hP hS ⊢
  have hP := hP.sub (ws' := [(o, .inr (5, [.ref F, .ref G, .int lo, .int nw, .int se, .ref (pa 0), .ref an, .ref ln])), cE x xv, (ou, .inl (cA 3, 1, .inr (.inl ov)))]) [1, 2, 0] rfl
  have hD := hD.sub (ws' := [(o, .inr (5, [.ref F, .ref G, .int lo, .int nw, .int se, .ref (pa 0), .ref an, .ref ln])), cE x xv, (ou, .inl (cA 3, 1, .inr (.inl ov)))]) [1, 2, 0] (by decide) rfl
  clear hPc hDc hFc hP1 hD1 hk1 hz1
  have hw_1 := hw
  obtain rfl := hw
  refine lv_i2l (v := (xv 3).toInt64) hx hb dL_tries_7 rfl ?_
  refine z_last (k := 0) hx hb hK hP hD hS 2 3 rfl rfl rfl (by omega) (by decide) dL_tries_8 (fun H locs hP hD hS => ?_)
  have hP : va_P D vwCl [(o, .inr (5, [.ref F, .ref G, .int lo, .int nw, .int se, .ref (pa 0), .ref an, .ref ln])), cE x xv, (ou, .inl (cA 3, 1, .inr (.inl (vp_updL ov 0 ((xv 3).toInt64)))))] H := hP
  have hD : va_D A [(o, .inr (5, [.ref F, .ref G, .int lo, .int nw, .int se, .ref (pa 0), .ref an, .ref ln])), cE x xv, (ou, .inl (cA 3, 1, .inr (.inl (vp_updL ov 0 ((xv 3).toInt64)))))] := hD
  refine lv_goto (tgt := 15) hx hb dL_tries_9 (by decide) ?_
  refine lv_iconst (v := 0) hx hb dL_tries_15 (by decide) ?_
  refine W.widen (k := 0) (n := 0) (by omega) (by omega) ?_
  exact W.iret (v := 0) hx hb hr (fun t ht hW => ⟨⟨0, (), rfl, rfl, ⟨by rw [ht]; exact hP, by rw [hAe]; exact hD⟩⟩, hS.F ht⟩) hS.2.2 dL_tries_16
set_option maxHeartbeats 4000000 in
set_option maxRecDepth 100000 in
theorem c_L_tries_b (l : Launch) (D : va_G) (cA : Nat → ClassId) (zv : Nat → Nat) (sz : Nat) (o F G : Nat) (lo nw se : Int32) (pa : Nat → Nat) (an ln : Nat) (n  : Int32) (ou : Nat) (hl0 : l.stackTraces = false) (hbad : ¬ inr n 0 1) : Met l yL_tries wsL_tries ({ frames := 10, cells := 1, slots := 6, locals := 141 }) (va_Pc [.ref o, .int n, .ref ou] (zUX D cA zv sz [(o, .inr (5, [.ref F, .ref G, .int lo, .int nw, .int se, .ref (pa 0), .ref an, .ref ln]))])) (va_Qi (fun (r : Int32) (_ : Unit) => r = 1) (fun (_ : Unit) t => zB D [(o, .inr (5, [.ref F, .ref G, .int lo, .int nw, .int se, .ref (pa 0), .ref an, .ref ln]))] sz [(o, .inr (5, [.ref F, .ref G, .int lo, .int nw, .int se, .ref (pa 0), .ref an, .ref ln]))] t) (va_A [(o, .inr (5, [.ref F, .ref G, .int lo, .int nw, .int se, .ref (pa 0), .ref an, .ref ln]))] sz)) 1 6 (va_A [(o, .inr (5, [.ref F, .ref G, .int lo, .int nw, .int se, .ref (pa 0), .ref an, .ref ln]))] sz) := by
  refine z_ofWH (cc := cL_tries) (maxL := 4) (ret := (some .int)) (hh := [(0, 9, 12, 13)]) (by decide) rfl ?_
  intro p e s m args below meth c s₁ B hml htab hv
  obtain ⟨rfl, ⟨hsz, hP, hK, hD0, hE0⟩, hX0⟩ := hv
  have hx := B.exec
  have hb := B.bytes
  have hr := B.returns
  have hts := atoms_spec (ws := wsL_tries) B.pre
  have hown : s.vm.findClass RL = some m.cls := findClass_of_methodNamed B.named
  have hlocks := B.notSynchronized
  subst hsz
  have hD := hD0.self (sz := s.heap.size)
  generalize hAe : va_A [(o, .inr (5, [.ref F, .ref G, .int lo, .int nw, .int se, .ref (pa 0), .ref an, .ref ln]))] s.heap.size = A at hD hE0 hX0 ⊢
  have hA : ∀ q : Nat, s.heap.size ≤ q → A q := fun q h => by rw [← hAe]; exact Or.inr h
  have hS : va_S A s.heap s.heap [] := va_S.rf
  have hl := lv_entry ([.ref o, .int n, .ref ou]) (n := 4) (Nat.le_of_ble_eq_true rfl)
  rw [lg_entry_eq]
  generalize (lg_sl ([.ref o, .int n, .ref ou]) ++ List.replicate (4 - (lg_sl ([.ref o, .int n, .ref ou])).length) Slot.unset).toArray = ls at hl ⊢
  have hl : lv_has ls 4 [(0, .ref o), (1, .int n), (2, .ref ou)] := hl
  refine lv_aload_n hx hb dL_tries_0 rfl (lv_at hl 2 rfl) ?_
  refine lv_iconst (v := 0) hx hb dL_tries_1 (by decide) ?_
  refine lv_aload_n hx hb dL_tries_2 rfl (lv_at hl 0 rfl) ?_
  refine lv_iload_n hx hb dL_tries_3 rfl (lv_at hl 1 rfl) ?_
  have hPc := hP.sub (ws' := [(o, .inr (5, [.ref F, .ref G, .int lo, .int nw, .int se, .ref (pa 0), .ref an, .ref ln]))]) [0] rfl
  have hDc := hD.sub (ws' := [(o, .inr (5, [.ref F, .ref G, .int lo, .int nw, .int se, .ref (pa 0), .ref an, .ref ln]))]) [0] (by decide) rfl
  have hFc := va_free (wc := [(o, .inr (5, [.ref F, .ref G, .int lo, .int nw, .int se, .ref (pa 0), .ref an, .ref ln]))]) hD hS hA [0] rfl
  refine vx_calli (vx_runV (As := [.int n]) (rest := [.int 0, .ref ou]) ⟨hx, hb, hml, hown, hts⟩ (c_X3_tries_b l D cA zv s.heap.size hl0 o F G lo nw se pa an ln n (by assumption)) (cwV 1 hts gL_tries_X3_tries rfl rfl rfl (by decide +kernel) ⟨Nat.le_of_ble_eq_true rfl, Nat.le_of_ble_eq_true rfl⟩) ⟨zUX_blind, va_recv hK hPc (ci := 5) (q0 := 0) rfl rfl, fun U hU hW => ⟨rfl, zUX_call hE0 hX0 hS hFc hU hPc hW hK hDc⟩⟩ rfl rfl hl.1 rfl (lv_room (Nat.le_of_ble_eq_true rfl)) dL_tries_4 ⟨Nat.le_of_ble_eq_true rfl, Nat.le_of_ble_eq_true rfl⟩) hS (fun q _ h => hFc q h) hFc (fun q _ h => hFc q h) (fun E9 ce9 q9 u t H1 locs ht hvm hpx hB hz1 hk1 hS hcell hcv hcl => ?_) (fun zr u t H1 locs1 ht hvm hw _ _ _ _ => hw.elim)
  obtain ⟨rfl, hP1, hD1⟩ := hB
  rw [ht] at hP1
  obtain ⟨hP, hD⟩ := va_join (wr := []) (w1 := [(o, .inr (5, [.ref F, .ref G, .int lo, .int nw, .int se, .ref (pa 0), .ref an, .ref ln]))]) hP hD [0] [] rfl rfl (by decide) (by decide) hk1 hFc hP1 hD1
  have hP := hP.sub (ws' := [(o, .inr (5, [.ref F, .ref G, .int lo, .int nw, .int se, .ref (pa 0), .ref an, .ref ln]))]) [0] rfl
  have hD := hD.sub (ws' := [(o, .inr (5, [.ref F, .ref G, .int lo, .int nw, .int se, .ref (pa 0), .ref an, .ref ln]))]) [0] (by decide) rfl
  refine vx_catch hown [] ⟨0, 9, 12, 13⟩ [] htab (fun z hz => absurd hz List.not_mem_nil) (by decide) (by decide) (hts (.classLink RL 13 "java/lang/IllegalArgumentException") (List.mem_of_getElem? (i := 1) rfl)) (va_Nw.use rfl (hX0.1.1 "java/lang/IllegalArgumentException" (by decide))) hcell hcv hcl ?_
  refine W.eq (g2 := F0 m 12 ls [.ref q9]) rfl ?_
  clear hcell
  generalize H1 = H at hP hS ⊢
  refine W.widen (k := 1) (n := 6) (by omega) (by omega) ?_
  refine lv_astore_n (lv' := [(3, .ref q9), (0, .ref o), (1, .int n), (2, .ref ou)]) hx hb dL_tries_12 rfl hl (by decide) rfl (fun ls hl => ?_)
  refine lv_iconst (v := 1) hx hb dL_tries_13 (by decide) ?_
  refine W.widen (k := 1) (n := 6) (by omega) (by omega) ?_
  exact W.iret (v := 1) hx hb hr (fun t ht hW => ⟨⟨1, (), rfl, rfl, ⟨by rw [ht]; exact hP, by rw [hAe]; exact hD⟩⟩, hS.F ht⟩) hS.2.2 dL_tries_14
set_option maxHeartbeats 4000000 in
set_option maxRecDepth 100000 in
theorem c_L_asked_k (l : Launch) (D : va_G) (cA : Nat → ClassId) (sz : Nat) (o F G : Nat) (lo nw se : Int32) (pa : Nat → Nat) (an ln : Nat) (x : Nat → Nat) (y0 : Nat) (n : Int32) (xv : Nat → Int32) (k : Nat) (f : Nat → Int32) (ou : Nat) (ov : Nat → Int64) (he : en n F G (x 0) y0) (hk : k < 4) : Met l yL_asked wsL_asked ({ frames := 2, cells := 0, slots := 0, locals := 43 }) (va_Pc [.ref o, .int n, .int (nI k), .ref ou] (zU D cA sz [(o, .inr (5, [.ref F, .ref G, .int lo, .int nw, .int se, .ref (pa 0), .ref an, .ref ln])), cE x xv, (x 7, .inl (cA 0, 4, .inl f)), (ou, .inl (cA 3, 1, .inr (.inl ov)))])) (va_Qi (fun (r : Int32) (_ : Unit) => r = 0) (fun (_ : Unit) t => zB D [(o, .inr (5, [.ref F, .ref G, .int lo, .int nw, .int se, .ref (pa 0), .ref an, .ref ln])), cE x xv, (x 7, .inl (cA 0, 4, .inl f)), (ou, .inl (cA 3, 1, .inr (.inl ov)))] sz [(o, .inr (5, [.ref F, .ref G, .int lo, .int nw, .int se, .ref (pa 0), .ref an, .ref ln])), cE x xv, (x 7, .inl (cA 0, 4, .inl f)), (ou, .inl (cA 3, 1, .inr (.inl (vp_updL ov 0 (f k).toInt64))))] t) (va_A [(o, .inr (5, [.ref F, .ref G, .int lo, .int nw, .int se, .ref (pa 0), .ref an, .ref ln])), cE x xv, (x 7, .inl (cA 0, 4, .inl f)), (ou, .inl (cA 3, 1, .inr (.inl ov)))] sz)) 0 0 (va_A [(o, .inr (5, [.ref F, .ref G, .int lo, .int nw, .int se, .ref (pa 0), .ref an, .ref ln])), cE x xv, (x 7, .inl (cA 0, 4, .inl f)), (ou, .inl (cA 3, 1, .inr (.inl ov)))] sz) := by
  refine z_ofWH (cc := cL_asked) (maxL := 5) (ret := (some .int)) (hh := [(0, 10, 13, 13)]) (by decide) rfl ?_
  intro p e s m args below meth c s₁ B hml htab hv
  obtain ⟨rfl, hsz, hP, hK, hD0⟩ := hv
  have hx := B.exec
  have hb := B.bytes
  have hr := B.returns
  have hts := atoms_spec (ws := wsL_asked) B.pre
  have hown : s.vm.findClass RL = some m.cls := findClass_of_methodNamed B.named
  have hlocks := B.notSynchronized
  subst hsz
  have hD := hD0.self (sz := s.heap.size)
  generalize hAe : va_A [(o, .inr (5, [.ref F, .ref G, .int lo, .int nw, .int se, .ref (pa 0), .ref an, .ref ln])), cE x xv, (x 7, .inl (cA 0, 4, .inl f)), (ou, .inl (cA 3, 1, .inr (.inl ov)))] s.heap.size = A at hD ⊢
  have hA : ∀ q : Nat, s.heap.size ≤ q → A q := fun q h => by rw [← hAe]; exact Or.inr h
  have hS : va_S A s.heap s.heap [] := va_S.rf
  have hl := lv_entry ([.ref o, .int n, .int (nI k), .ref ou]) (n := 5) (Nat.le_of_ble_eq_true rfl)
  rw [lg_entry_eq]
  generalize (lg_sl ([.ref o, .int n, .int (nI k), .ref ou]) ++ List.replicate (5 - (lg_sl ([.ref o, .int n, .int (nI k), .ref ou])).length) Slot.unset).toArray = ls at hl ⊢
  have hl : lv_has ls 5 [(0, .ref o), (1, .int n), (2, .int (nI k)), (3, .ref ou)] := hl
  refine lv_aload_n hx hb dL_asked_0 rfl (lv_at hl 3 rfl) ?_
  refine lv_iconst (v := 0) hx hb dL_asked_1 (by decide) ?_
  refine lv_aload_n hx hb dL_asked_2 rfl (lv_at hl 0 rfl) ?_
  refine lv_iload_n hx hb dL_asked_3 rfl (lv_at hl 1 rfl) ?_
  refine lv_iload_n hx hb dL_asked_4 rfl (lv_at hl 2 rfl) ?_
  have hPc := hP.sub (ws' := [(o, .inr (5, [.ref F, .ref G, .int lo, .int nw, .int se, .ref (pa 0), .ref an, .ref ln])), cE x xv, (x 7, .inl (cA 0, 4, .inl f))]) [0, 1, 2] rfl
  have hDc := hD.sub (ws' := [(o, .inr (5, [.ref F, .ref G, .int lo, .int nw, .int se, .ref (pa 0), .ref an, .ref ln])), cE x xv, (x 7, .inl (cA 0, 4, .inl f))]) [0, 1, 2] (by decide) rfl
  have hFc := va_free (wc := [(o, .inr (5, [.ref F, .ref G, .int lo, .int nw, .int se, .ref (pa 0), .ref an, .ref ln])), cE x xv, (x 7, .inl (cA 0, 4, .inl f))]) hD hS hA [0, 1, 2] rfl
  refine va_calli (va_runV (As := [.int n, .int (nI k)]) (rest := [.int 0, .ref ou]) ⟨hx, hb, hml, hown, hts⟩ (c_X3_asked_k l D cA s.heap.size o F G lo nw se pa an ln x y0 n xv k f (by assumption) (by assumption)) (cwV 2 hts gL_asked_X3_asked rfl rfl rfl (by decide +kernel) ⟨Nat.le_of_ble_eq_true rfl, Nat.le_of_ble_eq_true rfl⟩) ⟨zU_blind, va_recv hK hPc (ci := 5) (q0 := 0) rfl rfl, fun U hU hW => ⟨rfl, zU_call hU hPc hW.alike hK hDc⟩⟩ rfl rfl hl.1 rfl (lv_room (Nat.le_of_ble_eq_true rfl)) dL_asked_5 ⟨(Nat.zero_le _), (Nat.zero_le _)⟩) hS (fun q _ h => hFc q h) hFc (fun zr u t H1 locs ht hvm hw hB hz1 hk1 hS => ?_)
  obtain ⟨hP1, hD1⟩ := hB
  rw [ht] at hP1
  obtain ⟨hP, hD⟩ := va_join (wr := [(ou, .inl (cA 3, 1, .inr (.inl ov)))]) (w1 := [(o, .inr (5, [.ref F, .ref G, .int lo, .int nw, .int se, .ref (pa 0), .ref an, .ref ln])), cE x xv, (x 7, .inl (cA 0, 4, .inl f))]) hP hD [0, 1, 2] [3] rfl rfl (by decide) (by decide) hk1 hFc hP1 hD1
  generalize H1 = H at hP hS ⊢
  have hP := hP.sub (ws' := [(o, .inr (5, [.ref F, .ref G, .int lo, .int nw, .int se, .ref (pa 0), .ref an, .ref ln])), cE x xv, (x 7, .inl (cA 0, 4, .inl f)), (ou, .inl (cA 3, 1, .inr (.inl ov)))]) [1, 2, 3, 0] rfl
  have hD := hD.sub (ws' := [(o, .inr (5, [.ref F, .ref G, .int lo, .int nw, .int se, .ref (pa 0), .ref an, .ref ln])), cE x xv, (x 7, .inl (cA 0, 4, .inl f)), (ou, .inl (cA 3, 1, .inr (.inl ov)))]) [1, 2, 3, 0] (by decide) rfl
  clear hPc hDc hFc hP1 hD1 hk1 hz1
  have hw_1 := hw
  obtain rfl := hw
  refine lv_i2l (v := (f k).toInt64) hx hb dL_asked_8 rfl ?_
  refine z_last (k := 0) hx hb hK hP hD hS 3 3 rfl rfl rfl (by omega) (by decide) dL_asked_9 (fun H locs hP hD hS => ?_)
  have hP : va_P D vwCl [(o, .inr (5, [.ref F, .ref G, .int lo, .int nw, .int se, .ref (pa 0), .ref an, .ref ln])), cE x xv, (x 7, .inl (cA 0, 4, .inl f)), (ou, .inl (cA 3, 1, .inr (.inl (vp_updL ov 0 ((f k).toInt64)))))] H := hP
  have hD : va_D A [(o, .inr (5, [.ref F, .ref G, .int lo, .int nw, .int se, .ref (pa 0), .ref an, .ref ln])), cE x xv, (x 7, .inl (cA 0, 4, .inl f)), (ou, .inl (cA 3, 1, .inr (.inl (vp_updL ov 0 ((f k).toInt64)))))] := hD
  refine lv_goto (tgt := 17) hx hb dL_asked_10 (by decide) ?_
  refine lv_iconst (v := 0) hx hb dL_asked_17 (by decide) ?_
  refine W.widen (k := 0) (n := 0) (by omega) (by omega) ?_
  exact W.iret (v := 0) hx hb hr (fun t ht hW => ⟨⟨0, (), rfl, rfl, ⟨by rw [ht]; exact hP, by rw [hAe]; exact hD⟩⟩, hS.F ht⟩) hS.2.2 dL_asked_18
set_option maxHeartbeats 4000000 in
set_option maxRecDepth 100000 in
theorem c_L_asked_b (l : Launch) (D : va_G) (cA : Nat → ClassId) (zv : Nat → Nat) (sz : Nat) (o F G : Nat) (lo nw se : Int32) (pa : Nat → Nat) (an ln : Nat) (n q : Int32) (ou : Nat) (hl0 : l.stackTraces = false) (hbad : ¬ (inr n 0 1 ∧ inr q 0 3)) : Met l yL_asked wsL_asked ({ frames := 10, cells := 1, slots := 6, locals := 142 }) (va_Pc [.ref o, .int n, .int q, .ref ou] (zUX D cA zv sz [(o, .inr (5, [.ref F, .ref G, .int lo, .int nw, .int se, .ref (pa 0), .ref an, .ref ln]))])) (va_Qi (fun (r : Int32) (_ : Unit) => r = 1) (fun (_ : Unit) t => zB D [(o, .inr (5, [.ref F, .ref G, .int lo, .int nw, .int se, .ref (pa 0), .ref an, .ref ln]))] sz [(o, .inr (5, [.ref F, .ref G, .int lo, .int nw, .int se, .ref (pa 0), .ref an, .ref ln]))] t) (va_A [(o, .inr (5, [.ref F, .ref G, .int lo, .int nw, .int se, .ref (pa 0), .ref an, .ref ln]))] sz)) 1 6 (va_A [(o, .inr (5, [.ref F, .ref G, .int lo, .int nw, .int se, .ref (pa 0), .ref an, .ref ln]))] sz) := by
  refine z_ofWH (cc := cL_asked) (maxL := 5) (ret := (some .int)) (hh := [(0, 10, 13, 13)]) (by decide) rfl ?_
  intro p e s m args below meth c s₁ B hml htab hv
  obtain ⟨rfl, ⟨hsz, hP, hK, hD0, hE0⟩, hX0⟩ := hv
  have hx := B.exec
  have hb := B.bytes
  have hr := B.returns
  have hts := atoms_spec (ws := wsL_asked) B.pre
  have hown : s.vm.findClass RL = some m.cls := findClass_of_methodNamed B.named
  have hlocks := B.notSynchronized
  subst hsz
  have hD := hD0.self (sz := s.heap.size)
  generalize hAe : va_A [(o, .inr (5, [.ref F, .ref G, .int lo, .int nw, .int se, .ref (pa 0), .ref an, .ref ln]))] s.heap.size = A at hD hE0 hX0 ⊢
  have hA : ∀ q : Nat, s.heap.size ≤ q → A q := fun q h => by rw [← hAe]; exact Or.inr h
  have hS : va_S A s.heap s.heap [] := va_S.rf
  have hl := lv_entry ([.ref o, .int n, .int q, .ref ou]) (n := 5) (Nat.le_of_ble_eq_true rfl)
  rw [lg_entry_eq]
  generalize (lg_sl ([.ref o, .int n, .int q, .ref ou]) ++ List.replicate (5 - (lg_sl ([.ref o, .int n, .int q, .ref ou])).length) Slot.unset).toArray = ls at hl ⊢
  have hl : lv_has ls 5 [(0, .ref o), (1, .int n), (2, .int q), (3, .ref ou)] := hl
  refine lv_aload_n hx hb dL_asked_0 rfl (lv_at hl 3 rfl) ?_
  refine lv_iconst (v := 0) hx hb dL_asked_1 (by decide) ?_
  refine lv_aload_n hx hb dL_asked_2 rfl (lv_at hl 0 rfl) ?_
  refine lv_iload_n hx hb dL_asked_3 rfl (lv_at hl 1 rfl) ?_
  refine lv_iload_n hx hb dL_asked_4 rfl (lv_at hl 2 rfl) ?_
  have hPc := hP.sub (ws' := [(o, .inr (5, [.ref F, .ref G, .int lo, .int nw, .int se, .ref (pa 0), .ref an, .ref ln]))]) [0] rfl
  have hDc := hD.sub (ws' := [(o, .inr (5, [.ref F, .ref G, .int lo, .int nw, .int se, .ref (pa 0), .ref an, .ref ln]))]) [0] (by decide) rfl
  have hFc := va_free (wc := [(o, .inr (5, [.ref F, .ref G, .int lo, .int nw, .int se, .ref (pa 0), .ref an, .ref ln]))]) hD hS hA [0] rfl
  refine vx_calli (vx_runV (As := [.int n, .int q]) (rest := [.int 0, .ref ou]) ⟨hx, hb, hml, hown, hts⟩ (c_X3_asked_b l D cA zv s.heap.size hl0 o F G lo nw se pa an ln n q (by assumption)) (cwV 2 hts gL_asked_X3_asked rfl rfl rfl (by decide +kernel) ⟨Nat.le_of_ble_eq_true rfl, Nat.le_of_ble_eq_true rfl⟩) ⟨zUX_blind, va_recv hK hPc (ci := 5) (q0 := 0) rfl rfl, fun U hU hW => ⟨rfl, zUX_call hE0 hX0 hS hFc hU hPc hW hK hDc⟩⟩ rfl rfl hl.1 rfl (lv_room (Nat.le_of_ble_eq_true rfl)) dL_asked_5 ⟨Nat.le_of_ble_eq_true rfl, Nat.le_of_ble_eq_true rfl⟩) hS (fun q _ h => hFc q h) hFc (fun q _ h => hFc q h) (fun E9 ce9 q9 u t H1 locs ht hvm hpx hB hz1 hk1 hS hcell hcv hcl => ?_) (fun zr u t H1 locs1 ht hvm hw _ _ _ _ => hw.elim)
  obtain ⟨rfl, hP1, hD1⟩ := hB
  rw [ht] at hP1
  obtain ⟨hP, hD⟩ := va_join (wr := []) (w1 := [(o, .inr (5, [.ref F, .ref G, .int lo, .int nw, .int se, .ref (pa 0), .ref an, .ref ln]))]) hP hD [0] [] rfl rfl (by decide) (by decide) hk1 hFc hP1 hD1
  have hP := hP.sub (ws' := [(o, .inr (5, [.ref F, .ref G, .int lo, .int nw, .int se, .ref (pa 0), .ref an, .ref ln]))]) [0] rfl
  have hD := hD.sub (ws' := [(o, .inr (5, [.ref F, .ref G, .int lo, .int nw, .int se, .ref (pa 0), .ref an, .ref ln]))]) [0] (by decide) rfl
  refine vx_catch hown [] ⟨0, 10, 13, 13⟩ [] htab (fun z hz => absurd hz List.not_mem_nil) (by decide) (by decide) (hts (.classLink RL 13 "java/lang/IllegalArgumentException") (List.mem_of_getElem? (i := 1) rfl)) (va_Nw.use rfl (hX0.1.1 "java/lang/IllegalArgumentException" (by decide))) hcell hcv hcl ?_
  refine W.eq (g2 := F0 m 13 ls [.ref q9]) rfl ?_
  clear hcell
  generalize H1 = H at hP hS ⊢
  refine W.widen (k := 1) (n := 6) (by omega) (by omega) ?_
  refine lv_astore (lv' := [(4, .ref q9), (0, .ref o), (1, .int n), (2, .int q), (3, .ref ou)]) hx hb dL_asked_13 hl (by decide) rfl (fun ls hl => ?_)
  refine lv_iconst (v := 1) hx hb dL_asked_15 (by decide) ?_
  refine W.widen (k := 1) (n := 6) (by omega) (by omega) ?_
  exact W.iret (v := 1) hx hb hr (fun t ht hW => ⟨⟨1, (), rfl, rfl, ⟨by rw [ht]; exact hP, by rw [hAe]; exact hD⟩⟩, hS.F ht⟩) hS.2.2 dL_asked_16
set_option maxHeartbeats 4000000 in
set_option maxRecDepth 100000 in
theorem c_L_granted_k (l : Launch) (D : va_G) (cA : Nat → ClassId) (sz : Nat) (o F G : Nat) (lo nw se : Int32) (pa : Nat → Nat) (an ln : Nat) (x : Nat → Nat) (y0 : Nat) (n : Int32) (xv : Nat → Int32) (k : Nat) (f : Nat → Int32) (ou : Nat) (ov : Nat → Int64) (he : en n F G (x 0) y0) (hk : k < 4) : Met l yL_granted wsL_granted ({ frames := 2, cells := 0, slots := 0, locals := 45 }) (va_Pc [.ref o, .int n, .int (nI k), .ref ou] (zU D cA sz [(o, .inr (5, [.ref F, .ref G, .int lo, .int nw, .int se, .ref (pa 0), .ref an, .ref ln])), cE x xv, (x 7, .inl (cA 0, 4, .inl f)), (ou, .inl (cA 3, 1, .inr (.inl ov)))])) (va_Qi (fun (r : Int32) (_ : Unit) => r = 0) (fun (_ : Unit) t => zB D [(o, .inr (5, [.ref F, .ref G, .int lo, .int nw, .int se, .ref (pa 0), .ref an, .ref ln])), cE x xv, (x 7, .inl (cA 0, 4, .inl f)), (ou, .inl (cA 3, 1, .inr (.inl ov)))] sz [(o, .inr (5, [.ref F, .ref G, .int lo, .int nw, .int se, .ref (pa 0), .ref an, .ref ln])), cE x xv, (x 7, .inl (cA 0, 4, .inl f)), (ou, .inl (cA 3, 1, .inr (.inl (vp_updL ov 0 ((if xv 0 = 2 ∨ xv 0 = 4 then f k else -1)).toInt64))))] t) (va_A [(o, .inr (5, [.ref F, .ref G, .int lo, .int nw, .int se, .ref (pa 0), .ref an, .ref ln])), cE x xv, (x 7, .inl (cA 0, 4, .inl f)), (ou, .inl (cA 3, 1, .inr (.inl ov)))] sz)) 0 0 (va_A [(o, .inr (5, [.ref F, .ref G, .int lo, .int nw, .int se, .ref (pa 0), .ref an, .ref ln])), cE x xv, (x 7, .inl (cA 0, 4, .inl f)), (ou, .inl (cA 3, 1, .inr (.inl ov)))] sz) := by
  refine z_ofWH (cc := cL_granted) (maxL := 5) (ret := (some .int)) (hh := [(0, 10, 13, 13)]) (by decide) rfl ?_
  intro p e s m args below meth c s₁ B hml htab hv
  obtain ⟨rfl, hsz, hP, hK, hD0⟩ := hv
  have hx := B.exec
  have hb := B.bytes
  have hr := B.returns
  have hts := atoms_spec (ws := wsL_granted) B.pre
  have hown : s.vm.findClass RL = some m.cls := findClass_of_methodNamed B.named
  have hlocks := B.notSynchronized
  subst hsz
  have hD := hD0.self (sz := s.heap.size)
  generalize hAe : va_A [(o, .inr (5, [.ref F, .ref G, .int lo, .int nw, .int se, .ref (pa 0), .ref an, .ref ln])), cE x xv, (x 7, .inl (cA 0, 4, .inl f)), (ou, .inl (cA 3, 1, .inr (.inl ov)))] s.heap.size = A at hD ⊢
  have hA : ∀ q : Nat, s.heap.size ≤ q → A q := fun q h => by rw [← hAe]; exact Or.inr h
  have hS : va_S A s.heap s.heap [] := va_S.rf
  have hl := lv_entry ([.ref o, .int n, .int (nI k), .ref ou]) (n := 5) (Nat.le_of_ble_eq_true rfl)
  rw [lg_entry_eq]
  generalize (lg_sl ([.ref o, .int n, .int (nI k), .ref ou]) ++ List.replicate (5 - (lg_sl ([.ref o, .int n, .int (nI k), .ref ou])).length) Slot.unset).toArray = ls at hl ⊢
  have hl : lv_has ls 5 [(0, .ref o), (1, .int n), (2, .int (nI k)), (3, .ref ou)] := hl
  refine lv_aload_n hx hb dL_granted_0 rfl (lv_at hl 3 rfl) ?_
  refine lv_iconst (v := 0) hx hb dL_granted_1 (by decide) ?_
  refine lv_aload_n hx hb dL_granted_2 rfl (lv_at hl 0 rfl) ?_
  refine lv_iload_n hx hb dL_granted_3 rfl (lv_at hl 1 rfl) ?_
  refine lv_iload_n hx hb dL_granted_4 rfl (lv_at hl 2 rfl) ?_
  have hPc := hP.sub (ws' := [(o, .inr (5, [.ref F, .ref G, .int lo, .int nw, .int se, .ref (pa 0), .ref an, .ref ln])), cE x xv, (x 7, .inl (cA 0, 4, .inl f))]) [0, 1, 2] rfl
  have hDc := hD.sub (ws' := [(o, .inr (5, [.ref F, .ref G, .int lo, .int nw, .int se, .ref (pa 0), .ref an, .ref ln])), cE x xv, (x 7, .inl (cA 0, 4, .inl f))]) [0, 1, 2] (by decide) rfl
  have hFc := va_free (wc := [(o, .inr (5, [.ref F, .ref G, .int lo, .int nw, .int se, .ref (pa 0), .ref an, .ref ln])), cE x xv, (x 7, .inl (cA 0, 4, .inl f))]) hD hS hA [0, 1, 2] rfl
  refine va_calli (va_runV (As := [.int n, .int (nI k)]) (rest := [.int 0, .ref ou]) ⟨hx, hb, hml, hown, hts⟩ (c_X3_granted_k l D cA s.heap.size o F G lo nw se pa an ln x y0 n xv k f (by assumption) (by assumption)) (cwV 2 hts gL_granted_X3_granted rfl rfl rfl (by decide +kernel) ⟨Nat.le_of_ble_eq_true rfl, Nat.le_of_ble_eq_true rfl⟩) ⟨zU_blind, va_recv hK hPc (ci := 5) (q0 := 0) rfl rfl, fun U hU hW => ⟨rfl, zU_call hU hPc hW.alike hK hDc⟩⟩ rfl rfl hl.1 rfl (lv_room (Nat.le_of_ble_eq_true rfl)) dL_granted_5 ⟨(Nat.zero_le _), (Nat.zero_le _)⟩) hS (fun q _ h => hFc q h) hFc (fun zr u t H1 locs ht hvm hw hB hz1 hk1 hS => ?_)
  obtain ⟨hP1, hD1⟩ := hB
  rw [ht] at hP1
  obtain ⟨hP, hD⟩ := va_join (wr := [(ou, .inl (cA 3, 1, .inr (.inl ov)))]) (w1 := [(o, .inr (5, [.ref F, .ref G, .int lo, .int nw, .int se, .ref (pa 0), .ref an, .ref ln])), cE x xv, (x 7, .inl (cA 0, 4, .inl f))]) hP hD [0, 1, 2] [3] rfl rfl (by decide) (by decide) hk1 hFc hP1 hD1
  generalize H1 = H at hP hS ⊢
  have hP := hP.sub (ws' := [(o, .inr (5, [.ref F, .ref G, .int lo, .int nw, .int se, .ref (pa 0), .ref an, .ref ln])), cE x xv, (x 7, .inl (cA 0, 4, .inl f)), (ou, .inl (cA 3, 1, .inr (.inl ov)))]) [1, 2, 3, 0] rfl
  have hD := hD.sub (ws' := [(o, .inr (5, [.ref F, .ref G, .int lo, .int nw, .int se, .ref (pa 0), .ref an, .ref ln])), cE x xv, (x 7, .inl (cA 0, 4, .inl f)), (ou, .inl (cA 3, 1, .inr (.inl ov)))]) [1, 2, 3, 0] (by decide) rfl
  clear hPc hDc hFc hP1 hD1 hk1 hz1
  have hw_1 := hw
  obtain rfl := hw
  refine lv_i2l (v := (if xv 0 = 2 ∨ xv 0 = 4 then f k else -1).toInt64) hx hb dL_granted_8 rfl ?_
  refine z_last (k := 0) hx hb hK hP hD hS 3 3 rfl rfl rfl (by omega) (by decide) dL_granted_9 (fun H locs hP hD hS => ?_)
  have hP : va_P D vwCl [(o, .inr (5, [.ref F, .ref G, .int lo, .int nw, .int se, .ref (pa 0), .ref an, .ref ln])), cE x xv, (x 7, .inl (cA 0, 4, .inl f)), (ou, .inl (cA 3, 1, .inr (.inl (vp_updL ov 0 ((if xv 0 = 2 ∨ xv 0 = 4 then f k else -1).toInt64)))))] H := hP
  have hD : va_D A [(o, .inr (5, [.ref F, .ref G, .int lo, .int nw, .int se, .ref (pa 0), .ref an, .ref ln])), cE x xv, (x 7, .inl (cA 0, 4, .inl f)), (ou, .inl (cA 3, 1, .inr (.inl (vp_updL ov 0 ((if xv 0 = 2 ∨ xv 0 = 4 then f k else -1).toInt64)))))] := hD
  refine lv_goto (tgt := 17) hx hb dL_granted_10 (by decide) ?_
  refine lv_iconst (v := 0) hx hb dL_granted_17 (by decide) ?_
  refine W.widen (k := 0) (n := 0) (by omega) (by omega) ?_
  exact W.iret (v := 0) hx hb hr (fun t ht hW => ⟨⟨0, (), rfl, rfl, ⟨by rw [ht]; exact hP, by rw [hAe]; exact hD⟩⟩, hS.F ht⟩) hS.2.2 dL_granted_18
set_option maxHeartbeats 4000000 in
set_option maxRecDepth 100000 in
theorem c_L_granted_b (l : Launch) (D : va_G) (cA : Nat → ClassId) (zv : Nat → Nat) (sz : Nat) (o F G : Nat) (lo nw se : Int32) (pa : Nat → Nat) (an ln : Nat) (n q : Int32) (ou : Nat) (hl0 : l.stackTraces = false) (hbad : ¬ (inr n 0 1 ∧ inr q 0 3)) : Met l yL_granted wsL_granted ({ frames := 10, cells := 1, slots := 6, locals := 144 }) (va_Pc [.ref o, .int n, .int q, .ref ou] (zUX D cA zv sz [(o, .inr (5, [.ref F, .ref G, .int lo, .int nw, .int se, .ref (pa 0), .ref an, .ref ln]))])) (va_Qi (fun (r : Int32) (_ : Unit) => r = 1) (fun (_ : Unit) t => zB D [(o, .inr (5, [.ref F, .ref G, .int lo, .int nw, .int se, .ref (pa 0), .ref an, .ref ln]))] sz [(o, .inr (5, [.ref F, .ref G, .int lo, .int nw, .int se, .ref (pa 0), .ref an, .ref ln]))] t) (va_A [(o, .inr (5, [.ref F, .ref G, .int lo, .int nw, .int se, .ref (pa 0), .ref an, .ref ln]))] sz)) 1 6 (va_A [(o, .inr (5, [.ref F, .ref G, .int lo, .int nw, .int se, .ref (pa 0), .ref an, .ref ln]))] sz) := by
  refine z_ofWH (cc := cL_granted) (maxL := 5) (ret := (some .int)) (hh := [(0, 10, 13, 13)]) (by decide) rfl ?_
  intro p e s m args below meth c s₁ B hml htab hv
  obtain ⟨rfl, ⟨hsz, hP, hK, hD0, hE0⟩, hX0⟩ := hv
  have hx := B.exec
  have hb := B.bytes
  have hr := B.returns
  have hts := atoms_spec (ws := wsL_granted) B.pre
  have hown : s.vm.findClass RL = some m.cls := findClass_of_methodNamed B.named
  have hlocks := B.notSynchronized
  subst hsz
  have hD := hD0.self (sz := s.heap.size)
  generalize hAe : va_A [(o, .inr (5, [.ref F, .ref G, .int lo, .int nw, .int se, .ref (pa 0), .ref an, .ref ln]))] s.heap.size = A at hD hE0 hX0 ⊢
  have hA : ∀ q : Nat, s.heap.size ≤ q → A q := fun q h => by rw [← hAe]; exact Or.inr h
  have hS : va_S A s.heap s.heap [] := va_S.rf
  have hl := lv_entry ([.ref o, .int n, .int q, .ref ou]) (n := 5) (Nat.le_of_ble_eq_true rfl)
  rw [lg_entry_eq]
  generalize (lg_sl ([.ref o, .int n, .int q, .ref ou]) ++ List.replicate (5 - (lg_sl ([.ref o, .int n, .int q, .ref ou])).length) Slot.unset).toArray = ls at hl ⊢
  have hl : lv_has ls 5 [(0, .ref o), (1, .int n), (2, .int q), (3, .ref ou)] := hl
  refine lv_aload_n hx hb dL_granted_0 rfl (lv_at hl 3 rfl) ?_
  refine lv_iconst (v := 0) hx hb dL_granted_1 (by decide) ?_
  refine lv_aload_n hx hb dL_granted_2 rfl (lv_at hl 0 rfl) ?_
  refine lv_iload_n hx hb dL_granted_3 rfl (lv_at hl 1 rfl) ?_
  refine lv_iload_n hx hb dL_granted_4 rfl (lv_at hl 2 rfl) ?_
  have hPc := hP.sub (ws' := [(o, .inr (5, [.ref F, .ref G, .int lo, .int nw, .int se, .ref (pa 0), .ref an, .ref ln]))]) [0] rfl
  have hDc := hD.sub (ws' := [(o, .inr (5, [.ref F, .ref G, .int lo, .int nw, .int se, .ref (pa 0), .ref an, .ref ln]))]) [0] (by decide) rfl
  have hFc := va_free (wc := [(o, .inr (5, [.ref F, .ref G, .int lo, .int nw, .int se, .ref (pa 0), .ref an, .ref ln]))]) hD hS hA [0] rfl
  refine vx_calli (vx_runV (As := [.int n, .int q]) (rest := [.int 0, .ref ou]) ⟨hx, hb, hml, hown, hts⟩ (c_X3_granted_b l D cA zv s.heap.size hl0 o F G lo nw se pa an ln n q (by assumption)) (cwV 2 hts gL_granted_X3_granted rfl rfl rfl (by decide +kernel) ⟨Nat.le_of_ble_eq_true rfl, Nat.le_of_ble_eq_true rfl⟩) ⟨zUX_blind, va_recv hK hPc (ci := 5) (q0 := 0) rfl rfl, fun U hU hW => ⟨rfl, zUX_call hE0 hX0 hS hFc hU hPc hW hK hDc⟩⟩ rfl rfl hl.1 rfl (lv_room (Nat.le_of_ble_eq_true rfl)) dL_granted_5 ⟨Nat.le_of_ble_eq_true rfl, Nat.le_of_ble_eq_true rfl⟩) hS (fun q _ h => hFc q h) hFc (fun q _ h => hFc q h) (fun E9 ce9 q9 u t H1 locs ht hvm hpx hB hz1 hk1 hS hcell hcv hcl => ?_) (fun zr u t H1 locs1 ht hvm hw _ _ _ _ => hw.elim)
  obtain ⟨rfl, hP1, hD1⟩ := hB
  rw [ht] at hP1
  obtain ⟨hP, hD⟩ := va_join (wr := []) (w1 := [(o, .inr (5, [.ref F, .ref G, .int lo, .int nw, .int se, .ref (pa 0), .ref an, .ref ln]))]) hP hD [0] [] rfl rfl (by decide) (by decide) hk1 hFc hP1 hD1
  have hP := hP.sub (ws' := [(o, .inr (5, [.ref F, .ref G, .int lo, .int nw, .int se, .ref (pa 0), .ref an, .ref ln]))]) [0] rfl
  have hD := hD.sub (ws' := [(o, .inr (5, [.ref F, .ref G, .int lo, .int nw, .int se, .ref (pa 0), .ref an, .ref ln]))]) [0] (by decide) rfl
  refine vx_catch hown [] ⟨0, 10, 13, 13⟩ [] htab (fun z hz => absurd hz List.not_mem_nil) (by decide) (by decide) (hts (.classLink RL 13 "java/lang/IllegalArgumentException") (List.mem_of_getElem? (i := 1) rfl)) (va_Nw.use rfl (hX0.1.1 "java/lang/IllegalArgumentException" (by decide))) hcell hcv hcl ?_
  refine W.eq (g2 := F0 m 13 ls [.ref q9]) rfl ?_
  clear hcell
  generalize H1 = H at hP hS ⊢
  refine W.widen (k := 1) (n := 6) (by omega) (by omega) ?_
  refine lv_astore (lv' := [(4, .ref q9), (0, .ref o), (1, .int n), (2, .int q), (3, .ref ou)]) hx hb dL_granted_13 hl (by decide) rfl (fun ls hl => ?_)
  refine lv_iconst (v := 1) hx hb dL_granted_15 (by decide) ?_
  refine W.widen (k := 1) (n := 6) (by omega) (by omega) ?_
  exact W.iret (v := 1) hx hb hr (fun t ht hW => ⟨⟨1, (), rfl, rfl, ⟨by rw [ht]; exact hP, by rw [hAe]; exact hD⟩⟩, hS.F ht⟩) hS.2.2 dL_granted_16
set_option maxHeartbeats 4000000 in
set_option maxRecDepth 100000 in
theorem c_L_allowed_k (l : Launch) (D : va_G) (cA : Nat → ClassId) (sz : Nat) (o F G : Nat) (lo nw se : Int32) (pa : Nat → Nat) (an ln : Nat) (x : Nat → Nat) (y0 : Nat) (n : Int32) (xv : Nat → Int32) (k : Nat) (f : Nat → Int32) (ou : Nat) (ov : Nat → Int64) (he : en n F G (x 0) y0) (hk : k < 4) : Met l yL_allowed wsL_allowed ({ frames := 2, cells := 0, slots := 0, locals := 45 }) (va_Pc [.ref o, .int n, .int (nI k), .ref ou] (zU D cA sz [(o, .inr (5, [.ref F, .ref G, .int lo, .int nw, .int se, .ref (pa 0), .ref an, .ref ln])), cE x xv, (x 8, .inl (cA 0, 4, .inl f)), (ou, .inl (cA 3, 1, .inr (.inl ov)))])) (va_Qi (fun (r : Int32) (_ : Unit) => r = 0) (fun (_ : Unit) t => zB D [(o, .inr (5, [.ref F, .ref G, .int lo, .int nw, .int se, .ref (pa 0), .ref an, .ref ln])), cE x xv, (x 8, .inl (cA 0, 4, .inl f)), (ou, .inl (cA 3, 1, .inr (.inl ov)))] sz [(o, .inr (5, [.ref F, .ref G, .int lo, .int nw, .int se, .ref (pa 0), .ref an, .ref ln])), cE x xv, (x 8, .inl (cA 0, 4, .inl f)), (ou, .inl (cA 3, 1, .inr (.inl (vp_updL ov 0 ((if xv 0 = 3 ∨ xv 0 = 4 then f k else -1)).toInt64))))] t) (va_A [(o, .inr (5, [.ref F, .ref G, .int lo, .int nw, .int se, .ref (pa 0), .ref an, .ref ln])), cE x xv, (x 8, .inl (cA 0, 4, .inl f)), (ou, .inl (cA 3, 1, .inr (.inl ov)))] sz)) 0 0 (va_A [(o, .inr (5, [.ref F, .ref G, .int lo, .int nw, .int se, .ref (pa 0), .ref an, .ref ln])), cE x xv, (x 8, .inl (cA 0, 4, .inl f)), (ou, .inl (cA 3, 1, .inr (.inl ov)))] sz) := by
  refine z_ofWH (cc := cL_allowed) (maxL := 5) (ret := (some .int)) (hh := [(0, 10, 13, 13)]) (by decide) rfl ?_
  intro p e s m args below meth c s₁ B hml htab hv
  obtain ⟨rfl, hsz, hP, hK, hD0⟩ := hv
  have hx := B.exec
  have hb := B.bytes
  have hr := B.returns
  have hts := atoms_spec (ws := wsL_allowed) B.pre
  have hown : s.vm.findClass RL = some m.cls := findClass_of_methodNamed B.named
  have hlocks := B.notSynchronized
  subst hsz
  have hD := hD0.self (sz := s.heap.size)
  generalize hAe : va_A [(o, .inr (5, [.ref F, .ref G, .int lo, .int nw, .int se, .ref (pa 0), .ref an, .ref ln])), cE x xv, (x 8, .inl (cA 0, 4, .inl f)), (ou, .inl (cA 3, 1, .inr (.inl ov)))] s.heap.size = A at hD ⊢
  have hA : ∀ q : Nat, s.heap.size ≤ q → A q := fun q h => by rw [← hAe]; exact Or.inr h
  have hS : va_S A s.heap s.heap [] := va_S.rf
  have hl := lv_entry ([.ref o, .int n, .int (nI k), .ref ou]) (n := 5) (Nat.le_of_ble_eq_true rfl)
  rw [lg_entry_eq]
  generalize (lg_sl ([.ref o, .int n, .int (nI k), .ref ou]) ++ List.replicate (5 - (lg_sl ([.ref o, .int n, .int (nI k), .ref ou])).length) Slot.unset).toArray = ls at hl ⊢
  have hl : lv_has ls 5 [(0, .ref o), (1, .int n), (2, .int (nI k)), (3, .ref ou)] := hl
  refine lv_aload_n hx hb dL_allowed_0 rfl (lv_at hl 3 rfl) ?_
  refine lv_iconst (v := 0) hx hb dL_allowed_1 (by decide) ?_
  refine lv_aload_n hx hb dL_allowed_2 rfl (lv_at hl 0 rfl) ?_
  refine lv_iload_n hx hb dL_allowed_3 rfl (lv_at hl 1 rfl) ?_
  refine lv_iload_n hx hb dL_allowed_4 rfl (lv_at hl 2 rfl) ?_
  have hPc := hP.sub (ws' := [(o, .inr (5, [.ref F, .ref G, .int lo, .int nw, .int se, .ref (pa 0), .ref an, .ref ln])), cE x xv, (x 8, .inl (cA 0, 4, .inl f))]) [0, 1, 2] rfl
  have hDc := hD.sub (ws' := [(o, .inr (5, [.ref F, .ref G, .int lo, .int nw, .int se, .ref (pa 0), .ref an, .ref ln])), cE x xv, (x 8, .inl (cA 0, 4, .inl f))]) [0, 1, 2] (by decide) rfl
  have hFc := va_free (wc := [(o, .inr (5, [.ref F, .ref G, .int lo, .int nw, .int se, .ref (pa 0), .ref an, .ref ln])), cE x xv, (x 8, .inl (cA 0, 4, .inl f))]) hD hS hA [0, 1, 2] rfl
  refine va_calli (va_runV (As := [.int n, .int (nI k)]) (rest := [.int 0, .ref ou]) ⟨hx, hb, hml, hown, hts⟩ (c_X3_allowed_k l D cA s.heap.size o F G lo nw se pa an ln x y0 n xv k f (by assumption) (by assumption)) (cwV 2 hts gL_allowed_X3_allowed rfl rfl rfl (by decide +kernel) ⟨Nat.le_of_ble_eq_true rfl, Nat.le_of_ble_eq_true rfl⟩) ⟨zU_blind, va_recv hK hPc (ci := 5) (q0 := 0) rfl rfl, fun U hU hW => ⟨rfl, zU_call hU hPc hW.alike hK hDc⟩⟩ rfl rfl hl.1 rfl (lv_room (Nat.le_of_ble_eq_true rfl)) dL_allowed_5 ⟨(Nat.zero_le _), (Nat.zero_le _)⟩) hS (fun q _ h => hFc q h) hFc (fun zr u t H1 locs ht hvm hw hB hz1 hk1 hS => ?_)
  obtain ⟨hP1, hD1⟩ := hB
  rw [ht] at hP1
  obtain ⟨hP, hD⟩ := va_join (wr := [(ou, .inl (cA 3, 1, .inr (.inl ov)))]) (w1 := [(o, .inr (5, [.ref F, .ref G, .int lo, .int nw, .int se, .ref (pa 0), .ref an, .ref ln])), cE x xv, (x 8, .inl (cA 0, 4, .inl f))]) hP hD [0, 1, 2] [3] rfl rfl (by decide) (by decide) hk1 hFc hP1 hD1
  generalize H1 = H at hP hS ⊢
  have hP := hP.sub (ws' := [(o, .inr (5, [.ref F, .ref G, .int lo, .int nw, .int se, .ref (pa 0), .ref an, .ref ln])), cE x xv, (x 8, .inl (cA 0, 4, .inl f)), (ou, .inl (cA 3, 1, .inr (.inl ov)))]) [1, 2, 3, 0] rfl
  have hD := hD.sub (ws' := [(o, .inr (5, [.ref F, .ref G, .int lo, .int nw, .int se, .ref (pa 0), .ref an, .ref ln])), cE x xv, (x 8, .inl (cA 0, 4, .inl f)), (ou, .inl (cA 3, 1, .inr (.inl ov)))]) [1, 2, 3, 0] (by decide) rfl
  clear hPc hDc hFc hP1 hD1 hk1 hz1
  have hw_1 := hw
  obtain rfl := hw
  refine lv_i2l (v := (if xv 0 = 3 ∨ xv 0 = 4 then f k else -1).toInt64) hx hb dL_allowed_8 rfl ?_
  refine z_last (k := 0) hx hb hK hP hD hS 3 3 rfl rfl rfl (by omega) (by decide) dL_allowed_9 (fun H locs hP hD hS => ?_)
  have hP : va_P D vwCl [(o, .inr (5, [.ref F, .ref G, .int lo, .int nw, .int se, .ref (pa 0), .ref an, .ref ln])), cE x xv, (x 8, .inl (cA 0, 4, .inl f)), (ou, .inl (cA 3, 1, .inr (.inl (vp_updL ov 0 ((if xv 0 = 3 ∨ xv 0 = 4 then f k else -1).toInt64)))))] H := hP
  have hD : va_D A [(o, .inr (5, [.ref F, .ref G, .int lo, .int nw, .int se, .ref (pa 0), .ref an, .ref ln])), cE x xv, (x 8, .inl (cA 0, 4, .inl f)), (ou, .inl (cA 3, 1, .inr (.inl (vp_updL ov 0 ((if xv 0 = 3 ∨ xv 0 = 4 then f k else -1).toInt64)))))] := hD
  refine lv_goto (tgt := 17) hx hb dL_allowed_10 (by decide) ?_
  refine lv_iconst (v := 0) hx hb dL_allowed_17 (by decide) ?_
  refine W.widen (k := 0) (n := 0) (by omega) (by omega) ?_
  exact W.iret (v := 0) hx hb hr (fun t ht hW => ⟨⟨0, (), rfl, rfl, ⟨by rw [ht]; exact hP, by rw [hAe]; exact hD⟩⟩, hS.F ht⟩) hS.2.2 dL_allowed_18
set_option maxHeartbeats 4000000 in
set_option maxRecDepth 100000 in
theorem c_L_allowed_b (l : Launch) (D : va_G) (cA : Nat → ClassId) (zv : Nat → Nat) (sz : Nat) (o F G : Nat) (lo nw se : Int32) (pa : Nat → Nat) (an ln : Nat) (n q : Int32) (ou : Nat) (hl0 : l.stackTraces = false) (hbad : ¬ (inr n 0 1 ∧ inr q 0 3)) : Met l yL_allowed wsL_allowed ({ frames := 10, cells := 1, slots := 6, locals := 144 }) (va_Pc [.ref o, .int n, .int q, .ref ou] (zUX D cA zv sz [(o, .inr (5, [.ref F, .ref G, .int lo, .int nw, .int se, .ref (pa 0), .ref an, .ref ln]))])) (va_Qi (fun (r : Int32) (_ : Unit) => r = 1) (fun (_ : Unit) t => zB D [(o, .inr (5, [.ref F, .ref G, .int lo, .int nw, .int se, .ref (pa 0), .ref an, .ref ln]))] sz [(o, .inr (5, [.ref F, .ref G, .int lo, .int nw, .int se, .ref (pa 0), .ref an, .ref ln]))] t) (va_A [(o, .inr (5, [.ref F, .ref G, .int lo, .int nw, .int se, .ref (pa 0), .ref an, .ref ln]))] sz)) 1 6 (va_A [(o, .inr (5, [.ref F, .ref G, .int lo, .int nw, .int se, .ref (pa 0), .ref an, .ref ln]))] sz) := by
  refine z_ofWH (cc := cL_allowed) (maxL := 5) (ret := (some .int)) (hh := [(0, 10, 13, 13)]) (by decide) rfl ?_
  intro p e s m args below meth c s₁ B hml htab hv
  obtain ⟨rfl, ⟨hsz, hP, hK, hD0, hE0⟩, hX0⟩ := hv
  have hx := B.exec
  have hb := B.bytes
  have hr := B.returns
  have hts := atoms_spec (ws := wsL_allowed) B.pre
  have hown : s.vm.findClass RL = some m.cls := findClass_of_methodNamed B.named
  have hlocks := B.notSynchronized
  subst hsz
  have hD := hD0.self (sz := s.heap.size)
  generalize hAe : va_A [(o, .inr (5, [.ref F, .ref G, .int lo, .int nw, .int se, .ref (pa 0), .ref an, .ref ln]))] s.heap.size = A at hD hE0 hX0 ⊢
  have hA : ∀ q : Nat, s.heap.size ≤ q → A q := fun q h => by rw [← hAe]; exact Or.inr h
  have hS : va_S A s.heap s.heap [] := va_S.rf
  have hl := lv_entry ([.ref o, .int n, .int q, .ref ou]) (n := 5) (Nat.le_of_ble_eq_true rfl)
  rw [lg_entry_eq]
  generalize (lg_sl ([.ref o, .int n, .int q, .ref ou]) ++ List.replicate (5 - (lg_sl ([.ref o, .int n, .int q, .ref ou])).length) Slot.unset).toArray = ls at hl ⊢
  have hl : lv_has ls 5 [(0, .ref o), (1, .int n), (2, .int q), (3, .ref ou)] := hl
  refine lv_aload_n hx hb dL_allowed_0 rfl (lv_at hl 3 rfl) ?_
  refine lv_iconst (v := 0) hx hb dL_allowed_1 (by decide) ?_
  refine lv_aload_n hx hb dL_allowed_2 rfl (lv_at hl 0 rfl) ?_
  refine lv_iload_n hx hb dL_allowed_3 rfl (lv_at hl 1 rfl) ?_
  refine lv_iload_n hx hb dL_allowed_4 rfl (lv_at hl 2 rfl) ?_
  have hPc := hP.sub (ws' := [(o, .inr (5, [.ref F, .ref G, .int lo, .int nw, .int se, .ref (pa 0), .ref an, .ref ln]))]) [0] rfl
  have hDc := hD.sub (ws' := [(o, .inr (5, [.ref F, .ref G, .int lo, .int nw, .int se, .ref (pa 0), .ref an, .ref ln]))]) [0] (by decide) rfl
  have hFc := va_free (wc := [(o, .inr (5, [.ref F, .ref G, .int lo, .int nw, .int se, .ref (pa 0), .ref an, .ref ln]))]) hD hS hA [0] rfl
  refine vx_calli (vx_runV (As := [.int n, .int q]) (rest := [.int 0, .ref ou]) ⟨hx, hb, hml, hown, hts⟩ (c_X3_allowed_b l D cA zv s.heap.size hl0 o F G lo nw se pa an ln n q (by assumption)) (cwV 2 hts gL_allowed_X3_allowed rfl rfl rfl (by decide +kernel) ⟨Nat.le_of_ble_eq_true rfl, Nat.le_of_ble_eq_true rfl⟩) ⟨zUX_blind, va_recv hK hPc (ci := 5) (q0 := 0) rfl rfl, fun U hU hW => ⟨rfl, zUX_call hE0 hX0 hS hFc hU hPc hW hK hDc⟩⟩ rfl rfl hl.1 rfl (lv_room (Nat.le_of_ble_eq_true rfl)) dL_allowed_5 ⟨Nat.le_of_ble_eq_true rfl, Nat.le_of_ble_eq_true rfl⟩) hS (fun q _ h => hFc q h) hFc (fun q _ h => hFc q h) (fun E9 ce9 q9 u t H1 locs ht hvm hpx hB hz1 hk1 hS hcell hcv hcl => ?_) (fun zr u t H1 locs1 ht hvm hw _ _ _ _ => hw.elim)
  obtain ⟨rfl, hP1, hD1⟩ := hB
  rw [ht] at hP1
  obtain ⟨hP, hD⟩ := va_join (wr := []) (w1 := [(o, .inr (5, [.ref F, .ref G, .int lo, .int nw, .int se, .ref (pa 0), .ref an, .ref ln]))]) hP hD [0] [] rfl rfl (by decide) (by decide) hk1 hFc hP1 hD1
  have hP := hP.sub (ws' := [(o, .inr (5, [.ref F, .ref G, .int lo, .int nw, .int se, .ref (pa 0), .ref an, .ref ln]))]) [0] rfl
  have hD := hD.sub (ws' := [(o, .inr (5, [.ref F, .ref G, .int lo, .int nw, .int se, .ref (pa 0), .ref an, .ref ln]))]) [0] (by decide) rfl
  refine vx_catch hown [] ⟨0, 10, 13, 13⟩ [] htab (fun z hz => absurd hz List.not_mem_nil) (by decide) (by decide) (hts (.classLink RL 13 "java/lang/IllegalArgumentException") (List.mem_of_getElem? (i := 1) rfl)) (va_Nw.use rfl (hX0.1.1 "java/lang/IllegalArgumentException" (by decide))) hcell hcv hcl ?_
  refine W.eq (g2 := F0 m 13 ls [.ref q9]) rfl ?_
  clear hcell
  generalize H1 = H at hP hS ⊢
  refine W.widen (k := 1) (n := 6) (by omega) (by omega) ?_
  refine lv_astore (lv' := [(4, .ref q9), (0, .ref o), (1, .int n), (2, .int q), (3, .ref ou)]) hx hb dL_allowed_13 hl (by decide) rfl (fun ls hl => ?_)
  refine lv_iconst (v := 1) hx hb dL_allowed_15 (by decide) ?_
  refine W.widen (k := 1) (n := 6) (by omega) (by omega) ?_
  exact W.iret (v := 1) hx hb hr (fun t ht hW => ⟨⟨1, (), rfl, rfl, ⟨by rw [ht]; exact hP, by rw [hAe]; exact hD⟩⟩, hS.F ht⟩) hS.2.2 dL_allowed_16
set_option maxHeartbeats 4000000 in
set_option maxRecDepth 100000 in
theorem c_L_waiting_k (l : Launch) (D : va_G) (cA : Nat → ClassId) (sz : Nat) (o F G : Nat) (lo nw se : Int32) (pa : Nat → Nat) (an ln : Nat) (x : Nat → Nat) (y0 : Nat) (n : Int32) (xv : Nat → Int32) (xf : Nat) (QX : Qt) (ou : Nat) (ov : Nat → Int64) (he : en n F G (x 0) y0) : Met l yL_waiting wsL_waiting ({ frames := 2, cells := 0, slots := 0, locals := 42 }) (va_Pc [.ref o, .int n, .ref ou] (zU D cA sz [(o, .inr (5, [.ref F, .ref G, .int lo, .int nw, .int se, .ref (pa 0), .ref an, .ref ln])), cE x xv, (x 9, .inr (4, [.ref (x 10), .ref (x 11), .ref (x 12), .ref (x 13), .int (nI xf), .int (nI QX.1)])), (ou, .inl (cA 3, 1, .inr (.inl ov)))])) (va_Qi (fun (r : Int32) (_ : Unit) => r = 0) (fun (_ : Unit) t => zB D [(o, .inr (5, [.ref F, .ref G, .int lo, .int nw, .int se, .ref (pa 0), .ref an, .ref ln])), cE x xv, (x 9, .inr (4, [.ref (x 10), .ref (x 11), .ref (x 12), .ref (x 13), .int (nI xf), .int (nI QX.1)])), (ou, .inl (cA 3, 1, .inr (.inl ov)))] sz [(o, .inr (5, [.ref F, .ref G, .int lo, .int nw, .int se, .ref (pa 0), .ref an, .ref ln])), cE x xv, (x 9, .inr (4, [.ref (x 10), .ref (x 11), .ref (x 12), .ref (x 13), .int (nI xf), .int (nI QX.1)])), (ou, .inl (cA 3, 1, .inr (.inl (vp_updL ov 0 (nI QX.1).toInt64))))] t) (va_A [(o, .inr (5, [.ref F, .ref G, .int lo, .int nw, .int se, .ref (pa 0), .ref an, .ref ln])), cE x xv, (x 9, .inr (4, [.ref (x 10), .ref (x 11), .ref (x 12), .ref (x 13), .int (nI xf), .int (nI QX.1)])), (ou, .inl (cA 3, 1, .inr (.inl ov)))] sz)) 0 0 (va_A [(o, .inr (5, [.ref F, .ref G, .int lo, .int nw, .int se, .ref (pa 0), .ref an, .ref ln])), cE x xv, (x 9, .inr (4, [.ref (x 10), .ref (x 11), .ref (x 12), .ref (x 13), .int (nI xf), .int (nI QX.1)])), (ou, .inl (cA 3, 1, .inr (.inl ov)))] sz) := by
  refine z_ofWH (cc := cL_waiting) (maxL := 4) (ret := (some .int)) (hh := [(0, 9, 12, 13)]) (by decide) rfl ?_
  intro p e s m args below meth c s₁ B hml htab hv
  obtain ⟨rfl, hsz, hP, hK, hD0⟩ := hv
  have hx := B.exec
  have hb := B.bytes
  have hr := B.returns
  have hts := atoms_spec (ws := wsL_waiting) B.pre
  have hown : s.vm.findClass RL = some m.cls := findClass_of_methodNamed B.named
  have hlocks := B.notSynchronized
  subst hsz
  have hD := hD0.self (sz := s.heap.size)
  generalize hAe : va_A [(o, .inr (5, [.ref F, .ref G, .int lo, .int nw, .int se, .ref (pa 0), .ref an, .ref ln])), cE x xv, (x 9, .inr (4, [.ref (x 10), .ref (x 11), .ref (x 12), .ref (x 13), .int (nI xf), .int (nI QX.1)])), (ou, .inl (cA 3, 1, .inr (.inl ov)))] s.heap.size = A at hD ⊢
  have hA : ∀ q : Nat, s.heap.size ≤ q → A q := fun q h => by rw [← hAe]; exact Or.inr h
  have hS : va_S A s.heap s.heap [] := va_S.rf
  have hl := lv_entry ([.ref o, .int n, .ref ou]) (n := 4) (Nat.le_of_ble_eq_true rfl)
  rw [lg_entry_eq]
  generalize (lg_sl ([.ref o, .int n, .ref ou]) ++ List.replicate (4 - (lg_sl ([.ref o, .int n, .ref ou])).length) Slot.unset).toArray = ls at hl ⊢
  have hl : lv_has ls 4 [(0, .ref o), (1, .int n), (2, .ref ou)] := hl
  refine lv_aload_n hx hb dL_waiting_0 rfl (lv_at hl 2 rfl) ?_
  refine lv_iconst (v := 0) hx hb dL_waiting_1 (by decide) ?_
  refine lv_aload_n hx hb dL_waiting_2 rfl (lv_at hl 0 rfl) ?_
  refine lv_iload_n hx hb dL_waiting_3 rfl (lv_at hl 1 rfl) ?_
  have hPc := hP.sub (ws' := [(o, .inr (5, [.ref F, .ref G, .int lo, .int nw, .int se, .ref (pa 0), .ref an, .ref ln])), cE x xv, (x 9, .inr (4, [.ref (x 10), .ref (x 11), .ref (x 12), .ref (x 13), .int (nI xf), .int (nI QX.1)]))]) [0, 1, 2] rfl
  have hDc := hD.sub (ws' := [(o, .inr (5, [.ref F, .ref G, .int lo, .int nw, .int se, .ref (pa 0), .ref an, .ref ln])), cE x xv, (x 9, .inr (4, [.ref (x 10), .ref (x 11), .ref (x 12), .ref (x 13), .int (nI xf), .int (nI QX.1)]))]) [0, 1, 2] (by decide) rfl
  have hFc := va_free (wc := [(o, .inr (5, [.ref F, .ref G, .int lo, .int nw, .int se, .ref (pa 0), .ref an, .ref ln])), cE x xv, (x 9, .inr (4, [.ref (x 10), .ref (x 11), .ref (x 12), .ref (x 13), .int (nI xf), .int (nI QX.1)]))]) hD hS hA [0, 1, 2] rfl
  refine va_calli (va_runV (As := [.int n]) (rest := [.int 0, .ref ou]) ⟨hx, hb, hml, hown, hts⟩ (c_X3_waiting_k l D cA s.heap.size o F G lo nw se pa an ln x y0 n xv xf QX (by assumption)) (cwV 1 hts gL_waiting_X3_waiting rfl rfl rfl (by decide +kernel) ⟨Nat.le_of_ble_eq_true rfl, Nat.le_of_ble_eq_true rfl⟩) ⟨zU_blind, va_recv hK hPc (ci := 5) (q0 := 0) rfl rfl, fun U hU hW => ⟨rfl, zU_call hU hPc hW.alike hK hDc⟩⟩ rfl rfl hl.1 rfl (lv_room (Nat.le_of_ble_eq_true rfl)) dL_waiting_4 ⟨(Nat.zero_le _), (Nat.zero_le _)⟩) hS (fun q _ h => hFc q h) hFc (fun zr u t H1 locs ht hvm hw hB hz1 hk1 hS => ?_)
  obtain ⟨hP1, hD1⟩ := hB
  rw [ht] at hP1
  obtain ⟨hP, hD⟩ := va_join (wr := [(ou, .inl (cA 3, 1, .inr (.inl ov)))]) (w1 := [(o, .inr (5, [.ref F, .ref G, .int lo, .int nw, .int se, .ref (pa 0), .ref an, .ref ln])), cE x xv, (x 9, .inr (4, [.ref (x 10), .ref (x 11), .ref (x 12), .ref (x 13), .int (nI xf), .int (nI QX.1)]))]) hP hD [0, 1, 2] [3] rfl rfl (by decide) (by decide) hk1 hFc hP1 hD1
  generalize H1 = H at hP hS ⊢
  have hP := hP.sub (ws' := [(o, .inr (5, [.ref F, .ref G, .int lo, .int nw, .int se, .ref (pa 0), .ref an, .ref ln])), cE x xv, (x 9, .inr (4, [.ref (x 10), .ref (x 11), .ref (x 12), .ref (x 13), .int (nI xf), .int (nI QX.1)])), (ou, .inl (cA 3, 1, .inr (.inl ov)))]) [1, 2, 3, 0] rfl
  have hD := hD.sub (ws' := [(o, .inr (5, [.ref F, .ref G, .int lo, .int nw, .int se, .ref (pa 0), .ref an, .ref ln])), cE x xv, (x 9, .inr (4, [.ref (x 10), .ref (x 11), .ref (x 12), .ref (x 13), .int (nI xf), .int (nI QX.1)])), (ou, .inl (cA 3, 1, .inr (.inl ov)))]) [1, 2, 3, 0] (by decide) rfl
  clear hPc hDc hFc hP1 hD1 hk1 hz1
  have hw_1 := hw
  obtain rfl := hw
  refine lv_i2l (v := (nI QX.1).toInt64) hx hb dL_waiting_7 rfl ?_
  refine z_last (k := 0) hx hb hK hP hD hS 3 3 rfl rfl rfl (by omega) (by decide) dL_waiting_8 (fun H locs hP hD hS => ?_)
  have hP : va_P D vwCl [(o, .inr (5, [.ref F, .ref G, .int lo, .int nw, .int se, .ref (pa 0), .ref an, .ref ln])), cE x xv, (x 9, .inr (4, [.ref (x 10), .ref (x 11), .ref (x 12), .ref (x 13), .int (nI xf), .int (nI QX.1)])), (ou, .inl (cA 3, 1, .inr (.inl (vp_updL ov 0 ((nI QX.1).toInt64)))))] H := hP
  have hD : va_D A [(o, .inr (5, [.ref F, .ref G, .int lo, .int nw, .int se, .ref (pa 0), .ref an, .ref ln])), cE x xv, (x 9, .inr (4, [.ref (x 10), .ref (x 11), .ref (x 12), .ref (x 13), .int (nI xf), .int (nI QX.1)])), (ou, .inl (cA 3, 1, .inr (.inl (vp_updL ov 0 ((nI QX.1).toInt64)))))] := hD
  refine lv_goto (tgt := 15) hx hb dL_waiting_9 (by decide) ?_
  refine lv_iconst (v := 0) hx hb dL_waiting_15 (by decide) ?_
  refine W.widen (k := 0) (n := 0) (by omega) (by omega) ?_
  exact W.iret (v := 0) hx hb hr (fun t ht hW => ⟨⟨0, (), rfl, rfl, ⟨by rw [ht]; exact hP, by rw [hAe]; exact hD⟩⟩, hS.F ht⟩) hS.2.2 dL_waiting_16
set_option maxHeartbeats 4000000 in
set_option maxRecDepth 100000 in
theorem c_L_waiting_b (l : Launch) (D : va_G) (cA : Nat → ClassId) (zv : Nat → Nat) (sz : Nat) (o F G : Nat) (lo nw se : Int32) (pa : Nat → Nat) (an ln : Nat) (n  : Int32) (ou : Nat) (hl0 : l.stackTraces = false) (hbad : ¬ inr n 0 1) : Met l yL_waiting wsL_waiting ({ frames := 10, cells := 1, slots := 6, locals := 141 }) (va_Pc [.ref o, .int n, .ref ou] (zUX D cA zv sz [(o, .inr (5, [.ref F, .ref G, .int lo, .int nw, .int se, .ref (pa 0), .ref an, .ref ln]))])) (va_Qi (fun (r : Int32) (_ : Unit) => r = 1) (fun (_ : Unit) t => zB D [(o, .inr (5, [.ref F, .ref G, .int lo, .int nw, .int se, .ref (pa 0), .ref an, .ref ln]))] sz [(o, .inr (5, [.ref F, .ref G, .int lo, .int nw, .int se, .ref (pa 0), .ref an, .ref ln]))] t) (va_A [(o, .inr (5, [.ref F, .ref G, .int lo, .int nw, .int se, .ref (pa 0), .ref an, .ref ln]))] sz)) 1 6 (va_A [(o, .inr (5, [.ref F, .ref G, .int lo, .int nw, .int se, .ref (pa 0), .ref an, .ref ln]))] sz) := by
  refine z_ofWH (cc := cL_waiting) (maxL := 4) (ret := (some .int)) (hh := [(0, 9, 12, 13)]) (by decide) rfl ?_
  intro p e s m args below meth c s₁ B hml htab hv
  obtain ⟨rfl, ⟨hsz, hP, hK, hD0, hE0⟩, hX0⟩ := hv
  have hx := B.exec
  have hb := B.bytes
  have hr := B.returns
  have hts := atoms_spec (ws := wsL_waiting) B.pre
  have hown : s.vm.findClass RL = some m.cls := findClass_of_methodNamed B.named
  have hlocks := B.notSynchronized
  subst hsz
  have hD := hD0.self (sz := s.heap.size)
  generalize hAe : va_A [(o, .inr (5, [.ref F, .ref G, .int lo, .int nw, .int se, .ref (pa 0), .ref an, .ref ln]))] s.heap.size = A at hD hE0 hX0 ⊢
  have hA : ∀ q : Nat, s.heap.size ≤ q → A q := fun q h => by rw [← hAe]; exact Or.inr h
  have hS : va_S A s.heap s.heap [] := va_S.rf
  have hl := lv_entry ([.ref o, .int n, .ref ou]) (n := 4) (Nat.le_of_ble_eq_true rfl)
  rw [lg_entry_eq]
  generalize (lg_sl ([.ref o, .int n, .ref ou]) ++ List.replicate (4 - (lg_sl ([.ref o, .int n, .ref ou])).length) Slot.unset).toArray = ls at hl ⊢
  have hl : lv_has ls 4 [(0, .ref o), (1, .int n), (2, .ref ou)] := hl
  refine lv_aload_n hx hb dL_waiting_0 rfl (lv_at hl 2 rfl) ?_
  refine lv_iconst (v := 0) hx hb dL_waiting_1 (by decide) ?_
  refine lv_aload_n hx hb dL_waiting_2 rfl (lv_at hl 0 rfl) ?_
  refine lv_iload_n hx hb dL_waiting_3 rfl (lv_at hl 1 rfl) ?_
  have hPc := hP.sub (ws' := [(o, .inr (5, [.ref F, .ref G, .int lo, .int nw, .int se, .ref (pa 0), .ref an, .ref ln]))]) [0] rfl
  have hDc := hD.sub (ws' := [(o, .inr (5, [.ref F, .ref G, .int lo, .int nw, .int se, .ref (pa 0), .ref an, .ref ln]))]) [0] (by decide) rfl
  have hFc := va_free (wc := [(o, .inr (5, [.ref F, .ref G, .int lo, .int nw, .int se, .ref (pa 0), .ref an, .ref ln]))]) hD hS hA [0] rfl
  refine vx_calli (vx_runV (As := [.int n]) (rest := [.int 0, .ref ou]) ⟨hx, hb, hml, hown, hts⟩ (c_X3_waiting_b l D cA zv s.heap.size hl0 o F G lo nw se pa an ln n (by assumption)) (cwV 1 hts gL_waiting_X3_waiting rfl rfl rfl (by decide +kernel) ⟨Nat.le_of_ble_eq_true rfl, Nat.le_of_ble_eq_true rfl⟩) ⟨zUX_blind, va_recv hK hPc (ci := 5) (q0 := 0) rfl rfl, fun U hU hW => ⟨rfl, zUX_call hE0 hX0 hS hFc hU hPc hW hK hDc⟩⟩ rfl rfl hl.1 rfl (lv_room (Nat.le_of_ble_eq_true rfl)) dL_waiting_4 ⟨Nat.le_of_ble_eq_true rfl, Nat.le_of_ble_eq_true rfl⟩) hS (fun q _ h => hFc q h) hFc (fun q _ h => hFc q h) (fun E9 ce9 q9 u t H1 locs ht hvm hpx hB hz1 hk1 hS hcell hcv hcl => ?_) (fun zr u t H1 locs1 ht hvm hw _ _ _ _ => hw.elim)
  obtain ⟨rfl, hP1, hD1⟩ := hB
  rw [ht] at hP1
  obtain ⟨hP, hD⟩ := va_join (wr := []) (w1 := [(o, .inr (5, [.ref F, .ref G, .int lo, .int nw, .int se, .ref (pa 0), .ref an, .ref ln]))]) hP hD [0] [] rfl rfl (by decide) (by decide) hk1 hFc hP1 hD1
  have hP := hP.sub (ws' := [(o, .inr (5, [.ref F, .ref G, .int lo, .int nw, .int se, .ref (pa 0), .ref an, .ref ln]))]) [0] rfl
  have hD := hD.sub (ws' := [(o, .inr (5, [.ref F, .ref G, .int lo, .int nw, .int se, .ref (pa 0), .ref an, .ref ln]))]) [0] (by decide) rfl
  refine vx_catch hown [] ⟨0, 9, 12, 13⟩ [] htab (fun z hz => absurd hz List.not_mem_nil) (by decide) (by decide) (hts (.classLink RL 13 "java/lang/IllegalArgumentException") (List.mem_of_getElem? (i := 1) rfl)) (va_Nw.use rfl (hX0.1.1 "java/lang/IllegalArgumentException" (by decide))) hcell hcv hcl ?_
  refine W.eq (g2 := F0 m 12 ls [.ref q9]) rfl ?_
  clear hcell
  generalize H1 = H at hP hS ⊢
  refine W.widen (k := 1) (n := 6) (by omega) (by omega) ?_
  refine lv_astore_n (lv' := [(3, .ref q9), (0, .ref o), (1, .int n), (2, .ref ou)]) hx hb dL_waiting_12 rfl hl (by decide) rfl (fun ls hl => ?_)
  refine lv_iconst (v := 1) hx hb dL_waiting_13 (by decide) ?_
  refine W.widen (k := 1) (n := 6) (by omega) (by omega) ?_
  exact W.iret (v := 1) hx hb hr (fun t ht hW => ⟨⟨1, (), rfl, rfl, ⟨by rw [ht]; exact hP, by rw [hAe]; exact hD⟩⟩, hS.F ht⟩) hS.2.2 dL_waiting_14
set_option maxHeartbeats 4000000 in
set_option maxRecDepth 100000 in
theorem c_L_kindAt_k (l : Launch) (D : va_G) (cA : Nat → ClassId) (sz : Nat) (o F G : Nat) (lo nw se : Int32) (pa : Nat → Nat) (an ln : Nat) (x : Nat → Nat) (y0 : Nat) (n : Int32) (xv : Nat → Int32) (xr : Nat → Nat → Int32) (xf : Nat) (QX : Qt) (k : Nat) (ou : Nat) (ov : Nat → Int64) (he : en n F G (x 0) y0) (hqx : rg xr xf QX) (hk : k < QX.1) : Met l yL_kindAt wsL_kindAt ({ frames := 3, cells := 0, slots := 0, locals := 65 }) (va_Pc [.ref o, .int n, .int (nI k), .ref ou] (zU D cA sz [(o, .inr (5, [.ref F, .ref G, .int lo, .int nw, .int se, .ref (pa 0), .ref an, .ref ln])), cE x xv, (x 9, .inr (4, [.ref (x 10), .ref (x 11), .ref (x 12), .ref (x 13), .int (nI xf), .int (nI QX.1)])), (x 10, .inl (cA 0, 12, .inl (xr 0))), (x 11, .inl (cA 0, 12, .inl (xr 1))), (x 12, .inl (cA 0, 12, .inl (xr 2))), (x 13, .inl (cA 0, 48, .inl (xr 3))), (ou, .inl (cA 3, 1, .inr (.inl ov)))])) (va_Qi (fun (r : Int32) (_ : Unit) => r = 0) (fun (_ : Unit) t => zB D [(o, .inr (5, [.ref F, .ref G, .int lo, .int nw, .int se, .ref (pa 0), .ref an, .ref ln])), cE x xv, (x 9, .inr (4, [.ref (x 10), .ref (x 11), .ref (x 12), .ref (x 13), .int (nI xf), .int (nI QX.1)])), (x 10, .inl (cA 0, 12, .inl (xr 0))), (x 11, .inl (cA 0, 12, .inl (xr 1))), (x 12, .inl (cA 0, 12, .inl (xr 2))), (x 13, .inl (cA 0, 48, .inl (xr 3))), (ou, .inl (cA 3, 1, .inr (.inl ov)))] sz [(o, .inr (5, [.ref F, .ref G, .int lo, .int nw, .int se, .ref (pa 0), .ref an, .ref ln])), cE x xv, (x 9, .inr (4, [.ref (x 10), .ref (x 11), .ref (x 12), .ref (x 13), .int (nI xf), .int (nI QX.1)])), (x 10, .inl (cA 0, 12, .inl (xr 0))), (x 11, .inl (cA 0, 12, .inl (xr 1))), (x 12, .inl (cA 0, 12, .inl (xr 2))), (x 13, .inl (cA 0, 48, .inl (xr 3))), (ou, .inl (cA 3, 1, .inr (.inl (vp_updL ov 0 (QX.2 k 0).toInt64))))] t) (va_A [(o, .inr (5, [.ref F, .ref G, .int lo, .int nw, .int se, .ref (pa 0), .ref an, .ref ln])), cE x xv, (x 9, .inr (4, [.ref (x 10), .ref (x 11), .ref (x 12), .ref (x 13), .int (nI xf), .int (nI QX.1)])), (x 10, .inl (cA 0, 12, .inl (xr 0))), (x 11, .inl (cA 0, 12, .inl (xr 1))), (x 12, .inl (cA 0, 12, .inl (xr 2))), (x 13, .inl (cA 0, 48, .inl (xr 3))), (ou, .inl (cA 3, 1, .inr (.inl ov)))] sz)) 0 0 (va_A [(o, .inr (5, [.ref F, .ref G, .int lo, .int nw, .int se, .ref (pa 0), .ref an, .ref ln])), cE x xv, (x 9, .inr (4, [.ref (x 10), .ref (x 11), .ref (x 12), .ref (x 13), .int (nI xf), .int (nI QX.1)])), (x 10, .inl (cA 0, 12, .inl (xr 0))), (x 11, .inl (cA 0, 12, .inl (xr 1))), (x 12, .inl (cA 0, 12, .inl (xr 2))), (x 13, .inl (cA 0, 48, .inl (xr 3))), (ou, .inl (cA 3, 1, .inr (.inl ov)))] sz) := by
  refine z_ofWH (cc := cL_kindAt) (maxL := 5) (ret := (some .int)) (hh := [(0, 10, 13, 13), (0, 10, 17, 37)]) (by decide) rfl ?_
  intro p e s m args below meth c s₁ B hml htab hv
  obtain ⟨rfl, hsz, hP, hK, hD0⟩ := hv
  have hx := B.exec
  have hb := B.bytes
  have hr := B.returns
  have hts := atoms_spec (ws := wsL_kindAt) B.pre
  have hown : s.vm.findClass RL = some m.cls := findClass_of_methodNamed B.named
  have hlocks := B.notSynchronized
  subst hsz
  have hD := hD0.self (sz := s.heap.size)
  generalize hAe : va_A [(o, .inr (5, [.ref F, .ref G, .int lo, .int nw, .int se, .ref (pa 0), .ref an, .ref ln])), cE x xv, (x 9, .inr (4, [.ref (x 10), .ref (x 11), .ref (x 12), .ref (x 13), .int (nI xf), .int (nI QX.1)])), (x 10, .inl (cA 0, 12, .inl (xr 0))), (x 11, .inl (cA 0, 12, .inl (xr 1))), (x 12, .inl (cA 0, 12, .inl (xr 2))), (x 13, .inl (cA 0, 48, .inl (xr 3))), (ou, .inl (cA 3, 1, .inr (.inl ov)))] s.heap.size = A at hD ⊢
  have hA : ∀ q : Nat, s.heap.size ≤ q → A q := fun q h => by rw [← hAe]; exact Or.inr h
  have hS : va_S A s.heap s.heap [] := va_S.rf
  have hl := lv_entry ([.ref o, .int n, .int (nI k), .ref ou]) (n := 5) (Nat.le_of_ble_eq_true rfl)
  rw [lg_entry_eq]
  generalize (lg_sl ([.ref o, .int n, .int (nI k), .ref ou]) ++ List.replicate (5 - (lg_sl ([.ref o, .int n, .int (nI k), .ref ou])).length) Slot.unset).toArray = ls at hl ⊢
  have hl : lv_has ls 5 [(0, .ref o), (1, .int n), (2, .int (nI k)), (3, .ref ou)] := hl
  refine lv_aload_n hx hb dL_kindAt_0 rfl (lv_at hl 3 rfl) ?_
  refine lv_iconst (v := 0) hx hb dL_kindAt_1 (by decide) ?_
  refine lv_aload_n hx hb dL_kindAt_2 rfl (lv_at hl 0 rfl) ?_
  refine lv_iload_n hx hb dL_kindAt_3 rfl (lv_at hl 1 rfl) ?_
  refine lv_iload_n hx hb dL_kindAt_4 rfl (lv_at hl 2 rfl) ?_
  have hPc := hP.sub (ws' := [(o, .inr (5, [.ref F, .ref G, .int lo, .int nw, .int se, .ref (pa 0), .ref an, .ref ln])), cE x xv, (x 9, .inr (4, [.ref (x 10), .ref (x 11), .ref (x 12), .ref (x 13), .int (nI xf), .int (nI QX.1)])), (x 10, .inl (cA 0, 12, .inl (xr 0))), (x 11, .inl (cA 0, 12, .inl (xr 1))), (x 12, .inl (cA 0, 12, .inl (xr 2))), (x 13, .inl (cA 0, 48, .inl (xr 3)))]) [0, 1, 2, 3, 4, 5, 6] rfl
  have hDc := hD.sub (ws' := [(o, .inr (5, [.ref F, .ref G, .int lo, .int nw, .int se, .ref (pa 0), .ref an, .ref ln])), cE x xv, (x 9, .inr (4, [.ref (x 10), .ref (x 11), .ref (x 12), .ref (x 13), .int (nI xf), .int (nI QX.1)])), (x 10, .inl (cA 0, 12, .inl (xr 0))), (x 11, .inl (cA 0, 12, .inl (xr 1))), (x 12, .inl (cA 0, 12, .inl (xr 2))), (x 13, .inl (cA 0, 48, .inl (xr 3)))]) [0, 1, 2, 3, 4, 5, 6] (by decide) rfl
  have hFc := va_free (wc := [(o, .inr (5, [.ref F, .ref G, .int lo, .int nw, .int se, .ref (pa 0), .ref an, .ref ln])), cE x xv, (x 9, .inr (4, [.ref (x 10), .ref (x 11), .ref (x 12), .ref (x 13), .int (nI xf), .int (nI QX.1)])), (x 10, .inl (cA 0, 12, .inl (xr 0))), (x 11, .inl (cA 0, 12, .inl (xr 1))), (x 12, .inl (cA 0, 12, .inl (xr 2))), (x 13, .inl (cA 0, 48, .inl (xr 3)))]) hD hS hA [0, 1, 2, 3, 4, 5, 6] rfl
  refine va_calli (va_runV (As := [.int n, .int (nI k)]) (rest := [.int 0, .ref ou]) ⟨hx, hb, hml, hown, hts⟩ (c_X3_kindAt_k l D cA s.heap.size o F G lo nw se pa an ln x y0 n xv xr xf QX k (by assumption) (by assumption) (by assumption)) (cwV 2 hts gL_kindAt_X3_kindAt rfl rfl rfl (by decide +kernel) ⟨Nat.le_of_ble_eq_true rfl, Nat.le_of_ble_eq_true rfl⟩) ⟨zU_blind, va_recv hK hPc (ci := 5) (q0 := 0) rfl rfl, fun U hU hW => ⟨rfl, zU_call hU hPc hW.alike hK hDc⟩⟩ rfl rfl hl.1 rfl (lv_room (Nat.le_of_ble_eq_true rfl)) dL_kindAt_5 ⟨(Nat.zero_le _), (Nat.zero_le _)⟩) hS (fun q _ h => hFc q h) hFc (fun zr u t H1 locs ht hvm hw hB hz1 hk1 hS => ?_)
  obtain ⟨hP1, hD1⟩ := hB
  rw [ht] at hP1
  obtain ⟨hP, hD⟩ := va_join (wr := [(ou, .inl (cA 3, 1, .inr (.inl ov)))]) (w1 := [(o, .inr (5, [.ref F, .ref G, .int lo, .int nw, .int se, .ref (pa 0), .ref an, .ref ln])), cE x xv, (x 9, .inr (4, [.ref (x 10), .ref (x 11), .ref (x 12), .ref (x 13), .int (nI xf), .int (nI QX.1)])), (x 10, .inl (cA 0, 12, .inl (xr 0))), (x 11, .inl (cA 0, 12, .inl (xr 1))), (x 12, .inl (cA 0, 12, .inl (xr 2))), (x 13, .inl (cA 0, 48, .inl (xr 3)))]) hP hD [0, 1, 2, 3, 4, 5, 6] [7] rfl rfl (by decide) (by decide) hk1 hFc hP1 hD1
  generalize H1 = H at hP hS ⊢
  have hP := hP.sub (ws' := [(o, .inr (5, [.ref F, .ref G, .int lo, .int nw, .int se, .ref (pa 0), .ref an, .ref ln])), cE x xv, (x 9, .inr (4, [.ref (x 10), .ref (x 11), .ref (x 12), .ref (x 13), .int (nI xf), .int (nI QX.1)])), (x 10, .inl (cA 0, 12, .inl (xr 0))), (x 11, .inl (cA 0, 12, .inl (xr 1))), (x 12, .inl (cA 0, 12, .inl (xr 2))), (x 13, .inl (cA 0, 48, .inl (xr 3))), (ou, .inl (cA 3, 1, .inr (.inl ov)))]) [1, 2, 3, 4, 5, 6, 7, 0] rfl
  have hD := hD.sub (ws' := [(o, .inr (5, [.ref F, .ref G, .int lo, .int nw, .int se, .ref (pa 0), .ref an, .ref ln])), cE x xv, (x 9, .inr (4, [.ref (x 10), .ref (x 11), .ref (x 12), .ref (x 13), .int (nI xf), .int (nI QX.1)])), (x 10, .inl (cA 0, 12, .inl (xr 0))), (x 11, .inl (cA 0, 12, .inl (xr 1))), (x 12, .inl (cA 0, 12, .inl (xr 2))), (x 13, .inl (cA 0, 48, .inl (xr 3))), (ou, .inl (cA 3, 1, .inr (.inl ov)))]) [1, 2, 3, 4, 5, 6, 7, 0] (by decide) rfl
  clear hPc hDc hFc hP1 hD1 hk1 hz1
  have hw_1 := hw
  obtain rfl := hw
  refine lv_i2l (v := (QX.2 k 0).toInt64) hx hb dL_kindAt_8 rfl ?_
  refine z_last (k := 0) hx hb hK hP hD hS 7 3 rfl rfl rfl (by omega) (by decide) dL_kindAt_9 (fun H locs hP hD hS => ?_)
  have hP : va_P D vwCl [(o, .inr (5, [.ref F, .ref G, .int lo, .int nw, .int se, .ref (pa 0), .ref an, .ref ln])), cE x xv, (x 9, .inr (4, [.ref (x 10), .ref (x 11), .ref (x 12), .ref (x 13), .int (nI xf), .int (nI QX.1)])), (x 10, .inl (cA 0, 12, .inl (xr 0))), (x 11, .inl (cA 0, 12, .inl (xr 1))), (x 12, .inl (cA 0, 12, .inl (xr 2))), (x 13, .inl (cA 0, 48, .inl (xr 3))), (ou, .inl (cA 3, 1, .inr (.inl (vp_updL ov 0 ((QX.2 k 0).toInt64)))))] H := hP
  have hD : va_D A [(o, .inr (5, [.ref F, .ref G, .int lo, .int nw, .int se, .ref (pa 0), .ref an, .ref ln])), cE x xv, (x 9, .inr (4, [.ref (x 10), .ref (x 11), .ref (x 12), .ref (x 13), .int (nI xf), .int (nI QX.1)])), (x 10, .inl (cA 0, 12, .inl (xr 0))), (x 11, .inl (cA 0, 12, .inl (xr 1))), (x 12, .inl (cA 0, 12, .inl (xr 2))), (x 13, .inl (cA 0, 48, .inl (xr 3))), (ou, .inl (cA 3, 1, .inr (.inl (vp_updL ov 0 ((QX.2 k 0).toInt64)))))] := hD
  refine lv_goto (tgt := 21) hx hb dL_kindAt_10 (by decide) ?_
  refine lv_iconst (v := 0) hx hb dL_kindAt_21 (by decide) ?_
  refine W.widen (k := 0) (n := 0) (by omega) (by omega) ?_
  exact W.iret (v := 0) hx hb hr (fun t ht hW => ⟨⟨0, (), rfl, rfl, ⟨by rw [ht]; exact hP, by rw [hAe]; exact hD⟩⟩, hS.F ht⟩) hS.2.2 dL_kindAt_22
set_option maxHeartbeats 4000000 in
set_option maxRecDepth 100000 in
theorem c_L_kindAt_p (l : Launch) (D : va_G) (cA : Nat → ClassId) (zv : Nat → Nat) (sz : Nat) (o F G : Nat) (lo nw se : Int32) (pa : Nat → Nat) (an ln : Nat) (x : Nat → Nat) (y0 : Nat) (n : Int32) (xv : Nat → Int32) (xf : Nat) (QX : Qt) (q : Int32) (ou : Nat) (hl0 : l.stackTraces = false) (he : en n F G (x 0) y0) (hq12 : QX.1 ≤ 12) (hp : ¬ inr q 0 (nI QX.1 - 1)) : Met l yL_kindAt wsL_kindAt ({ frames := 10, cells := 1, slots := 6, locals := 144 }) (va_Pc [.ref o, .int n, .int q, .ref ou] (zUX D cA zv sz [(o, .inr (5, [.ref F, .ref G, .int lo, .int nw, .int se, .ref (pa 0), .ref an, .ref ln])), cE x xv, (x 9, .inr (4, [.ref (x 10), .ref (x 11), .ref (x 12), .ref (x 13), .int (nI xf), .int (nI QX.1)]))])) (va_Qi (fun (r : Int32) (_ : Unit) => r = 2) (fun (_ : Unit) t => zB D [(o, .inr (5, [.ref F, .ref G, .int lo, .int nw, .int se, .ref (pa 0), .ref an, .ref ln])), cE x xv, (x 9, .inr (4, [.ref (x 10), .ref (x 11), .ref (x 12), .ref (x 13), .int (nI xf), .int (nI QX.1)]))] sz [(o, .inr (5, [.ref F, .ref G, .int lo, .int nw, .int se, .ref (pa 0), .ref an, .ref ln])), cE x xv, (x 9, .inr (4, [.ref (x 10), .ref (x 11), .ref (x 12), .ref (x 13), .int (nI xf), .int (nI QX.1)]))] t) (va_A [(o, .inr (5, [.ref F, .ref G, .int lo, .int nw, .int se, .ref (pa 0), .ref an, .ref ln])), cE x xv, (x 9, .inr (4, [.ref (x 10), .ref (x 11), .ref (x 12), .ref (x 13), .int (nI xf), .int (nI QX.1)]))] sz)) 1 6 (va_A [(o, .inr (5, [.ref F, .ref G, .int lo, .int nw, .int se, .ref (pa 0), .ref an, .ref ln])), cE x xv, (x 9, .inr (4, [.ref (x 10), .ref (x 11), .ref (x 12), .ref (x 13), .int (nI xf), .int (nI QX.1)]))] sz) := by
  refine z_ofWH (cc := cL_kindAt) (maxL := 5) (ret := (some .int)) (hh := [(0, 10, 13, 13), (0, 10, 17, 37)]) (by decide) rfl ?_
  intro p e s m args below meth c s₁ B hml htab hv
  obtain ⟨rfl, ⟨hsz, hP, hK, hD0, hE0⟩, hX0⟩ := hv
  have hx := B.exec
  have hb := B.bytes
  have hr := B.returns
  have hts := atoms_spec (ws := wsL_kindAt) B.pre
  have hown : s.vm.findClass RL = some m.cls := findClass_of_methodNamed B.named
  have hlocks := B.notSynchronized
  subst hsz
  have hD := hD0.self (sz := s.heap.size)
  generalize hAe : va_A [(o, .inr (5, [.ref F, .ref G, .int lo, .int nw, .int se, .ref (pa 0), .ref an, .ref ln])), cE x xv, (x 9, .inr (4, [.ref (x 10), .ref (x 11), .ref (x 12), .ref (x 13), .int (nI xf), .int (nI QX.1)]))] s.heap.size = A at hD hE0 hX0 ⊢
  have hA : ∀ q : Nat, s.heap.size ≤ q → A q := fun q h => by rw [← hAe]; exact Or.inr h
  have hS : va_S A s.heap s.heap [] := va_S.rf
  have hl := lv_entry ([.ref o, .int n, .int q, .ref ou]) (n := 5) (Nat.le_of_ble_eq_true rfl)
  rw [lg_entry_eq]
  generalize (lg_sl ([.ref o, .int n, .int q, .ref ou]) ++ List.replicate (5 - (lg_sl ([.ref o, .int n, .int q, .ref ou])).length) Slot.unset).toArray = ls at hl ⊢
  have hl : lv_has ls 5 [(0, .ref o), (1, .int n), (2, .int q), (3, .ref ou)] := hl
  refine lv_aload_n hx hb dL_kindAt_0 rfl (lv_at hl 3 rfl) ?_
  refine lv_iconst (v := 0) hx hb dL_kindAt_1 (by decide) ?_
  refine lv_aload_n hx hb dL_kindAt_2 rfl (lv_at hl 0 rfl) ?_
  refine lv_iload_n hx hb dL_kindAt_3 rfl (lv_at hl 1 rfl) ?_
  refine lv_iload_n hx hb dL_kindAt_4 rfl (lv_at hl 2 rfl) ?_
  have hPc := hP.sub (ws' := [(o, .inr (5, [.ref F, .ref G, .int lo, .int nw, .int se, .ref (pa 0), .ref an, .ref ln])), cE x xv, (x 9, .inr (4, [.ref (x 10), .ref (x 11), .ref (x 12), .ref (x 13), .int (nI xf), .int (nI QX.1)]))]) [0, 1, 2] rfl
  have hDc := hD.sub (ws' := [(o, .inr (5, [.ref F, .ref G, .int lo, .int nw, .int se, .ref (pa 0), .ref an, .ref ln])), cE x xv, (x 9, .inr (4, [.ref (x 10), .ref (x 11), .ref (x 12), .ref (x 13), .int (nI xf), .int (nI QX.1)]))]) [0, 1, 2] (by decide) rfl
  have hFc := va_free (wc := [(o, .inr (5, [.ref F, .ref G, .int lo, .int nw, .int se, .ref (pa 0), .ref an, .ref ln])), cE x xv, (x 9, .inr (4, [.ref (x 10), .ref (x 11), .ref (x 12), .ref (x 13), .int (nI xf), .int (nI QX.1)]))]) hD hS hA [0, 1, 2] rfl
  refine vx_calli (vx_runV (As := [.int n, .int q]) (rest := [.int 0, .ref ou]) ⟨hx, hb, hml, hown, hts⟩ (c_X3_kindAt_p l D cA zv s.heap.size hl0 o F G lo nw se pa an ln x y0 n xv xf QX q (by assumption) (by assumption) (by assumption)) (cwV 2 hts gL_kindAt_X3_kindAt rfl rfl rfl (by decide +kernel) ⟨Nat.le_of_ble_eq_true rfl, Nat.le_of_ble_eq_true rfl⟩) ⟨zUX_blind, va_recv hK hPc (ci := 5) (q0 := 0) rfl rfl, fun U hU hW => ⟨rfl, zUX_call hE0 hX0 hS hFc hU hPc hW hK hDc⟩⟩ rfl rfl hl.1 rfl (lv_room (Nat.le_of_ble_eq_true rfl)) dL_kindAt_5 ⟨Nat.le_of_ble_eq_true rfl, Nat.le_of_ble_eq_true rfl⟩) hS (fun q _ h => hFc q h) hFc (fun q _ h => hFc q h) (fun E9 ce9 q9 u t H1 locs ht hvm hpx hB hz1 hk1 hS hcell hcv hcl => ?_) (fun zr u t H1 locs1 ht hvm hw _ _ _ _ => hw.elim)
  obtain ⟨rfl, hP1, hD1⟩ := hB
  rw [ht] at hP1
  obtain ⟨hP, hD⟩ := va_join (wr := []) (w1 := [(o, .inr (5, [.ref F, .ref G, .int lo, .int nw, .int se, .ref (pa 0), .ref an, .ref ln])), cE x xv, (x 9, .inr (4, [.ref (x 10), .ref (x 11), .ref (x 12), .ref (x 13), .int (nI xf), .int (nI QX.1)]))]) hP hD [0, 1, 2] [] rfl rfl (by decide) (by decide) hk1 hFc hP1 hD1
  have hP := hP.sub (ws' := [(o, .inr (5, [.ref F, .ref G, .int lo, .int nw, .int se, .ref (pa 0), .ref an, .ref ln])), cE x xv, (x 9, .inr (4, [.ref (x 10), .ref (x 11), .ref (x 12), .ref (x 13), .int (nI xf), .int (nI QX.1)]))]) [0, 1, 2] rfl
  have hD := hD.sub (ws' := [(o, .inr (5, [.ref F, .ref G, .int lo, .int nw, .int se, .ref (pa 0), .ref an, .ref ln])), cE x xv, (x 9, .inr (4, [.ref (x 10), .ref (x 11), .ref (x 12), .ref (x 13), .int (nI xf), .int (nI QX.1)]))]) [0, 1, 2] (by decide) rfl
  refine vx_catch hown [⟨0, 10, 13, 13⟩] ⟨0, 10, 17, 37⟩ [] htab (fun z hz => by obtain rfl := List.mem_singleton.mp hz; exact Or.inr ⟨by decide, _, (hts (.classLink RL 13 "java/lang/IllegalArgumentException") (List.mem_of_getElem? (i := 1) rfl)), hX0.2.2.2.2.2⟩) (by decide) (by decide) (hts (.classLink RL 37 "java/util/NoSuchElementException") (List.mem_of_getElem? (i := 2) rfl)) (va_Nw.use rfl (hX0.1.1 "java/util/NoSuchElementException" (by decide))) hcell hcv hcl ?_
  refine W.eq (g2 := F0 m 17 ls [.ref q9]) rfl ?_
  clear hcell
  generalize H1 = H at hP hS ⊢
  refine W.widen (k := 1) (n := 6) (by omega) (by omega) ?_
  refine lv_astore (lv' := [(4, .ref q9), (0, .ref o), (1, .int n), (2, .int q), (3, .ref ou)]) hx hb dL_kindAt_17 hl (by decide) rfl (fun ls hl => ?_)
  refine lv_iconst (v := 2) hx hb dL_kindAt_19 (by decide) ?_
  refine W.widen (k := 1) (n := 6) (by omega) (by omega) ?_
  exact W.iret (v := 2) hx hb hr (fun t ht hW => ⟨⟨2, (), rfl, rfl, ⟨by rw [ht]; exact hP, by rw [hAe]; exact hD⟩⟩, hS.F ht⟩) hS.2.2 dL_kindAt_20
set_option maxHeartbeats 4000000 in
set_option maxRecDepth 100000 in
theorem c_L_kindAt_b (l : Launch) (D : va_G) (cA : Nat → ClassId) (zv : Nat → Nat) (sz : Nat) (o F G : Nat) (lo nw se : Int32) (pa : Nat → Nat) (an ln : Nat) (n q : Int32) (ou : Nat) (hl0 : l.stackTraces = false) (hbad : ¬ inr n 0 1) : Met l yL_kindAt wsL_kindAt ({ frames := 10, cells := 1, slots := 6, locals := 143 }) (va_Pc [.ref o, .int n, .int q, .ref ou] (zUX D cA zv sz [(o, .inr (5, [.ref F, .ref G, .int lo, .int nw, .int se, .ref (pa 0), .ref an, .ref ln]))])) (va_Qi (fun (r : Int32) (_ : Unit) => r = 1) (fun (_ : Unit) t => zB D [(o, .inr (5, [.ref F, .ref G, .int lo, .int nw, .int se, .ref (pa 0), .ref an, .ref ln]))] sz [(o, .inr (5, [.ref F, .ref G, .int lo, .int nw, .int se, .ref (pa 0), .ref an, .ref ln]))] t) (va_A [(o, .inr (5, [.ref F, .ref G, .int lo, .int nw, .int se, .ref (pa 0), .ref an, .ref ln]))] sz)) 1 6 (va_A [(o, .inr (5, [.ref F, .ref G, .int lo, .int nw, .int se, .ref (pa 0), .ref an, .ref ln]))] sz) := by
  refine z_ofWH (cc := cL_kindAt) (maxL := 5) (ret := (some .int)) (hh := [(0, 10, 13, 13), (0, 10, 17, 37)]) (by decide) rfl ?_
  intro p e s m args below meth c s₁ B hml htab hv
  obtain ⟨rfl, ⟨hsz, hP, hK, hD0, hE0⟩, hX0⟩ := hv
  have hx := B.exec
  have hb := B.bytes
  have hr := B.returns
  have hts := atoms_spec (ws := wsL_kindAt) B.pre
  have hown : s.vm.findClass RL = some m.cls := findClass_of_methodNamed B.named
  have hlocks := B.notSynchronized
  subst hsz
  have hD := hD0.self (sz := s.heap.size)
  generalize hAe : va_A [(o, .inr (5, [.ref F, .ref G, .int lo, .int nw, .int se, .ref (pa 0), .ref an, .ref ln]))] s.heap.size = A at hD hE0 hX0 ⊢
  have hA : ∀ q : Nat, s.heap.size ≤ q → A q := fun q h => by rw [← hAe]; exact Or.inr h
  have hS : va_S A s.heap s.heap [] := va_S.rf
  have hl := lv_entry ([.ref o, .int n, .int q, .ref ou]) (n := 5) (Nat.le_of_ble_eq_true rfl)
  rw [lg_entry_eq]
  generalize (lg_sl ([.ref o, .int n, .int q, .ref ou]) ++ List.replicate (5 - (lg_sl ([.ref o, .int n, .int q, .ref ou])).length) Slot.unset).toArray = ls at hl ⊢
  have hl : lv_has ls 5 [(0, .ref o), (1, .int n), (2, .int q), (3, .ref ou)] := hl
  refine lv_aload_n hx hb dL_kindAt_0 rfl (lv_at hl 3 rfl) ?_
  refine lv_iconst (v := 0) hx hb dL_kindAt_1 (by decide) ?_
  refine lv_aload_n hx hb dL_kindAt_2 rfl (lv_at hl 0 rfl) ?_
  refine lv_iload_n hx hb dL_kindAt_3 rfl (lv_at hl 1 rfl) ?_
  refine lv_iload_n hx hb dL_kindAt_4 rfl (lv_at hl 2 rfl) ?_
  have hPc := hP.sub (ws' := [(o, .inr (5, [.ref F, .ref G, .int lo, .int nw, .int se, .ref (pa 0), .ref an, .ref ln]))]) [0] rfl
  have hDc := hD.sub (ws' := [(o, .inr (5, [.ref F, .ref G, .int lo, .int nw, .int se, .ref (pa 0), .ref an, .ref ln]))]) [0] (by decide) rfl
  have hFc := va_free (wc := [(o, .inr (5, [.ref F, .ref G, .int lo, .int nw, .int se, .ref (pa 0), .ref an, .ref ln]))]) hD hS hA [0] rfl
  refine vx_calli (vx_runV (As := [.int n, .int q]) (rest := [.int 0, .ref ou]) ⟨hx, hb, hml, hown, hts⟩ (c_X3_kindAt_b l D cA zv s.heap.size hl0 o F G lo nw se pa an ln n q (by assumption)) (cwV 2 hts gL_kindAt_X3_kindAt rfl rfl rfl (by decide +kernel) ⟨Nat.le_of_ble_eq_true rfl, Nat.le_of_ble_eq_true rfl⟩) ⟨zUX_blind, va_recv hK hPc (ci := 5) (q0 := 0) rfl rfl, fun U hU hW => ⟨rfl, zUX_call hE0 hX0 hS hFc hU hPc hW hK hDc⟩⟩ rfl rfl hl.1 rfl (lv_room (Nat.le_of_ble_eq_true rfl)) dL_kindAt_5 ⟨Nat.le_of_ble_eq_true rfl, Nat.le_of_ble_eq_true rfl⟩) hS (fun q _ h => hFc q h) hFc (fun q _ h => hFc q h) (fun E9 ce9 q9 u t H1 locs ht hvm hpx hB hz1 hk1 hS hcell hcv hcl => ?_) (fun zr u t H1 locs1 ht hvm hw _ _ _ _ => hw.elim)
  obtain ⟨rfl, hP1, hD1⟩ := hB
  rw [ht] at hP1
  obtain ⟨hP, hD⟩ := va_join (wr := []) (w1 := [(o, .inr (5, [.ref F, .ref G, .int lo, .int nw, .int se, .ref (pa 0), .ref an, .ref ln]))]) hP hD [0] [] rfl rfl (by decide) (by decide) hk1 hFc hP1 hD1
  have hP := hP.sub (ws' := [(o, .inr (5, [.ref F, .ref G, .int lo, .int nw, .int se, .ref (pa 0), .ref an, .ref ln]))]) [0] rfl
  have hD := hD.sub (ws' := [(o, .inr (5, [.ref F, .ref G, .int lo, .int nw, .int se, .ref (pa 0), .ref an, .ref ln]))]) [0] (by decide) rfl
  refine vx_catch hown [] ⟨0, 10, 13, 13⟩ [⟨0, 10, 17, 37⟩] htab (fun z hz => absurd hz List.not_mem_nil) (by decide) (by decide) (hts (.classLink RL 13 "java/lang/IllegalArgumentException") (List.mem_of_getElem? (i := 1) rfl)) (va_Nw.use rfl (hX0.1.1 "java/lang/IllegalArgumentException" (by decide))) hcell hcv hcl ?_
  refine W.eq (g2 := F0 m 13 ls [.ref q9]) rfl ?_
  clear hcell
  generalize H1 = H at hP hS ⊢
  refine W.widen (k := 1) (n := 6) (by omega) (by omega) ?_
  refine lv_astore (lv' := [(4, .ref q9), (0, .ref o), (1, .int n), (2, .int q), (3, .ref ou)]) hx hb dL_kindAt_13 hl (by decide) rfl (fun ls hl => ?_)
  refine lv_iconst (v := 1) hx hb dL_kindAt_15 (by decide) ?_
  refine W.widen (k := 1) (n := 6) (by omega) (by omega) ?_
  exact W.iret (v := 1) hx hb hr (fun t ht hW => ⟨⟨1, (), rfl, rfl, ⟨by rw [ht]; exact hP, by rw [hAe]; exact hD⟩⟩, hS.F ht⟩) hS.2.2 dL_kindAt_16
set_option maxHeartbeats 4000000 in
set_option maxRecDepth 100000 in
theorem c_L_lineLength_k (l : Launch) (D : va_G) (cA : Nat → ClassId) (zv : Nat → Nat) (sz : Nat) (o F G : Nat) (lo nw se : Int32) (pa : Nat → Nat) (an ln : Nat) (x : Nat → Nat) (y0 : Nat) (n : Int32) (xv : Nat → Int32) (k vb nb ct : Nat) (ml : Int32) (f g : Nat → Int32) (ou : Nat) (ov : Nat → Int64) (he : en n F G (x 0) y0) (hk : k < 8) (hk0 : xv 0 = nI k) (hok : ∀ j, j < 4 → okv (f j)) (hn : nb = 16 ∨ nb = 34) (hct : ct ≤ nb) (hfb : bfit nb g) : Met l yL_lineLength wsL_lineLength ({ frames := 8, cells := 13, slots := 442, locals := 191 }) (va_Pc [.ref o, .int n, .ref ou] (zUX D cA zv sz [(o, .inr (5, [.ref F, .ref G, .int lo, .int nw, .int se, .ref (pa 0), .ref an, .ref ln])), cE x xv, (x 7, .inl (cA 0, 4, .inl f)), (ln, .inr (1, [.ref vb, .int 0, .int ml, .int (nI ct)])), (vb, .inl (cA 2, nb, .inl g)), (ou, .inl (cA 3, 1, .inr (.inl ov)))])) (va_Qi (fun (r : Int32) (u : (Nat × Int32 × Nat × (Nat → Int32))) => apd u.2.2.1 u.2.2.2 g 0 (lnT k f 4) ∧ r = 0) (fun (u : (Nat × Int32 × Nat × (Nat → Int32))) t => zB D [(o, .inr (5, [.ref F, .ref G, .int lo, .int nw, .int se, .ref (pa 0), .ref an, .ref ln])), cE x xv, (x 7, .inl (cA 0, 4, .inl f)), (ln, .inr (1, [.ref vb, .int 0, .int ml, .int (nI ct)])), (vb, .inl (cA 2, nb, .inl g)), (ou, .inl (cA 3, 1, .inr (.inl ov)))] sz [(o, .inr (5, [.ref F, .ref G, .int lo, .int nw, .int se, .ref (pa 0), .ref an, .ref ln])), cE x xv, (x 7, .inl (cA 0, 4, .inl f)), (ln, .inr (1, [.ref u.1, .int 0, .int u.2.1, .int (nI ((lnT k f 4).length))])), (u.1, .inl (cA 2, u.2.2.1, .inl u.2.2.2)), (ou, .inl (cA 3, 1, .inr (.inl (vp_updL ov 0 (nI (lnT k f 4).length).toInt64))))] t) (va_A [(o, .inr (5, [.ref F, .ref G, .int lo, .int nw, .int se, .ref (pa 0), .ref an, .ref ln])), cE x xv, (x 7, .inl (cA 0, 4, .inl f)), (ln, .inr (1, [.ref vb, .int 0, .int ml, .int (nI ct)])), (vb, .inl (cA 2, nb, .inl g)), (ou, .inl (cA 3, 1, .inr (.inl ov)))] sz)) 13 442 (va_A [(o, .inr (5, [.ref F, .ref G, .int lo, .int nw, .int se, .ref (pa 0), .ref an, .ref ln])), cE x xv, (x 7, .inl (cA 0, 4, .inl f)), (ln, .inr (1, [.ref vb, .int 0, .int ml, .int (nI ct)])), (vb, .inl (cA 2, nb, .inl g)), (ou, .inl (cA 3, 1, .inr (.inl ov)))] sz) := by
  refine z_ofWH (cc := cL_lineLength) (maxL := 4) (ret := (some .int)) (hh := [(0, 9, 12, 13)]) (by decide) rfl ?_
  intro p e s m args below meth c s₁ B hml htab hv
  obtain ⟨rfl, ⟨hsz, hP, hK, hD0, hE0⟩, hX0⟩ := hv
  have hx := B.exec
  have hb := B.bytes
  have hr := B.returns
  have hts := atoms_spec (ws := wsL_lineLength) B.pre
  have hown : s.vm.findClass RL = some m.cls := findClass_of_methodNamed B.named
  have hlocks := B.notSynchronized
  subst hsz
  have hD := hD0.self (sz := s.heap.size)
  generalize hAe : va_A [(o, .inr (5, [.ref F, .ref G, .int lo, .int nw, .int se, .ref (pa 0), .ref an, .ref ln])), cE x xv, (x 7, .inl (cA 0, 4, .inl f)), (ln, .inr (1, [.ref vb, .int 0, .int ml, .int (nI ct)])), (vb, .inl (cA 2, nb, .inl g)), (ou, .inl (cA 3, 1, .inr (.inl ov)))] s.heap.size = A at hD hE0 hX0 ⊢
  have hA : ∀ q : Nat, s.heap.size ≤ q → A q := fun q h => by rw [← hAe]; exact Or.inr h
  have hS : va_S A s.heap s.heap [] := va_S.rf
  have hl := lv_entry ([.ref o, .int n, .ref ou]) (n := 4) (Nat.le_of_ble_eq_true rfl)
  rw [lg_entry_eq]
  generalize (lg_sl ([.ref o, .int n, .ref ou]) ++ List.replicate (4 - (lg_sl ([.ref o, .int n, .ref ou])).length) Slot.unset).toArray = ls at hl ⊢
  have hl : lv_has ls 4 [(0, .ref o), (1, .int n), (2, .ref ou)] := hl
  refine lv_aload_n hx hb dL_lineLength_0 rfl (lv_at hl 2 rfl) ?_
  refine lv_iconst (v := 0) hx hb dL_lineLength_1 (by decide) ?_
  refine lv_aload_n hx hb dL_lineLength_2 rfl (lv_at hl 0 rfl) ?_
  refine lv_iload_n hx hb dL_lineLength_3 rfl (lv_at hl 1 rfl) ?_
  have hPc := hP.sub (ws' := [(o, .inr (5, [.ref F, .ref G, .int lo, .int nw, .int se, .ref (pa 0), .ref an, .ref ln])), cE x xv, (x 7, .inl (cA 0, 4, .inl f)), (ln, .inr (1, [.ref vb, .int 0, .int ml, .int (nI ct)])), (vb, .inl (cA 2, nb, .inl g))]) [0, 1, 2, 3, 4] rfl
  have hDc := hD.sub (ws' := [(o, .inr (5, [.ref F, .ref G, .int lo, .int nw, .int se, .ref (pa 0), .ref an, .ref ln])), cE x xv, (x 7, .inl (cA 0, 4, .inl f)), (ln, .inr (1, [.ref vb, .int 0, .int ml, .int (nI ct)])), (vb, .inl (cA 2, nb, .inl g))]) [0, 1, 2, 3, 4] (by decide) rfl
  have hFc := va_free (wc := [(o, .inr (5, [.ref F, .ref G, .int lo, .int nw, .int se, .ref (pa 0), .ref an, .ref ln])), cE x xv, (x 7, .inl (cA 0, 4, .inl f)), (ln, .inr (1, [.ref vb, .int 0, .int ml, .int (nI ct)])), (vb, .inl (cA 2, nb, .inl g))]) hD hS hA [0, 1, 2, 3, 4] rfl
  refine va_calli (va_runV (As := [.int n]) (rest := [.int 0, .ref ou]) ⟨hx, hb, hml, hown, hts⟩ (c_X3_lineLength_k l D cA zv s.heap.size o F G lo nw se pa an ln x y0 n xv k vb nb ct ml f g (by assumption) (by assumption) (by assumption) (by assumption) (by assumption) (by assumption) (by assumption)) (cwV 1 hts gL_lineLength_X3_lineLength rfl rfl rfl (by decide +kernel) ⟨Nat.le_of_ble_eq_true rfl, Nat.le_of_ble_eq_true rfl⟩) ⟨zUX_blind, va_recv hK hPc (ci := 5) (q0 := 0) rfl rfl, fun U hU hW => ⟨rfl, zUX_call hE0 hX0 hS hFc hU hPc hW hK hDc⟩⟩ rfl rfl hl.1 rfl (lv_room (Nat.le_of_ble_eq_true rfl)) dL_lineLength_4 ⟨Nat.le_of_ble_eq_true rfl, Nat.le_of_ble_eq_true rfl⟩) hS (fun q _ h => hFc q h) hFc (fun zr u t H1 locs ht hvm hw hB hz1 hk1 hS => ?_)
  obtain ⟨vb'_1, ml'_1, nb'_1, g'_1⟩ := u
  obtain ⟨hP1, hD1⟩ := hB
  rw [ht] at hP1
  try dsimp only at hw hP1 hD1
  obtain ⟨hP, hD⟩ := va_join (wr := [(ou, .inl (cA 3, 1, .inr (.inl ov)))]) (w1 := [(o, .inr (5, [.ref F, .ref G, .int lo, .int nw, .int se, .ref (pa 0), .ref an, .ref ln])), cE x xv, (x 7, .inl (cA 0, 4, .inl f)), (ln, .inr (1, [.ref vb'_1, .int 0, .int ml'_1, .int (nI ((lnT k f 4).length))])), (vb'_1, .inl (cA 2, nb'_1, .inl g'_1))]) hP hD [0, 1, 2, 3, 4] [5] rfl rfl (by decide) (by decide) hk1 hFc hP1 hD1
  generalize H1 = H at hP hS ⊢
  have hP := hP.sub (ws' := [(o, .inr (5, [.ref F, .ref G, .int lo, .int nw, .int se, .ref (pa 0), .ref an, .ref ln])), cE x xv, (x 7, .inl (cA 0, 4, .inl f)), (ln, .inr (1, [.ref vb'_1, .int 0, .int ml'_1, .int (nI ((lnT k f 4).length))])), (ou, .inl (cA 3, 1, .inr (.inl ov))), (vb'_1, .inl (cA 2, nb'_1, .inl g'_1))]) [1, 2, 3, 4, 0, 5] rfl
  have hD := hD.sub (ws' := [(o, .inr (5, [.ref F, .ref G, .int lo, .int nw, .int se, .ref (pa 0), .ref an, .ref ln])), cE x xv, (x 7, .inl (cA 0, 4, .inl f)), (ln, .inr (1, [.ref vb'_1, .int 0, .int ml'_1, .int (nI ((lnT k f 4).length))])), (ou, .inl (cA 3, 1, .inr (.inl ov))), (vb'_1, .inl (cA 2, nb'_1, .inl g'_1))]) [1, 2, 3, 4, 0, 5] (by decide) rfl
  clear hPc hDc hFc hP1 hD1 hk1 hz1
  refine W.widen (k := 13) (n := 442) (by omega) (by omega) ?_
  obtain ⟨hw_1_0, hw_1_1⟩ := hw
  obtain rfl := hw_1_1
  refine lv_i2l (v := (nI ((lnT k f 4).length)).toInt64) hx hb dL_lineLength_7 rfl ?_
  refine z_last (k := 0) hx hb hK hP hD hS 4 3 rfl rfl rfl (by omega) (by decide) dL_lineLength_8 (fun H locs hP hD hS => ?_)
  have hP : va_P D vwCl [(o, .inr (5, [.ref F, .ref G, .int lo, .int nw, .int se, .ref (pa 0), .ref an, .ref ln])), cE x xv, (x 7, .inl (cA 0, 4, .inl f)), (ln, .inr (1, [.ref vb'_1, .int 0, .int ml'_1, .int (nI ((lnT k f 4).length))])), (ou, .inl (cA 3, 1, .inr (.inl (vp_updL ov 0 ((nI ((lnT k f 4).length)).toInt64))))), (vb'_1, .inl (cA 2, nb'_1, .inl g'_1))] H := hP
  have hD : va_D A [(o, .inr (5, [.ref F, .ref G, .int lo, .int nw, .int se, .ref (pa 0), .ref an, .ref ln])), cE x xv, (x 7, .inl (cA 0, 4, .inl f)), (ln, .inr (1, [.ref vb'_1, .int 0, .int ml'_1, .int (nI ((lnT k f 4).length))])), (ou, .inl (cA 3, 1, .inr (.inl (vp_updL ov 0 ((nI ((lnT k f 4).length)).toInt64))))), (vb'_1, .inl (cA 2, nb'_1, .inl g'_1))] := hD
  refine lv_goto (tgt := 15) hx hb dL_lineLength_9 (by decide) ?_
  refine lv_iconst (v := 0) hx hb dL_lineLength_15 (by decide) ?_
  have hP := hP.sub (ws' := [(o, .inr (5, [.ref F, .ref G, .int lo, .int nw, .int se, .ref (pa 0), .ref an, .ref ln])), cE x xv, (x 7, .inl (cA 0, 4, .inl f)), (ln, .inr (1, [.ref vb'_1, .int 0, .int ml'_1, .int (nI ((lnT k f 4).length))])), (vb'_1, .inl (cA 2, nb'_1, .inl g'_1)), (ou, .inl (cA 3, 1, .inr (.inl (vp_updL ov 0 ((nI ((lnT k f 4).length)).toInt64)))))]) [0, 1, 2, 3, 5, 4] rfl
  have hD := hD.sub (ws' := [(o, .inr (5, [.ref F, .ref G, .int lo, .int nw, .int se, .ref (pa 0), .ref an, .ref ln])), cE x xv, (x 7, .inl (cA 0, 4, .inl f)), (ln, .inr (1, [.ref vb'_1, .int 0, .int ml'_1, .int (nI ((lnT k f 4).length))])), (vb'_1, .inl (cA 2, nb'_1, .inl g'_1)), (ou, .inl (cA 3, 1, .inr (.inl (vp_updL ov 0 ((nI ((lnT k f 4).length)).toInt64)))))]) [0, 1, 2, 3, 5, 4] (by decide) rfl
  refine W.widen (k := 13) (n := 442) (by omega) (by omega) ?_
  exact W.iret (v := 0) hx hb hr (fun t ht hW => ⟨⟨0, (vb'_1, ml'_1, nb'_1, g'_1), rfl, ⟨by assumption, rfl⟩, ⟨by rw [ht]; exact hP, by rw [hAe]; exact hD⟩⟩, hS.F ht⟩) hS.2.2 dL_lineLength_16
set_option maxHeartbeats 4000000 in
set_option maxRecDepth 100000 in
theorem c_L_lineLength_b (l : Launch) (D : va_G) (cA : Nat → ClassId) (zv : Nat → Nat) (sz : Nat) (o F G : Nat) (lo nw se : Int32) (pa : Nat → Nat) (an ln : Nat) (n  : Int32) (ou : Nat) (hl0 : l.stackTraces = false) (hbad : ¬ inr n 0 1) : Met l yL_lineLength wsL_lineLength ({ frames := 10, cells := 1, slots := 6, locals := 141 }) (va_Pc [.ref o, .int n, .ref ou] (zUX D cA zv sz [(o, .inr (5, [.ref F, .ref G, .int lo, .int nw, .int se, .ref (pa 0), .ref an, .ref ln]))])) (va_Qi (fun (r : Int32) (_ : Unit) => r = 1) (fun (_ : Unit) t => zB D [(o, .inr (5, [.ref F, .ref G, .int lo, .int nw, .int se, .ref (pa 0), .ref an, .ref ln]))] sz [(o, .inr (5, [.ref F, .ref G, .int lo, .int nw, .int se, .ref (pa 0), .ref an, .ref ln]))] t) (va_A [(o, .inr (5, [.ref F, .ref G, .int lo, .int nw, .int se, .ref (pa 0), .ref an, .ref ln]))] sz)) 1 6 (va_A [(o, .inr (5, [.ref F, .ref G, .int lo, .int nw, .int se, .ref (pa 0), .ref an, .ref ln]))] sz) := by
  refine z_ofWH (cc := cL_lineLength) (maxL := 4) (ret := (some .int)) (hh := [(0, 9, 12, 13)]) (by decide) rfl ?_
  intro p e s m args below meth c s₁ B hml htab hv
  obtain ⟨rfl, ⟨hsz, hP, hK, hD0, hE0⟩, hX0⟩ := hv
  have hx := B.exec
  have hb := B.bytes
  have hr := B.returns
  have hts := atoms_spec (ws := wsL_lineLength) B.pre
  have hown : s.vm.findClass RL = some m.cls := findClass_of_methodNamed B.named
  have hlocks := B.notSynchronized
  subst hsz
  have hD := hD0.self (sz := s.heap.size)
  generalize hAe : va_A [(o, .inr (5, [.ref F, .ref G, .int lo, .int nw, .int se, .ref (pa 0), .ref an, .ref ln]))] s.heap.size = A at hD hE0 hX0 ⊢
  have hA : ∀ q : Nat, s.heap.size ≤ q → A q := fun q h => by rw [← hAe]; exact Or.inr h
  have hS : va_S A s.heap s.heap [] := va_S.rf
  have hl := lv_entry ([.ref o, .int n, .ref ou]) (n := 4) (Nat.le_of_ble_eq_true rfl)
  rw [lg_entry_eq]
  generalize (lg_sl ([.ref o, .int n, .ref ou]) ++ List.replicate (4 - (lg_sl ([.ref o, .int n, .ref ou])).length) Slot.unset).toArray = ls at hl ⊢
  have hl : lv_has ls 4 [(0, .ref o), (1, .int n), (2, .ref ou)] := hl
  refine lv_aload_n hx hb dL_lineLength_0 rfl (lv_at hl 2 rfl) ?_
  refine lv_iconst (v := 0) hx hb dL_lineLength_1 (by decide) ?_
  refine lv_aload_n hx hb dL_lineLength_2 rfl (lv_at hl 0 rfl) ?_
  refine lv_iload_n hx hb dL_lineLength_3 rfl (lv_at hl 1 rfl) ?_
  have hPc := hP.sub (ws' := [(o, .inr (5, [.ref F, .ref G, .int lo, .int nw, .int se, .ref (pa 0), .ref an, .ref ln]))]) [0] rfl
  have hDc := hD.sub (ws' := [(o, .inr (5, [.ref F, .ref G, .int lo, .int nw, .int se, .ref (pa 0), .ref an, .ref ln]))]) [0] (by decide) rfl
  have hFc := va_free (wc := [(o, .inr (5, [.ref F, .ref G, .int lo, .int nw, .int se, .ref (pa 0), .ref an, .ref ln]))]) hD hS hA [0] rfl
  refine vx_calli (vx_runV (As := [.int n]) (rest := [.int 0, .ref ou]) ⟨hx, hb, hml, hown, hts⟩ (c_X3_lineLength_b l D cA zv s.heap.size hl0 o F G lo nw se pa an ln n (by assumption)) (cwV 1 hts gL_lineLength_X3_lineLength rfl rfl rfl (by decide +kernel) ⟨Nat.le_of_ble_eq_true rfl, Nat.le_of_ble_eq_true rfl⟩) ⟨zUX_blind, va_recv hK hPc (ci := 5) (q0 := 0) rfl rfl, fun U hU hW => ⟨rfl, zUX_call hE0 hX0 hS hFc hU hPc hW hK hDc⟩⟩ rfl rfl hl.1 rfl (lv_room (Nat.le_of_ble_eq_true rfl)) dL_lineLength_4 ⟨Nat.le_of_ble_eq_true rfl, Nat.le_of_ble_eq_true rfl⟩) hS (fun q _ h => hFc q h) hFc (fun q _ h => hFc q h) (fun E9 ce9 q9 u t H1 locs ht hvm hpx hB hz1 hk1 hS hcell hcv hcl => ?_) (fun zr u t H1 locs1 ht hvm hw _ _ _ _ => hw.elim)
  obtain ⟨rfl, hP1, hD1⟩ := hB
  rw [ht] at hP1
  obtain ⟨hP, hD⟩ := va_join (wr := []) (w1 := [(o, .inr (5, [.ref F, .ref G, .int lo, .int nw, .int se, .ref (pa 0), .ref an, .ref ln]))]) hP hD [0] [] rfl rfl (by decide) (by decide) hk1 hFc hP1 hD1
  have hP := hP.sub (ws' := [(o, .inr (5, [.ref F, .ref G, .int lo, .int nw, .int se, .ref (pa 0), .ref an, .ref ln]))]) [0] rfl
  have hD := hD.sub (ws' := [(o, .inr (5, [.ref F, .ref G, .int lo, .int nw, .int se, .ref (pa 0), .ref an, .ref ln]))]) [0] (by decide) rfl
  refine vx_catch hown [] ⟨0, 9, 12, 13⟩ [] htab (fun z hz => absurd hz List.not_mem_nil) (by decide) (by decide) (hts (.classLink RL 13 "java/lang/IllegalArgumentException") (List.mem_of_getElem? (i := 1) rfl)) (va_Nw.use rfl (hX0.1.1 "java/lang/IllegalArgumentException" (by decide))) hcell hcv hcl ?_
  refine W.eq (g2 := F0 m 12 ls [.ref q9]) rfl ?_
  clear hcell
  generalize H1 = H at hP hS ⊢
  refine W.widen (k := 1) (n := 6) (by omega) (by omega) ?_
  refine lv_astore_n (lv' := [(3, .ref q9), (0, .ref o), (1, .int n), (2, .ref ou)]) hx hb dL_lineLength_12 rfl hl (by decide) rfl (fun ls hl => ?_)
  refine lv_iconst (v := 1) hx hb dL_lineLength_13 (by decide) ?_
  refine W.widen (k := 1) (n := 6) (by omega) (by omega) ?_
  exact W.iret (v := 1) hx hb hr (fun t ht hW => ⟨⟨1, (), rfl, rfl, ⟨by rw [ht]; exact hP, by rw [hAe]; exact hD⟩⟩, hS.F ht⟩) hS.2.2 dL_lineLength_14
set_option maxHeartbeats 4000000 in
set_option maxRecDepth 100000 in
theorem c_L_lineChar_k (l : Launch) (D : va_G) (cA : Nat → ClassId) (zv : Nat → Nat) (sz : Nat) (o F G : Nat) (lo nw se : Int32) (pa : Nat → Nat) (an ln : Nat) (x : Nat → Nat) (y0 : Nat) (n : Int32) (xv : Nat → Int32) (k vb nb ct : Nat) (ml : Int32) (f g : Nat → Int32) (i : Nat) (ou : Nat) (ov : Nat → Int64) (he : en n F G (x 0) y0) (hk : k < 8) (hk0 : xv 0 = nI k) (hok : ∀ j, j < 4 → okv (f j)) (hn : nb = 16 ∨ nb = 34) (hct : ct ≤ nb) (hfb : bfit nb g) (hi : i < (lnT k f 4).length) : Met l yL_lineChar wsL_lineChar ({ frames := 8, cells := 13, slots := 442, locals := 192 }) (va_Pc [.ref o, .int n, .int (nI i), .ref ou] (zUX D cA zv sz [(o, .inr (5, [.ref F, .ref G, .int lo, .int nw, .int se, .ref (pa 0), .ref an, .ref ln])), cE x xv, (x 7, .inl (cA 0, 4, .inl f)), (ln, .inr (1, [.ref vb, .int 0, .int ml, .int (nI ct)])), (vb, .inl (cA 2, nb, .inl g)), (ou, .inl (cA 3, 1, .inr (.inl ov)))])) (va_Qi (fun (r : Int32) (u : (Nat × Int32 × Nat × (Nat → Int32))) => apd u.2.2.1 u.2.2.2 g 0 (lnT k f 4) ∧ r = 0) (fun (u : (Nat × Int32 × Nat × (Nat → Int32))) t => zB D [(o, .inr (5, [.ref F, .ref G, .int lo, .int nw, .int se, .ref (pa 0), .ref an, .ref ln])), cE x xv, (x 7, .inl (cA 0, 4, .inl f)), (ln, .inr (1, [.ref vb, .int 0, .int ml, .int (nI ct)])), (vb, .inl (cA 2, nb, .inl g)), (ou, .inl (cA 3, 1, .inr (.inl ov)))] sz [(o, .inr (5, [.ref F, .ref G, .int lo, .int nw, .int se, .ref (pa 0), .ref an, .ref ln])), cE x xv, (x 7, .inl (cA 0, 4, .inl f)), (ln, .inr (1, [.ref u.1, .int 0, .int u.2.1, .int (nI ((lnT k f 4).length))])), (u.1, .inl (cA 2, u.2.2.1, .inl u.2.2.2)), (ou, .inl (cA 3, 1, .inr (.inl (vp_updL ov 0 ((lnT k f 4).getD i 0).toInt64))))] t) (va_A [(o, .inr (5, [.ref F, .ref G, .int lo, .int nw, .int se, .ref (pa 0), .ref an, .ref ln])), cE x xv, (x 7, .inl (cA 0, 4, .inl f)), (ln, .inr (1, [.ref vb, .int 0, .int ml, .int (nI ct)])), (vb, .inl (cA 2, nb, .inl g)), (ou, .inl (cA 3, 1, .inr (.inl ov)))] sz)) 13 442 (va_A [(o, .inr (5, [.ref F, .ref G, .int lo, .int nw, .int se, .ref (pa 0), .ref an, .ref ln])), cE x xv, (x 7, .inl (cA 0, 4, .inl f)), (ln, .inr (1, [.ref vb, .int 0, .int ml, .int (nI ct)])), (vb, .inl (cA 2, nb, .inl g)), (ou, .inl (cA 3, 1, .inr (.inl ov)))] sz) := by
  refine z_ofWH (cc := cL_lineChar) (maxL := 5) (ret := (some .int)) (hh := [(0, 10, 13, 13), (0, 10, 17, 37)]) (by decide) rfl ?_
  intro p e s m args below meth c s₁ B hml htab hv
  obtain ⟨rfl, ⟨hsz, hP, hK, hD0, hE0⟩, hX0⟩ := hv
  have hx := B.exec
  have hb := B.bytes
  have hr := B.returns
  have hts := atoms_spec (ws := wsL_lineChar) B.pre
  have hown : s.vm.findClass RL = some m.cls := findClass_of_methodNamed B.named
  have hlocks := B.notSynchronized
  subst hsz
  have hD := hD0.self (sz := s.heap.size)
  generalize hAe : va_A [(o, .inr (5, [.ref F, .ref G, .int lo, .int nw, .int se, .ref (pa 0), .ref an, .ref ln])), cE x xv, (x 7, .inl (cA 0, 4, .inl f)), (ln, .inr (1, [.ref vb, .int 0, .int ml, .int (nI ct)])), (vb, .inl (cA 2, nb, .inl g)), (ou, .inl (cA 3, 1, .inr (.inl ov)))] s.heap.size = A at hD hE0 hX0 ⊢
  have hA : ∀ q : Nat, s.heap.size ≤ q → A q := fun q h => by rw [← hAe]; exact Or.inr h
  have hS : va_S A s.heap s.heap [] := va_S.rf
  have hl := lv_entry ([.ref o, .int n, .int (nI i), .ref ou]) (n := 5) (Nat.le_of_ble_eq_true rfl)
  rw [lg_entry_eq]
  generalize (lg_sl ([.ref o, .int n, .int (nI i), .ref ou]) ++ List.replicate (5 - (lg_sl ([.ref o, .int n, .int (nI i), .ref ou])).length) Slot.unset).toArray = ls at hl ⊢
  have hl : lv_has ls 5 [(0, .ref o), (1, .int n), (2, .int (nI i)), (3, .ref ou)] := hl
  refine lv_aload_n hx hb dL_lineChar_0 rfl (lv_at hl 3 rfl) ?_
  refine lv_iconst (v := 0) hx hb dL_lineChar_1 (by decide) ?_
  refine lv_aload_n hx hb dL_lineChar_2 rfl (lv_at hl 0 rfl) ?_
  refine lv_iload_n hx hb dL_lineChar_3 rfl (lv_at hl 1 rfl) ?_
  refine lv_iload_n hx hb dL_lineChar_4 rfl (lv_at hl 2 rfl) ?_
  have hPc := hP.sub (ws' := [(o, .inr (5, [.ref F, .ref G, .int lo, .int nw, .int se, .ref (pa 0), .ref an, .ref ln])), cE x xv, (x 7, .inl (cA 0, 4, .inl f)), (ln, .inr (1, [.ref vb, .int 0, .int ml, .int (nI ct)])), (vb, .inl (cA 2, nb, .inl g))]) [0, 1, 2, 3, 4] rfl
  have hDc := hD.sub (ws' := [(o, .inr (5, [.ref F, .ref G, .int lo, .int nw, .int se, .ref (pa 0), .ref an, .ref ln])), cE x xv, (x 7, .inl (cA 0, 4, .inl f)), (ln, .inr (1, [.ref vb, .int 0, .int ml, .int (nI ct)])), (vb, .inl (cA 2, nb, .inl g))]) [0, 1, 2, 3, 4] (by decide) rfl
  have hFc := va_free (wc := [(o, .inr (5, [.ref F, .ref G, .int lo, .int nw, .int se, .ref (pa 0), .ref an, .ref ln])), cE x xv, (x 7, .inl (cA 0, 4, .inl f)), (ln, .inr (1, [.ref vb, .int 0, .int ml, .int (nI ct)])), (vb, .inl (cA 2, nb, .inl g))]) hD hS hA [0, 1, 2, 3, 4] rfl
  refine va_calli (va_runV (As := [.int n, .int (nI i)]) (rest := [.int 0, .ref ou]) ⟨hx, hb, hml, hown, hts⟩ (c_X3_lineChar_k l D cA zv s.heap.size o F G lo nw se pa an ln x y0 n xv k vb nb ct ml f g i (by assumption) (by assumption) (by assumption) (by assumption) (by assumption) (by assumption) (by assumption) (by assumption)) (cwV 2 hts gL_lineChar_X3_lineChar rfl rfl rfl (by decide +kernel) ⟨Nat.le_of_ble_eq_true rfl, Nat.le_of_ble_eq_true rfl⟩) ⟨zUX_blind, va_recv hK hPc (ci := 5) (q0 := 0) rfl rfl, fun U hU hW => ⟨rfl, zUX_call hE0 hX0 hS hFc hU hPc hW hK hDc⟩⟩ rfl rfl hl.1 rfl (lv_room (Nat.le_of_ble_eq_true rfl)) dL_lineChar_5 ⟨Nat.le_of_ble_eq_true rfl, Nat.le_of_ble_eq_true rfl⟩) hS (fun q _ h => hFc q h) hFc (fun zr u t H1 locs ht hvm hw hB hz1 hk1 hS => ?_)
  obtain ⟨vb'_1, ml'_1, nb'_1, g'_1⟩ := u
  obtain ⟨hP1, hD1⟩ := hB
  rw [ht] at hP1
  try dsimp only at hw hP1 hD1
  obtain ⟨hP, hD⟩ := va_join (wr := [(ou, .inl (cA 3, 1, .inr (.inl ov)))]) (w1 := [(o, .inr (5, [.ref F, .ref G, .int lo, .int nw, .int se, .ref (pa 0), .ref an, .ref ln])), cE x xv, (x 7, .inl (cA 0, 4, .inl f)), (ln, .inr (1, [.ref vb'_1, .int 0, .int ml'_1, .int (nI ((lnT k f 4).length))])), (vb'_1, .inl (cA 2, nb'_1, .inl g'_1))]) hP hD [0, 1, 2, 3, 4] [5] rfl rfl (by decide) (by decide) hk1 hFc hP1 hD1
  generalize H1 = H at hP hS ⊢
  have hP := hP.sub (ws' := [(o, .inr (5, [.ref F, .ref G, .int lo, .int nw, .int se, .ref (pa 0), .ref an, .ref ln])), cE x xv, (x 7, .inl (cA 0, 4, .inl f)), (ln, .inr (1, [.ref vb'_1, .int 0, .int ml'_1, .int (nI ((lnT k f 4).length))])), (ou, .inl (cA 3, 1, .inr (.inl ov))), (vb'_1, .inl (cA 2, nb'_1, .inl g'_1))]) [1, 2, 3, 4, 0, 5] rfl
  have hD := hD.sub (ws' := [(o, .inr (5, [.ref F, .ref G, .int lo, .int nw, .int se, .ref (pa 0), .ref an, .ref ln])), cE x xv, (x 7, .inl (cA 0, 4, .inl f)), (ln, .inr (1, [.ref vb'_1, .int 0, .int ml'_1, .int (nI ((lnT k f 4).length))])), (ou, .inl (cA 3, 1, .inr (.inl ov))), (vb'_1, .inl (cA 2, nb'_1, .inl g'_1))]) [1, 2, 3, 4, 0, 5] (by decide) rfl
  clear hPc hDc hFc hP1 hD1 hk1 hz1
  refine W.widen (k := 13) (n := 442) (by omega) (by omega) ?_
  obtain ⟨hw_1_0, hw_1_1⟩ := hw
  obtain rfl := hw_1_1
  refine lv_i2l (v := ((lnT k f 4).getD i 0).toInt64) hx hb dL_lineChar_8 rfl ?_
  refine z_last (k := 0) hx hb hK hP hD hS 4 3 rfl rfl rfl (by omega) (by decide) dL_lineChar_9 (fun H locs hP hD hS => ?_)
  have hP : va_P D vwCl [(o, .inr (5, [.ref F, .ref G, .int lo, .int nw, .int se, .ref (pa 0), .ref an, .ref ln])), cE x xv, (x 7, .inl (cA 0, 4, .inl f)), (ln, .inr (1, [.ref vb'_1, .int 0, .int ml'_1, .int (nI ((lnT k f 4).length))])), (ou, .inl (cA 3, 1, .inr (.inl (vp_updL ov 0 (((lnT k f 4).getD i 0).toInt64))))), (vb'_1, .inl (cA 2, nb'_1, .inl g'_1))] H := hP
  have hD : va_D A [(o, .inr (5, [.ref F, .ref G, .int lo, .int nw, .int se, .ref (pa 0), .ref an, .ref ln])), cE x xv, (x 7, .inl (cA 0, 4, .inl f)), (ln, .inr (1, [.ref vb'_1, .int 0, .int ml'_1, .int (nI ((lnT k f 4).length))])), (ou, .inl (cA 3, 1, .inr (.inl (vp_updL ov 0 (((lnT k f 4).getD i 0).toInt64))))), (vb'_1, .inl (cA 2, nb'_1, .inl g'_1))] := hD
  refine lv_goto (tgt := 21) hx hb dL_lineChar_10 (by decide) ?_
  refine lv_iconst (v := 0) hx hb dL_lineChar_21 (by decide) ?_
  have hP := hP.sub (ws' := [(o, .inr (5, [.ref F, .ref G, .int lo, .int nw, .int se, .ref (pa 0), .ref an, .ref ln])), cE x xv, (x 7, .inl (cA 0, 4, .inl f)), (ln, .inr (1, [.ref vb'_1, .int 0, .int ml'_1, .int (nI ((lnT k f 4).length))])), (vb'_1, .inl (cA 2, nb'_1, .inl g'_1)), (ou, .inl (cA 3, 1, .inr (.inl (vp_updL ov 0 (((lnT k f 4).getD i 0).toInt64)))))]) [0, 1, 2, 3, 5, 4] rfl
  have hD := hD.sub (ws' := [(o, .inr (5, [.ref F, .ref G, .int lo, .int nw, .int se, .ref (pa 0), .ref an, .ref ln])), cE x xv, (x 7, .inl (cA 0, 4, .inl f)), (ln, .inr (1, [.ref vb'_1, .int 0, .int ml'_1, .int (nI ((lnT k f 4).length))])), (vb'_1, .inl (cA 2, nb'_1, .inl g'_1)), (ou, .inl (cA 3, 1, .inr (.inl (vp_updL ov 0 (((lnT k f 4).getD i 0).toInt64)))))]) [0, 1, 2, 3, 5, 4] (by decide) rfl
  refine W.widen (k := 13) (n := 442) (by omega) (by omega) ?_
  exact W.iret (v := 0) hx hb hr (fun t ht hW => ⟨⟨0, (vb'_1, ml'_1, nb'_1, g'_1), rfl, ⟨by assumption, rfl⟩, ⟨by rw [ht]; exact hP, by rw [hAe]; exact hD⟩⟩, hS.F ht⟩) hS.2.2 dL_lineChar_22
set_option maxHeartbeats 4000000 in
set_option maxRecDepth 100000 in
theorem c_L_lineChar_p (l : Launch) (D : va_G) (cA : Nat → ClassId) (zv : Nat → Nat) (sz : Nat) (o F G : Nat) (lo nw se : Int32) (pa : Nat → Nat) (an ln : Nat) (x : Nat → Nat) (y0 : Nat) (n : Int32) (xv : Nat → Int32) (k vb nb ct : Nat) (ml : Int32) (f g : Nat → Int32) (q : Int32) (ou : Nat) (hl0 : l.stackTraces = false) (he : en n F G (x 0) y0) (hk : k < 8) (hk0 : xv 0 = nI k) (hok : ∀ j, j < 4 → okv (f j)) (hn : nb = 16 ∨ nb = 34) (hct : ct ≤ nb) (hfb : bfit nb g) (hp : ¬ inr q 0 (nI (lnT k f 4).length - 1)) : Met l yL_lineChar wsL_lineChar ({ frames := 9, cells := 14, slots := 448, locals := 192 }) (va_Pc [.ref o, .int n, .int q, .ref ou] (zUX D cA zv sz [(o, .inr (5, [.ref F, .ref G, .int lo, .int nw, .int se, .ref (pa 0), .ref an, .ref ln])), cE x xv, (x 7, .inl (cA 0, 4, .inl f)), (ln, .inr (1, [.ref vb, .int 0, .int ml, .int (nI ct)])), (vb, .inl (cA 2, nb, .inl g))])) (va_Qi (fun (r : Int32) (u : (Nat × Int32 × Nat × (Nat → Int32))) => apd u.2.2.1 u.2.2.2 g 0 (lnT k f 4) ∧ r = 2) (fun (u : (Nat × Int32 × Nat × (Nat → Int32))) t => zB D [(o, .inr (5, [.ref F, .ref G, .int lo, .int nw, .int se, .ref (pa 0), .ref an, .ref ln])), cE x xv, (x 7, .inl (cA 0, 4, .inl f)), (ln, .inr (1, [.ref vb, .int 0, .int ml, .int (nI ct)])), (vb, .inl (cA 2, nb, .inl g))] sz [(o, .inr (5, [.ref F, .ref G, .int lo, .int nw, .int se, .ref (pa 0), .ref an, .ref ln])), cE x xv, (x 7, .inl (cA 0, 4, .inl f)), (ln, .inr (1, [.ref u.1, .int 0, .int u.2.1, .int (nI ((lnT k f 4).length))])), (u.1, .inl (cA 2, u.2.2.1, .inl u.2.2.2))] t) (va_A [(o, .inr (5, [.ref F, .ref G, .int lo, .int nw, .int se, .ref (pa 0), .ref an, .ref ln])), cE x xv, (x 7, .inl (cA 0, 4, .inl f)), (ln, .inr (1, [.ref vb, .int 0, .int ml, .int (nI ct)])), (vb, .inl (cA 2, nb, .inl g))] sz)) 14 448 (va_A [(o, .inr (5, [.ref F, .ref G, .int lo, .int nw, .int se, .ref (pa 0), .ref an, .ref ln])), cE x xv, (x 7, .inl (cA 0, 4, .inl f)), (ln, .inr (1, [.ref vb, .int 0, .int ml, .int (nI ct)])), (vb, .inl (cA 2, nb, .inl g))] sz) := by
  refine z_ofWH (cc := cL_lineChar) (maxL := 5) (ret := (some .int)) (hh := [(0, 10, 13, 13), (0, 10, 17, 37)]) (by decide) rfl ?_
  intro p e s m args below meth c s₁ B hml htab hv
  obtain ⟨rfl, ⟨hsz, hP, hK, hD0, hE0⟩, hX0⟩ := hv
  have hx := B.exec
  have hb := B.bytes
  have hr := B.returns
  have hts := atoms_spec (ws := wsL_lineChar) B.pre
  have hown : s.vm.findClass RL = some m.cls := findClass_of_methodNamed B.named
  have hlocks := B.notSynchronized
  subst hsz
  have hD := hD0.self (sz := s.heap.size)
  generalize hAe : va_A [(o, .inr (5, [.ref F, .ref G, .int lo, .int nw, .int se, .ref (pa 0), .ref an, .ref ln])), cE x xv, (x 7, .inl (cA 0, 4, .inl f)), (ln, .inr (1, [.ref vb, .int 0, .int ml, .int (nI ct)])), (vb, .inl (cA 2, nb, .inl g))] s.heap.size = A at hD hE0 hX0 ⊢
  have hA : ∀ q : Nat, s.heap.size ≤ q → A q := fun q h => by rw [← hAe]; exact Or.inr h
  have hS : va_S A s.heap s.heap [] := va_S.rf
  have hl := lv_entry ([.ref o, .int n, .int q, .ref ou]) (n := 5) (Nat.le_of_ble_eq_true rfl)
  rw [lg_entry_eq]
  generalize (lg_sl ([.ref o, .int n, .int q, .ref ou]) ++ List.replicate (5 - (lg_sl ([.ref o, .int n, .int q, .ref ou])).length) Slot.unset).toArray = ls at hl ⊢
  have hl : lv_has ls 5 [(0, .ref o), (1, .int n), (2, .int q), (3, .ref ou)] := hl
  refine lv_aload_n hx hb dL_lineChar_0 rfl (lv_at hl 3 rfl) ?_
  refine lv_iconst (v := 0) hx hb dL_lineChar_1 (by decide) ?_
  refine lv_aload_n hx hb dL_lineChar_2 rfl (lv_at hl 0 rfl) ?_
  refine lv_iload_n hx hb dL_lineChar_3 rfl (lv_at hl 1 rfl) ?_
  refine lv_iload_n hx hb dL_lineChar_4 rfl (lv_at hl 2 rfl) ?_
  have hPc := hP.sub (ws' := [(o, .inr (5, [.ref F, .ref G, .int lo, .int nw, .int se, .ref (pa 0), .ref an, .ref ln])), cE x xv, (x 7, .inl (cA 0, 4, .inl f)), (ln, .inr (1, [.ref vb, .int 0, .int ml, .int (nI ct)])), (vb, .inl (cA 2, nb, .inl g))]) [0, 1, 2, 3, 4] rfl
  have hDc := hD.sub (ws' := [(o, .inr (5, [.ref F, .ref G, .int lo, .int nw, .int se, .ref (pa 0), .ref an, .ref ln])), cE x xv, (x 7, .inl (cA 0, 4, .inl f)), (ln, .inr (1, [.ref vb, .int 0, .int ml, .int (nI ct)])), (vb, .inl (cA 2, nb, .inl g))]) [0, 1, 2, 3, 4] (by decide) rfl
  have hFc := va_free (wc := [(o, .inr (5, [.ref F, .ref G, .int lo, .int nw, .int se, .ref (pa 0), .ref an, .ref ln])), cE x xv, (x 7, .inl (cA 0, 4, .inl f)), (ln, .inr (1, [.ref vb, .int 0, .int ml, .int (nI ct)])), (vb, .inl (cA 2, nb, .inl g))]) hD hS hA [0, 1, 2, 3, 4] rfl
  refine vx_calli (vx_runV (As := [.int n, .int q]) (rest := [.int 0, .ref ou]) ⟨hx, hb, hml, hown, hts⟩ (c_X3_lineChar_p l D cA zv s.heap.size hl0 o F G lo nw se pa an ln x y0 n xv k vb nb ct ml f g q (by assumption) (by assumption) (by assumption) (by assumption) (by assumption) (by assumption) (by assumption) (by assumption)) (cwV 2 hts gL_lineChar_X3_lineChar rfl rfl rfl (by decide +kernel) ⟨Nat.le_of_ble_eq_true rfl, Nat.le_of_ble_eq_true rfl⟩) ⟨zUX_blind, va_recv hK hPc (ci := 5) (q0 := 0) rfl rfl, fun U hU hW => ⟨rfl, zUX_call hE0 hX0 hS hFc hU hPc hW hK hDc⟩⟩ rfl rfl hl.1 rfl (lv_room (Nat.le_of_ble_eq_true rfl)) dL_lineChar_5 ⟨Nat.le_of_ble_eq_true rfl, Nat.le_of_ble_eq_true rfl⟩) hS (fun q _ h => hFc q h) hFc (fun q _ h => hFc q h) (fun E9 ce9 q9 u t H1 locs ht hvm hpx hB hz1 hk1 hS hcell hcv hcl => ?_) (fun zr u t H1 locs1 ht hvm hw _ _ _ _ => hw.elim)
  obtain ⟨rfl, vb'_2, ml'_2, nb'_2, g'_2, hw_2_0, hP1, hD1⟩ := hB
  rw [ht] at hP1
  obtain ⟨hP, hD⟩ := va_join (wr := []) (w1 := [(o, .inr (5, [.ref F, .ref G, .int lo, .int nw, .int se, .ref (pa 0), .ref an, .ref ln])), cE x xv, (x 7, .inl (cA 0, 4, .inl f)), (ln, .inr (1, [.ref vb'_2, .int 0, .int ml'_2, .int (nI ((lnT k f 4).length))])), (vb'_2, .inl (cA 2, nb'_2, .inl g'_2))]) hP hD [0, 1, 2, 3, 4] [] rfl rfl (by decide) (by decide) hk1 hFc hP1 hD1
  have hP := hP.sub (ws' := [(o, .inr (5, [.ref F, .ref G, .int lo, .int nw, .int se, .ref (pa 0), .ref an, .ref ln])), cE x xv, (x 7, .inl (cA 0, 4, .inl f)), (ln, .inr (1, [.ref vb'_2, .int 0, .int ml'_2, .int (nI ((lnT k f 4).length))])), (vb'_2, .inl (cA 2, nb'_2, .inl g'_2))]) [0, 1, 2, 3, 4] rfl
  have hD := hD.sub (ws' := [(o, .inr (5, [.ref F, .ref G, .int lo, .int nw, .int se, .ref (pa 0), .ref an, .ref ln])), cE x xv, (x 7, .inl (cA 0, 4, .inl f)), (ln, .inr (1, [.ref vb'_2, .int 0, .int ml'_2, .int (nI ((lnT k f 4).length))])), (vb'_2, .inl (cA 2, nb'_2, .inl g'_2))]) [0, 1, 2, 3, 4] (by decide) rfl
  refine vx_catch hown [⟨0, 10, 13, 13⟩] ⟨0, 10, 17, 37⟩ [] htab (fun z hz => by obtain rfl := List.mem_singleton.mp hz; exact Or.inr ⟨by decide, _, (hts (.classLink RL 13 "java/lang/IllegalArgumentException") (List.mem_of_getElem? (i := 1) rfl)), hX0.2.2.2.2.2⟩) (by decide) (by decide) (hts (.classLink RL 37 "java/util/NoSuchElementException") (List.mem_of_getElem? (i := 2) rfl)) (va_Nw.use rfl (hX0.1.1 "java/util/NoSuchElementException" (by decide))) hcell hcv hcl ?_
  refine W.eq (g2 := F0 m 17 ls [.ref q9]) rfl ?_
  clear hcell
  generalize H1 = H at hP hS ⊢
  refine W.widen (k := 14) (n := 448) (by omega) (by omega) ?_
  refine lv_astore (lv' := [(4, .ref q9), (0, .ref o), (1, .int n), (2, .int q), (3, .ref ou)]) hx hb dL_lineChar_17 hl (by decide) rfl (fun ls hl => ?_)
  refine lv_iconst (v := 2) hx hb dL_lineChar_19 (by decide) ?_
  refine W.widen (k := 14) (n := 448) (by omega) (by omega) ?_
  exact W.iret (v := 2) hx hb hr (fun t ht hW => ⟨⟨2, (vb'_2, ml'_2, nb'_2, g'_2), rfl, ⟨by assumption, rfl⟩, ⟨by rw [ht]; exact hP, by rw [hAe]; exact hD⟩⟩, hS.F ht⟩) hS.2.2 dL_lineChar_20
set_option maxHeartbeats 4000000 in
set_option maxRecDepth 100000 in
theorem c_L_lineChar_b (l : Launch) (D : va_G) (cA : Nat → ClassId) (zv : Nat → Nat) (sz : Nat) (o F G : Nat) (lo nw se : Int32) (pa : Nat → Nat) (an ln : Nat) (n q : Int32) (ou : Nat) (hl0 : l.stackTraces = false) (hbad : ¬ inr n 0 1) : Met l yL_lineChar wsL_lineChar ({ frames := 10, cells := 1, slots := 6, locals := 142 }) (va_Pc [.ref o, .int n, .int q, .ref ou] (zUX D cA zv sz [(o, .inr (5, [.ref F, .ref G, .int lo, .int nw, .int se, .ref (pa 0), .ref an, .ref ln]))])) (va_Qi (fun (r : Int32) (_ : Unit) => r = 1) (fun (_ : Unit) t => zB D [(o, .inr (5, [.ref F, .ref G, .int lo, .int nw, .int se, .ref (pa 0), .ref an, .ref ln]))] sz [(o, .inr (5, [.ref F, .ref G, .int lo, .int nw, .int se, .ref (pa 0), .ref an, .ref ln]))] t) (va_A [(o, .inr (5, [.ref F, .ref G, .int lo, .int nw, .int se, .ref (pa 0), .ref an, .ref ln]))] sz)) 1 6 (va_A [(o, .inr (5, [.ref F, .ref G, .int lo, .int nw, .int se, .ref (pa 0), .ref an, .ref ln]))] sz) := by
  refine z_ofWH (cc := cL_lineChar) (maxL := 5) (ret := (some .int)) (hh := [(0, 10, 13, 13), (0, 10, 17, 37)]) (by decide) rfl ?_
  intro p e s m args below meth c s₁ B hml htab hv
  obtain ⟨rfl, ⟨hsz, hP, hK, hD0, hE0⟩, hX0⟩ := hv
  have hx := B.exec
  have hb := B.bytes
  have hr := B.returns
  have hts := atoms_spec (ws := wsL_lineChar) B.pre
  have hown : s.vm.findClass RL = some m.cls := findClass_of_methodNamed B.named
  have hlocks := B.notSynchronized
  subst hsz
  have hD := hD0.self (sz := s.heap.size)
  generalize hAe : va_A [(o, .inr (5, [.ref F, .ref G, .int lo, .int nw, .int se, .ref (pa 0), .ref an, .ref ln]))] s.heap.size = A at hD hE0 hX0 ⊢
  have hA : ∀ q : Nat, s.heap.size ≤ q → A q := fun q h => by rw [← hAe]; exact Or.inr h
  have hS : va_S A s.heap s.heap [] := va_S.rf
  have hl := lv_entry ([.ref o, .int n, .int q, .ref ou]) (n := 5) (Nat.le_of_ble_eq_true rfl)
  rw [lg_entry_eq]
  generalize (lg_sl ([.ref o, .int n, .int q, .ref ou]) ++ List.replicate (5 - (lg_sl ([.ref o, .int n, .int q, .ref ou])).length) Slot.unset).toArray = ls at hl ⊢
  have hl : lv_has ls 5 [(0, .ref o), (1, .int n), (2, .int q), (3, .ref ou)] := hl
  refine lv_aload_n hx hb dL_lineChar_0 rfl (lv_at hl 3 rfl) ?_
  refine lv_iconst (v := 0) hx hb dL_lineChar_1 (by decide) ?_
  refine lv_aload_n hx hb dL_lineChar_2 rfl (lv_at hl 0 rfl) ?_
  refine lv_iload_n hx hb dL_lineChar_3 rfl (lv_at hl 1 rfl) ?_
  refine lv_iload_n hx hb dL_lineChar_4 rfl (lv_at hl 2 rfl) ?_
  have hPc := hP.sub (ws' := [(o, .inr (5, [.ref F, .ref G, .int lo, .int nw, .int se, .ref (pa 0), .ref an, .ref ln]))]) [0] rfl
  have hDc := hD.sub (ws' := [(o, .inr (5, [.ref F, .ref G, .int lo, .int nw, .int se, .ref (pa 0), .ref an, .ref ln]))]) [0] (by decide) rfl
  have hFc := va_free (wc := [(o, .inr (5, [.ref F, .ref G, .int lo, .int nw, .int se, .ref (pa 0), .ref an, .ref ln]))]) hD hS hA [0] rfl
  refine vx_calli (vx_runV (As := [.int n, .int q]) (rest := [.int 0, .ref ou]) ⟨hx, hb, hml, hown, hts⟩ (c_X3_lineChar_b l D cA zv s.heap.size hl0 o F G lo nw se pa an ln n q (by assumption)) (cwV 2 hts gL_lineChar_X3_lineChar rfl rfl rfl (by decide +kernel) ⟨Nat.le_of_ble_eq_true rfl, Nat.le_of_ble_eq_true rfl⟩) ⟨zUX_blind, va_recv hK hPc (ci := 5) (q0 := 0) rfl rfl, fun U hU hW => ⟨rfl, zUX_call hE0 hX0 hS hFc hU hPc hW hK hDc⟩⟩ rfl rfl hl.1 rfl (lv_room (Nat.le_of_ble_eq_true rfl)) dL_lineChar_5 ⟨Nat.le_of_ble_eq_true rfl, Nat.le_of_ble_eq_true rfl⟩) hS (fun q _ h => hFc q h) hFc (fun q _ h => hFc q h) (fun E9 ce9 q9 u t H1 locs ht hvm hpx hB hz1 hk1 hS hcell hcv hcl => ?_) (fun zr u t H1 locs1 ht hvm hw _ _ _ _ => hw.elim)
  obtain ⟨rfl, hP1, hD1⟩ := hB
  rw [ht] at hP1
  obtain ⟨hP, hD⟩ := va_join (wr := []) (w1 := [(o, .inr (5, [.ref F, .ref G, .int lo, .int nw, .int se, .ref (pa 0), .ref an, .ref ln]))]) hP hD [0] [] rfl rfl (by decide) (by decide) hk1 hFc hP1 hD1
  have hP := hP.sub (ws' := [(o, .inr (5, [.ref F, .ref G, .int lo, .int nw, .int se, .ref (pa 0), .ref an, .ref ln]))]) [0] rfl
  have hD := hD.sub (ws' := [(o, .inr (5, [.ref F, .ref G, .int lo, .int nw, .int se, .ref (pa 0), .ref an, .ref ln]))]) [0] (by decide) rfl
  refine vx_catch hown [] ⟨0, 10, 13, 13⟩ [⟨0, 10, 17, 37⟩] htab (fun z hz => absurd hz List.not_mem_nil) (by decide) (by decide) (hts (.classLink RL 13 "java/lang/IllegalArgumentException") (List.mem_of_getElem? (i := 1) rfl)) (va_Nw.use rfl (hX0.1.1 "java/lang/IllegalArgumentException" (by decide))) hcell hcv hcl ?_
  refine W.eq (g2 := F0 m 13 ls [.ref q9]) rfl ?_
  clear hcell
  generalize H1 = H at hP hS ⊢
  refine W.widen (k := 1) (n := 6) (by omega) (by omega) ?_
  refine lv_astore (lv' := [(4, .ref q9), (0, .ref o), (1, .int n), (2, .int q), (3, .ref ou)]) hx hb dL_lineChar_13 hl (by decide) rfl (fun ls hl => ?_)
  refine lv_iconst (v := 1) hx hb dL_lineChar_15 (by decide) ?_
  refine W.widen (k := 1) (n := 6) (by omega) (by omega) ?_
  exact W.iret (v := 1) hx hb hr (fun t ht hW => ⟨⟨1, (), rfl, rfl, ⟨by rw [ht]; exact hP, by rw [hAe]; exact hD⟩⟩, hS.F ht⟩) hS.2.2 dL_lineChar_16
