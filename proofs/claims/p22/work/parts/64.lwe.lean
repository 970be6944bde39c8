set_option maxHeartbeats 4000000 in
set_option maxRecDepth 100000 in
/-- row(o, end, from) -/
theorem c_L_row (l : Launch) (D : va_G) (cA : Nat → ClassId) (sz : Nat) (o F G : Nat) (lo nw se : Int32) (pa : Nat → Nat) (an ln : Nat) (x : Nat → Nat) (y0 : Nat) (n : Int32) (xv : Nat → Int32) (xr : Nat → Nat → Int32) (xf : Nat) (QX : Qt) (fr : Nat) (he : en n F G (x 0) y0) (hqx : rg xr xf QX) (hfr : fr ≤ QX.1) : Met l yL_row wsL_row ({ frames := 3, cells := 0, slots := 0, locals := 65 }) (va_Pc [.ref o, .int n, .int (nI fr)] (zU D cA sz [(o, .inr (4, [.ref F, .ref G, .int lo, .int nw, .int se, .ref (pa 0), .ref an, .ref ln])), cE x xv, (x 9, .inr (3, [.ref (x 10), .ref (x 11), .ref (x 12), .ref (x 13), .int (nI xf), .int (nI QX.1)])), (x 10, .inl (cA 0, 12, .inl (xr 0))), (x 11, .inl (cA 0, 12, .inl (xr 1))), (x 12, .inl (cA 0, 12, .inl (xr 2))), (x 13, .inl (cA 0, 48, .inl (xr 3)))])) (va_Ql (fun (r : Int64) (_ : Unit) => r = rwL QX QX.1 (QX.1 - fr)) (fun (_ : Unit) t => zB D [(o, .inr (4, [.ref F, .ref G, .int lo, .int nw, .int se, .ref (pa 0), .ref an, .ref ln])), cE x xv, (x 9, .inr (3, [.ref (x 10), .ref (x 11), .ref (x 12), .ref (x 13), .int (nI xf), .int (nI QX.1)])), (x 10, .inl (cA 0, 12, .inl (xr 0))), (x 11, .inl (cA 0, 12, .inl (xr 1))), (x 12, .inl (cA 0, 12, .inl (xr 2))), (x 13, .inl (cA 0, 48, .inl (xr 3)))] sz [(o, .inr (4, [.ref F, .ref G, .int lo, .int nw, .int se, .ref (pa 0), .ref an, .ref ln])), cE x xv, (x 9, .inr (3, [.ref (x 10), .ref (x 11), .ref (x 12), .ref (x 13), .int (nI xf), .int (nI QX.1)])), (x 10, .inl (cA 0, 12, .inl (xr 0))), (x 11, .inl (cA 0, 12, .inl (xr 1))), (x 12, .inl (cA 0, 12, .inl (xr 2))), (x 13, .inl (cA 0, 48, .inl (xr 3)))] t) (va_A [(o, .inr (4, [.ref F, .ref G, .int lo, .int nw, .int se, .ref (pa 0), .ref an, .ref ln])), cE x xv, (x 9, .inr (3, [.ref (x 10), .ref (x 11), .ref (x 12), .ref (x 13), .int (nI xf), .int (nI QX.1)])), (x 10, .inl (cA 0, 12, .inl (xr 0))), (x 11, .inl (cA 0, 12, .inl (xr 1))), (x 12, .inl (cA 0, 12, .inl (xr 2))), (x 13, .inl (cA 0, 48, .inl (xr 3)))] sz)) 0 0 (va_A [(o, .inr (4, [.ref F, .ref G, .int lo, .int nw, .int se, .ref (pa 0), .ref an, .ref ln])), cE x xv, (x 9, .inr (3, [.ref (x 10), .ref (x 11), .ref (x 12), .ref (x 13), .int (nI xf), .int (nI QX.1)])), (x 10, .inl (cA 0, 12, .inl (xr 0))), (x 11, .inl (cA 0, 12, .inl (xr 1))), (x 12, .inl (cA 0, 12, .inl (xr 2))), (x 13, .inl (cA 0, 48, .inl (xr 3)))] sz) := by
  refine Met.ofW (cc := cL_row) (maxL := 6) (ret := (some .long)) (by decide) rfl ?_
  intro p e s m args below meth c s₁ B hml hv
  obtain ⟨rfl, hsz, hP, hK, hD0⟩ := hv
  have hx := B.exec
  have hb := B.bytes
  have hr := B.returns
  have hts := atoms_spec (ws := wsL_row) B.pre
  have hown : s.vm.findClass RL = some m.cls := findClass_of_methodNamed B.named
  have hlocks := B.notSynchronized
  subst hsz
  have hD := hD0.self (sz := s.heap.size)
  generalize hAe : va_A [(o, .inr (4, [.ref F, .ref G, .int lo, .int nw, .int se, .ref (pa 0), .ref an, .ref ln])), cE x xv, (x 9, .inr (3, [.ref (x 10), .ref (x 11), .ref (x 12), .ref (x 13), .int (nI xf), .int (nI QX.1)])), (x 10, .inl (cA 0, 12, .inl (xr 0))), (x 11, .inl (cA 0, 12, .inl (xr 1))), (x 12, .inl (cA 0, 12, .inl (xr 2))), (x 13, .inl (cA 0, 48, .inl (xr 3)))] s.heap.size = A at hD ⊢
  have hA : ∀ q : Nat, s.heap.size ≤ q → A q := fun q h => by rw [← hAe]; exact Or.inr h
  have hS : va_S A s.heap s.heap [] := va_S.rf
  have hl := lv_entry ([.ref o, .int n, .int (nI fr)]) (n := 6) (Nat.le_of_ble_eq_true rfl)
  rw [lg_entry_eq]
  generalize (lg_sl ([.ref o, .int n, .int (nI fr)]) ++ List.replicate (6 - (lg_sl ([.ref o, .int n, .int (nI fr)])).length) Slot.unset).toArray = ls at hl ⊢
  have hl : lv_has ls 6 [(0, .ref o), (1, .int n), (2, .int (nI fr))] := hl
  have hq12 := hqx.2.1
  refine lv_lconst (v := 0) hx hb dL_row_0 (by decide) ?_
  refine lv_lstore_n (lv' := [(3, .long 0), (0, .ref o), (1, .int n), (2, .int (nI fr))]) hx hb dL_row_1 rfl hl (by decide) rfl (fun ls hl => ?_)
  refine lv_aload_n hx hb dL_row_2 rfl (lv_at hl 1 rfl) ?_
  refine lv_iload_n hx hb dL_row_3 rfl (lv_at hl 2 rfl) ?_
  have hPc := hP.sub (ws' := [(o, .inr (4, [.ref F, .ref G, .int lo, .int nw, .int se, .ref (pa 0), .ref an, .ref ln])), cE x xv, (x 9, .inr (3, [.ref (x 10), .ref (x 11), .ref (x 12), .ref (x 13), .int (nI xf), .int (nI QX.1)]))]) [0, 1, 2] rfl
  have hDc := hD.sub (ws' := [(o, .inr (4, [.ref F, .ref G, .int lo, .int nw, .int se, .ref (pa 0), .ref an, .ref ln])), cE x xv, (x 9, .inr (3, [.ref (x 10), .ref (x 11), .ref (x 12), .ref (x 13), .int (nI xf), .int (nI QX.1)]))]) [0, 1, 2] (by decide) rfl
  have hFc := va_free (wc := [(o, .inr (4, [.ref F, .ref G, .int lo, .int nw, .int se, .ref (pa 0), .ref an, .ref ln])), cE x xv, (x 9, .inr (3, [.ref (x 10), .ref (x 11), .ref (x 12), .ref (x 13), .int (nI xf), .int (nI QX.1)]))]) hD hS hA [0, 1, 2] rfl
  refine va_calli (va_runV (As := [.int n]) (rest := []) ⟨hx, hb, hml, hown, hts⟩ (c_X3_waiting_k l D cA s.heap.size o F G lo nw se pa an ln x y0 n xv xf QX (by assumption)) (cwV 1 hts gL_row_X3_waiting rfl rfl rfl (by decide +kernel) ⟨Nat.le_of_ble_eq_true rfl, Nat.le_of_ble_eq_true rfl⟩) ⟨zU_blind, va_recv hK hPc (ci := 4) (q0 := 0) rfl rfl, fun U hU hW => ⟨rfl, zU_call hU hPc hW.alike hK hDc⟩⟩ rfl rfl hl.1 rfl (lv_room (Nat.le_of_ble_eq_true rfl)) dL_row_4 ⟨(Nat.zero_le _), (Nat.zero_le _)⟩) hS (fun q _ h => hFc q h) hFc (fun zr u t H1 locs ht hvm hw hB hz1 hk1 hS => ?_)
  obtain ⟨hP1, hD1⟩ := hB
  rw [ht] at hP1
  obtain ⟨hP, hD⟩ := va_join (wr := [(x 10, .inl (cA 0, 12, .inl (xr 0))), (x 11, .inl (cA 0, 12, .inl (xr 1))), (x 12, .inl (cA 0, 12, .inl (xr 2))), (x 13, .inl (cA 0, 48, .inl (xr 3)))]) (w1 := [(o, .inr (4, [.ref F, .ref G, .int lo, .int nw, .int se, .ref (pa 0), .ref an, .ref ln])), cE x xv, (x 9, .inr (3, [.ref (x 10), .ref (x 11), .ref (x 12), .ref (x 13), .int (nI xf), .int (nI QX.1)]))]) hP hD [0, 1, 2] [3, 4, 5, 6] rfl rfl (by decide) (by decide) hk1 hFc hP1 hD1
  generalize H1 = H at hP hS ⊢
  have hP := hP.sub (ws' := [(o, .inr (4, [.ref F, .ref G, .int lo, .int nw, .int se, .ref (pa 0), .ref an, .ref ln])), cE x xv, (x 9, .inr (3, [.ref (x 10), .ref (x 11), .ref (x 12), .ref (x 13), .int (nI xf), .int (nI QX.1)])), (x 10, .inl (cA 0, 12, .inl (xr 0))), (x 11, .inl (cA 0, 12, .inl (xr 1))), (x 12, .inl (cA 0, 12, .inl (xr 2))), (x 13, .inl (cA 0, 48, .inl (xr 3)))]) [4, 5, 6, 0, 1, 2, 3] rfl
  have hD := hD.sub (ws' := [(o, .inr (4, [.ref F, .ref G, .int lo, .int nw, .int se, .ref (pa 0), .ref an, .ref ln])), cE x xv, (x 9, .inr (3, [.ref (x 10), .ref (x 11), .ref (x 12), .ref (x 13), .int (nI xf), .int (nI QX.1)])), (x 10, .inl (cA 0, 12, .inl (xr 0))), (x 11, .inl (cA 0, 12, .inl (xr 1))), (x 12, .inl (cA 0, 12, .inl (xr 2))), (x 13, .inl (cA 0, 48, .inl (xr 3)))]) [4, 5, 6, 0, 1, 2, 3] (by decide) rfl
  clear hPc hDc hFc hP1 hD1 hk1 hz1
  have hw_1 := hw
  obtain rfl := hw
  refine lv_iconst (v := 1) hx hb dL_row_7 (by decide) ?_
  refine lv_isub hx hb dL_row_8 ?_
  refine lv_istore (lv' := [(5, .int ((nI QX.1) - 1)), (3, .long 0), (0, .ref o), (1, .int n), (2, .int (nI fr))]) hx hb dL_row_9 hl (by decide) rfl (fun ls hl => ?_)
  refine z_loop (Inv := fun j H locs ls => va_P D vwCl [(o, .inr (4, [.ref F, .ref G, .int lo, .int nw, .int se, .ref (pa 0), .ref an, .ref ln])), cE x xv, (x 9, .inr (3, [.ref (x 10), .ref (x 11), .ref (x 12), .ref (x 13), .int (nI xf), .int (nI QX.1)])), (x 10, .inl (cA 0, 12, .inl (xr 0))), (x 11, .inl (cA 0, 12, .inl (xr 1))), (x 12, .inl (cA 0, 12, .inl (xr 2))), (x 13, .inl (cA 0, 48, .inl (xr 3)))] H ∧ va_D A [(o, .inr (4, [.ref F, .ref G, .int lo, .int nw, .int se, .ref (pa 0), .ref an, .ref ln])), cE x xv, (x 9, .inr (3, [.ref (x 10), .ref (x 11), .ref (x 12), .ref (x 13), .int (nI xf), .int (nI QX.1)])), (x 10, .inl (cA 0, 12, .inl (xr 0))), (x 11, .inl (cA 0, 12, .inl (xr 1))), (x 12, .inl (cA 0, 12, .inl (xr 2))), (x 13, .inl (cA 0, 48, .inl (xr 3)))] ∧ va_S A s.heap H locs ∧ lv_has ls 6 [(5, .int (nI (QX.1 - j) - 1)), (3, .long (rwL QX QX.1 j)), (0, .ref o), (1, .int n), (2, .int (nI fr))]) (QX.1 - fr) (fun j hj_j ih_j H locs ls hQ9 => ?_) ⟨hP, hD, hS, lv_sub hl [0, 1, 2, 3, 4] rfl⟩
  obtain ⟨hP, hD, hS, hl⟩ := hQ9
  refine lv_iload hx hb dL_row_11 (lv_at hl 0 rfl) ?_
  rcases (show j < QX.1 - fr ∨ QX.1 - j = fr by omega) with hjl | hjl
  · skip
    have hl : lv_has ls 6 [(5, .int (nI (QX.1 - 1 - j))), (3, .long (rwL QX QX.1 j)), (0, .ref o), (1, .int n), (2, .int (nI fr))] := by (have q9 := hl; rw [show nI (QX.1 - j) - 1 = nI (QX.1 - 1 - j) from (rw_k (by omega))] at q9; exact q9)
    refine z_top (y := (nI (QX.1 - 1 - j))) (rw_k (by omega)) ?_
    refine lv_iload_n hx hb dL_row_13 rfl (lv_at hl 4 rfl) ?_
    refine lv_icmp_lt (tgt := 40) hx hb dL_row_14 (by decide) (fun c_2 => ?_) (fun c_2 => ?_)
    · have c_2 := (nI_ltI (a := QX.1 - 1 - j) (b := fr) (by omega) (by omega)).mp c_2
      omega
    · have c_2 := mt (nI_ltI (a := QX.1 - 1 - j) (b := fr) (by omega) (by omega)).mpr c_2
      refine lv_ldc2 (v := 8) hx hb hown (hts (.constantLong RL 105 (8)) (List.mem_of_getElem? (i := 1) rfl)) dL_row_17 ?_
      refine lv_lload_n hx hb dL_row_20 rfl (lv_at hl 1 rfl) ?_
      refine lv_lmul hx hb dL_row_21 ?_
      refine lv_aload_n hx hb dL_row_22 rfl (lv_at hl 2 rfl) ?_
      refine lv_iload_n hx hb dL_row_23 rfl (lv_at hl 3 rfl) ?_
      refine lv_iload hx hb dL_row_24 (lv_at hl 0 rfl) ?_
      have hPc := hP.sub (ws' := [(o, .inr (4, [.ref F, .ref G, .int lo, .int nw, .int se, .ref (pa 0), .ref an, .ref ln])), cE x xv, (x 9, .inr (3, [.ref (x 10), .ref (x 11), .ref (x 12), .ref (x 13), .int (nI xf), .int (nI QX.1)])), (x 10, .inl (cA 0, 12, .inl (xr 0))), (x 11, .inl (cA 0, 12, .inl (xr 1))), (x 12, .inl (cA 0, 12, .inl (xr 2))), (x 13, .inl (cA 0, 48, .inl (xr 3)))]) [0, 1, 2, 3, 4, 5, 6] rfl
      have hDc := hD.sub (ws' := [(o, .inr (4, [.ref F, .ref G, .int lo, .int nw, .int se, .ref (pa 0), .ref an, .ref ln])), cE x xv, (x 9, .inr (3, [.ref (x 10), .ref (x 11), .ref (x 12), .ref (x 13), .int (nI xf), .int (nI QX.1)])), (x 10, .inl (cA 0, 12, .inl (xr 0))), (x 11, .inl (cA 0, 12, .inl (xr 1))), (x 12, .inl (cA 0, 12, .inl (xr 2))), (x 13, .inl (cA 0, 48, .inl (xr 3)))]) [0, 1, 2, 3, 4, 5, 6] (by decide) rfl
      have hFc := va_free (wc := [(o, .inr (4, [.ref F, .ref G, .int lo, .int nw, .int se, .ref (pa 0), .ref an, .ref ln])), cE x xv, (x 9, .inr (3, [.ref (x 10), .ref (x 11), .ref (x 12), .ref (x 13), .int (nI xf), .int (nI QX.1)])), (x 10, .inl (cA 0, 12, .inl (xr 0))), (x 11, .inl (cA 0, 12, .inl (xr 1))), (x 12, .inl (cA 0, 12, .inl (xr 2))), (x 13, .inl (cA 0, 48, .inl (xr 3)))]) hD hS hA [0, 1, 2, 3, 4, 5, 6] rfl
      refine va_calli (va_runV (As := [.int n, .int (nI (QX.1 - 1 - j))]) (rest := [.long (8 * (rwL QX QX.1 j))]) ⟨hx, hb, hml, hown, hts⟩ (c_X3_kindAt_k l D cA H.size o F G lo nw se pa an ln x y0 n xv xr xf QX (QX.1 - 1 - j) (by assumption) (by assumption) (by omega)) (cwV 2 hts gL_row_X3_kindAt rfl rfl rfl (by decide +kernel) ⟨Nat.le_of_ble_eq_true rfl, Nat.le_of_ble_eq_true rfl⟩) ⟨zU_blind, va_recv hK hPc (ci := 4) (q0 := 0) rfl rfl, fun U hU hW => ⟨rfl, zU_call hU hPc hW.alike hK hDc⟩⟩ rfl rfl hl.1 rfl (lv_room (Nat.le_of_ble_eq_true rfl)) dL_row_26 ⟨(Nat.zero_le _), (Nat.zero_le _)⟩) hS (fun q _ h => hFc q h) hFc (fun zr u t H1 locs ht hvm hw hB hz1 hk1 hS => ?_)
      obtain ⟨hP1, hD1⟩ := hB
      rw [ht] at hP1
      obtain ⟨hP, hD⟩ := va_join (wr := []) (w1 := [(o, .inr (4, [.ref F, .ref G, .int lo, .int nw, .int se, .ref (pa 0), .ref an, .ref ln])), cE x xv, (x 9, .inr (3, [.ref (x 10), .ref (x 11), .ref (x 12), .ref (x 13), .int (nI xf), .int (nI QX.1)])), (x 10, .inl (cA 0, 12, .inl (xr 0))), (x 11, .inl (cA 0, 12, .inl (xr 1))), (x 12, .inl (cA 0, 12, .inl (xr 2))), (x 13, .inl (cA 0, 48, .inl (xr 3)))]) hP hD [0, 1, 2, 3, 4, 5, 6] [] rfl rfl (by decide) (by decide) hk1 hFc hP1 hD1
      generalize H1 = H at hP hS ⊢
      have hP := hP.sub (ws' := [(o, .inr (4, [.ref F, .ref G, .int lo, .int nw, .int se, .ref (pa 0), .ref an, .ref ln])), cE x xv, (x 9, .inr (3, [.ref (x 10), .ref (x 11), .ref (x 12), .ref (x 13), .int (nI xf), .int (nI QX.1)])), (x 10, .inl (cA 0, 12, .inl (xr 0))), (x 11, .inl (cA 0, 12, .inl (xr 1))), (x 12, .inl (cA 0, 12, .inl (xr 2))), (x 13, .inl (cA 0, 48, .inl (xr 3)))]) [0, 1, 2, 3, 4, 5, 6] rfl
      have hD := hD.sub (ws' := [(o, .inr (4, [.ref F, .ref G, .int lo, .int nw, .int se, .ref (pa 0), .ref an, .ref ln])), cE x xv, (x 9, .inr (3, [.ref (x 10), .ref (x 11), .ref (x 12), .ref (x 13), .int (nI xf), .int (nI QX.1)])), (x 10, .inl (cA 0, 12, .inl (xr 0))), (x 11, .inl (cA 0, 12, .inl (xr 1))), (x 12, .inl (cA 0, 12, .inl (xr 2))), (x 13, .inl (cA 0, 48, .inl (xr 3)))]) [0, 1, 2, 3, 4, 5, 6] (by decide) rfl
      clear hPc hDc hFc hP1 hD1 hk1 hz1
      have hw_3 := hw
      obtain rfl := hw
      refine lv_i2l (v := (QX.2 (QX.1 - 1 - j) 0).toInt64) hx hb dL_row_29 rfl ?_
      refine lv_ladd hx hb dL_row_30 ?_
      refine lv_lconst (v := 1) hx hb dL_row_31 (by decide) ?_
      refine lv_ladd hx hb dL_row_32 ?_
      refine lv_lstore_n (lv' := [(3, .long (((8 * (rwL QX QX.1 j)) + ((QX.2 (QX.1 - 1 - j) 0).toInt64)) + 1)), (5, .int (nI (QX.1 - 1 - j))), (0, .ref o), (1, .int n), (2, .int (nI fr))]) hx hb dL_row_33 rfl hl (by decide) rfl (fun ls hl => ?_)
      refine lv_iinc (v := (nI (QX.1 - 1 - j)) + (-1)) (lv' := [(5, .int ((nI (QX.1 - 1 - j)) + (-1))), (3, .long (((8 * (rwL QX QX.1 j)) + ((QX.2 (QX.1 - 1 - j) 0).toInt64)) + 1)), (0, .ref o), (1, .int n), (2, .int (nI fr))]) hx hb dL_row_34 hl (k := 1) rfl rfl (by decide) rfl (fun ls hl => ?_)
      refine lv_goto (tgt := 11) hx hb dL_row_37 (by decide) ?_
      exact ih_j _ _ _ (by omega) ⟨hP, hD, hS, (by rw [show nI (QX.1 - (j + 1)) - 1 = (nI (QX.1 - 1 - j)) + (-1) from rw_dec]; exact lv_sub hl [0, 1, 2, 3, 4] rfl)⟩
  · skip
    refine lv_iload_n hx hb dL_row_13 rfl (lv_at hl 4 rfl) ?_
    refine lv_icmp_lt (tgt := 40) hx hb dL_row_14 (by decide) (fun c_4 => ?_) (fun c_4 => ?_)
    · skip
      refine lv_lload_n hx hb dL_row_40 rfl (lv_at hl 1 rfl) ?_
      obtain rfl : j = (QX.1 - fr) := by omega
      refine W.widen (k := 0) (n := 0) (by omega) (by omega) ?_
      exact W.lret (v := (rwL QX QX.1 (QX.1 - fr))) hx hb hr (fun t ht hW => ⟨⟨rwL QX QX.1 (QX.1 - fr), (), rfl, rfl, ⟨by rw [ht]; exact hP, by rw [hAe]; exact hD⟩⟩, hS.F ht⟩) hS.2.2 dL_row_41
    · skip
      exact absurd (rw_ex hjl (by omega)) c_4
