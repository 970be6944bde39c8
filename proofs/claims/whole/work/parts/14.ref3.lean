set_option maxHeartbeats 4000000 in
set_option maxRecDepth 100000 in
/-- judges(end) -/
theorem c_X4_judges (l : Launch) (D : va_G) (cA : Nat → ClassId) (sz : Nat) (b : Nat → Nat) (mm : Nat → Int32) (ix : Nat) (QX QY : Qt) (w lo hi rf sd y3 y4 y5 y7 sn : Nat → Int32) (hix : ix ≤ 1) (hqx : QX.1 ≤ 12) (hqy : QY.1 ≤ 12) (hbd : ∀ j, j < 4 → lo j ≤ hi j) : Met l yX4_judges wsX4_judges ({ frames := 2, cells := 0, slots := 0, locals := 45 }) (va_Pc [.ref (b 0), .int (nI ix)] (zU D cA sz [cM b mm, (b 4, .inl (cA 0, 8, .inl (bk 4 ix lo y3))), (b 5, .inl (cA 0, 8, .inl (bk 4 ix hi y4))), (b 6, .inl (cA 1, 8, .inl (bk 4 ix rf y5))), (b 8, .inl (cA 0, 8, .inl (bk 4 ix sd y7))), (b 16, .inl (cA 0, 2, .inl (t2 ix (nI QX.1) (nI QY.1)))), (b 17, .inl (cA 0, 24, .inl (bk 12 ix (qc QX 0) (qc QY 0)))), (b 18, .inl (cA 0, 24, .inl (bk 12 ix (qc QX 1) (qc QY 1)))), (b 19, .inl (cA 0, 24, .inl (bk 12 ix (qc QX 2) (qc QY 2)))), (b 20, .inl (cA 0, 96, .inl (bk 48 ix (qw QX) (qw QY)))), (b 21, .inl (cA 0, 4, .inl w)), (b 22, .inl (cA 0, 4, .inl sn))])) (va_Qi (fun (r : Int32) (u : ((Nat → Int32) × Qt × Qt × (Nat → Int32))) => u.1 = sdF w rf lo hi sd ∧ u.2.1 = (sq (mm 0) (pk (jKd w rf lo hi) (mm 3) 0 (jAn w rf lo hi)) QX QY).1 ∧ u.2.2.1 = (sq (mm 0) (pk (jKd w rf lo hi) (mm 3) 0 (jAn w rf lo hi)) QX QY).2 ∧ u.2.2.2 = upd mm 5 (mm 5 + 1) ∧ r = bI (jKd w rf lo hi = 1)) (fun (u : ((Nat → Int32) × Qt × Qt × (Nat → Int32))) t => zB D [cM b mm, (b 4, .inl (cA 0, 8, .inl (bk 4 ix lo y3))), (b 5, .inl (cA 0, 8, .inl (bk 4 ix hi y4))), (b 6, .inl (cA 1, 8, .inl (bk 4 ix rf y5))), (b 8, .inl (cA 0, 8, .inl (bk 4 ix sd y7))), (b 16, .inl (cA 0, 2, .inl (t2 ix (nI QX.1) (nI QY.1)))), (b 17, .inl (cA 0, 24, .inl (bk 12 ix (qc QX 0) (qc QY 0)))), (b 18, .inl (cA 0, 24, .inl (bk 12 ix (qc QX 1) (qc QY 1)))), (b 19, .inl (cA 0, 24, .inl (bk 12 ix (qc QX 2) (qc QY 2)))), (b 20, .inl (cA 0, 96, .inl (bk 48 ix (qw QX) (qw QY)))), (b 21, .inl (cA 0, 4, .inl w)), (b 22, .inl (cA 0, 4, .inl sn))] sz [cM b u.2.2.2, (b 4, .inl (cA 0, 8, .inl (bk 4 ix lo y3))), (b 5, .inl (cA 0, 8, .inl (bk 4 ix hi y4))), (b 6, .inl (cA 1, 8, .inl (bk 4 ix rf y5))), (b 8, .inl (cA 0, 8, .inl (bk 4 ix u.1 y7))), (b 16, .inl (cA 0, 2, .inl (t2 ix (nI u.2.1.1) (nI u.2.2.1.1)))), (b 17, .inl (cA 0, 24, .inl (bk 12 ix (qc u.2.1 0) (qc u.2.2.1 0)))), (b 18, .inl (cA 0, 24, .inl (bk 12 ix (qc u.2.1 1) (qc u.2.2.1 1)))), (b 19, .inl (cA 0, 24, .inl (bk 12 ix (qc u.2.1 2) (qc u.2.2.1 2)))), (b 20, .inl (cA 0, 96, .inl (bk 48 ix (qw u.2.1) (qw u.2.2.1)))), (b 21, .inl (cA 0, 4, .inl w)), (b 22, .inl (cA 0, 4, .inl (jAn w rf lo hi)))] t) (va_A [cM b mm, (b 4, .inl (cA 0, 8, .inl (bk 4 ix lo y3))), (b 5, .inl (cA 0, 8, .inl (bk 4 ix hi y4))), (b 6, .inl (cA 1, 8, .inl (bk 4 ix rf y5))), (b 8, .inl (cA 0, 8, .inl (bk 4 ix sd y7))), (b 16, .inl (cA 0, 2, .inl (t2 ix (nI QX.1) (nI QY.1)))), (b 17, .inl (cA 0, 24, .inl (bk 12 ix (qc QX 0) (qc QY 0)))), (b 18, .inl (cA 0, 24, .inl (bk 12 ix (qc QX 1) (qc QY 1)))), (b 19, .inl (cA 0, 24, .inl (bk 12 ix (qc QX 2) (qc QY 2)))), (b 20, .inl (cA 0, 96, .inl (bk 48 ix (qw QX) (qw QY)))), (b 21, .inl (cA 0, 4, .inl w)), (b 22, .inl (cA 0, 4, .inl sn))] sz)) 0 0 (va_A [cM b mm, (b 4, .inl (cA 0, 8, .inl (bk 4 ix lo y3))), (b 5, .inl (cA 0, 8, .inl (bk 4 ix hi y4))), (b 6, .inl (cA 1, 8, .inl (bk 4 ix rf y5))), (b 8, .inl (cA 0, 8, .inl (bk 4 ix sd y7))), (b 16, .inl (cA 0, 2, .inl (t2 ix (nI QX.1) (nI QY.1)))), (b 17, .inl (cA 0, 24, .inl (bk 12 ix (qc QX 0) (qc QY 0)))), (b 18, .inl (cA 0, 24, .inl (bk 12 ix (qc QX 1) (qc QY 1)))), (b 19, .inl (cA 0, 24, .inl (bk 12 ix (qc QX 2) (qc QY 2)))), (b 20, .inl (cA 0, 96, .inl (bk 48 ix (qw QX) (qw QY)))), (b 21, .inl (cA 0, 4, .inl w)), (b 22, .inl (cA 0, 4, .inl sn))] sz) := by
  refine Met.ofW (cc := cX4_judges) (maxL := 9) (ret := (some .boolean)) (by decide) rfl ?_
  intro p e s m args below meth c s₁ B hml hv
  obtain ⟨rfl, hsz, hP, hK, hD0⟩ := hv
  have hx := B.exec
  have hb := B.bytes
  have hr := B.returns
  have hts := atoms_spec (ws := wsX4_judges) B.pre
  have hown : s.vm.findClass RX4 = some m.cls := findClass_of_methodNamed B.named
  have hlocks := B.notSynchronized
  subst hsz
  have hD := hD0.self (sz := s.heap.size)
  generalize hAe : va_A [cM b mm, (b 4, .inl (cA 0, 8, .inl (bk 4 ix lo y3))), (b 5, .inl (cA 0, 8, .inl (bk 4 ix hi y4))), (b 6, .inl (cA 1, 8, .inl (bk 4 ix rf y5))), (b 8, .inl (cA 0, 8, .inl (bk 4 ix sd y7))), (b 16, .inl (cA 0, 2, .inl (t2 ix (nI QX.1) (nI QY.1)))), (b 17, .inl (cA 0, 24, .inl (bk 12 ix (qc QX 0) (qc QY 0)))), (b 18, .inl (cA 0, 24, .inl (bk 12 ix (qc QX 1) (qc QY 1)))), (b 19, .inl (cA 0, 24, .inl (bk 12 ix (qc QX 2) (qc QY 2)))), (b 20, .inl (cA 0, 96, .inl (bk 48 ix (qw QX) (qw QY)))), (b 21, .inl (cA 0, 4, .inl w)), (b 22, .inl (cA 0, 4, .inl sn))] s.heap.size = A at hD ⊢
  have hA : ∀ q : Nat, s.heap.size ≤ q → A q := fun q h => by rw [← hAe]; exact Or.inr h
  have hS : va_S A s.heap s.heap [] := va_S.rf
  have hl := lv_entry ([.ref (b 0), .int (nI ix)]) (n := 9) (Nat.le_of_ble_eq_true rfl)
  rw [lg_entry_eq]
  generalize (lg_sl ([.ref (b 0), .int (nI ix)]) ++ List.replicate (9 - (lg_sl ([.ref (b 0), .int (nI ix)])).length) Slot.unset).toArray = ls at hl ⊢
  have hl : lv_has ls 9 [(0, .ref (b 0)), (1, .int (nI ix))] := hl
  refine lv_iconst (v := 0) hx hb dX4_judges_0 (by decide) ?_
  refine lv_istore_n (lv' := [(2, .int 0), (0, .ref (b 0)), (1, .int (nI ix))]) hx hb dX4_judges_1 rfl hl (by decide) rfl (fun ls hl => ?_)
  refine lv_iconst (v := 1) hx hb dX4_judges_2 (by decide) ?_
  refine lv_istore_n (lv' := [(3, .int 1), (2, .int 0), (0, .ref (b 0)), (1, .int (nI ix))]) hx hb dX4_judges_3 rfl hl (by decide) rfl (fun ls hl => ?_)
  refine lv_iconst (v := 0) hx hb dX4_judges_4 (by decide) ?_
  refine lv_istore (lv' := [(4, .int 0), (3, .int 1), (2, .int 0), (0, .ref (b 0)), (1, .int (nI ix))]) hx hb dX4_judges_5 hl (by decide) rfl (fun ls hl => ?_)
  refine z_loop (Inv := fun j H locs ls => va_P D vwCl [cM b mm, (b 4, .inl (cA 0, 8, .inl (bk 4 ix lo y3))), (b 5, .inl (cA 0, 8, .inl (bk 4 ix hi y4))), (b 6, .inl (cA 1, 8, .inl (bk 4 ix rf y5))), (b 8, .inl (cA 0, 8, .inl (bk 4 ix sd y7))), (b 16, .inl (cA 0, 2, .inl (t2 ix (nI QX.1) (nI QY.1)))), (b 17, .inl (cA 0, 24, .inl (bk 12 ix (qc QX 0) (qc QY 0)))), (b 18, .inl (cA 0, 24, .inl (bk 12 ix (qc QX 1) (qc QY 1)))), (b 19, .inl (cA 0, 24, .inl (bk 12 ix (qc QX 2) (qc QY 2)))), (b 20, .inl (cA 0, 96, .inl (bk 48 ix (qw QX) (qw QY)))), (b 21, .inl (cA 0, 4, .inl w)), (b 22, .inl (cA 0, 4, .inl sn))] H ∧ va_D A [cM b mm, (b 4, .inl (cA 0, 8, .inl (bk 4 ix lo y3))), (b 5, .inl (cA 0, 8, .inl (bk 4 ix hi y4))), (b 6, .inl (cA 1, 8, .inl (bk 4 ix rf y5))), (b 8, .inl (cA 0, 8, .inl (bk 4 ix sd y7))), (b 16, .inl (cA 0, 2, .inl (t2 ix (nI QX.1) (nI QY.1)))), (b 17, .inl (cA 0, 24, .inl (bk 12 ix (qc QX 0) (qc QY 0)))), (b 18, .inl (cA 0, 24, .inl (bk 12 ix (qc QX 1) (qc QY 1)))), (b 19, .inl (cA 0, 24, .inl (bk 12 ix (qc QX 2) (qc QY 2)))), (b 20, .inl (cA 0, 96, .inl (bk 48 ix (qw QX) (qw QY)))), (b 21, .inl (cA 0, 4, .inl w)), (b 22, .inl (cA 0, 4, .inl sn))] ∧ va_S A s.heap H locs ∧ lv_has ls 9 [(4, .int (nI j)), (3, .int (bB (!(anB (isO w lo hi) j)))), (2, .int (bB (anB (isR w rf) j))), (0, .ref (b 0)), (1, .int (nI ix))]) 4 (fun j hj_j ih_j H locs ls hI => ?_) ⟨hP, hD, hS, lv_sub hl [0, 1, 2, 3, 4] rfl⟩
  obtain ⟨hP, hD, hS, hl⟩ := hI
  refine lv_iload hx hb dX4_judges_7 (lv_at hl 0 rfl) ?_
  refine lv_iconst (v := 4) hx hb dX4_judges_9 (by decide) ?_
  refine lv_icmp_ge (tgt := 107) hx hb dX4_judges_10 (by decide) (fun c_1 => ?_) (fun c_1 => ?_)
  · have c_1 := (nI_leI (a := 4) (b := j) (by omega) (by omega)).mp c_1
    obtain rfl : j = 4 := by omega
    refine z_cut (Inv := fun H locs ls st => st = [.int (bB (gdb w rf lo hi))] ∧ va_P D vwCl [cM b mm, (b 4, .inl (cA 0, 8, .inl (bk 4 ix lo y3))), (b 5, .inl (cA 0, 8, .inl (bk 4 ix hi y4))), (b 6, .inl (cA 1, 8, .inl (bk 4 ix rf y5))), (b 8, .inl (cA 0, 8, .inl (bk 4 ix sd y7))), (b 16, .inl (cA 0, 2, .inl (t2 ix (nI QX.1) (nI QY.1)))), (b 17, .inl (cA 0, 24, .inl (bk 12 ix (qc QX 0) (qc QY 0)))), (b 18, .inl (cA 0, 24, .inl (bk 12 ix (qc QX 1) (qc QY 1)))), (b 19, .inl (cA 0, 24, .inl (bk 12 ix (qc QX 2) (qc QY 2)))), (b 20, .inl (cA 0, 96, .inl (bk 48 ix (qw QX) (qw QY)))), (b 21, .inl (cA 0, 4, .inl w)), (b 22, .inl (cA 0, 4, .inl sn))] H ∧ va_D A [cM b mm, (b 4, .inl (cA 0, 8, .inl (bk 4 ix lo y3))), (b 5, .inl (cA 0, 8, .inl (bk 4 ix hi y4))), (b 6, .inl (cA 1, 8, .inl (bk 4 ix rf y5))), (b 8, .inl (cA 0, 8, .inl (bk 4 ix sd y7))), (b 16, .inl (cA 0, 2, .inl (t2 ix (nI QX.1) (nI QY.1)))), (b 17, .inl (cA 0, 24, .inl (bk 12 ix (qc QX 0) (qc QY 0)))), (b 18, .inl (cA 0, 24, .inl (bk 12 ix (qc QX 1) (qc QY 1)))), (b 19, .inl (cA 0, 24, .inl (bk 12 ix (qc QX 2) (qc QY 2)))), (b 20, .inl (cA 0, 96, .inl (bk 48 ix (qw QX) (qw QY)))), (b 21, .inl (cA 0, 4, .inl w)), (b 22, .inl (cA 0, 4, .inl sn))] ∧ va_S A s.heap H locs ∧ lv_has ls 9 [(4, .int (nI 4)), (3, .int (bB (!(anB (isO w lo hi) 4)))), (2, .int (bB (anB (isR w rf) 4))), (0, .ref (b 0)), (1, .int (nI ix))]) 120 (fun H locs ls st hI => ?_) (fun kJ => ?_)
    · obtain ⟨rfl, hP, hD, hS, hl⟩ := hI
      refine lv_istore_n (lv' := [(3, .int (bB (gdb w rf lo hi))), (4, .int (nI 4)), (2, .int (bB (anB (isR w rf) 4))), (0, .ref (b 0)), (1, .int (nI ix))]) hx hb dX4_judges_120 rfl hl (by decide) rfl (fun ls hl => ?_)
      refine lv_iconst (v := 0) hx hb dX4_judges_121 (by decide) ?_
      refine lv_istore (lv' := [(4, .int 0), (3, .int (bB (gdb w rf lo hi))), (2, .int (bB (anB (isR w rf) 4))), (0, .ref (b 0)), (1, .int (nI ix))]) hx hb dX4_judges_122 hl (by decide) rfl (fun ls hl => ?_)
      -- the loop at 124
      have hP : va_P D vwCl [cM b mm, (b 4, .inl (cA 0, 8, .inl (bk 4 ix lo y3))), (b 5, .inl (cA 0, 8, .inl (bk 4 ix hi y4))), (b 6, .inl (cA 1, 8, .inl (bk 4 ix rf y5))), (b 8, .inl (cA 0, 8, .inl (bk 4 ix sd y7))), (b 16, .inl (cA 0, 2, .inl (t2 ix (nI QX.1) (nI QY.1)))), (b 17, .inl (cA 0, 24, .inl (bk 12 ix (qc QX 0) (qc QY 0)))), (b 18, .inl (cA 0, 24, .inl (bk 12 ix (qc QX 1) (qc QY 1)))), (b 19, .inl (cA 0, 24, .inl (bk 12 ix (qc QX 2) (qc QY 2)))), (b 20, .inl (cA 0, 96, .inl (bk 48 ix (qw QX) (qw QY)))), (b 21, .inl (cA 0, 4, .inl w)), (b 22, .inl (cA 0, 4, .inl (mix 0 (jAn w rf lo hi) sn)))] H := z_row hP 11 rfl (fun k _ => congrFun (show sn = mix 0 (jAn w rf lo hi) sn from mix_0 _ sn) k)
      have hD : va_D A [cM b mm, (b 4, .inl (cA 0, 8, .inl (bk 4 ix lo y3))), (b 5, .inl (cA 0, 8, .inl (bk 4 ix hi y4))), (b 6, .inl (cA 1, 8, .inl (bk 4 ix rf y5))), (b 8, .inl (cA 0, 8, .inl (bk 4 ix sd y7))), (b 16, .inl (cA 0, 2, .inl (t2 ix (nI QX.1) (nI QY.1)))), (b 17, .inl (cA 0, 24, .inl (bk 12 ix (qc QX 0) (qc QY 0)))), (b 18, .inl (cA 0, 24, .inl (bk 12 ix (qc QX 1) (qc QY 1)))), (b 19, .inl (cA 0, 24, .inl (bk 12 ix (qc QX 2) (qc QY 2)))), (b 20, .inl (cA 0, 96, .inl (bk 48 ix (qw QX) (qw QY)))), (b 21, .inl (cA 0, 4, .inl w)), (b 22, .inl (cA 0, 4, .inl (mix 0 (jAn w rf lo hi) sn)))] := hD.set (p := 11) rfl
      -- the loop at 124
      have hP : va_P D vwCl [cM b mm, (b 4, .inl (cA 0, 8, .inl (bk 4 ix lo y3))), (b 5, .inl (cA 0, 8, .inl (bk 4 ix hi y4))), (b 6, .inl (cA 1, 8, .inl (bk 4 ix rf y5))), (b 8, .inl (cA 0, 8, .inl (bk 4 ix (mix 0 (sdF w rf lo hi sd) sd) y7))), (b 16, .inl (cA 0, 2, .inl (t2 ix (nI QX.1) (nI QY.1)))), (b 17, .inl (cA 0, 24, .inl (bk 12 ix (qc QX 0) (qc QY 0)))), (b 18, .inl (cA 0, 24, .inl (bk 12 ix (qc QX 1) (qc QY 1)))), (b 19, .inl (cA 0, 24, .inl (bk 12 ix (qc QX 2) (qc QY 2)))), (b 20, .inl (cA 0, 96, .inl (bk 48 ix (qw QX) (qw QY)))), (b 21, .inl (cA 0, 4, .inl w)), (b 22, .inl (cA 0, 4, .inl (mix 0 (jAn w rf lo hi) sn)))] H := z_row hP 4 rfl (fun k _ => congrFun (show bk 4 ix sd y7 = bk 4 ix (mix 0 (sdF w rf lo hi sd) sd) y7 from (bk_cx (mix_0 _ sd))) k)
      have hD : va_D A [cM b mm, (b 4, .inl (cA 0, 8, .inl (bk 4 ix lo y3))), (b 5, .inl (cA 0, 8, .inl (bk 4 ix hi y4))), (b 6, .inl (cA 1, 8, .inl (bk 4 ix rf y5))), (b 8, .inl (cA 0, 8, .inl (bk 4 ix (mix 0 (sdF w rf lo hi sd) sd) y7))), (b 16, .inl (cA 0, 2, .inl (t2 ix (nI QX.1) (nI QY.1)))), (b 17, .inl (cA 0, 24, .inl (bk 12 ix (qc QX 0) (qc QY 0)))), (b 18, .inl (cA 0, 24, .inl (bk 12 ix (qc QX 1) (qc QY 1)))), (b 19, .inl (cA 0, 24, .inl (bk 12 ix (qc QX 2) (qc QY 2)))), (b 20, .inl (cA 0, 96, .inl (bk 48 ix (qw QX) (qw QY)))), (b 21, .inl (cA 0, 4, .inl w)), (b 22, .inl (cA 0, 4, .inl (mix 0 (jAn w rf lo hi) sn)))] := hD.set (p := 4) rfl
      refine z_loop (Inv := fun j H locs ls => va_P D vwCl [cM b mm, (b 4, .inl (cA 0, 8, .inl (bk 4 ix lo y3))), (b 5, .inl (cA 0, 8, .inl (bk 4 ix hi y4))), (b 6, .inl (cA 1, 8, .inl (bk 4 ix rf y5))), (b 8, .inl (cA 0, 8, .inl (bk 4 ix (mix j (sdF w rf lo hi sd) sd) y7))), (b 16, .inl (cA 0, 2, .inl (t2 ix (nI QX.1) (nI QY.1)))), (b 17, .inl (cA 0, 24, .inl (bk 12 ix (qc QX 0) (qc QY 0)))), (b 18, .inl (cA 0, 24, .inl (bk 12 ix (qc QX 1) (qc QY 1)))), (b 19, .inl (cA 0, 24, .inl (bk 12 ix (qc QX 2) (qc QY 2)))), (b 20, .inl (cA 0, 96, .inl (bk 48 ix (qw QX) (qw QY)))), (b 21, .inl (cA 0, 4, .inl w)), (b 22, .inl (cA 0, 4, .inl (mix j (jAn w rf lo hi) sn)))] H ∧ va_D A [cM b mm, (b 4, .inl (cA 0, 8, .inl (bk 4 ix lo y3))), (b 5, .inl (cA 0, 8, .inl (bk 4 ix hi y4))), (b 6, .inl (cA 1, 8, .inl (bk 4 ix rf y5))), (b 8, .inl (cA 0, 8, .inl (bk 4 ix (mix j (sdF w rf lo hi sd) sd) y7))), (b 16, .inl (cA 0, 2, .inl (t2 ix (nI QX.1) (nI QY.1)))), (b 17, .inl (cA 0, 24, .inl (bk 12 ix (qc QX 0) (qc QY 0)))), (b 18, .inl (cA 0, 24, .inl (bk 12 ix (qc QX 1) (qc QY 1)))), (b 19, .inl (cA 0, 24, .inl (bk 12 ix (qc QX 2) (qc QY 2)))), (b 20, .inl (cA 0, 96, .inl (bk 48 ix (qw QX) (qw QY)))), (b 21, .inl (cA 0, 4, .inl w)), (b 22, .inl (cA 0, 4, .inl (mix j (jAn w rf lo hi) sn)))] ∧ va_S A s.heap H locs ∧ lv_has ls 9 [(4, .int (nI j)), (3, .int (bB (gdb w rf lo hi))), (2, .int (bB (anB (isR w rf) 4))), (0, .ref (b 0)), (1, .int (nI ix))]) 4 (fun j hj_j ih_j H locs ls hI => ?_) ⟨hP, hD, hS, lv_sub hl [0, 1, 2, 3, 4] rfl⟩
      obtain ⟨hP, hD, hS, hl⟩ := hI
      refine lv_iload hx hb dX4_judges_124 (lv_at hl 0 rfl) ?_
      refine lv_iconst (v := 4) hx hb dX4_judges_126 (by decide) ?_
      refine lv_icmp_ge (tgt := 334) hx hb dX4_judges_127 (by decide) (fun c_2 => ?_) (fun c_2 => ?_)
      · have c_2 := (nI_leI (a := 4) (b := j) (by omega) (by omega)).mp c_2
        obtain rfl : j = 4 := by omega
        have hP : va_P D vwCl [cM b mm, (b 4, .inl (cA 0, 8, .inl (bk 4 ix lo y3))), (b 5, .inl (cA 0, 8, .inl (bk 4 ix hi y4))), (b 6, .inl (cA 1, 8, .inl (bk 4 ix rf y5))), (b 8, .inl (cA 0, 8, .inl (bk 4 ix (mix 4 (sdF w rf lo hi sd) sd) y7))), (b 16, .inl (cA 0, 2, .inl (t2 ix (nI QX.1) (nI QY.1)))), (b 17, .inl (cA 0, 24, .inl (bk 12 ix (qc QX 0) (qc QY 0)))), (b 18, .inl (cA 0, 24, .inl (bk 12 ix (qc QX 1) (qc QY 1)))), (b 19, .inl (cA 0, 24, .inl (bk 12 ix (qc QX 2) (qc QY 2)))), (b 20, .inl (cA 0, 96, .inl (bk 48 ix (qw QX) (qw QY)))), (b 21, .inl (cA 0, 4, .inl w)), (b 22, .inl (cA 0, 4, .inl (jAn w rf lo hi)))] H := z_row hP 11 rfl mix_all
        have hD : va_D A [cM b mm, (b 4, .inl (cA 0, 8, .inl (bk 4 ix lo y3))), (b 5, .inl (cA 0, 8, .inl (bk 4 ix hi y4))), (b 6, .inl (cA 1, 8, .inl (bk 4 ix rf y5))), (b 8, .inl (cA 0, 8, .inl (bk 4 ix (mix 4 (sdF w rf lo hi sd) sd) y7))), (b 16, .inl (cA 0, 2, .inl (t2 ix (nI QX.1) (nI QY.1)))), (b 17, .inl (cA 0, 24, .inl (bk 12 ix (qc QX 0) (qc QY 0)))), (b 18, .inl (cA 0, 24, .inl (bk 12 ix (qc QX 1) (qc QY 1)))), (b 19, .inl (cA 0, 24, .inl (bk 12 ix (qc QX 2) (qc QY 2)))), (b 20, .inl (cA 0, 96, .inl (bk 48 ix (qw QX) (qw QY)))), (b 21, .inl (cA 0, 4, .inl w)), (b 22, .inl (cA 0, 4, .inl (jAn w rf lo hi)))] := hD.set (p := 11) rfl
        -- said
        have hP : va_P D vwCl [cM b mm, (b 4, .inl (cA 0, 8, .inl (bk 4 ix lo y3))), (b 5, .inl (cA 0, 8, .inl (bk 4 ix hi y4))), (b 6, .inl (cA 1, 8, .inl (bk 4 ix rf y5))), (b 8, .inl (cA 0, 8, .inl (bk 4 ix (sdF w rf lo hi sd) y7))), (b 16, .inl (cA 0, 2, .inl (t2 ix (nI QX.1) (nI QY.1)))), (b 17, .inl (cA 0, 24, .inl (bk 12 ix (qc QX 0) (qc QY 0)))), (b 18, .inl (cA 0, 24, .inl (bk 12 ix (qc QX 1) (qc QY 1)))), (b 19, .inl (cA 0, 24, .inl (bk 12 ix (qc QX 2) (qc QY 2)))), (b 20, .inl (cA 0, 96, .inl (bk 48 ix (qw QX) (qw QY)))), (b 21, .inl (cA 0, 4, .inl w)), (b 22, .inl (cA 0, 4, .inl (jAn w rf lo hi)))] H := z_row hP 4 rfl (fun k hk => bk_mix (g := y7) k hk)
        have hD : va_D A [cM b mm, (b 4, .inl (cA 0, 8, .inl (bk 4 ix lo y3))), (b 5, .inl (cA 0, 8, .inl (bk 4 ix hi y4))), (b 6, .inl (cA 1, 8, .inl (bk 4 ix rf y5))), (b 8, .inl (cA 0, 8, .inl (bk 4 ix (sdF w rf lo hi sd) y7))), (b 16, .inl (cA 0, 2, .inl (t2 ix (nI QX.1) (nI QY.1)))), (b 17, .inl (cA 0, 24, .inl (bk 12 ix (qc QX 0) (qc QY 0)))), (b 18, .inl (cA 0, 24, .inl (bk 12 ix (qc QX 1) (qc QY 1)))), (b 19, .inl (cA 0, 24, .inl (bk 12 ix (qc QX 2) (qc QY 2)))), (b 20, .inl (cA 0, 96, .inl (bk 48 ix (qw QX) (qw QY)))), (b 21, .inl (cA 0, 4, .inl w)), (b 22, .inl (cA 0, 4, .inl (jAn w rf lo hi)))] := hD.set (p := 4) rfl
        refine lv_aload_n hx hb dX4_judges_334 rfl (lv_at hl 3 rfl) ?_
        refine lv_iload_n hx hb dX4_judges_335 rfl (lv_at hl 4 rfl) ?_
        refine z_cut (Inv := fun H locs ls st => st = [.int (jKd w rf lo hi), .int (nI ix), .ref (b 0)] ∧ va_P D vwCl [cM b mm, (b 4, .inl (cA 0, 8, .inl (bk 4 ix lo y3))), (b 5, .inl (cA 0, 8, .inl (bk 4 ix hi y4))), (b 6, .inl (cA 1, 8, .inl (bk 4 ix rf y5))), (b 8, .inl (cA 0, 8, .inl (bk 4 ix (sdF w rf lo hi sd) y7))), (b 16, .inl (cA 0, 2, .inl (t2 ix (nI QX.1) (nI QY.1)))), (b 17, .inl (cA 0, 24, .inl (bk 12 ix (qc QX 0) (qc QY 0)))), (b 18, .inl (cA 0, 24, .inl (bk 12 ix (qc QX 1) (qc QY 1)))), (b 19, .inl (cA 0, 24, .inl (bk 12 ix (qc QX 2) (qc QY 2)))), (b 20, .inl (cA 0, 96, .inl (bk 48 ix (qw QX) (qw QY)))), (b 21, .inl (cA 0, 4, .inl w)), (b 22, .inl (cA 0, 4, .inl (jAn w rf lo hi)))] H ∧ va_D A [cM b mm, (b 4, .inl (cA 0, 8, .inl (bk 4 ix lo y3))), (b 5, .inl (cA 0, 8, .inl (bk 4 ix hi y4))), (b 6, .inl (cA 1, 8, .inl (bk 4 ix rf y5))), (b 8, .inl (cA 0, 8, .inl (bk 4 ix (sdF w rf lo hi sd) y7))), (b 16, .inl (cA 0, 2, .inl (t2 ix (nI QX.1) (nI QY.1)))), (b 17, .inl (cA 0, 24, .inl (bk 12 ix (qc QX 0) (qc QY 0)))), (b 18, .inl (cA 0, 24, .inl (bk 12 ix (qc QX 1) (qc QY 1)))), (b 19, .inl (cA 0, 24, .inl (bk 12 ix (qc QX 2) (qc QY 2)))), (b 20, .inl (cA 0, 96, .inl (bk 48 ix (qw QX) (qw QY)))), (b 21, .inl (cA 0, 4, .inl w)), (b 22, .inl (cA 0, 4, .inl (jAn w rf lo hi)))] ∧ va_S A s.heap H locs ∧ lv_has ls 9 [(4, .int (nI 4)), (3, .int (bB (gdb w rf lo hi))), (2, .int (bB (anB (isR w rf) 4))), (0, .ref (b 0)), (1, .int (nI ix))]) 353 (fun H locs ls st hI => ?_) (fun kJ => ?_)
        · obtain ⟨rfl, hP, hD, hS, hl⟩ := hI
          refine lv_aload_n hx hb dX4_judges_353 rfl (lv_at hl 3 rfl) ?_
          refine va_get (D := D) (ci := 6) (v := .int (mm 3)) (C := RX4) (T := TX4) (N := 29) hx hb hts (fun _ h => List.mem_cons_of_mem _ (List.mem_append_right _ (h))) hown hK hP 0 rfl rfl 23 (by decide) (hts (.fieldLink RX4 112 "OptionWireModel" "hisNumber" "I") (List.mem_of_getElem? (i := 7) rfl)) (fun _ h9 => h9) rfl dX4_judges_354 ?_
          refine lv_iconst (v := 0) hx hb dX4_judges_357 (by decide) ?_
          have hPc := hP.sub (ws' := [cM b mm, (b 16, .inl (cA 0, 2, .inl (t2 ix (nI QX.1) (nI QY.1)))), (b 17, .inl (cA 0, 24, .inl (bk 12 ix (qc QX 0) (qc QY 0)))), (b 18, .inl (cA 0, 24, .inl (bk 12 ix (qc QX 1) (qc QY 1)))), (b 19, .inl (cA 0, 24, .inl (bk 12 ix (qc QX 2) (qc QY 2)))), (b 20, .inl (cA 0, 96, .inl (bk 48 ix (qw QX) (qw QY)))), (b 22, .inl (cA 0, 4, .inl (jAn w rf lo hi)))]) [0, 5, 6, 7, 8, 9, 11] rfl
          have hDc := hD.sub (ws' := [cM b mm, (b 16, .inl (cA 0, 2, .inl (t2 ix (nI QX.1) (nI QY.1)))), (b 17, .inl (cA 0, 24, .inl (bk 12 ix (qc QX 0) (qc QY 0)))), (b 18, .inl (cA 0, 24, .inl (bk 12 ix (qc QX 1) (qc QY 1)))), (b 19, .inl (cA 0, 24, .inl (bk 12 ix (qc QX 2) (qc QY 2)))), (b 20, .inl (cA 0, 96, .inl (bk 48 ix (qw QX) (qw QY)))), (b 22, .inl (cA 0, 4, .inl (jAn w rf lo hi)))]) [0, 5, 6, 7, 8, 9, 11] (by decide) rfl
          have hFc := va_free (wc := [cM b mm, (b 16, .inl (cA 0, 2, .inl (t2 ix (nI QX.1) (nI QY.1)))), (b 17, .inl (cA 0, 24, .inl (bk 12 ix (qc QX 0) (qc QY 0)))), (b 18, .inl (cA 0, 24, .inl (bk 12 ix (qc QX 1) (qc QY 1)))), (b 19, .inl (cA 0, 24, .inl (bk 12 ix (qc QX 2) (qc QY 2)))), (b 20, .inl (cA 0, 96, .inl (bk 48 ix (qw QX) (qw QY)))), (b 22, .inl (cA 0, 4, .inl (jAn w rf lo hi)))]) hD hS hA [0, 5, 6, 7, 8, 9, 11] rfl
          refine va_callv (va_runV (As := [.int (nI ix), .int (jKd w rf lo hi), .int (mm 3), .int 0]) (rest := []) ⟨hx, hb, hml, hown, hts⟩ (c_X4_send l D cA H.size b mm ix QX QY (jAn w rf lo hi) (jKd w rf lo hi) (mm 3) 0 (by assumption) (by assumption) (by assumption)) (cwV 4 hts gX4_judges_X4_send rfl rfl rfl (by decide +kernel) ⟨Nat.le_of_ble_eq_true rfl, Nat.le_of_ble_eq_true rfl⟩) ⟨zU_blind, va_recv hK hPc (ci := 6) (q0 := 0) rfl rfl, fun U hU hW => ⟨rfl, zU_call hU hPc hW.alike hK hDc⟩⟩ rfl rfl hl.1 rfl (lv_room (Nat.le_of_ble_eq_true rfl)) dX4_judges_358 ⟨(Nat.zero_le _), (Nat.zero_le _)⟩) hS (fun q _ h => hFc q h) hFc (fun u t H1 locs ht hvm hw hB hz1 hk1 hS => ?_)
          obtain ⟨QX'_3, QY'_3, mm'_3⟩ := u
          obtain ⟨hP1, hD1⟩ := hB
          rw [ht] at hP1
          try dsimp only at hw hP1 hD1
          obtain ⟨hP, hD⟩ := va_join (wr := [(b 4, .inl (cA 0, 8, .inl (bk 4 ix lo y3))), (b 5, .inl (cA 0, 8, .inl (bk 4 ix hi y4))), (b 6, .inl (cA 1, 8, .inl (bk 4 ix rf y5))), (b 8, .inl (cA 0, 8, .inl (bk 4 ix (sdF w rf lo hi sd) y7))), (b 21, .inl (cA 0, 4, .inl w))]) (w1 := [cM b mm'_3, (b 16, .inl (cA 0, 2, .inl (t2 ix (nI QX'_3.1) (nI QY'_3.1)))), (b 17, .inl (cA 0, 24, .inl (bk 12 ix (qc QX'_3 0) (qc QY'_3 0)))), (b 18, .inl (cA 0, 24, .inl (bk 12 ix (qc QX'_3 1) (qc QY'_3 1)))), (b 19, .inl (cA 0, 24, .inl (bk 12 ix (qc QX'_3 2) (qc QY'_3 2)))), (b 20, .inl (cA 0, 96, .inl (bk 48 ix (qw QX'_3) (qw QY'_3)))), (b 22, .inl (cA 0, 4, .inl (jAn w rf lo hi)))]) hP hD [0, 5, 6, 7, 8, 9, 11] [1, 2, 3, 4, 10] rfl rfl (by decide) (by decide) hk1 hFc hP1 hD1
          generalize H1 = H at hP hS ⊢
          have hP := hP.sub (ws' := [cM b mm'_3, (b 4, .inl (cA 0, 8, .inl (bk 4 ix lo y3))), (b 5, .inl (cA 0, 8, .inl (bk 4 ix hi y4))), (b 6, .inl (cA 1, 8, .inl (bk 4 ix rf y5))), (b 8, .inl (cA 0, 8, .inl (bk 4 ix (sdF w rf lo hi sd) y7))), (b 16, .inl (cA 0, 2, .inl (t2 ix (nI QX'_3.1) (nI QY'_3.1)))), (b 17, .inl (cA 0, 24, .inl (bk 12 ix (qc QX'_3 0) (qc QY'_3 0)))), (b 18, .inl (cA 0, 24, .inl (bk 12 ix (qc QX'_3 1) (qc QY'_3 1)))), (b 19, .inl (cA 0, 24, .inl (bk 12 ix (qc QX'_3 2) (qc QY'_3 2)))), (b 20, .inl (cA 0, 96, .inl (bk 48 ix (qw QX'_3) (qw QY'_3)))), (b 21, .inl (cA 0, 4, .inl w)), (b 22, .inl (cA 0, 4, .inl (jAn w rf lo hi)))]) [5, 0, 1, 2, 3, 6, 7, 8, 9, 10, 4, 11] rfl
          have hD := hD.sub (ws' := [cM b mm'_3, (b 4, .inl (cA 0, 8, .inl (bk 4 ix lo y3))), (b 5, .inl (cA 0, 8, .inl (bk 4 ix hi y4))), (b 6, .inl (cA 1, 8, .inl (bk 4 ix rf y5))), (b 8, .inl (cA 0, 8, .inl (bk 4 ix (sdF w rf lo hi sd) y7))), (b 16, .inl (cA 0, 2, .inl (t2 ix (nI QX'_3.1) (nI QY'_3.1)))), (b 17, .inl (cA 0, 24, .inl (bk 12 ix (qc QX'_3 0) (qc QY'_3 0)))), (b 18, .inl (cA 0, 24, .inl (bk 12 ix (qc QX'_3 1) (qc QY'_3 1)))), (b 19, .inl (cA 0, 24, .inl (bk 12 ix (qc QX'_3 2) (qc QY'_3 2)))), (b 20, .inl (cA 0, 96, .inl (bk 48 ix (qw QX'_3) (qw QY'_3)))), (b 21, .inl (cA 0, 4, .inl w)), (b 22, .inl (cA 0, 4, .inl (jAn w rf lo hi)))]) [5, 0, 1, 2, 3, 6, 7, 8, 9, 10, 4, 11] (by decide) rfl
          clear hPc hDc hFc hP1 hD1 hk1 hz1
          obtain ⟨rfl, rfl, rfl⟩ := hw
          refine lv_iload_n hx hb dX4_judges_361 rfl (lv_at hl 1 rfl) ?_
          refine W.widen (k := 0) (n := 0) (by omega) (by omega) ?_
          exact W.zret (v := (bB (gdb w rf lo hi))) hx hb hr (by cases (gdb w rf lo hi) <;> rfl) (fun t ht hW => ⟨⟨bB (gdb w rf lo hi), (sdF w rf lo hi sd, ((sq (mm 0) (pk (jKd w rf lo hi) (mm 3) 0 (jAn w rf lo hi)) QX QY).1), ((sq (mm 0) (pk (jKd w rf lo hi) (mm 3) 0 (jAn w rf lo hi)) QX QY).2), (upd mm 5 (mm 5 + 1))), rfl, ⟨rfl, rfl, rfl, rfl, gdb_r⟩, ⟨by rw [ht]; exact hP, by rw [hAe]; exact hD⟩⟩, hS.F ht⟩) hS.2.2 dX4_judges_362
        · skip
          refine lv_iload_n hx hb dX4_judges_336 rfl (lv_at hl 1 rfl) ?_
          refine lv_if_eq (tgt := 344) hx hb dX4_judges_337 (by decide) (fun c_4 => ?_) (fun c_4 => ?_)
          · skip
            refine lv_iload_n hx hb dX4_judges_344 rfl (lv_at hl 2 rfl) ?_
            refine lv_if_eq (tgt := 352) hx hb dX4_judges_345 (by decide) (fun c_5 => ?_) (fun c_5 => ?_)
            · skip
              refine lv_iconst (v := 2) hx hb dX4_judges_352 (by decide) ?_
              exact kJ _ _ _ _ ⟨(by rw [show jKd w rf lo hi = 2 from (by have qg : (gdb w rf lo hi) = false := (by simpa [bB] using c_4); have qr : (anB (isR w rf) 4) = false := (by simpa [bB] using c_5); exact jKd_c qg qr)]), hP, hD, hS, lv_sub hl [0, 1, 2, 3, 4] rfl⟩
            · skip
              refine lv_iconst (v := 3) hx hb dX4_judges_348 (by decide) ?_
              refine lv_goto (tgt := 353) hx hb dX4_judges_349 (by decide) ?_
              exact kJ _ _ _ _ ⟨(by rw [show jKd w rf lo hi = 3 from (by have qg : (gdb w rf lo hi) = false := (by simpa [bB] using c_4); have qr : (anB (isR w rf) 4) = true := (by simpa [bB] using c_5); exact jKd_r qr)]), hP, hD, hS, lv_sub hl [0, 1, 2, 3, 4] rfl⟩
          · skip
            refine lv_iconst (v := 1) hx hb dX4_judges_340 (by decide) ?_
            refine lv_goto (tgt := 353) hx hb dX4_judges_341 (by decide) ?_
            exact kJ _ _ _ _ ⟨(by rw [show jKd w rf lo hi = 1 from (by have qg : (gdb w rf lo hi) = true := (by simpa [bB] using c_4); exact gdb_k.mp qg)]), hP, hD, hS, lv_sub hl [0, 1, 2, 3, 4] rfl⟩
      · have c_2 := mt (nI_leI (a := 4) (b := j) (by omega) (by omega)).mpr c_2
        refine lv_iconst (v := 4) hx hb dX4_judges_130 (by decide) ?_
        refine lv_iload_n hx hb dX4_judges_131 rfl (lv_at hl 4 rfl) ?_
        refine lv_imul hx hb dX4_judges_132 ?_
        refine z_top (y := (nI (4 * ix))) (z_mul 4 ix) ?_
        refine lv_iload hx hb dX4_judges_133 (lv_at hl 0 rfl) ?_
        refine lv_iadd hx hb dX4_judges_135 ?_
        refine z_top (y := (nI (4 * ix + j))) (z_add (4 * ix) j) ?_
        refine lv_istore (lv' := [(5, .int (nI (4 * ix + j))), (4, .int (nI j)), (3, .int (bB (gdb w rf lo hi))), (2, .int (bB (anB (isR w rf) 4))), (0, .ref (b 0)), (1, .int (nI ix))]) hx hb dX4_judges_136 hl (by decide) rfl (fun ls hl => ?_)
        refine z_cut (Inv := fun H locs ls st => st = [.int (bB (isO w lo hi j))] ∧ va_P D vwCl [cM b mm, (b 4, .inl (cA 0, 8, .inl (bk 4 ix lo y3))), (b 5, .inl (cA 0, 8, .inl (bk 4 ix hi y4))), (b 6, .inl (cA 1, 8, .inl (bk 4 ix rf y5))), (b 8, .inl (cA 0, 8, .inl (bk 4 ix (mix j (sdF w rf lo hi sd) sd) y7))), (b 16, .inl (cA 0, 2, .inl (t2 ix (nI QX.1) (nI QY.1)))), (b 17, .inl (cA 0, 24, .inl (bk 12 ix (qc QX 0) (qc QY 0)))), (b 18, .inl (cA 0, 24, .inl (bk 12 ix (qc QX 1) (qc QY 1)))), (b 19, .inl (cA 0, 24, .inl (bk 12 ix (qc QX 2) (qc QY 2)))), (b 20, .inl (cA 0, 96, .inl (bk 48 ix (qw QX) (qw QY)))), (b 21, .inl (cA 0, 4, .inl w)), (b 22, .inl (cA 0, 4, .inl (mix j (jAn w rf lo hi) sn)))] H ∧ va_D A [cM b mm, (b 4, .inl (cA 0, 8, .inl (bk 4 ix lo y3))), (b 5, .inl (cA 0, 8, .inl (bk 4 ix hi y4))), (b 6, .inl (cA 1, 8, .inl (bk 4 ix rf y5))), (b 8, .inl (cA 0, 8, .inl (bk 4 ix (mix j (sdF w rf lo hi sd) sd) y7))), (b 16, .inl (cA 0, 2, .inl (t2 ix (nI QX.1) (nI QY.1)))), (b 17, .inl (cA 0, 24, .inl (bk 12 ix (qc QX 0) (qc QY 0)))), (b 18, .inl (cA 0, 24, .inl (bk 12 ix (qc QX 1) (qc QY 1)))), (b 19, .inl (cA 0, 24, .inl (bk 12 ix (qc QX 2) (qc QY 2)))), (b 20, .inl (cA 0, 96, .inl (bk 48 ix (qw QX) (qw QY)))), (b 21, .inl (cA 0, 4, .inl w)), (b 22, .inl (cA 0, 4, .inl (mix j (jAn w rf lo hi) sn)))] ∧ va_S A s.heap H locs ∧ lv_has ls 9 [(5, .int (nI (4 * ix + j))), (4, .int (nI j)), (3, .int (bB (gdb w rf lo hi))), (2, .int (bB (anB (isR w rf) 4))), (0, .ref (b 0)), (1, .int (nI ix))]) 182 (fun H locs ls st hI => ?_) (fun kJ => ?_)
        · obtain ⟨rfl, hP, hD, hS, hl⟩ := hI
          refine lv_istore (lv' := [(6, .int (bB (isO w lo hi j))), (5, .int (nI (4 * ix + j))), (4, .int (nI j)), (3, .int (bB (gdb w rf lo hi))), (2, .int (bB (anB (isR w rf) 4))), (0, .ref (b 0)), (1, .int (nI ix))]) hx hb dX4_judges_182 hl (by decide) rfl (fun ls hl => ?_)
          refine z_cut (Inv := fun H locs ls st => st = [.int (nrB w lo hi j)] ∧ va_P D vwCl [cM b mm, (b 4, .inl (cA 0, 8, .inl (bk 4 ix lo y3))), (b 5, .inl (cA 0, 8, .inl (bk 4 ix hi y4))), (b 6, .inl (cA 1, 8, .inl (bk 4 ix rf y5))), (b 8, .inl (cA 0, 8, .inl (bk 4 ix (mix j (sdF w rf lo hi sd) sd) y7))), (b 16, .inl (cA 0, 2, .inl (t2 ix (nI QX.1) (nI QY.1)))), (b 17, .inl (cA 0, 24, .inl (bk 12 ix (qc QX 0) (qc QY 0)))), (b 18, .inl (cA 0, 24, .inl (bk 12 ix (qc QX 1) (qc QY 1)))), (b 19, .inl (cA 0, 24, .inl (bk 12 ix (qc QX 2) (qc QY 2)))), (b 20, .inl (cA 0, 96, .inl (bk 48 ix (qw QX) (qw QY)))), (b 21, .inl (cA 0, 4, .inl w)), (b 22, .inl (cA 0, 4, .inl (mix j (jAn w rf lo hi) sn)))] H ∧ va_D A [cM b mm, (b 4, .inl (cA 0, 8, .inl (bk 4 ix lo y3))), (b 5, .inl (cA 0, 8, .inl (bk 4 ix hi y4))), (b 6, .inl (cA 1, 8, .inl (bk 4 ix rf y5))), (b 8, .inl (cA 0, 8, .inl (bk 4 ix (mix j (sdF w rf lo hi sd) sd) y7))), (b 16, .inl (cA 0, 2, .inl (t2 ix (nI QX.1) (nI QY.1)))), (b 17, .inl (cA 0, 24, .inl (bk 12 ix (qc QX 0) (qc QY 0)))), (b 18, .inl (cA 0, 24, .inl (bk 12 ix (qc QX 1) (qc QY 1)))), (b 19, .inl (cA 0, 24, .inl (bk 12 ix (qc QX 2) (qc QY 2)))), (b 20, .inl (cA 0, 96, .inl (bk 48 ix (qw QX) (qw QY)))), (b 21, .inl (cA 0, 4, .inl w)), (b 22, .inl (cA 0, 4, .inl (mix j (jAn w rf lo hi) sn)))] ∧ va_S A s.heap H locs ∧ lv_has ls 9 [(6, .int (bB (isO w lo hi j))), (5, .int (nI (4 * ix + j))), (4, .int (nI j)), (3, .int (bB (gdb w rf lo hi))), (2, .int (bB (anB (isR w rf) 4))), (0, .ref (b 0)), (1, .int (nI ix))]) 218 (fun H locs ls st hI => ?_) (fun kJ => ?_)
          · obtain ⟨rfl, hP, hD, hS, hl⟩ := hI
            refine lv_istore (lv' := [(7, .int (nrB w lo hi j)), (6, .int (bB (isO w lo hi j))), (5, .int (nI (4 * ix + j))), (4, .int (nI j)), (3, .int (bB (gdb w rf lo hi))), (2, .int (bB (anB (isR w rf) 4))), (0, .ref (b 0)), (1, .int (nI ix))]) hx hb dX4_judges_218 hl (by decide) rfl (fun ls hl => ?_)
            refine z_cut (Inv := fun H locs ls st => st = [.int (bB (hsB w rf lo hi j))] ∧ va_P D vwCl [cM b mm, (b 4, .inl (cA 0, 8, .inl (bk 4 ix lo y3))), (b 5, .inl (cA 0, 8, .inl (bk 4 ix hi y4))), (b 6, .inl (cA 1, 8, .inl (bk 4 ix rf y5))), (b 8, .inl (cA 0, 8, .inl (bk 4 ix (mix j (sdF w rf lo hi sd) sd) y7))), (b 16, .inl (cA 0, 2, .inl (t2 ix (nI QX.1) (nI QY.1)))), (b 17, .inl (cA 0, 24, .inl (bk 12 ix (qc QX 0) (qc QY 0)))), (b 18, .inl (cA 0, 24, .inl (bk 12 ix (qc QX 1) (qc QY 1)))), (b 19, .inl (cA 0, 24, .inl (bk 12 ix (qc QX 2) (qc QY 2)))), (b 20, .inl (cA 0, 96, .inl (bk 48 ix (qw QX) (qw QY)))), (b 21, .inl (cA 0, 4, .inl w)), (b 22, .inl (cA 0, 4, .inl (mix j (jAn w rf lo hi) sn)))] H ∧ va_D A [cM b mm, (b 4, .inl (cA 0, 8, .inl (bk 4 ix lo y3))), (b 5, .inl (cA 0, 8, .inl (bk 4 ix hi y4))), (b 6, .inl (cA 1, 8, .inl (bk 4 ix rf y5))), (b 8, .inl (cA 0, 8, .inl (bk 4 ix (mix j (sdF w rf lo hi sd) sd) y7))), (b 16, .inl (cA 0, 2, .inl (t2 ix (nI QX.1) (nI QY.1)))), (b 17, .inl (cA 0, 24, .inl (bk 12 ix (qc QX 0) (qc QY 0)))), (b 18, .inl (cA 0, 24, .inl (bk 12 ix (qc QX 1) (qc QY 1)))), (b 19, .inl (cA 0, 24, .inl (bk 12 ix (qc QX 2) (qc QY 2)))), (b 20, .inl (cA 0, 96, .inl (bk 48 ix (qw QX) (qw QY)))), (b 21, .inl (cA 0, 4, .inl w)), (b 22, .inl (cA 0, 4, .inl (mix j (jAn w rf lo hi) sn)))] ∧ va_S A s.heap H locs ∧ lv_has ls 9 [(7, .int (nrB w lo hi j)), (6, .int (bB (isO w lo hi j))), (5, .int (nI (4 * ix + j))), (4, .int (nI j)), (3, .int (bB (gdb w rf lo hi))), (2, .int (bB (anB (isR w rf) 4))), (0, .ref (b 0)), (1, .int (nI ix))]) 262 (fun H locs ls st hI => ?_) (fun kJ => ?_)
            · obtain ⟨rfl, hP, hD, hS, hl⟩ := hI
              refine lv_istore (lv' := [(8, .int (bB (hsB w rf lo hi j))), (7, .int (nrB w lo hi j)), (6, .int (bB (isO w lo hi j))), (5, .int (nI (4 * ix + j))), (4, .int (nI j)), (3, .int (bB (gdb w rf lo hi))), (2, .int (bB (anB (isR w rf) 4))), (0, .ref (b 0)), (1, .int (nI ix))]) hx hb dX4_judges_262 hl (by decide) rfl (fun ls hl => ?_)
              refine lv_aload_n hx hb dX4_judges_264 rfl (lv_at hl 7 rfl) ?_
              refine va_get (D := D) (ci := 6) (v := .ref (b 22)) (C := RX4) (T := TX4) (N := 29) hx hb hts (fun _ h => List.mem_cons_of_mem _ (List.mem_append_right _ (h))) hown hK hP 0 rfl rfl 26 (by decide) (hts (.fieldLink RX4 74 "OptionWireModel" "sends" "[I") (List.mem_of_getElem? (i := 5) rfl)) (fun _ h9 => h9) rfl dX4_judges_265 ?_
              refine lv_iload hx hb dX4_judges_268 (lv_at hl 4 rfl) ?_
              refine z_cut (Inv := fun H locs ls st => st = [.int (jAn w rf lo hi j), .int (nI j), .ref (b 22)] ∧ va_P D vwCl [cM b mm, (b 4, .inl (cA 0, 8, .inl (bk 4 ix lo y3))), (b 5, .inl (cA 0, 8, .inl (bk 4 ix hi y4))), (b 6, .inl (cA 1, 8, .inl (bk 4 ix rf y5))), (b 8, .inl (cA 0, 8, .inl (bk 4 ix (mix j (sdF w rf lo hi sd) sd) y7))), (b 16, .inl (cA 0, 2, .inl (t2 ix (nI QX.1) (nI QY.1)))), (b 17, .inl (cA 0, 24, .inl (bk 12 ix (qc QX 0) (qc QY 0)))), (b 18, .inl (cA 0, 24, .inl (bk 12 ix (qc QX 1) (qc QY 1)))), (b 19, .inl (cA 0, 24, .inl (bk 12 ix (qc QX 2) (qc QY 2)))), (b 20, .inl (cA 0, 96, .inl (bk 48 ix (qw QX) (qw QY)))), (b 21, .inl (cA 0, 4, .inl w)), (b 22, .inl (cA 0, 4, .inl (mix j (jAn w rf lo hi) sn)))] H ∧ va_D A [cM b mm, (b 4, .inl (cA 0, 8, .inl (bk 4 ix lo y3))), (b 5, .inl (cA 0, 8, .inl (bk 4 ix hi y4))), (b 6, .inl (cA 1, 8, .inl (bk 4 ix rf y5))), (b 8, .inl (cA 0, 8, .inl (bk 4 ix (mix j (sdF w rf lo hi sd) sd) y7))), (b 16, .inl (cA 0, 2, .inl (t2 ix (nI QX.1) (nI QY.1)))), (b 17, .inl (cA 0, 24, .inl (bk 12 ix (qc QX 0) (qc QY 0)))), (b 18, .inl (cA 0, 24, .inl (bk 12 ix (qc QX 1) (qc QY 1)))), (b 19, .inl (cA 0, 24, .inl (bk 12 ix (qc QX 2) (qc QY 2)))), (b 20, .inl (cA 0, 96, .inl (bk 48 ix (qw QX) (qw QY)))), (b 21, .inl (cA 0, 4, .inl w)), (b 22, .inl (cA 0, 4, .inl (mix j (jAn w rf lo hi) sn)))] ∧ va_S A s.heap H locs ∧ lv_has ls 9 [(8, .int (bB (hsB w rf lo hi j))), (7, .int (nrB w lo hi j)), (6, .int (bB (isO w lo hi j))), (5, .int (nI (4 * ix + j))), (4, .int (nI j)), (3, .int (bB (gdb w rf lo hi))), (2, .int (bB (anB (isR w rf) 4))), (0, .ref (b 0)), (1, .int (nI ix))]) 299 (fun H locs ls st hI => ?_) (fun kJ => ?_)
              · obtain ⟨rfl, hP, hD, hS, hl⟩ := hI
                refine z_iast (k := j) hx hb hK hP hD hS 11 0 rfl rfl rfl (by omega) (by decide) dX4_judges_299 (fun H locs hP hD hS => ?_)
                have hP : va_P D vwCl [cM b mm, (b 4, .inl (cA 0, 8, .inl (bk 4 ix lo y3))), (b 5, .inl (cA 0, 8, .inl (bk 4 ix hi y4))), (b 6, .inl (cA 1, 8, .inl (bk 4 ix rf y5))), (b 8, .inl (cA 0, 8, .inl (bk 4 ix (mix j (sdF w rf lo hi sd) sd) y7))), (b 16, .inl (cA 0, 2, .inl (t2 ix (nI QX.1) (nI QY.1)))), (b 17, .inl (cA 0, 24, .inl (bk 12 ix (qc QX 0) (qc QY 0)))), (b 18, .inl (cA 0, 24, .inl (bk 12 ix (qc QX 1) (qc QY 1)))), (b 19, .inl (cA 0, 24, .inl (bk 12 ix (qc QX 2) (qc QY 2)))), (b 20, .inl (cA 0, 96, .inl (bk 48 ix (qw QX) (qw QY)))), (b 21, .inl (cA 0, 4, .inl w)), (b 22, .inl (cA 0, 4, .inl (upd (mix j (jAn w rf lo hi) sn) j (jAn w rf lo hi j))))] H := hP
                have hD : va_D A [cM b mm, (b 4, .inl (cA 0, 8, .inl (bk 4 ix lo y3))), (b 5, .inl (cA 0, 8, .inl (bk 4 ix hi y4))), (b 6, .inl (cA 1, 8, .inl (bk 4 ix rf y5))), (b 8, .inl (cA 0, 8, .inl (bk 4 ix (mix j (sdF w rf lo hi sd) sd) y7))), (b 16, .inl (cA 0, 2, .inl (t2 ix (nI QX.1) (nI QY.1)))), (b 17, .inl (cA 0, 24, .inl (bk 12 ix (qc QX 0) (qc QY 0)))), (b 18, .inl (cA 0, 24, .inl (bk 12 ix (qc QX 1) (qc QY 1)))), (b 19, .inl (cA 0, 24, .inl (bk 12 ix (qc QX 2) (qc QY 2)))), (b 20, .inl (cA 0, 96, .inl (bk 48 ix (qw QX) (qw QY)))), (b 21, .inl (cA 0, 4, .inl w)), (b 22, .inl (cA 0, 4, .inl (upd (mix j (jAn w rf lo hi) sn) j (jAn w rf lo hi j))))] := hD
                refine lv_aload_n hx hb dX4_judges_300 rfl (lv_at hl 7 rfl) ?_
                refine va_get (D := D) (ci := 6) (v := .ref (b 8)) (C := RX4) (T := TX4) (N := 29) hx hb hts (fun _ h => List.mem_cons_of_mem _ (List.mem_append_right _ (h))) hown hK hP 0 rfl rfl 9 (by decide) (hts (.fieldLink RX4 32 "OptionWireModel" "said" "[I") (List.mem_of_getElem? (i := 6) rfl)) (fun _ h9 => h9) rfl dX4_judges_301 ?_
                refine lv_iload hx hb dX4_judges_304 (lv_at hl 3 rfl) ?_
                refine z_cut (Inv := fun H locs ls st => st = [.int (sdF w rf lo hi sd j), .int (nI (4 * ix + j)), .ref (b 8)] ∧ va_P D vwCl [cM b mm, (b 4, .inl (cA 0, 8, .inl (bk 4 ix lo y3))), (b 5, .inl (cA 0, 8, .inl (bk 4 ix hi y4))), (b 6, .inl (cA 1, 8, .inl (bk 4 ix rf y5))), (b 8, .inl (cA 0, 8, .inl (bk 4 ix (mix j (sdF w rf lo hi sd) sd) y7))), (b 16, .inl (cA 0, 2, .inl (t2 ix (nI QX.1) (nI QY.1)))), (b 17, .inl (cA 0, 24, .inl (bk 12 ix (qc QX 0) (qc QY 0)))), (b 18, .inl (cA 0, 24, .inl (bk 12 ix (qc QX 1) (qc QY 1)))), (b 19, .inl (cA 0, 24, .inl (bk 12 ix (qc QX 2) (qc QY 2)))), (b 20, .inl (cA 0, 96, .inl (bk 48 ix (qw QX) (qw QY)))), (b 21, .inl (cA 0, 4, .inl w)), (b 22, .inl (cA 0, 4, .inl (upd (mix j (jAn w rf lo hi) sn) j (jAn w rf lo hi j))))] H ∧ va_D A [cM b mm, (b 4, .inl (cA 0, 8, .inl (bk 4 ix lo y3))), (b 5, .inl (cA 0, 8, .inl (bk 4 ix hi y4))), (b 6, .inl (cA 1, 8, .inl (bk 4 ix rf y5))), (b 8, .inl (cA 0, 8, .inl (bk 4 ix (mix j (sdF w rf lo hi sd) sd) y7))), (b 16, .inl (cA 0, 2, .inl (t2 ix (nI QX.1) (nI QY.1)))), (b 17, .inl (cA 0, 24, .inl (bk 12 ix (qc QX 0) (qc QY 0)))), (b 18, .inl (cA 0, 24, .inl (bk 12 ix (qc QX 1) (qc QY 1)))), (b 19, .inl (cA 0, 24, .inl (bk 12 ix (qc QX 2) (qc QY 2)))), (b 20, .inl (cA 0, 96, .inl (bk 48 ix (qw QX) (qw QY)))), (b 21, .inl (cA 0, 4, .inl w)), (b 22, .inl (cA 0, 4, .inl (upd (mix j (jAn w rf lo hi) sn) j (jAn w rf lo hi j))))] ∧ va_S A s.heap H locs ∧ lv_has ls 9 [(8, .int (bB (hsB w rf lo hi j))), (7, .int (nrB w lo hi j)), (6, .int (bB (isO w lo hi j))), (5, .int (nI (4 * ix + j))), (4, .int (nI j)), (3, .int (bB (gdb w rf lo hi))), (2, .int (bB (anB (isR w rf) 4))), (0, .ref (b 0)), (1, .int (nI ix))]) 327 (fun H locs ls st hI => ?_) (fun kJ => ?_)
                · obtain ⟨rfl, hP, hD, hS, hl⟩ := hI
                  refine z_iast (k := (4 * ix + j)) hx hb hK hP hD hS 4 0 rfl rfl rfl (by omega) (by decide) dX4_judges_327 (fun H locs hP hD hS => ?_)
                  have hP : va_P D vwCl [cM b mm, (b 4, .inl (cA 0, 8, .inl (bk 4 ix lo y3))), (b 5, .inl (cA 0, 8, .inl (bk 4 ix hi y4))), (b 6, .inl (cA 1, 8, .inl (bk 4 ix rf y5))), (b 8, .inl (cA 0, 8, .inl (upd (bk 4 ix (mix j (sdF w rf lo hi sd) sd) y7) (4 * ix + j) (sdF w rf lo hi sd j)))), (b 16, .inl (cA 0, 2, .inl (t2 ix (nI QX.1) (nI QY.1)))), (b 17, .inl (cA 0, 24, .inl (bk 12 ix (qc QX 0) (qc QY 0)))), (b 18, .inl (cA 0, 24, .inl (bk 12 ix (qc QX 1) (qc QY 1)))), (b 19, .inl (cA 0, 24, .inl (bk 12 ix (qc QX 2) (qc QY 2)))), (b 20, .inl (cA 0, 96, .inl (bk 48 ix (qw QX) (qw QY)))), (b 21, .inl (cA 0, 4, .inl w)), (b 22, .inl (cA 0, 4, .inl (upd (mix j (jAn w rf lo hi) sn) j (jAn w rf lo hi j))))] H := hP
                  have hD : va_D A [cM b mm, (b 4, .inl (cA 0, 8, .inl (bk 4 ix lo y3))), (b 5, .inl (cA 0, 8, .inl (bk 4 ix hi y4))), (b 6, .inl (cA 1, 8, .inl (bk 4 ix rf y5))), (b 8, .inl (cA 0, 8, .inl (upd (bk 4 ix (mix j (sdF w rf lo hi sd) sd) y7) (4 * ix + j) (sdF w rf lo hi sd j)))), (b 16, .inl (cA 0, 2, .inl (t2 ix (nI QX.1) (nI QY.1)))), (b 17, .inl (cA 0, 24, .inl (bk 12 ix (qc QX 0) (qc QY 0)))), (b 18, .inl (cA 0, 24, .inl (bk 12 ix (qc QX 1) (qc QY 1)))), (b 19, .inl (cA 0, 24, .inl (bk 12 ix (qc QX 2) (qc QY 2)))), (b 20, .inl (cA 0, 96, .inl (bk 48 ix (qw QX) (qw QY)))), (b 21, .inl (cA 0, 4, .inl w)), (b 22, .inl (cA 0, 4, .inl (upd (mix j (jAn w rf lo hi) sn) j (jAn w rf lo hi j))))] := hD
                  rw [show upd (bk 4 ix (mix j (sdF w rf lo hi sd) sd) y7) (4 * ix + j) (sdF w rf lo hi sd j) = bk 4 ix (upd (mix j (sdF w rf lo hi sd) sd) j (sdF w rf lo hi sd j)) y7 from (bk_ux (by omega))] at hP hD
                  refine lv_iinc (v := nI (j + 1)) (lv' := [(4, .int (nI (j + 1))), (8, .int (bB (hsB w rf lo hi j))), (7, .int (nrB w lo hi j)), (6, .int (bB (isO w lo hi j))), (5, .int (nI (4 * ix + j))), (3, .int (bB (gdb w rf lo hi))), (2, .int (bB (anB (isR w rf) 4))), (0, .ref (b 0)), (1, .int (nI ix))]) hx hb dX4_judges_328 hl (k := 4) rfl (z_inc j 1) (by decide) rfl (fun ls hl => ?_)
                  refine lv_goto (tgt := 124) hx hb dX4_judges_331 (by decide) ?_
                  have hP : va_P D vwCl [cM b mm, (b 4, .inl (cA 0, 8, .inl (bk 4 ix lo y3))), (b 5, .inl (cA 0, 8, .inl (bk 4 ix hi y4))), (b 6, .inl (cA 1, 8, .inl (bk 4 ix rf y5))), (b 8, .inl (cA 0, 8, .inl (bk 4 ix (upd (mix j (sdF w rf lo hi sd) sd) j (sdF w rf lo hi sd j)) y7))), (b 16, .inl (cA 0, 2, .inl (t2 ix (nI QX.1) (nI QY.1)))), (b 17, .inl (cA 0, 24, .inl (bk 12 ix (qc QX 0) (qc QY 0)))), (b 18, .inl (cA 0, 24, .inl (bk 12 ix (qc QX 1) (qc QY 1)))), (b 19, .inl (cA 0, 24, .inl (bk 12 ix (qc QX 2) (qc QY 2)))), (b 20, .inl (cA 0, 96, .inl (bk 48 ix (qw QX) (qw QY)))), (b 21, .inl (cA 0, 4, .inl w)), (b 22, .inl (cA 0, 4, .inl (mix (j + 1) (jAn w rf lo hi) sn)))] H := z_row hP 11 rfl (fun k _ => congrFun (show upd (mix j (jAn w rf lo hi) sn) j (jAn w rf lo hi j) = mix (j + 1) (jAn w rf lo hi) sn from mix_put rfl) k)
                  have hD : va_D A [cM b mm, (b 4, .inl (cA 0, 8, .inl (bk 4 ix lo y3))), (b 5, .inl (cA 0, 8, .inl (bk 4 ix hi y4))), (b 6, .inl (cA 1, 8, .inl (bk 4 ix rf y5))), (b 8, .inl (cA 0, 8, .inl (bk 4 ix (upd (mix j (sdF w rf lo hi sd) sd) j (sdF w rf lo hi sd j)) y7))), (b 16, .inl (cA 0, 2, .inl (t2 ix (nI QX.1) (nI QY.1)))), (b 17, .inl (cA 0, 24, .inl (bk 12 ix (qc QX 0) (qc QY 0)))), (b 18, .inl (cA 0, 24, .inl (bk 12 ix (qc QX 1) (qc QY 1)))), (b 19, .inl (cA 0, 24, .inl (bk 12 ix (qc QX 2) (qc QY 2)))), (b 20, .inl (cA 0, 96, .inl (bk 48 ix (qw QX) (qw QY)))), (b 21, .inl (cA 0, 4, .inl w)), (b 22, .inl (cA 0, 4, .inl (mix (j + 1) (jAn w rf lo hi) sn)))] := hD.set (p := 11) rfl
                  have hP : va_P D vwCl [cM b mm, (b 4, .inl (cA 0, 8, .inl (bk 4 ix lo y3))), (b 5, .inl (cA 0, 8, .inl (bk 4 ix hi y4))), (b 6, .inl (cA 1, 8, .inl (bk 4 ix rf y5))), (b 8, .inl (cA 0, 8, .inl (bk 4 ix (mix (j + 1) (sdF w rf lo hi sd) sd) y7))), (b 16, .inl (cA 0, 2, .inl (t2 ix (nI QX.1) (nI QY.1)))), (b 17, .inl (cA 0, 24, .inl (bk 12 ix (qc QX 0) (qc QY 0)))), (b 18, .inl (cA 0, 24, .inl (bk 12 ix (qc QX 1) (qc QY 1)))), (b 19, .inl (cA 0, 24, .inl (bk 12 ix (qc QX 2) (qc QY 2)))), (b 20, .inl (cA 0, 96, .inl (bk 48 ix (qw QX) (qw QY)))), (b 21, .inl (cA 0, 4, .inl w)), (b 22, .inl (cA 0, 4, .inl (mix (j + 1) (jAn w rf lo hi) sn)))] H := z_row hP 4 rfl (fun k _ => congrFun (show bk 4 ix (upd (mix j (sdF w rf lo hi sd) sd) j (sdF w rf lo hi sd j)) y7 = bk 4 ix (mix (j + 1) (sdF w rf lo hi sd) sd) y7 from (bk_cx (mix_put rfl))) k)
                  have hD : va_D A [cM b mm, (b 4, .inl (cA 0, 8, .inl (bk 4 ix lo y3))), (b 5, .inl (cA 0, 8, .inl (bk 4 ix hi y4))), (b 6, .inl (cA 1, 8, .inl (bk 4 ix rf y5))), (b 8, .inl (cA 0, 8, .inl (bk 4 ix (mix (j + 1) (sdF w rf lo hi sd) sd) y7))), (b 16, .inl (cA 0, 2, .inl (t2 ix (nI QX.1) (nI QY.1)))), (b 17, .inl (cA 0, 24, .inl (bk 12 ix (qc QX 0) (qc QY 0)))), (b 18, .inl (cA 0, 24, .inl (bk 12 ix (qc QX 1) (qc QY 1)))), (b 19, .inl (cA 0, 24, .inl (bk 12 ix (qc QX 2) (qc QY 2)))), (b 20, .inl (cA 0, 96, .inl (bk 48 ix (qw QX) (qw QY)))), (b 21, .inl (cA 0, 4, .inl w)), (b 22, .inl (cA 0, 4, .inl (mix (j + 1) (jAn w rf lo hi) sn)))] := hD.set (p := 4) rfl
                  exact ih_j _ _ _ (by omega) ⟨hP, hD, hS, lv_sub hl [0, 5, 6, 7, 8] rfl⟩
                · skip
                  refine lv_iload_n hx hb dX4_judges_306 rfl (lv_at hl 5 rfl) ?_
                  refine lv_if_eq (tgt := 320) hx hb dX4_judges_307 (by decide) (fun c_6 => ?_) (fun c_6 => ?_)
                  · skip
                    refine lv_aload_n hx hb dX4_judges_320 rfl (lv_at hl 7 rfl) ?_
                    refine va_get (D := D) (ci := 6) (v := .ref (b 8)) (C := RX4) (T := TX4) (N := 29) hx hb hts (fun _ h => List.mem_cons_of_mem _ (List.mem_append_right _ (h))) hown hK hP 0 rfl rfl 9 (by decide) (hts (.fieldLink RX4 32 "OptionWireModel" "said" "[I") (List.mem_of_getElem? (i := 6) rfl)) (fun _ h9 => h9) rfl dX4_judges_321 ?_
                    refine lv_iload hx hb dX4_judges_324 (lv_at hl 3 rfl) ?_
                    refine z_iald (k := (4 * ix + j)) (v := (mix j (sdF w rf lo hi sd) sd j)) hx hb hK hP 4 0 rfl rfl rfl (by omega) (by decide) (bk_x (by omega)) dX4_judges_326 ?_
                    exact kJ _ _ _ _ ⟨(by rw [show sdF w rf lo hi sd j = mix j (sdF w rf lo hi sd) sd j from (by have qg : gdb w rf lo hi = false := (by simpa [bB] using c_6); simp [sdF, qg, mix])]), hP, hD, hS, lv_sub hl [0, 1, 2, 3, 4, 5, 6, 7, 8] rfl⟩
                  · skip
                    refine lv_aload_n hx hb dX4_judges_310 rfl (lv_at hl 7 rfl) ?_
                    refine va_get (D := D) (ci := 6) (v := .ref (b 21)) (C := RX4) (T := TX4) (N := 29) hx hb hts (fun _ h => List.mem_cons_of_mem _ (List.mem_append_right _ (h))) hown hK hP 0 rfl rfl 25 (by decide) (hts (.fieldLink RX4 71 "OptionWireModel" "his" "[I") (List.mem_of_getElem? (i := 1) rfl)) (fun _ h9 => h9) rfl dX4_judges_311 ?_
                    refine lv_iload hx hb dX4_judges_314 (lv_at hl 4 rfl) ?_
                    refine z_iald (k := j) (v := (w j)) hx hb hK hP 10 0 rfl rfl rfl (by omega) (by decide) rfl dX4_judges_316 ?_
                    refine lv_goto (tgt := 327) hx hb dX4_judges_317 (by decide) ?_
                    exact kJ _ _ _ _ ⟨(by rw [show sdF w rf lo hi sd j = w j from (by have qg : gdb w rf lo hi = true := (by simpa [bB] using c_6); simp [sdF, qg])]), hP, hD, hS, lv_sub hl [0, 1, 2, 3, 4, 5, 6, 7, 8] rfl⟩
              · skip
                refine lv_iload hx hb dX4_judges_270 (lv_at hl 0 rfl) ?_
                refine lv_if_ne (tgt := 279) hx hb dX4_judges_272 (by decide) (fun c_7 => ?_) (fun c_7 => ?_)
                · skip
                  refine lv_iload_n hx hb dX4_judges_279 rfl (lv_at hl 5 rfl) ?_
                  refine lv_if_ne (tgt := 287) hx hb dX4_judges_280 (by decide) (fun c_8 => ?_) (fun c_8 => ?_)
                  · skip
                    refine lv_aload_n hx hb dX4_judges_287 rfl (lv_at hl 7 rfl) ?_
                    refine va_get (D := D) (ci := 6) (v := .ref (b 21)) (C := RX4) (T := TX4) (N := 29) hx hb hts (fun _ h => List.mem_cons_of_mem _ (List.mem_append_right _ (h))) hown hK hP 0 rfl rfl 25 (by decide) (hts (.fieldLink RX4 71 "OptionWireModel" "his" "[I") (List.mem_of_getElem? (i := 1) rfl)) (fun _ h9 => h9) rfl dX4_judges_288 ?_
                    refine lv_iload hx hb dX4_judges_291 (lv_at hl 4 rfl) ?_
                    refine z_iald (k := j) (v := (w j)) hx hb hK hP 10 0 rfl rfl rfl (by omega) (by decide) rfl dX4_judges_293 ?_
                    refine lv_goto (tgt := 299) hx hb dX4_judges_294 (by decide) ?_
                    exact kJ _ _ _ _ ⟨(by rw [show jAn w rf lo hi j = w j from (by have qh : (hsB w rf lo hi j) = true := (by simpa [bB] using c_7); have qg : (gdb w rf lo hi) = true := (by simpa [bB] using c_8); rw [jAn_g qg])]), hP, hD, hS, lv_sub hl [0, 1, 2, 3, 4, 5, 6, 7, 8] rfl⟩
                  · skip
                    refine lv_iload_n hx hb dX4_judges_283 rfl (lv_at hl 6 rfl) ?_
                    refine lv_if_eq (tgt := 297) hx hb dX4_judges_284 (by decide) (fun c_9 => ?_) (fun c_9 => ?_)
                    · skip
                      refine lv_iload hx hb dX4_judges_297 (lv_at hl 1 rfl) ?_
                      exact kJ _ _ _ _ ⟨(by rw [show jAn w rf lo hi j = nrB w lo hi j from (by have qh : (hsB w rf lo hi j) = true := (by simpa [bB] using c_7); have qg : (gdb w rf lo hi) = false := (by simpa [bB] using c_8); have qr : (anB (isR w rf) 4) = false := (by simpa [bB] using c_9); exact jAn_o (hbd j (by omega)) qh qg qr)]), hP, hD, hS, lv_sub hl [0, 1, 2, 3, 4, 5, 6, 7, 8] rfl⟩
                    · skip
                      refine lv_aload_n hx hb dX4_judges_287 rfl (lv_at hl 7 rfl) ?_
                      refine va_get (D := D) (ci := 6) (v := .ref (b 21)) (C := RX4) (T := TX4) (N := 29) hx hb hts (fun _ h => List.mem_cons_of_mem _ (List.mem_append_right _ (h))) hown hK hP 0 rfl rfl 25 (by decide) (hts (.fieldLink RX4 71 "OptionWireModel" "his" "[I") (List.mem_of_getElem? (i := 1) rfl)) (fun _ h9 => h9) rfl dX4_judges_288 ?_
                      refine lv_iload hx hb dX4_judges_291 (lv_at hl 4 rfl) ?_
                      refine z_iald (k := j) (v := (w j)) hx hb hK hP 10 0 rfl rfl rfl (by omega) (by decide) rfl dX4_judges_293 ?_
                      refine lv_goto (tgt := 299) hx hb dX4_judges_294 (by decide) ?_
                      exact kJ _ _ _ _ ⟨(by rw [show jAn w rf lo hi j = w j from (by have qh : (hsB w rf lo hi j) = true := (by simpa [bB] using c_7); have qg : (gdb w rf lo hi) = false := (by simpa [bB] using c_8); have qr : (anB (isR w rf) 4) = true := (by simpa [bB] using c_9); exact jAn_r qh qr)]), hP, hD, hS, lv_sub hl [0, 1, 2, 3, 4, 5, 6, 7, 8] rfl⟩
                · skip
                  refine lv_iconst (v := (-1)) hx hb dX4_judges_275 (by decide) ?_
                  refine lv_goto (tgt := 299) hx hb dX4_judges_276 (by decide) ?_
                  exact kJ _ _ _ _ ⟨(by rw [show jAn w rf lo hi j = (-1) from (by have qh : (hsB w rf lo hi j) = false := (by simpa [bB] using c_7); exact jAn_n qh)]), hP, hD, hS, lv_sub hl [0, 1, 2, 3, 4, 5, 6, 7, 8] rfl⟩
            · skip
              refine lv_iload_n hx hb dX4_judges_220 rfl (lv_at hl 4 rfl) ?_
              refine lv_if_ne (tgt := 257) hx hb dX4_judges_221 (by decide) (fun c_10 => ?_) (fun c_10 => ?_)
              · skip
                refine lv_iconst (v := 1) hx hb dX4_judges_257 (by decide) ?_
                refine lv_goto (tgt := 262) hx hb dX4_judges_258 (by decide) ?_
                exact kJ _ _ _ _ ⟨(by rw [show bB (hsB w rf lo hi j) = 1 from (by have q1 : (gdb w rf lo hi) = true := (by simpa [bB] using c_10); simp_all [hsB, gdb, bB])]), hP, hD, hS, lv_sub hl [0, 1, 2, 3, 4, 5, 6, 7] rfl⟩
              · skip
                refine lv_aload_n hx hb dX4_judges_224 rfl (lv_at hl 6 rfl) ?_
                refine va_get (D := D) (ci := 6) (v := .ref (b 21)) (C := RX4) (T := TX4) (N := 29) hx hb hts (fun _ h => List.mem_cons_of_mem _ (List.mem_append_right _ (h))) hown hK hP 0 rfl rfl 25 (by decide) (hts (.fieldLink RX4 71 "OptionWireModel" "his" "[I") (List.mem_of_getElem? (i := 1) rfl)) (fun _ h9 => h9) rfl dX4_judges_225 ?_
                refine lv_iload hx hb dX4_judges_228 (lv_at hl 3 rfl) ?_
                refine z_iald (k := j) (v := (w j)) hx hb hK hP 10 0 rfl rfl rfl (by omega) (by decide) rfl dX4_judges_230 ?_
                refine lv_iconst (v := (-1)) hx hb dX4_judges_231 (by decide) ?_
                refine lv_icmp_eq (tgt := 261) hx hb dX4_judges_232 (by decide) (fun c_11 => ?_) (fun c_11 => ?_)
                · skip
                  refine lv_iconst (v := 0) hx hb dX4_judges_261 (by decide) ?_
                  exact kJ _ _ _ _ ⟨(by rw [show bB (hsB w rf lo hi j) = 0 from (by have q1 : (gdb w rf lo hi) = false := (by simpa [bB] using c_10); simp_all [hsB, gdb, bB])]), hP, hD, hS, lv_sub hl [0, 1, 2, 3, 4, 5, 6, 7] rfl⟩
                · skip
                  refine lv_iload_n hx hb dX4_judges_235 rfl (lv_at hl 5 rfl) ?_
                  refine lv_if_eq (tgt := 252) hx hb dX4_judges_236 (by decide) (fun c_12 => ?_) (fun c_12 => ?_)
                  · skip
                    refine lv_iload hx hb dX4_judges_252 (lv_at hl 1 rfl) ?_
                    refine lv_if_eq (tgt := 261) hx hb dX4_judges_254 (by decide) (fun c_13 => ?_) (fun c_13 => ?_)
                    · skip
                      refine lv_iconst (v := 0) hx hb dX4_judges_261 (by decide) ?_
                      exact kJ _ _ _ _ ⟨(by rw [show bB (hsB w rf lo hi j) = 0 from (by have q1 : (gdb w rf lo hi) = false := (by simpa [bB] using c_10); have q2 : (anB (isR w rf) 4) = false := (by simpa [bB] using c_12); have q3 : (isO w lo hi j) = false := (by simpa [bB] using c_13); simp_all [hsB, gdb, bB])]), hP, hD, hS, lv_sub hl [0, 1, 2, 3, 4, 5, 6, 7] rfl⟩
                    · skip
                      refine lv_iconst (v := 1) hx hb dX4_judges_257 (by decide) ?_
                      refine lv_goto (tgt := 262) hx hb dX4_judges_258 (by decide) ?_
                      exact kJ _ _ _ _ ⟨(by rw [show bB (hsB w rf lo hi j) = 1 from (by have q1 : (gdb w rf lo hi) = false := (by simpa [bB] using c_10); have q2 : (anB (isR w rf) 4) = false := (by simpa [bB] using c_12); have q3 : (isO w lo hi j) = true := (by simpa [bB] using c_13); simp_all [hsB, gdb, bB])]), hP, hD, hS, lv_sub hl [0, 1, 2, 3, 4, 5, 6, 7] rfl⟩
                  · skip
                    refine lv_aload_n hx hb dX4_judges_239 rfl (lv_at hl 6 rfl) ?_
                    refine va_get (D := D) (ci := 6) (v := .ref (b 6)) (C := RX4) (T := TX4) (N := 29) hx hb hts (fun _ h => List.mem_cons_of_mem _ (List.mem_append_right _ (h))) hown hK hP 0 rfl rfl 7 (by decide) (hts (.fieldLink RX4 25 "OptionWireModel" "refuses" "[Z") (List.mem_of_getElem? (i := 2) rfl)) (fun _ h9 => h9) rfl dX4_judges_240 ?_
                    refine lv_iload hx hb dX4_judges_243 (lv_at hl 2 rfl) ?_
                    refine z_zald (k := (4 * ix + j)) (v := (rf j)) hx hb hK hP 3 1 rfl rfl rfl (by omega) (by decide) (bk_x (by omega)) dX4_judges_245 ?_
                    refine lv_if_eq (tgt := 261) hx hb dX4_judges_246 (by decide) (fun c_14 => ?_) (fun c_14 => ?_)
                    · skip
                      refine lv_iconst (v := 0) hx hb dX4_judges_261 (by decide) ?_
                      exact kJ _ _ _ _ ⟨(by rw [show bB (hsB w rf lo hi j) = 0 from (by have q1 : (gdb w rf lo hi) = false := (by simpa [bB] using c_10); have q2 : (anB (isR w rf) 4) = true := (by simpa [bB] using c_12); simp_all [hsB, gdb, bB])]), hP, hD, hS, lv_sub hl [0, 1, 2, 3, 4, 5, 6, 7] rfl⟩
                    · skip
                      refine lv_goto (tgt := 257) hx hb dX4_judges_249 (by decide) ?_
                      refine lv_iconst (v := 1) hx hb dX4_judges_257 (by decide) ?_
                      refine lv_goto (tgt := 262) hx hb dX4_judges_258 (by decide) ?_
                      exact kJ _ _ _ _ ⟨(by rw [show bB (hsB w rf lo hi j) = 1 from (by have q1 : (gdb w rf lo hi) = false := (by simpa [bB] using c_10); have q2 : (anB (isR w rf) 4) = true := (by simpa [bB] using c_12); simp_all [hsB, gdb, bB])]), hP, hD, hS, lv_sub hl [0, 1, 2, 3, 4, 5, 6, 7] rfl⟩
          · skip
            refine lv_aload_n hx hb dX4_judges_184 rfl (lv_at hl 5 rfl) ?_
            refine va_get (D := D) (ci := 6) (v := .ref (b 21)) (C := RX4) (T := TX4) (N := 29) hx hb hts (fun _ h => List.mem_cons_of_mem _ (List.mem_append_right _ (h))) hown hK hP 0 rfl rfl 25 (by decide) (hts (.fieldLink RX4 71 "OptionWireModel" "his" "[I") (List.mem_of_getElem? (i := 1) rfl)) (fun _ h9 => h9) rfl dX4_judges_185 ?_
            refine lv_iload hx hb dX4_judges_188 (lv_at hl 2 rfl) ?_
            refine z_iald (k := j) (v := (w j)) hx hb hK hP 10 0 rfl rfl rfl (by omega) (by decide) rfl dX4_judges_190 ?_
            refine lv_aload_n hx hb dX4_judges_191 rfl (lv_at hl 5 rfl) ?_
            refine va_get (D := D) (ci := 6) (v := .ref (b 4)) (C := RX4) (T := TX4) (N := 29) hx hb hts (fun _ h => List.mem_cons_of_mem _ (List.mem_append_right _ (h))) hown hK hP 0 rfl rfl 5 (by decide) (hts (.fieldLink RX4 19 "OptionWireModel" "boundLeast" "[I") (List.mem_of_getElem? (i := 3) rfl)) (fun _ h9 => h9) rfl dX4_judges_192 ?_
            refine lv_iload hx hb dX4_judges_195 (lv_at hl 1 rfl) ?_
            refine z_iald (k := (4 * ix + j)) (v := (lo j)) hx hb hK hP 1 0 rfl rfl rfl (by omega) (by decide) (bk_x (by omega)) dX4_judges_197 ?_
            refine lv_icmp_ge (tgt := 211) hx hb dX4_judges_198 (by decide) (fun c_15 => ?_) (fun c_15 => ?_)
            · skip
              refine lv_aload_n hx hb dX4_judges_211 rfl (lv_at hl 5 rfl) ?_
              refine va_get (D := D) (ci := 6) (v := .ref (b 5)) (C := RX4) (T := TX4) (N := 29) hx hb hts (fun _ h => List.mem_cons_of_mem _ (List.mem_append_right _ (h))) hown hK hP 0 rfl rfl 6 (by decide) (hts (.fieldLink RX4 22 "OptionWireModel" "boundMost" "[I") (List.mem_of_getElem? (i := 4) rfl)) (fun _ h9 => h9) rfl dX4_judges_212 ?_
              refine lv_iload hx hb dX4_judges_215 (lv_at hl 1 rfl) ?_
              refine z_iald (k := (4 * ix + j)) (v := (hi j)) hx hb hK hP 2 0 rfl rfl rfl (by omega) (by decide) (bk_x (by omega)) dX4_judges_217 ?_
              exact kJ _ _ _ _ ⟨(by rw [show nrB w lo hi j = hi j from (if_neg (Int32.not_lt.mpr c_15))]), hP, hD, hS, lv_sub hl [0, 1, 2, 3, 4, 5, 6] rfl⟩
            · skip
              refine lv_aload_n hx hb dX4_judges_201 rfl (lv_at hl 5 rfl) ?_
              refine va_get (D := D) (ci := 6) (v := .ref (b 4)) (C := RX4) (T := TX4) (N := 29) hx hb hts (fun _ h => List.mem_cons_of_mem _ (List.mem_append_right _ (h))) hown hK hP 0 rfl rfl 5 (by decide) (hts (.fieldLink RX4 19 "OptionWireModel" "boundLeast" "[I") (List.mem_of_getElem? (i := 3) rfl)) (fun _ h9 => h9) rfl dX4_judges_202 ?_
              refine lv_iload hx hb dX4_judges_205 (lv_at hl 1 rfl) ?_
              refine z_iald (k := (4 * ix + j)) (v := (lo j)) hx hb hK hP 1 0 rfl rfl rfl (by omega) (by decide) (bk_x (by omega)) dX4_judges_207 ?_
              refine lv_goto (tgt := 218) hx hb dX4_judges_208 (by decide) ?_
              exact kJ _ _ _ _ ⟨(by rw [show nrB w lo hi j = lo j from (if_pos (Int32.not_le.mp c_15))]), hP, hD, hS, lv_sub hl [0, 1, 2, 3, 4, 5, 6] rfl⟩
        · skip
          refine lv_aload_n hx hb dX4_judges_138 rfl (lv_at hl 4 rfl) ?_
          refine va_get (D := D) (ci := 6) (v := .ref (b 21)) (C := RX4) (T := TX4) (N := 29) hx hb hts (fun _ h => List.mem_cons_of_mem _ (List.mem_append_right _ (h))) hown hK hP 0 rfl rfl 25 (by decide) (hts (.fieldLink RX4 71 "OptionWireModel" "his" "[I") (List.mem_of_getElem? (i := 1) rfl)) (fun _ h9 => h9) rfl dX4_judges_139 ?_
          refine lv_iload hx hb dX4_judges_142 (lv_at hl 1 rfl) ?_
          refine z_iald (k := j) (v := (w j)) hx hb hK hP 10 0 rfl rfl rfl (by omega) (by decide) rfl dX4_judges_144 ?_
          refine lv_iconst (v := (-1)) hx hb dX4_judges_145 (by decide) ?_
          refine lv_icmp_eq (tgt := 181) hx hb dX4_judges_146 (by decide) (fun c_16 => ?_) (fun c_16 => ?_)
          · skip
            refine lv_iconst (v := 0) hx hb dX4_judges_181 (by decide) ?_
            exact kJ _ _ _ _ ⟨(by rw [show bB (isO w lo hi j) = 0 from (by rw [isO_n1 c_16]; rfl)]), hP, hD, hS, lv_sub hl [0, 1, 2, 3, 4, 5] rfl⟩
          · skip
            refine lv_aload_n hx hb dX4_judges_149 rfl (lv_at hl 4 rfl) ?_
            refine lv_aload_n hx hb dX4_judges_150 rfl (lv_at hl 4 rfl) ?_
            refine va_get (D := D) (ci := 6) (v := .ref (b 21)) (C := RX4) (T := TX4) (N := 29) hx hb hts (fun _ h => List.mem_cons_of_mem _ (List.mem_append_right _ (h))) hown hK hP 0 rfl rfl 25 (by decide) (hts (.fieldLink RX4 71 "OptionWireModel" "his" "[I") (List.mem_of_getElem? (i := 1) rfl)) (fun _ h9 => h9) rfl dX4_judges_151 ?_
            refine lv_iload hx hb dX4_judges_154 (lv_at hl 1 rfl) ?_
            refine z_iald (k := j) (v := (w j)) hx hb hK hP 10 0 rfl rfl rfl (by omega) (by decide) rfl dX4_judges_156 ?_
            refine lv_aload_n hx hb dX4_judges_157 rfl (lv_at hl 4 rfl) ?_
            refine va_get (D := D) (ci := 6) (v := .ref (b 4)) (C := RX4) (T := TX4) (N := 29) hx hb hts (fun _ h => List.mem_cons_of_mem _ (List.mem_append_right _ (h))) hown hK hP 0 rfl rfl 5 (by decide) (hts (.fieldLink RX4 19 "OptionWireModel" "boundLeast" "[I") (List.mem_of_getElem? (i := 3) rfl)) (fun _ h9 => h9) rfl dX4_judges_158 ?_
            refine lv_iload hx hb dX4_judges_161 (lv_at hl 0 rfl) ?_
            refine z_iald (k := (4 * ix + j)) (v := (lo j)) hx hb hK hP 1 0 rfl rfl rfl (by omega) (by decide) (bk_x (by omega)) dX4_judges_163 ?_
            refine lv_aload_n hx hb dX4_judges_164 rfl (lv_at hl 4 rfl) ?_
            refine va_get (D := D) (ci := 6) (v := .ref (b 5)) (C := RX4) (T := TX4) (N := 29) hx hb hts (fun _ h => List.mem_cons_of_mem _ (List.mem_append_right _ (h))) hown hK hP 0 rfl rfl 6 (by decide) (hts (.fieldLink RX4 22 "OptionWireModel" "boundMost" "[I") (List.mem_of_getElem? (i := 4) rfl)) (fun _ h9 => h9) rfl dX4_judges_165 ?_
            refine lv_iload hx hb dX4_judges_168 (lv_at hl 0 rfl) ?_
            refine z_iald (k := (4 * ix + j)) (v := (hi j)) hx hb hK hP 2 0 rfl rfl rfl (by omega) (by decide) (bk_x (by omega)) dX4_judges_170 ?_
            have hPc := hP.sub (ws' := [cM b mm]) [0] rfl
            have hDc := hD.sub (ws' := [cM b mm]) [0] (by decide) rfl
            have hFc := va_free (wc := [cM b mm]) hD hS hA [0] rfl
            refine va_calli (va_runV (As := [.int (w j), .int (lo j), .int (hi j)]) (rest := []) ⟨hx, hb, hml, hown, hts⟩ (c_X4_isWithin l D cA H.size b mm (w j) (lo j) (hi j)) (cwV 3 hts gX4_judges_X4_isWithin rfl rfl rfl (by decide +kernel) ⟨Nat.le_of_ble_eq_true rfl, Nat.le_of_ble_eq_true rfl⟩) ⟨zU_blind, va_recv hK hPc (ci := 6) (q0 := 0) rfl rfl, fun U hU hW => ⟨rfl, zU_call hU hPc hW.alike hK hDc⟩⟩ rfl rfl hl.1 rfl (lv_room (Nat.le_of_ble_eq_true rfl)) dX4_judges_171 ⟨(Nat.zero_le _), (Nat.zero_le _)⟩) hS (fun q _ h => hFc q h) hFc (fun zr u t H1 locs ht hvm hw hB hz1 hk1 hS => ?_)
            obtain ⟨hP1, hD1⟩ := hB
            rw [ht] at hP1
            obtain ⟨hP, hD⟩ := va_join (wr := [(b 4, .inl (cA 0, 8, .inl (bk 4 ix lo y3))), (b 5, .inl (cA 0, 8, .inl (bk 4 ix hi y4))), (b 6, .inl (cA 1, 8, .inl (bk 4 ix rf y5))), (b 8, .inl (cA 0, 8, .inl (bk 4 ix (mix j (sdF w rf lo hi sd) sd) y7))), (b 16, .inl (cA 0, 2, .inl (t2 ix (nI QX.1) (nI QY.1)))), (b 17, .inl (cA 0, 24, .inl (bk 12 ix (qc QX 0) (qc QY 0)))), (b 18, .inl (cA 0, 24, .inl (bk 12 ix (qc QX 1) (qc QY 1)))), (b 19, .inl (cA 0, 24, .inl (bk 12 ix (qc QX 2) (qc QY 2)))), (b 20, .inl (cA 0, 96, .inl (bk 48 ix (qw QX) (qw QY)))), (b 21, .inl (cA 0, 4, .inl w)), (b 22, .inl (cA 0, 4, .inl (mix j (jAn w rf lo hi) sn)))]) (w1 := [cM b mm]) hP hD [0] [1, 2, 3, 4, 5, 6, 7, 8, 9, 10, 11] rfl rfl (by decide) (by decide) hk1 hFc hP1 hD1
            generalize H1 = H at hP hS ⊢
            have hP := hP.sub (ws' := [cM b mm, (b 4, .inl (cA 0, 8, .inl (bk 4 ix lo y3))), (b 5, .inl (cA 0, 8, .inl (bk 4 ix hi y4))), (b 6, .inl (cA 1, 8, .inl (bk 4 ix rf y5))), (b 8, .inl (cA 0, 8, .inl (bk 4 ix (mix j (sdF w rf lo hi sd) sd) y7))), (b 16, .inl (cA 0, 2, .inl (t2 ix (nI QX.1) (nI QY.1)))), (b 17, .inl (cA 0, 24, .inl (bk 12 ix (qc QX 0) (qc QY 0)))), (b 18, .inl (cA 0, 24, .inl (bk 12 ix (qc QX 1) (qc QY 1)))), (b 19, .inl (cA 0, 24, .inl (bk 12 ix (qc QX 2) (qc QY 2)))), (b 20, .inl (cA 0, 96, .inl (bk 48 ix (qw QX) (qw QY)))), (b 21, .inl (cA 0, 4, .inl w)), (b 22, .inl (cA 0, 4, .inl (mix j (jAn w rf lo hi) sn)))]) [11, 0, 1, 2, 3, 4, 5, 6, 7, 8, 9, 10] rfl
            have hD := hD.sub (ws' := [cM b mm, (b 4, .inl (cA 0, 8, .inl (bk 4 ix lo y3))), (b 5, .inl (cA 0, 8, .inl (bk 4 ix hi y4))), (b 6, .inl (cA 1, 8, .inl (bk 4 ix rf y5))), (b 8, .inl (cA 0, 8, .inl (bk 4 ix (mix j (sdF w rf lo hi sd) sd) y7))), (b 16, .inl (cA 0, 2, .inl (t2 ix (nI QX.1) (nI QY.1)))), (b 17, .inl (cA 0, 24, .inl (bk 12 ix (qc QX 0) (qc QY 0)))), (b 18, .inl (cA 0, 24, .inl (bk 12 ix (qc QX 1) (qc QY 1)))), (b 19, .inl (cA 0, 24, .inl (bk 12 ix (qc QX 2) (qc QY 2)))), (b 20, .inl (cA 0, 96, .inl (bk 48 ix (qw QX) (qw QY)))), (b 21, .inl (cA 0, 4, .inl w)), (b 22, .inl (cA 0, 4, .inl (mix j (jAn w rf lo hi) sn)))]) [11, 0, 1, 2, 3, 4, 5, 6, 7, 8, 9, 10] (by decide) rfl
            clear hPc hDc hFc hP1 hD1 hk1 hz1
            have hw_17 := hw
            rcases z_bool hw with ⟨h_17, rfl⟩ | ⟨h_17, rfl⟩
            · skip
              refine lv_if_ne (tgt := 181) hx hb dX4_judges_174 (by decide) (fun _ => ?_) (fun c_18 => absurd c_18 (by decide))
              refine lv_iconst (v := 0) hx hb dX4_judges_181 (by decide) ?_
              exact kJ _ _ _ _ ⟨(by rw [show bB (isO w lo hi j) = 0 from (by rw [isO_in h_17]; rfl)]), hP, hD, hS, lv_sub hl [0, 1, 2, 3, 4, 5] rfl⟩
            · skip
              refine lv_if_ne (tgt := 181) hx hb dX4_judges_174 (by decide) (fun c_19 => absurd c_19 (by decide)) (fun _ => ?_)
              refine lv_iconst (v := 1) hx hb dX4_judges_177 (by decide) ?_
              refine lv_goto (tgt := 182) hx hb dX4_judges_178 (by decide) ?_
              exact kJ _ _ _ _ ⟨(by rw [show bB (isO w lo hi j) = 1 from (by rw [isO_out (hbd j (by omega)) c_16 h_17]; rfl)]), hP, hD, hS, lv_sub hl [0, 1, 2, 3, 4, 5] rfl⟩
    · skip
      refine lv_iload_n hx hb dX4_judges_107 rfl (lv_at hl 1 rfl) ?_
      refine lv_if_eq (tgt := 119) hx hb dX4_judges_108 (by decide) (fun c_20 => ?_) (fun c_20 => ?_)
      · skip
        refine lv_iconst (v := 0) hx hb dX4_judges_119 (by decide) ?_
        exact kJ _ _ _ _ ⟨(by rw [show bB (gdb w rf lo hi) = 0 from (by have q1 : anB (isO w lo hi) 4 = true := (by simpa [bB] using c_20); simp [gdb, bB, q1])]), hP, hD, hS, lv_sub hl [0, 1, 2, 3, 4] rfl⟩
      · skip
        refine lv_iload_n hx hb dX4_judges_111 rfl (lv_at hl 2 rfl) ?_
        refine lv_if_ne (tgt := 119) hx hb dX4_judges_112 (by decide) (fun c_21 => ?_) (fun c_21 => ?_)
        · skip
          refine lv_iconst (v := 0) hx hb dX4_judges_119 (by decide) ?_
          exact kJ _ _ _ _ ⟨(by rw [show bB (gdb w rf lo hi) = 0 from (by have q1 : anB (isO w lo hi) 4 = false := (by simpa [bB] using c_20); have q2 : anB (isR w rf) 4 = true := (by simpa [bB] using c_21); simp [gdb, bB, q1, q2])]), hP, hD, hS, lv_sub hl [0, 1, 2, 3, 4] rfl⟩
        · skip
          refine lv_iconst (v := 1) hx hb dX4_judges_115 (by decide) ?_
          refine lv_goto (tgt := 120) hx hb dX4_judges_116 (by decide) ?_
          exact kJ _ _ _ _ ⟨(by rw [show bB (gdb w rf lo hi) = 1 from (by have q1 : anB (isO w lo hi) 4 = false := (by simpa [bB] using c_20); have q2 : anB (isR w rf) 4 = false := (by simpa [bB] using c_21); simp [gdb, bB, q1, q2])]), hP, hD, hS, lv_sub hl [0, 1, 2, 3, 4] rfl⟩
  · have c_1 := mt (nI_leI (a := 4) (b := j) (by omega) (by omega)).mpr c_1
    refine lv_iconst (v := 4) hx hb dX4_judges_13 (by decide) ?_
    refine lv_iload_n hx hb dX4_judges_14 rfl (lv_at hl 4 rfl) ?_
    refine lv_imul hx hb dX4_judges_15 ?_
    refine z_top (y := (nI (4 * ix))) (z_mul 4 ix) ?_
    refine lv_iload hx hb dX4_judges_16 (lv_at hl 0 rfl) ?_
    refine lv_iadd hx hb dX4_judges_18 ?_
    refine z_top (y := (nI (4 * ix + j))) (z_add (4 * ix) j) ?_
    refine lv_istore (lv' := [(5, .int (nI (4 * ix + j))), (4, .int (nI j)), (3, .int (bB (!(anB (isO w lo hi) j)))), (2, .int (bB (anB (isR w rf) j))), (0, .ref (b 0)), (1, .int (nI ix))]) hx hb dX4_judges_19 hl (by decide) rfl (fun ls hl => ?_)
    refine z_cut (Inv := fun H locs ls st => st = [.int (bB (anB (isR w rf) (j + 1)))] ∧ va_P D vwCl [cM b mm, (b 4, .inl (cA 0, 8, .inl (bk 4 ix lo y3))), (b 5, .inl (cA 0, 8, .inl (bk 4 ix hi y4))), (b 6, .inl (cA 1, 8, .inl (bk 4 ix rf y5))), (b 8, .inl (cA 0, 8, .inl (bk 4 ix sd y7))), (b 16, .inl (cA 0, 2, .inl (t2 ix (nI QX.1) (nI QY.1)))), (b 17, .inl (cA 0, 24, .inl (bk 12 ix (qc QX 0) (qc QY 0)))), (b 18, .inl (cA 0, 24, .inl (bk 12 ix (qc QX 1) (qc QY 1)))), (b 19, .inl (cA 0, 24, .inl (bk 12 ix (qc QX 2) (qc QY 2)))), (b 20, .inl (cA 0, 96, .inl (bk 48 ix (qw QX) (qw QY)))), (b 21, .inl (cA 0, 4, .inl w)), (b 22, .inl (cA 0, 4, .inl sn))] H ∧ va_D A [cM b mm, (b 4, .inl (cA 0, 8, .inl (bk 4 ix lo y3))), (b 5, .inl (cA 0, 8, .inl (bk 4 ix hi y4))), (b 6, .inl (cA 1, 8, .inl (bk 4 ix rf y5))), (b 8, .inl (cA 0, 8, .inl (bk 4 ix sd y7))), (b 16, .inl (cA 0, 2, .inl (t2 ix (nI QX.1) (nI QY.1)))), (b 17, .inl (cA 0, 24, .inl (bk 12 ix (qc QX 0) (qc QY 0)))), (b 18, .inl (cA 0, 24, .inl (bk 12 ix (qc QX 1) (qc QY 1)))), (b 19, .inl (cA 0, 24, .inl (bk 12 ix (qc QX 2) (qc QY 2)))), (b 20, .inl (cA 0, 96, .inl (bk 48 ix (qw QX) (qw QY)))), (b 21, .inl (cA 0, 4, .inl w)), (b 22, .inl (cA 0, 4, .inl sn))] ∧ va_S A s.heap H locs ∧ lv_has ls 9 [(5, .int (nI (4 * ix + j))), (4, .int (nI j)), (3, .int (bB (!(anB (isO w lo hi) j)))), (2, .int (bB (anB (isR w rf) j))), (0, .ref (b 0)), (1, .int (nI ix))]) 51 (fun H locs ls st hI => ?_) (fun kJ => ?_)
    · obtain ⟨rfl, hP, hD, hS, hl⟩ := hI
      refine lv_istore_n (lv' := [(2, .int (bB (anB (isR w rf) (j + 1)))), (5, .int (nI (4 * ix + j))), (4, .int (nI j)), (3, .int (bB (!(anB (isO w lo hi) j)))), (0, .ref (b 0)), (1, .int (nI ix))]) hx hb dX4_judges_51 rfl hl (by decide) rfl (fun ls hl => ?_)
      refine z_cut (Inv := fun H locs ls st => st = [.int (bB (!(anB (isO w lo hi) (j + 1))))] ∧ va_P D vwCl [cM b mm, (b 4, .inl (cA 0, 8, .inl (bk 4 ix lo y3))), (b 5, .inl (cA 0, 8, .inl (bk 4 ix hi y4))), (b 6, .inl (cA 1, 8, .inl (bk 4 ix rf y5))), (b 8, .inl (cA 0, 8, .inl (bk 4 ix sd y7))), (b 16, .inl (cA 0, 2, .inl (t2 ix (nI QX.1) (nI QY.1)))), (b 17, .inl (cA 0, 24, .inl (bk 12 ix (qc QX 0) (qc QY 0)))), (b 18, .inl (cA 0, 24, .inl (bk 12 ix (qc QX 1) (qc QY 1)))), (b 19, .inl (cA 0, 24, .inl (bk 12 ix (qc QX 2) (qc QY 2)))), (b 20, .inl (cA 0, 96, .inl (bk 48 ix (qw QX) (qw QY)))), (b 21, .inl (cA 0, 4, .inl w)), (b 22, .inl (cA 0, 4, .inl sn))] H ∧ va_D A [cM b mm, (b 4, .inl (cA 0, 8, .inl (bk 4 ix lo y3))), (b 5, .inl (cA 0, 8, .inl (bk 4 ix hi y4))), (b 6, .inl (cA 1, 8, .inl (bk 4 ix rf y5))), (b 8, .inl (cA 0, 8, .inl (bk 4 ix sd y7))), (b 16, .inl (cA 0, 2, .inl (t2 ix (nI QX.1) (nI QY.1)))), (b 17, .inl (cA 0, 24, .inl (bk 12 ix (qc QX 0) (qc QY 0)))), (b 18, .inl (cA 0, 24, .inl (bk 12 ix (qc QX 1) (qc QY 1)))), (b 19, .inl (cA 0, 24, .inl (bk 12 ix (qc QX 2) (qc QY 2)))), (b 20, .inl (cA 0, 96, .inl (bk 48 ix (qw QX) (qw QY)))), (b 21, .inl (cA 0, 4, .inl w)), (b 22, .inl (cA 0, 4, .inl sn))] ∧ va_S A s.heap H locs ∧ lv_has ls 9 [(2, .int (bB (anB (isR w rf) (j + 1)))), (5, .int (nI (4 * ix + j))), (4, .int (nI j)), (3, .int (bB (!(anB (isO w lo hi) j)))), (0, .ref (b 0)), (1, .int (nI ix))]) 100 (fun H locs ls st hI => ?_) (fun kJ => ?_)
      · obtain ⟨rfl, hP, hD, hS, hl⟩ := hI
        refine lv_istore_n (lv' := [(3, .int (bB (!(anB (isO w lo hi) (j + 1))))), (2, .int (bB (anB (isR w rf) (j + 1)))), (5, .int (nI (4 * ix + j))), (4, .int (nI j)), (0, .ref (b 0)), (1, .int (nI ix))]) hx hb dX4_judges_100 rfl hl (by decide) rfl (fun ls hl => ?_)
        refine lv_iinc (v := nI (j + 1)) (lv' := [(4, .int (nI (j + 1))), (3, .int (bB (!(anB (isO w lo hi) (j + 1))))), (2, .int (bB (anB (isR w rf) (j + 1)))), (5, .int (nI (4 * ix + j))), (0, .ref (b 0)), (1, .int (nI ix))]) hx hb dX4_judges_101 hl (k := 3) rfl (z_inc j 1) (by decide) rfl (fun ls hl => ?_)
        refine lv_goto (tgt := 7) hx hb dX4_judges_104 (by decide) ?_
        exact ih_j _ _ _ (by omega) ⟨hP, hD, hS, lv_sub hl [0, 1, 2, 4, 5] rfl⟩
      · skip
        refine lv_iload_n hx hb dX4_judges_52 rfl (lv_at hl 3 rfl) ?_
        refine lv_if_eq (tgt := 99) hx hb dX4_judges_53 (by decide) (fun c_22 => ?_) (fun c_22 => ?_)
        · skip
          refine lv_iconst (v := 0) hx hb dX4_judges_99 (by decide) ?_
          exact kJ _ _ _ _ ⟨(by rw [show bB (!(anB (isO w lo hi) (j + 1))) = 0 from (z_gd2 (by simpa [bB] using c_22))]), hP, hD, hS, lv_sub hl [0, 1, 2, 3, 4, 5] rfl⟩
        · skip
          refine lv_aload_n hx hb dX4_judges_56 rfl (lv_at hl 4 rfl) ?_
          refine va_get (D := D) (ci := 6) (v := .ref (b 21)) (C := RX4) (T := TX4) (N := 29) hx hb hts (fun _ h => List.mem_cons_of_mem _ (List.mem_append_right _ (h))) hown hK hP 0 rfl rfl 25 (by decide) (hts (.fieldLink RX4 71 "OptionWireModel" "his" "[I") (List.mem_of_getElem? (i := 1) rfl)) (fun _ h9 => h9) rfl dX4_judges_57 ?_
          refine lv_iload hx hb dX4_judges_60 (lv_at hl 2 rfl) ?_
          refine z_iald (k := j) (v := (w j)) hx hb hK hP 10 0 rfl rfl rfl (by omega) (by decide) rfl dX4_judges_62 ?_
          refine lv_iconst (v := (-1)) hx hb dX4_judges_63 (by decide) ?_
          refine lv_icmp_eq (tgt := 95) hx hb dX4_judges_64 (by decide) (fun c_23 => ?_) (fun c_23 => ?_)
          · skip
            refine lv_iconst (v := 1) hx hb dX4_judges_95 (by decide) ?_
            refine lv_goto (tgt := 100) hx hb dX4_judges_96 (by decide) ?_
            exact kJ _ _ _ _ ⟨(by rw [show bB (!(anB (isO w lo hi) (j + 1))) = 1 from (z_gd1 (by simpa [bB] using c_22) (isO_n1 c_23))]), hP, hD, hS, lv_sub hl [0, 1, 2, 3, 4, 5] rfl⟩
          · skip
            refine lv_aload_n hx hb dX4_judges_67 rfl (lv_at hl 4 rfl) ?_
            refine lv_aload_n hx hb dX4_judges_68 rfl (lv_at hl 4 rfl) ?_
            refine va_get (D := D) (ci := 6) (v := .ref (b 21)) (C := RX4) (T := TX4) (N := 29) hx hb hts (fun _ h => List.mem_cons_of_mem _ (List.mem_append_right _ (h))) hown hK hP 0 rfl rfl 25 (by decide) (hts (.fieldLink RX4 71 "OptionWireModel" "his" "[I") (List.mem_of_getElem? (i := 1) rfl)) (fun _ h9 => h9) rfl dX4_judges_69 ?_
            refine lv_iload hx hb dX4_judges_72 (lv_at hl 2 rfl) ?_
            refine z_iald (k := j) (v := (w j)) hx hb hK hP 10 0 rfl rfl rfl (by omega) (by decide) rfl dX4_judges_74 ?_
            refine lv_aload_n hx hb dX4_judges_75 rfl (lv_at hl 4 rfl) ?_
            refine va_get (D := D) (ci := 6) (v := .ref (b 4)) (C := RX4) (T := TX4) (N := 29) hx hb hts (fun _ h => List.mem_cons_of_mem _ (List.mem_append_right _ (h))) hown hK hP 0 rfl rfl 5 (by decide) (hts (.fieldLink RX4 19 "OptionWireModel" "boundLeast" "[I") (List.mem_of_getElem? (i := 3) rfl)) (fun _ h9 => h9) rfl dX4_judges_76 ?_
            refine lv_iload hx hb dX4_judges_79 (lv_at hl 1 rfl) ?_
            refine z_iald (k := (4 * ix + j)) (v := (lo j)) hx hb hK hP 1 0 rfl rfl rfl (by omega) (by decide) (bk_x (by omega)) dX4_judges_81 ?_
            refine lv_aload_n hx hb dX4_judges_82 rfl (lv_at hl 4 rfl) ?_
            refine va_get (D := D) (ci := 6) (v := .ref (b 5)) (C := RX4) (T := TX4) (N := 29) hx hb hts (fun _ h => List.mem_cons_of_mem _ (List.mem_append_right _ (h))) hown hK hP 0 rfl rfl 6 (by decide) (hts (.fieldLink RX4 22 "OptionWireModel" "boundMost" "[I") (List.mem_of_getElem? (i := 4) rfl)) (fun _ h9 => h9) rfl dX4_judges_83 ?_
            refine lv_iload hx hb dX4_judges_86 (lv_at hl 1 rfl) ?_
            refine z_iald (k := (4 * ix + j)) (v := (hi j)) hx hb hK hP 2 0 rfl rfl rfl (by omega) (by decide) (bk_x (by omega)) dX4_judges_88 ?_
            have hPc := hP.sub (ws' := [cM b mm]) [0] rfl
            have hDc := hD.sub (ws' := [cM b mm]) [0] (by decide) rfl
            have hFc := va_free (wc := [cM b mm]) hD hS hA [0] rfl
            refine va_calli (va_runV (As := [.int (w j), .int (lo j), .int (hi j)]) (rest := []) ⟨hx, hb, hml, hown, hts⟩ (c_X4_isWithin l D cA H.size b mm (w j) (lo j) (hi j)) (cwV 3 hts gX4_judges_X4_isWithin rfl rfl rfl (by decide +kernel) ⟨Nat.le_of_ble_eq_true rfl, Nat.le_of_ble_eq_true rfl⟩) ⟨zU_blind, va_recv hK hPc (ci := 6) (q0 := 0) rfl rfl, fun U hU hW => ⟨rfl, zU_call hU hPc hW.alike hK hDc⟩⟩ rfl rfl hl.1 rfl (lv_room (Nat.le_of_ble_eq_true rfl)) dX4_judges_89 ⟨(Nat.zero_le _), (Nat.zero_le _)⟩) hS (fun q _ h => hFc q h) hFc (fun zr u t H1 locs ht hvm hw hB hz1 hk1 hS => ?_)
            obtain ⟨hP1, hD1⟩ := hB
            rw [ht] at hP1
            obtain ⟨hP, hD⟩ := va_join (wr := [(b 4, .inl (cA 0, 8, .inl (bk 4 ix lo y3))), (b 5, .inl (cA 0, 8, .inl (bk 4 ix hi y4))), (b 6, .inl (cA 1, 8, .inl (bk 4 ix rf y5))), (b 8, .inl (cA 0, 8, .inl (bk 4 ix sd y7))), (b 16, .inl (cA 0, 2, .inl (t2 ix (nI QX.1) (nI QY.1)))), (b 17, .inl (cA 0, 24, .inl (bk 12 ix (qc QX 0) (qc QY 0)))), (b 18, .inl (cA 0, 24, .inl (bk 12 ix (qc QX 1) (qc QY 1)))), (b 19, .inl (cA 0, 24, .inl (bk 12 ix (qc QX 2) (qc QY 2)))), (b 20, .inl (cA 0, 96, .inl (bk 48 ix (qw QX) (qw QY)))), (b 21, .inl (cA 0, 4, .inl w)), (b 22, .inl (cA 0, 4, .inl sn))]) (w1 := [cM b mm]) hP hD [0] [1, 2, 3, 4, 5, 6, 7, 8, 9, 10, 11] rfl rfl (by decide) (by decide) hk1 hFc hP1 hD1
            generalize H1 = H at hP hS ⊢
            have hP := hP.sub (ws' := [cM b mm, (b 4, .inl (cA 0, 8, .inl (bk 4 ix lo y3))), (b 5, .inl (cA 0, 8, .inl (bk 4 ix hi y4))), (b 6, .inl (cA 1, 8, .inl (bk 4 ix rf y5))), (b 8, .inl (cA 0, 8, .inl (bk 4 ix sd y7))), (b 16, .inl (cA 0, 2, .inl (t2 ix (nI QX.1) (nI QY.1)))), (b 17, .inl (cA 0, 24, .inl (bk 12 ix (qc QX 0) (qc QY 0)))), (b 18, .inl (cA 0, 24, .inl (bk 12 ix (qc QX 1) (qc QY 1)))), (b 19, .inl (cA 0, 24, .inl (bk 12 ix (qc QX 2) (qc QY 2)))), (b 20, .inl (cA 0, 96, .inl (bk 48 ix (qw QX) (qw QY)))), (b 21, .inl (cA 0, 4, .inl w)), (b 22, .inl (cA 0, 4, .inl sn))]) [11, 0, 1, 2, 3, 4, 5, 6, 7, 8, 9, 10] rfl
            have hD := hD.sub (ws' := [cM b mm, (b 4, .inl (cA 0, 8, .inl (bk 4 ix lo y3))), (b 5, .inl (cA 0, 8, .inl (bk 4 ix hi y4))), (b 6, .inl (cA 1, 8, .inl (bk 4 ix rf y5))), (b 8, .inl (cA 0, 8, .inl (bk 4 ix sd y7))), (b 16, .inl (cA 0, 2, .inl (t2 ix (nI QX.1) (nI QY.1)))), (b 17, .inl (cA 0, 24, .inl (bk 12 ix (qc QX 0) (qc QY 0)))), (b 18, .inl (cA 0, 24, .inl (bk 12 ix (qc QX 1) (qc QY 1)))), (b 19, .inl (cA 0, 24, .inl (bk 12 ix (qc QX 2) (qc QY 2)))), (b 20, .inl (cA 0, 96, .inl (bk 48 ix (qw QX) (qw QY)))), (b 21, .inl (cA 0, 4, .inl w)), (b 22, .inl (cA 0, 4, .inl sn))]) [11, 0, 1, 2, 3, 4, 5, 6, 7, 8, 9, 10] (by decide) rfl
            clear hPc hDc hFc hP1 hD1 hk1 hz1
            have hw_24 := hw
            rcases z_bool hw with ⟨h_24, rfl⟩ | ⟨h_24, rfl⟩
            · skip
              refine lv_if_eq (tgt := 99) hx hb dX4_judges_92 (by decide) (fun c_25 => absurd c_25 (by decide)) (fun _ => ?_)
              refine lv_iconst (v := 1) hx hb dX4_judges_95 (by decide) ?_
              refine lv_goto (tgt := 100) hx hb dX4_judges_96 (by decide) ?_
              exact kJ _ _ _ _ ⟨(by rw [show bB (!(anB (isO w lo hi) (j + 1))) = 1 from (z_gd1 (by simpa [bB] using c_22) (isO_in h_24))]), hP, hD, hS, lv_sub hl [0, 1, 2, 3, 4, 5] rfl⟩
            · skip
              refine lv_if_eq (tgt := 99) hx hb dX4_judges_92 (by decide) (fun _ => ?_) (fun c_26 => absurd c_26 (by decide))
              refine lv_iconst (v := 0) hx hb dX4_judges_99 (by decide) ?_
              exact kJ _ _ _ _ ⟨(by rw [show bB (!(anB (isO w lo hi) (j + 1))) = 0 from (z_gd3 (isO_out (hbd j (by omega)) c_23 h_24))]), hP, hD, hS, lv_sub hl [0, 1, 2, 3, 4, 5] rfl⟩
    · skip
      refine lv_iload_n hx hb dX4_judges_21 rfl (lv_at hl 3 rfl) ?_
      refine lv_if_ne (tgt := 46) hx hb dX4_judges_22 (by decide) (fun c_27 => ?_) (fun c_27 => ?_)
      · skip
        refine lv_iconst (v := 1) hx hb dX4_judges_46 (by decide) ?_
        refine lv_goto (tgt := 51) hx hb dX4_judges_47 (by decide) ?_
        exact kJ _ _ _ _ ⟨(by rw [show bB (anB (isR w rf) (j + 1)) = 1 from (z_an1 (by simpa [bB] using c_27))]), hP, hD, hS, lv_sub hl [0, 1, 2, 3, 4, 5] rfl⟩
      · skip
        refine lv_aload_n hx hb dX4_judges_25 rfl (lv_at hl 4 rfl) ?_
        refine va_get (D := D) (ci := 6) (v := .ref (b 21)) (C := RX4) (T := TX4) (N := 29) hx hb hts (fun _ h => List.mem_cons_of_mem _ (List.mem_append_right _ (h))) hown hK hP 0 rfl rfl 25 (by decide) (hts (.fieldLink RX4 71 "OptionWireModel" "his" "[I") (List.mem_of_getElem? (i := 1) rfl)) (fun _ h9 => h9) rfl dX4_judges_26 ?_
        refine lv_iload hx hb dX4_judges_29 (lv_at hl 1 rfl) ?_
        refine z_iald (k := j) (v := (w j)) hx hb hK hP 10 0 rfl rfl rfl (by omega) (by decide) rfl dX4_judges_31 ?_
        refine lv_iconst (v := (-1)) hx hb dX4_judges_32 (by decide) ?_
        refine lv_icmp_eq (tgt := 50) hx hb dX4_judges_33 (by decide) (fun c_28 => ?_) (fun c_28 => ?_)
        · skip
          refine lv_iconst (v := 0) hx hb dX4_judges_50 (by decide) ?_
          exact kJ _ _ _ _ ⟨(by rw [show bB (anB (isR w rf) (j + 1)) = 0 from (z_an3 (by simpa [bB] using c_27) (by simp [isR, c_28]))]), hP, hD, hS, lv_sub hl [0, 1, 2, 3, 4, 5] rfl⟩
        · skip
          refine lv_aload_n hx hb dX4_judges_36 rfl (lv_at hl 4 rfl) ?_
          refine va_get (D := D) (ci := 6) (v := .ref (b 6)) (C := RX4) (T := TX4) (N := 29) hx hb hts (fun _ h => List.mem_cons_of_mem _ (List.mem_append_right _ (h))) hown hK hP 0 rfl rfl 7 (by decide) (hts (.fieldLink RX4 25 "OptionWireModel" "refuses" "[Z") (List.mem_of_getElem? (i := 2) rfl)) (fun _ h9 => h9) rfl dX4_judges_37 ?_
          refine lv_iload hx hb dX4_judges_40 (lv_at hl 0 rfl) ?_
          refine z_zald (k := (4 * ix + j)) (v := (rf j)) hx hb hK hP 3 1 rfl rfl rfl (by omega) (by decide) (bk_x (by omega)) dX4_judges_42 ?_
          refine lv_if_eq (tgt := 50) hx hb dX4_judges_43 (by decide) (fun c_29 => ?_) (fun c_29 => ?_)
          · skip
            refine lv_iconst (v := 0) hx hb dX4_judges_50 (by decide) ?_
            exact kJ _ _ _ _ ⟨(by rw [show bB (anB (isR w rf) (j + 1)) = 0 from (z_an3 (by simpa [bB] using c_27) (by simp [isR, c_29]))]), hP, hD, hS, lv_sub hl [0, 1, 2, 3, 4, 5] rfl⟩
          · skip
            refine lv_iconst (v := 1) hx hb dX4_judges_46 (by decide) ?_
            refine lv_goto (tgt := 51) hx hb dX4_judges_47 (by decide) ?_
            exact kJ _ _ _ _ ⟨(by rw [show bB (anB (isR w rf) (j + 1)) = 1 from (z_an2 (by simp [isR, c_28, c_29]))]), hP, hD, hS, lv_sub hl [0, 1, 2, 3, 4, 5] rfl⟩
