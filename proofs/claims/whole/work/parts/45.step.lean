set_option maxHeartbeats 4000000 in
set_option maxRecDepth 100000 in
theorem law_stepN {p : Program} {l : Launch} {e : Env} {s : State} {m : MethodId} {below : List Frame} {meth : Method} {c : Code} {D : va_G} {cA : Nat → ClassId} {zv : Nat → Nat} {A : Nat → Prop} {Q : State → Prop} {sc L : Nat} {xs : Nat → Int32} (C0 : LCx p l s m c sc L xs D cA zv A) (o F G : Nat) (pa : Nat → Nat) (an ln : Nat) (b : Nat → Nat) (ou : Nat) (ti cz sz9 : Nat) (hcz : cz + 100 ≤ 654519) (hsz9 : sz9 + 2000 ≤ 7132548) (hti : 6 * ti + 6 ≤ L) (hL : L ≤ 3072) (ix : Nat) (x y : Nat → Nat) (xv yv : Nat → Int32) (xd yd xr yr : Nat → Nat → Int32) (xf yf : Nat) (QX QY : Qt) (mm : Nat → Int32) (pkk pkn pkm : Int32) (pw ag : Nat → Int32) (vb : Nat) (ml : Int32) (ct nb : Nat) (gb hs sn : Nat → Int32) (ov : Nat → Int64) (hI : LIN ix F G x y xv yv xd yd xr yr xf yf QX QY mm ct nb gb) (hn : xs (6 * ti + 1) = nI ix ∨ ¬ inr (xs (6 * ti + 1)) 0 1) (H : Heap) (locs : List Loc) (ls : Array Slot) (hP : va_P D vwCl (LWS cA o F G pa an ln b ou ix x y xv yv xd yd xr yr xf yf QX QY mm pkk pkn pkm pw ag vb ml ct nb gb hs sn ov) H) (hD : va_D A (LWS cA o F G pa an ln b ou ix x y xv yv xd yd xr yr xf yf QX QY mm pkk pkn pkm pw ag vb ml ct nb gb hs sn ov)) (hS : va_S A s.heap H locs) (hl : lv_has ls 7 [(0, .ref sc), (1, .ref o), (2, .ref (b 0)), (3, .ref ou), (4, .int (nI (6 * ti)))]) (kJ : LJ p l e s m below meth c D cA A Q sc o F G pa an ln b ou ti cz sz9) : W p l e room_1 s m #[Value.ref sc] below meth c H locs cz sz9 Q (F0 m 33 ls []) := by
  obtain ⟨hl0, hx, hb, hml, hown, hts, hX, hbl, hbA, hA, hK, hE0, hX0⟩ := id C0
  refine lv_aload_n hx hb dL_law_33 rfl (lv_at hl 0 rfl) ?_
  refine lv_iload hx hb dL_law_34 (lv_at hl 4 rfl) ?_
  refine z_sld (k := (6 * ti)) hx hb hX hbl hbA hS rfl (by omega) hL rfl dL_law_36 ?_
  refine lv_bipush (v := 31) hx hb dL_law_37 (by decide) ?_
  refine lv_iand hx hb dL_law_39 ?_
  obtain ⟨j, hj, ej⟩ := pk_andE (xs (6 * ti)) (m := 31) 5 (by decide)
  refine z_top (y := nI j) ej ?_
  by_cases h18 : j ≤ 18
  · clear ej hj
    rcases (show j = 0 ∨ j = 1 ∨ j = 2 ∨ j = 3 ∨ j = 4 ∨ j = 5 ∨ j = 6 ∨ j = 7 ∨ j = 8 ∨ j = 9 ∨ j = 10 ∨ j = 11 ∨ j = 12 ∨ j = 13 ∨ j = 14 ∨ j = 15 ∨ j = 16 ∨ j = 17 ∨ j = 18 by omega) with rfl | rfl | rfl | rfl | rfl | rfl | rfl | rfl | rfl | rfl | rfl | rfl | rfl | rfl | rfl | rfl | rfl | rfl | rfl
    · refine lv_tableIn (off := 92) (tgt := 132) hx hb dL_law_40 (by decide) (by decide) (by decide) (by decide) ?_
      exact lx_wish C0 o F G pa an ln b ou ti cz sz9 hcz hsz9 hti hL ix x y xv yv xd yd xr yr xf yf QX QY mm pkk pkn pkm pw ag vb ml ct nb gb hs sn ov hI hn H locs ls hP hD hS hl kJ
    · refine lv_tableIn (off := 196) (tgt := 236) hx hb dL_law_40 (by decide) (by decide) (by decide) (by decide) ?_
      exact lx_allow C0 o F G pa an ln b ou ti cz sz9 hcz hsz9 hti hL ix x y xv yv xd yd xr yr xf yf QX QY mm pkk pkn pkm pw ag vb ml ct nb gb hs sn ov hI hn H locs ls hP hD hS hl kJ
    · refine lv_tableIn (off := 268) (tgt := 308) hx hb dL_law_40 (by decide) (by decide) (by decide) (by decide) ?_
      exact lx_refuse C0 o F G pa an ln b ou ti cz sz9 hcz hsz9 hti hL ix x y xv yv xd yd xr yr xf yf QX QY mm pkk pkn pkm pw ag vb ml ct nb gb hs sn ov hI hn H locs ls hP hD hS hl kJ
    · refine lv_tableIn (off := 371) (tgt := 411) hx hb dL_law_40 (by decide) (by decide) (by decide) (by decide) ?_
      exact lx_loop C0 o F G pa an ln b ou ti cz sz9 hcz hsz9 hti hL ix x y xv yv xd yd xr yr xf yf QX QY mm pkk pkn pkm pw ag vb ml ct nb gb hs sn ov hI hn H locs ls hP hD hS hl kJ
    · refine lv_tableIn (off := 412) (tgt := 452) hx hb dL_law_40 (by decide) (by decide) (by decide) (by decide) ?_
      exact lx_open C0 o F G pa an ln b ou ti cz sz9 hcz hsz9 hti hL ix x y xv yv xd yd xr yr xf yf QX QY mm pkk pkn pkm pw ag vb ml ct nb gb hs sn ov hI hn H locs ls hP hD hS hl kJ
    · refine lv_tableIn (off := 460) (tgt := 500) hx hb dL_law_40 (by decide) (by decide) (by decide) (by decide) ?_
      exact lx_close C0 o F G pa an ln b ou ti cz sz9 hcz hsz9 hti hL ix x y xv yv xd yd xr yr xf yf QX QY mm pkk pkn pkm pw ag vb ml ct nb gb hs sn ov hI hn H locs ls hP hD hS hl kJ
    · refine lv_tableIn (off := 496) (tgt := 536) hx hb dL_law_40 (by decide) (by decide) (by decide) (by decide) ?_
      exact lx_deliver C0 o F G pa an ln b ou ti cz sz9 hcz hsz9 hti hL ix x y xv yv xd yd xr yr xf yf QX QY mm pkk pkn pkm pw ag vb ml ct nb gb hs sn ov hI hn H locs ls hP hD hS hl kJ
    · refine lv_tableIn (off := 552) (tgt := 592) hx hb dL_law_40 (by decide) (by decide) (by decide) (by decide) ?_
      exact lx_lose C0 o F G pa an ln b ou ti cz sz9 hcz hsz9 hti hL ix x y xv yv xd yd xr yr xf yf QX QY mm pkk pkn pkm pw ag vb ml ct nb gb hs sn ov hI hn H locs ls hP hD hS hl kJ
    · refine lv_tableIn (off := 608) (tgt := 648) hx hb dL_law_40 (by decide) (by decide) (by decide) (by decide) ?_
      exact lx_tick C0 o F G pa an ln b ou ti cz sz9 hcz hsz9 hti hL ix x y xv yv xd yd xr yr xf yf QX QY mm pkk pkn pkm pw ag vb ml ct nb gb hs sn ov hI hn H locs ls hP hD hS hl kJ
    · refine lv_tableIn (off := 621) (tgt := 661) hx hb dL_law_40 (by decide) (by decide) (by decide) (by decide) ?_
      exact lx_time C0 o F G pa an ln b ou ti cz sz9 hcz hsz9 hti hL ix x y xv yv xd yd xr yr xf yf QX QY mm pkk pkn pkm pw ag vb ml ct nb gb hs sn ov hI hn H locs ls hP hD hS hl kJ
    · refine lv_tableIn (off := 634) (tgt := 674) hx hb dL_law_40 (by decide) (by decide) (by decide) (by decide) ?_
      exact lx_state C0 o F G pa an ln b ou ti cz sz9 hcz hsz9 hti hL ix x y xv yv xd yd xr yr xf yf QX QY mm pkk pkn pkm pw ag vb ml ct nb gb hs sn ov hI hn H locs ls hP hD hS hl kJ
    · refine lv_tableIn (off := 690) (tgt := 730) hx hb dL_law_40 (by decide) (by decide) (by decide) (by decide) ?_
      exact lx_tries C0 o F G pa an ln b ou ti cz sz9 hcz hsz9 hti hL ix x y xv yv xd yd xr yr xf yf QX QY mm pkk pkn pkm pw ag vb ml ct nb gb hs sn ov hI hn H locs ls hP hD hS hl kJ
    · refine lv_tableIn (off := 746) (tgt := 786) hx hb dL_law_40 (by decide) (by decide) (by decide) (by decide) ?_
      exact lx_asked C0 o F G pa an ln b ou ti cz sz9 hcz hsz9 hti hL ix x y xv yv xd yd xr yr xf yf QX QY mm pkk pkn pkm pw ag vb ml ct nb gb hs sn ov hI hn H locs ls hP hD hS hl kJ
    · refine lv_tableIn (off := 814) (tgt := 854) hx hb dL_law_40 (by decide) (by decide) (by decide) (by decide) ?_
      exact lx_granted C0 o F G pa an ln b ou ti cz sz9 hcz hsz9 hti hL ix x y xv yv xd yd xr yr xf yf QX QY mm pkk pkn pkm pw ag vb ml ct nb gb hs sn ov hI hn H locs ls hP hD hS hl kJ
    · refine lv_tableIn (off := 882) (tgt := 922) hx hb dL_law_40 (by decide) (by decide) (by decide) (by decide) ?_
      exact lx_allowed C0 o F G pa an ln b ou ti cz sz9 hcz hsz9 hti hL ix x y xv yv xd yd xr yr xf yf QX QY mm pkk pkn pkm pw ag vb ml ct nb gb hs sn ov hI hn H locs ls hP hD hS hl kJ
    · refine lv_tableIn (off := 950) (tgt := 990) hx hb dL_law_40 (by decide) (by decide) (by decide) (by decide) ?_
      exact lx_waiting C0 o F G pa an ln b ou ti cz sz9 hcz hsz9 hti hL ix x y xv yv xd yd xr yr xf yf QX QY mm pkk pkn pkm pw ag vb ml ct nb gb hs sn ov hI hn H locs ls hP hD hS hl kJ
    · refine lv_tableIn (off := 1006) (tgt := 1046) hx hb dL_law_40 (by decide) (by decide) (by decide) (by decide) ?_
      exact lx_kindAt C0 o F G pa an ln b ou ti cz sz9 hcz hsz9 hti hL ix x y xv yv xd yd xr yr xf yf QX QY mm pkk pkn pkm pw ag vb ml ct nb gb hs sn ov hI hn H locs ls hP hD hS hl kJ
    · refine lv_tableIn (off := 1074) (tgt := 1114) hx hb dL_law_40 (by decide) (by decide) (by decide) (by decide) ?_
      exact lx_lineLength C0 o F G pa an ln b ou ti cz sz9 hcz hsz9 hti hL ix x y xv yv xd yd xr yr xf yf QX QY mm pkk pkn pkm pw ag vb ml ct nb gb hs sn ov hI hn H locs ls hP hD hS hl kJ
    · refine lv_tableIn (off := 1130) (tgt := 1170) hx hb dL_law_40 (by decide) (by decide) (by decide) (by decide) ?_
      exact lx_lineChar C0 o F G pa an ln b ou ti cz sz9 hcz hsz9 hti hL ix x y xv yv xd yd xr yr xf yf QX QY mm pkk pkn pkm pw ag vb ml ct nb gb hs sn ov hI hn H locs ls hP hD hS hl kJ
  · refine lv_tableOut (tgt := 1238) hx hb dL_law_40 (Or.inr (by rw [nI_toInt (by omega)]; omega)) (by decide) ?_
    exact kJ ix x y xv yv xd yd xr yr xf yf QX QY mm pkk pkn pkm pw ag vb ml ct nb gb hs sn ov _ _ _ _ _ hI (by omega) (by omega) hP hD hS hl
set_option maxHeartbeats 4000000 in
set_option maxRecDepth 100000 in
theorem law_step {p : Program} {l : Launch} {e : Env} {s : State} {m : MethodId} {below : List Frame} {meth : Method} {c : Code} {D : va_G} {cA : Nat → ClassId} {zv : Nat → Nat} {A : Nat → Prop} {Q : State → Prop} {sc L : Nat} {xs : Nat → Int32} (C0 : LCx p l s m c sc L xs D cA zv A) (o F G : Nat) (pa : Nat → Nat) (an ln : Nat) (b : Nat → Nat) (ou : Nat) (ti cz sz9 : Nat) (hcz : cz + 100 ≤ 654519) (hsz9 : sz9 + 2000 ≤ 7132548) (hti : 6 * ti + 6 ≤ L) (hL : L ≤ 3072) (ix : Nat) (x y : Nat → Nat) (xv yv : Nat → Int32) (xd yd xr yr : Nat → Nat → Int32) (xf yf : Nat) (QX QY : Qt) (mm : Nat → Int32) (pkk pkn pkm : Int32) (pw ag : Nat → Int32) (vb : Nat) (ml : Int32) (ct nb : Nat) (gb hs sn : Nat → Int32) (ov : Nat → Int64) (hI : LIN ix F G x y xv yv xd yd xr yr xf yf QX QY mm ct nb gb) (H : Heap) (locs : List Loc) (ls : Array Slot) (hP : va_P D vwCl (LWS cA o F G pa an ln b ou ix x y xv yv xd yd xr yr xf yf QX QY mm pkk pkn pkm pw ag vb ml ct nb gb hs sn ov) H) (hD : va_D A (LWS cA o F G pa an ln b ou ix x y xv yv xd yd xr yr xf yf QX QY mm pkk pkn pkm pw ag vb ml ct nb gb hs sn ov)) (hS : va_S A s.heap H locs) (hl : lv_has ls 7 [(0, .ref sc), (1, .ref o), (2, .ref (b 0)), (3, .ref ou), (4, .int (nI (6 * ti)))]) (kJ : LJ p l e s m below meth c D cA A Q sc o F G pa an ln b ou ti cz sz9) : W p l e room_1 s m #[Value.ref sc] below meth c H locs cz sz9 Q (F0 m 33 ls []) := by
  by_cases hsw : inr (xs (6 * ti + 1)) 0 1 ∧ ¬ xs (6 * ti + 1) = nI ix
  · obtain ⟨hs1, hs2⟩ := hsw
    obtain ⟨q, hq, eq⟩ := n2_of hs1
    obtain ⟨⟨hix, -⟩, -⟩ := id hI
    have e1 : xs (6 * ti + 1) = nI (1 - ix) := by
      have e2 : q = 1 - ix := by
        by_cases h : q = ix
        · exact absurd (by rw [eq, h]) hs2
        · omega
      rw [eq, e2]
    exact law_stepN C0 o F G pa an ln b ou ti cz sz9 hcz hsz9 hti hL (1 - ix) y x yv xv yd xd yr xr yf xf QY QX mm pkk pkn pkm pw ag vb ml ct nb gb hs sn ov hI.sw (Or.inl e1) H locs ls (LWS_swP o F G pa an ln b ou ix x y xv yv xd yd xr yr xf yf QX QY mm pkk pkn pkm pw ag vb ml ct nb gb hs sn ov hix hP) (LWS_swD o F G pa an ln b ou ix x y xv yv xd yd xr yr xf yf QX QY mm pkk pkn pkm pw ag vb ml ct nb gb hs sn ov hix hD) hS hl kJ
  · refine law_stepN C0 o F G pa an ln b ou ti cz sz9 hcz hsz9 hti hL ix x y xv yv xd yd xr yr xf yf QX QY mm pkk pkn pkm pw ag vb ml ct nb gb hs sn ov hI ?_ H locs ls hP hD hS hl kJ
    by_cases h : inr (xs (6 * ti + 1)) 0 1
    · exact Or.inl (Classical.not_not.mp (fun h2 => hsw ⟨h, h2⟩))
    · exact Or.inr h
