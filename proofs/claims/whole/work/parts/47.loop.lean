theorem sub6_lt {a b : Nat} (ha : a < 2 ^ 30) (hb : b < 2 ^ 30) : nI a - 6 < nI b ↔ a < b + 6 := by
  rw [Int32.lt_iff_toInt_lt, show (6 : Int32) = nI 6 from rfl, pk_sub_toInt ha (by decide), nI_toInt (by omega)]
  omega
set_option maxHeartbeats 4000000 in
set_option maxRecDepth 100000 in
/-- the law from the head of its loop to its end -/
theorem law_loop {p : Program} {l : Launch} {e : Env} {s : State} {m : MethodId} {below : List Frame} {meth : Method} {c : Code} {D : va_G} {cA : Nat → ClassId} {zv : Nat → Nat} {A : Nat → Prop} {sc L : Nat} {xs : Nat → Int32} (C0 : LCx p l s m c sc L xs D cA zv A) (hr : meth.sig.returnType = ret) (hlocks : meth.locks = false) (hAq : ∀ q, A q → s.heap.size ≤ q) (hL : L ≤ 3072) (o F G : Nat) (pa : Nat → Nat) (an ln : Nat) (b : Nat → Nat) (ou : Nat) : ∀ (n ti cz sz9 : Nat), L < 6 * ti + 6 * n + 6 → ti ≤ 512 → cz ≤ 200 + 14 * ti → sz9 ≤ 1000 + 448 * ti → ∀ (ix : Nat) (x y : Nat → Nat) (xv yv : Nat → Int32) (xd yd xr yr : Nat → Nat → Int32) (xf yf : Nat) (QX QY : Qt) (mm : Nat → Int32) (pkk pkn pkm : Int32) (pw ag : Nat → Int32) (vb : Nat) (ml : Int32) (ct nb : Nat) (gb hs sn : Nat → Int32) (ov : Nat → Int64), LIN ix F G x y xv yv xd yd xr yr xf yf QX QY mm ct nb gb → ∀ (H : Heap) (locs : List Loc) (ls : Array Slot), va_P D vwCl (LWS cA o F G pa an ln b ou ix x y xv yv xd yd xr yr xf yf QX QY mm pkk pkn pkm pw ag vb ml ct nb gb hs sn ov) H → va_D A (LWS cA o F G pa an ln b ou ix x y xv yv xd yd xr yr xf yf QX QY mm pkk pkn pkm pw ag vb ml ct nb gb hs sn ov) → va_S A s.heap H locs → lv_has ls 7 [(0, .ref sc), (1, .ref o), (2, .ref (b 0)), (3, .ref ou), (4, .int (nI (6 * ti)))] → W p l e room_1 s m #[Value.ref sc] below meth c H locs cz sz9 (lw_Z below #[Value.ref sc] s) (F0 m 23 ls []) := by
  obtain ⟨hl0, hx, hb, hml, hown, hts, hX, hbl, hbA, hA, hK, hE0, hX0⟩ := id C0
  intro n
  induction n with
  | zero =>
    intro ti cz sz9 hn ht hc1 hs1 ix x y xv yv xd yd xr yr xf yf QX QY mm pkk pkn pkm pw ag vb ml ct nb gb hs sn ov hI H locs ls hP hD hS hl
    refine lv_iload hx hb dL_law_23 (lv_at hl 4 rfl) ?_
    refine lv_aload_n hx hb dL_law_25 rfl (lv_at hl 0 rfl) ?_
    refine va_slen hx hb hX hbl hbA hS dL_law_26 ?_
    refine lv_bipush (v := 6) hx hb dL_law_27 (by decide) ?_
    refine lv_isub hx hb dL_law_29 ?_
    refine lv_icmp_gt (tgt := 1244) hx hb dL_law_30 (by decide) (fun c_1 => ?_) (fun c_1 => ?_)
    · refine lv_iconst (v := 1) hx hb dL_law_1244 (by decide) ?_
      refine va_forget (fun q hq => hAq _ (hS.2.2 q hq)) ?_
      refine W.widen (k := 654519) (n := 7132548) (by omega) (by omega) ?_
      exact lw_ret hx hb hr hlocks dL_law_1245
    · have c_1 : 6 * ti + 6 ≤ L := by
        rcases Nat.lt_or_ge L (6 * ti + 6) with h | h
        · exact absurd ((sub6_lt (a := L) (b := 6 * ti) (by omega) (by omega)).mpr h) c_1
        · exact h
      exact absurd c_1 (by omega)
  | succ n ih =>
    intro ti cz sz9 hn ht hc1 hs1 ix x y xv yv xd yd xr yr xf yf QX QY mm pkk pkn pkm pw ag vb ml ct nb gb hs sn ov hI H locs ls hP hD hS hl
    refine lv_iload hx hb dL_law_23 (lv_at hl 4 rfl) ?_
    refine lv_aload_n hx hb dL_law_25 rfl (lv_at hl 0 rfl) ?_
    refine va_slen hx hb hX hbl hbA hS dL_law_26 ?_
    refine lv_bipush (v := 6) hx hb dL_law_27 (by decide) ?_
    refine lv_isub hx hb dL_law_29 ?_
    refine lv_icmp_gt (tgt := 1244) hx hb dL_law_30 (by decide) (fun c_1 => ?_) (fun c_1 => ?_)
    · refine lv_iconst (v := 1) hx hb dL_law_1244 (by decide) ?_
      refine va_forget (fun q hq => hAq _ (hS.2.2 q hq)) ?_
      refine W.widen (k := 654519) (n := 7132548) (by omega) (by omega) ?_
      exact lw_ret hx hb hr hlocks dL_law_1245
    · have c_1 : 6 * ti + 6 ≤ L := by
        rcases Nat.lt_or_ge L (6 * ti + 6) with h | h
        · exact absurd ((sub6_lt (a := L) (b := 6 * ti) (by omega) (by omega)).mpr h) c_1
        · exact h
      refine law_step C0 o F G pa an ln b ou ti cz sz9 (by omega) (by omega) c_1 hL ix x y xv yv xd yd xr yr xf yf QX QY mm pkk pkn pkm pw ag vb ml ct nb gb hs sn ov hI H locs ls hP hD hS hl ?_
      intro ix x y xv yv xd yd xr yr xf yf QX QY mm pkk pkn pkm pw ag vb ml ct nb gb hs sn ov cz1 sz1 H locs ls hI hc2 hs2 hP hD hS hl
      refine lv_iinc (v := nI (6 * ti + 6)) (lv' := [(4, .int (nI (6 * ti + 6))), (0, .ref sc), (1, .ref o), (2, .ref (b 0)), (3, .ref ou)]) hx hb dL_law_1238 hl (k := 4) rfl (z_inc (6 * ti) 6) (by decide) rfl (fun ls hl => ?_)
      refine lv_goto (tgt := 23) hx hb dL_law_1241 (by decide) ?_
      exact ih (ti + 1) cz1 sz1 (by omega) (by omega) (by omega) (by omega) ix x y xv yv xd yd xr yr xf yf QX QY mm pkk pkn pkm pw ag vb ml ct nb gb hs sn ov hI H locs ls hP hD hS (lv_sub hl [1, 2, 3, 4, 0] rfl)
