/-! new rows, of a known class -/
section ZN
variable {p : Program} {l : Launch} {e : Env} {R : Room} {s : State} {m : MethodId} {args : Array Value} {below : List Frame} {meth : Method} {c : Code} {H : Heap} {locs : List Loc} {cells slots : Nat} {Q : State → Prop} {cc : ByteArray} {pc : Nat} {ls : Array Slot} {rest st : List Value} {D : va_G} {cl : List vw_C} {A : Nat → Prop} {tys : List (ClassId × FieldType)} {ws : va_W} {H0 : Heap}
theorem z_newa (hexec : p.tables.exec = Jvm.exec) (hb : c.code = cc) {atype : ArrayType} {ty : FieldType} {cA : ClassId} (harr : (Cond.arrayClass (newarray.typeOf atype)).before args s = true) (hty : newarray.typeOf atype = ty) (hK : va_K D cl tys s) (t0 : Nat) (ht : tys[t0]? = some (cA, ty)) (hP : va_P D cl ws H) (hD : va_D A ws) (hS : va_S A H0 H locs) (hA : ∀ q, H0.size ≤ q → A q)
    {n : Int32} {N' : Nat} {a0 : vp_A} (ha : ∀ cA : ClassId, vp_cell cA a0 = arrV cA N' (fun _ => defaultValue ty)) (hR : ∀ c : ClassId, va_RA s c ty → s.vm.findClass ("[" ++ ty.toString) = some c) (hn : ¬ n < 0) (hN : n.toNatClampNeg = N') (hbytes : N' * componentBytes ty ≤ 536870912) (hcells : cells + 1 ≤ R.cells) (hslots : slots + N' ≤ R.slots) (hdg : decode cc pc = .ok (.newarray atype, 2))
    (kk : ∀ (q : Nat) (H1 : Heap), va_P D cl (ws ++ [(q, .inl (cA, a0))]) H1 → va_D A (ws ++ [(q, .inl (cA, a0))]) → va_S A H0 H1 locs →
      W p l e R s m args below meth c H1 locs (cells + 1) (slots + N') Q (F0 m (pc + 2) ls (.ref q :: rest))) : W p l e R s m args below meth c H locs cells slots Q (F0 m pc ls (.int n :: rest)) := by
  refine va_newa hexec hb harr hty hK hP hD hS hA ha hn hN hbytes hcells hslots hdg (fun q cA' H1 hK1 hP1 hD1 hS1 => ?_)
  have h1 : (tys ++ [(cA', ty)])[tys.length]? = some (cA', ty) := by simp
  have e1 := hR _ (hK1.2 _ _ h1).2
  have e2 := hR _ (hK.2 _ _ ht).2
  have e : cA' = cA := Option.some.inj (e1.symm.trans e2)
  subst e
  exact kk q H1 hP1 hD1 hS1
end ZN
abbrev zz0 : Nat → Int32 := fun _ => 0
theorem mix8 {F f g g' : Nat → Int32} (hf : ∀ k, k < 4 → F k = f k) (hg : ∀ k, k < 4 → F (k + 4) = g k) : ∀ k, k < 8 → mix 8 F g' k = bk 4 0 f g k := by
  intro k hk
  rw [mix_lt hk]
  unfold bk
  by_cases h : k / 4 = 0
  · have h1 : k < 4 := by omega
    rw [if_pos h, Nat.mod_eq_of_lt h1]; exact hf k h1
  · have h1 : k / 4 = 1 - 0 := by omega
    have h2 : k = k % 4 + 4 := by omega
    rw [if_neg h, if_pos h1, ← hg (k % 4) (by omega), ← h2]
theorem bk_z {n : Nat} : zz0 = bk n 0 zz0 zz0 := by
  funext j
  simp [bk]
theorem t2_z : zz0 = t2 0 0 0 := by
  funext j
  simp [t2]
