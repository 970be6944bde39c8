/-! the text buffer: rows for shifts and bytes -/
theorem z_shr0 {x : Int32} : x >>> ((0 : Int32) &&& 31) = x := by
  have h : ((0 : Int32) &&& 31) = 0 := by decide
  rw [h]
  exact Int32.shiftRight_zero
theorem z_shl0 {x : Int32} : x <<< ((0 : Int32) &&& 31) = x := by
  have h : ((0 : Int32) &&& 31) = 0 := by decide
  rw [h]
  exact Int32.shiftLeft_zero
theorem z_sub {a b : Nat} (h : b ≤ a) : nI a - nI b = nI (a - b) := pk_sub h
theorem le_sub0 {a b : Nat} (h : a ≤ b) (hb : b < 2 ^ 30) : nI a - nI b ≤ 0 := by
  rw [Int32.le_iff_toInt_le, pk_sub_toInt (by omega) (by omega)]
  show (a : Int) - b ≤ (0 : Int32).toInt
  rw [show (0 : Int32).toInt = 0 by decide]
  omega
theorem mmx18 {d : Nat} (h : d ≤ 18) : mmx (nI d) 18 = 18 := by
  unfold mmx
  rcases Nat.lt_or_ge d 18 with h1 | h1
  · rw [if_pos (show nI d < (18 : Int32) from nI_lt (b := 18) h1 (by decide))]
  · have e : d = 18 := by omega
    subst e
    rfl
theorem b127 {q : Int32} (h0 : ¬ q < 0) (h1 : q ≤ 127) : q.toInt8.toInt32 = q := by
  obtain ⟨j, hj, rfl⟩ := nI_of2 (M := 127) (n := 127) (by decide) h0 h1
  have : ∀ j : Fin 128, (nI j.val).toInt8.toInt32 = nI j.val := by decide +kernel
  exact this ⟨j, by omega⟩
theorem nar127 {q : Int32} (h0 : ¬ q < 0) (h1 : q ≤ 127) : vp_nar .byte q = q := by rw [vp_nar_byte]; exact b127 h0 h1
theorem fit127 {q : Int32} (h0 : ¬ q < 0) (h1 : q ≤ 127) : fits .byte (.int q) = true := by
  obtain ⟨j, hj, rfl⟩ := nI_of2 (M := 127) (n := 127) (by decide) h0 h1
  have : ∀ j : Fin 128, fits .byte (.int (nI j.val)) = true := by decide +kernel
  exact this ⟨j, by omega⟩
abbrev bfit (n : Nat) (g : Nat → Int32) : Prop := ∀ i, i < n → fits .byte (.int (g i)) = true
theorem bfit_upd {n k : Nat} {g : Nat → Int32} {q : Int32} (h : bfit n g) (h0 : ¬ q < 0) (h1 : q ≤ 127) : bfit n (upd g k q) := by
  intro i hi
  by_cases e : i = k
  · simp only [upd, if_pos e]; exact fit127 h0 h1
  · simp only [upd, if_neg e]; exact h i hi
theorem bfit_cpy {g : Nat → Int32} (h : bfit 16 g) : bfit 34 (va_cpy g zz0 0 0 16) := by
  intro i hi
  by_cases e : i < 16
  · rw [pk_cpy_in (Nat.zero_le _) (by omega)]
    have := h (0 + (i - 0)) (by omega)
    exact this
  · rw [pk_cpy_out (by omega)]; rfl
theorem cpy16 {g : Nat → Int32} : ∀ i, i < 16 → va_cpy g zz0 0 0 16 i = g i := by
  intro i hi
  rw [pk_cpy_in (Nat.zero_le _) (by omega)]
  congr 1; omega
theorem n127 {q : Int32} (h : q ≤ 127) : ¬ 255 < q := by
  intro h2
  rw [Int32.le_iff_toInt_le] at h
  rw [Int32.lt_iff_toInt_lt] at h2
  have e1 : (127 : Int32).toInt = 127 := by decide
  have e2 : (255 : Int32).toInt = 255 := by decide
  omega
theorem z_dec (a : Nat) : nI (a + 1) + Int32.ofInt (-1) = nI a := by
  have := nI_sub1 (n := a + 1) (by omega)
  rw [show Int32.ofInt (-1) = -1 from rfl, ← Int32.sub_eq_add_neg]
  exact this
theorem z_neg2 (x : Int32) : - -x = x := Int32.neg_neg
/-- what is appended: the row's bytes are as they were below ct, and L behind it -/
abbrev apd (n' : Nat) (g' g : Nat → Int32) (ct : Nat) (L : List Int32) : Prop := (n' = 16 ∨ n' = 34) ∧ ct + L.length ≤ n' ∧ bfit n' g' ∧ (∀ i, i < ct → g' i = g i) ∧ ∀ i, i < L.length → g' (ct + i) = L.getD i 0
theorem apd_c {n ct : Nat} {g g0 : Nat → Int32} {q : Int32} (hn : n = 16 ∨ n = 34) (h : ct + 1 ≤ n) (hf : bfit n g) (he : ∀ i, i < ct → g i = g0 i) (h0 : ¬ q < 0) (h1 : q ≤ 127) : apd n (upd g ct q) g0 ct [q] := by
  refine ⟨hn, h, bfit_upd hf h0 h1, fun i hi => ?_, fun i hi => ?_⟩
  · simp only [upd, if_neg (show ¬ i = ct by omega)]; exact he i hi
  · obtain rfl : i = 0 := by have : i < 1 := hi; omega
    show upd g ct q ct = q
    simp [upd]
theorem apd_t {n ct : Nat} {g g0 : Nat → Int32} {L : List Int32} (hn : n = 16 ∨ n = 34) (h : ct + L.length ≤ n) (hf : bfit n g) (he : ∀ i, i < ct → g i = g0 i) (hL : ∀ i, i < L.length → fits .byte (.int (L.getD i 0)) = true) : apd n (va_cpy (fun j => L.getD j 0) g 0 ct L.length) g0 ct L := by
  refine ⟨hn, h, fun i hi => ?_, fun i hi => ?_, fun i hi => ?_⟩
  · by_cases e : ct ≤ i ∧ i < ct + L.length
    · rw [pk_cpy_in e.1 e.2]; exact hL _ (by omega)
    · rw [pk_cpy_out (by omega)]; exact hf i hi
  · rw [pk_cpy_out (by omega)]; exact he i hi
  · rw [pk_cpy_in (by omega) (by omega)]
    show L.getD (0 + (ct + i - ct)) 0 = _
    congr 1; omega
theorem zlen_ok {k : Nat} (hk : k < 8) : (zByt.getD k []).length = zLen.getD k 0 := by
  have : ∀ j : Fin 8, (zByt.getD j.val []).length = zLen.getD j.val 0 := by decide
  exact this ⟨k, hk⟩
theorem zfit {k : Nat} (hk : k < 8) : ∀ i, fits .byte (.int ((zByt.getD k []).getD i 0)) = true := by
  intro i
  by_cases h : i < 8
  · have : ∀ (j i : Fin 8), fits .byte (.int ((zByt.getD j.val []).getD i.val 0)) = true := by decide +kernel
    exact this ⟨k, hk⟩ ⟨i, h⟩
  · have h7 : ∀ j : Fin 8, zLen.getD j.val 0 < 8 := by decide
    have h8 := h7 ⟨k, hk⟩
    have h9 := zlen_ok hk
    have h10 : zLen.getD k 0 < 8 := h8
    rw [List.getD_eq_getElem?_getD, List.getElem?_eq_none (by omega)]
    rfl
theorem apd_z {n ct k : Nat} {g g0 : Nat → Int32} (hk : k < 8) (hn : n = 16 ∨ n = 34) (h : ct + zLen.getD k 0 ≤ n) (hf : bfit n g) (he : ∀ i, i < ct → g i = g0 i) : apd n (va_cpy (fun j => (zByt.getD k []).getD j 0) g 0 ct (zLen.getD k 0)) g0 ct (zByt.getD k []) := by
  rw [← zlen_ok hk] at h ⊢
  exact apd_t hn h hf he (fun i _ => zfit hk i)
theorem mmn_le {a b : Nat} (h : a ≤ b) (hb : b < 2 ^ 31) : mmn (nI a) (nI b) = nI a := by
  unfold mmn
  rw [if_neg]
  intro q
  have := (nI_ltI (a := b) (b := a) hb (by omega)).mp q
  omega
theorem chr127 {q : Int32} (h0 : ¬ q < 0) (h1 : q ≤ 127) : ((q &&& 255).toUInt32 % 65536).toInt32 = q := by
  obtain ⟨j, hj, rfl⟩ := nI_of2 (M := 127) (n := 127) (by decide) h0 h1
  have : ∀ j : Fin 128, ((nI j.val &&& 255).toUInt32 % 65536).toInt32 = nI j.val := by decide +kernel
  exact this ⟨j, by omega⟩
theorem narc {q : Int32} (h0 : ¬ q < 0) (h1 : q ≤ 127) : narrow FieldType.char (Value.int q) = Value.int q := by
  obtain ⟨j, hj, rfl⟩ := nI_of2 (M := 127) (n := 127) (by decide) h0 h1
  have : ∀ j : Fin 128, narrow FieldType.char (Value.int (nI j.val)) = Value.int (nI j.val) := by decide +kernel
  exact this ⟨j, by omega⟩
section SBW
variable {p : Program} {l : Launch} {e : Env} {R : Room} {s : State} {m : MethodId} {args : Array Value} {below : List Frame} {meth : Method} {c : Code} {H : Heap} {locs : List Loc} {cells slots c2 s2 : Nat} {Q : State → Prop} {cc : ByteArray} {pc : Nat} {ls : Array Slot} {rest st : List Value}
/-- paths that meet at pj, where more may have been taken of the room -/
theorem z_cutA (Inv : Heap → List Loc → Array Slot → List Value → Prop) (pj c2 s2 : Nat)
    (hJ : ∀ (H : Heap) (locs : List Loc) (ls : Array Slot) (st : List Value), Inv H locs ls st → W p l e R s m args below meth c H locs c2 s2 Q (F0 m pj ls st))
    (hB : (∀ (H : Heap) (locs : List Loc) (ls : Array Slot) (st : List Value), Inv H locs ls st → W p l e R s m args below meth c H locs c2 s2 Q (F0 m pj ls st)) → W p l e R s m args below meth c H locs cells slots Q (F0 m pc ls st)) : W p l e R s m args below meth c H locs cells slots Q (F0 m pc ls st) := hB hJ
theorem z_dgt {t k : Nat} {f : Nat → Int32} {v i : Int32} {A : Nat → Prop} (hexec : p.tables.exec = Jvm.exec) (hb : c.code = cc) (hT : va_T .byte t 100 (fun j => .int (f j)) A s s.heap) (hS : va_S A s.heap H locs) (hi : i = nI k) (hk : k < 100) (hv : f k = v) (hdg : decode cc pc = .ok (.baload, 1))
    (kk : W p l e R s m args below meth c H locs cells slots Q (F0 m (pc + 1) ls (.int v :: rest))) : W p l e R s m args below meth c H locs cells slots Q (F0 m pc ls (.int i :: .ref t :: rest)) := by
  subst hi; subst hv
  exact va_tb hexec hb hT hS (vp_in_nI hk (by decide)) (by show Value.int (f (nI k).toNatClampNeg) = _; rw [nI_clamp (by omega)]) hdg kk
theorem nI_nn {a : Nat} (h : a < 2 ^ 31) : ¬ nI a < 0 := by
  rw [Int32.lt_iff_toInt_lt, nI_toInt h]
  show ¬ (a : Int) < (0 : Int32).toInt
  rw [show (0 : Int32).toInt = 0 by decide]
  omega
/-- a row known is copied into one of the world -/
theorem z_copyt {D : va_G} {cl : List vw_C} {A : Nat → Prop} {a : Nat} {tys : List (ClassId × FieldType)} {ws : va_W} (hexec : p.tables.exec = Jvm.exec) (hb : c.code = cc) (hml : c.maxLocals = ls.size) {own : String} {index : Nat} (hown : s.vm.findClass own = some m.cls) (hlink : (Cond.methodLink own index arraycopyName).before args s = true) (hnat : (Cond.native arraycopyName).before args s = true) (hstat : (Cond.static arraycopyName).before args s = true) (hini : (Cond.initialized "java/lang/System").before args s = true)
    (hK : va_K D cl tys s) (hP : va_P D cl ws H) (hD : va_D A ws) (hS : va_S A s.heap H locs) {b0 n0 : Nat} {f : Nat → Int32} (hX : va_T .byte b0 n0 (fun j => .int (f j)) A s s.heap) (q1 t1 : Nat) {c1 : ClassId} {n1 : Nat} {g : Nat → Int32} (ha1 : ws[q1]? = some (a, .inl (c1, n1, .inl g))) (ht1 : tys[t1]? = some (c1, .byte))
    {ct len : Nat} (h4 : len ≤ n0) (h5 : ct + len ≤ n1) (hn1 : n1 < 2 ^ 31) (hfit : ∀ i : Nat, i < len → fits .byte (.int (f i)) = true)
    (hframes : 1 ≤ R.frames) (hlocals : (rest.map fun v => v.category).sum + (nativeFrameWords "java/lang/System" "arraycopy" 5 + 11) ≤ R.locals) (hdg : decode cc pc = .ok (.invokestatic index, 3))
    (kk : ∀ (H1 : Heap) (locs1 : List Loc), va_P D cl (ws.set q1 (a, .inl (c1, n1, .inl (va_cpy f g 0 ct len)))) H1 → va_D A (ws.set q1 (a, .inl (c1, n1, .inl (va_cpy f g 0 ct len)))) → va_S A s.heap H1 locs1 → W p l e R s m args below meth c H1 locs1 cells slots Q (F0 m (pc + 3) ls rest)) : W p l e R s m args below meth c H locs cells slots Q (F0 m pc ls (.int (nI len) :: .int (nI ct) :: .ref a :: .int 0 :: .ref b0 :: rest)) := by
  have e0 : (0 : Int32).toNatClampNeg = 0 := by decide
  have e1 : (nI ct).toNatClampNeg = ct := nI_clamp (by omega)
  have e2 : (nI len).toNatClampNeg = len := nI_clamp (by omega)
  refine vk_copyt hexec hb hml hown hlink hnat hstat hini hK hP hD hS hX q1 t1 ha1 ht1 (by decide) (nI_nn (by omega)) (nI_nn (by omega)) (by rw [e0, e2]; omega) (by rw [e1, e2]; exact h5) (fun i hi => ?_) hframes hlocals hdg (fun H1 locs1 hP1 hD1 hS1 => ?_)
  · rw [e0]; rw [e2] at hi
    have := hfit i hi
    rwa [show 0 + i = i by omega]
  · rw [e0, e1, e2] at hP1 hD1
    exact kk H1 locs1 hP1 hD1 hS1
/-- a constant text by the wide instruction -/
theorem z_ldcw (hexec : p.tables.exec = Jvm.exec) (hb : c.code = cc) {own tx : String} {index q : Nat} (hown : s.vm.findClass own = some m.cls) (hZ : vk_R own index tx q s) (hdg : decode cc pc = .ok (.ldc_w index, 3))
    (k : W p l e R s m args below meth c H locs cells slots Q (F0 m (pc + 3) ls (.ref q :: rest))) : W p l e R s m args below meth c H locs cells slots Q (F0 m pc ls rest) := by
  intro T hT X
  obtain ⟨t, h1, h2⟩ := k T hT X
  refine ⟨t, ?_, h2⟩
  have hd : decode c.code pc = .ok (.ldc_w index, 3) := by rw [hb]; exact hdg
  obtain ⟨k0, cf, i, a', hk, hcf, hcp, -, hr, hev⟩ := Cond.stringRef_spec hown hZ.1
  have ha : q = a' := by
    have := hZ.2.symm.trans hev
    injection this with this; injection this
  subst ha
  obtain ⟨k1, hk1, he⟩ := X.warmed.alike.2.2 _ _ hk
  have hr1 : k1.resolved[index]? = some (some (.string q)) := by
    rcases X.warmed.entry hk hk1 index with h | ⟨h, -⟩
    · exact h.trans hr
    · rw [hr] at h; cases h
  jvm_step X.here [hexec, hd, ldc_w.wp_string (e := e) (s := T) (f := F0 m pc ls rest) X.here.top hk1 (by rw [he]; exact hcf) hcp hr1]
  exact h1
end SBW
