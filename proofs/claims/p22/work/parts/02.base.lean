/-! helpers of this proof: rows over numbered indices, loops, cuts, the shape of contracts -/
abbrev ty4 (cA : Nat → ClassId) : List (ClassId × FieldType) := [(cA 0, .int), (cA 1, .boolean), (cA 2, .byte)]
/-- a contract's start -/
def zU (D : va_G) (cA : Nat → ClassId) (sz : Nat) (ws : va_W) : State → Prop := fun U => U.heap.size = sz ∧ va_P D vwCl ws U.heap ∧ va_K D vwCl (ty4 cA) U ∧ va_D (fun _ => True) ws
/-- the world behind a method -/
def zB (D : va_G) (ws0 : va_W) (sz : Nat) (ws : va_W) (t : State) : Prop := va_P D vwCl ws t.heap ∧ va_D (va_A ws0 sz) ws
theorem zU_blind {av : List Value} {D : va_G} {cA : Nat → ClassId} {sz : Nat} {ws : va_W} : FrameBlind (va_Pc av (zU D cA sz ws)) := fun a U g mk q => by
  obtain ⟨q0, q1, qP, qK, qD⟩ := q
  exact ⟨q0, q1, qP, va_K.moved (u := U) (U := U.calling g mk a) (Vm.Alike.refl U.vm) qK, qD⟩
theorem zU_call {D : va_G} {cA : Nat → ClassId} {wc : va_W} {A : Nat → Prop} {H : Heap} {s U : State} (hU : U.heap = H) (hP : va_P D vwCl wc H) (hv : s.vm.Alike U.vm) (hK : va_K D vwCl (ty4 cA) s) (hD : va_D A wc) : zU D cA H.size wc U :=
  ⟨by rw [hU], by rw [hU]; exact hP, va_K.moved hv hK, hD.weaken (fun _ _ _ _ => trivial)⟩
def bI (P : Prop) [Decidable P] : Int32 := if P then 1 else 0
theorem z_bool {P : Prop} [Decidable P] {r : Int32} (h : r = bI P) : (P ∧ r = 1) ∨ (¬ P ∧ r = 0) := by
  subst h
  by_cases hP : P
  · exact Or.inl ⟨hP, by simp [bI, hP]⟩
  · exact Or.inr ⟨hP, by simp [bI, hP]⟩
theorem z_inc (a n : Nat) : nI a + Int32.ofInt (n : Int) = nI (a + n) := by
  rw [show Int32.ofInt (n : Int) = nI n from rfl]; exact nI_add a n
theorem z_add (a b : Nat) : nI a + nI b = nI (a + b) := nI_add a b
theorem z_mul (a b : Nat) : nI a * nI b = nI (a * b) := pk_mul a b
theorem z_rem {a d : Nat} (ha : a < 2 ^ 31) (h0 : 0 < d) (hd : d < 2 ^ 31) : nI a - nI a / nI d * nI d = nI (a % d) := pk_rem ha h0 hd
theorem z_div {a d : Nat} (ha : a < 2 ^ 31) (h0 : 0 < d) (hd : d < 2 ^ 31) : nI a / nI d = nI (a / d) := pk_div ha h0 hd
section ZZ
variable {p : Program} {l : Launch} {e : Env} {R : Room} {s : State} {m : MethodId} {args : Array Value} {below : List Frame} {meth : Method} {c : Code} {H : Heap} {locs : List Loc} {cells slots : Nat} {Q : State → Prop} {cc : ByteArray} {pc : Nat} {ls : Array Slot} {rest st : List Value} {D : va_G} {cl : List vw_C} {A : Nat → Prop} {a : Nat} {tys : List (ClassId × FieldType)} {ws : va_W} {H0 : Heap}
theorem z_top {x y : Int32} (h : x = y) (k : W p l e R s m args below meth c H locs cells slots Q (F0 m pc ls (.int y :: rest))) : W p l e R s m args below meth c H locs cells slots Q (F0 m pc ls (.int x :: rest)) := by
  rw [h]; exact k
theorem z_topl {x y : Int64} (h : x = y) (k : W p l e R s m args below meth c H locs cells slots Q (F0 m pc ls (.long y :: rest))) : W p l e R s m args below meth c H locs cells slots Q (F0 m pc ls (.long x :: rest)) := by
  rw [h]; exact k
theorem z_iald {k n : Nat} {cA : ClassId} {f : Nat → Int32} {v i : Int32} (hexec : p.tables.exec = Jvm.exec) (hb : c.code = cc) (hK : va_K D cl tys s) (hP : va_P D cl ws H) (q0 t0 : Nat) (ha : ws[q0]? = some (a, .inl (cA, n, .inl f))) (ht : tys[t0]? = some (cA, .int)) (hi : i = nI k) (hk : k < n) (hn : n < 2 ^ 31) (hv : f k = v) (hdg : decode cc pc = .ok (.iaload, 1))
    (kk : W p l e R s m args below meth c H locs cells slots Q (F0 m (pc + 1) ls (.int v :: rest))) : W p l e R s m args below meth c H locs cells slots Q (F0 m pc ls (.int i :: .ref a :: rest)) := by
  subst hi; subst hv
  refine va_iald hexec hb hK hP q0 t0 ha ht (vp_in_nI hk hn) hdg ?_
  rw [nI_clamp (Nat.lt_trans hk hn)]; exact kk
theorem z_bald {k n : Nat} {cA : ClassId} {f : Nat → Int32} {v i : Int32} (hexec : p.tables.exec = Jvm.exec) (hb : c.code = cc) (hK : va_K D cl tys s) (hP : va_P D cl ws H) (q0 t0 : Nat) (ha : ws[q0]? = some (a, .inl (cA, n, .inl f))) (ht : tys[t0]? = some (cA, .byte)) (hi : i = nI k) (hk : k < n) (hn : n < 2 ^ 31) (hv : f k = v) (hdg : decode cc pc = .ok (.baload, 1))
    (kk : W p l e R s m args below meth c H locs cells slots Q (F0 m (pc + 1) ls (.int v :: rest))) : W p l e R s m args below meth c H locs cells slots Q (F0 m pc ls (.int i :: .ref a :: rest)) := by
  subst hi; subst hv
  refine va_bald hexec hb hK hP q0 t0 ha ht (vp_in_nI hk hn) hdg ?_
  rw [nI_clamp (Nat.lt_trans hk hn)]; exact kk
theorem z_zald {k n : Nat} {cA : ClassId} {f : Nat → Int32} {v i : Int32} (hexec : p.tables.exec = Jvm.exec) (hb : c.code = cc) (hK : va_K D cl tys s) (hP : va_P D cl ws H) (q0 t0 : Nat) (ha : ws[q0]? = some (a, .inl (cA, n, .inl f))) (ht : tys[t0]? = some (cA, .boolean)) (hi : i = nI k) (hk : k < n) (hn : n < 2 ^ 31) (hv : f k = v) (hdg : decode cc pc = .ok (.baload, 1))
    (kk : W p l e R s m args below meth c H locs cells slots Q (F0 m (pc + 1) ls (.int v :: rest))) : W p l e R s m args below meth c H locs cells slots Q (F0 m pc ls (.int i :: .ref a :: rest)) := by
  subst hi; subst hv
  refine va_zald hexec hb hK hP q0 t0 ha ht (vp_in_nI hk hn) hdg ?_
  rw [nI_clamp (Nat.lt_trans hk hn)]; exact kk
theorem z_lald {k n : Nat} {cA : ClassId} {f : Nat → Int64} {v : Int64} {i : Int32} (hexec : p.tables.exec = Jvm.exec) (hb : c.code = cc) (hK : va_K D cl tys s) (hP : va_P D cl ws H) (q0 t0 : Nat) (ha : ws[q0]? = some (a, .inl (cA, n, .inr (.inl f)))) (ht : tys[t0]? = some (cA, .long)) (hi : i = nI k) (hk : k < n) (hn : n < 2 ^ 31) (hv : f k = v) (hdg : decode cc pc = .ok (.laload, 1))
    (kk : W p l e R s m args below meth c H locs cells slots Q (F0 m (pc + 1) ls (.long v :: rest))) : W p l e R s m args below meth c H locs cells slots Q (F0 m pc ls (.int i :: .ref a :: rest)) := by
  subst hi; subst hv
  refine va_lald hexec hb hK hP q0 t0 ha ht (vp_in_nI hk hn) hdg ?_
  rw [nI_clamp (Nat.lt_trans hk hn)]; exact kk
theorem z_iast {k n : Nat} {cA : ClassId} {f : Nat → Int32} {x i : Int32} (hexec : p.tables.exec = Jvm.exec) (hb : c.code = cc) (hK : va_K D cl tys s) (hP : va_P D cl ws H) (hD : va_D A ws) (hS : va_S A H0 H locs) (q0 t0 : Nat) (ha : ws[q0]? = some (a, .inl (cA, n, .inl f))) (ht : tys[t0]? = some (cA, .int)) (hi : i = nI k) (hk : k < n) (hn : n < 2 ^ 31) (hdg : decode cc pc = .ok (.iastore, 1))
    (kk : ∀ (H1 : Heap) (locs1 : List Loc), va_P D cl (ws.set q0 (a, .inl (cA, n, .inl (upd f k x)))) H1 → va_D A (ws.set q0 (a, .inl (cA, n, .inl (upd f k x)))) → va_S A H0 H1 locs1 → W p l e R s m args below meth c H1 locs1 cells slots Q (F0 m (pc + 1) ls rest)) : W p l e R s m args below meth c H locs cells slots Q (F0 m pc ls (.int x :: .int i :: .ref a :: rest)) := by
  subst hi
  refine va_iast hexec hb hK hP hD hS q0 t0 ha ht (vp_in_nI hk hn) hdg ?_
  rw [nI_clamp (Nat.lt_trans hk hn)]; exact kk
theorem z_last {k n : Nat} {cA : ClassId} {f : Nat → Int64} {x : Int64} {i : Int32} (hexec : p.tables.exec = Jvm.exec) (hb : c.code = cc) (hK : va_K D cl tys s) (hP : va_P D cl ws H) (hD : va_D A ws) (hS : va_S A H0 H locs) (q0 t0 : Nat) (ha : ws[q0]? = some (a, .inl (cA, n, .inr (.inl f)))) (ht : tys[t0]? = some (cA, .long)) (hi : i = nI k) (hk : k < n) (hn : n < 2 ^ 31) (hdg : decode cc pc = .ok (.lastore, 1))
    (kk : ∀ (H1 : Heap) (locs1 : List Loc), va_P D cl (ws.set q0 (a, .inl (cA, n, .inr (.inl (vp_updL f k x))))) H1 → va_D A (ws.set q0 (a, .inl (cA, n, .inr (.inl (vp_updL f k x))))) → va_S A H0 H1 locs1 → W p l e R s m args below meth c H1 locs1 cells slots Q (F0 m (pc + 1) ls rest)) : W p l e R s m args below meth c H locs cells slots Q (F0 m pc ls (.long x :: .int i :: .ref a :: rest)) := by
  subst hi
  refine va_last hexec hb hK hP hD hS q0 t0 ha ht (vp_in_nI hk hn) hdg ?_
  rw [nI_clamp (Nat.lt_trans hk hn)]; exact kk
/-- a loop of at most N rounds, its invariant by the number of rounds done -/
theorem z_loop (Inv : Nat → Heap → List Loc → Array Slot → Prop) (N : Nat)
    (hs : ∀ j : Nat, j ≤ N → (∀ (H : Heap) (locs : List Loc) (ls : Array Slot), j < N → Inv (j + 1) H locs ls → W p l e R s m args below meth c H locs cells slots Q (F0 m pc ls st)) → ∀ (H : Heap) (locs : List Loc) (ls : Array Slot), Inv j H locs ls → W p l e R s m args below meth c H locs cells slots Q (F0 m pc ls st))
    (h0 : Inv 0 H locs ls) : W p l e R s m args below meth c H locs cells slots Q (F0 m pc ls st) := by
  have key : ∀ (n j : Nat), j ≤ N → N - j ≤ n → ∀ (H : Heap) (locs : List Loc) (ls : Array Slot), Inv j H locs ls → W p l e R s m args below meth c H locs cells slots Q (F0 m pc ls st) := by
    intro n
    induction n with
    | zero => exact fun j hj hn H locs ls hI => hs j hj (fun _ _ _ h _ => absurd h (by omega)) H locs ls hI
    | succ n ih => exact fun j hj hn H locs ls hI => hs j hj (fun H1 l1 s1 h hI1 => ih (j + 1) (by omega) (by omega) H1 l1 s1 hI1) H locs ls hI
  exact key N 0 (Nat.zero_le _) (by omega) _ _ _ h0
/-- paths that meet at pj -/
theorem z_cut (Inv : Heap → List Loc → Array Slot → List Value → Prop) (pj : Nat)
    (hJ : ∀ (H : Heap) (locs : List Loc) (ls : Array Slot) (st : List Value), Inv H locs ls st → W p l e R s m args below meth c H locs cells slots Q (F0 m pj ls st))
    (hB : (∀ (H : Heap) (locs : List Loc) (ls : Array Slot) (st : List Value), Inv H locs ls st → W p l e R s m args below meth c H locs cells slots Q (F0 m pj ls st)) → W p l e R s m args below meth c H locs cells slots Q (F0 m pc ls st)) : W p l e R s m args below meth c H locs cells slots Q (F0 m pc ls st) := hB hJ
end ZZ
/-! the cells of the class: an end's object, its queue, a packet, the wire -/
abbrev cE (a : Nat → Nat) (v : Nat → Int32) : Nat × va_E := (a 0, .inr (1, [.ref (a 1), .ref (a 2), .ref (a 3), .ref (a 4), .ref (a 5), .ref (a 6), .ref (a 7), .ref (a 8), .ref (a 9), .int (v 0), .int (v 1), .int (v 2), .int (v 3), .int (v 4), .int (v 5), .int (v 6)]))
/-! the words of the document: states by their numbers -/
abbrev sSh (x : Int32) : Prop := x = 0 ∨ x = 6 ∨ x = 7
abbrev sUp (x : Int32) : Prop := ¬ sSh x ∧ ¬ x = 5
abbrev sWt (x : Int32) : Prop := ¬ sSh x ∧ ¬ x = 4
/-! rows of values -/
abbrev mmx (x y : Int32) : Int32 := if x < y then y else x
abbrev mmn (x y : Int32) : Int32 := if y < x then y else x
def bB (b : Bool) : Int32 := if b then 1 else 0
/-- the first j places done -/
def mix (j : Nat) (F g : Nat → Int32) : Nat → Int32 := fun k => if k < j then F k else g k
theorem mix_0 (F g : Nat → Int32) : g = mix 0 F g := by funext k; simp [mix]
theorem mix_put {j : Nat} {F g : Nat → Int32} {x : Int32} (h : F j = x) : upd (mix j F g) j x = mix (j + 1) F g := by
  funext k
  by_cases h1 : k = j
  · subst h1; simp [mix, upd, h]
  · by_cases h2 : k < j
    · simp [mix, upd, h1, h2, Nat.lt_succ_of_lt h2]
    · have h3 : ¬ k < j + 1 := by omega
      simp [mix, upd, h1, h2, h3]
theorem mix_keep {j : Nat} {F g : Nat → Int32} (h : F j = g j) : mix j F g = mix (j + 1) F g := by
  funext k
  by_cases h1 : k = j
  · subst h1; simp [mix, h]
  · by_cases h2 : k < j
    · simp [mix, h2, Nat.lt_succ_of_lt h2]
    · have h3 : ¬ k < j + 1 := by omega
      simp [mix, h2, h3]
theorem mix_lt {j k : Nat} {F g : Nat → Int32} (h : k < j) : mix j F g k = F k := by simp [mix, h]
theorem mix_self {j : Nat} {F g : Nat → Int32} : mix j F g j = g j := by simp [mix]
def anB (p : Nat → Bool) : Nat → Bool
  | 0 => false
  | n + 1 => anB p n || p n
theorem anB_0 (p : Nat → Bool) : bB (anB p 0) = 0 := rfl
/-- a row that holds the same numbers -/
theorem z_row {D : va_G} {cl : List vw_C} {ws : va_W} {H : Heap} (hP : va_P D cl ws H) (q0 : Nat) {a : Nat} {cA : ClassId} {n : Nat} {f g : Nat → Int32} (ha : ws[q0]? = some (a, .inl (cA, n, .inl f))) (h : ∀ j, j < n → f j = g j) : va_P D cl (ws.set q0 (a, .inl (cA, n, .inl g))) H := by
  intro k q hk
  by_cases hkp : k = q0
  · subst hkp
    have hl := (List.getElem?_eq_some_iff.mp ha).1
    rw [List.getElem?_set_self hl] at hk
    cases hk
    have h1 := hP k _ ha
    have h2 : vp_cell cA (n, Sum.inl f) = vp_cell cA (n, Sum.inl g) := by
      rw [vp_cell_i, vp_cell_i]
      unfold arrV
      congr 1
      apply Array.ext (by simp)
      intro i h1 h2
      simp only [Array.getElem_ofFn]
      rw [h i (by simpa using h1)]
    show H[a]? = some (vp_cell cA (n, Sum.inl g))
    rw [← h2]; exact h1
  · rw [List.getElem?_set_ne (Ne.symm hkp)] at hk
    exact hP k q hk
theorem mix_all {n : Nat} {F g : Nat → Int32} : ∀ j, j < n → mix n F g j = F j := fun j h => mix_lt h
/-! judging -/
abbrev isR (f rf : Nat → Int32) (k : Nat) : Bool := decide (¬ f k = -1 ∧ ¬ rf k = 0)
def rfd (f rf : Nat → Int32) : Nat → Int32 := fun k => if isR f rf k then f k else -1
abbrev ner (lo hi f : Nat → Int32) (k : Nat) : Int32 := mmn (mmx (f k) (lo k)) (hi k)
abbrev isO (f lo hi : Nat → Int32) (k : Nat) : Bool := decide (¬ f k = -1 ∧ ¬ f k = ner lo hi f k)
def ofd (f lo hi : Nat → Int32) : Nat → Int32 := fun k => if isO f lo hi k then ner lo hi f k else -1
def jKd (f rf lo hi : Nat → Int32) : Int32 := if anB (isR f rf) 4 then 3 else if anB (isO f lo hi) 4 then 2 else 1
def jAn (f rf lo hi : Nat → Int32) : Nat → Int32 := if anB (isR f rf) 4 then rfd f rf else if anB (isO f lo hi) 4 then ofd f lo hi else f
/-- a counter's values taken over -/
def ctr (lo hi f g : Nat → Int32) : Nat → Int32 := fun k => if f k = -1 then g k else if ¬ f k < lo k ∧ ¬ hi k < f k then f k else -1
def rfl4 (f g : Nat → Int32) : Nat → Int32 := fun k => if f k = -1 then g k else -1
theorem ofd_y {f lo hi : Nat → Int32} {k : Nat} (h1 : ¬ f k = -1) (h2 : ¬ f k = ner lo hi f k) : isO f lo hi k = true ∧ ofd f lo hi k = ner lo hi f k := by
  have h : isO f lo hi k = true := decide_eq_true ⟨h1, h2⟩
  exact ⟨h, by unfold ofd; rw [if_pos h]⟩
theorem ofd_n1 {f lo hi : Nat → Int32} {k : Nat} (h1 : f k = -1) : isO f lo hi k = false ∧ ofd f lo hi k = -1 := by
  have h : isO f lo hi k = false := decide_eq_false (fun q => q.1 h1)
  exact ⟨h, by unfold ofd; rw [if_neg (by rw [h]; decide)]⟩
theorem ofd_n2 {f lo hi : Nat → Int32} {k : Nat} (h1 : f k = ner lo hi f k) : isO f lo hi k = false ∧ ofd f lo hi k = -1 := by
  have h : isO f lo hi k = false := decide_eq_false (fun q => q.2 h1)
  exact ⟨h, by unfold ofd; rw [if_neg (by rw [h]; decide)]⟩
theorem z_an1 {p : Nat → Bool} {j : Nat} (h : anB p j = true) : bB (anB p (j + 1)) = 1 := by simp [anB, bB, h]
theorem z_an2 {p : Nat → Bool} {j : Nat} (h : p j = true) : bB (anB p (j + 1)) = 1 := by simp [anB, bB, h]
theorem z_an3 {p : Nat → Bool} {j : Nat} (h : anB p j = false) (h2 : p j = false) : bB (anB p (j + 1)) = 0 := by simp [anB, bB, h, h2]
theorem z_bn {b : Bool} : (bB b = 0) = (b = false) := by cases b <;> simp [bB]
def mvY (v : Nat → Int32) : Nat → Int32 := if v 0 = 1 then upd v 0 3 else if v 0 = 2 then upd (upd v 0 4) 3 10 else v
def cnL (v : Nat → Int32) : Nat → Int32 := if v 5 + 1 = 3 then upd (upd v 5 (v 5 + 1)) 0 7 else upd v 5 (v 5 + 1)
