/-! the line of an end -/
def lnD (v : Nat) : List Int32 := if v ≤ 9 then [nI (48 + v % 10)] else if v ≤ 99 then [nI (48 + v / 10), nI (48 + v % 10)] else [49, 48, 48]
def lnO (j : Nat) (x : Int32) : List Int32 := if x = -1 then [] else 32 :: nI (97 + j) :: lnD x.toNatClampNeg
def lnT (k : Nat) (f : Nat → Int32) : Nat → List Int32
  | 0 => zByt.getD k []
  | j + 1 => lnT k f j ++ lnO j (f j)
abbrev okv (x : Int32) : Prop := x = -1 ∨ ∃ v : Nat, v ≤ 100 ∧ x = nI v
def okl (L : List Int32) : Prop := ∀ x ∈ L, ¬ x < 0 ∧ x ≤ 127
theorem lnD_a {v : Nat} (h : v ≤ 9) : lnD v = [nI (48 + v % 10)] := if_pos h
theorem lnD_b {v : Nat} (h1 : 10 ≤ v) (h2 : v ≤ 99) : lnD v = [nI (48 + v / 10), nI (48 + v % 10)] := (if_neg (by omega)).trans (if_pos h2)
theorem lnD_c {v : Nat} (h1 : 100 ≤ v) : lnD v = [49, 48, 48] := (if_neg (by omega)).trans (if_neg (by omega))
theorem lnD_3 (v : Nat) : (lnD v).length ≤ 3 := by
  unfold lnD
  split
  · simp
  · split <;> simp
theorem nI_nm1 {v : Nat} (h : v < 2 ^ 31) : ¬ nI v = -1 := by
  intro q
  have h2 := nI_nn h
  rw [q] at h2
  exact h2 (by decide)
theorem lnO_n {j : Nat} {x : Int32} (h : x = -1) : lnO j x = [] := if_pos h
theorem lnO_v {j v : Nat} {x : Int32} (hv : v ≤ 100) (h : x = nI v) : lnO j x = 32 :: nI (97 + j) :: lnD v := by
  subst h
  unfold lnO
  rw [if_neg (nI_nm1 (by omega)), nI_clamp (by omega)]
theorem lnT_n {k j : Nat} {f : Nat → Int32} (h : f j = -1) : lnT k f (j + 1) = lnT k f j := by
  show lnT k f j ++ lnO j (f j) = _
  rw [lnO_n h, List.append_nil]
theorem lnT_v {k j v : Nat} {f : Nat → Int32} (hv : v ≤ 100) (h : f j = nI v) : lnT k f (j + 1) = lnT k f j ++ 32 :: nI (97 + j) :: lnD v := by
  show lnT k f j ++ lnO j (f j) = _
  rw [lnO_v hv h]
theorem zlen7 {k : Nat} (hk : k < 8) : zLen.getD k 0 ≤ 7 := by
  have : ∀ j : Fin 8, zLen.getD j.val 0 ≤ 7 := by decide
  exact this ⟨k, hk⟩
theorem lnT_le {k : Nat} {f : Nat → Int32} (hk : k < 8) : ∀ j : Nat, (lnT k f j).length ≤ 7 + 5 * j
  | 0 => by
    show (zByt.getD k []).length ≤ 7
    rw [zlen_ok hk]; exact zlen7 hk
  | j + 1 => by
    have ih := lnT_le (f := f) hk j
    show (lnT k f j ++ lnO j (f j)).length ≤ _
    have h5 : (lnO j (f j)).length ≤ 5 := by
      unfold lnO
      split
      · simp
      · have := lnD_3 (f j).toNatClampNeg
        simp only [List.length_cons]; omega
    rw [List.length_append]; omega
theorem okl_app {L M : List Int32} (h1 : okl L) (h2 : okl M) : okl (L ++ M) := fun x hx => (List.mem_append.mp hx).elim (h1 x) (h2 x)
theorem okl_c {x : Int32} {M : List Int32} (h1 : ¬ x < 0 ∧ x ≤ 127) (h2 : okl M) : okl (x :: M) := fun y hy => (List.mem_cons.mp hy).elim (fun e => by rw [e]; exact h1) (h2 y)
theorem okl_nil : okl [] := fun _ h => absurd h List.not_mem_nil
theorem okc_n {a : Nat} (h : a ≤ 127) : ¬ nI a < 0 ∧ nI a ≤ 127 := ⟨nI_nn (by omega), (nI_leI (a := a) (b := 127) (by omega) (by decide)).mpr h⟩
theorem okl_D (v : Nat) (hv : v ≤ 100) : okl (lnD v) := by
  rcases (show v ≤ 9 ∨ (10 ≤ v ∧ v ≤ 99) ∨ 100 ≤ v by omega) with h | ⟨h1, h2⟩ | h
  · rw [lnD_a h]; exact okl_c (okc_n (by omega)) okl_nil
  · rw [lnD_b h1 h2]; exact okl_c (okc_n (by omega)) (okl_c (okc_n (by omega)) okl_nil)
  · rw [lnD_c h]; exact okl_c (by decide) (okl_c (by decide) (okl_c (by decide) okl_nil))
theorem okl_z {k : Nat} (hk : k < 8) : okl (zByt.getD k []) := by
  have : ∀ j : Fin 8, ∀ x ∈ zByt.getD j.val [], ¬ x < 0 ∧ x ≤ 127 := by decide +kernel
  exact this ⟨k, hk⟩
theorem lnT_ok {k : Nat} {f : Nat → Int32} (hk : k < 8) (hf : ∀ j, j < 4 → okv (f j)) : ∀ j : Nat, j ≤ 4 → okl (lnT k f j)
  | 0, _ => okl_z hk
  | j + 1, hj => by
    have ih := lnT_ok hk hf j (by omega)
    rcases hf j (by omega) with h | ⟨v, hv, h⟩
    · rw [lnT_n h]; exact ih
    · rw [lnT_v hv h]; exact okl_app ih (okl_c (by decide) (okl_c (okc_n (by omega)) (okl_D v hv)))
theorem okl_at {L : List Int32} (h : okl L) {i : Nat} (hi : i < L.length) : ¬ L.getD i 0 < 0 ∧ L.getD i 0 ≤ 127 := by
  have e : L.getD i 0 = L[i] := by rw [List.getD_eq_getElem?_getD, List.getElem?_eq_getElem hi]; rfl
  rw [e]
  exact h _ (List.getElem_mem hi)
theorem apd_app {n1 n2 c0 ct : Nat} {g0 g1 g2 : Nat → Int32} {L M : List Int32} (h1 : apd n1 g1 g0 c0 L) (hc : ct = c0 + L.length) (h2 : apd n2 g2 g1 ct M) : apd n2 g2 g0 c0 (L ++ M) := by
  subst hc
  obtain ⟨-, -, -, a1, a2⟩ := h1
  obtain ⟨b1, b2, b3, b4, b5⟩ := h2
  refine ⟨b1, by rw [List.length_append]; omega, b3, fun i hi => ?_, fun i hi => ?_⟩
  · rw [b4 i (by omega)]; exact a1 i hi
  · rw [List.length_append] at hi
    by_cases e : i < L.length
    · rw [b4 (c0 + i) (by omega), a2 i e]
      simp only [List.getD_eq_getElem?_getD, List.getElem?_append_left e]
    · have h6 := b5 (i - L.length) (by omega)
      rw [show c0 + i = c0 + L.length + (i - L.length) by omega, h6]
      simp only [List.getD_eq_getElem?_getD, List.getElem?_append_right (Nat.le_of_not_lt e)]
theorem apd_rnd {n0 n1 n2 n3 ct : Nat} {g g0 g1 g2 g3 : Nat → Int32} {L M : List Int32} {q : Int32} (h0 : apd n0 g0 g 0 L) (hc : ct = L.length) (h1 : apd n1 g1 g0 ct [32]) (h2 : apd n2 g2 g1 (ct + 1) [q]) (h3 : apd n3 g3 g2 (ct + 1 + 1) M) : apd n3 g3 g 0 (L ++ 32 :: q :: M) := by
  have a1 := apd_app h0 (by omega) h1
  have a2 := apd_app a1 (ct := ct + 1) (by simp only [List.length_append, List.length_cons, List.length_nil]; omega) h2
  have a3 := apd_app a2 (ct := ct + 1 + 1) (by simp only [List.length_append, List.length_cons, List.length_nil]; omega) h3
  simpa only [List.append_assoc, List.cons_append, List.nil_append] using a3
theorem nplcL {o : Int32} {n : Nat} (h1 : ¬ o < 0) (h2 : o < nI n) (hn : n < 2 ^ 30) : inr o 0 (nI n - 1) := by
  refine ⟨h1, ?_⟩
  have h0 : 0 < n := by
    rcases Nat.eq_zero_or_pos n with h | h
    · subst h
      exact absurd h2 h1
    · exact h
  rw [nI_sub1 h0]
  simp only [Int32.lt_iff_toInt_lt] at *
  rw [nI_toInt (by omega)] at *
  omega
theorem z_thrR {D : va_G} {ws ws0 : va_W} {A : Nat → Prop} {s t : State} {H : Heap} {locs : List Loc} {E : String} {B : State → Prop} (hB : ∀ t, zB D ws0 s.heap.size ws t → B t) (hP : va_P D vwCl ws H) (hD : va_D A ws) (hS : va_S A s.heap H locs) (hA : va_A ws0 s.heap.size = A) (h8 : H.size ≤ t.heap.size) (h9 : ∀ q : Nat, q < H.size → t.heap[q]? = H[q]?) :
    vx_X (fun _ : Unit => True) (fun E' (_ : Unit) t => E' = E ∧ B t) A E s t := by
  obtain ⟨u, hu, ⟨e, h⟩, hF⟩ := z_thr (E := E) hP hD hS hA h8 h9
  exact ⟨(), trivial, ⟨e, hB _ h⟩, hF⟩
