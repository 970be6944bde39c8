/-! throwing: the world behind it is as it was -/
theorem z_thr {D : va_G} {ws ws0 : va_W} {A : Nat → Prop} {s t : State} {H : Heap} {locs : List Loc} {E : String} (hP : va_P D vwCl ws H) (hD : va_D A ws) (hS : va_S A s.heap H locs) (hA : va_A ws0 s.heap.size = A) (h8 : H.size ≤ t.heap.size) (h9 : ∀ q : Nat, q < H.size → t.heap[q]? = H[q]?) :
    vx_X (fun _ : Unit => True) (fun E' (_ : Unit) t => E' = E ∧ zB D ws0 s.heap.size ws t) A E s t := by
  refine ⟨(), trivial, ⟨rfl, hP.kept (fun k q hk => h9 q.1 (hP k q hk).lt), by rw [hA]; exact hD⟩, Nat.le_trans hS.1 h8, fun q h1 h2 => ?_⟩
  exact (h9 q (Nat.lt_of_lt_of_le h1 hS.1)).trans (hS.2.1 q h1 h2)
theorem z_thrO {D : va_G} {ws ws0 : va_W} {A : Nat → Prop} {s t : State} {H : Heap} {locs : List Loc} {E : String} (hP : va_P D vwCl ws H) (hD : va_D A ws) (hS : va_S A s.heap H locs) (hA : va_A ws0 s.heap.size = A) (ht : t.heap = H) :
    vx_X (fun _ : Unit => True) (fun E' (_ : Unit) t => E' = E ∧ zB D ws0 s.heap.size ws t) A E s t := z_thr hP hD hS hA (by rw [ht]; exact Nat.le_refl _) (fun q _ => by rw [ht])
theorem en_inr {n : Int32} {F G x y : Nat} (h : en n F G x y) : inr n 0 1 := by
  rcases h with ⟨rfl, -, -⟩ | ⟨rfl, -, -⟩ <;> decide
theorem n01 {n : Int32} (h1 : ¬ n < 0) (h2 : n ≤ 1) : inr n 0 1 := ⟨h1, Int32.not_lt.mpr h2⟩
theorem n03 {n : Int32} (h1 : ¬ n < 0) (h2 : n < 4) : inr n 0 3 := by
  refine ⟨h1, ?_⟩
  simp only [Int32.lt_iff_toInt_lt] at *
  have e4 : (4 : Int32).toInt = 4 := by decide
  have e3 : (3 : Int32).toInt = 3 := by decide
  omega
theorem n03' {n : Int32} (h : inr n 0 3) : n < 4 := by
  have h2 := h.2
  simp only [Int32.lt_iff_toInt_lt] at *
  have e4 : (4 : Int32).toInt = 4 := by decide
  have e3 : (3 : Int32).toInt = 3 := by decide
  omega
abbrev sSp (le mo : Int32) : Prop := inr le 0 100 ∧ inr mo le 100
theorem nsp {le mo : Int32} (h1 : ¬ le < 0) (h2 : ¬ mo < le) (h3 : mo ≤ 100) : sSp le mo := by
  simp only [sSp, inr, Int32.lt_iff_toInt_lt, Int32.le_iff_toInt_le] at *
  omega
theorem nplc {o : Int32} {n : Nat} (h1 : ¬ o < 0) (h2 : o < nI n) (hn : n ≤ 12) : inr o 0 (nI n - 1) := by
  refine ⟨h1, ?_⟩
  have h0 : 0 < n := by
    rcases Nat.eq_zero_or_pos n with h | h
    · subst h
      exact absurd h2 h1
    · exact h
  rw [nI_sub1 h0]
  simp only [Int32.lt_iff_toInt_lt] at *
  rw [nI_toInt (by omega)] at *
  omega
theorem nplc0 {n : Nat} (h : n = 0) : ¬ inr 0 0 (nI n - 1) := by
  subst h
  intro q
  exact absurd (show nI 0 - 1 < (0 : Int32) by decide) q.2
theorem en_01 {F G x y : Nat} (h : en 0 F G x y) : en 1 F G y x := by
  rcases h with ⟨-, h1, h2⟩ | ⟨h1, -, -⟩
  · exact Or.inr ⟨rfl, h1, h2⟩
  · exact absurd h1 (by decide)
theorem upd_cl {v : Nat → Int32} : byV (upd (upd v 0 5) 6 0) = upd (upd (upd v 0 5) 6 1) 4 2 := by
  funext j
  have e : upd (upd v 0 5) 6 0 6 + 1 = 1 := rfl
  unfold byV
  rw [e]
  by_cases h : j = 4
  · simp [upd, h]
  · by_cases h2 : j = 6 <;> simp [upd, h, h2]
