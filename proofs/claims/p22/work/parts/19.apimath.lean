theorem fitz {x : Int32} (h : x = 0 ∨ x = 1) : fits .boolean (.int x) = true := by rcases h with rfl | rfl <;> rfl
/-! throwing: the world behind it is as it was -/
theorem z_thr {D : va_G} {ws ws0 : va_W} {A : Nat → Prop} {s t : State} {H : Heap} {locs : List Loc} {E : String} (hP : va_P D vwCl ws H) (hD : va_D A ws) (hS : va_S A s.heap H locs) (hA : va_A ws0 s.heap.size = A) (h8 : H.size ≤ t.heap.size) (h9 : ∀ q : Nat, q < H.size → t.heap[q]? = H[q]?) :
    vx_X (fun _ : Unit => True) (fun E' (_ : Unit) t => E' = E ∧ zB D ws0 s.heap.size ws t) A E s t := by
  refine ⟨(), trivial, ⟨rfl, hP.kept (fun k q hk => h9 q.1 (hP k q hk).lt), by rw [hA]; exact hD⟩, Nat.le_trans hS.1 h8, fun q h1 h2 => ?_⟩
  exact (h9 q (Nat.lt_of_lt_of_le h1 hS.1)).trans (hS.2.1 q h1 h2)
theorem z_thrO {D : va_G} {ws ws0 : va_W} {A : Nat → Prop} {s t : State} {H : Heap} {locs : List Loc} {E : String} (hP : va_P D vwCl ws H) (hD : va_D A ws) (hS : va_S A s.heap H locs) (hA : va_A ws0 s.heap.size = A) (ht : t.heap = H) :
    vx_X (fun _ : Unit => True) (fun E' (_ : Unit) t => E' = E ∧ zB D ws0 s.heap.size ws t) A E s t := z_thr hP hD hS hA (by rw [ht]; exact Nat.le_refl _) (fun q _ => by rw [ht])
theorem en_inr {n : Int32} {F G x y : Nat} (h : en n F G x y) : inr n 0 1 := by
  rcases h with ⟨rfl, -, -⟩ | ⟨rfl, -, -⟩ <;> decide
theorem n01 {n : Int32} (h1 : ¬ n < 0) (h2 : n ≤ 1) : inr n 0 1 := ⟨h1, Int32.not_lt.mpr h2⟩
theorem n03 {n : Int32} (h1 : ¬ n < 0) (h2 : n < 4) : inr n 0 3 := by
  refine ⟨h1, ?_⟩
  simp only [Int32.lt_iff_toInt_lt] at *
  have e4 : (4 : Int32).toInt = 4 := by decide
  have e3 : (3 : Int32).toInt = 3 := by decide
  omega
theorem n03' {n : Int32} (h : inr n 0 3) : n < 4 := by
  have h2 := h.2
  simp only [Int32.lt_iff_toInt_lt] at *
  have e4 : (4 : Int32).toInt = 4 := by decide
  have e3 : (3 : Int32).toInt = 3 := by decide
  omega
abbrev sSp (le mo : Int32) : Prop := inr le 0 100 ∧ inr mo le 100
theorem nsp {le mo : Int32} (h1 : ¬ le < 0) (h2 : ¬ mo < le) (h3 : mo ≤ 100) : sSp le mo := by
  simp only [sSp, inr, Int32.lt_iff_toInt_lt, Int32.le_iff_toInt_le] at *
  omega
theorem nplc {o : Int32} {n : Nat} (h1 : ¬ o < 0) (h2 : o < nI n) (hn : n ≤ 12) : inr o 0 (nI n - 1) := by
  refine ⟨h1, ?_⟩
  have h0 : 0 < n := by
    rcases Nat.eq_zero_or_pos n with h | h
    · subst h
      exact absurd h2 h1
    · exact h
  rw [nI_sub1 h0]
  simp only [Int32.lt_iff_toInt_lt] at *
  rw [nI_toInt (by omega)] at *
  omega
theorem nplc0 {n : Nat} (h : n = 0) : ¬ inr 0 0 (nI n - 1) := by
  subst h
  intro q
  exact absurd (show nI 0 - 1 < (0 : Int32) by decide) q.2
theorem en_01 {F G x y : Nat} (h : en 0 F G x y) : en 1 F G y x := by
  rcases h with ⟨-, h1, h2⟩ | ⟨h1, -, -⟩
  · exact Or.inr ⟨rfl, h1, h2⟩
  · exact absurd h1 (by decide)
theorem upd_cl {v : Nat → Int32} : byV (upd (upd v 0 5) 6 0) = upd (upd (upd v 0 5) 6 1) 4 2 := by
  funext j
  have e : upd (upd v 0 5) 6 0 6 + 1 = 1 := rfl
  unfold byV
  rw [e]
  by_cases h : j = 4
  · simp [upd, h]
  · by_cases h2 : j = 6 <;> simp [upd, h, h2]
/-! what a throw and the line of an end take as given, beside zE -/
def zBw : List Cond := [.castable "java/lang/IllegalArgumentException" "java/lang/IllegalArgumentException", .castable "java/lang/IllegalStateException" "java/lang/IllegalStateException", .castable "java/util/NoSuchElementException" "java/util/NoSuchElementException"]
def zBd : List MethodName := [Bundle.initS "java/lang/RuntimeException", Bundle.initS "java/lang/Exception", Bundle.initS Bundle.tN]
def zNm : List (Nat × String × Nat) := [(294, "closed", 20), (281, "asking", 21), (283, "heard", 22), (285, "told", 23), (287, "opened", 24), (289, "closing", 25), (291, "failed", 26), (293, "looped", 27)]
def zLen : List Nat := [6, 6, 5, 4, 6, 7, 6, 6]
def zByt : List (List Int32) := [[99, 108, 111, 115, 101, 100], [97, 115, 107, 105, 110, 103], [104, 101, 97, 114, 100], [116, 111, 108, 100], [111, 112, 101, 110, 101, 100], [99, 108, 111, 115, 105, 110, 103], [102, 97, 105, 108, 101, 100], [108, 111, 111, 112, 101, 100]]
def zX (zv : Nat → Nat) (A : Nat → Prop) (U : State) (H : Heap) : Prop :=
  ((∀ X ∈ ["java/lang/IllegalArgumentException", "java/lang/IllegalStateException", "java/util/NoSuchElementException"], va_Nw (.castable X X) U) ∧ (∀ x ∈ zBd, va_Nw (.declares x) U)) ∧
  (va_Z "java/lang/String" "COMPACT_STRINGS" "Z" (.int 1) A U H ∧ va_Z "java/lang/Integer" "DigitOnes" "[B" (.ref (zv 10)) A U H ∧ va_T .byte (zv 10) 100 (fun j => .int (nI (48 + j % 10))) A U H ∧ va_Z "java/lang/Integer" "DigitTens" "[B" (.ref (zv 11)) A U H ∧ va_T .byte (zv 11) 100 (fun j => .int (nI (48 + j / 10))) A U H) ∧
  ((∀ q ∈ zNm, vk_R RX3 q.1 q.2.1 (zv q.2.2) U) ∧ vk_S 8 zLen zByt (fun k => zv (20 + k)) (fun k => zv (40 + k)) A U H) ∧
  (va_Zq "jdk/internal/util/Preconditions" "SIOOBE_FORMATTER" "Ljava/util/function/BiFunction;" A U H ∧ va_Nc "java/lang/IllegalArgumentException" "java/lang/IllegalStateException" U ∧ va_Nc "java/util/NoSuchElementException" "java/lang/IllegalStateException" U)
theorem zX.go {zv : Nat → Nat} {A B : Nat → Prop} {s U : State} {H0 H : Heap} (h : zX zv A s H0) (hq : ∀ a : Nat, a < H0.size → ¬ A a → H[a]? = H0[a]?) (hAB : ∀ q, B q → A q) (hW : s.WarmedH U.vm) : zX zv B U H := by
  obtain ⟨⟨h1, h2⟩, ⟨h3, h4, h5, h6, h7⟩, ⟨h8, h9⟩, h10, h11, h12⟩ := h
  exact ⟨⟨fun X hm => va_Nw.warmC hW (h1 X hm), fun x hm => va_Nw.warmD hW (h2 x hm)⟩, ⟨va_Z.moved hW.alike ((h3.kept hq).narrow hAB), va_Z.moved hW.alike ((h4.kept hq).narrow hAB), va_T.moved hW.alike ((h5.kept hq).narrow hAB), va_Z.moved hW.alike ((h6.kept hq).narrow hAB), va_T.moved hW.alike ((h7.kept hq).narrow hAB)⟩, ⟨fun q hm => vk_R.warm hW (h8 q hm), vk_S.moved hW.alike ((h9.kept hq).narrow hAB)⟩, va_Zq.moved hW.alike ((h10.kept hq).narrow hAB), va_Nc.moved hW.alike h11, va_Nc.moved hW.alike h12⟩
theorem zX.same {zv : Nat → Nat} {A : Nat → Prop} {u U : State} {H : Heap} (h : zX zv A u H) (hv : u.vm = U.vm) : zX zv A U H := by
  obtain ⟨⟨h1, h2⟩, ⟨h3, h4, h5, h6, h7⟩, ⟨h8, h9⟩, h10, h11, h12⟩ := h
  have ha : u.vm.Alike U.vm := hv ▸ Vm.Alike.refl u.vm
  exact ⟨⟨fun X hm => va_Nw.same rfl hv (h1 X hm), fun x hm => va_Nw.same rfl hv (h2 x hm)⟩, ⟨va_Z.moved ha h3, va_Z.moved ha h4, va_T.moved ha h5, va_Z.moved ha h6, va_T.moved ha h7⟩, ⟨fun q hm => vk_R.same hv.symm (h8 q hm), vk_S.moved ha h9⟩, va_Zq.moved ha h10, va_Nc.moved ha h11, va_Nc.moved ha h12⟩
def zUX (D : va_G) (cA : Nat → ClassId) (zv : Nat → Nat) (sz : Nat) (ws : va_W) : State → Prop := fun U => zUE D cA zv sz ws U ∧ zX zv (va_A ws sz) U U.heap
theorem zUX_blind {av : List Value} {D : va_G} {cA : Nat → ClassId} {zv : Nat → Nat} {sz : Nat} {ws : va_W} : FrameBlind (va_Pc av (zUX D cA zv sz ws)) := fun a U g mk q => by
  obtain ⟨q0, q1, q2⟩ := q
  have h := zUE_blind (av := av) (D := D) (cA := cA) (zv := zv) (sz := sz) (ws := ws) a U g mk ⟨q0, q1⟩
  exact ⟨q0, h.2, q2.same (u := U) (U := U.calling g mk a) rfl⟩
theorem zUX_call {D : va_G} {cA : Nat → ClassId} {zv : Nat → Nat} {wc : va_W} {A : Nat → Prop} {H : Heap} {locs : List Loc} {s U : State} (hE : zE zv A s s.heap) (hX : zX zv A s s.heap) (hS : va_S A s.heap H locs) (hF : ∀ q, va_A wc H.size q → A q) (hU : U.heap = H) (hP : va_P D vwCl wc H) (hW : s.WarmedH U.vm) (hK : va_K D vwCl (ty4 cA) s) (hD : va_D A wc) : zUX D cA zv H.size wc U :=
  ⟨zUE_call hE hS hF hU hP hW hK hD, by rw [hU]; exact hX.go hS.2.1 hF hW⟩
/-- the words of a throw that are not good ones -/
theorem z_bad {zv : Nat → Nat} {A : Nat → Prop} {s : State} {H : Heap} {args : Array Value} (h : zX zv A s H) {X : String} (hX : X ∈ ["java/lang/IllegalArgumentException", "java/lang/IllegalStateException", "java/util/NoSuchElementException"]) : ∀ w ∈ (Cond.castable X X :: zBd.map Cond.declares), w.before args s = true := by
  intro w hw
  rcases List.mem_cons.mp hw with rfl | hw
  · exact va_Nw.use rfl (h.1.1 X hX)
  · obtain ⟨x, hx, rfl⟩ := List.mem_map.mp hw
    exact va_Nw.use rfl (h.1.2 x hx)
