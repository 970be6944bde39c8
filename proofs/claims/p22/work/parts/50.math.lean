/-! p22: what holds of the wire between two calls, over numbers -/
abbrev upN (s : Nat) : Prop := 1 ≤ s ∧ s ≤ 4
theorem nIe {a b : Nat} (h : nI a = nI b) (ha : a < 2 ^ 31) (hb : b < 2 ^ 31) : a = b := (nI_eq ha hb).mp h
theorem nI_ne {a b : Nat} (h : ¬ a = b) (ha : a < 2 ^ 31) (hb : b < 2 ^ 31) : ¬ nI a = nI b := fun q => h (nIe q ha hb)
theorem nI_is {a : Nat} (b : Nat) {x : Int32} (hx : x = nI b) (ha : a < 2 ^ 31) (hb : b < 2 ^ 31) : nI a = x ↔ a = b := by
  rw [hx]; exact nI_eq ha hb
def qA (R : (Nat → Int32) → Prop) (Q : Qt) : Prop := ∀ i, i < Q.1 → R (Q.2 i)
def qP (R : (Nat → Int32) → (Nat → Int32) → Prop) (Q : Qt) : Prop := ∀ i j, i < j → j < Q.1 → R (Q.2 i) (Q.2 j)
theorem qA_pop {R : (Nat → Int32) → Prop} {Q : Qt} (h : qA R Q) : qA R (pop Q) := by
  intro i hi
  have hi : i < Q.1 - 1 := hi
  show R (if i < Q.1 - 1 then Q.2 (i + 1) else Q.2 i)
  rw [if_pos hi]
  exact h (i + 1) (by omega)
theorem qA_push {R : (Nat → Int32) → Prop} {p : Nat → Int32} {Q : Qt} (h : qA R Q) (hp : R p) : qA R (push p Q) := by
  unfold push
  split
  · intro i hi
    have hi : i < Q.1 + 1 := hi
    show R (if i = Q.1 then p else Q.2 i)
    split
    · exact hp
    · exact h i (by omega)
  · exact h
theorem qA_imp {R R' : (Nat → Int32) → Prop} {Q : Qt} (h : qA R Q) (hi : ∀ p, R p → R' p) : qA R' Q := fun i q => hi _ (h i q)
theorem qP_pop {R : (Nat → Int32) → (Nat → Int32) → Prop} {Q : Qt} (h : qP R Q) : qP R (pop Q) := by
  intro i j hij hj
  have hj : j < Q.1 - 1 := hj
  show R (if i < Q.1 - 1 then Q.2 (i + 1) else Q.2 i) (if j < Q.1 - 1 then Q.2 (j + 1) else Q.2 j)
  rw [if_pos hj, if_pos (by omega)]
  exact h (i + 1) (j + 1) (by omega) (by omega)
theorem qP_push {R : (Nat → Int32) → (Nat → Int32) → Prop} {p : Nat → Int32} {Q : Qt} (h : qP R Q) (hp : qA (fun q => R q p) Q) : qP R (push p Q) := by
  unfold push
  split
  · intro i j hij hj
    have hj : j < Q.1 + 1 := hj
    show R (if i = Q.1 then p else Q.2 i) (if j = Q.1 then p else Q.2 j)
    rw [if_neg (by omega)]
    split
    · exact hp i (by omega)
    · exact h i j hij (by omega)
  · exact h
theorem qP_hd {R : (Nat → Int32) → (Nat → Int32) → Prop} {Q : Qt} (h : qP R Q) : qA (fun q => R (Q.2 0) q) (pop Q) := by
  intro i hi
  have hi : i < Q.1 - 1 := hi
  show R (Q.2 0) (if i < Q.1 - 1 then Q.2 (i + 1) else Q.2 i)
  rw [if_pos hi]
  exact h 0 (i + 1) (by omega) (by omega)
/-! one end asks, the other one answers: Q waits at the asking end, Q' at the other one -/
def a1 (s n : Nat) (a : Nat → Int32) (p : Nat → Int32) : Prop := p 0 = 0 → ∃ m : Nat, m ≤ n ∧ p 1 = nI m ∧ (m = n → upN s → ∀ o, o < 4 → p (3 + o) = a o)
def a2 (p q : Nat → Int32) : Prop := p 0 = 0 → q 0 = 0 → ∃ m m' : Nat, m < m' ∧ m' < 1000 ∧ p 1 = nI m ∧ q 1 = nI m'
def a3 (n : Nat) (p : Nat → Int32) : Prop := p 0 = 1 → ∃ m : Nat, m ≤ n ∧ p 1 = nI m
def ny (n : Nat) (p : Nat → Int32) : Prop := ¬ (p 0 = 1 ∧ p 1 = nI n)
def nr (p : Nat → Int32) : Prop := ¬ p 0 = 0
def agr (a g : Nat → Int32) (Q' : Qt) : Prop := (∀ o, o < 4 → g o = a o) ∧ qA nr Q'
def nlD (s n : Nat) (a g : Nat → Int32) (Q Q' : Qt) : Prop :=
  n < 1000 ∧ qA (a1 s n a) Q' ∧ qP a2 Q' ∧ qA (a3 n) Q ∧ (upN s → (s = 2 ∨ s = 4 ∨ ¬ qA (ny n) Q) → agr a g Q')
theorem agr_pop {a g : Nat → Int32} {Q' : Qt} (h : agr a g Q') : agr a g (pop Q') := ⟨h.1, qA_pop h.2⟩
theorem nlD_popQ {s n : Nat} {a g : Nat → Int32} {Q Q' : Qt} (h : nlD s n a g Q Q') : nlD s n a g (pop Q) Q' := by
  obtain ⟨h0, h1, h2, h3, h4⟩ := h
  refine ⟨h0, h1, h2, qA_pop h3, fun hu hy => h4 hu ?_⟩
  rcases hy with hy | hy | hy
  · exact Or.inl hy
  · exact Or.inr (Or.inl hy)
  · exact Or.inr (Or.inr (fun q => hy (qA_pop q)))
theorem nlD_popR {s n : Nat} {a g : Nat → Int32} {Q Q' : Qt} (h : nlD s n a g Q Q') : nlD s n a g Q (pop Q') := by
  obtain ⟨h0, h1, h2, h3, h4⟩ := h
  exact ⟨h0, qA_pop h1, qP_pop h2, h3, fun hu hy => agr_pop (h4 hu hy)⟩
/-- something that is not a yes comes to the asking end -/
theorem nlD_toQ {s n : Nat} {a g : Nat → Int32} {Q Q' : Qt} {p : Nat → Int32} (h : nlD s n a g Q Q') (hp : ¬ p 0 = 1) : nlD s n a g (push p Q) Q' := by
  obtain ⟨h0, h1, h2, h3, h4⟩ := h
  refine ⟨h0, h1, h2, qA_push h3 (fun q => absurd q hp), fun hu hy => h4 hu ?_⟩
  rcases hy with hy | hy | hy
  · exact Or.inl hy
  · exact Or.inr (Or.inl hy)
  · exact Or.inr (Or.inr (fun q => hy (qA_push q (fun q2 => hp q2.1))))
/-- something that is not a request comes to the answering end -/
theorem nlD_toR {s n : Nat} {a g : Nat → Int32} {Q Q' : Qt} {p : Nat → Int32} (h : nlD s n a g Q Q') (hp : ¬ p 0 = 0) : nlD s n a g Q (push p Q') := by
  obtain ⟨h0, h1, h2, h3, h4⟩ := h
  exact ⟨h0, qA_push h1 (fun q => absurd q hp), qP_push h2 (fun i hi _ q => absurd q hp), h3, fun hu hy => ⟨(h4 hu hy).1, qA_push (h4 hu hy).2 hp⟩⟩
theorem pk_v {k n m : Int32} {f : Nat → Int32} {o : Nat} : pk k n m f (3 + o) = f o := by
  unfold pk
  rw [if_neg (by omega), if_neg (by omega), if_neg (by omega)]
  congr 1; omega
theorem pk_0 {k n m : Int32} {f : Nat → Int32} : pk k n m f 0 = k := rfl
theorem pk_1 {k n m : Int32} {f : Nat → Int32} : pk k n m f 1 = n := rfl
/-- the asking end sends a request -/
theorem nlD_ask {s n s1 : Nat} {a a' g : Nat → Int32} {Q Q' : Qt} {mk : Int32} (h : nlD s n a g Q Q') (hn : n + 1 < 1000) (h2s : ¬ s1 = 2) (h4s : ¬ s1 = 4) : nlD s1 (n + 1) a' g Q (push (pk 0 (nI (n + 1)) mk a') Q') := by
  obtain ⟨h0, h1, h2, h3, h4⟩ := h
  refine ⟨hn, qA_push (qA_imp h1 (fun p hp q => ?_)) (fun _ => ⟨n + 1, Nat.le_refl _, rfl, fun _ _ o _ => pk_v⟩), qP_push h2 (fun i hi q _ => ?_), qA_imp h3 (fun p hp q => ?_), fun hu hy => ?_⟩
  · obtain ⟨m, hm, e, -⟩ := hp q
    exact ⟨m, by omega, e, fun e2 => absurd e2 (by omega)⟩
  · obtain ⟨m, hm, e, -⟩ := h1 i hi q
    exact ⟨m, n + 1, by omega, hn, e, rfl⟩
  · obtain ⟨m, hm, e⟩ := hp q
    exact ⟨m, by omega, e⟩
  · rcases hy with hy | hy | hy
    · exact absurd hy h2s
    · exact absurd hy h4s
    · refine absurd (qA_imp h3 (fun p hp q => ?_)) hy
      obtain ⟨m, hm, e⟩ := hp q.1
      have := nIe (e.symm.trans q.2) (by omega) (by omega)
      omega
/-- the asking end is not up any more -/
theorem nlD_down {s n s1 : Nat} {a a' g : Nat → Int32} {Q Q' : Qt} (h : nlD s n a g Q Q') (hs : ¬ upN s1) : nlD s1 n a' g Q Q' := by
  obtain ⟨h0, h1, h2, h3, h4⟩ := h
  refine ⟨h0, qA_imp h1 (fun p hp q => ?_), h2, h3, fun hu _ => absurd hu hs⟩
  obtain ⟨m, hm, e, -⟩ := hp q
  exact ⟨m, hm, e, fun _ hu => absurd hu hs⟩
/-- the asking end stays up -/
theorem nlD_move {s n s1 : Nat} {a g : Nat → Int32} {Q Q' : Qt} (h : nlD s n a g Q Q') (hs : upN s) (hc : s1 = 2 ∨ s1 = 4 → s = 2 ∨ s = 4 ∨ ¬ qA (ny n) Q) : nlD s1 n a g Q Q' := by
  obtain ⟨h0, h1, h2, h3, h4⟩ := h
  refine ⟨h0, qA_imp h1 (fun p hp q => ?_), h2, h3, fun hu hy => h4 hs ?_⟩
  · obtain ⟨m, hm, e, h⟩ := hp q
    exact ⟨m, hm, e, fun e2 _ => h e2 hs⟩
  · rcases hy with hy | hy | hy
    · exact hc (Or.inl hy)
    · exact hc (Or.inr hy)
    · exact Or.inr (Or.inr hy)
/-- a request of the asking end is being answered: it has left Q' -/
def pend (s n : Nat) (a : Nat → Int32) (p : Nat → Int32) (Q Qp : Qt) : Prop :=
  a1 s n a p ∧ qA (a2 p) Qp ∧ (upN s → (s = 2 ∨ s = 4 ∨ ¬ qA (ny n) Q) → False)
theorem pend_of {s n : Nat} {a g : Nat → Int32} {Q Q' : Qt} (h : nlD s n a g Q Q') (h0 : 0 < Q'.1) (hr : Q'.2 0 0 = 0) : pend s n a (Q'.2 0) Q (pop Q') := by
  obtain ⟨-, h1, h2, h3, h4⟩ := h
  exact ⟨h1 0 h0, qP_hd h2, fun hu hy => (h4 hu hy).2 0 h0 hr⟩
theorem pend_toQ {s n : Nat} {a p q : Nat → Int32} {Q Qp : Qt} (h : pend s n a p Q Qp) (hq : ¬ q 0 = 1) : pend s n a p (push q Q) Qp := by
  refine ⟨h.1, h.2.1, fun hu hy => h.2.2 hu ?_⟩
  rcases hy with hy | hy | hy
  · exact Or.inl hy
  · exact Or.inr (Or.inl hy)
  · exact Or.inr (Or.inr (fun z => hy (qA_push z (fun q2 => hq q2.1))))
theorem nlD_yes {s n : Nat} {a g p w : Nat → Int32} {mk : Int32} {Q Qp : Qt} (h : nlD s n a g Q Qp) (hp : pend s n a p Q Qp) (hr : p 0 = 0) (hw : ∀ o, o < 4 → w o = p (3 + o)) : nlD s n a w (push (pk 1 (p 1) mk w) Q) Qp := by
  obtain ⟨h0, h1, h2, h3, h4⟩ := h
  obtain ⟨p1, p2, p3⟩ := hp
  obtain ⟨m, hm, em, hv⟩ := p1 hr
  refine ⟨h0, h1, h2, qA_push h3 (fun _ => ⟨m, hm, em⟩), fun hu hy => ?_⟩
  have hno : ¬ (s = 2 ∨ s = 4 ∨ ¬ qA (ny n) Q) := p3 hu
  by_cases hmn : m = n
  · refine ⟨fun o ho => (hw o ho).trans (hv hmn hu o ho), fun i hi q => ?_⟩
    obtain ⟨m1, m2, hlt, hb, e1, e2⟩ := p2 i hi hr q
    obtain ⟨m3, hm3, e3, -⟩ := h1 i hi q
    have q1 := nIe (em.symm.trans e1) (by omega) (by omega)
    have q2 := nIe (e2.symm.trans e3) (by omega) (by omega)
    omega
  · refine absurd ?_ hno
    rcases hy with hy | hy | hy
    · exact Or.inl hy
    · exact Or.inr (Or.inl hy)
    · refine Or.inr (Or.inr (fun z => hy (qA_push z ?_)))
      rintro ⟨-, q2⟩
      exact hmn (nIe (em.symm.trans q2) (by omega) (by omega))
/-! an end: numbers, rows -/
def eV (s n t : Nat) (v : Nat → Int32) : Prop := v 0 = nI s ∧ v 2 = nI n ∧ v 3 = nI t ∧ s ≤ 7 ∧ t ≤ 10 ∧ (s = 4 → t = 10)
def okG (d : Nat → Nat → Int32) (o : Nat) : Prop := d 7 o = -1 ∨ (d 5 o = 0 ∧ inr (d 7 o) (d 3 o) (d 4 o))
def okB (d : Nat → Nat → Int32) (o : Nat) : Prop := (¬ d 1 o < 0 ∧ ¬ 100 < d 2 o) ∧ (d 5 o = 0 ∨ d 5 o = 1) ∧ ∃ a b : Nat, a ≤ b ∧ b ≤ 100 ∧ d 3 o = nI a ∧ d 4 o = nI b
def eD (s : Nat) (d : Nat → Nat → Int32) : Prop := (∀ o, o < 4 → okv (d 0 o) ∧ okv (d 6 o) ∧ okv (d 7 o) ∧ okB d o) ∧ (s = 3 ∨ s = 4 → ∀ o, o < 4 → okG d o)
def pOK (p : Nat → Int32) : Prop := (∃ k : Nat, k ≤ 5 ∧ p 0 = nI k) ∧ (p 0 = 0 → ∀ o, o < 4 → okv (p (3 + o)))
def INV (g q : Nat) (s n t : Nat) (xv : Nat → Int32) (xd : Nat → Nat → Int32) (QX : Qt) (s' n' t' : Nat) (yv : Nat → Int32) (yd : Nat → Nat → Int32) (QY : Qt) : Prop :=
  (eV s n t xv ∧ eV s' n' t' yv) ∧ (eD s xd ∧ eD s' yd) ∧ (qA pOK QX ∧ qA pOK QY) ∧ (QX.1 ≤ 12 ∧ QY.1 ≤ 12) ∧ q ≤ 1 ∧ (g = 0 → q = 0 ∧ nlD s n (xd 6) (yd 7) QX QY ∧ nlD s' n' (yd 6) (xd 7) QY QX)
section INVS
variable {g q s n t s' n' t' : Nat} {xv yv : Nat → Int32} {xd yd : Nat → Nat → Int32} {QX QY : Qt}
theorem INV.sw (h : INV g q s n t xv xd QX s' n' t' yv yd QY) : INV g q s' n' t' yv yd QY s n t xv xd QX :=
  ⟨⟨h.1.2, h.1.1⟩, ⟨h.2.1.2, h.2.1.1⟩, ⟨h.2.2.1.2, h.2.2.1.1⟩, ⟨h.2.2.2.1.2, h.2.2.2.1.1⟩, h.2.2.2.2.1, fun e => ⟨(h.2.2.2.2.2 e).1, (h.2.2.2.2.2 e).2.2, (h.2.2.2.2.2 e).2.1⟩⟩
theorem pop_le {Q : Qt} (h : Q.1 ≤ 12) : (pop Q).1 ≤ 12 := by
  show Q.1 - 1 ≤ 12
  omega
theorem push_le {p : Nat → Int32} {Q : Qt} (h : Q.1 ≤ 12) : (push p Q).1 ≤ 12 := by
  by_cases h2 : Q.1 < 12
  · rw [push_y h2]; show Q.1 + 1 ≤ 12; omega
  · rw [push_n h2]; exact h
/-- how many come: one, or none where 12 wait -/
theorem push_ct {p : Nat → Int32} {Q : Qt} (h : Q.1 ≤ 12) : ∃ e : Nat, (push p Q).1 = Q.1 + e ∧ ((e = 1 ∧ Q.1 < 12) ∨ (e = 0 ∧ Q.1 = 12)) := by
  by_cases h2 : Q.1 < 12
  · exact ⟨1, by rw [push_y h2], Or.inl ⟨rfl, h2⟩⟩
  · exact ⟨0, by rw [push_n h2]; rfl, Or.inr ⟨rfl, by omega⟩⟩
theorem INV_pop (h : INV g q s n t xv xd QX s' n' t' yv yd QY) : INV g q s n t xv xd (pop QX) s' n' t' yv yd QY := by
  obtain ⟨h1, h2, ⟨h3, h3'⟩, ⟨h4, h4'⟩, h5, h6⟩ := h
  exact ⟨h1, h2, ⟨qA_pop h3, h3'⟩, ⟨pop_le h4, h4'⟩, h5, fun e => ⟨(h6 e).1, nlD_popQ (h6 e).2.1, nlD_popR (h6 e).2.2⟩⟩
theorem lo0 {q : Nat} (h : q ≤ 1) : (nI q = 0 ↔ q = 0) := by
  rw [show (0 : Int32) = nI 0 from rfl]
  exact nI_eq (by omega) (by decide)
/-- what X sends, q: looped; sn came -/
def SN (q sn : Nat) (QX QY QX1 QY1 : Qt) : Prop := (q = 0 → QX1 = QX ∧ QY1.1 = QY.1 + sn) ∧ (q = 1 → QY1 = QY ∧ QX1.1 = QX.1 + sn)
theorem SN_0 : SN q 0 QX QY QX QY := ⟨fun _ => ⟨rfl, rfl⟩, fun _ => ⟨rfl, rfl⟩⟩
theorem SN_add {QX1 QY1 QX2 QY2 : Qt} {a b : Nat} (h1 : SN q a QX QY QX1 QY1) (h2 : SN q b QX1 QY1 QX2 QY2) : SN q (a + b) QX QY QX2 QY2 := by
  refine ⟨fun e => ⟨(h2.1 e).1.trans (h1.1 e).1, ?_⟩, fun e => ⟨(h2.2 e).1.trans (h1.2 e).1, ?_⟩⟩
  · rw [(h2.1 e).2, (h1.1 e).2]; omega
  · rw [(h2.2 e).2, (h1.2 e).2]; omega
theorem sq_SN {p : Nat → Int32} (hq : q ≤ 1) (hx : QX.1 ≤ 12) (hy : QY.1 ≤ 12) : ∃ e : Nat, SN q e QX QY (sq (nI q) p QX QY).1 (sq (nI q) p QX QY).2 ∧ e ≤ 1 ∧ (e = 0 → (q = 0 → QY.1 = 12) ∧ (q = 1 → QX.1 = 12)) := by
  rcases (show q = 0 ∨ q = 1 by omega) with rfl | rfl
  · obtain ⟨e, he, hc⟩ := push_ct (p := p) hy
    exact ⟨e, ⟨fun _ => ⟨rfl, he⟩, fun h => absurd h (by decide)⟩, by omega, fun h => ⟨fun _ => by omega, fun h => absurd h (by decide)⟩⟩
  · obtain ⟨e, he, hc⟩ := push_ct (p := p) hx
    exact ⟨e, ⟨fun h => absurd h (by decide), fun _ => ⟨rfl, he⟩⟩, by omega, fun h => ⟨fun h => absurd h (by decide), fun _ => by omega⟩⟩
theorem sq_ok {R : (Nat → Int32) → Prop} {p : Nat → Int32} (hx : qA R QX) (hy : qA R QY) (hp : R p) : qA R (sq (nI q) p QX QY).1 ∧ qA R (sq (nI q) p QX QY).2 := by
  unfold sq
  split
  · exact ⟨hx, qA_push hy hp⟩
  · exact ⟨qA_push hx hp, hy⟩
theorem sq_le {p : Nat → Int32} (hx : QX.1 ≤ 12) (hy : QY.1 ≤ 12) : (sq (nI q) p QX QY).1.1 ≤ 12 ∧ (sq (nI q) p QX QY).2.1 ≤ 12 := by
  unfold sq
  split
  · exact ⟨hx, push_le hy⟩
  · exact ⟨push_le hx, hy⟩
theorem sq_0 {p : Nat → Int32} : sq (nI 0) p QX QY = (QX, push p QY) := rfl
/-- neither a request nor a yes is sent -/
theorem INV_send {p : Nat → Int32} (h : INV g q s n t xv xd QX s' n' t' yv yd QY) (hp : pOK p) (h0 : ¬ p 0 = 0) (h1 : ¬ p 0 = 1) : INV g q s n t xv xd (sq (nI q) p QX QY).1 s' n' t' yv yd (sq (nI q) p QX QY).2 := by
  obtain ⟨i1, i2, ⟨i3, i3'⟩, ⟨i4, i4'⟩, i5, i6⟩ := h
  refine ⟨i1, i2, sq_ok i3 i3' hp, sq_le i4 i4', i5, fun e => ?_⟩
  obtain ⟨e0, j1, j2⟩ := i6 e
  subst e0
  rw [sq_0]
  exact ⟨rfl, nlD_toR j1 h0, nlD_toQ j2 h1⟩
theorem up_6 {d : Nat → Nat → Int32} : va_up d 6 (d 6) = d := by
  funext k
  by_cases h : k = 6
  · subst h; exact va_up_self _ _ _
  · exact va_up_ne _ _ h
theorem eD_6 {d : Nat → Nat → Int32} {a : Nat → Int32} {s1 : Nat} (h : eD s d) (ha : ∀ o, o < 4 → okv (a o)) (hs : s1 = 3 ∨ s1 = 4 → s = 3 ∨ s = 4) : eD s1 (va_up d 6 a) :=
  ⟨fun o ho => ⟨(h.1 o ho).1, ha o ho, (h.1 o ho).2.2.1, (h.1 o ho).2.2.2⟩, fun e => h.2 (hs e)⟩
theorem eD_s {d : Nat → Nat → Int32} {s1 : Nat} (h : eD s d) (hs : s1 = 3 ∨ s1 = 4 → s = 3 ∨ s = 4) : eD s1 d := ⟨h.1, fun e => h.2 (hs e)⟩
/-- X is not up any more -/
theorem INV_down {s1 t1 : Nat} {v1 a : Nat → Int32} (h : INV g q s n t xv xd QX s' n' t' yv yd QY) (hv : eV s1 n t1 v1) (hs : ¬ upN s1) (ha : ∀ o, o < 4 → okv (a o)) : INV g q s1 n t1 v1 (va_up xd 6 a) QX s' n' t' yv yd QY := by
  obtain ⟨i1, i2, i3, i4, i5, i6⟩ := h
  refine ⟨⟨hv, i1.2⟩, ⟨eD_6 i2.1 ha (fun e => absurd ⟨by omega, by omega⟩ hs), i2.2⟩, i3, i4, i5, fun e => ?_⟩
  obtain ⟨e0, j1, j2⟩ := i6 e
  exact ⟨e0, nlD_down j1 hs, j2⟩
theorem INV_dn {s1 t1 : Nat} {v1 : Nat → Int32} (h : INV g q s n t xv xd QX s' n' t' yv yd QY) (hv : eV s1 n t1 v1) (hs : ¬ upN s1) : INV g q s1 n t1 v1 xd QX s' n' t' yv yd QY := by
  have h2 := INV_down h hv hs (fun o ho => (h.2.1.1.1 o ho).2.1)
  rw [up_6] at h2
  exact h2
/-- X sends a request, its asked values a -/
theorem INV_ask {s1 t1 : Nat} {v1 a : Nat → Int32} {mk : Int32} (h : INV g q s n t xv xd QX s' n' t' yv yd QY) (hn : n + 1 < 1000) (hv : eV s1 (n + 1) t1 v1) (h2 : ¬ s1 = 2) (h4 : ¬ s1 = 4) (h3 : s1 = 3 → s = 3 ∨ s = 4) (ha : ∀ o, o < 4 → okv (a o)) :
    INV g q s1 (n + 1) t1 v1 (va_up xd 6 a) (sq (nI q) (pk 0 (nI (n + 1)) mk a) QX QY).1 s' n' t' yv yd (sq (nI q) (pk 0 (nI (n + 1)) mk a) QX QY).2 := by
  obtain ⟨i1, i2, ⟨i3, i3'⟩, ⟨i4, i4'⟩, i5, i6⟩ := h
  have hp : pOK (pk 0 (nI (n + 1)) mk a) := ⟨⟨0, by decide, rfl⟩, fun _ o ho => by rw [pk_v]; exact ha o ho⟩
  refine ⟨⟨hv, i1.2⟩, ⟨eD_6 i2.1 ha (fun e => ?_), i2.2⟩, sq_ok i3 i3' hp, sq_le i4 i4', i5, fun e => ?_⟩
  · rcases e with e | e
    · exact h3 e
    · exact absurd e h4
  · obtain ⟨e0, j1, j2⟩ := i6 e
    subst e0
    rw [sq_0]
    exact ⟨rfl, nlD_ask j1 hn h2 h4, nlD_toQ j2 (by rw [pk_0]; decide)⟩
theorem INV_ask' {s1 t1 : Nat} {v1 : Nat → Int32} {mk : Int32} (h : INV g q s n t xv xd QX s' n' t' yv yd QY) (hn : n + 1 < 1000) (hv : eV s1 (n + 1) t1 v1) (h2 : ¬ s1 = 2) (h4 : ¬ s1 = 4) (h3 : s1 = 3 → s = 3 ∨ s = 4) :
    INV g q s1 (n + 1) t1 v1 xd (sq (nI q) (pk 0 (nI (n + 1)) mk (xd 6)) QX QY).1 s' n' t' yv yd (sq (nI q) (pk 0 (nI (n + 1)) mk (xd 6)) QX QY).2 := by
  have h9 := INV_ask (mk := mk) h hn hv h2 h4 h3 (fun o ho => (h.2.1.1.1 o ho).2.1)
  rw [up_6] at h9
  exact h9
/-- X stays up -/
theorem INV_move {s1 t1 : Nat} {v1 : Nat → Int32} (h : INV g q s n t xv xd QX s' n' t' yv yd QY) (hu : upN s) (hv : eV s1 n t1 v1) (hc : s1 = 2 ∨ s1 = 4 → s = 2 ∨ s = 4 ∨ ¬ qA (ny n) QX) (hd : s1 = 3 ∨ s1 = 4 → ∀ o, o < 4 → okG xd o) : INV g q s1 n t1 v1 xd QX s' n' t' yv yd QY := by
  obtain ⟨i1, i2, i3, i4, i5, i6⟩ := h
  refine ⟨⟨hv, i1.2⟩, ⟨⟨i2.1.1, hd⟩, i2.2⟩, i3, i4, i5, fun e => ?_⟩
  obtain ⟨e0, j1, j2⟩ := i6 e
  exact ⟨e0, nlD_move j1 hu hc, j2⟩
/-- X says yes to the request p of Y -/
theorem INV_yes {p w : Nat → Int32} {mk : Int32} (h : INV g q s n t xv xd QX s' n' t' yv yd QY) (hp : g = 0 → pend s' n' (yd 6) p QY QX) (hr : p 0 = 0) (hw : ∀ o, o < 4 → w o = p (3 + o)) (hwv : ∀ o, o < 4 → okv (w o)) (hG : ∀ o, o < 4 → okG (va_up xd 7 w) o) :
    INV g q s n t xv (va_up xd 7 w) (sq (nI q) (pk 1 (p 1) mk w) QX QY).1 s' n' t' yv yd (sq (nI q) (pk 1 (p 1) mk w) QX QY).2 := by
  obtain ⟨i1, i2, ⟨i3, i3'⟩, ⟨i4, i4'⟩, i5, i6⟩ := h
  have hpk : pOK (pk 1 (p 1) mk w) := ⟨⟨1, by decide, rfl⟩, fun e => absurd e (by rw [pk_0]; decide)⟩
  refine ⟨i1, ⟨⟨fun o ho => ⟨(i2.1.1 o ho).1, (i2.1.1 o ho).2.1, hwv o ho, (i2.1.1 o ho).2.2.2⟩, fun _ => hG⟩, i2.2⟩, sq_ok i3 i3' hpk, sq_le i4 i4', i5, fun e => ?_⟩
  obtain ⟨e0, j1, j2⟩ := i6 e
  subst e0
  rw [sq_0]
  exact ⟨rfl, nlD_toR j1 (by rw [pk_0]; decide), nlD_yes j2 (hp e) hr hw⟩
end INVS
