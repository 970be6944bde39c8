/-! p22: between two steps of the law -/
section M3
variable {g q s n t s' n' t' : Nat} {xv yv : Nat → Int32} {xd yd : Nat → Nat → Int32} {QX QY : Qt} {se : Int32}
def PW (B g q : Nat) (xv : Nat → Int32) (xd : Nat → Nat → Int32) (QX : Qt) (yv : Nat → Int32) (yd : Nat → Nat → Int32) (QY : Qt) : Prop :=
  ∃ s n t s' n' t' : Nat, INV g q s n t xv xd QX s' n' t' yv yd QY ∧ n ≤ B ∧ n' ≤ B
theorem PW.sw {B : Nat} (h : PW B g q xv xd QX yv yd QY) : PW B g q yv yd QY xv xd QX := by
  obtain ⟨s, n, t, s', n', t', h1, h2, h3⟩ := h
  exact ⟨s', n', t', s, n, t, h1.sw, h3, h2⟩
theorem PW.up {B B' : Nat} (h : PW B g q xv xd QX yv yd QY) (hb : B ≤ B') : PW B' g q xv xd QX yv yd QY := by
  obtain ⟨s, n, t, s', n', t', h1, h2, h3⟩ := h
  exact ⟨s, n, t, s', n', t', h1, by omega, by omega⟩
/-- the law's own row of what the end e wants -/
def WRe (e : Nat) (d : Nat → Nat → Int32) (ww : Nat → Int32) : Prop :=
  ∀ o, o < 4 → ww (6 * (4 * e + o)) = d 0 o + 1 ∧ ww (6 * (4 * e + o) + 3) = d 3 o ∧ ww (6 * (4 * e + o) + 4) = d 4 o ∧ ww (6 * (4 * e + o) + 5) = d 5 o
theorem wr_at {f : Nat → Int32} {a b : Nat} {v : Int32} (h : f a = v) (e : a = b) : f b = v := by rw [← e]; exact h
theorem WRe_d {e : Nat} {d d1 : Nat → Nat → Int32} {ww : Nat → Int32} (h : WRe e d ww) (hd : ∀ j, j ≤ 5 → d1 j = d j) : WRe e d1 ww := by
  intro o ho
  rw [hd 0 (by decide), hd 3 (by decide), hd 4 (by decide), hd 5 (by decide)]
  exact h o ho
theorem INV_d {d1 : Nat → Nat → Int32} (h : INV g q s n t xv xd QX s' n' t' yv yd QY) (hd : eD s d1) (h6 : d1 6 = xd 6) (h7 : d1 7 = xd 7) : INV g q s n t xv d1 QX s' n' t' yv yd QY := by
  obtain ⟨i1, i2, i3, i4, i5, i6⟩ := h
  refine ⟨i1, ⟨hd, i2.2⟩, i3, i4, i5, fun e => ?_⟩
  rw [h6, h7]
  exact i6 e
theorem push_at {p : Nat → Int32} {Q : Qt} (h : Q.1 < 12) : (push p Q).2 Q.1 = p := by
  rw [push_y h]
  show (if Q.1 = Q.1 then p else Q.2 Q.1) = p
  rw [if_pos rfl]
/-- one packet of kind k is sent -/
def SE (q e k : Nat) (QX QY QX1 QY1 : Qt) : Prop :=
  (q = 0 → QX1 = QX ∧ QY1.1 = QY.1 + e ∧ ((e = 1 ∧ QY.1 < 12 ∧ QY1.2 QY.1 0 = nI k) ∨ (e = 0 ∧ QY.1 = 12))) ∧
  (q = 1 → QY1 = QY ∧ QX1.1 = QX.1 + e ∧ ((e = 1 ∧ QX.1 < 12 ∧ QX1.2 QX.1 0 = nI k) ∨ (e = 0 ∧ QX.1 = 12)))
theorem sq_SE {p : Nat → Int32} {k : Nat} (hq : q ≤ 1) (hx : QX.1 ≤ 12) (hy : QY.1 ≤ 12) (hk : p 0 = nI k) : ∃ e : Nat, SE q e k QX QY (sq (nI q) p QX QY).1 (sq (nI q) p QX QY).2 := by
  rcases (show q = 0 ∨ q = 1 by omega) with rfl | rfl
  · obtain ⟨e, he, hc⟩ := push_ct (p := p) hy
    refine ⟨e, fun _ => ⟨rfl, he, ?_⟩, fun h => absurd h (by decide)⟩
    rcases hc with ⟨h1, h2⟩ | h2
    · exact Or.inl ⟨h1, h2, by show (push p QY).2 QY.1 0 = nI k; rw [push_at h2]; exact hk⟩
    · exact Or.inr h2
  · obtain ⟨e, he, hc⟩ := push_ct (p := p) hx
    refine ⟨e, fun h => absurd h (by decide), fun _ => ⟨rfl, he, ?_⟩⟩
    rcases hc with ⟨h1, h2⟩ | h2
    · exact Or.inl ⟨h1, h2, by show (push p QX).2 QX.1 0 = nI k; rw [push_at h2]; exact hk⟩
    · exact Or.inr h2
theorem open_t {mk : Int32} (h : INV g q s n t xv xd QX s' n' t' yv yd QY) (hn : n + 1 < 1000) :
    ∃ e : Nat, INV g q 1 (n + 1) 9 (rq (nI q) (upd (upd (upd (upd xv 0 1) 3 10) 1 mk) 5 0) (xd 0) QX QY se).1 (va_up xd 6 (xd 0)) (rq (nI q) (upd (upd (upd (upd xv 0 1) 3 10) 1 mk) 5 0) (xd 0) QX QY se).2.1.1 s' n' t' yv yd (rq (nI q) (upd (upd (upd (upd xv 0 1) 3 10) 1 mk) 5 0) (xd 0) QX QY se).2.1.2 ∧
      SE q e 0 QX QY (rq (nI q) (upd (upd (upd (upd xv 0 1) 3 10) 1 mk) 5 0) (xd 0) QX QY se).2.1.1 (rq (nI q) (upd (upd (upd (upd xv 0 1) 3 10) 1 mk) 5 0) (xd 0) QX QY se).2.1.2 := by
  have hv := h.1.1
  have hv1 : eV 1 n 10 (upd (upd (upd (upd xv 0 1) 3 10) 1 mk) 5 0) := ⟨rfl, hv.2.1, rfl, by decide, by decide, fun e => absurd e (by decide)⟩
  rw [rq_1 hv1 (by decide)]
  obtain ⟨e, he⟩ := sq_SE (q := q) (k := 0) (p := pk 0 (nI (n + 1)) ((upd (upd (upd (upd xv 0 1) 3 10) 1 mk) 5 0) 1) (xd 0)) h.2.2.2.2.1 h.2.2.2.1.1 h.2.2.2.1.2 rfl
  have i9 := INV_ask (s1 := 1) (t1 := 9) (a := xd 0) (v1 := upd (upd (upd (upd (upd (upd (upd xv 0 1) 3 10) 1 mk) 5 0) 3 (nI (10 - 1))) 2 (nI (n + 1))) 4 3) (mk := (upd (upd (upd (upd xv 0 1) 3 10) 1 mk) 5 0) 1) h hn (eV_rq hv1 (by decide)) (by decide) (by decide) (fun e => absurd e (by decide)) (fun o ho => (h.2.1.1.1 o ho).1)
  exact ⟨e, i9, he⟩
theorem close_t (h : INV g q s n t xv xd QX s' n' t' yv yd QY) :
    ∃ e : Nat, INV g q 5 n t (upd (upd (upd xv 0 5) 6 1) 4 2) xd (sq (nI q) (pk 4 0 0 nB) QX QY).1 s' n' t' yv yd (sq (nI q) (pk 4 0 0 nB) QX QY).2 ∧ SE q e 4 QX QY (sq (nI q) (pk 4 0 0 nB) QX QY).1 (sq (nI q) (pk 4 0 0 nB) QX QY).2 := by
  have hv := h.1.1
  obtain ⟨hp, hp0⟩ := pk_nO (k := 4) (a := 0) (b := 0) (f := nB) (by decide) (by decide)
  obtain ⟨e, he⟩ := sq_SE (q := q) (k := 4) (p := pk 4 0 0 nB) h.2.2.2.2.1 h.2.2.2.1.1 h.2.2.2.1.2 rfl
  have h2 := INV_send h hp hp0 (by rw [pk_0]; decide)
  exact ⟨e, INV_dn h2 ⟨rfl, hv.2.1, hv.2.2.1, by decide, hv.2.2.2.2.1, fun e => absurd e (by decide)⟩ (by omega), he⟩
/-- tick(), X the end 0 -/
theorem tick_t (h : INV g q s n t xv xd QX s' n' t' yv yd QY) (hn : n + 1 < 1000) (hn' : n' + 1 < 1000) : ∀ W1 W2, W1 = wt (nI q) xv (xd 6) QX QY se → W2 = wt (nI q) yv (yd 6) W1.2.1.2 W1.2.1.1 W1.2.2 →
    ∃ s1 n1 t1 s2 n2 t2 c : Nat, INV g q s1 n1 t1 W1.1 xd W2.2.1.2 s2 n2 t2 W2.1 yd W2.2.1.1 ∧ n1 ≤ n + 1 ∧ n2 ≤ n' + 1 ∧ TF s s1 t1 ∧ TF s' s2 t2 ∧ W2.2.2 - se = nI c ∧ c ≤ 2 ∧ QX.1 + QY.1 ≤ W2.2.1.2.1 + W2.2.1.1.1 ∧ W2.2.1.2.1 + W2.2.1.1.1 ≤ QX.1 + QY.1 + c ∧
      (QX.1 ≤ 10 → QY.1 ≤ 10 → W2.2.1.2.1 + W2.2.1.1.1 = QX.1 + QY.1 + c) := by
  intro W1 W2 e1 e2
  obtain ⟨s1, n1, t1, f1, c1, i1, b1, m1, d1, l1, p1, u1, T1⟩ := wt_t (se := se) h hn
  rw [← e1] at i1 m1 d1
  obtain ⟨s2, n2, t2, f2, c2, i2, b2, m2, d2, l2, p2, u2, T2⟩ := wt_t (se := W1.2.2) i1.sw hn'
  rw [← e2] at i2 m2 d2
  have hq := h.2.2.2.2.1
  refine ⟨s1, n1, t1, s2, n2, t2, c1 + c2, i2.sw, b1, b2, T1, T2, ?_, by omega, ?_⟩
  · rw [d2, d1, Int32.add_assoc, nI_add, Int32.add_comm, Int32.add_sub_cancel]
  · rcases (show q = 0 ∨ q = 1 by omega) with q0 | q0
    · obtain ⟨a1, a2⟩ := m1.1 q0
      obtain ⟨a3, a4⟩ := m2.1 q0
      rw [a1] at a4
      rw [a3]
      have u1' : f1 < c1 → QY.1 = 12 := fun z => (u1 z).1 q0
      have u2' : f2 < c2 → QX.1 = 12 := fun z => by have := (u2 z).1 q0; rw [a1] at this; exact this
      omega
    · obtain ⟨a1, a2⟩ := m1.2 q0
      obtain ⟨a3, a4⟩ := m2.2 q0
      rw [a3]
      rw [a1] at a4
      have u1' : f1 < c1 → QX.1 = 12 := fun z => (u1 z).2 q0
      have u2' : f2 < c2 → QY.1 = 12 := fun z => by have := (u2 z).2 q0; rw [a1] at this; exact this
      omega
/-! what the ends want is told: rows 0 to 5 -/
theorem okv_nI {v : Nat} (h : v ≤ 100) : okv (nI v) := Or.inr ⟨v, h, rfl⟩
theorem upd_at {f : Nat → Int32} {k j : Nat} {x : Int32} : upd f k x j = if j = k then x else f j := rfl
theorem wish_t {k le mo : Nat} {wi : Int32} (h : INV g q s n t xv xd QX s' n' t' yv yd QY) (hs : s = 0 ∨ 5 < s) (hwi : okv wi) (hl : le ≤ mo) (hm : mo ≤ 100) :
    INV g q s n t xv (va_up (va_up (va_up xd 0 (upd (xd 0) k wi)) 1 (upd (xd 1) k (nI le))) 2 (upd (xd 2) k (nI mo))) QX s' n' t' yv yd QY := by
  refine INV_d h ⟨fun o ho => ?_, fun e => absurd e (by omega)⟩ rfl rfl
  obtain ⟨h0, h6, h7, ⟨h1, h2⟩, h5, h3⟩ := h.2.1.1.1 o ho
  refine ⟨?_, h6, h7, ⟨?_, ?_⟩, h5, h3⟩
  · show okv (upd (xd 0) k wi o)
    rw [upd_at]
    split
    · exact hwi
    · exact h0
  · show ¬ upd (xd 1) k (nI le) o < 0
    rw [upd_at]
    split
    · exact nI_nlt (a := le) (b := 0) (Nat.zero_le _) (by omega)
    · exact h1
  · show ¬ 100 < upd (xd 2) k (nI mo) o
    rw [upd_at]
    split
    · exact nI_nlt (a := 100) (b := mo) hm (by decide)
    · exact h2
theorem allow_t {k le mo : Nat} (h : INV g q s n t xv xd QX s' n' t' yv yd QY) (hs : s = 0 ∨ 5 < s) (hl : le ≤ mo) (hm : mo ≤ 100) :
    INV g q s n t xv (va_up (va_up xd 3 (upd (xd 3) k (nI le))) 4 (upd (xd 4) k (nI mo))) QX s' n' t' yv yd QY := by
  refine INV_d h ⟨fun o ho => ?_, fun e => absurd e (by omega)⟩ rfl rfl
  obtain ⟨h0, h6, h7, h1, h5, a, b, hab, hb, e3, e4⟩ := h.2.1.1.1 o ho
  refine ⟨h0, h6, h7, h1, h5, ?_⟩
  show ∃ a b : Nat, a ≤ b ∧ b ≤ 100 ∧ upd (xd 3) k (nI le) o = nI a ∧ upd (xd 4) k (nI mo) o = nI b
  rw [upd_at, upd_at]
  by_cases ho2 : o = k
  · rw [if_pos ho2, if_pos ho2]
    exact ⟨le, mo, hl, hm, rfl, rfl⟩
  · rw [if_neg ho2, if_neg ho2]
    exact ⟨a, b, hab, hb, e3, e4⟩
theorem refuse_t {k z : Nat} (h : INV g q s n t xv xd QX s' n' t' yv yd QY) (hs : s = 0 ∨ 5 < s) (hz : z ≤ 1) : INV g q s n t xv (va_up xd 5 (upd (xd 5) k (nI z))) QX s' n' t' yv yd QY := by
  refine INV_d h ⟨fun o ho => ?_, fun e => absurd e (by omega)⟩ rfl rfl
  obtain ⟨h0, h6, h7, h1, h5, h3⟩ := h.2.1.1.1 o ho
  refine ⟨h0, h6, h7, h1, ?_, h3⟩
  show upd (xd 5) k (nI z) o = 0 ∨ upd (xd 5) k (nI z) o = 1
  rw [upd_at]
  split
  · rcases (show z = 0 ∨ z = 1 by omega) with rfl | rfl
    · exact Or.inl rfl
    · exact Or.inr rfl
  · exact h5
theorem s_shut (h : INV g q s n t xv xd QX s' n' t' yv yd QY) : sSh (xv 0) ↔ s = 0 ∨ 5 < s := by
  rw [h.1.1.1]
  have := h.1.1.2.2.2.1
  have key : ∀ j : Fin 8, sSh (nI j.val) ↔ j.val = 0 ∨ 5 < j.val := by decide +kernel
  exact key ⟨s, by omega⟩
/-- the wire is looped, or not any more: what was ever looped counts -/
theorem loop_t {z g1 : Nat} (h : INV g q s n t xv xd QX s' n' t' yv yd QY) (hz : z ≤ 1) (hg : g1 = 0 → g = 0 ∧ z = 0) : INV g1 z s n t xv xd QX s' n' t' yv yd QY := by
  obtain ⟨i1, i2, i3, i4, i5, i6⟩ := h
  exact ⟨i1, i2, i3, i4, hz, fun e => ⟨(hg e).2, (i6 (hg e).1).2⟩⟩
/-! a new wire -/
def wd0 : Nat → Nat → Int32 := fun k => if k = 0 then (fun _ => -1) else if k = 2 then (fun _ => 100) else if k = 4 then (fun _ => 100) else if k = 6 then (fun _ => -1) else if k = 7 then (fun _ => -1) else zz0
theorem INV_0 : INV 0 0 0 0 0 zz0 wd0 (0, fun _ => zz0) 0 0 0 zz0 wd0 (0, fun _ => zz0) := by
  have hv : eV 0 0 0 zz0 := ⟨rfl, rfl, rfl, by decide, by decide, fun e => absurd e (by decide)⟩
  have hd : eD 0 wd0 := ⟨fun o _ => ⟨Or.inl rfl, Or.inl rfl, Or.inl rfl, by show ¬ (0 : Int32) < 0 ∧ ¬ (100 : Int32) < 100; decide, Or.inl rfl, 0, 100, by decide, by decide, rfl, rfl⟩, fun e => absurd e (by decide)⟩
  have hq : ∀ R : (Nat → Int32) → Prop, qA R (0, fun _ => zz0) := fun R i hi => absurd hi (Nat.not_lt_zero i)
  have hp : qP a2 (0, fun _ => zz0) := fun i j _ hj => absurd hj (Nat.not_lt_zero j)
  have hD : nlD 0 0 (wd0 6) (wd0 7) (0, fun _ => zz0) (0, fun _ => zz0) := ⟨by decide, hq _, hp, hq _, fun h => absurd h.1 (by decide)⟩
  exact ⟨⟨hv, hv⟩, ⟨hd, hd⟩, ⟨hq _, hq _⟩, ⟨by decide, by decide⟩, by decide, fun _ => ⟨rfl, hD, hD⟩⟩
end M3
/-! numbers of the law -/
theorem bI1 {P : Prop} [Decidable P] (h : P) : bI P = 1 := if_pos h
theorem bI0 {P : Prop} [Decidable P] (h : ¬ P) : bI P = 0 := if_neg h
theorem of_bI0 {P : Prop} [Decidable P] (h : bI P = 0) : ¬ P := fun q => by rw [bI1 q] at h; exact absurd h (by decide)
theorem of_bI1 {P : Prop} [Decidable P] (h : ¬ bI P = 0) : P := by
  by_cases q : P
  · exact q
  · exact absurd (bI0 q) h
theorem nneg_lt {a : Nat} {L : Int32} (ha : a < 2 ^ 31) (hL : L.toInt < 0) : ¬ nI a < L := by
  rw [Int32.lt_iff_toInt_lt, nI_toInt ha]; omega
theorem nneg_le {a : Nat} {L : Int32} (ha : a < 2 ^ 31) (hL : L.toInt < 0) : ¬ nI a ≤ L := by
  rw [Int32.le_iff_toInt_le, nI_toInt ha]; omega
theorem nneg_eq {a : Nat} {L : Int32} (ha : a < 2 ^ 31) (hL : L.toInt < 0) : ¬ nI a = L := fun h => by
  have := congrArg Int32.toInt h
  rw [nI_toInt ha] at this; omega
theorem nneg_qe {a : Nat} {L : Int32} (ha : a < 2 ^ 31) (hL : L.toInt < 0) : ¬ L = nI a := fun h => nneg_eq ha hL h.symm
theorem nI_n0 {a : Nat} (h : 0 < a) (h2 : a < 2 ^ 31) : ¬ nI a = 0 := nI_ne (b := 0) (by omega) h2 (by decide)
theorem z_modv (a : Nat) {d : Nat} (h : 0 < d) : ∃ z : Nat, a % d = z ∧ z < d := ⟨a % d, rfl, Nat.mod_lt _ h⟩
theorem i_as {x : Int32} : x + 1 - 1 = x := Int32.add_sub_cancel x 1
theorem sent_t {a b e : Nat} (h : a + 1 = b + e) : nI a - nI b + 1 = nI e := by
  rcases Nat.eq_zero_or_pos e with rfl | he
  · rw [show b = a + 1 by omega]
    have h1 : nI a - nI (a + 1) = -1 := by
      rw [← nI_1]
      have h2 : nI a - (nI a + 1) = -1 := by
        rw [Int32.sub_eq_iff_eq_add]
        rw [Int32.add_comm (nI a) 1, ← Int32.add_assoc]
        have h3 : (-1 : Int32) + 1 = 0 := by decide
        rw [h3, Int32.zero_add]
      exact h2
    rw [h1]; decide
  · rw [z_sub (by omega), nI_1]
    congr 1; omega
/-! kinds in a row, as one number -/
def rwL (Q : Qt) (n : Nat) : Nat → Int64
  | 0 => 0
  | j + 1 => 8 * rwL Q n j + (Q.2 (n - 1 - j) 0).toInt64 + 1
theorem rwL_pop {Q : Qt} : ∀ j : Nat, j ≤ Q.1 - 1 → rwL (pop Q) (Q.1 - 1) j = rwL Q Q.1 j
  | 0, _ => rfl
  | j + 1, h => by
    show 8 * rwL (pop Q) (Q.1 - 1) j + ((pop Q).2 (Q.1 - 1 - 1 - j) 0).toInt64 + 1 = 8 * rwL Q Q.1 j + (Q.2 (Q.1 - 1 - j) 0).toInt64 + 1
    rw [rwL_pop j (by omega)]
    have e : (pop Q).2 (Q.1 - 1 - 1 - j) = Q.2 (Q.1 - 1 - j) := by
      show (if Q.1 - 1 - 1 - j < Q.1 - 1 then Q.2 (Q.1 - 1 - 1 - j + 1) else Q.2 (Q.1 - 1 - 1 - j)) = _
      rw [if_pos (by omega)]
      exact congrArg Q.2 (by omega)
    rw [e]
theorem rw_same (x : Int64) : lg_cmp x x = 0 := by
  unfold lg_cmp
  rw [if_neg (by exact Int64.lt_irrefl), if_pos rfl]
theorem rw_pop {Q : Qt} : lg_cmp (rwL (pop Q) (pop Q).1 (pop Q).1) (rwL Q Q.1 (Q.1 - 1)) = 0 := by
  rw [show rwL (pop Q) (pop Q).1 (pop Q).1 = rwL Q Q.1 (Q.1 - 1) from rwL_pop (Q.1 - 1) (Nat.le_refl _)]
  exact rw_same _
