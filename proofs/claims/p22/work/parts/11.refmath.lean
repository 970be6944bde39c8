/-! the reference's rows: two ends in one row -/
def t2 (ix : Nat) (a b : Int32) : Nat → Int32 := fun j => if j = ix then a else if j = 1 - ix then b else 0
def bk (n ix : Nat) (f g : Nat → Int32) : Nat → Int32 := fun j => if j / n = ix then f (j % n) else if j / n = 1 - ix then g (j % n) else 0
theorem t2_x {ix : Nat} {a b : Int32} : t2 ix a b ix = a := by simp [t2]
theorem t2_y {ix : Nat} {a b : Int32} (h : ix ≤ 1) : t2 ix a b (1 - ix) = b := by
  have h1 : ¬ (1 - ix = ix) := by omega
  simp [t2, h1]
theorem t2_ux {ix : Nat} {a b x : Int32} : upd (t2 ix a b) ix x = t2 ix x b := by
  funext j
  by_cases h : j = ix <;> simp [upd, t2, h]
theorem t2_uy {ix : Nat} {a b x : Int32} (h : ix ≤ 1) : upd (t2 ix a b) (1 - ix) x = t2 ix a x := by
  funext j
  by_cases h1 : j = 1 - ix
  · have h2 : ¬ (1 - ix = ix) := by omega
    simp [upd, t2, h1, h2]
  · simp [upd, t2, h1]
theorem t2_sw {ix : Nat} {a b : Int32} (h : ix ≤ 1) : t2 ix a b = t2 (1 - ix) b a := by
  funext j
  have e : 1 - (1 - ix) = ix := by omega
  have e2 : ¬ (1 - ix = ix) := by omega
  by_cases h1 : j = ix
  · subst h1
    have e3 : ¬ j = 1 - j := by omega
    simp [t2, e, e3]
  · by_cases h2 : j = 1 - ix
    · simp [t2, h2, e2]
    · simp [t2, h1, h2, e]
theorem bk_i {n ix k : Nat} (hk : k < n) : (n * ix + k) / n = ix ∧ (n * ix + k) % n = k := by
  refine ⟨?_, ?_⟩
  · rw [Nat.mul_add_div (by omega), Nat.div_eq_of_lt hk]; rfl
  · rw [Nat.mul_add_mod]; exact Nat.mod_eq_of_lt hk
theorem bk_x {n ix k : Nat} {f g : Nat → Int32} (hk : k < n) : bk n ix f g (n * ix + k) = f k := by
  simp only [bk, (bk_i (ix := ix) hk).1, (bk_i (ix := ix) hk).2, if_true]
theorem bk_y {n ix k : Nat} {f g : Nat → Int32} (hk : k < n) (h : ix ≤ 1) : bk n ix f g (n * (1 - ix) + k) = g k := by
  have h1 : ¬ (1 - ix = ix) := by omega
  simp only [bk, (bk_i (ix := 1 - ix) hk).1, (bk_i (ix := 1 - ix) hk).2, if_neg h1, if_true]
theorem bk_j {n ix k j : Nat} (hk : k < n) : j = n * ix + k ↔ (j / n = ix ∧ j % n = k) := by
  constructor
  · intro h; subst h; exact bk_i hk
  · intro h
    have := Nat.div_add_mod j n
    rw [h.1, h.2] at this
    exact this.symm
theorem bk_ux {n ix k : Nat} {f g : Nat → Int32} {x : Int32} (hk : k < n) : upd (bk n ix f g) (n * ix + k) x = bk n ix (upd f k x) g := by
  funext j
  by_cases h : j = n * ix + k
  · have h1 := (bk_j hk).mp h
    simp only [upd, if_pos h, bk, h1.1, h1.2, if_true]
  · simp only [upd, if_neg h, bk]
    by_cases h1 : j / n = ix
    · have h2 : ¬ j % n = k := fun q => h ((bk_j hk).mpr ⟨h1, q⟩)
      simp only [if_pos h1, if_neg h2]
    · simp only [if_neg h1]
theorem bk_uy {n ix k : Nat} {f g : Nat → Int32} {x : Int32} (hk : k < n) (hx : ix ≤ 1) : upd (bk n ix f g) (n * (1 - ix) + k) x = bk n ix f (upd g k x) := by
  funext j
  have hn : ¬ (1 - ix = ix) := by omega
  by_cases h : j = n * (1 - ix) + k
  · have h1 := (bk_j hk).mp h
    simp only [upd, if_pos h, bk, h1.1, h1.2, if_neg hn, if_true]
  · simp only [upd, if_neg h, bk]
    by_cases h1 : j / n = ix
    · simp only [if_pos h1]
    · simp only [if_neg h1]
      by_cases h3 : j / n = 1 - ix
      · have h2 : ¬ j % n = k := fun q => h ((bk_j hk).mpr ⟨h3, q⟩)
        simp only [if_pos h3, if_neg h2]
      · simp only [if_neg h3]
theorem bk_sw {n ix : Nat} {f g : Nat → Int32} (h : ix ≤ 1) : bk n ix f g = bk n (1 - ix) g f := by
  funext j
  have e : 1 - (1 - ix) = ix := by omega
  have e2 : ¬ (1 - ix = ix) := by omega
  have e3 : ¬ (ix = 1 - ix) := by omega
  by_cases h1 : j / n = ix
  · simp only [bk, h1, e, if_true, if_neg e3]
  · by_cases h2 : j / n = 1 - ix
    · simp only [bk, h2, if_neg e2, if_true]
    · simp only [bk, if_neg h1, if_neg h2, e]
theorem bk_cx {n ix : Nat} {f f' g : Nat → Int32} (h : f = f') : bk n ix f g = bk n ix f' g := by rw [h]
theorem bk_cy {n ix : Nat} {f g g' : Nat → Int32} (h : g = g') : bk n ix f g = bk n ix f g' := by rw [h]
def qc (Q : Qt) (c : Nat) : Nat → Int32 := fun i => Q.2 i c
def qw (Q : Qt) : Nat → Int32 := fun j => Q.2 (j / 4) (3 + j % 4)
theorem qc_push0 {Q : Qt} (h : Q.1 < 12) {kd nb mk : Int32} {f : Nat → Int32} : upd (qc Q 0) Q.1 kd = qc (push (pk kd nb mk f) Q) 0 := by
  rw [push_y h]; funext i; by_cases hi : i = Q.1 <;> simp [upd, qc, hi, pk]
theorem qc_push1 {Q : Qt} (h : Q.1 < 12) {kd nb mk : Int32} {f : Nat → Int32} : upd (qc Q 1) Q.1 nb = qc (push (pk kd nb mk f) Q) 1 := by
  rw [push_y h]; funext i; by_cases hi : i = Q.1 <;> simp [upd, qc, hi, pk]
theorem qc_push2 {Q : Qt} (h : Q.1 < 12) {kd nb mk : Int32} {f : Nat → Int32} : upd (qc Q 2) Q.1 mk = qc (push (pk kd nb mk f) Q) 2 := by
  rw [push_y h]; funext i; by_cases hi : i = Q.1 <;> simp [upd, qc, hi, pk]
theorem qw_push {Q : Qt} (h : Q.1 < 12) {kd nb mk : Int32} {f : Nat → Int32} : bput 4 (qw Q) Q.1 f = qw (push (pk kd nb mk f) Q) := by
  rw [push_y h]; funext j
  by_cases hi : Q.1 * 4 ≤ j ∧ j < Q.1 * 4 + 4
  · have e1 : j / 4 = Q.1 := by omega
    have e2 : j - Q.1 * 4 = j % 4 := by omega
    have e3 : 3 + j % 4 - 3 = j % 4 := by omega
    have e4 : ¬ 3 + j % 4 = 0 := by omega
    have e5 : ¬ 3 + j % 4 = 1 := by omega
    have e6 : ¬ 3 + j % 4 = 2 := by omega
    simp only [bput, if_pos hi, qw, e1, if_true, pk, if_neg e4, if_neg e5, if_neg e6, e2, e3]
  · have e1 : ¬ j / 4 = Q.1 := by omega
    simp only [bput, if_neg hi, qw, if_neg e1]
def sh (i : Nat) (f : Nat → Int32) : Nat → Int32 := fun k => if k < i then f (k + 1) else f k
def sh4 (t : Nat) (f : Nat → Int32) : Nat → Int32 := fun k => if k < t then f (k + 4) else f k
theorem sh_0 {f : Nat → Int32} : f = sh 0 f := by funext k; simp [sh]
theorem sh_s {i : Nat} {f : Nat → Int32} {x : Int32} (h : x = f (i + 1)) : upd (sh i f) i x = sh (i + 1) f := by
  subst h; funext k
  by_cases h1 : k = i
  · subst h1; simp [upd, sh]
  · by_cases h2 : k < i
    · have h3 : k < i + 1 := by omega
      simp [upd, sh, h1, h2, h3]
    · have h3 : ¬ k < i + 1 := by omega
      simp [upd, sh, h1, h2, h3]
theorem sh_n {i : Nat} {f : Nat → Int32} : sh i f (i + 1) = f (i + 1) := by
  have h : ¬ i + 1 < i := by omega
  simp [sh, h]
theorem sh4_0 {f : Nat → Int32} : f = sh4 (4 * 0 + 0) f := by funext k; simp [sh4]
theorem sh4_s {t : Nat} {f : Nat → Int32} {x : Int32} (h : x = f (t + 4)) : upd (sh4 t f) t x = sh4 (t + 1) f := by
  subst h; funext k
  by_cases h1 : k = t
  · subst h1; simp [upd, sh4]
  · by_cases h2 : k < t
    · have h3 : k < t + 1 := by omega
      simp [upd, sh4, h1, h2, h3]
    · have h3 : ¬ k < t + 1 := by omega
      simp [upd, sh4, h1, h2, h3]
theorem sh4_n {t : Nat} {f : Nat → Int32} : sh4 t f (t + 4) = f (t + 4) := by
  have h : ¬ t + 4 < t := by omega
  simp [sh4, h]
theorem qc_pop {Q : Qt} {c : Nat} : sh (Q.1 - 1) (qc Q c) = qc (pop Q) c := by
  funext k
  by_cases h : k < Q.1 - 1 <;> simp [sh, qc, pop, h]
theorem qw_pop {Q : Qt} : sh4 (4 * (Q.1 - 1)) (qw Q) = qw (pop Q) := by
  funext k
  by_cases h : k < 4 * (Q.1 - 1)
  · have e1 : k / 4 < Q.1 - 1 := by omega
    have e2 : (k + 4) / 4 = k / 4 + 1 := by omega
    have e3 : (k + 4) % 4 = k % 4 := by omega
    simp only [sh4, if_pos h, qw, pop, if_pos e1, e2, e3]
  · have e1 : ¬ k / 4 < Q.1 - 1 := by omega
    simp only [sh4, if_neg h, qw, pop, if_neg e1]
abbrev inr (x a b : Int32) : Prop := ¬ x < a ∧ ¬ b < x
/-- the model's own object: looped, time, his kind, number and mark, sent, thrown -/
abbrev cM (b : Nat → Nat) (m : Nat → Int32) : Nat × va_E := (b 0, .inr (6, [.int (m 0), .int (m 1), .ref (b 1), .ref (b 2), .ref (b 3), .ref (b 4), .ref (b 5), .ref (b 6), .ref (b 7), .ref (b 8), .ref (b 9), .ref (b 10), .ref (b 11), .ref (b 12), .ref (b 13), .ref (b 14), .ref (b 15), .ref (b 16), .ref (b 17), .ref (b 18), .ref (b 19), .ref (b 20), .int (m 2), .int (m 3), .int (m 4), .ref (b 21), .ref (b 22), .int (m 5), .int (m 6)]))
theorem z_1sub {ix : Nat} (h : ix ≤ 1) : 1 - nI ix = nI (1 - ix) := by
  rcases (show ix = 0 ∨ ix = 1 by omega) with rfl | rfl <;> rfl
theorem upd_id {f : Nat → Int32} {k : Nat} : upd f k (f k) = f := by
  funext j
  by_cases h : j = k <;> simp [upd, h]
/-! judging, as the reference does it -/
theorem isO_n1 {w lo hi : Nat → Int32} {j : Nat} (h : w j = -1) : isO w lo hi j = false := (ofd_n1 h).1
theorem ner_in {w lo hi : Nat → Int32} {j : Nat} (h : inr (w j) (lo j) (hi j)) : w j = ner lo hi w j := by
  unfold ner mmn mmx
  rw [if_neg h.1, if_neg h.2]
theorem isO_in {w lo hi : Nat → Int32} {j : Nat} (h : inr (w j) (lo j) (hi j)) : isO w lo hi j = false := (ofd_n2 (ner_in h)).1
theorem ner_out {w lo hi : Nat → Int32} {j : Nat} (hb : lo j ≤ hi j) (h : ¬ inr (w j) (lo j) (hi j)) : ¬ w j = ner lo hi w j ∧ ner lo hi w j = (if w j < lo j then lo j else hi j) := by
  unfold ner mmn mmx
  by_cases h1 : w j < lo j
  · have h2 : ¬ hi j < lo j := Int32.not_lt.mpr hb
    rw [if_pos h1, if_neg h2]
    refine ⟨fun e => ?_, by first | rfl | rw [if_pos h1]⟩
    rw [e] at h1
    exact Int32.lt_irrefl h1
  · have h2 : hi j < w j := by
      by_cases h3 : hi j < w j
      · exact h3
      · exact absurd ⟨h1, h3⟩ h
    rw [if_neg h1, if_pos h2]
    refine ⟨fun e => ?_, by first | rfl | rw [if_neg h1]⟩
    rw [e] at h2
    exact Int32.lt_irrefl h2
theorem isO_out {w lo hi : Nat → Int32} {j : Nat} (hb : lo j ≤ hi j) (h1 : ¬ w j = -1) (h : ¬ inr (w j) (lo j) (hi j)) : isO w lo hi j = true := (ofd_y h1 (ner_out hb h).1).1
theorem z_gd1 {p : Nat → Bool} {j : Nat} (h1 : anB p j = false) (h2 : p j = false) : bB (!(anB p (j + 1))) = 1 := by simp [anB, bB, h1, h2]
theorem z_gd2 {p : Nat → Bool} {j : Nat} (h1 : anB p j = true) : bB (!(anB p (j + 1))) = 0 := by simp [anB, bB, h1]
theorem z_gd3 {p : Nat → Bool} {j : Nat} (h1 : p j = true) : bB (!(anB p (j + 1))) = 0 := by simp [anB, bB, h1]
abbrev gdb (w rf lo hi : Nat → Int32) : Bool := !(anB (isR w rf) 4) && !(anB (isO w lo hi) 4)
abbrev nrB (w lo hi : Nat → Int32) (j : Nat) : Int32 := if w j < lo j then lo j else hi j
def hsB (w rf lo hi : Nat → Int32) (j : Nat) : Bool := gdb w rf lo hi || (!(decide (w j = -1)) && (if anB (isR w rf) 4 then !(decide (rf j = 0)) else isO w lo hi j))
theorem anB_of {p : Nat → Bool} {n j : Nat} (h : j < n) (hp : p j = true) : anB p n = true := by
  induction n with
  | zero => omega
  | succ n ih =>
    by_cases e : j = n
    · subst e; simp [anB, hp]
    · simp [anB, ih (by omega)]
theorem gdb_k {w rf lo hi : Nat → Int32} : gdb w rf lo hi = true ↔ jKd w rf lo hi = 1 := by
  unfold gdb jKd
  cases anB (isR w rf) 4 <;> cases anB (isO w lo hi) 4 <;> simp
theorem jAn_g {w rf lo hi : Nat → Int32} (h : gdb w rf lo hi = true) : jAn w rf lo hi = w := by
  unfold gdb at h
  unfold jAn
  cases h1 : anB (isR w rf) 4 <;> cases h2 : anB (isO w lo hi) 4 <;> simp_all
theorem jAn_n {w rf lo hi : Nat → Int32} {j : Nat} (h : hsB w rf lo hi j = false) : jAn w rf lo hi j = -1 := by
  unfold hsB gdb at h
  unfold jAn
  cases h1 : anB (isR w rf) 4 <;> cases h2 : anB (isO w lo hi) 4 <;> simp_all [rfd, ofd]
  intro a b; exact absurd (h a) b
theorem jAn_r {w rf lo hi : Nat → Int32} {j : Nat} (h : hsB w rf lo hi j = true) (hr : anB (isR w rf) 4 = true) : jAn w rf lo hi j = w j := by
  unfold hsB gdb at h
  unfold jAn
  simp_all [rfd]
theorem jAn_o {w rf lo hi : Nat → Int32} {j : Nat} (hb : lo j ≤ hi j) (h : hsB w rf lo hi j = true) (hg : gdb w rf lo hi = false) (hr : anB (isR w rf) 4 = false) : jAn w rf lo hi j = nrB w lo hi j := by
  have h2 : anB (isO w lo hi) 4 = true := by unfold gdb at hg; simp_all
  have h3 : isO w lo hi j = true := by
    unfold hsB at h
    rw [hg, hr] at h
    simp only [Bool.false_or, Bool.and_eq_true] at h
    exact h.2
  have h4 : ¬ w j = -1 ∧ ¬ w j = ner lo hi w j := of_decide_eq_true h3
  have h5 : ¬ inr (w j) (lo j) (hi j) := fun q => h4.2 (ner_in q)
  unfold jAn
  rw [hr, h2]
  show ofd w lo hi j = _
  rw [(ofd_y h4.1 h4.2).2, (ner_out hb h5).2]
def sdF (w rf lo hi sd : Nat → Int32) : Nat → Int32 := if gdb w rf lo hi then w else sd
theorem arD_s {w : Nat → Int32} {d : Nat → Nat → Int32} : va_up d 7 (sdF w (d 5) (d 3) (d 4) (d 7)) = arD w d := by
  unfold arD sdF
  by_cases h : jK w d = 1
  · have hg := gdb_k.mpr h
    rw [if_pos hg, if_pos h, show jA w d = w from jAn_g hg]
  · have hg : ¬ gdb w (d 5) (d 3) (d 4) = true := fun q => h (gdb_k.mp q)
    rw [if_neg hg, if_neg h]
    funext k
    by_cases hk : k = 7 <;> simp [va_up, hk]
theorem bk_mix {ix : Nat} {F f g : Nat → Int32} : ∀ k, k < 8 → bk 4 ix (mix 4 F f) g k = bk 4 ix F g k := by
  intro k _
  have h : k % 4 < 4 := Nat.mod_lt _ (by decide)
  unfold bk
  rw [mix_lt h]
theorem gdb_r {w rf lo hi : Nat → Int32} : bB (gdb w rf lo hi) = bI (jKd w rf lo hi = 1) := by
  by_cases h : jKd w rf lo hi = 1
  · simp only [bI, if_pos h, gdb_k.mpr h, bB, if_true]
  · have hg : ¬ gdb w rf lo hi = true := fun q => h (gdb_k.mp q)
    simp only [bI, if_neg h, bB, if_neg hg]
theorem jKd_c {w rf lo hi : Nat → Int32} (hg : gdb w rf lo hi = false) (hr : anB (isR w rf) 4 = false) : jKd w rf lo hi = 2 := by
  unfold gdb at hg
  unfold jKd
  cases h1 : anB (isO w lo hi) 4 <;> simp_all
theorem jKd_r {w rf lo hi : Nat → Int32} (hr : anB (isR w rf) 4 = true) : jKd w rf lo hi = 3 := by simp [jKd, hr]
