/-! what the law keeps: its rows c and w -/
def CCR (cc : Nat → Int32) (nw : Int32) (q g : Nat) : Prop := cc 0 = nw ∧ cc 1 = nI q ∧ cc 2 = nI g
def SW (B : Nat) (lo nw : Int32) (cc ww xv : Nat → Int32) (xd : Nat → Nat → Int32) (QX : Qt) (yv : Nat → Int32) (yd : Nat → Nat → Int32) (QY : Qt) : Prop :=
  ∃ g q : Nat, PW B g q xv xd QX yv yd QY ∧ lo = nI q ∧ CCR cc nw q g ∧ (g ≤ 1 ∧ q ≤ 1) ∧ WRe 0 xd ww ∧ WRe 1 yd ww
theorem inr_nI {a b c : Nat} (h1 : b ≤ a) (h2 : a ≤ c) (hc : c < 2 ^ 31) : inr (nI a) (nI b) (nI c) := ⟨nI_nlt h1 (by omega), nI_nlt h2 hc⟩
theorem upd_ne {f : Nat → Int32} {a b : Nat} {x : Int32} (h : ¬ b = a) : upd f a x b = f b := if_neg h
theorem upd_eq {f : Nat → Int32} {a b : Nat} {x : Int32} (h : b = a) : upd f a x b = x := if_pos h
section WR
variable {e k : Nat} {d : Nat → Nat → Int32} {ww : Nat → Int32}
theorem WRe_oth {e' i a b : Nat} {x : Int32} (h : WRe e' d ww) (he : ¬ e' = e) (hk : k < 4) (ha : a = 6 * (4 * e + k) + b) (hb : b < 6) : WRe e' d (upd ww a x) := by
  intro o ho
  obtain ⟨h1, h2, h3, h4⟩ := h o ho
  refine ⟨?_, ?_, ?_, ?_⟩
  · rw [upd_ne (by omega)]; exact h1
  · rw [upd_ne (by omega)]; exact h2
  · rw [upd_ne (by omega)]; exact h3
  · rw [upd_ne (by omega)]; exact h4
theorem WRe_wish {a0 a1 a2 : Nat} {wi le mo : Int32} (h : WRe e d ww) (hk : k < 4) (h0 : a0 = 6 * (4 * e + k)) (h1 : a1 = 6 * (4 * e + k) + 1) (h2 : a2 = 6 * (4 * e + k) + 2) :
    WRe e (va_up (va_up (va_up d 0 (upd (d 0) k wi)) 1 (upd (d 1) k le)) 2 (upd (d 2) k mo)) (upd (upd (upd ww a0 (wi + 1)) a1 le) a2 mo) := by
  intro o ho
  obtain ⟨i1, i2, i3, i4⟩ := h o ho
  refine ⟨?_, ?_, ?_, ?_⟩
  · show _ = upd (d 0) k wi o + 1
    rw [upd_ne (by omega), upd_ne (by omega)]
    by_cases hok : o = k
    · rw [upd_eq (by omega), upd_eq hok]
    · rw [upd_ne (by omega), upd_ne hok]; exact i1
  · rw [upd_ne (by omega), upd_ne (by omega), upd_ne (by omega)]; exact i2
  · rw [upd_ne (by omega), upd_ne (by omega), upd_ne (by omega)]; exact i3
  · rw [upd_ne (by omega), upd_ne (by omega), upd_ne (by omega)]; exact i4
theorem WRe_allow {a3 a4 : Nat} {le mo : Int32} (h : WRe e d ww) (hk : k < 4) (h3 : a3 = 6 * (4 * e + k) + 3) (h4 : a4 = 6 * (4 * e + k) + 4) :
    WRe e (va_up (va_up d 3 (upd (d 3) k le)) 4 (upd (d 4) k mo)) (upd (upd ww a3 le) a4 mo) := by
  intro o ho
  obtain ⟨i1, i2, i3, i4⟩ := h o ho
  refine ⟨?_, ?_, ?_, ?_⟩
  · rw [upd_ne (by omega), upd_ne (by omega)]; exact i1
  · show _ = upd (d 3) k le o
    rw [upd_ne (by omega)]
    by_cases hok : o = k
    · rw [upd_eq (by omega), upd_eq hok]
    · rw [upd_ne (by omega), upd_ne hok]; exact i2
  · show _ = upd (d 4) k mo o
    by_cases hok : o = k
    · rw [upd_eq (by omega), upd_eq hok]
    · rw [upd_ne (by omega), upd_ne (by omega), upd_ne hok]; exact i3
  · rw [upd_ne (by omega), upd_ne (by omega)]; exact i4
theorem WRe_refuse {a5 : Nat} {z : Int32} (h : WRe e d ww) (hk : k < 4) (h5 : a5 = 6 * (4 * e + k) + 5) : WRe e (va_up d 5 (upd (d 5) k z)) (upd ww a5 z) := by
  intro o ho
  obtain ⟨i1, i2, i3, i4⟩ := h o ho
  refine ⟨?_, ?_, ?_, ?_⟩
  · rw [upd_ne (by omega)]; exact i1
  · rw [upd_ne (by omega)]; exact i2
  · rw [upd_ne (by omega)]; exact i3
  · show _ = upd (d 5) k z o
    by_cases hok : o = k
    · rw [upd_eq (by omega), upd_eq hok]
    · rw [upd_ne (by omega), upd_ne hok]; exact i4
end WR
theorem rw_ex {a b : Nat} (h : a = b) (hb : b < 2 ^ 30) : nI a - 1 < nI b := by
  subst h
  rw [Int32.lt_iff_toInt_lt, show (1 : Int32) = nI 1 from rfl, pk_sub_toInt hb (by decide), nI_toInt (by omega)]
  omega
theorem rw_k {n j : Nat} (h : j < n) : nI (n - j) - 1 = nI (n - 1 - j) := by
  rw [nI_sub1 (by omega)]
  exact congrArg nI (by omega)
theorem rw_dec {n j : Nat} : nI (n - (j + 1)) - 1 = nI (n - 1 - j) + (-1) := by
  rw [show n - (j + 1) = n - 1 - j by omega]
  exact Int32.sub_eq_add_neg _ _
theorem en_1e {e : Nat} (he : e ≤ 1) : (1 : Int32) - nI e = nI (1 - e) := z_1sub he
theorem or_0 {g : Nat} (h : g ≤ 1) : nI g ||| 0 = nI g := by
  rcases (show g = 0 ∨ g = 1 by omega) with rfl | rfl <;> decide
theorem or_1 {g : Nat} (h : g ≤ 1) : nI g ||| 1 = 1 := by
  rcases (show g = 0 ∨ g = 1 by omega) with rfl | rfl <;> decide
theorem en_10 {F G x y : Nat} (h : en 1 F G x y) : en 0 F G y x := by
  rcases h with ⟨h1, -, -⟩ | ⟨-, h1, h2⟩
  · exact absurd h1 (by decide)
  · exact Or.inl ⟨rfl, h1, h2⟩
