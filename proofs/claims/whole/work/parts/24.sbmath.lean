/-! the text buffer: rows for shifts and bytes -/
theorem z_shr0 {x : Int32} : x >>> ((0 : Int32) &&& 31) = x := by
  have h : ((0 : Int32) &&& 31) = 0 := by decide
  rw [h]
  exact Int32.shiftRight_zero
theorem z_shl0 {x : Int32} : x <<< ((0 : Int32) &&& 31) = x := by
  have h : ((0 : Int32) &&& 31) = 0 := by decide
  rw [h]
  exact Int32.shiftLeft_zero
theorem z_sub {a b : Nat} (h : b ≤ a) : nI a - nI b = nI (a - b) := pk_sub h
theorem le_sub0 {a b : Nat} (h : a ≤ b) (hb : b < 2 ^ 30) : nI a - nI b ≤ 0 := by
  rw [Int32.le_iff_toInt_le, pk_sub_toInt (by omega) (by omega)]
  show (a : Int) - b ≤ (0 : Int32).toInt
  rw [show (0 : Int32).toInt = 0 by decide]
  omega
theorem mmx18 {d : Nat} (h : d ≤ 18) : mmx (nI d) 18 = 18 := by
  unfold mmx
  rcases Nat.lt_or_ge d 18 with h1 | h1
  · rw [if_pos (show nI d < nI 18 from nI_lt h1 (by decide))]
  · have e : d = 18 := by omega
    subst e
    rfl
theorem b127 {q : Int32} (h0 : ¬ q < 0) (h1 : q ≤ 127) : q.toInt8.toInt32 = q := by
  obtain ⟨j, hj, rfl⟩ := nI_of2 (M := 127) (n := 127) (by decide) h0 h1
  have : ∀ j : Fin 128, (nI j.val).toInt8.toInt32 = nI j.val := by decide +kernel
  exact this ⟨j, by omega⟩
theorem nar127 {q : Int32} (h0 : ¬ q < 0) (h1 : q ≤ 127) : vp_nar .byte q = q := by rw [vp_nar_byte]; exact b127 h0 h1
theorem fit127 {q : Int32} (h0 : ¬ q < 0) (h1 : q ≤ 127) : fits .byte (.int q) = true := by
  obtain ⟨j, hj, rfl⟩ := nI_of2 (M := 127) (n := 127) (by decide) h0 h1
  have : ∀ j : Fin 128, fits .byte (.int (nI j.val)) = true := by decide +kernel
  exact this ⟨j, by omega⟩
abbrev bfit (n : Nat) (g : Nat → Int32) : Prop := ∀ i, i < n → fits .byte (.int (g i)) = true
theorem bfit_upd {n k : Nat} {g : Nat → Int32} {q : Int32} (h : bfit n g) (h0 : ¬ q < 0) (h1 : q ≤ 127) : bfit n (upd g k q) := by
  intro i hi
  by_cases e : i = k
  · simp only [upd, if_pos e]; exact fit127 h0 h1
  · simp only [upd, if_neg e]; exact h i hi
theorem bfit_cpy {g : Nat → Int32} (h : bfit 16 g) : bfit 34 (va_cpy g zz0 0 0 16) := by
  intro i hi
  by_cases e : i < 16
  · rw [pk_cpy_in (Nat.zero_le _) (by omega)]
    have := h (0 + (i - 0)) (by omega)
    exact this
  · rw [pk_cpy_out (by omega)]; rfl
theorem cpy16 {g : Nat → Int32} : ∀ i, i < 16 → va_cpy g zz0 0 0 16 i = g i := by
  intro i hi
  rw [pk_cpy_in (Nat.zero_le _) (by omega)]
  congr 1; omega
theorem n127 {q : Int32} (h : q ≤ 127) : ¬ 255 < q := by
  intro h2
  rw [Int32.le_iff_toInt_le] at h
  rw [Int32.lt_iff_toInt_lt] at h2
  have e1 : (127 : Int32).toInt = 127 := by decide
  have e2 : (255 : Int32).toInt = 255 := by decide
  omega
