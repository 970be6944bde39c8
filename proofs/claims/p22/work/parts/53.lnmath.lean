/-! the line of an end, letter by letter -/
def okL (k : Nat) (f : Nat → Int32) (n : Nat) (g : Nat → Int32) : Prop := apd n g g 0 (lnT k f 4)
theorem okL_of {k n : Nat} {f g g0 : Nat → Int32} (h : apd n g g0 0 (lnT k f 4)) : okL k f n g := ⟨h.1, h.2.1, h.2.2.1, fun _ _ => rfl, h.2.2.2.2⟩
theorem okL_le {k n : Nat} {f g : Nat → Int32} (h : okL k f n g) : (lnT k f 4).length ≤ n := by
  have := h.2.1
  omega
def bgL (b0 b1 b2 b3 b4 b5 b6 : Int32) : Nat → Int32 := fun i => if i = 0 then b0 else if i = 1 then b1 else if i = 2 then b2 else if i = 3 then b3 else if i = 4 then b4 else if i = 5 then b5 else b6
theorem bgL_of {b0 b1 b2 b3 b4 b5 b6 : Int32} : ∀ i, i < 7 → upd (upd (upd (upd (upd (upd (upd zz0 0 b0) 1 b1) 2 b2) 3 b3) 4 b4) 5 b5) 6 b6 i = bgL b0 b1 b2 b3 b4 b5 b6 i := by
  intro i hi
  rcases (show i = 0 ∨ i = 1 ∨ i = 2 ∨ i = 3 ∨ i = 4 ∨ i = 5 ∨ i = 6 by omega) with rfl | rfl | rfl | rfl | rfl | rfl | rfl <;> rfl
theorem zB_pos {k : Nat} (hk : k < 8) {i : Nat} (hi : i < zLen.getD k 0) : ¬ (zByt.getD k []).getD i 0 ≤ 0 := by
  have h : ∀ j : Fin 8, ∀ i : Fin 7, i.val < zLen.getD j.val 0 → ¬ (zByt.getD j.val []).getD i.val 0 ≤ 0 := by decide +kernel
  have h7 := zlen7 hk
  exact h ⟨k, hk⟩ ⟨i, by omega⟩ hi
theorem zlen_pos {k : Nat} (hk : k < 8) : 0 < zLen.getD k 0 := by
  have h : ∀ j : Fin 8, 0 < zLen.getD j.val 0 := by decide
  exact h ⟨k, hk⟩
theorem lnT_pre {k : Nat} {f : Nat → Int32} {j : Nat} (hj : j ≤ 4) {i : Nat} (hi : i < (lnT k f j).length) : (lnT k f 4).getD i 0 = (lnT k f j).getD i 0 := by
  have step : ∀ m, j ≤ m → (lnT k f m).getD i 0 = (lnT k f j).getD i 0 := by
    intro m
    induction m with
    | zero => intro h; rw [show j = 0 by omega]
    | succ m ih =>
      intro h
      rcases Nat.eq_or_lt_of_le h with e | e
      · rw [e]
      · have h1 : j ≤ m := by omega
        have h2 := lnT_mono (k := k) (f := f) h1
        show (lnT k f m ++ lnO m (f m)).getD i 0 = _
        rw [← ih h1]
        simp only [List.getD_eq_getElem?_getD, List.getElem?_append_left (show i < (lnT k f m).length by omega)]
  exact step 4 hj
theorem lnT_hd {k : Nat} {f : Nat → Int32} (hk : k < 8) {i : Nat} (hi : i < zLen.getD k 0) : (lnT k f 4).getD i 0 = (zByt.getD k []).getD i 0 :=
  lnT_pre (j := 0) (by decide) (by show i < (zByt.getD k []).length; rw [zlen_ok hk]; exact hi)
theorem lnT_l4 {k : Nat} {f : Nat → Int32} (hk : k < 8) : zLen.getD k 0 ≤ (lnT k f 4).length := by
  have h := lnT_mono (k := k) (f := f) (i := 0) (j := 4) (by decide)
  have e : (lnT k f 0).length = zLen.getD k 0 := zlen_ok hk
  omega
theorem lnT_ln {k j v : Nat} {f : Nat → Int32} (hv : v ≤ 100) (h : f j = nI v) : (lnT k f (j + 1)).length = (lnT k f j).length + 2 + (lnD v).length := by
  rw [lnT_v hv h]
  simp only [List.length_append, List.length_cons]
  omega
theorem lnT_at {k j v : Nat} {f : Nat → Int32} (hj : j < 4) (hv : v ≤ 100) (h : f j = nI v) {i : Nat} (hi : i < 2 + (lnD v).length) : (lnT k f 4).getD ((lnT k f j).length + i) 0 = (32 :: nI (97 + j) :: lnD v).getD i 0 := by
  have hl := lnT_ln (k := k) hv h
  rw [lnT_pre (j := j + 1) (by omega) (by omega), lnT_v hv h]
  simp only [List.getD_eq_getElem?_getD]
  rw [List.getElem?_append_right (by omega), Nat.add_sub_cancel_left]
theorem lnD_la {v : Nat} (h : v ≤ 9) : (lnD v).length = 1 := by rw [lnD_a h]; rfl
theorem lnD_lb {v : Nat} (h1 : 10 ≤ v) (h2 : v ≤ 99) : (lnD v).length = 2 := by rw [lnD_b h1 h2]; rfl
theorem lnD_lc : (lnD 100).length = 3 := by rw [lnD_c (Nat.le_refl 100)]; rfl
theorem lnD_1 {v : Nat} (hv : v ≤ 100) : 1 ≤ (lnD v).length := by
  rcases (show v ≤ 9 ∨ (10 ≤ v ∧ v ≤ 99) ∨ v = 100 by omega) with h | ⟨h1, h2⟩ | rfl
  · rw [lnD_la h]; exact Nat.le_refl 1
  · rw [lnD_lb h1 h2]; decide
  · rw [lnD_lc]; decide
theorem dg_a {k j v : Nat} {f : Nat → Int32} (hj : j < 4) (h : f j = nI v) (h9 : v ≤ 9) : (lnT k f 4).getD ((lnT k f j).length + 2) 0 = nI (48 + v / 1 % 10) := by
  rw [lnT_at hj (by omega) h (i := 2) (by rw [lnD_la h9]; decide), lnD_a h9, Nat.div_one]
  rfl
theorem dg_b0 {k j v : Nat} {f : Nat → Int32} (hj : j < 4) (h : f j = nI v) (h1 : 10 ≤ v) (h2 : v ≤ 99) : (lnT k f 4).getD ((lnT k f j).length + 2) 0 = nI (48 + v / 10 % 10) := by
  rw [lnT_at hj (by omega) h (i := 2) (by rw [lnD_lb h1 h2]; decide), lnD_b h1 h2, show v / 10 % 10 = v / 10 by omega]
  rfl
theorem dg_b1 {k j v : Nat} {f : Nat → Int32} (hj : j < 4) (h : f j = nI v) (h1 : 10 ≤ v) (h2 : v ≤ 99) : (lnT k f 4).getD ((lnT k f j).length + 3) 0 = nI (48 + v / 1 % 10) := by
  rw [lnT_at hj (by omega) h (i := 3) (by rw [lnD_lb h1 h2]; decide), lnD_b h1 h2, Nat.div_one]
  rfl
theorem dg_c0 {k j : Nat} {f : Nat → Int32} (hj : j < 4) (h : f j = nI 100) : (lnT k f 4).getD ((lnT k f j).length + 2) 0 = nI (48 + 100 / 100 % 10) := by
  rw [lnT_at hj (by omega) h (i := 2) (by rw [lnD_lc]; decide), lnD_c (Nat.le_refl 100)]
  rfl
theorem dg_c1 {k j : Nat} {f : Nat → Int32} (hj : j < 4) (h : f j = nI 100) : (lnT k f 4).getD ((lnT k f j).length + 3) 0 = nI (48 + 100 / 10 % 10) := by
  rw [lnT_at hj (by omega) h (i := 3) (by rw [lnD_lc]; decide), lnD_c (Nat.le_refl 100)]
  rfl
theorem dg_c2 {k j : Nat} {f : Nat → Int32} (hj : j < 4) (h : f j = nI 100) : (lnT k f 4).getD ((lnT k f j).length + 4) 0 = nI (48 + 100 / 1 % 10) := by
  rw [lnT_at hj (by omega) h (i := 4) (by rw [lnD_lc]; decide), lnD_c (Nat.le_refl 100)]
  rfl
theorem lnc_0 {k j v : Nat} {f : Nat → Int32} (hj : j < 4) (hv : v ≤ 100) (h : f j = nI v) : (lnT k f 4).getD (lnT k f j).length 0 = 32 :=
  lnT_at hj hv h (i := 0) (by omega)
theorem lnc_1 {k j v : Nat} {f : Nat → Int32} (hj : j < 4) (hv : v ≤ 100) (h : f j = nI v) : (lnT k f 4).getD ((lnT k f j).length + 1) 0 = nI (97 + j) :=
  lnT_at hj hv h (i := 1) (by omega)
