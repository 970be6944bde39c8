/-! the line as the reference writes it -/
def lwd (a b c d e f g : Int32) : Int64 := a.toInt64 ||| b.toInt64 <<< ((7 : Int32).toInt64 &&& 63) ||| c.toInt64 <<< ((14 : Int32).toInt64 &&& 63) ||| d.toInt64 <<< ((21 : Int32).toInt64 &&& 63) ||| e.toInt64 <<< ((28 : Int32).toInt64 &&& 63) ||| f.toInt64 <<< ((35 : Int32).toInt64 &&& 63) ||| g.toInt64 <<< ((42 : Int32).toInt64 &&& 63)
def zWd : List Int64 := [lwd 99 108 111 115 101 100 0, lwd 97 115 107 105 110 103 0, lwd 104 101 97 114 100 0 0, lwd 116 111 108 100 0 0 0, lwd 111 112 101 110 101 100 0, lwd 99 108 111 115 105 110 103, lwd 102 97 105 108 101 100 0, lwd 108 111 111 112 101 100 0]
theorem lch_le {k j : Nat} (hk : k < 8) (hj : j < 7) : lg_cmp (zWd.getD k 0 >>> ((nI (7 * j)).toInt64 &&& 63) &&& 127) 0 ≤ 0 ↔ zLen.getD k 0 ≤ j := by
  have : ∀ (k : Fin 8) (j : Fin 7), lg_cmp (zWd.getD k.val 0 >>> ((nI (7 * j.val)).toInt64 &&& 63) &&& 127) 0 ≤ 0 ↔ zLen.getD k.val 0 ≤ j.val := by decide +kernel
  exact this ⟨k, hk⟩ ⟨j, hj⟩
theorem lch_c {k j : Nat} (hk : k < 8) (hj : j < zLen.getD k 0) : (((zWd.getD k 0 >>> ((nI (7 * j)).toInt64 &&& 63) &&& 127).toInt32).toUInt32 % 65536).toInt32 = (zByt.getD k []).getD j 0 := by
  have h7 := zlen7 hk
  have : ∀ (k : Fin 8) (j : Fin 7), j.val < zLen.getD k.val 0 → (((zWd.getD k.val 0 >>> ((nI (7 * j.val)).toInt64 &&& 63) &&& 127).toInt32).toUInt32 % 65536).toInt32 = (zByt.getD k.val []).getD j.val 0 := by decide +kernel
  exact this ⟨k, hk⟩ ⟨j, by omega⟩ hj
theorem lnT_pre {k i : Nat} {f : Nat → Int32} (j : Nat) (h : i < (lnT k f j).length) : ∀ n : Nat, (lnT k f (j + n)).getD i 0 = (lnT k f j).getD i 0 ∧ i < (lnT k f (j + n)).length
  | 0 => ⟨rfl, h⟩
  | n + 1 => by
    obtain ⟨h1, h2⟩ := lnT_pre j h n
    have e : lnT k f (j + (n + 1)) = lnT k f (j + n) ++ lnO (j + n) (f (j + n)) := rfl
    rw [e, ← h1]
    refine ⟨?_, by rw [List.length_append]; omega⟩
    simp only [List.getD_eq_getElem?_getD, List.getElem?_append_left h2]
theorem lnT_0 {k i : Nat} {f : Nat → Int32} (hk : k < 8) (h : i < zLen.getD k 0) : (lnT k f 4).getD i 0 = (zByt.getD k []).getD i 0 := by
  rw [← zlen_ok hk] at h
  exact (lnT_pre (f := f) 0 h 4).1
/-- the letter at a place of a line, a blank where j options don't reach it -/
def fnd (k : Nat) (f : Nat → Int32) (i j : Nat) : Int32 := if i < (lnT k f j).length then (lnT k f j).getD i 0 else 32
theorem fnd_0 {k i : Nat} {f : Nat → Int32} (hk : k < 8) (h : zLen.getD k 0 ≤ i) : fnd k f i 0 = 32 := if_neg (by
  show ¬ i < (zByt.getD k []).length
  rw [zlen_ok hk]; omega)
theorem fnd_4 {k i : Nat} {f : Nat → Int32} (h : i < (lnT k f 4).length) : fnd k f i 4 = (lnT k f 4).getD i 0 := if_pos h
theorem fnd_n {k i j : Nat} {f : Nat → Int32} (h : f j = -1) : fnd k f i (j + 1) = fnd k f i j := by unfold fnd; rw [lnT_n h]
theorem fnd_lt {k i j : Nat} {f : Nat → Int32} (h : i < (lnT k f j).length) : fnd k f i (j + 1) = fnd k f i j := by
  obtain ⟨h1, h2⟩ := lnT_pre (f := f) j h 1
  unfold fnd
  rw [if_pos h2, if_pos h, h1]
theorem fnd_ge {k i j v : Nat} {f : Nat → Int32} (hv : v ≤ 100) (h : f j = nI v) (h2 : 2 + (lnD v).length ≤ i - (lnT k f j).length) : fnd k f i (j + 1) = fnd k f i j := by
  unfold fnd
  rw [lnT_v hv h, if_neg (by simp only [List.length_append, List.length_cons]; omega), if_neg (by omega)]
theorem fnd_in {k i j v : Nat} {f : Nat → Int32} (hv : v ≤ 100) (h : f j = nI v) (h1 : (lnT k f j).length ≤ i) (h2 : i - (lnT k f j).length < 2 + (lnD v).length) : fnd k f i (j + 1) = (32 :: nI (97 + j) :: lnD v).getD (i - (lnT k f j).length) 0 := by
  unfold fnd
  rw [lnT_v hv h, if_pos (by simp only [List.length_append, List.length_cons]; omega)]
  simp only [List.getD_eq_getElem?_getD, List.getElem?_append_right h1]
theorem fnd_in0 {k i j v : Nat} {f : Nat → Int32} (hv : v ≤ 100) (h : f j = nI v) (h1 : (lnT k f j).length ≤ i) (h2 : i - (lnT k f j).length < 2 + (lnD v).length) (h3 : i - (lnT k f j).length = 0) : fnd k f i (j + 1) = 32 := by
  rw [fnd_in hv h h1 h2, h3]; rfl
theorem fnd_in1 {k i j v : Nat} {f : Nat → Int32} (hv : v ≤ 100) (h : f j = nI v) (h1 : (lnT k f j).length ≤ i) (h2 : i - (lnT k f j).length < 2 + (lnD v).length) (h3 : i - (lnT k f j).length = 1) : fnd k f i (j + 1) = nI (97 + j) := by
  rw [fnd_in hv h h1 h2, h3]; rfl
theorem fnd_in2 {k i j v : Nat} {f : Nat → Int32} (hv : v ≤ 100) (h : f j = nI v) (h1 : (lnT k f j).length ≤ i) (h2 : i - (lnT k f j).length < 2 + (lnD v).length) (h3 : ¬ i - (lnT k f j).length = 0) (h4 : ¬ i - (lnT k f j).length = 1) : fnd k f i (j + 1) = (lnD v).getD (i - (lnT k f j).length - 2) 0 := by
  rw [fnd_in hv h h1 h2]
  obtain ⟨q, hq⟩ : ∃ q, i - (lnT k f j).length = q + 2 := ⟨i - (lnT k f j).length - 2, by omega⟩
  rw [hq]; rfl
theorem sub_lt0 {a b : Nat} (ha : a < 2 ^ 30) (hb : b < 2 ^ 30) : nI a - nI b < 0 ↔ a < b := by
  rw [Int32.lt_iff_toInt_lt, pk_sub_toInt ha hb, show (0 : Int32).toInt = 0 by decide]
  omega
theorem lft_n {k i j : Nat} {f : Nat → Int32} (h : f j = -1) : nI i - nI (lnT k f (j + 1)).length = nI i - nI (lnT k f j).length - 0 := by
  rw [lnT_n h, Int32.sub_zero]
theorem lft_v {k i j v : Nat} {f : Nat → Int32} (hv : v ≤ 100) (h : f j = nI v) : nI i - nI (lnT k f (j + 1)).length = nI i - nI (lnT k f j).length - nI (2 + (lnD v).length) := by
  rw [lnT_v hv h, Int32.sub_sub, z_add]
  congr 2
  simp only [List.length_append, List.length_cons]; omega
theorem chr7 {q : Int32} (h0 : ¬ q < 0) (h1 : q ≤ 127) : (q.toUInt32 % 65536).toInt32 = q := by
  obtain ⟨j, hj, rfl⟩ := nI_of2 (M := 127) (n := 127) (by decide) h0 h1
  have : ∀ j : Fin 128, ((nI j.val).toUInt32 % 65536).toInt32 = nI j.val := by decide +kernel
  exact this ⟨j, by omega⟩
theorem inr_L {k n : Nat} (h : k < n) (hn : n < 2 ^ 30) : inr (nI k) 0 (nI n - 1) := by
  rw [nI_sub1 (by omega)]
  refine ⟨nI_nn (by omega), ?_⟩
  rw [nI_ltI (by omega) (by omega)]
  omega
theorem len34 {k : Nat} {f : Nat → Int32} (hk : k < 8) {j : Nat} (hj : j ≤ 4) : (lnT k f j).length ≤ 27 := by
  have h := lnT_le (f := f) hk j
  omega
