/-! what the Statement gives at the law's entry -/
def zFl : List Cond := flatC (Jvm.Cond.and given_1 narrow_1)
theorem zFl_b {args : Array Value} {s : State} (h : (Jvm.Cond.and given_1 narrow_1).before args s = true) : ∀ w ∈ zFl, w.before args s = true := flat_of_before _ h
def zIx : List Nat := [294, 281, 283, 285, 287, 289, 291, 293]
abbrev zTm (i : Nat) : Term := .string "OptionWire" (zIx.getD i 0)
abbrev zTf (i : Nat) : Term := .field (zTm i) "java/lang/String" "value" "[B"
theorem zf_nv (j : Nat) (hj : j < 4) : Cond.eq (.elem (.static "OptionWire" "NO_VALUES" "[I") (.int (Int32.ofNat j))) (.int (-1)) ∈ zFl := by
  have h : ∀ j : Fin 4, Cond.eq (.elem (.static "OptionWire" "NO_VALUES" "[I") (.int (Int32.ofNat j.val))) (.int (-1)) ∈ zFl := by decide +kernel
  exact h ⟨j, hj⟩
theorem zf_do (j : Nat) (hj : j < 100) : Cond.eq (.elem (.static "java/lang/Integer" "DigitOnes" "[B") (.int (Int32.ofNat j))) (.int (nI (48 + j % 10))) ∈ zFl := by
  have h : ∀ j : Fin 100, zFl[21 + j.val]? = some (Cond.eq (.elem (.static "java/lang/Integer" "DigitOnes" "[B") (.int (Int32.ofNat j.val))) (.int (nI (48 + j.val % 10)))) := by decide +kernel
  exact List.mem_of_getElem? (h ⟨j, hj⟩)
theorem zf_dt (j : Nat) (hj : j < 100) : Cond.eq (.elem (.static "java/lang/Integer" "DigitTens" "[B") (.int (Int32.ofNat j))) (.int (nI (48 + j / 10))) ∈ zFl := by
  have h : ∀ j : Fin 100, zFl[124 + j.val]? = some (Cond.eq (.elem (.static "java/lang/Integer" "DigitTens" "[B") (.int (Int32.ofNat j.val))) (.int (nI (48 + j.val / 10)))) := by decide +kernel
  exact List.mem_of_getElem? (h ⟨j, hj⟩)
theorem zf_ex (i : Nat) (hi : i < 8) : Cond.exactly (zTm i) "java/lang/String" ∈ zFl := by
  have h : ∀ i : Fin 8, Cond.exactly (zTm i.val) "java/lang/String" ∈ zFl := by decide +kernel
  exact h ⟨i, hi⟩
theorem zf_co (i : Nat) (hi : i < 8) : Cond.eq (.field (zTm i) "java/lang/String" "coder" "B") (.int 0) ∈ zFl := by
  have h : ∀ i : Fin 8, Cond.eq (.field (zTm i.val) "java/lang/String" "coder" "B") (.int 0) ∈ zFl := by decide +kernel
  exact h ⟨i, hi⟩
theorem zf_ar (i : Nat) (hi : i < 8) : Cond.arrayOf (zTf i) .byte ∈ zFl := by
  have h : ∀ i : Fin 8, Cond.arrayOf (zTf i.val) .byte ∈ zFl := by decide +kernel
  exact h ⟨i, hi⟩
theorem zf_le (i : Nat) (hi : i < 8) : Cond.eq (.length (zTf i)) (.int (Int32.ofNat (zLen.getD i 0))) ∈ zFl := by
  have h : ∀ i : Fin 8, Cond.eq (.length (zTf i.val)) (.int (Int32.ofNat (zLen.getD i.val 0))) ∈ zFl := by decide +kernel
  exact h ⟨i, hi⟩
theorem z_sl {st n : Nat} {f : Nat → Cond} (h : (zFl.drop st).take n = (List.range n).map f) {j : Nat} (hj : j < n) : f j ∈ zFl := by
  have h1 : f j ∈ (zFl.drop st).take n := by
    rw [h]
    exact List.mem_map.mpr ⟨j, List.mem_range.mpr hj, rfl⟩
  exact List.mem_of_mem_drop (List.mem_of_mem_take h1)
theorem zf_el0 : (zFl.drop 648).take 6 = (List.range 6).map (fun j => Cond.eq (.elem (zTf 0) (.int (Int32.ofNat j))) (.int ((zByt.getD 0 []).getD j 0))) := by decide +kernel
theorem zf_el1 : (zFl.drop 503).take 6 = (List.range 6).map (fun j => Cond.eq (.elem (zTf 1) (.int (Int32.ofNat j))) (.int ((zByt.getD 1 []).getD j 0))) := by decide +kernel
theorem zf_el2 : (zFl.drop 521).take 5 = (List.range 5).map (fun j => Cond.eq (.elem (zTf 2) (.int (Int32.ofNat j))) (.int ((zByt.getD 2 []).getD j 0))) := by decide +kernel
theorem zf_el3 : (zFl.drop 539).take 4 = (List.range 4).map (fun j => Cond.eq (.elem (zTf 3) (.int (Int32.ofNat j))) (.int ((zByt.getD 3 []).getD j 0))) := by decide +kernel
theorem zf_el4 : (zFl.drop 557).take 6 = (List.range 6).map (fun j => Cond.eq (.elem (zTf 4) (.int (Int32.ofNat j))) (.int ((zByt.getD 4 []).getD j 0))) := by decide +kernel
theorem zf_el5 : (zFl.drop 578).take 7 = (List.range 7).map (fun j => Cond.eq (.elem (zTf 5) (.int (Int32.ofNat j))) (.int ((zByt.getD 5 []).getD j 0))) := by decide +kernel
theorem zf_el6 : (zFl.drop 601).take 6 = (List.range 6).map (fun j => Cond.eq (.elem (zTf 6) (.int (Int32.ofNat j))) (.int ((zByt.getD 6 []).getD j 0))) := by decide +kernel
theorem zf_el7 : (zFl.drop 624).take 6 = (List.range 6).map (fun j => Cond.eq (.elem (zTf 7) (.int (Int32.ofNat j))) (.int ((zByt.getD 7 []).getD j 0))) := by decide +kernel
theorem zf_el (i : Nat) (hi : i < 8) (j : Nat) (hj : j < zLen.getD i 0) : Cond.eq (.elem (zTf i) (.int (Int32.ofNat j))) (.int ((zByt.getD i []).getD j 0)) ∈ zFl := by
  match i, hi with
  | 0, _ => exact z_sl zf_el0 hj
  | 1, _ => exact z_sl zf_el1 hj
  | 2, _ => exact z_sl zf_el2 hj
  | 3, _ => exact z_sl zf_el3 hj
  | 4, _ => exact z_sl zf_el4 hj
  | 5, _ => exact z_sl zf_el5 hj
  | 6, _ => exact z_sl zf_el6 hj
  | 7, _ => exact z_sl zf_el7 hj
  | _ + 8, h => exact absurd h (by omega)
def zPs : List Nat := [0, 662, 663, 664, 665, 666, 667, 668, 662, 0, 534, 551, 571, 593, 615, 638, 663, 534, 0, 552, 572, 594, 616, 639, 664, 551, 552, 0, 573, 595, 617, 640, 665, 571, 572, 573, 0, 596, 618, 641, 666, 593, 594, 595, 596, 0, 619, 642, 667, 615, 616, 617, 618, 619, 0, 643, 668, 638, 639, 640, 641, 642, 643, 0]
theorem zf_ne0 : ∀ j : Fin 8, 0 ≠ j.val → zFl[zPs.getD (0 + j.val) 0]? = some (Cond.not (Cond.eq (zTm 0) (zTm j.val))) ∨ zFl[zPs.getD (0 + j.val) 0]? = some (Cond.not (Cond.eq (zTm j.val) (zTm 0))) := by decide +kernel
theorem zf_ne1 : ∀ j : Fin 8, 1 ≠ j.val → zFl[zPs.getD (8 + j.val) 0]? = some (Cond.not (Cond.eq (zTm 1) (zTm j.val))) ∨ zFl[zPs.getD (8 + j.val) 0]? = some (Cond.not (Cond.eq (zTm j.val) (zTm 1))) := by decide +kernel
theorem zf_ne2 : ∀ j : Fin 8, 2 ≠ j.val → zFl[zPs.getD (16 + j.val) 0]? = some (Cond.not (Cond.eq (zTm 2) (zTm j.val))) ∨ zFl[zPs.getD (16 + j.val) 0]? = some (Cond.not (Cond.eq (zTm j.val) (zTm 2))) := by decide +kernel
theorem zf_ne3 : ∀ j : Fin 8, 3 ≠ j.val → zFl[zPs.getD (24 + j.val) 0]? = some (Cond.not (Cond.eq (zTm 3) (zTm j.val))) ∨ zFl[zPs.getD (24 + j.val) 0]? = some (Cond.not (Cond.eq (zTm j.val) (zTm 3))) := by decide +kernel
theorem zf_ne4 : ∀ j : Fin 8, 4 ≠ j.val → zFl[zPs.getD (32 + j.val) 0]? = some (Cond.not (Cond.eq (zTm 4) (zTm j.val))) ∨ zFl[zPs.getD (32 + j.val) 0]? = some (Cond.not (Cond.eq (zTm j.val) (zTm 4))) := by decide +kernel
theorem zf_ne5 : ∀ j : Fin 8, 5 ≠ j.val → zFl[zPs.getD (40 + j.val) 0]? = some (Cond.not (Cond.eq (zTm 5) (zTm j.val))) ∨ zFl[zPs.getD (40 + j.val) 0]? = some (Cond.not (Cond.eq (zTm j.val) (zTm 5))) := by decide +kernel
theorem zf_ne6 : ∀ j : Fin 8, 6 ≠ j.val → zFl[zPs.getD (48 + j.val) 0]? = some (Cond.not (Cond.eq (zTm 6) (zTm j.val))) ∨ zFl[zPs.getD (48 + j.val) 0]? = some (Cond.not (Cond.eq (zTm j.val) (zTm 6))) := by decide +kernel
theorem zf_ne7 : ∀ j : Fin 8, 7 ≠ j.val → zFl[zPs.getD (56 + j.val) 0]? = some (Cond.not (Cond.eq (zTm 7) (zTm j.val))) ∨ zFl[zPs.getD (56 + j.val) 0]? = some (Cond.not (Cond.eq (zTm j.val) (zTm 7))) := by decide +kernel
theorem zf_ne (i j : Nat) (hi : i < 8) (hj : j < 8) (hne : i ≠ j) : Cond.not (Cond.eq (zTm i) (zTm j)) ∈ zFl ∨ Cond.not (Cond.eq (zTm j) (zTm i)) ∈ zFl := by
  match i, hi with
  | 0, _ => exact (zf_ne0 ⟨j, hj⟩ hne).elim (fun h => Or.inl (List.mem_of_getElem? h)) (fun h => Or.inr (List.mem_of_getElem? h))
  | 1, _ => exact (zf_ne1 ⟨j, hj⟩ hne).elim (fun h => Or.inl (List.mem_of_getElem? h)) (fun h => Or.inr (List.mem_of_getElem? h))
  | 2, _ => exact (zf_ne2 ⟨j, hj⟩ hne).elim (fun h => Or.inl (List.mem_of_getElem? h)) (fun h => Or.inr (List.mem_of_getElem? h))
  | 3, _ => exact (zf_ne3 ⟨j, hj⟩ hne).elim (fun h => Or.inl (List.mem_of_getElem? h)) (fun h => Or.inr (List.mem_of_getElem? h))
  | 4, _ => exact (zf_ne4 ⟨j, hj⟩ hne).elim (fun h => Or.inl (List.mem_of_getElem? h)) (fun h => Or.inr (List.mem_of_getElem? h))
  | 5, _ => exact (zf_ne5 ⟨j, hj⟩ hne).elim (fun h => Or.inl (List.mem_of_getElem? h)) (fun h => Or.inr (List.mem_of_getElem? h))
  | 6, _ => exact (zf_ne6 ⟨j, hj⟩ hne).elim (fun h => Or.inl (List.mem_of_getElem? h)) (fun h => Or.inr (List.mem_of_getElem? h))
  | 7, _ => exact (zf_ne7 ⟨j, hj⟩ hne).elim (fun h => Or.inl (List.mem_of_getElem? h)) (fun h => Or.inr (List.mem_of_getElem? h))
  | _ + 8, h => exact absurd h (by omega)
def zVm (L : List Nat) (adK adV : Nat → Nat) : Nat → Nat := fun n => if n < 20 then L.getD n 0 else if n < 40 then adK (n - 20) else adV (n - 40)
theorem zVm_K {L : List Nat} {adK adV : Nat → Nat} {i : Nat} (hi : i < 8) : zVm L adK adV (20 + i) = adK i := by
  unfold zVm
  rw [if_neg (by omega), if_pos (by omega)]
  congr 1; omega
theorem zVm_V {L : List Nat} {adK adV : Nat → Nat} {i : Nat} (hi : i < 8) : zVm L adK adV (40 + i) = adV i := by
  unfold zVm
  rw [if_neg (by omega), if_neg (by omega)]
  congr 1; omega
