def taF (k : Int32) (lo hi w g : Nat → Int32) : Nat → Int32 := if k = 2 then ctr lo hi w g else rfl4 w g
theorem taF_n {k : Int32} {lo hi w g : Nat → Int32} {j : Nat} (h : w j = -1) : taF k lo hi w g j = g j := by
  unfold taF ctr rfl4
  by_cases hk : k = 2
  · rw [if_pos hk]; exact if_pos h
  · rw [if_neg hk]; exact if_pos h
theorem taF_y {k : Int32} {lo hi w g : Nat → Int32} {j : Nat} (h : ¬ w j = -1) (hs : k = 2 ∧ inr (w j) (lo j) (hi j)) : taF k lo hi w g j = w j := by
  unfold taF ctr
  rw [if_pos hs.1]
  show (if w j = -1 then g j else if ¬ w j < lo j ∧ ¬ hi j < w j then w j else -1) = w j
  rw [if_neg h, if_pos hs.2]
theorem taF_o {k : Int32} {lo hi w g : Nat → Int32} {j : Nat} (h : ¬ w j = -1) (hs : ¬ (k = 2 ∧ inr (w j) (lo j) (hi j))) : taF k lo hi w g j = -1 := by
  unfold taF ctr rfl4
  by_cases hk : k = 2
  · rw [if_pos hk]
    show (if w j = -1 then g j else if ¬ w j < lo j ∧ ¬ hi j < w j then w j else -1) = -1
    rw [if_neg h, if_neg (fun q => hs ⟨hk, q⟩)]
  · rw [if_neg hk]; exact if_neg h
theorem bI_n {P : Prop} [Decidable P] (h : ¬ bI P = 0) : P := by
  by_cases hP : P
  · exact hP
  · exact absurd (by simp [bI, hP]) h
theorem bI_z {P : Prop} [Decidable P] (h : bI P = 0) : ¬ P := by
  intro hP
  rw [show bI P = 1 by simp [bI, hP]] at h
  exact absurd h (by decide)
theorem bI_t {P : Prop} [Decidable P] (h : P) : bI P = 1 := by simp [bI, h]
theorem bI_f {P : Prop} [Decidable P] (h : ¬ P) : bI P = 0 := by simp [bI, h]
theorem ha_t {lo k : Int32} {w v : Nat → Int32} {d : Nat → Nat → Int32} {QX QY : Qt} {se : Int32} (hk : ¬ k = 1) (hs : v 0 = 1 ∨ v 0 = 3) :
    ha lo k w v d QX QY se = ((rq lo v (taF k (d 1) (d 2) w (d 6)) QX QY se).1, va_up d 6 (taF k (d 1) (d 2) w (d 6)), (rq lo v (taF k (d 1) (d 2) w (d 6)) QX QY se).2) := by
  unfold ha taF
  rw [if_neg hk, if_pos hs]
  by_cases h2 : k = 2
  · rw [if_pos h2, if_pos h2]
  · rw [if_neg h2, if_neg h2]
/-- an answer, if its number is the latest request's -/
abbrev haN (lo k nb : Int32) (w v : Nat → Int32) (d : Nat → Nat → Int32) (QX QY : Qt) (se : Int32) : (Nat → Int32) × (Nat → Nat → Int32) × (Qt × Qt) × Int32 := if nb = v 2 then ha lo k w v d QX QY se else (v, d, (QX, QY), se)
theorem haN_no {lo k nb : Int32} {w v : Nat → Int32} {d : Nat → Nat → Int32} {QX QY : Qt} {se : Int32} (h : ¬ (nb = v 2 ∧ (v 0 = 1 ∨ v 0 = 3))) : haN lo k nb w v d QX QY se = (v, d, (QX, QY), se) := by
  unfold haN
  by_cases h1 : nb = v 2
  · rw [if_pos h1]
    have h2 : ¬ (v 0 = 1 ∨ v 0 = 3) := fun q => h ⟨h1, q⟩
    unfold ha
    by_cases hk : k = 1
    · rw [if_pos hk]
      have h3 : ¬ v 0 = 1 := fun q => h2 (Or.inl q)
      have h4 : ¬ v 0 = 3 := fun q => h2 (Or.inr q)
      unfold yeV
      rw [if_neg h3, if_neg h4]
    · rw [if_neg hk, if_neg h2]
  · rw [if_neg h1]
theorem haN_y {lo k nb : Int32} {w v : Nat → Int32} {d : Nat → Nat → Int32} {QX QY : Qt} {se : Int32} (h1 : nb = v 2) (hk : k = 1) : haN lo k nb w v d QX QY se = (yeV v, d, (QX, QY), se) := by
  unfold haN
  rw [if_pos h1]
  unfold ha
  rw [if_pos hk]
theorem haN_t {lo k nb : Int32} {w v : Nat → Int32} {d : Nat → Nat → Int32} {QX QY : Qt} {se : Int32} (h1 : nb = v 2) (hk : ¬ k = 1) (hs : v 0 = 1 ∨ v 0 = 3) :
    haN lo k nb w v d QX QY se = ((rq lo v (taF k (d 1) (d 2) w (d 6)) QX QY se).1, va_up d 6 (taF k (d 1) (d 2) w (d 6)), (rq lo v (taF k (d 1) (d 2) w (d 6)) QX QY se).2) := by
  unfold haN
  rw [if_pos h1, ha_t hk hs]
theorem inr_ix {ix : Nat} (h : ix ≤ 1) : inr (nI ix) 0 1 := by
  rcases (show ix = 0 ∨ ix = 1 by omega) with rfl | rfl <;> decide
theorem inr_k {k : Nat} (h : k < 4) : inr (nI k) 0 3 := by
  rcases (show k = 0 ∨ k = 1 ∨ k = 2 ∨ k = 3 by omega) with rfl | rfl | rfl | rfl <;> decide
theorem w3_le {x : Int32} (h : x = 1 ∨ x = 2 ∨ x = 3) : (x - 1 ≤ 0) ↔ x - 1 = 0 := by
  rcases h with rfl | rfl | rfl <;> decide
theorem push_12 {p : Nat → Int32} {Q : Qt} (h : Q.1 ≤ 12) : (push p Q).1 ≤ 12 := by
  unfold push
  by_cases h1 : Q.1 < 12
  · rw [if_pos h1]; show Q.1 + 1 ≤ 12; omega
  · rw [if_neg h1]; exact h
theorem sq_12 {lo : Int32} {p : Nat → Int32} {QX QY : Qt} (hx : QX.1 ≤ 12) (hy : QY.1 ≤ 12) : (sq lo p QX QY).1.1 ≤ 12 ∧ (sq lo p QX QY).2.1 ≤ 12 := by
  unfold sq
  by_cases h : lo = 0
  · rw [if_pos h]; exact ⟨hx, push_12 hy⟩
  · rw [if_neg h]; exact ⟨push_12 hx, hy⟩
theorem rq_12 {lo : Int32} {v f : Nat → Int32} {QX QY : Qt} {se : Int32} (hx : QX.1 ≤ 12) (hy : QY.1 ≤ 12) : (rq lo v f QX QY se).2.1.1.1 ≤ 12 ∧ (rq lo v f QX QY se).2.1.2.1 ≤ 12 := by
  unfold rq
  by_cases h : v 3 = 0
  · rw [if_pos h]; exact ⟨hx, hy⟩
  · rw [if_neg h]; exact sq_12 hx hy
theorem hr1_12 {lo : Int32} {v : Nat → Int32} {d : Nat → Nat → Int32} {QX QY : Qt} {se : Int32} (hx : QX.1 ≤ 12) (hy : QY.1 ≤ 12) : (hr1 lo v d QX QY se).2.1.1.1 ≤ 12 ∧ (hr1 lo v d QX QY se).2.1.2.1 ≤ 12 := by
  unfold hr1
  by_cases h : v 0 = 4
  · rw [if_pos h]; exact rq_12 hx hy
  · rw [if_neg h]; exact ⟨hx, hy⟩
theorem upd_uu {f : Nat → Int32} {k : Nat} {a b : Int32} : upd (upd f k a) k b = upd f k b := by
  funext j
  by_cases h : j = k <;> simp [upd, h]
theorem nar01 {x : Int32} (h : x = 0 ∨ x = 1) : vp_nar .boolean x = x := by rcases h with rfl | rfl <;> rfl
theorem narz {x : Int32} (h : x = 0 ∨ x = 1) : narrow .boolean (.int x) = .int x := by rcases h with rfl | rfl <;> rfl
section ZB
variable {p : Program} {l : Launch} {e : Env} {R : Room} {s : State} {m : MethodId} {args : Array Value} {below : List Frame} {meth : Method} {c : Code} {H : Heap} {locs : List Loc} {cells slots : Nat} {Q : State → Prop} {cc : ByteArray} {pc : Nat} {ls : Array Slot} {rest st : List Value} {D : va_G} {cl : List vw_C} {A : Nat → Prop} {a : Nat} {tys : List (ClassId × FieldType)} {ws : va_W} {H0 : Heap}
theorem z_zast {k n : Nat} {cA : ClassId} {f : Nat → Int32} {x x' i : Int32} (hexec : p.tables.exec = Jvm.exec) (hb : c.code = cc) (hK : va_K D cl tys s) (hP : va_P D cl ws H) (hD : va_D A ws) (hS : va_S A H0 H locs) (q0 t0 : Nat) (ha : ws[q0]? = some (a, .inl (cA, n, .inl f))) (ht : tys[t0]? = some (cA, .boolean)) (hi : i = nI k) (hk : k < n) (hn : n < 2 ^ 31) (hv : vp_nar .boolean x = x') (hdg : decode cc pc = .ok (.bastore, 1))
    (kk : ∀ (H1 : Heap) (locs1 : List Loc), va_P D cl (ws.set q0 (a, .inl (cA, n, .inl (upd f k x')))) H1 → va_D A (ws.set q0 (a, .inl (cA, n, .inl (upd f k x')))) → va_S A H0 H1 locs1 → W p l e R s m args below meth c H1 locs1 cells slots Q (F0 m (pc + 1) ls rest)) : W p l e R s m args below meth c H locs cells slots Q (F0 m pc ls (.int x :: .int i :: .ref a :: rest)) := by
  subst hi; subst hv
  refine va_zast hexec hb hK hP hD hS q0 t0 ha ht (vp_in_nI hk hn) hdg ?_
  rw [nI_clamp (Nat.lt_trans hk hn)]; exact kk
theorem z_bast {k n : Nat} {cA : ClassId} {f : Nat → Int32} {x x' i : Int32} (hexec : p.tables.exec = Jvm.exec) (hb : c.code = cc) (hK : va_K D cl tys s) (hP : va_P D cl ws H) (hD : va_D A ws) (hS : va_S A H0 H locs) (q0 t0 : Nat) (ha : ws[q0]? = some (a, .inl (cA, n, .inl f))) (ht : tys[t0]? = some (cA, .byte)) (hi : i = nI k) (hk : k < n) (hn : n < 2 ^ 31) (hv : vp_nar .byte x = x') (hdg : decode cc pc = .ok (.bastore, 1))
    (kk : ∀ (H1 : Heap) (locs1 : List Loc), va_P D cl (ws.set q0 (a, .inl (cA, n, .inl (upd f k x')))) H1 → va_D A (ws.set q0 (a, .inl (cA, n, .inl (upd f k x')))) → va_S A H0 H1 locs1 → W p l e R s m args below meth c H1 locs1 cells slots Q (F0 m (pc + 1) ls rest)) : W p l e R s m args below meth c H locs cells slots Q (F0 m pc ls (.int x :: .int i :: .ref a :: rest)) := by
  subst hi; subst hv
  refine va_bast hexec hb hK hP hD hS q0 t0 ha ht (vp_in_nI hk hn) hdg ?_
  rw [nI_clamp (Nat.lt_trans hk hn)]; exact kk
end ZB
theorem upd_u3 {f : Nat → Int32} {a b c : Int32} : upd (upd f 6 b) 4 c = upd (upd (upd f 4 a) 6 b) 4 c := by
  funext j
  by_cases h : j = 4
  · simp [upd, h]
  · by_cases h2 : j = 6 <;> simp [upd, h, h2]
theorem t2_01 {a b : Int32} : t2 0 a b = t2 1 b a := t2_sw (ix := 0) (by decide)
theorem bk_01 {n : Nat} {f g : Nat → Int32} : bk n 0 f g = bk n 1 g f := bk_sw (ix := 0) (by decide)
theorem t2_10 {a b : Int32} : t2 1 a b = t2 0 b a := t2_sw (ix := 1) (by decide)
theorem bk_10 {n : Nat} {f g : Nat → Int32} : bk n 1 f g = bk n 0 g f := bk_sw (ix := 1) (by decide)
/-- a tick less, of an end that waits -/
abbrev wtI (lo : Int32) (v f : Nat → Int32) (QX QY : Qt) (se : Int32) : (Nat → Int32) × (Qt × Qt) × Int32 := if v 4 - 1 = 0 then stw lo (upd v 4 (v 4 - 1)) f QX QY se else (upd v 4 (v 4 - 1), (QX, QY), se)
theorem wt_y {lo : Int32} {v f : Nat → Int32} {QX QY : Qt} {se : Int32} (h1 : ¬ sSh (v 0)) (h2 : ¬ v 0 = 4) : wt lo v f QX QY se = wtI lo v f QX QY se := if_pos ⟨h1, h2⟩
theorem wt_n1 {lo : Int32} {v f : Nat → Int32} {QX QY : Qt} {se : Int32} (h1 : sSh (v 0)) : wt lo v f QX QY se = (v, (QX, QY), se) := if_neg (fun q => q.1 h1)
theorem wt_n2 {lo : Int32} {v f : Nat → Int32} {QX QY : Qt} {se : Int32} (h1 : v 0 = 4) : wt lo v f QX QY se = (v, (QX, QY), se) := if_neg (fun q => q.2 h1)
theorem stw_12 {lo : Int32} {v f : Nat → Int32} {QX QY : Qt} {se : Int32} (hx : QX.1 ≤ 12) (hy : QY.1 ≤ 12) : (stw lo v f QX QY se).2.1.1.1 ≤ 12 ∧ (stw lo v f QX QY se).2.1.2.1 ≤ 12 := by
  unfold stw
  by_cases h : v 0 = 5
  · rw [if_pos h]
    by_cases h1 : 3 ≤ v 6
    · rw [if_pos h1]; exact ⟨hx, hy⟩
    · rw [if_neg h1]; exact sq_12 hx hy
  · rw [if_neg h]
    by_cases h1 : v 0 = 2
    · rw [if_pos h1]; exact rq_12 hx hy
    · rw [if_neg h1]; exact rq_12 hx hy
theorem wt_12 {lo : Int32} {v f : Nat → Int32} {QX QY : Qt} {se : Int32} (hx : QX.1 ≤ 12) (hy : QY.1 ≤ 12) : (wt lo v f QX QY se).2.1.1.1 ≤ 12 ∧ (wt lo v f QX QY se).2.1.2.1 ≤ 12 := by
  unfold wt
  by_cases h : sWt (v 0)
  · rw [if_pos h]
    by_cases h1 : v 4 - 1 = 0
    · rw [if_pos h1]; exact stw_12 hx hy
    · rw [if_neg h1]; exact ⟨hx, hy⟩
  · rw [if_neg h]; exact ⟨hx, hy⟩
theorem inr_pl {k n : Nat} (h : k < n) (hn : n ≤ 12) : inr (nI k) 0 (nI n - 1) := by
  rw [nI_sub1 (by omega)]
  refine ⟨?_, ?_⟩
  · have : ¬ nI k < nI 0 := nI_nlt (Nat.zero_le _) (by omega)
    exact this
  · exact nI_nlt (by omega) (by omega)
