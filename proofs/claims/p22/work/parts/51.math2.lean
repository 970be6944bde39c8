/-! what each doing of the class makes of INV -/
theorem okv_ctr {lo hi f g : Nat → Int32} {j : Nat} (hb : ¬ lo j < 0 ∧ ¬ 100 < hi j) (hg : okv (g j)) : okv (ctr lo hi f g j) := by
  unfold ctr
  split
  · exact hg
  · split
    · rename_i h
      have h0 : ¬ f j < 0 := by
        have := h.1; have := hb.1
        simp only [Int32.lt_iff_toInt_lt] at *; omega
      have h1 : f j ≤ 100 := by
        have := h.2; have := hb.2
        simp only [Int32.lt_iff_toInt_lt, Int32.le_iff_toInt_le] at *; omega
      obtain ⟨v, hv, e⟩ := nI_of2 (M := 100) (n := 100) (by decide) h0 h1
      exact Or.inr ⟨v, by omega, e⟩
    · exact Or.inl rfl
theorem okv_rfl4 {f g : Nat → Int32} {j : Nat} (hg : okv (g j)) : okv (rfl4 f g j) := by
  unfold rfl4
  split
  · exact hg
  · exact Or.inl rfl
section MT
variable {g q s n t s' n' t' : Nat} {xv yv : Nat → Int32} {xd yd : Nat → Nat → Int32} {QX QY : Qt} {se : Int32}
theorem eV_7 {v : Nat → Int32} (h : eV s n t v) : s ≤ 7 := h.2.2.2.1
theorem sUp_N : ∀ {s : Nat}, s ≤ 7 → (sUp (nI s) ↔ upN s) := by
  intro s h
  have : ∀ j : Fin 8, sUp (nI j.val) ↔ upN j.val := by decide +kernel
  exact this ⟨s, by omega⟩
theorem eV_up {v : Nat → Int32} (h : eV s n t v) : sUp (v 0) ↔ upN s := by
  rw [h.1]
  exact sUp_N h.2.2.2.1
theorem eV_is {v : Nat → Int32} (h : eV s n t v) {k : Nat} (hk : k ≤ 7) : v 0 = nI k ↔ s = k := by
  rw [h.1]
  have := h.2.2.2.1
  exact nI_eq (by omega) (by omega)
theorem INV_v {v1 : Nat → Int32} (h : INV g q s n t xv xd QX s' n' t' yv yd QY) (hv : eV s n t v1) : INV g q s n t v1 xd QX s' n' t' yv yd QY := ⟨⟨hv, h.1.2⟩, h.2⟩
theorem rq_0 {lo : Int32} {v f : Nat → Int32} (h : eV s n t v) (h0 : t = 0) : rq lo v f QX QY se = (upd v 0 6, (QX, QY), se) := by
  unfold rq
  rw [if_pos (by rw [h.2.2.1, h0]; rfl)]
theorem rq_1 {lo : Int32} {v f : Nat → Int32} (h : eV s n t v) (h0 : 0 < t) : rq lo v f QX QY se = (upd (upd (upd v 3 (nI (t - 1))) 2 (nI (n + 1))) 4 3, sq lo (pk 0 (nI (n + 1)) (v 1) f) QX QY, se + 1) := by
  have ht := h.2.2.2.2.1
  unfold rq
  rw [if_neg (by rw [h.2.2.1]; exact nI_ne (b := 0) (by omega) (by omega) (by decide)), h.2.2.1, h.2.1, nI_sub1 h0, nI_1]
theorem eV_rq {v : Nat → Int32} (h : eV s n t v) (h4 : ¬ s = 4) : eV s (n + 1) (t - 1) (upd (upd (upd v 3 (nI (t - 1))) 2 (nI (n + 1))) 4 3) :=
  ⟨h.1, rfl, rfl, h.2.2.2.1, by have := h.2.2.2.2.1; omega, fun e => absurd e h4⟩
theorem eV_6 {v : Nat → Int32} (h : eV s n t v) : eV 6 n t (upd v 0 6) := ⟨rfl, h.2.1, h.2.2.1, by decide, h.2.2.2.2.1, fun e => absurd e (by decide)⟩
theorem eV_0 {v : Nat → Int32} (h : eV s n t v) : eV 0 n t (upd v 0 0) := ⟨rfl, h.2.1, h.2.2.1, by decide, h.2.2.2.2.1, fun e => absurd e (by decide)⟩
theorem eV_1 {v : Nat → Int32} (h : eV s n t v) : eV 1 n t (upd v 0 1) := ⟨rfl, h.2.1, h.2.2.1, by decide, h.2.2.2.2.1, fun e => absurd e (by decide)⟩
theorem eV_2 {v : Nat → Int32} (h : eV s n t v) : eV 2 n t (upd v 0 2) := ⟨rfl, h.2.1, h.2.2.1, by decide, h.2.2.2.2.1, fun e => absurd e (by decide)⟩
theorem eV_3 {v : Nat → Int32} (h : eV s n t v) : eV 3 n t (upd v 0 3) := ⟨rfl, h.2.1, h.2.2.1, by decide, h.2.2.2.2.1, fun e => absurd e (by decide)⟩
theorem eV_4 {v : Nat → Int32} (h : eV s n t v) : eV 4 n 10 (upd (upd v 0 4) 3 10) := ⟨rfl, h.2.1, rfl, by decide, by decide, fun _ => rfl⟩
/-- full: what is sent is lost -/
def FU (q : Nat) (QX QY : Qt) : Prop := (q = 0 → QY.1 = 12) ∧ (q = 1 → QX.1 = 12)
/-- X asks with the values a -/
theorem INV_rq {a : Nat → Int32} (h : INV g q s n t xv xd QX s' n' t' yv yd QY) (hn : n + 1 < 1000) (hs : s = 1 ∨ s = 3) (ha : ∀ o, o < 4 → okv (a o)) :
    ∃ s1 n1 t1 e : Nat, INV g q s1 n1 t1 (rq (nI q) xv a QX QY se).1 (va_up xd 6 a) (rq (nI q) xv a QX QY se).2.1.1 s' n' t' yv yd (rq (nI q) xv a QX QY se).2.1.2 ∧ n1 ≤ n + 1 ∧ SN q e QX QY (rq (nI q) xv a QX QY se).2.1.1 (rq (nI q) xv a QX QY se).2.1.2 ∧
      ((t = 0 ∧ s1 = 6 ∧ t1 = 0 ∧ e = 0 ∧ (rq (nI q) xv a QX QY se).2.2 = se) ∨ (0 < t ∧ s1 = s ∧ t1 = t - 1 ∧ e ≤ 1 ∧ (rq (nI q) xv a QX QY se).2.2 = se + 1 ∧ (e = 0 → FU q QX QY))) := by
  have hv := h.1.1
  rcases Nat.eq_zero_or_pos t with h0 | h0
  · rw [rq_0 hv h0]
    exact ⟨6, n, t, 0, INV_down h (eV_6 hv) (by omega) ha, by omega, SN_0, Or.inl ⟨h0, rfl, h0, rfl, rfl⟩⟩
  · rw [rq_1 hv h0]
    obtain ⟨e, he, he1, hf⟩ := sq_SN (q := q) (p := pk 0 (nI (n + 1)) (xv 1) a) h.2.2.2.2.1 h.2.2.2.1.1 h.2.2.2.1.2
    exact ⟨s, n + 1, t - 1, e, INV_ask h hn (eV_rq hv (by omega)) (by omega) (by omega) (fun e => Or.inl e) ha, Nat.le_refl _, he, Or.inr ⟨h0, rfl, rfl, he1, rfl, hf⟩⟩
theorem INV_rq' (h : INV g q s n t xv xd QX s' n' t' yv yd QY) (hn : n + 1 < 1000) (hs : s = 1 ∨ s = 3) :
    ∃ s1 n1 t1 e : Nat, INV g q s1 n1 t1 (rq (nI q) xv (xd 6) QX QY se).1 xd (rq (nI q) xv (xd 6) QX QY se).2.1.1 s' n' t' yv yd (rq (nI q) xv (xd 6) QX QY se).2.1.2 ∧ n1 ≤ n + 1 ∧ SN q e QX QY (rq (nI q) xv (xd 6) QX QY se).2.1.1 (rq (nI q) xv (xd 6) QX QY se).2.1.2 ∧
      ((t = 0 ∧ s1 = 6 ∧ t1 = 0 ∧ e = 0 ∧ (rq (nI q) xv (xd 6) QX QY se).2.2 = se) ∨ (0 < t ∧ s1 = s ∧ t1 = t - 1 ∧ e ≤ 1 ∧ (rq (nI q) xv (xd 6) QX QY se).2.2 = se + 1 ∧ (e = 0 → FU q QX QY))) := by
  have h9 := INV_rq (se := se) h hn hs (fun o ho => (h.2.1.1.1 o ho).2.1)
  rw [up_6] at h9
  exact h9
/-! judging -/
theorem anB_no {p : Nat → Bool} {m j : Nat} (h : anB p m = false) (hj : j < m) : p j = false := by
  cases e : p j
  · rfl
  · rw [anB_of hj e] at h
    exact absurd h (by decide)
theorem jud_1 {w : Nat → Int32} {d : Nat → Nat → Int32} (h : jK w d = 1) : anB (isR w (d 5)) 4 = false ∧ anB (isO w (d 3) (d 4)) 4 = false := by
  have hg := gdb_k.mpr h
  unfold gdb at hg
  revert hg
  cases anB (isR w (d 5)) 4 <;> cases anB (isO w (d 3) (d 4)) 4 <;> simp
theorem jud_w {w : Nat → Int32} {d : Nat → Nat → Int32} (h : jK w d = 1) : jA w d = w := jAn_g (gdb_k.mpr h)
theorem jud_G {w : Nat → Int32} {d : Nat → Nat → Int32} (h : jK w d = 1) {o : Nat} (ho : o < 4) (hb : okB d o) : okG (va_up d 7 w) o := by
  obtain ⟨h1, h2⟩ := jud_1 h
  have r1 : ¬ (¬ w o = -1 ∧ ¬ d 5 o = 0) := of_decide_eq_false (anB_no h1 ho)
  by_cases hw : w o = -1
  · exact Or.inl hw
  · refine Or.inr ⟨?_, ?_⟩
    · show d 5 o = 0
      by_cases h5 : d 5 o = 0
      · exact h5
      · exact absurd ⟨hw, h5⟩ r1
    · show inr (w o) (d 3 o) (d 4 o)
      obtain ⟨-, -, a, b, hab, hb1, e3, e4⟩ := hb
      by_cases hi : inr (w o) (d 3 o) (d 4 o)
      · exact hi
      · have h9 := isO_out (w := w) (lo := d 3) (hi := d 4) (j := o) (by rw [e3, e4]; exact (nI_leI (by omega) (by omega)).mpr hab) hw hi
        rw [anB_no h2 ho] at h9
        exact absurd h9 (by decide)
theorem jud_k {w : Nat → Int32} {d : Nat → Nat → Int32} (h : ¬ jK w d = 1) : jK w d = 2 ∨ jK w d = 3 := by
  unfold jK jKd at h ⊢
  revert h
  cases anB (isR w (d 5)) 4 <;> cases anB (isO w (d 3) (d 4)) 4 <;> simp
/-! deliver -/
/-- what the law asks of a delivery: k the kind, s s1 and t t1 the states and tries, e how many came, r how many waited there -/
def DF (q k s s1 t t1 e r : Nat) : Prop :=
  e ≤ 2 ∧ (k = 4 → (upN s → s1 = 0) ∧ (¬ upN s → s1 = s) ∧ (e = 1 ∨ q = 0 ∧ r = 12) ∧ t1 = t) ∧
  (k = 5 → (s = 5 → s1 = 0) ∧ (¬ s = 5 → s1 = s) ∧ e = 0 ∧ t1 = t) ∧
  (k < 4 → ¬ upN s → s1 = s ∧ e = 0 ∧ t1 = t) ∧
  (k = 1 → upN s → e = 0 ∧ (s1 = s ∨ s = 1 ∧ s1 = 2 ∨ s = 3 ∧ s1 = 4)) ∧
  (k = 2 ∨ k = 3 → upN s → (s1 = s ∧ t1 = t ∧ e = 0) ∨ ((s = 1 ∨ s = 3) ∧ (t = 0 ∧ s1 = 6 ∧ e = 0 ∨ 0 < t ∧ s1 = s ∧ t1 + 1 = t ∧ e ≤ 1))) ∧
  (k = 0 → upN s → (s1 = 7 ∨ s1 = s ∧ e = 0 ∧ t1 = t) ∨ (s = 4 ∧ (s1 = 1 ∨ s1 = 3) ∧ t1 = 9) ∨ (s = 1 ∧ (s1 = 1 ∨ s1 = 3) ∧ e ≤ 1) ∨ (s = 2 ∧ (s1 = 2 ∨ s1 = 4) ∧ e ≤ 1) ∨ (s = 3 ∧ (s1 = 1 ∨ s1 = 3) ∧ e ≤ 1))
def DP (g q : Nat) (s n t : Nat) (s' n' t' : Nat) (yv : Nat → Int32) (yd xd : Nat → Nat → Int32) (QX QY : Qt) (k : Nat) (r : (Nat → Int32) × (Nat → Nat → Int32) × (Qt × Qt) × Int32) : Prop :=
  ∃ s1 n1 t1 e : Nat, INV g q s1 n1 t1 r.1 r.2.1 r.2.2.1.1 s' n' t' yv yd r.2.2.1.2 ∧ n1 ≤ n + 1 ∧ SN q e QX QY r.2.2.1.1 r.2.2.1.2 ∧ (∀ j, j ≤ 5 → r.2.1 j = xd j) ∧ DF q k s s1 t t1 e QY.1
theorem pk_nO {k : Nat} {a b : Int32} {f : Nat → Int32} (h1 : 1 ≤ k) (hk : k ≤ 5) : pOK (pk (nI k) a b f) ∧ ¬ pk (nI k) a b f 0 = 0 :=
  have h : ¬ pk (nI k) a b f 0 = 0 := nI_ne (b := 0) (by omega) (by omega) (by decide)
  ⟨⟨⟨k, hk, rfl⟩, fun e => absurd e h⟩, h⟩
theorem del_bye (h : INV g q s n t xv xd QX s' n' t' yv yd QY) (h11 : QX.1 < 12) : DP g q s n t s' n' t' yv yd xd QX QY 4 (hbV xv, xd, sq (nI q) (pk 5 0 0 nB) QX QY, se + 1) := by
  have hv := h.1.1
  obtain ⟨hp, hp0⟩ := pk_nO (k := 5) (a := 0) (b := 0) (f := nB) (by decide) (by decide)
  obtain ⟨e, he, he1, hf⟩ := sq_SN (q := q) (p := pk 5 0 0 nB) h.2.2.2.2.1 h.2.2.2.1.1 h.2.2.2.1.2
  have h2 := INV_send h hp hp0 (by rw [pk_0]; decide)
  have hq := h.2.2.2.2.1
  have he9 : e = 1 ∨ q = 0 ∧ QY.1 = 12 := by
    rcases (show e = 1 ∨ e = 0 by omega) with e0 | e0
    · exact Or.inl e0
    · rcases (show q = 0 ∨ q = 1 by omega) with q0 | q0
      · exact Or.inr ⟨q0, (hf e0).1 q0⟩
      · have := (hf e0).2 q0
        omega
  by_cases hu : upN s
  · have e1 : hbV xv = upd xv 0 0 := if_pos ((eV_up hv).mpr hu)
    rw [e1]
    exact ⟨0, n, t, e, INV_dn h2 (eV_0 hv) (by omega), by omega, he, fun _ _ => rfl, by omega, fun _ => ⟨fun _ => rfl, fun h => absurd hu h, he9, rfl⟩, fun h => absurd h (by decide), fun h => absurd h (by decide), fun h => absurd h (by decide), fun h => absurd h (by decide), fun h => absurd h (by decide)⟩
  · have e1 : hbV xv = xv := if_neg (fun q9 => hu ((eV_up hv).mp q9))
    rw [e1]
    exact ⟨s, n, t, e, h2, by omega, he, fun _ _ => rfl, by omega, fun _ => ⟨fun h => absurd h hu, fun _ => rfl, he9, rfl⟩, fun h => absurd h (by decide), fun h => absurd h (by decide), fun h => absurd h (by decide), fun h => absurd h (by decide), fun h => absurd h (by decide)⟩
theorem del_bb (h : INV g q s n t xv xd QX s' n' t' yv yd QY) : DP g q s n t s' n' t' yv yd xd QX QY 5 (hbbV xv, xd, (QX, QY), se) := by
  have hv := h.1.1
  by_cases hu : s = 5
  · have e1 : hbbV xv = upd xv 0 0 := if_pos ((eV_is hv (k := 5) (by decide)).mpr hu)
    rw [e1]
    exact ⟨0, n, t, 0, INV_dn h (eV_0 hv) (by omega), by omega, SN_0, fun _ _ => rfl, by omega, fun h => absurd h (by decide), fun _ => ⟨fun _ => rfl, fun h => absurd hu h, rfl, rfl⟩, fun h => absurd h (by decide), fun h => absurd h (by decide), fun h => absurd h (by decide), fun h => absurd h (by decide)⟩
  · have e1 : hbbV xv = xv := if_neg (fun q9 => hu ((eV_is hv (k := 5) (by decide)).mp q9))
    rw [e1]
    exact ⟨s, n, t, 0, h, by omega, SN_0, fun _ _ => rfl, by omega, fun h => absurd h (by decide), fun _ => ⟨fun h => absurd h hu, fun _ => rfl, rfl, rfl⟩, fun h => absurd h (by decide), fun h => absurd h (by decide), fun h => absurd h (by decide), fun h => absurd h (by decide)⟩
/-- nothing is done -/
theorem del_no {k : Nat} (h : INV g q s n t xv xd QX s' n' t' yv yd QY) (hk : k ≤ 3) : DP g q s n t s' n' t' yv yd xd QX QY k (xv, xd, (QX, QY), se) :=
  ⟨s, n, t, 0, h, by omega, SN_0, fun _ _ => rfl, by omega, fun h => absurd h (by omega), fun h => absurd h (by omega), fun _ _ => ⟨rfl, rfl, rfl⟩, fun _ _ => ⟨rfl, Or.inl rfl⟩, fun _ _ => Or.inl ⟨rfl, rfl, rfl⟩, fun _ _ => Or.inl (Or.inr ⟨rfl, rfl, rfl⟩)⟩
/-- yes is heard: QX still has it -/
theorem INV_hear (h : INV g q s n t xv xd QX s' n' t' yv yd QY) (hu : upN s) (h0 : 0 < QX.1) (hk : QX.2 0 0 = 1) (hn : QX.2 0 1 = nI n) :
    ∃ s1 t1 : Nat, INV g q s1 n t1 (yeV xv) xd (pop QX) s' n' t' yv yd QY ∧ (s1 = s ∨ s = 1 ∧ s1 = 2 ∨ s = 3 ∧ s1 = 4) := by
  have hv := h.1.1
  have hy : ¬ qA (ny n) QX := fun q9 => q9 0 h0 ⟨hk, hn⟩
  by_cases h1 : s = 1
  · have e1 : yeV xv = upd xv 0 2 := if_pos ((eV_is hv (k := 1) (by decide)).mpr h1)
    rw [e1]
    exact ⟨2, t, INV_pop (INV_move h hu (eV_2 hv) (fun _ => Or.inr (Or.inr hy)) (fun h => absurd h (by omega))), Or.inr (Or.inl ⟨h1, rfl⟩)⟩
  · by_cases h3 : s = 3
    · have e1 : yeV xv = upd (upd xv 0 4) 3 10 := (if_neg (fun q9 => h1 ((eV_is hv (k := 1) (by decide)).mp q9))).trans (if_pos ((eV_is hv (k := 3) (by decide)).mpr h3))
      rw [e1]
      exact ⟨4, 10, INV_pop (INV_move h hu (eV_4 hv) (fun _ => Or.inr (Or.inr hy)) (fun _ => h.2.1.1.2 (Or.inl h3))), Or.inr (Or.inr ⟨h3, rfl⟩)⟩
    · have e1 : yeV xv = xv := (if_neg (fun q9 => h1 ((eV_is hv (k := 1) (by decide)).mp q9))).trans (if_neg (fun q9 => h3 ((eV_is hv (k := 3) (by decide)).mp q9)))
      rw [e1]
      exact ⟨s, t, INV_pop h, Or.inl rfl⟩
theorem k_is {k : Nat} {x : Int32} (hx : x = nI k) (hk : k ≤ 5) (j : Nat) (hj : j ≤ 5) : x = nI j ↔ k = j := by
  rw [hx]; exact nI_eq (by omega) (by omega)
theorem okv_c {o : Nat} {w : Nat → Int32} (h : eD s xd) (ho : o < 4) : okv (ctr (xd 1) (xd 2) w (xd 6) o) := okv_ctr (h.1 o ho).2.2.2.1 (h.1 o ho).2.1
theorem va6_le {d : Nat → Nat → Int32} {a : Nat → Int32} : ∀ j, j ≤ 5 → va_up d 6 a j = d j := fun j h => va_up_ne _ _ (by omega)
theorem va7_le {d : Nat → Nat → Int32} {a : Nat → Int32} : ∀ j, j ≤ 5 → va_up d 7 a j = d j := fun j h => va_up_ne _ _ (by omega)
/-- an answer with the end's number -/
theorem del_ans {k : Nat} {w : Nat → Int32} (h : INV g q s n t xv xd QX s' n' t' yv yd QY) (hn : n + 1 < 1000) (hu : upN s) (h0 : 0 < QX.1) (hk : QX.2 0 0 = nI k) (hk1 : 1 ≤ k) (hk3 : k ≤ 3) (hnb : QX.2 0 1 = xv 2) :
    DP g q s n t s' n' t' yv yd xd (pop QX) QY k (ha (nI q) (QX.2 0 0) w xv xd (pop QX) QY se) := by
  have hv := h.1.1
  unfold ha
  by_cases e1 : k = 1
  · subst e1
    rw [if_pos (show QX.2 0 0 = 1 from hk)]
    obtain ⟨s1, t1, hI, hc⟩ := INV_hear h hu h0 hk (hnb.trans hv.2.1)
    exact ⟨s1, n, t1, 0, hI, by omega, SN_0, fun _ _ => rfl, by omega, fun h => absurd h (by decide), fun h => absurd h (by decide), fun _ h => absurd hu h, fun _ _ => ⟨rfl, hc⟩, fun h => absurd h (by omega), fun h => absurd h (by decide)⟩
  · rw [if_neg (show ¬ QX.2 0 0 = 1 from fun q9 => e1 ((k_is hk (by omega) 1 (by decide)).mp q9))]
    by_cases hs : s = 1 ∨ s = 3
    · rw [if_pos (show xv 0 = 1 ∨ xv 0 = 3 from hs.elim (fun e => Or.inl ((eV_is hv (k := 1) (by decide)).mpr e)) (fun e => Or.inr ((eV_is hv (k := 3) (by decide)).mpr e)))]
      have key : ∀ a : Nat → Int32, (∀ o, o < 4 → okv (a o)) → DP g q s n t s' n' t' yv yd xd (pop QX) QY k ((rq (nI q) xv a (pop QX) QY se).1, va_up xd 6 a, (rq (nI q) xv a (pop QX) QY se).2) := by
        intro a ha
        obtain ⟨s1, n1, t1, e, hI, hn1, hsn, hc⟩ := INV_rq (se := se) (INV_pop h) hn hs ha
        refine ⟨s1, n1, t1, e, hI, hn1, hsn, va6_le, by omega, fun h => absurd h (by omega), fun h => absurd h (by omega), fun _ h => absurd hu h, fun h => absurd h e1, fun _ _ => Or.inr ⟨hs, ?_⟩, fun h => absurd h (by omega)⟩
        rcases hc with ⟨c1, c2, c3, c4, -⟩ | ⟨c1, c2, c3, c4, -⟩
        · exact Or.inl ⟨c1, c2, c4⟩
        · exact Or.inr ⟨c1, c2, by omega, c4⟩
      split
      · exact key _ (fun o ho => okv_c h.2.1.1 ho)
      · exact key _ (fun o ho => okv_rfl4 (h.2.1.1.1 o ho).2.1)
    · rw [if_neg (show ¬ (xv 0 = 1 ∨ xv 0 = 3) from fun q9 => hs (q9.elim (fun e => Or.inl ((eV_is hv (k := 1) (by decide)).mp e)) (fun e => Or.inr ((eV_is hv (k := 3) (by decide)).mp e))))]
      exact del_no (INV_pop h) hk3
/-- an opened end asks again -/
theorem INV_hr1 {p : Nat → Int32} (h : INV g q s n t xv xd QX s' n' t' yv yd QY) (hn : n + 1 < 1000) (hu : upN s) (hp : g = 0 → pend s' n' (yd 6) p QY QX) :
    ∃ s2 n2 t2 e : Nat, INV g q s2 n2 t2 (hr1 (nI q) xv xd QX QY se).1 xd (hr1 (nI q) xv xd QX QY se).2.1.1 s' n' t' yv yd (hr1 (nI q) xv xd QX QY se).2.1.2 ∧ (g = 0 → pend s' n' (yd 6) p (hr1 (nI q) xv xd QX QY se).2.1.2 (hr1 (nI q) xv xd QX QY se).2.1.1) ∧
      n2 ≤ n + 1 ∧ SN q e QX QY (hr1 (nI q) xv xd QX QY se).2.1.1 (hr1 (nI q) xv xd QX QY se).2.1.2 ∧ ((s = 4 ∧ s2 = 1 ∧ t2 = 9 ∧ e ≤ 1) ∨ (¬ s = 4 ∧ s2 = s ∧ t2 = t ∧ e = 0)) := by
  have hv := h.1.1
  by_cases h4 : s = 4
  · have e1 : hr1 (nI q) xv xd QX QY se = rq (nI q) (upd (upd (upd xv 5 0) 0 1) 3 10) (xd 6) QX QY se := if_pos ((eV_is hv (k := 4) (by decide)).mpr h4)
    have hv1 : eV 1 n 10 (upd (upd (upd xv 5 0) 0 1) 3 10) := ⟨rfl, hv.2.1, rfl, by decide, by decide, fun e => absurd e (by decide)⟩
    have h2 := INV_move h hu hv1 (fun h => absurd h (by omega)) (fun h => absurd h (by omega))
    rw [e1, rq_1 hv1 (by decide)]
    obtain ⟨e, he, he1, hf⟩ := sq_SN (q := q) (p := pk 0 (nI (n + 1)) ((upd (upd (upd xv 5 0) 0 1) 3 10) 1) (xd 6)) h.2.2.2.2.1 h.2.2.2.1.1 h.2.2.2.1.2
    have i9 := INV_ask' (s1 := 1) (t1 := 9) (v1 := upd (upd (upd (upd (upd (upd xv 5 0) 0 1) 3 10) 3 (nI (10 - 1))) 2 (nI (n + 1))) 4 3) (mk := (upd (upd (upd xv 5 0) 0 1) 3 10) 1) h2 hn (eV_rq hv1 (by decide)) (by decide) (by decide) (fun e => absurd e (by decide))
    refine ⟨1, n + 1, 9, e, i9, fun g0 => ?_, Nat.le_refl _, he, Or.inl ⟨h4, rfl, rfl, he1⟩⟩
    have q0 := (h.2.2.2.2.2 g0).1
    subst q0
    rw [sq_0]
    exact pend_toQ (hp g0) (by rw [pk_0]; decide)
  · have e1 : hr1 (nI q) xv xd QX QY se = (upd xv 5 0, (QX, QY), se) := if_neg (fun q9 => h4 ((eV_is hv (k := 4) (by decide)).mp q9))
    rw [e1]
    exact ⟨s, n, t, 0, INV_v h ⟨hv.1, hv.2⟩, hp, by omega, SN_0, Or.inr ⟨h4, rfl, rfl, rfl⟩⟩
/-- a request is answered, and the end moves on -/
theorem INV_arq {p w : Nat → Int32} (h : INV g q s n t xv xd QX s' n' t' yv yd QY) (hs : s = 1 ∨ s = 2 ∨ s = 3) (hp : g = 0 → pend s' n' (yd 6) p QY QX) (hr : p 0 = 0) (hw : ∀ o, o < 4 → w o = p (3 + o)) (hwv : ∀ o, o < 4 → okv (w o)) :
    ∃ s1 t1 e : Nat, INV g q s1 n t1 (hr2 w xv xd) (arD w xd) (arQ (nI q) (p 1) w xd QX QY).1 s' n' t' yv yd (arQ (nI q) (p 1) w xd QX QY).2 ∧ SN q e QX QY (arQ (nI q) (p 1) w xd QX QY).1 (arQ (nI q) (p 1) w xd QX QY).2 ∧ e ≤ 1 ∧
      ((s = 1 ∧ (s1 = 1 ∨ s1 = 3) ∧ t1 = t) ∨ (s = 2 ∧ (s1 = 2 ∨ s1 = 4)) ∨ (s = 3 ∧ (s1 = 1 ∨ s1 = 3))) := by
  have hv := h.1.1
  obtain ⟨e, he, he1, -⟩ := sq_SN (q := q) (p := pk (jK w xd) (p 1) 0 (jA w xd)) h.2.2.2.2.1 h.2.2.2.1.1 h.2.2.2.1.2
  have hu : upN s := by omega
  have i1 := fun (k : Nat) (hk : k ≤ 7) => eV_is hv hk
  by_cases hj : jK w xd = 1
  · have eD1 : arD w xd = va_up xd 7 w := by unfold arD; rw [if_pos hj, jud_w hj]
    have eQ : arQ (nI q) (p 1) w xd QX QY = sq (nI q) (pk 1 (p 1) 0 w) QX QY := by unfold arQ; rw [hj, jud_w hj]
    have e2 : hr2 w xv xd = mvY xv := if_pos hj
    rw [show pk (jK w xd) (p 1) 0 (jA w xd) = pk 1 (p 1) 0 w by rw [hj, jud_w hj]] at he
    have hG : ∀ o, o < 4 → okG (va_up xd 7 w) o := fun o ho => jud_G hj ho (h.2.1.1.1 o ho).2.2.2
    have h2 := INV_yes (mk := 0) h hp hr hw hwv hG
    rw [eD1, eQ, e2]
    rcases hs with rfl | rfl | rfl
    · have e3 : mvY xv = upd xv 0 3 := if_pos hv.1
      rw [e3]
      exact ⟨3, t, e, INV_move h2 hu (eV_3 hv) (fun h => absurd h (by omega)) (fun _ => hG), he, he1, Or.inl ⟨rfl, Or.inr rfl, rfl⟩⟩
    · have e3 : mvY xv = upd (upd xv 0 4) 3 10 := (if_neg (fun q9 => absurd ((i1 1 (by decide)).mp q9) (by decide))).trans (if_pos hv.1)
      rw [e3]
      exact ⟨4, 10, e, INV_move h2 hu (eV_4 hv) (fun _ => Or.inl rfl) (fun _ => hG), he, he1, Or.inr (Or.inl ⟨rfl, Or.inr rfl⟩)⟩
    · have e3 : mvY xv = xv := (if_neg (fun q9 => absurd ((i1 1 (by decide)).mp q9) (by decide))).trans (if_neg (fun q9 => absurd ((i1 2 (by decide)).mp q9) (by decide)))
      rw [e3]
      exact ⟨3, t, e, h2, he, he1, Or.inr (Or.inr ⟨rfl, Or.inr rfl⟩)⟩
  · have eD1 : arD w xd = xd := by unfold arD; rw [if_neg hj]
    have e2 : hr2 w xv xd = if xv 0 = 3 then upd xv 0 1 else xv := if_neg hj
    have hpk : ∃ k : Nat, (k = 2 ∨ k = 3) ∧ jK w xd = nI k := by
      rcases jud_k hj with e | e
      · exact ⟨2, Or.inl rfl, e⟩
      · exact ⟨3, Or.inr rfl, e⟩
    obtain ⟨k, hk, ek⟩ := hpk
    have h2 : INV g q s n t xv xd (arQ (nI q) (p 1) w xd QX QY).1 s' n' t' yv yd (arQ (nI q) (p 1) w xd QX QY).2 := by
      show INV g q s n t xv xd (sq (nI q) (pk (jK w xd) (p 1) 0 (jA w xd)) QX QY).1 s' n' t' yv yd (sq (nI q) (pk (jK w xd) (p 1) 0 (jA w xd)) QX QY).2
      rw [ek]
      obtain ⟨hpo, hp0⟩ := pk_nO (k := k) (a := p 1) (b := 0) (f := jA w xd) (by omega) (by omega)
      exact INV_send h hpo hp0 (by rw [pk_0]; exact nI_ne (b := 1) (by omega) (by omega) (by decide))
    rw [eD1, e2]
    by_cases h3 : s = 3
    · rw [if_pos (show xv 0 = 3 from (i1 3 (by decide)).mpr h3)]
      exact ⟨1, t, e, INV_move h2 hu (eV_1 hv) (fun h => absurd h (by omega)) (fun h => absurd h (by omega)), he, he1, Or.inr (Or.inr ⟨h3, Or.inl rfl⟩)⟩
    · rw [if_neg (show ¬ xv 0 = 3 from fun q9 => h3 ((i1 3 (by decide)).mp q9))]
      refine ⟨s, t, e, h2, he, he1, ?_⟩
      rcases hs with e9 | e9 | e9
      · exact Or.inl ⟨e9, Or.inl e9, rfl⟩
      · exact Or.inr (Or.inl ⟨e9, Or.inl e9⟩)
      · exact absurd e9 h3
theorem arD_le {w : Nat → Int32} {d : Nat → Nat → Int32} : ∀ j, j ≤ 5 → arD w d j = d j := by
  intro j hj
  unfold arD
  split
  · exact va7_le j hj
  · rfl
/-- a request is heard -/
theorem del_req {mk : Int32} {w : Nat → Int32} (h : INV g q s n t xv xd QX s' n' t' yv yd QY) (hn : n + 1 < 1000) (hu : upN s) (h0 : 0 < QX.1) (hk : QX.2 0 0 = 0) (hw : ∀ o, o < 4 → w o = QX.2 0 (3 + o)) :
    DP g q s n t s' n' t' yv yd xd (pop QX) QY 0 (hrq (nI q) (QX.2 0 1) mk w xv xd (pop QX) QY se) := by
  have hv := h.1.1
  have hwv : ∀ o, o < 4 → okv (w o) := fun o ho => by rw [hw o ho]; exact (h.2.2.1.1 0 h0).2 hk o ho
  have hI := INV_pop h
  have hp : g = 0 → pend s' n' (yd 6) (QX.2 0) QY (pop QX) := fun g0 => pend_of (h.2.2.2.2.2 g0).2.2 h0 hk
  unfold hrq
  split
  · unfold cnL
    split
    · exact ⟨7, n, t, 0, INV_dn hI ⟨rfl, hv.2.1, hv.2.2.1, by decide, hv.2.2.2.2.1, fun e => absurd e (by decide)⟩ (by omega), by omega, SN_0, fun _ _ => rfl, by omega, fun h => absurd h (by decide), fun h => absurd h (by decide), fun _ h => absurd hu h, fun h => absurd h (by decide), fun h => absurd h (by decide), fun _ _ => Or.inl (Or.inl rfl)⟩
    · exact ⟨s, n, t, 0, INV_v hI ⟨hv.1, hv.2⟩, by omega, SN_0, fun _ _ => rfl, by omega, fun h => absurd h (by decide), fun h => absurd h (by decide), fun _ h => absurd hu h, fun h => absurd h (by decide), fun h => absurd h (by decide), fun _ _ => Or.inl (Or.inr ⟨rfl, rfl, rfl⟩)⟩
  · obtain ⟨s2, n2, t2, e2, h2, hp2, hn2, hs2, hc2⟩ := INV_hr1 (se := se) hI hn hu hp
    obtain ⟨s1, t1, e1, h1, hs1, he1, hc1⟩ := INV_arq h2 (by omega) hp2 hk hw hwv
    refine ⟨s1, n2, t1, e2 + e1, h1, hn2, SN_add hs2 hs1, arD_le, by omega, fun h => absurd h (by decide), fun h => absurd h (by decide), fun _ h => absurd hu h, fun h => absurd h (by decide), fun h => absurd h (by decide), fun _ _ => Or.inr (by omega)⟩
/-- deliver(end) -/
theorem hea_t (h : INV g q s n t xv xd QX s' n' t' yv yd QY) (hn : n + 1 < 1000) (h0 : 0 < QX.1) : ∃ k : Nat, QX.2 0 0 = nI k ∧ k ≤ 5 ∧ DP g q s n t s' n' t' yv yd xd (pop QX) QY k (hea (nI q) (QX.2 0 0) (QX.2 0 1) (QX.2 0 2) (fun j => QX.2 0 (3 + j)) xv xd (pop QX) QY se) := by
  obtain ⟨k, hk, ek⟩ := (h.2.2.1.1 0 h0).1
  refine ⟨k, ek, hk, ?_⟩
  have hv := h.1.1
  have hI := INV_pop h
  have ik := fun (j : Nat) (hj : j ≤ 5) => k_is ek hk j hj
  unfold hea
  by_cases h4 : k = 4
  · rw [if_pos (show QX.2 0 0 = 4 from (ik 4 (by decide)).mpr h4), h4]
    exact del_bye hI (by show QX.1 - 1 < 12; have := h.2.2.2.1.1; omega)
  · rw [if_neg (show ¬ QX.2 0 0 = 4 from fun q9 => h4 ((ik 4 (by decide)).mp q9))]
    by_cases h5 : k = 5
    · rw [if_pos (show QX.2 0 0 = 5 from (ik 5 (by decide)).mpr h5), h5]
      exact del_bb hI
    · rw [if_neg (show ¬ QX.2 0 0 = 5 from fun q9 => h5 ((ik 5 (by decide)).mp q9))]
      by_cases hu : upN s
      · rw [if_pos ((eV_up hv).mpr hu)]
        by_cases hk0 : k = 0
        · rw [if_pos (show QX.2 0 0 = 0 from (ik 0 (by decide)).mpr hk0)]
          subst hk0
          exact del_req h hn hu h0 ek (fun _ _ => rfl)
        · rw [if_neg (show ¬ QX.2 0 0 = 0 from fun q9 => hk0 ((ik 0 (by decide)).mp q9))]
          split
          · rename_i hnb
            exact del_ans h hn hu h0 ek (by omega) (by omega) hnb
          · exact del_no hI (by omega)
      · rw [if_neg (fun q9 => hu ((eV_up hv).mp q9))]
        exact del_no hI (by omega)
/-! a tick -/
/-- what the law asks of an end behind a tick -/
def TF (s s1 t1 : Nat) : Prop := (s = 1 ∧ (s1 = 1 ∨ s1 = 6 ∧ t1 = 0)) ∨ (s = 2 ∧ (s1 = 2 ∨ s1 = 1 ∨ s1 = 6 ∧ t1 = 0)) ∨ (s = 3 ∧ (s1 = 3 ∨ s1 = 6 ∧ t1 = 0)) ∨ (s = 5 ∧ (s1 = 5 ∨ s1 = 0)) ∨ (¬ s = 1 ∧ ¬ s = 2 ∧ ¬ s = 3 ∧ ¬ s = 5 ∧ s1 = s)
/-- c were sent, e came -/
def TP (g q : Nat) (s n : Nat) (s' n' t' : Nat) (yv : Nat → Int32) (yd xd : Nat → Nat → Int32) (QX QY : Qt) (se : Int32) (r : (Nat → Int32) × (Qt × Qt) × Int32) : Prop :=
  ∃ s1 n1 t1 e c : Nat, INV g q s1 n1 t1 r.1 xd r.2.1.1 s' n' t' yv yd r.2.1.2 ∧ n1 ≤ n + 1 ∧ SN q e QX QY r.2.1.1 r.2.1.2 ∧ r.2.2 = se + nI c ∧ c ≤ 1 ∧ e ≤ c ∧ (e < c → FU q QX QY) ∧ TF s s1 t1
theorem se_0 {x : Int32} : x = x + nI 0 := (Int32.add_zero x).symm
theorem stw_t (h : INV g q s n t xv xd QX s' n' t' yv yd QY) (hn : n + 1 < 1000) (hs : s = 1 ∨ s = 2 ∨ s = 3 ∨ s = 5) : TP g q s n s' n' t' yv yd xd QX QY se (stw (nI q) xv (xd 6) QX QY se) := by
  have hv := h.1.1
  have i1 := fun (k : Nat) (hk : k ≤ 7) => eV_is hv hk
  unfold stw
  by_cases h5 : s = 5
  · rw [if_pos (show xv 0 = 5 from (i1 5 (by decide)).mpr h5)]
    split
    · exact ⟨0, n, t, 0, 0, INV_dn h (eV_0 hv) (by omega), by omega, SN_0, se_0, by decide, by decide, fun h => absurd h (by decide), Or.inr (Or.inr (Or.inr (Or.inl ⟨h5, Or.inr rfl⟩)))⟩
    · obtain ⟨hp, hp0⟩ := pk_nO (k := 4) (a := 0) (b := 0) (f := nB) (by decide) (by decide)
      obtain ⟨e, he, he1, hf⟩ := sq_SN (q := q) (p := pk 4 0 0 nB) h.2.2.2.2.1 h.2.2.2.1.1 h.2.2.2.1.2
      have h2 := INV_send h hp hp0 (by rw [pk_0]; decide)
      exact ⟨s, n, t, e, 1, INV_v h2 ⟨hv.1, hv.2⟩, by omega, he, rfl, by decide, he1, fun h => hf (by omega), Or.inr (Or.inr (Or.inr (Or.inl ⟨h5, Or.inl h5⟩)))⟩
  · rw [if_neg (show ¬ xv 0 = 5 from fun q9 => h5 ((i1 5 (by decide)).mp q9))]
    by_cases h2 : s = 2
    · rw [if_pos (show xv 0 = 2 from (i1 2 (by decide)).mpr h2)]
      have h3 := INV_move h (by omega) (eV_1 hv) (fun h => absurd h (by omega)) (fun h => absurd h (by omega))
      obtain ⟨s1, n1, t1, e, hI, hn1, hsn, hc⟩ := INV_rq' (se := se) h3 hn (Or.inl rfl)
      rcases hc with ⟨c1, c2, c3, c4, c5⟩ | ⟨c1, c2, c3, c4, c5, c6⟩
      · exact ⟨s1, n1, t1, e, 0, hI, hn1, hsn, c5.trans se_0, by decide, by omega, fun h => absurd h (by omega), Or.inr (Or.inl ⟨h2, Or.inr (Or.inr ⟨c2, c3⟩)⟩)⟩
      · exact ⟨s1, n1, t1, e, 1, hI, hn1, hsn, c5, by decide, c4, fun h => c6 (by omega), Or.inr (Or.inl ⟨h2, Or.inr (Or.inl c2)⟩)⟩
    · rw [if_neg (show ¬ xv 0 = 2 from fun q9 => h2 ((i1 2 (by decide)).mp q9))]
      obtain ⟨s1, n1, t1, e, hI, hn1, hsn, hc⟩ := INV_rq' (se := se) h hn (by omega)
      rcases hc with ⟨c1, c2, c3, c4, c5⟩ | ⟨c1, c2, c3, c4, c5, c6⟩
      · refine ⟨s1, n1, t1, e, 0, hI, hn1, hsn, c5.trans se_0, by decide, by omega, fun h => absurd h (by omega), ?_⟩
        unfold TF; omega
      · refine ⟨s1, n1, t1, e, 1, hI, hn1, hsn, c5, by decide, c4, fun h => c6 (by omega), ?_⟩
        unfold TF; omega
theorem sWt_N : ∀ {s : Nat}, s ≤ 7 → (sWt (nI s) ↔ s = 1 ∨ s = 2 ∨ s = 3 ∨ s = 5) := by
  intro s h
  have : ∀ j : Fin 8, sWt (nI j.val) ↔ j.val = 1 ∨ j.val = 2 ∨ j.val = 3 ∨ j.val = 5 := by decide +kernel
  exact this ⟨s, by omega⟩
theorem TF_same (h7 : s ≤ 7) : TF s s t := by unfold TF; omega
theorem wt_t (h : INV g q s n t xv xd QX s' n' t' yv yd QY) (hn : n + 1 < 1000) : TP g q s n s' n' t' yv yd xd QX QY se (wt (nI q) xv (xd 6) QX QY se) := by
  have hv := h.1.1
  unfold wt
  by_cases hw : s = 1 ∨ s = 2 ∨ s = 3 ∨ s = 5
  · rw [if_pos (by rw [hv.1]; exact (sWt_N hv.2.2.2.1).mpr hw)]
    have h2 := INV_v h (v1 := upd xv 4 (xv 4 - 1)) ⟨hv.1, hv.2⟩
    split
    · exact stw_t h2 hn hw
    · exact ⟨s, n, t, 0, 0, h2, by omega, SN_0, se_0, by decide, by decide, fun h => absurd h (by decide), TF_same (eV_7 hv)⟩
  · rw [if_neg (by rw [hv.1]; exact fun q9 => hw ((sWt_N hv.2.2.2.1).mp q9))]
    exact ⟨s, n, t, 0, 0, h, by omega, SN_0, se_0, by decide, by decide, fun h => absurd h (by decide), TF_same (eV_7 hv)⟩
end MT
