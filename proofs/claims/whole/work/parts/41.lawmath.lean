/-! what holds of the two ends between two calls -/
abbrev st8 (x : Int32) : Prop := ∃ k : Nat, k < 8 ∧ x = nI k
def okV (v : Nat → Int32) : Prop := st8 (v 0) ∧ (sWt (v 0) → v 4 = 1 ∨ v 4 = 2 ∨ v 4 = 3)
def okD (d : Nat → Nat → Int32) : Prop := (∀ j, j < 4 → d 3 j ≤ d 4 j) ∧ (∀ j, j < 4 → d 5 j = 0 ∨ d 5 j = 1) ∧ (∀ j, j < 4 → okv (d 0 j)) ∧ (∀ j, j < 4 → ¬ d 1 j < 0 ∧ ¬ 100 < d 2 j) ∧ (∀ j, j < 4 → okv (d 6 j))
theorem rq_ok {lo se : Int32} {v f : Nat → Int32} {QX QY : Qt} (h : st8 (v 0)) : okV (rq lo v f QX QY se).1 := by
  unfold rq
  split
  · exact ⟨⟨6, by decide, rfl⟩, fun q => absurd (Or.inr (Or.inl rfl)) q.1⟩
  · exact ⟨h, fun _ => Or.inr (Or.inr rfl)⟩
theorem stw_ok {lo se : Int32} {v f : Nat → Int32} {QX QY : Qt} (h : st8 (v 0)) : okV (stw lo v f QX QY se).1 := by
  unfold stw
  split
  · split
    · exact ⟨⟨0, by decide, rfl⟩, fun q => absurd (Or.inl rfl) q.1⟩
    · exact ⟨h, fun _ => Or.inr (Or.inl rfl)⟩
  · split
    · exact rq_ok ⟨1, by decide, rfl⟩
    · exact rq_ok h
theorem wt_ok {lo se : Int32} {v f : Nat → Int32} {QX QY : Qt} (h : okV v) : okV (wt lo v f QX QY se).1 := by
  unfold wt
  split
  · rename_i hw
    split
    · exact stw_ok h.1
    · rename_i h1
      refine ⟨h.1, fun _ => ?_⟩
      show v 4 - 1 = 1 ∨ v 4 - 1 = 2 ∨ v 4 - 1 = 3
      rcases h.2 hw with e | e | e
      · rw [e] at h1; exact absurd (by decide) h1
      · rw [e]; exact Or.inl (by decide)
      · rw [e]; exact Or.inr (Or.inl (by decide))
  · exact h
theorem w0_shut {v : Nat → Int32} (h : sSh (v 0)) : sWt (v 0) → v 4 = 1 ∨ v 4 = 2 ∨ v 4 = 3 := fun q => absurd h q.1
theorem okV_shut {v : Nat → Int32} {k : Nat} (hk : k < 8) (h : v 0 = nI k) (hs : sSh (v 0)) : okV v := ⟨⟨k, hk, h⟩, w0_shut hs⟩
theorem okV_op {v : Nat → Int32} (h : v 0 = 4) : okV v := ⟨⟨4, by decide, h⟩, fun q => absurd h q.2⟩
theorem okV_to {v : Nat → Int32} {x : Int32} (h : okV v) (hw : sWt (v 0)) (hx : st8 x) : okV (upd v 0 x) := ⟨hx, fun _ => h.2 hw⟩
theorem yeV_ok {v : Nat → Int32} (h : okV v) : okV (yeV v) := by
  unfold yeV
  split
  · rename_i e
    exact okV_to h (by rw [e]; decide) ⟨2, by decide, rfl⟩
  · split
    · exact okV_op rfl
    · exact h
theorem mvY_ok {v : Nat → Int32} (h : okV v) : okV (mvY v) := by
  unfold mvY
  split
  · rename_i e
    exact okV_to h (by rw [e]; decide) ⟨3, by decide, rfl⟩
  · split
    · exact okV_op rfl
    · exact h
theorem cnL_ok {v : Nat → Int32} (h : okV v) : okV (cnL v) := by
  unfold cnL
  split
  · exact okV_shut (k := 7) (by decide) rfl (Or.inr (Or.inr rfl))
  · exact h
theorem hbV_ok {v : Nat → Int32} (h : okV v) : okV (hbV v) := by
  unfold hbV
  split
  · exact okV_shut (k := 0) (by decide) rfl (Or.inl rfl)
  · exact h
theorem hbbV_ok {v : Nat → Int32} (h : okV v) : okV (hbbV v) := by
  unfold hbbV
  split
  · exact okV_shut (k := 0) (by decide) rfl (Or.inl rfl)
  · exact h
theorem okv_ctr {lo hi f g : Nat → Int32} {j : Nat} (hb : ¬ lo j < 0 ∧ ¬ 100 < hi j) (hg : okv (g j)) : okv (ctr lo hi f g j) := by
  unfold ctr
  split
  · exact hg
  · split
    · rename_i h
      have h0 : ¬ f j < 0 := by
        have := h.1; have := hb.1
        simp only [Int32.lt_iff_toInt_lt] at *; omega
      have h1 : f j ≤ 100 := by
        have := h.2; have := hb.2
        simp only [Int32.lt_iff_toInt_lt, Int32.le_iff_toInt_le] at *; omega
      obtain ⟨v, hv, e⟩ := nI_of2 (M := 100) (n := 100) (by decide) h0 h1
      exact Or.inr ⟨v, by omega, e⟩
    · exact Or.inl rfl
theorem okv_rfl4 {f g : Nat → Int32} {j : Nat} (hg : okv (g j)) : okv (rfl4 f g j) := by
  unfold rfl4
  split
  · exact hg
  · exact Or.inl rfl
theorem okD_6 {d : Nat → Nat → Int32} {r : Nat → Int32} (h : okD d) (hr : ∀ j, j < 4 → okv (r j)) : okD (va_up d 6 r) := ⟨h.1, h.2.1, h.2.2.1, h.2.2.2.1, hr⟩
theorem okD_7 {d : Nat → Nat → Int32} {r : Nat → Int32} (h : okD d) : okD (va_up d 7 r) := ⟨h.1, h.2.1, h.2.2.1, h.2.2.2.1, h.2.2.2.2⟩
theorem arD_ok {w : Nat → Int32} {d : Nat → Nat → Int32} (h : okD d) : okD (arD w d) := by
  unfold arD
  split
  · exact okD_7 h
  · exact h
theorem ha_ok {lo k se : Int32} {w v : Nat → Int32} {d : Nat → Nat → Int32} {QX QY : Qt} (hv : okV v) (hd : okD d) : okV (ha lo k w v d QX QY se).1 ∧ okD (ha lo k w v d QX QY se).2.1 := by
  unfold ha
  split
  · exact ⟨yeV_ok hv, hd⟩
  · split
    · split
      · exact ⟨rq_ok hv.1, okD_6 hd (fun j hj => okv_ctr (hd.2.2.2.1 j hj) (hd.2.2.2.2 j hj))⟩
      · exact ⟨rq_ok hv.1, okD_6 hd (fun j hj => okv_rfl4 (hd.2.2.2.2 j hj))⟩
    · exact ⟨hv, hd⟩
theorem hr1_ok {lo se : Int32} {v : Nat → Int32} {d : Nat → Nat → Int32} {QX QY : Qt} (hv : okV v) : okV (hr1 lo v d QX QY se).1 := by
  unfold hr1
  split
  · exact rq_ok ⟨1, by decide, rfl⟩
  · exact hv
theorem hr2_ok {w v : Nat → Int32} {d : Nat → Nat → Int32} (hv : okV v) : okV (hr2 w v d) := by
  unfold hr2
  split
  · exact mvY_ok hv
  · split
    · rename_i e
      exact okV_to hv (by rw [e]; decide) ⟨1, by decide, rfl⟩
    · exact hv
theorem hrq_ok {lo nb mk se : Int32} {w v : Nat → Int32} {d : Nat → Nat → Int32} {QX QY : Qt} (hv : okV v) (hd : okD d) : okV (hrq lo nb mk w v d QX QY se).1 ∧ okD (hrq lo nb mk w v d QX QY se).2.1 := by
  unfold hrq
  split
  · exact ⟨cnL_ok hv, hd⟩
  · exact ⟨hr2_ok (hr1_ok hv), arD_ok hd⟩
theorem hea_ok {lo k nb mk se : Int32} {w v : Nat → Int32} {d : Nat → Nat → Int32} {QX QY : Qt} (hv : okV v) (hd : okD d) : okV (hea lo k nb mk w v d QX QY se).1 ∧ okD (hea lo k nb mk w v d QX QY se).2.1 := by
  unfold hea
  split
  · exact ⟨hbV_ok hv, hd⟩
  · split
    · exact ⟨hbbV_ok hv, hd⟩
    · split
      · split
        · exact hrq_ok hv hd
        · split
          · exact ha_ok hv hd
          · exact ⟨hv, hd⟩
      · exact ⟨hv, hd⟩
theorem sSp_le {le mo : Int32} (h : sSp le mo) : le ≤ mo := Int32.not_lt.mp h.2.1
theorem upd_all {g : Nat → Int32} {k : Nat} {x : Int32} {P : Int32 → Prop} (hg : ∀ j, j < 4 → P (g j)) (hx : P x) : ∀ j, j < 4 → P (upd g k x j) := by
  intro j hj
  by_cases e : j = k
  · simp only [upd, if_pos e]; exact hx
  · simp only [upd, if_neg e]; exact hg j hj
theorem okv_in {x le mo : Int32} (hs : sSp le mo) (h : x = -1 ∨ inr x le mo) : okv x := by
  rcases h with h | h
  · exact Or.inl h
  · have h0 : ¬ x < 0 := by
      have := h.1; have := hs.1.1
      simp only [Int32.lt_iff_toInt_lt] at *; omega
    have h1 : x ≤ 100 := by
      have := h.2; have := hs.2.2
      simp only [Int32.lt_iff_toInt_lt, Int32.le_iff_toInt_le] at *; omega
    obtain ⟨v, hv, e⟩ := nI_of2 (M := 100) (n := 100) (by decide) h0 h1
    exact Or.inr ⟨v, by omega, e⟩
theorem wish_ok {d : Nat → Nat → Int32} {k : Nat} {wi le mo : Int32} (h : okD d) (hs : sSp le mo) (hw : wi = -1 ∨ inr wi le mo) : okD (va_up (va_up (va_up d 0 (upd (d 0) k wi)) 1 (upd (d 1) k le)) 2 (upd (d 2) k mo)) := by
  refine ⟨h.1, h.2.1, upd_all h.2.2.1 (okv_in hs hw), fun j hj => ⟨?_, ?_⟩, h.2.2.2.2⟩
  · exact upd_all (P := fun x => ¬ x < 0) (fun j hj => (h.2.2.2.1 j hj).1) hs.1.1 j hj
  · exact upd_all (P := fun x => ¬ 100 < x) (fun j hj => (h.2.2.2.1 j hj).2) hs.2.2 j hj
theorem allow_ok {d : Nat → Nat → Int32} {k : Nat} {le mo : Int32} (h : okD d) (hs : sSp le mo) : okD (va_up (va_up d 3 (upd (d 3) k le)) 4 (upd (d 4) k mo)) := by
  refine ⟨fun j hj => ?_, h.2.1, h.2.2.1, h.2.2.2.1, h.2.2.2.2⟩
  show upd (d 3) k le j ≤ upd (d 4) k mo j
  by_cases e : j = k
  · simp only [upd, if_pos e]; exact sSp_le hs
  · simp only [upd, if_neg e]; exact h.1 j hj
theorem refuse_ok {d : Nat → Nat → Int32} {k : Nat} {q : Int32} (h : okD d) (hq : q = 0 ∨ q = 1) : okD (va_up d 5 (upd (d 5) k q)) := ⟨h.1, upd_all (P := fun x => x = 0 ∨ x = 1) h.2.1 hq, h.2.2.1, h.2.2.2.1, h.2.2.2.2⟩
theorem open_ok {d : Nat → Nat → Int32} (h : okD d) : okD (va_up d 6 (d 0)) := okD_6 h h.2.2.1
theorem close_ok {v : Nat → Int32} : okV (upd (upd (upd v 0 5) 6 1) 4 2) := ⟨⟨5, by decide, rfl⟩, fun _ => Or.inr (Or.inl rfl)⟩
/-- all that holds between two calls -/
def LIN (ix F G : Nat) (x y : Nat → Nat) (xv yv : Nat → Int32) (xd yd xr yr : Nat → Nat → Int32) (xf yf : Nat) (QX QY : Qt) (mm : Nat → Int32) (ct nb : Nat) (gb : Nat → Int32) : Prop :=
  (ix ≤ 1 ∧ en (nI ix) F G (x 0) (y 0)) ∧ (rg xr xf QX ∧ rg yr yf QY) ∧ (okV xv ∧ okV yv) ∧ (okD xd ∧ okD yd) ∧ (mm 0 = 0 ∨ mm 0 = 1) ∧ ((nb = 16 ∨ nb = 34) ∧ ct ≤ nb ∧ bfit nb gb)
theorem LIN.sw {ix F G : Nat} {x y : Nat → Nat} {xv yv : Nat → Int32} {xd yd xr yr : Nat → Nat → Int32} {xf yf : Nat} {QX QY : Qt} {mm : Nat → Int32} {ct nb : Nat} {gb : Nat → Int32} (h : LIN ix F G x y xv yv xd yd xr yr xf yf QX QY mm ct nb gb) : LIN (1 - ix) F G y x yv xv yd xd yr xr yf xf QY QX mm ct nb gb := by
  obtain ⟨⟨h1, h2⟩, ⟨h3, h4⟩, ⟨h5, h6⟩, ⟨h7, h8⟩, h9⟩ := h
  have h10 := en_flip h2
  rw [z_1sub h1] at h10
  exact ⟨⟨by omega, h10⟩, ⟨h4, h3⟩, ⟨h6, h5⟩, ⟨h8, h7⟩, h9⟩
/-- what holds all along the law's body -/
def LCx (p : Program) (l : Launch) (s : State) (m : MethodId) (c : Code) (sc L : Nat) (xs : Nat → Int32) (D : va_G) (cA : Nat → ClassId) (zv : Nat → Nat) (A : Nat → Prop) : Prop :=
  l.stackTraces = false ∧ p.tables.exec = Jvm.exec ∧ c.code = code ∧ c.maxLocals = 7 ∧ s.vm.findClass RL = some m.cls ∧ (∀ w ∈ wsL_law, w.before #[Value.ref sc] s = true) ∧ va_X sc L xs s s.heap ∧ sc < s.heap.size ∧ ¬ A sc ∧ (∀ q : Nat, s.heap.size ≤ q → A q) ∧ va_K D vwCl (ty4 cA) s ∧ zE zv A s s.heap ∧ zX zv A s s.heap
theorem lg_self (x : Int64) : lg_cmp x x = 0 := by
  unfold lg_cmp
  rw [if_neg (by exact Int64.lt_irrefl), if_pos rfl]
theorem hrc (k : Nat) (h : k ≤ 654519) : k ≤ room_1.cells := h
theorem hrs (k : Nat) (h : k ≤ 7132548) : k ≤ room_1.slots := h
section LAWR
variable {p : Program} {l : Launch} {e : Env} {R : Room} {s : State} {m : MethodId} {args : Array Value} {below : List Frame} {meth : Method} {c : Code} {H : Heap} {locs : List Loc} {cells slots : Nat} {Q : State → Prop} {cc : ByteArray} {pc : Nat} {ls : Array Slot} {rest st : List Value} {A : Nat → Prop}
/-- the script at a numbered place -/
theorem z_sld {sc L k : Nat} {xs : Nat → Int32} {v i : Int32} (hexec : p.tables.exec = Jvm.exec) (hb : c.code = cc) (hX : va_X sc L xs s s.heap) (hbl : sc < s.heap.size) (hbA : ¬ A sc) (hS : va_S A s.heap H locs) (hi : i = nI k) (hk : k < L) (hL : L ≤ 3072) (hv : xs k = v) (hdg : decode cc pc = .ok (.iaload, 1))
    (kk : W p l e R s m args below meth c H locs cells slots Q (F0 m (pc + 1) ls (.int v :: rest))) : W p l e R s m args below meth c H locs cells slots Q (F0 m pc ls (.int i :: .ref sc :: rest)) := by
  subst hi; subst hv
  refine va_sld hexec hb hX hbl hbA hS (vp_in_nI hk (by omega)) hdg ?_
  rw [nI_clamp (by omega)]; exact kk
end LAWR
