/-! what every method may take as given of statics and constants: zv gives the addresses -/
def zTx : List (Nat × String × Nat) := [(184, "an end is 0 or 1", 1), (186, "an option is 0 to 3", 2), (188, "least and most are 0 to 100, most not below least", 3), (61, "the wish is not within the limits", 4), (193, "the end is not shut", 5), (93, "a mark is 1 to 999", 6), (123, "the end is shut or CLOSING", 7), (195, "no packet waits there", 8), (177, "the line has no such place", 9)]
def zE (zv : Nat → Nat) (A : Nat → Prop) (U : State) (H : Heap) : Prop :=
  (va_Z RX3 "NO_VALUES" "[I" (.ref (zv 0)) A U H ∧ va_T .int (zv 0) 4 (fun _ => .int (-1)) A U H) ∧
  (vx_Zq Bundle.tN "UNASSIGNED_STACK" Bundle.steD A U H ∧ vx_Zq Bundle.tN "SUPPRESSED_SENTINEL" Bundle.listD A U H) ∧
  (va_Nw (.methodLinkNest RX0 39 yX2_init RX3) U ∧ va_Nw (.methodLinkNest RX3 32 yX1_init RX3) U ∧ va_Nw (.methodLinkNest RX0 80 yX3_copyValues RX3) U) ∧
  (∀ q ∈ zTx, vk_R RX3 q.1 q.2.1 (zv q.2.2) U)
theorem zE.go {zv : Nat → Nat} {A B : Nat → Prop} {s U : State} {H0 H : Heap} (h : zE zv A s H0) (hq : ∀ a : Nat, a < H0.size → ¬ A a → H[a]? = H0[a]?) (hAB : ∀ q, B q → A q) (hW : s.WarmedH U.vm) : zE zv B U H := by
  obtain ⟨⟨h1, h2⟩, ⟨h3, h4⟩, ⟨h5, h6, h7⟩, h8⟩ := h
  exact ⟨⟨va_Z.moved hW.alike ((h1.kept hq).narrow hAB), va_T.moved hW.alike ((h2.kept hq).narrow hAB)⟩, ⟨vx_Zq.moved hW.alike ((h3.kept hq).narrow hAB), vx_Zq.moved hW.alike ((h4.kept hq).narrow hAB)⟩, ⟨va_Nw.warmM hW h5, va_Nw.warmM hW h6, va_Nw.warmM hW h7⟩, fun q hm => vk_R.warm hW (h8 q hm)⟩
theorem zE.same {zv : Nat → Nat} {A : Nat → Prop} {u U : State} {H : Heap} (h : zE zv A u H) (hv : u.vm = U.vm) : zE zv A U H := by
  obtain ⟨⟨h1, h2⟩, ⟨h3, h4⟩, ⟨h5, h6, h7⟩, h8⟩ := h
  have ha : u.vm.Alike U.vm := hv ▸ Vm.Alike.refl u.vm
  exact ⟨⟨va_Z.moved ha h1, va_T.moved ha h2⟩, ⟨vx_Zq.moved ha h3, vx_Zq.moved ha h4⟩, ⟨va_Nw.same rfl hv h5, va_Nw.same rfl hv h6, va_Nw.same rfl hv h7⟩, fun q hm => vk_R.same hv.symm (h8 q hm)⟩
def zUE (D : va_G) (cA : Nat → ClassId) (zv : Nat → Nat) (sz : Nat) (ws : va_W) : State → Prop := fun U => U.heap.size = sz ∧ va_P D vwCl ws U.heap ∧ va_K D vwCl (ty4 cA) U ∧ va_D (fun _ => True) ws ∧ zE zv (va_A ws sz) U U.heap
theorem zUE_blind {av : List Value} {D : va_G} {cA : Nat → ClassId} {zv : Nat → Nat} {sz : Nat} {ws : va_W} : FrameBlind (va_Pc av (zUE D cA zv sz ws)) := fun a U g mk q => by
  obtain ⟨q0, q1, qP, qK, qD, qE⟩ := q
  exact ⟨q0, q1, qP, va_K.moved (u := U) (U := U.calling g mk a) (Vm.Alike.refl U.vm) qK, qD, qE.same (u := U) (U := U.calling g mk a) rfl⟩
theorem zUE_call {D : va_G} {cA : Nat → ClassId} {zv : Nat → Nat} {wc : va_W} {A : Nat → Prop} {H : Heap} {locs : List Loc} {s U : State} (hE : zE zv A s s.heap) (hS : va_S A s.heap H locs) (hF : ∀ q, va_A wc H.size q → A q) (hU : U.heap = H) (hP : va_P D vwCl wc H) (hW : s.WarmedH U.vm) (hK : va_K D vwCl (ty4 cA) s) (hD : va_D A wc) : zUE D cA zv H.size wc U :=
  ⟨by rw [hU], by rw [hU]; exact hP, va_K.moved hW.alike hK, hD.weaken (fun _ _ _ _ => trivial), by rw [hU]; exact hE.go hS.2.1 hF hW⟩
section ZZE
variable {p : Program} {l : Launch} {e : Env} {R : Room} {s : State} {m : MethodId} {args : Array Value} {below : List Frame} {meth : Method} {c : Code} {H : Heap} {locs : List Loc} {cells slots : Nat} {Q : State → Prop} {cc : ByteArray} {pc : Nat} {ls : Array Slot} {rest st : List Value} {A : Nat → Prop}
theorem z_nv {zv : Nat → Nat} {k : Nat} {i : Int32} (hexec : p.tables.exec = Jvm.exec) (hb : c.code = cc) (hE : zE zv A s s.heap) (hS : va_S A s.heap H locs) (hi : i = nI k) (hk : k < 4) (hdg : decode cc pc = .ok (.iaload, 1))
    (kk : W p l e R s m args below meth c H locs cells slots Q (F0 m (pc + 1) ls (.int (-1) :: rest))) : W p l e R s m args below meth c H locs cells slots Q (F0 m pc ls (.int i :: .ref (zv 0) :: rest)) := by
  subst hi
  exact va_ti hexec hb hE.1.2 hS (vp_in_nI hk (by decide)) rfl hdg kk
end ZZE
/-! queues: how many wait, and the numbers of each: kind, number, mark, four values -/
abbrev Qt : Type := Nat × (Nat → Nat → Int32)
def pk (k n m : Int32) (f : Nat → Int32) : Nat → Int32 := fun j => if j = 0 then k else if j = 1 then n else if j = 2 then m else f (j - 3)
def push (p : Nat → Int32) (Q : Qt) : Qt := if Q.1 < 12 then (Q.1 + 1, fun i => if i = Q.1 then p else Q.2 i) else Q
def pop (Q : Qt) : Qt := (Q.1 - 1, fun i => if i < Q.1 - 1 then Q.2 (i + 1) else Q.2 i)
/-- a ring of twelve places holds a queue -/
def rg (r : Nat → Nat → Int32) (fi : Nat) (Q : Qt) : Prop := fi < 12 ∧ Q.1 ≤ 12 ∧ ∀ i, i < Q.1 → r 0 ((fi + i) % 12) = Q.2 i 0 ∧ r 1 ((fi + i) % 12) = Q.2 i 1 ∧ r 2 ((fi + i) % 12) = Q.2 i 2 ∧ ∀ k, k < 4 → r 3 ((fi + i) % 12 * 4 + k) = Q.2 i (3 + k)
/-- four places of a row from 4*s on, j of them put -/
def bput (j : Nat) (g : Nat → Int32) (s : Nat) (f : Nat → Int32) : Nat → Int32 := fun k => if s * 4 ≤ k ∧ k < s * 4 + j then f (k - s * 4) else g k
theorem bput_0 {g : Nat → Int32} {s : Nat} {f : Nat → Int32} : g = bput 0 g s f := by
  funext k
  have h : ¬ (s * 4 ≤ k ∧ k < s * 4 + 0) := by omega
  simp only [bput, if_neg h]
theorem bput_s {j : Nat} {g : Nat → Int32} {s : Nat} {f : Nat → Int32} {x : Int32} (h : f j = x) : upd (bput j g s f) (s * 4 + j) x = bput (j + 1) g s f := by
  funext k
  by_cases h1 : k = s * 4 + j
  · subst h1
    have h2 : s * 4 ≤ s * 4 + j ∧ s * 4 + j < s * 4 + (j + 1) := by omega
    have h3 : s * 4 + j - s * 4 = j := by omega
    simp only [upd, bput, if_true, if_pos h2, h3, h]
  · by_cases h2 : s * 4 ≤ k ∧ k < s * 4 + j
    · have h3 : s * 4 ≤ k ∧ k < s * 4 + (j + 1) := by omega
      simp only [upd, bput, if_neg h1, if_pos h2, if_pos h3]
    · have h3 : ¬ (s * 4 ≤ k ∧ k < s * 4 + (j + 1)) := by omega
      simp only [upd, bput, if_neg h1, if_neg h2, if_neg h3]
theorem push_y {p : Nat → Int32} {Q : Qt} (h : Q.1 < 12) : push p Q = (Q.1 + 1, fun i => if i = Q.1 then p else Q.2 i) := if_pos h
theorem push_n {p : Nat → Int32} {Q : Qt} (h : ¬ Q.1 < 12) : push p Q = Q := if_neg h
theorem rg_push {r r' : Nat → Nat → Int32} {fi s : Nat} {Q : Qt} {kd nb mk : Int32} {f : Nat → Int32} (h : rg r fi Q) (hn : Q.1 < 12) (hs : s = (fi + Q.1) % 12)
    (h0 : r' 0 = upd (r 0) s kd) (h1 : r' 1 = upd (r 1) s nb) (h2 : r' 2 = upd (r 2) s mk) (h3 : r' 3 = bput 4 (r 3) s f) : rg r' fi (push (pk kd nb mk f) Q) := by
  obtain ⟨a1, a2, a3⟩ := h
  rw [push_y hn]
  refine ⟨a1, by show Q.1 + 1 ≤ 12; omega, ?_⟩
  intro i hi
  have hi : i < Q.1 + 1 := hi
  rw [h0, h1, h2, h3]
  by_cases hq : i = Q.1
  · subst hq
    rw [← hs]
    refine ⟨by simp [upd, pk], by simp [upd, pk], by simp [upd, pk], ?_⟩
    intro k hk
    have e : s * 4 ≤ s * 4 + k ∧ s * 4 + k < s * 4 + 4 := by omega
    have e2 : s * 4 + k - s * 4 = k := by omega
    have e3 : 3 + k - 3 = k := by omega
    have e4 : ¬ 3 + k = 0 := by omega
    have e5 : ¬ 3 + k = 1 := by omega
    have e6 : ¬ 3 + k = 2 := by omega
    simp only [bput, if_pos e, e2, pk, if_true, if_neg e4, if_neg e5, if_neg e6, e3]
  · have hl : i < Q.1 := by omega
    have ne : ¬ (fi + i) % 12 = s := by omega
    obtain ⟨b0, b1, b2, b3⟩ := a3 i hl
    refine ⟨by simp [upd, ne, hq, b0], by simp [upd, ne, hq, b1], by simp [upd, ne, hq, b2], ?_⟩
    intro k hk
    have e : ¬ (s * 4 ≤ (fi + i) % 12 * 4 + k ∧ (fi + i) % 12 * 4 + k < s * 4 + 4) := by omega
    simp only [bput, if_neg e, if_neg hq]
    exact b3 k hk
theorem rg_pop {r : Nat → Nat → Int32} {fi fi' : Nat} {Q : Qt} (h : rg r fi Q) (h0 : 0 < Q.1) (hf : fi' = (fi + 1) % 12) : rg r fi' (pop Q) := by
  obtain ⟨a1, a2, a3⟩ := h
  refine ⟨by omega, by show Q.1 - 1 ≤ 12; omega, ?_⟩
  intro i hi
  have hi : i < Q.1 - 1 := hi
  have e : (fi' + i) % 12 = (fi + (i + 1)) % 12 := by omega
  rw [e]
  show _ = (if i < Q.1 - 1 then Q.2 (i + 1) else Q.2 i) 0 ∧ _ = (if i < Q.1 - 1 then Q.2 (i + 1) else Q.2 i) 1 ∧ _ = (if i < Q.1 - 1 then Q.2 (i + 1) else Q.2 i) 2 ∧ ∀ k, k < 4 → _ = (if i < Q.1 - 1 then Q.2 (i + 1) else Q.2 i) (3 + k)
  rw [if_pos hi]
  exact a3 (i + 1) (by omega)
theorem rg_at {r : Nat → Nat → Int32} {fi : Nat} {Q : Qt} (h : rg r fi Q) {i : Nat} (hi : i < Q.1) : r 0 ((fi + i) % 12) = Q.2 i 0 := (h.2.2 i hi).1
theorem rg_hd {r : Nat → Nat → Int32} {fi : Nat} {Q : Qt} (h : rg r fi Q) (h0 : 0 < Q.1) : r 0 fi = Q.2 0 0 ∧ r 1 fi = Q.2 0 1 ∧ r 2 fi = Q.2 0 2 ∧ ∀ k, k < 4 → r 3 (fi * 4 + k) = Q.2 0 (3 + k) := by
  have h1 := h.2.2 0 h0
  have e : (fi + 0) % 12 = fi := by have := h.1; omega
  rw [e] at h1
  exact h1
theorem nI_sub1 {n : Nat} (h : 0 < n) : nI n - 1 = nI (n - 1) := by
  obtain ⟨k, rfl⟩ : ∃ k, n = k + 1 := ⟨n - 1, by omega⟩
  exact nI_pred k
