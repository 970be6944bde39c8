/-! methods with a table of handlers, all of whose throws are caught in them -/
theorem z_ofWH {l : Launch} {y : MethodName} {ws ws' : List Cond} {rm : Room} {Pc : Array Value → State → Prop} {Qc : Array Value → State → Outcome → State → Prop} {mc ms : Nat} {free : Addr → Prop} {cc : ByteArray} {maxL : Nat} {ret : Option FieldType} {hh : List (Nat × Nat × Nat × Nat)}
    (hy : plainName y.cls = true) (hw : ws = Cond.codeWith y cc maxL ret hh :: ws')
    (body : ∀ p e s m args below meth c s₁, BodyLoose p l y (headSpec ws rm) cc maxL ret e s m args below meth c s₁ → c.maxLocals = maxL → c.exceptionTable.toList = tableOf hh → Pc args s →
      W p l e (headSpec ws rm).room s m args below meth c s.heap [] 0 0 (MQ below Qc args s mc ms free) (entryFrame m args maxL)) : Met l y ws rm Pc Qc mc ms free := by
  refine MetFree.of_bodyS (code := cc) (maxLocals := maxL) (ret := ret) hy ?_ ?_
  · intro args s m h hn
    obtain ⟨m9, meth, c, hn9, h1, h2, h3, h4, -, h5, h6, -⟩ := Cond.codeWith_spec (atoms_spec (ws := ws) h _ (by rw [hw]; exact List.mem_cons_self))
    cases hn.symm.trans hn9
    exact ⟨meth, c, h1, h2, h3, h4, h5, h6⟩
  · intro p e s m args below meth c s₁ B hml hP _
    have hh0 : s₁.heap = s.heap := by rw [B.state]; rfl
    have htab := vx_table (x := y) B (atoms_spec (ws := ws) B.pre _ (by rw [hw]; exact List.mem_cons_self))
    obtain ⟨t, a1, o, b1, b2, b3⟩ := body p e s m args below meth c s₁ B hml htab hP s₁ hh0 (Stand.of_body B)
    exact ⟨t, o, a1, b1, b2, ⟨b3.1, b3.2⟩⟩
/-! methods that read the script -/
def zUS (D : va_G) (cA : Nat → ClassId) (zv : Nat → Nat) (sc L : Nat) (xs : Nat → Int32) (sz : Nat) (ws : va_W) : State → Prop := fun U => zUX D cA zv sz ws U ∧ va_T .int sc L (fun j => .int (xs j)) (va_A ws sz) U U.heap
theorem zUS_blind {av : List Value} {D : va_G} {cA : Nat → ClassId} {zv : Nat → Nat} {sc L : Nat} {xs : Nat → Int32} {sz : Nat} {ws : va_W} : FrameBlind (va_Pc av (zUS D cA zv sc L xs sz ws)) := fun a U g mk q => by
  obtain ⟨q0, q1, q2⟩ := q
  have h := zUX_blind (av := av) (D := D) (cA := cA) (zv := zv) (sz := sz) (ws := ws) a U g mk ⟨q0, q1⟩
  exact ⟨q0, h.2, va_T.moved (u := U) (U := U.calling g mk a) (Vm.Alike.refl U.vm) q2⟩
theorem zUS_call {D : va_G} {cA : Nat → ClassId} {zv : Nat → Nat} {wc : va_W} {A : Nat → Prop} {H : Heap} {locs : List Loc} {s U : State} {sc L : Nat} {xs : Nat → Int32} (hE : zE zv A s s.heap) (hX : zX zv A s s.heap) (hT : va_T .int sc L (fun j => .int (xs j)) A s s.heap) (hS : va_S A s.heap H locs) (hF : ∀ q, va_A wc H.size q → A q) (hU : U.heap = H) (hP : va_P D vwCl wc H) (hW : s.WarmedH U.vm) (hK : va_K D vwCl (ty4 cA) s) (hD : va_D A wc) : zUS D cA zv sc L xs H.size wc U :=
  ⟨zUX_call hE hX hS hF hU hP hW hK hD, by rw [hU]; exact va_T.moved hW.alike ((hT.kept hS.2.1).narrow hF)⟩
section SCR
variable {p : Program} {l : Launch} {e : Env} {R : Room} {s : State} {m : MethodId} {args : Array Value} {below : List Frame} {meth : Method} {c : Code} {H : Heap} {locs : List Loc} {cells slots : Nat} {Q : State → Prop} {cc : ByteArray} {pc : Nat} {ls : Array Slot} {rest st : List Value} {A : Nat → Prop}
theorem z_scr {sc L k : Nat} {xs : Nat → Int32} {i : Int32} (hexec : p.tables.exec = Jvm.exec) (hb : c.code = cc) (hT : va_T .int sc L (fun j => .int (xs j)) A s s.heap) (hS : va_S A s.heap H locs) (hi : i = nI k) (hk : k < L) (hL : L < 2 ^ 31) (hdg : decode cc pc = .ok (.iaload, 1))
    (kk : W p l e R s m args below meth c H locs cells slots Q (F0 m (pc + 1) ls (.int (xs k) :: rest))) : W p l e R s m args below meth c H locs cells slots Q (F0 m pc ls (.int i :: .ref sc :: rest)) := by
  subst hi
  exact va_ti hexec hb hT hS (vp_in_nI hk hL) (by show Value.int (xs (nI k).toNatClampNeg) = _; rw [nI_clamp (by omega)]) hdg kk
end SCR
