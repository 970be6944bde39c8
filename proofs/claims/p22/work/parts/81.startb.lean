set_option maxHeartbeats 4000000 in
set_option maxRecDepth 100000 in
theorem start_facts {args : Array Value} {s : State} (hts : ∀ w ∈ lw_tbl, w.before args s = true) (hgv : (Jvm.Cond.and given_1 narrow_1).before args s = true) : ∃ zv : Nat → Nat, zE zv (fun q : Nat => s.heap.size ≤ q) s s.heap ∧ zX zv (fun q : Nat => s.heap.size ≤ q) s s.heap := by
  have hf := zFl_b hgv
  have hA : ∀ a : Nat, a < s.heap.size → ¬ (fun q : Nat => s.heap.size ≤ q) a := fun a h => Nat.not_le.mpr h
  obtain ⟨t0, e0, T0⟩ := va_Tof (args := args) (s := s) (tm := .static "OptionWire" "NO_VALUES" "[I") (ty := .int) (N := 4) (f := fun _ => .int (-1)) (by decide) (hf (.arrayOf (.static "OptionWire" "NO_VALUES" "[I") .int) (by decide +kernel)) (va_eqt (hf (.eq (.length (.static "OptionWire" "NO_VALUES" "[I")) (.int 4)) (by decide +kernel))) (fun j hj => va_eqt (hf _ (zf_nv j hj))) hA
  obtain ⟨d1, ed1, Td1⟩ := va_Tof (args := args) (s := s) (tm := .static "java/lang/Integer" "DigitOnes" "[B") (ty := .byte) (N := 100) (f := fun j => .int (nI (48 + j % 10))) (by decide) (hf (.arrayOf (.static "java/lang/Integer" "DigitOnes" "[B") .byte) (by decide +kernel)) (va_eqt (hf (.eq (.length (.static "java/lang/Integer" "DigitOnes" "[B")) (.int 100)) (by decide +kernel))) (fun j hj => va_eqt (hf _ (zf_do j hj))) hA
  obtain ⟨d2, ed2, Td2⟩ := va_Tof (args := args) (s := s) (tm := .static "java/lang/Integer" "DigitTens" "[B") (ty := .byte) (N := 100) (f := fun j => .int (nI (48 + j / 10))) (by decide) (hf (.arrayOf (.static "java/lang/Integer" "DigitTens" "[B") .byte) (by decide +kernel)) (va_eqt (hf (.eq (.length (.static "java/lang/Integer" "DigitTens" "[B")) (.int 100)) (by decide +kernel))) (fun j hj => va_eqt (hf _ (zf_dt j hj))) hA
  obtain ⟨a1, _, _, _, g1, _⟩ := Cond.exactly_spec (args := args) (first := s) (o := none) (s := s) (idx := []) (t := .string "OptionWire" 184) (cls := "java/lang/String") (hf (.exactly (.string "OptionWire" 184) "java/lang/String") (by decide +kernel))
  obtain ⟨a2, _, _, _, g2, _⟩ := Cond.exactly_spec (args := args) (first := s) (o := none) (s := s) (idx := []) (t := .string "OptionWire" 186) (cls := "java/lang/String") (hf (.exactly (.string "OptionWire" 186) "java/lang/String") (by decide +kernel))
  obtain ⟨a3, _, _, _, g3, _⟩ := Cond.exactly_spec (args := args) (first := s) (o := none) (s := s) (idx := []) (t := .string "OptionWire" 188) (cls := "java/lang/String") (hf (.exactly (.string "OptionWire" 188) "java/lang/String") (by decide +kernel))
  obtain ⟨a4, _, _, _, g4, _⟩ := Cond.exactly_spec (args := args) (first := s) (o := none) (s := s) (idx := []) (t := .string "OptionWire" 61) (cls := "java/lang/String") (hf (.exactly (.string "OptionWire" 61) "java/lang/String") (by decide +kernel))
  obtain ⟨a5, _, _, _, g5, _⟩ := Cond.exactly_spec (args := args) (first := s) (o := none) (s := s) (idx := []) (t := .string "OptionWire" 193) (cls := "java/lang/String") (hf (.exactly (.string "OptionWire" 193) "java/lang/String") (by decide +kernel))
  obtain ⟨a6, _, _, _, g6, _⟩ := Cond.exactly_spec (args := args) (first := s) (o := none) (s := s) (idx := []) (t := .string "OptionWire" 93) (cls := "java/lang/String") (hf (.exactly (.string "OptionWire" 93) "java/lang/String") (by decide +kernel))
  obtain ⟨a7, _, _, _, g7, _⟩ := Cond.exactly_spec (args := args) (first := s) (o := none) (s := s) (idx := []) (t := .string "OptionWire" 123) (cls := "java/lang/String") (hf (.exactly (.string "OptionWire" 123) "java/lang/String") (by decide +kernel))
  obtain ⟨a8, _, _, _, g8, _⟩ := Cond.exactly_spec (args := args) (first := s) (o := none) (s := s) (idx := []) (t := .string "OptionWire" 195) (cls := "java/lang/String") (hf (.exactly (.string "OptionWire" 195) "java/lang/String") (by decide +kernel))
  obtain ⟨a9, _, _, _, g9, _⟩ := Cond.exactly_spec (args := args) (first := s) (o := none) (s := s) (idx := []) (t := .string "OptionWire" 177) (cls := "java/lang/String") (hf (.exactly (.string "OptionWire" 177) "java/lang/String") (by decide +kernel))
  obtain ⟨adK, adV, hVS, hVe⟩ := vk_Sof (args := args) (s := s) (N := 8) (tm := zTm) (len := zLen) (byt := zByt) (fun i hi => by have q9 := zlen7 hi; omega) (fun i hi => hf _ (zf_ex i hi)) (fun i hi => hf _ (zf_co i hi)) (fun i hi => hf _ (zf_ar i hi)) (fun i hi => hf _ (zf_le i hi)) (fun i hi j hj => hf _ (zf_el i hi j hj)) (fun i j hi hj hne => (zf_ne i j hi hj hne).elim (fun h => Or.inl (hf _ h)) (fun h => Or.inr (hf _ h))) hA
  refine ⟨zVm [t0, a1, a2, a3, a4, a5, a6, a7, a8, a9, d1, d2] adK adV, ?_, ?_⟩
  · refine ⟨⟨va_Zof (hts (.laysStatic "OptionWire" "NO_VALUES" "[I") (by decide +kernel)) (hts (.initialized "OptionWire") (by decide +kernel)) e0 hA, T0⟩, ⟨vx_Zqof (hts (.laysStatic "java/lang/Throwable" "UNASSIGNED_STACK" "[Ljava/lang/StackTraceElement;") (by decide +kernel)) (hts (.initialized "java/lang/Throwable") (by decide +kernel)) (hf (.isRef (.static "java/lang/Throwable" "UNASSIGNED_STACK" "[Ljava/lang/StackTraceElement;")) (by decide +kernel)) hA, vx_Zqof (hts (.laysStatic "java/lang/Throwable" "SUPPRESSED_SENTINEL" "Ljava/util/List;") (by decide +kernel)) (hts (.initialized "java/lang/Throwable") (by decide +kernel)) (hf (.isRef (.static "java/lang/Throwable" "SUPPRESSED_SENTINEL" "Ljava/util/List;")) (by decide +kernel)) hA⟩, ⟨va_Nw.of rfl (hts (.methodLinkNest RX0 39 yX2_init RX3) (by decide +kernel)), va_Nw.of rfl (hts (.methodLinkNest RX3 32 yX1_init RX3) (by decide +kernel)), va_Nw.of rfl (hts (.methodLinkNest RX0 80 yX3_copyValues RX3) (by decide +kernel))⟩, ?_⟩
    intro q hq
    simp only [zTx, List.mem_cons, List.not_mem_nil, or_false] at hq
    rcases hq with rfl | rfl | rfl | rfl | rfl | rfl | rfl | rfl | rfl
    · exact vk_R.of (hts (.stringRef RX3 184 "an end is 0 or 1") (by decide +kernel)) g1
    · exact vk_R.of (hts (.stringRef RX3 186 "an option is 0 to 3") (by decide +kernel)) g2
    · exact vk_R.of (hts (.stringRef RX3 188 "least and most are 0 to 100, most not below least") (by decide +kernel)) g3
    · exact vk_R.of (hts (.stringRef RX3 61 "the wish is not within the limits") (by decide +kernel)) g4
    · exact vk_R.of (hts (.stringRef RX3 193 "the end is not shut") (by decide +kernel)) g5
    · exact vk_R.of (hts (.stringRef RX3 93 "a mark is 1 to 999") (by decide +kernel)) g6
    · exact vk_R.of (hts (.stringRef RX3 123 "the end is shut or CLOSING") (by decide +kernel)) g7
    · exact vk_R.of (hts (.stringRef RX3 195 "no packet waits there") (by decide +kernel)) g8
    · exact vk_R.of (hts (.stringRef RX3 177 "the line has no such place") (by decide +kernel)) g9
  · refine ⟨⟨?_, ?_⟩, ⟨va_Zof (hts (.laysStatic "java/lang/String" "COMPACT_STRINGS" "Z") (by decide +kernel)) (hts (.initialized "java/lang/String") (by decide +kernel)) (va_eqi (hf (.eq (.static "java/lang/String" "COMPACT_STRINGS" "Z") (.int 1)) (by decide +kernel))) hA, va_Zof (hts (.laysStatic "java/lang/Integer" "DigitOnes" "[B") (by decide +kernel)) (hts (.initialized "java/lang/Integer") (by decide +kernel)) ed1 hA, Td1, va_Zof (hts (.laysStatic "java/lang/Integer" "DigitTens" "[B") (by decide +kernel)) (hts (.initialized "java/lang/Integer") (by decide +kernel)) ed2 hA, Td2⟩, ⟨?_, ?_⟩, va_Zqof (hts (.laysStatic "jdk/internal/util/Preconditions" "SIOOBE_FORMATTER" "Ljava/util/function/BiFunction;") (by decide +kernel)) (hts (.initialized "jdk/internal/util/Preconditions") (by decide +kernel)) (hf (.isRef (.static "jdk/internal/util/Preconditions" "SIOOBE_FORMATTER" "Ljava/util/function/BiFunction;")) (by decide +kernel)) hA, va_Nc.of (hf (.not (.castable "java/lang/IllegalArgumentException" "java/lang/IllegalStateException")) (by decide +kernel)), va_Nc.of (hf (.not (.castable "java/util/NoSuchElementException" "java/lang/IllegalStateException")) (by decide +kernel))⟩
    · intro X hX
      simp only [List.mem_cons, List.not_mem_nil, or_false] at hX
      rcases hX with rfl | rfl | rfl
      · exact va_Nw.of rfl (hts (.castable "java/lang/IllegalArgumentException" "java/lang/IllegalArgumentException") (by decide +kernel))
      · exact va_Nw.of rfl (hts (.castable "java/lang/IllegalStateException" "java/lang/IllegalStateException") (by decide +kernel))
      · exact va_Nw.of rfl (hts (.castable "java/util/NoSuchElementException" "java/util/NoSuchElementException") (by decide +kernel))
    · intro x hx
      simp only [zBd, List.mem_cons, List.not_mem_nil, or_false] at hx
      rcases hx with rfl | rfl | rfl
      · exact va_Nw.of rfl (hts (.declares (Bundle.initS "java/lang/RuntimeException")) (by decide +kernel))
      · exact va_Nw.of rfl (hts (.declares (Bundle.initS "java/lang/Exception")) (by decide +kernel))
      · exact va_Nw.of rfl (hts (.declares (Bundle.initS Bundle.tN)) (by decide +kernel))
    · intro q hq
      simp only [zNm, List.mem_cons, List.not_mem_nil, or_false] at hq
      rcases hq with rfl | rfl | rfl | rfl | rfl | rfl | rfl | rfl
      · exact vk_R.of (hts (.stringRef RX3 294 "closed") (by decide +kernel)) (hVe 0 (by decide))
      · exact vk_R.of (hts (.stringRef RX3 281 "asking") (by decide +kernel)) (hVe 1 (by decide))
      · exact vk_R.of (hts (.stringRef RX3 283 "heard") (by decide +kernel)) (hVe 2 (by decide))
      · exact vk_R.of (hts (.stringRef RX3 285 "told") (by decide +kernel)) (hVe 3 (by decide))
      · exact vk_R.of (hts (.stringRef RX3 287 "opened") (by decide +kernel)) (hVe 4 (by decide))
      · exact vk_R.of (hts (.stringRef RX3 289 "closing") (by decide +kernel)) (hVe 5 (by decide))
      · exact vk_R.of (hts (.stringRef RX3 291 "failed") (by decide +kernel)) (hVe 6 (by decide))
      · exact vk_R.of (hts (.stringRef RX3 293 "looped") (by decide +kernel)) (hVe 7 (by decide))
    · refine ⟨fun i hi => ?_, fun i j hi hj h => hVS.2 i j hi hj ?_⟩
      · have q9 := hVS.1 i hi
        rw [← zVm_K (L := [t0, a1, a2, a3, a4, a5, a6, a7, a8, a9, d1, d2]) (adK := adK) (adV := adV) hi, ← zVm_V (L := [t0, a1, a2, a3, a4, a5, a6, a7, a8, a9, d1, d2]) (adK := adK) (adV := adV) hi] at q9
        exact q9
      · have q9 := h
        dsimp only at q9
        rw [zVm_K hi, zVm_K hj] at q9
        exact q9
