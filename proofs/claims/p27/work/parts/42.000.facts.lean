section ZFA
variable {args : Array Value} {s : State} {A : Nat → Prop}
theorem z_arrC {ty : FieldType} (h : (Cond.arrayClass ty).before args s = true) : ∃ cA : ClassId, s.vm.findClass ("[" ++ ty.toString) = some cA ∧ ArrOfT s cA ty := by
  obtain ⟨cA, kA, comp, h1, h2, h3⟩ := Cond.arrayClass_spec (args := args) (first := s) (o := none) (s := s) (idx := []) (type := ty) h
  exact ⟨cA, h1, fun n z => ⟨(fun k h => by cases h), kA, h2, comp, h3⟩⟩
theorem z_arrO {C : String} (h : va_AO C s) : ∃ cA : ClassId, ArrOfT s cA (.object C) ∧ va_RA s cA (.object C) := by
  obtain ⟨comp, c, k, h1, h2, h3, h4, h5⟩ := Cond.arrayOver_spec h
  exact ⟨c, fun n z => ⟨(fun k h => by cases h), k, h3, comp, h4⟩, k, comp, h3, h4, h1, h5⟩
theorem z_Rof {own tx : String} {k : Nat} (h1 : (Cond.stringRef own k tx).before args s = true) (h2 : (Cond.exactly (.string own k) "java/lang/String").before args s = true) : ∃ a : Nat, vk_R own k tx a s := by
  obtain ⟨a, c, cell, kk, q1, -⟩ := Cond.exactly_spec (args := args) (first := s) (o := none) (s := s) (idx := []) (t := .string own k) (cls := "java/lang/String") h2
  exact ⟨a, vk_R.of h1 q1⟩
theorem z_Wof {own tx : String} {k : Nat} (w : List Int32) (hw : w.length < 2 ^ 31) (h1 : (Cond.stringRef own k tx).before args s = true) (h2 : (Cond.exactly (.string own k) "java/lang/String").before args s = true) (h3 : (Cond.eq (.field (.string own k) "java/lang/String" "coder" "B") (.int 0)).before args s = true)
    (h4 : (Cond.arrayOf (.field (.string own k) "java/lang/String" "value" "[B") .byte).before args s = true) (h5 : (Cond.eq (.length (.field (.string own k) "java/lang/String" "value" "[B")) (.int (Int32.ofNat w.length))).before args s = true)
    (h6 : ∀ j : Nat, j < w.length → (Cond.eq (.elem (.field (.string own k) "java/lang/String" "value" "[B") (.int (Int32.ofNat j))) (.int (w.getD j 0))).before args s = true) (hA : ∀ a : Nat, a < s.heap.size → ¬ A a) : ∃ a : Nat, vk_R own k tx a s ∧ zStr a w A s s.heap := by
  have e0 : ∀ i : Nat, i < 1 → i = 0 := fun i hi => by omega
  obtain ⟨adK, adV, hS, hE⟩ := vk_Sof (args := args) (s := s) (A := A) (N := 1) (tm := fun _ => .string own k) (len := [w.length]) (byt := [w]) (fun i hi => by rw [e0 i hi]; exact hw) (fun i hi => h2) (fun i hi => h3) (fun i hi => h4) (fun i hi => by rw [e0 i hi]; exact h5) (fun i hi => by rw [e0 i hi]; exact h6) (fun i j hi hj h => absurd ((e0 i hi).trans (e0 j hj).symm) h) hA
  obtain ⟨a1, a2, a3, a4⟩ := hS.1 0 (by omega)
  exact ⟨adK 0, vk_R.of h1 (hE 0 (by omega)), a1, a2, adV 0, a3, a4⟩
theorem zf_XA (hts : ∀ w ∈ lw_tbl, w.before args s = true) : zXA A s s.heap := by
  refine ⟨va_AO.of (hts _ (zPiece_in 1 _ (List.mem_of_getElem? (i := 145) (by decide +kernel)))), ⟨va_AO.of (hts _ (zPiece_in 2 _ (List.mem_of_getElem? (i := 135) (by decide +kernel)))), va_AO.of (hts _ (zPiece_in 5 _ (List.mem_of_getElem? (i := 94) (by decide +kernel)))), va_Nw.of rfl (hts _ (zPiece_in 2 _ (List.mem_of_getElem? (i := 167) (by decide +kernel))))⟩, fun q hq => ?_⟩
  simp only [zNst, List.mem_cons, List.not_mem_nil, or_false] at hq
  rcases hq with rfl | rfl | rfl | rfl | rfl | rfl
  · exact va_Nw.of rfl (hts _ (zPiece_in 1 _ (List.mem_of_getElem? (i := 33) (by decide +kernel))))
  · exact va_Nw.of rfl (hts _ (zPiece_in 1 _ (List.mem_of_getElem? (i := 159) (by decide +kernel))))
  · exact va_Nw.of rfl (hts _ (zPiece_in 1 _ (List.mem_of_getElem? (i := 205) (by decide +kernel))))
  · exact va_Nw.of rfl (hts _ (zPiece_in 1 _ (List.mem_of_getElem? (i := 210) (by decide +kernel))))
  · exact va_Nw.of rfl (hts _ (zPiece_in 2 _ (List.mem_of_getElem? (i := 130) (by decide +kernel))))
  · exact va_Nw.of rfl (hts _ (zPiece_in 3 _ (List.mem_of_getElem? (i := 21) (by decide +kernel))))
theorem zf_cast (hts : ∀ w ∈ lw_tbl, w.before args s = true) : ∀ E ∈ zEx, va_Nw (.castable E E) s := by
  intro q hq
  simp only [zEx, List.mem_cons, List.not_mem_nil, or_false] at hq
  rcases hq with rfl | rfl | rfl | rfl
  · exact va_Nw.of rfl (hts _ (zPiece_in 3 _ (List.mem_of_getElem? (i := 47) (by decide +kernel))))
  · exact va_Nw.of rfl (hts _ (zPiece_in 4 _ (List.mem_of_getElem? (i := 49) (by decide +kernel))))
  · exact va_Nw.of rfl (hts _ (zPiece_in 4 _ (List.mem_of_getElem? (i := 75) (by decide +kernel))))
  · exact va_Nw.of rfl (hts _ (zPiece_in 4 _ (List.mem_of_getElem? (i := 176) (by decide +kernel))))
set_option maxRecDepth 100000 in
theorem zf_not (hn : ∀ w ∈ flatC (Cond.and given_1 narrow_1), w.before args s = true) : ∀ q ∈ zNo, va_Nc q.1 q.2 s := by
  have h0 : zNo = [("java/lang/IllegalArgumentException", "java/lang/IndexOutOfBoundsException"), ("java/lang/IllegalArgumentException", "java/util/NoSuchElementException"), ("java/lang/IllegalArgumentException", "java/lang/IllegalStateException"), ("java/lang/IndexOutOfBoundsException", "java/lang/IllegalArgumentException"), ("java/lang/IndexOutOfBoundsException", "java/util/NoSuchElementException"), ("java/lang/IndexOutOfBoundsException", "java/lang/IllegalStateException"), ("java/util/NoSuchElementException", "java/lang/IllegalArgumentException"), ("java/util/NoSuchElementException", "java/lang/IndexOutOfBoundsException"), ("java/util/NoSuchElementException", "java/lang/IllegalStateException"), ("java/lang/IllegalStateException", "java/lang/IllegalArgumentException"), ("java/lang/IllegalStateException", "java/lang/IndexOutOfBoundsException"), ("java/lang/IllegalStateException", "java/util/NoSuchElementException")] := by decide +kernel
  intro q hq
  rw [h0] at hq
  simp only [List.mem_cons, List.not_mem_nil, or_false] at hq
  rcases hq with rfl | rfl | rfl | rfl | rfl | rfl | rfl | rfl | rfl | rfl | rfl | rfl
  · exact va_Nc.of (hn (.not (.castable "java/lang/IllegalArgumentException" "java/lang/IndexOutOfBoundsException")) (by decide +kernel))
  · exact va_Nc.of (hn (.not (.castable "java/lang/IllegalArgumentException" "java/util/NoSuchElementException")) (by decide +kernel))
  · exact va_Nc.of (hn (.not (.castable "java/lang/IllegalArgumentException" "java/lang/IllegalStateException")) (by decide +kernel))
  · exact va_Nc.of (hn (.not (.castable "java/lang/IndexOutOfBoundsException" "java/lang/IllegalArgumentException")) (by decide +kernel))
  · exact va_Nc.of (hn (.not (.castable "java/lang/IndexOutOfBoundsException" "java/util/NoSuchElementException")) (by decide +kernel))
  · exact va_Nc.of (hn (.not (.castable "java/lang/IndexOutOfBoundsException" "java/lang/IllegalStateException")) (by decide +kernel))
  · exact va_Nc.of (hn (.not (.castable "java/util/NoSuchElementException" "java/lang/IllegalArgumentException")) (by decide +kernel))
  · exact va_Nc.of (hn (.not (.castable "java/util/NoSuchElementException" "java/lang/IndexOutOfBoundsException")) (by decide +kernel))
  · exact va_Nc.of (hn (.not (.castable "java/util/NoSuchElementException" "java/lang/IllegalStateException")) (by decide +kernel))
  · exact va_Nc.of (hn (.not (.castable "java/lang/IllegalStateException" "java/lang/IllegalArgumentException")) (by decide +kernel))
  · exact va_Nc.of (hn (.not (.castable "java/lang/IllegalStateException" "java/lang/IndexOutOfBoundsException")) (by decide +kernel))
  · exact va_Nc.of (hn (.not (.castable "java/lang/IllegalStateException" "java/util/NoSuchElementException")) (by decide +kernel))
set_option maxRecDepth 100000 in
theorem zf_texts (hts : ∀ w ∈ lw_tbl, w.before args s = true) (hn : ∀ w ∈ flatC (Cond.and given_1 narrow_1), w.before args s = true) : ∀ q ∈ zTexts, ∃ a : Nat, vk_R q.1 q.2.1 q.2.2 a s := by
  intro q hq
  simp only [zTexts, List.mem_cons, List.not_mem_nil, or_false] at hq
  rcases hq with rfl | rfl | rfl | rfl | rfl | rfl | rfl | rfl | rfl | rfl | rfl | rfl | rfl | rfl | rfl | rfl | rfl | rfl | rfl | rfl | rfl | rfl
  · exact z_Rof (hts _ (zPiece_in 3 _ (List.mem_of_getElem? (i := 87) (by decide +kernel)))) (hn (.exactly (.string "LotSheet" 64) "java/lang/String") (by decide +kernel))
  · exact z_Rof (hts _ (zPiece_in 4 _ (List.mem_of_getElem? (i := 34) (by decide +kernel)))) (hn (.exactly (.string "LotSheet" 122) "java/lang/String") (by decide +kernel))
  · exact z_Rof (hts _ (zPiece_in 5 _ (List.mem_of_getElem? (i := 49) (by decide +kernel)))) (hn (.exactly (.string "LotSheet" 156) "java/lang/String") (by decide +kernel))
  · exact z_Rof (hts _ (zPiece_in 5 _ (List.mem_of_getElem? (i := 93) (by decide +kernel)))) (hn (.exactly (.string "LotSheet" 173) "java/lang/String") (by decide +kernel))
  · exact z_Rof (hts _ (zPiece_in 4 _ (List.mem_of_getElem? (i := 63) (by decide +kernel)))) (hn (.exactly (.string "LotSheet" 175) "java/lang/String") (by decide +kernel))
  · exact z_Rof (hts _ (zPiece_in 4 _ (List.mem_of_getElem? (i := 82) (by decide +kernel)))) (hn (.exactly (.string "LotSheet" 179) "java/lang/String") (by decide +kernel))
  · exact z_Rof (hts _ (zPiece_in 5 _ (List.mem_of_getElem? (i := 80) (by decide +kernel)))) (hn (.exactly (.string "LotSheet" 182) "java/lang/String") (by decide +kernel))
  · exact z_Rof (hts _ (zPiece_in 4 _ (List.mem_of_getElem? (i := 106) (by decide +kernel)))) (hn (.exactly (.string "LotSheet" 194) "java/lang/String") (by decide +kernel))
  · exact z_Rof (hts _ (zPiece_in 4 _ (List.mem_of_getElem? (i := 135) (by decide +kernel)))) (hn (.exactly (.string "LotSheet" 212) "java/lang/String") (by decide +kernel))
  · exact z_Rof (hts _ (zPiece_in 4 _ (List.mem_of_getElem? (i := 143) (by decide +kernel)))) (hn (.exactly (.string "LotSheet" 214) "java/lang/String") (by decide +kernel))
  · exact z_Rof (hts _ (zPiece_in 4 _ (List.mem_of_getElem? (i := 156) (by decide +kernel)))) (hn (.exactly (.string "LotSheet" 225) "java/lang/String") (by decide +kernel))
  · exact z_Rof (hts _ (zPiece_in 4 _ (List.mem_of_getElem? (i := 164) (by decide +kernel)))) (hn (.exactly (.string "LotSheet" 227) "java/lang/String") (by decide +kernel))
  · exact z_Rof (hts _ (zPiece_in 4 _ (List.mem_of_getElem? (i := 165) (by decide +kernel)))) (hn (.exactly (.string "LotSheet" 229) "java/lang/String") (by decide +kernel))
  · exact z_Rof (hts _ (zPiece_in 4 _ (List.mem_of_getElem? (i := 183) (by decide +kernel)))) (hn (.exactly (.string "LotSheet" 236) "java/lang/String") (by decide +kernel))
  · exact z_Rof (hts _ (zPiece_in 4 _ (List.mem_of_getElem? (i := 204) (by decide +kernel)))) (hn (.exactly (.string "LotSheet" 242) "java/lang/String") (by decide +kernel))
  · exact z_Rof (hts _ (zPiece_in 4 _ (List.mem_of_getElem? (i := 213) (by decide +kernel)))) (hn (.exactly (.string "LotSheet" 247) "java/lang/String") (by decide +kernel))
  · exact z_Rof (hts _ (zPiece_in 4 _ (List.mem_of_getElem? (i := 214) (by decide +kernel)))) (hn (.exactly (.string "LotSheet" 249) "java/lang/String") (by decide +kernel))
  · exact z_Rof (hts _ (zPiece_in 4 _ (List.mem_of_getElem? (i := 230) (by decide +kernel)))) (hn (.exactly (.string "LotSheet" 261) "java/lang/String") (by decide +kernel))
  · exact z_Rof (hts _ (zPiece_in 4 _ (List.mem_of_getElem? (i := 118) (by decide +kernel)))) (hn (.exactly (.string "LotSheet" 284) "java/lang/String") (by decide +kernel))
  · exact z_Rof (hts _ (zPiece_in 4 _ (List.mem_of_getElem? (i := 56) (by decide +kernel)))) (hn (.exactly (.string "LotSheet" 287) "java/lang/String") (by decide +kernel))
  · exact z_Rof (hts _ (zPiece_in 4 _ (List.mem_of_getElem? (i := 105) (by decide +kernel)))) (hn (.exactly (.string "LotSheet" 292) "java/lang/String") (by decide +kernel))
  · exact z_Rof (hts _ (zPiece_in 4 _ (List.mem_of_getElem? (i := 195) (by decide +kernel)))) (hn (.exactly (.string "LotSheet" 304) "java/lang/String") (by decide +kernel))
set_option maxRecDepth 100000 in
theorem zf_words (hts : ∀ w ∈ lw_tbl, w.before args s = true) (hn : ∀ w ∈ flatC (Cond.and given_1 narrow_1), w.before args s = true) (hA : ∀ a : Nat, a < s.heap.size → ¬ A a) : ∀ q ∈ zWords, ∃ a : Nat, vk_R q.1 q.2.1 q.2.2.1 a s ∧ zStr a q.2.2.2 A s s.heap := by
  intro q hq
  simp only [zWords, List.mem_cons, List.not_mem_nil, or_false] at hq
  rcases hq with rfl | rfl | rfl | rfl | rfl | rfl | rfl | rfl | rfl | rfl | rfl | rfl | rfl | rfl
  · refine z_Wof [98, 105, 108, 108] (by decide) (hts _ (zPiece_in 3 _ (List.mem_of_getElem? (i := 127) (by decide +kernel)))) (hn (.exactly (.string "LotSheet$SetupText" 67) "java/lang/String") (by decide +kernel)) (hn (.eq (.field (.string "LotSheet$SetupText" 67) "java/lang/String" "coder" "B") (.int 0)) (by decide +kernel)) (hn (.arrayOf (.field (.string "LotSheet$SetupText" 67) "java/lang/String" "value" "[B") .byte) (by decide +kernel)) (hn (.eq (.length (.field (.string "LotSheet$SetupText" 67) "java/lang/String" "value" "[B")) (.int 4)) (by decide +kernel)) (fun j hj => ?_) hA
    match j, hj with
    | 0, _ => exact (hn (.eq (.elem (.field (.string "LotSheet$SetupText" 67) "java/lang/String" "value" "[B") (.int 0)) (.int 98)) (by decide +kernel))
    | 1, _ => exact (hn (.eq (.elem (.field (.string "LotSheet$SetupText" 67) "java/lang/String" "value" "[B") (.int 1)) (.int 105)) (by decide +kernel))
    | 2, _ => exact (hn (.eq (.elem (.field (.string "LotSheet$SetupText" 67) "java/lang/String" "value" "[B") (.int 2)) (.int 108)) (by decide +kernel))
    | 3, _ => exact (hn (.eq (.elem (.field (.string "LotSheet$SetupText" 67) "java/lang/String" "value" "[B") (.int 3)) (.int 108)) (by decide +kernel))
    | n + 4, h => exact absurd h (by simp)
  · refine z_Wof [108, 111, 116] (by decide) (hts _ (zPiece_in 3 _ (List.mem_of_getElem? (i := 210) (by decide +kernel)))) (hn (.exactly (.string "LotSheet$SetupText" 82) "java/lang/String") (by decide +kernel)) (hn (.eq (.field (.string "LotSheet$SetupText" 82) "java/lang/String" "coder" "B") (.int 0)) (by decide +kernel)) (hn (.arrayOf (.field (.string "LotSheet$SetupText" 82) "java/lang/String" "value" "[B") .byte) (by decide +kernel)) (hn (.eq (.length (.field (.string "LotSheet$SetupText" 82) "java/lang/String" "value" "[B")) (.int 3)) (by decide +kernel)) (fun j hj => ?_) hA
    match j, hj with
    | 0, _ => exact (hn (.eq (.elem (.field (.string "LotSheet$SetupText" 82) "java/lang/String" "value" "[B") (.int 0)) (.int 108)) (by decide +kernel))
    | 1, _ => exact (hn (.eq (.elem (.field (.string "LotSheet$SetupText" 82) "java/lang/String" "value" "[B") (.int 1)) (.int 111)) (by decide +kernel))
    | 2, _ => exact (hn (.eq (.elem (.field (.string "LotSheet$SetupText" 82) "java/lang/String" "value" "[B") (.int 2)) (.int 116)) (by decide +kernel))
    | n + 3, h => exact absurd h (by simp)
  · refine z_Wof [99, 111, 115, 116, 115] (by decide) (hts _ (zPiece_in 3 _ (List.mem_of_getElem? (i := 235) (by decide +kernel)))) (hn (.exactly (.string "LotSheet$SetupText" 87) "java/lang/String") (by decide +kernel)) (hn (.eq (.field (.string "LotSheet$SetupText" 87) "java/lang/String" "coder" "B") (.int 0)) (by decide +kernel)) (hn (.arrayOf (.field (.string "LotSheet$SetupText" 87) "java/lang/String" "value" "[B") .byte) (by decide +kernel)) (hn (.eq (.length (.field (.string "LotSheet$SetupText" 87) "java/lang/String" "value" "[B")) (.int 5)) (by decide +kernel)) (fun j hj => ?_) hA
    match j, hj with
    | 0, _ => exact (hn (.eq (.elem (.field (.string "LotSheet$SetupText" 87) "java/lang/String" "value" "[B") (.int 0)) (.int 99)) (by decide +kernel))
    | 1, _ => exact (hn (.eq (.elem (.field (.string "LotSheet$SetupText" 87) "java/lang/String" "value" "[B") (.int 1)) (.int 111)) (by decide +kernel))
    | 2, _ => exact (hn (.eq (.elem (.field (.string "LotSheet$SetupText" 87) "java/lang/String" "value" "[B") (.int 2)) (.int 115)) (by decide +kernel))
    | 3, _ => exact (hn (.eq (.elem (.field (.string "LotSheet$SetupText" 87) "java/lang/String" "value" "[B") (.int 3)) (.int 116)) (by decide +kernel))
    | 4, _ => exact (hn (.eq (.elem (.field (.string "LotSheet$SetupText" 87) "java/lang/String" "value" "[B") (.int 4)) (.int 115)) (by decide +kernel))
    | n + 5, h => exact absurd h (by simp)
  · refine z_Wof [115, 108, 105, 112] (by decide) (hts _ (zPiece_in 4 _ (List.mem_of_getElem? (i := 0) (by decide +kernel)))) (hn (.exactly (.string "LotSheet$SetupText" 92) "java/lang/String") (by decide +kernel)) (hn (.eq (.field (.string "LotSheet$SetupText" 92) "java/lang/String" "coder" "B") (.int 0)) (by decide +kernel)) (hn (.arrayOf (.field (.string "LotSheet$SetupText" 92) "java/lang/String" "value" "[B") .byte) (by decide +kernel)) (hn (.eq (.length (.field (.string "LotSheet$SetupText" 92) "java/lang/String" "value" "[B")) (.int 4)) (by decide +kernel)) (fun j hj => ?_) hA
    match j, hj with
    | 0, _ => exact (hn (.eq (.elem (.field (.string "LotSheet$SetupText" 92) "java/lang/String" "value" "[B") (.int 0)) (.int 115)) (by decide +kernel))
    | 1, _ => exact (hn (.eq (.elem (.field (.string "LotSheet$SetupText" 92) "java/lang/String" "value" "[B") (.int 1)) (.int 108)) (by decide +kernel))
    | 2, _ => exact (hn (.eq (.elem (.field (.string "LotSheet$SetupText" 92) "java/lang/String" "value" "[B") (.int 2)) (.int 105)) (by decide +kernel))
    | 3, _ => exact (hn (.eq (.elem (.field (.string "LotSheet$SetupText" 92) "java/lang/String" "value" "[B") (.int 3)) (.int 112)) (by decide +kernel))
    | n + 4, h => exact absurd h (by simp)
  · refine z_Wof [111, 117, 116] (by decide) (hts _ (zPiece_in 3 _ (List.mem_of_getElem? (i := 220) (by decide +kernel)))) (hn (.exactly (.string "LotSheet$SetupText" 103) "java/lang/String") (by decide +kernel)) (hn (.eq (.field (.string "LotSheet$SetupText" 103) "java/lang/String" "coder" "B") (.int 0)) (by decide +kernel)) (hn (.arrayOf (.field (.string "LotSheet$SetupText" 103) "java/lang/String" "value" "[B") .byte) (by decide +kernel)) (hn (.eq (.length (.field (.string "LotSheet$SetupText" 103) "java/lang/String" "value" "[B")) (.int 3)) (by decide +kernel)) (fun j hj => ?_) hA
    match j, hj with
    | 0, _ => exact (hn (.eq (.elem (.field (.string "LotSheet$SetupText" 103) "java/lang/String" "value" "[B") (.int 0)) (.int 111)) (by decide +kernel))
    | 1, _ => exact (hn (.eq (.elem (.field (.string "LotSheet$SetupText" 103) "java/lang/String" "value" "[B") (.int 1)) (.int 117)) (by decide +kernel))
    | 2, _ => exact (hn (.eq (.elem (.field (.string "LotSheet$SetupText" 103) "java/lang/String" "value" "[B") (.int 2)) (.int 116)) (by decide +kernel))
    | n + 3, h => exact absurd h (by simp)
  · refine z_Wof [105, 110] (by decide) (hts _ (zPiece_in 3 _ (List.mem_of_getElem? (i := 221) (by decide +kernel)))) (hn (.exactly (.string "LotSheet$SetupText" 105) "java/lang/String") (by decide +kernel)) (hn (.eq (.field (.string "LotSheet$SetupText" 105) "java/lang/String" "coder" "B") (.int 0)) (by decide +kernel)) (hn (.arrayOf (.field (.string "LotSheet$SetupText" 105) "java/lang/String" "value" "[B") .byte) (by decide +kernel)) (hn (.eq (.length (.field (.string "LotSheet$SetupText" 105) "java/lang/String" "value" "[B")) (.int 2)) (by decide +kernel)) (fun j hj => ?_) hA
    match j, hj with
    | 0, _ => exact (hn (.eq (.elem (.field (.string "LotSheet$SetupText" 105) "java/lang/String" "value" "[B") (.int 0)) (.int 105)) (by decide +kernel))
    | 1, _ => exact (hn (.eq (.elem (.field (.string "LotSheet$SetupText" 105) "java/lang/String" "value" "[B") (.int 1)) (.int 110)) (by decide +kernel))
    | n + 2, h => exact absurd h (by simp)
  · refine z_Wof [32] (by decide) (hts _ (zPiece_in 5 _ (List.mem_of_getElem? (i := 21) (by decide +kernel)))) (hn (.exactly (.string "LotSheetLaw" 106) "java/lang/String") (by decide +kernel)) (hn (.eq (.field (.string "LotSheetLaw" 106) "java/lang/String" "coder" "B") (.int 0)) (by decide +kernel)) (hn (.arrayOf (.field (.string "LotSheetLaw" 106) "java/lang/String" "value" "[B") .byte) (by decide +kernel)) (hn (.eq (.length (.field (.string "LotSheetLaw" 106) "java/lang/String" "value" "[B")) (.int 1)) (by decide +kernel)) (fun j hj => ?_) hA
    match j, hj with
    | 0, _ => exact (hn (.eq (.elem (.field (.string "LotSheetLaw" 106) "java/lang/String" "value" "[B") (.int 0)) (.int 32)) (by decide +kernel))
    | n + 1, h => exact absurd h (by simp)
  · refine z_Wof [98, 105, 108, 108] (by decide) (hts _ (zPiece_in 4 _ (List.mem_of_getElem? (i := 234) (by decide +kernel)))) (hn (.exactly (.string "LotSheetLaw" 123) "java/lang/String") (by decide +kernel)) (hn (.eq (.field (.string "LotSheetLaw" 123) "java/lang/String" "coder" "B") (.int 0)) (by decide +kernel)) (hn (.arrayOf (.field (.string "LotSheetLaw" 123) "java/lang/String" "value" "[B") .byte) (by decide +kernel)) (hn (.eq (.length (.field (.string "LotSheetLaw" 123) "java/lang/String" "value" "[B")) (.int 4)) (by decide +kernel)) (fun j hj => ?_) hA
    match j, hj with
    | 0, _ => exact (hn (.eq (.elem (.field (.string "LotSheetLaw" 123) "java/lang/String" "value" "[B") (.int 0)) (.int 98)) (by decide +kernel))
    | 1, _ => exact (hn (.eq (.elem (.field (.string "LotSheetLaw" 123) "java/lang/String" "value" "[B") (.int 1)) (.int 105)) (by decide +kernel))
    | 2, _ => exact (hn (.eq (.elem (.field (.string "LotSheetLaw" 123) "java/lang/String" "value" "[B") (.int 2)) (.int 108)) (by decide +kernel))
    | 3, _ => exact (hn (.eq (.elem (.field (.string "LotSheetLaw" 123) "java/lang/String" "value" "[B") (.int 3)) (.int 108)) (by decide +kernel))
    | n + 4, h => exact absurd h (by simp)
  · refine z_Wof [59] (by decide) (hts _ (zPiece_in 5 _ (List.mem_of_getElem? (i := 25) (by decide +kernel)))) (hn (.exactly (.string "LotSheetLaw" 129) "java/lang/String") (by decide +kernel)) (hn (.eq (.field (.string "LotSheetLaw" 129) "java/lang/String" "coder" "B") (.int 0)) (by decide +kernel)) (hn (.arrayOf (.field (.string "LotSheetLaw" 129) "java/lang/String" "value" "[B") .byte) (by decide +kernel)) (hn (.eq (.length (.field (.string "LotSheetLaw" 129) "java/lang/String" "value" "[B")) (.int 1)) (by decide +kernel)) (fun j hj => ?_) hA
    match j, hj with
    | 0, _ => exact (hn (.eq (.elem (.field (.string "LotSheetLaw" 129) "java/lang/String" "value" "[B") (.int 0)) (.int 59)) (by decide +kernel))
    | n + 1, h => exact absurd h (by simp)
  · refine z_Wof [108, 111, 116] (by decide) (hts _ (zPiece_in 5 _ (List.mem_of_getElem? (i := 28) (by decide +kernel)))) (hn (.exactly (.string "LotSheetLaw" 162) "java/lang/String") (by decide +kernel)) (hn (.eq (.field (.string "LotSheetLaw" 162) "java/lang/String" "coder" "B") (.int 0)) (by decide +kernel)) (hn (.arrayOf (.field (.string "LotSheetLaw" 162) "java/lang/String" "value" "[B") .byte) (by decide +kernel)) (hn (.eq (.length (.field (.string "LotSheetLaw" 162) "java/lang/String" "value" "[B")) (.int 3)) (by decide +kernel)) (fun j hj => ?_) hA
    match j, hj with
    | 0, _ => exact (hn (.eq (.elem (.field (.string "LotSheetLaw" 162) "java/lang/String" "value" "[B") (.int 0)) (.int 108)) (by decide +kernel))
    | 1, _ => exact (hn (.eq (.elem (.field (.string "LotSheetLaw" 162) "java/lang/String" "value" "[B") (.int 1)) (.int 111)) (by decide +kernel))
    | 2, _ => exact (hn (.eq (.elem (.field (.string "LotSheetLaw" 162) "java/lang/String" "value" "[B") (.int 2)) (.int 116)) (by decide +kernel))
    | n + 3, h => exact absurd h (by simp)
  · refine z_Wof [32, 105, 110, 59] (by decide) (hts _ (zPiece_in 5 _ (List.mem_of_getElem? (i := 29) (by decide +kernel)))) (hn (.exactly (.string "LotSheetLaw" 163) "java/lang/String") (by decide +kernel)) (hn (.eq (.field (.string "LotSheetLaw" 163) "java/lang/String" "coder" "B") (.int 0)) (by decide +kernel)) (hn (.arrayOf (.field (.string "LotSheetLaw" 163) "java/lang/String" "value" "[B") .byte) (by decide +kernel)) (hn (.eq (.length (.field (.string "LotSheetLaw" 163) "java/lang/String" "value" "[B")) (.int 4)) (by decide +kernel)) (fun j hj => ?_) hA
    match j, hj with
    | 0, _ => exact (hn (.eq (.elem (.field (.string "LotSheetLaw" 163) "java/lang/String" "value" "[B") (.int 0)) (.int 32)) (by decide +kernel))
    | 1, _ => exact (hn (.eq (.elem (.field (.string "LotSheetLaw" 163) "java/lang/String" "value" "[B") (.int 1)) (.int 105)) (by decide +kernel))
    | 2, _ => exact (hn (.eq (.elem (.field (.string "LotSheetLaw" 163) "java/lang/String" "value" "[B") (.int 2)) (.int 110)) (by decide +kernel))
    | 3, _ => exact (hn (.eq (.elem (.field (.string "LotSheetLaw" 163) "java/lang/String" "value" "[B") (.int 3)) (.int 59)) (by decide +kernel))
    | n + 4, h => exact absurd h (by simp)
  · refine z_Wof [32, 111, 117, 116, 59] (by decide) (hts _ (zPiece_in 5 _ (List.mem_of_getElem? (i := 30) (by decide +kernel)))) (hn (.exactly (.string "LotSheetLaw" 165) "java/lang/String") (by decide +kernel)) (hn (.eq (.field (.string "LotSheetLaw" 165) "java/lang/String" "coder" "B") (.int 0)) (by decide +kernel)) (hn (.arrayOf (.field (.string "LotSheetLaw" 165) "java/lang/String" "value" "[B") .byte) (by decide +kernel)) (hn (.eq (.length (.field (.string "LotSheetLaw" 165) "java/lang/String" "value" "[B")) (.int 5)) (by decide +kernel)) (fun j hj => ?_) hA
    match j, hj with
    | 0, _ => exact (hn (.eq (.elem (.field (.string "LotSheetLaw" 165) "java/lang/String" "value" "[B") (.int 0)) (.int 32)) (by decide +kernel))
    | 1, _ => exact (hn (.eq (.elem (.field (.string "LotSheetLaw" 165) "java/lang/String" "value" "[B") (.int 1)) (.int 111)) (by decide +kernel))
    | 2, _ => exact (hn (.eq (.elem (.field (.string "LotSheetLaw" 165) "java/lang/String" "value" "[B") (.int 2)) (.int 117)) (by decide +kernel))
    | 3, _ => exact (hn (.eq (.elem (.field (.string "LotSheetLaw" 165) "java/lang/String" "value" "[B") (.int 3)) (.int 116)) (by decide +kernel))
    | 4, _ => exact (hn (.eq (.elem (.field (.string "LotSheetLaw" 165) "java/lang/String" "value" "[B") (.int 4)) (.int 59)) (by decide +kernel))
    | n + 5, h => exact absurd h (by simp)
  · refine z_Wof [99, 111, 115, 116, 115] (by decide) (hts _ (zPiece_in 5 _ (List.mem_of_getElem? (i := 31) (by decide +kernel)))) (hn (.exactly (.string "LotSheetLaw" 171) "java/lang/String") (by decide +kernel)) (hn (.eq (.field (.string "LotSheetLaw" 171) "java/lang/String" "coder" "B") (.int 0)) (by decide +kernel)) (hn (.arrayOf (.field (.string "LotSheetLaw" 171) "java/lang/String" "value" "[B") .byte) (by decide +kernel)) (hn (.eq (.length (.field (.string "LotSheetLaw" 171) "java/lang/String" "value" "[B")) (.int 5)) (by decide +kernel)) (fun j hj => ?_) hA
    match j, hj with
    | 0, _ => exact (hn (.eq (.elem (.field (.string "LotSheetLaw" 171) "java/lang/String" "value" "[B") (.int 0)) (.int 99)) (by decide +kernel))
    | 1, _ => exact (hn (.eq (.elem (.field (.string "LotSheetLaw" 171) "java/lang/String" "value" "[B") (.int 1)) (.int 111)) (by decide +kernel))
    | 2, _ => exact (hn (.eq (.elem (.field (.string "LotSheetLaw" 171) "java/lang/String" "value" "[B") (.int 2)) (.int 115)) (by decide +kernel))
    | 3, _ => exact (hn (.eq (.elem (.field (.string "LotSheetLaw" 171) "java/lang/String" "value" "[B") (.int 3)) (.int 116)) (by decide +kernel))
    | 4, _ => exact (hn (.eq (.elem (.field (.string "LotSheetLaw" 171) "java/lang/String" "value" "[B") (.int 4)) (.int 115)) (by decide +kernel))
    | n + 5, h => exact absurd h (by simp)
  · refine z_Wof [115, 108, 105, 112] (by decide) (hts _ (zPiece_in 5 _ (List.mem_of_getElem? (i := 32) (by decide +kernel)))) (hn (.exactly (.string "LotSheetLaw" 175) "java/lang/String") (by decide +kernel)) (hn (.eq (.field (.string "LotSheetLaw" 175) "java/lang/String" "coder" "B") (.int 0)) (by decide +kernel)) (hn (.arrayOf (.field (.string "LotSheetLaw" 175) "java/lang/String" "value" "[B") .byte) (by decide +kernel)) (hn (.eq (.length (.field (.string "LotSheetLaw" 175) "java/lang/String" "value" "[B")) (.int 4)) (by decide +kernel)) (fun j hj => ?_) hA
    match j, hj with
    | 0, _ => exact (hn (.eq (.elem (.field (.string "LotSheetLaw" 175) "java/lang/String" "value" "[B") (.int 0)) (.int 115)) (by decide +kernel))
    | 1, _ => exact (hn (.eq (.elem (.field (.string "LotSheetLaw" 175) "java/lang/String" "value" "[B") (.int 1)) (.int 108)) (by decide +kernel))
    | 2, _ => exact (hn (.eq (.elem (.field (.string "LotSheetLaw" 175) "java/lang/String" "value" "[B") (.int 2)) (.int 105)) (by decide +kernel))
    | 3, _ => exact (hn (.eq (.elem (.field (.string "LotSheetLaw" 175) "java/lang/String" "value" "[B") (.int 3)) (.int 112)) (by decide +kernel))
    | n + 4, h => exact absurd h (by simp)
set_option maxRecDepth 100000 in
theorem zf_C (hts : ∀ w ∈ lw_tbl, w.before args s = true) (hn : ∀ w ∈ flatC (Cond.and given_1 narrow_1), w.before args s = true) (hA : ∀ a : Nat, a < s.heap.size → ¬ A a) : zC A s s.heap := ⟨va_Zof (hts _ (zPiece_in 3 _ (List.mem_of_getElem? (i := 149) (by decide +kernel)))) (hts _ (zPiece_in 1 _ (List.mem_of_getElem? (i := 18) (by decide +kernel)))) (Cond.eq_int (hn (.eq (.static "java/lang/String" "COMPACT_STRINGS" "Z") (.int 1)) (by decide +kernel)) rfl) hA, va_Zqof (hts _ (zPiece_in 3 _ (List.mem_of_getElem? (i := 165) (by decide +kernel)))) (hts _ (zPiece_in 1 _ (List.mem_of_getElem? (i := 20) (by decide +kernel)))) (hn (.isRef (.static "jdk/internal/util/Preconditions" "SIOOBE_FORMATTER" "Ljava/util/function/BiFunction;")) (by decide +kernel)) hA⟩
theorem zf_U (hts : ∀ w ∈ lw_tbl, w.before args s = true) (hn : ∀ w ∈ flatC (Cond.and given_1 narrow_1), w.before args s = true) (hA : ∀ a : Nat, a < s.heap.size → ¬ A a) : vx_Zq Bundle.tN "UNASSIGNED_STACK" Bundle.steD A s s.heap := vx_Zqof (hts _ (zPiece_in 3 _ (List.mem_of_getElem? (i := 72) (by decide +kernel)))) (hts _ (zPiece_in 1 _ (List.mem_of_getElem? (i := 9) (by decide +kernel)))) (hn (.isRef (.static "java/lang/Throwable" "UNASSIGNED_STACK" "[Ljava/lang/StackTraceElement;")) (by decide +kernel)) hA
theorem zf_N (hts : ∀ w ∈ lw_tbl, w.before args s = true) (hn : ∀ w ∈ flatC (Cond.and given_1 narrow_1), w.before args s = true) (hA : ∀ a : Nat, a < s.heap.size → ¬ A a) : vx_Zq Bundle.tN "SUPPRESSED_SENTINEL" Bundle.listD A s s.heap := vx_Zqof (hts _ (zPiece_in 3 _ (List.mem_of_getElem? (i := 74) (by decide +kernel)))) (hts _ (zPiece_in 1 _ (List.mem_of_getElem? (i := 9) (by decide +kernel)))) (hn (.isRef (.static "java/lang/Throwable" "SUPPRESSED_SENTINEL" "Ljava/util/List;")) (by decide +kernel)) hA
end ZFA
