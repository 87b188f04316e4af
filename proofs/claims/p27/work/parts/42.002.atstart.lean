theorem zTW_in : ∀ w ∈ zTW, w ∈ lw_tbl := fun w h => (List.mem_append.mp h).elim (zTW_I w) (fun h => (List.mem_append.mp h).elim (zTW_X w) (fun h => (List.mem_append.mp h).elim (zTW_S w) (zTW_N w)))
theorem zf_LX {args : Array Value} {s : State} {A : Nat → Prop} (hts : ∀ w ∈ lw_tbl, w.before args s = true) (hn : ∀ w ∈ flatC (Cond.and given_1 narrow_1), w.before args s = true) (hA : ∀ a : Nat, a < s.heap.size → ¬ A a) : zLX A s s.heap :=
  ⟨⟨zf_C hts hn hA, zf_U hts hn hA, zf_N hts hn hA, fun w hw => va_Nw.of (by have := zTW_ok w hw; unfold zwok at this; rw [Bool.and_eq_true] at this; exact this.1) (hts w (zTW_in w hw)), zf_texts hts hn, zf_words hts hn hA⟩, zf_cast hts, zf_not hn⟩
theorem zf_K {args : Array Value} {s : State} (hts : ∀ w ∈ lw_tbl, w.before args s = true) : ∃ (D : va_G) (cA : Nat → ClassId), va_K D vwCl (zTY cA) s := by
  obtain ⟨c0, i0, k0⟩ := u_known (C := RX0) (T := TX0) (N := 11) (n := 11) hts (fun w h => (tu_X0 w h).1) (hts _ (zPiece_in 1 _ (List.mem_of_getElem? (i := 66) (by decide +kernel))))
  obtain ⟨c1, i1, k1⟩ := u_known (C := RX1) (T := TX1) (N := 8) (n := 8) hts (fun w h => (tu_X1 w h).1) (hts _ (zPiece_in 1 _ (List.mem_of_getElem? (i := 204) (by decide +kernel))))
  obtain ⟨c2, i2, k2⟩ := u_known (C := RX2) (T := TX2) (N := 3) (n := 3) hts (fun w h => (tu_X2 w h).1) (hts _ (zPiece_in 1 _ (List.mem_of_getElem? (i := 139) (by decide +kernel))))
  obtain ⟨c3, i3, k3⟩ := u_known (C := RX3) (T := TX3) (N := 9) (n := 9) hts (fun w h => (tu_X3 w h).1) (hts _ (zPiece_in 1 _ (List.mem_of_getElem? (i := 158) (by decide +kernel))))
  obtain ⟨c4, i4, k4⟩ := u_known (C := RX4) (T := TX4) (N := 8) (n := 8) hts (fun w h => (tu_X4 w h).1) (hts _ (zPiece_in 1 _ (List.mem_of_getElem? (i := 32) (by decide +kernel))))
  obtain ⟨c5, i5, k5⟩ := u_known (C := RX5) (T := TX5) (N := 7) (n := 7) hts (fun w h => (tu_X5 w h).1) (hts _ (zPiece_in 1 _ (List.mem_of_getElem? (i := 24) (by decide +kernel))))
  obtain ⟨c6, i6, k6⟩ := u_known (C := RX6) (T := TX6) (N := 5) (n := 5) hts (fun w h => (tu_X6 w h).1) (hts _ (zPiece_in 2 _ (List.mem_of_getElem? (i := 129) (by decide +kernel))))
  obtain ⟨c7, i7, k7⟩ := u_known (C := RX7) (T := TX7) (N := 6) (n := 6) hts (fun w h => (tu_X7 w h).1) (hts _ (zPiece_in 2 _ (List.mem_of_getElem? (i := 174) (by decide +kernel))))
  obtain ⟨c8, i8, k8⟩ := u_known (C := RX8) (T := TX8) (N := 1) (n := 1) hts (fun w h => (tu_X8 w h).1) (hts _ (zPiece_in 3 _ (List.mem_of_getElem? (i := 23) (by decide +kernel))))
  obtain ⟨a0, f0, g0⟩ := z_arrC (ty := .int) (hts _ (zPiece_in 1 _ (List.mem_of_getElem? (i := 136) (by decide +kernel))))
  obtain ⟨a1, f1, g1⟩ := z_arrC (ty := .boolean) (hts _ (zPiece_in 1 _ (List.mem_of_getElem? (i := 137) (by decide +kernel))))
  obtain ⟨a2, f2, g2⟩ := z_arrC (ty := .byte) (hts _ (zPiece_in 1 _ (List.mem_of_getElem? (i := 64) (by decide +kernel))))
  obtain ⟨a3, g3, f3⟩ := z_arrO (va_AO.of (C := "LotSheet$Bill") (hts _ (zPiece_in 1 _ (List.mem_of_getElem? (i := 145) (by decide +kernel)))))
  obtain ⟨a4, g4, f4⟩ := z_arrO (va_AO.of (C := "LotSheetLaw$Lot") (hts _ (zPiece_in 2 _ (List.mem_of_getElem? (i := 135) (by decide +kernel)))))
  obtain ⟨a5, g5, f5⟩ := z_arrO (va_AO.of (C := "LotSheetLaw$Bill") (hts _ (zPiece_in 5 _ (List.mem_of_getElem? (i := 94) (by decide +kernel)))))
  refine ⟨(fun k => [c0, c1, c2, c3, c4, c5, c6, c7, c8].getD k c0, fun k => [i0, i1, i2, i3, i4, i5, i6, i7, i8].getD k i0), fun k => [a0, a1, a2, a3, a4, a5].getD k a0, fun k q hq => ?_, fun k q hq => ?_⟩
  · match k, hq with
    | 0, hq => cases hq; exact k0
    | 1, hq => cases hq; exact k1
    | 2, hq => cases hq; exact k2
    | 3, hq => cases hq; exact k3
    | 4, hq => cases hq; exact k4
    | 5, hq => cases hq; exact k5
    | 6, hq => cases hq; exact k6
    | 7, hq => cases hq; exact k7
    | 8, hq => cases hq; exact k8
    | k + 9, hq => exact absurd hq (by simp [vwCl])
  · match k, hq with
    | 0, hq => cases hq; exact ⟨g0, f0⟩
    | 1, hq => cases hq; exact ⟨g1, f1⟩
    | 2, hq => cases hq; exact ⟨g2, f2⟩
    | 3, hq => cases hq; exact ⟨g3, f3⟩
    | 4, hq => cases hq; exact ⟨g4, f4⟩
    | 5, hq => cases hq; exact ⟨g5, f5⟩
    | k + 6, hq => exact absurd hq (by simp [zTY])
