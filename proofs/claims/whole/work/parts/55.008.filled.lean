theorem g_cmp {a n : Int32} (h : ¬ n = 0) : FP.dcmp (FP.ddiv (FP.i2d a) (FP.i2d n)) (FP.ddiv (FP.i2d a) (FP.i2d n)) = some .eq := by
  have hx : Fl.NoNaN64 (FP.ddiv (FP.i2d a) (FP.i2d n)) := Fl.ddiv_out (Fl.i2d_fin a).noNaN (Fl.i2d_fin n) (Fl.i2d_nz h)
  obtain ⟨o, ho⟩ := Fl.dcmp_of_noNaN hx hx
  refine FP.Core.dcmp_self (fun hn => ?_)
  have h2 := (FP.Core.dcmp_none (FP.ddiv (FP.i2d a) (FP.i2d n)) (FP.ddiv (FP.i2d a) (FP.i2d n))).mpr (Or.inl hn)
  rw [show FP.dcmp (FP.ddiv (FP.i2d a) (FP.i2d n)) (FP.ddiv (FP.i2d a) (FP.i2d n)) = none from h2] at ho
  cases ho
theorem g_cmp0 : FP.dcmp FP.dconst0 FP.dconst0 = some .eq := FP.Core.dcmp_self ((FP.Core.ne_nan _).mpr (by decide))
section ZQ8
variable {H n m : Nat} {ln : Nat → Nat} {pr wa sl : Nat → Bool} {hh cc rr ac dc : Int32} {co es se d li p w s lots : Nat → Int32} {no pg l us lo fi : Nat → Int32} {P K T : Int32}
theorem s_15 (th : Int32) (hw : NW H n m ln pr wa) (hb : BV H n m ln pr wa sl hh cc rr li p w s) (hm : MV H n m ln pr wa sl ac co es se d) (hy : YOK H ln pr n (no, pg, l, us, lo, fi, P, K, T)) (a b c e : Nat → Int32) (f : Int32) :
    ∃ th' a' b' c' e' f', fS15 hh P T th d a b c e f = some (th', a', b', c', e', f') := by
  have hn := hw.2.2.1
  obtain ⟨w1, w2, w3, w4, w5, w6, w7⟩ := id hw
  have hhh : hh = Int32.ofNat H := hb.1
  have hP : P = Int32.ofNat (zP H ln pr n) := hy.2.2.2.1
  have hT : T = Int32.ofNat (zpl ln pr n) := (show T = zsum _ 0 n from hy.2.2.2.2.2).trans (zsum_T n)
  have hPle := (zP_le H ln pr n).1
  have h0 : d (0 : Int32).toNatClampNeg = Int32.ofNat H := hm.1
  obtain ⟨a', b', c', e', f', l1, l2⟩ := m_lay hw hm a b c e f
  have hf : f' = Int32.ofNat (zP H ln pr n) := l2.2.2
  have hmul : Int32.ofNat (zP H ln pr n) * Int32.ofNat H = Int32.ofNat (zP H ln pr n * H) := (Int32.ofNat_mul _ _).symm
  have hle : zP H ln pr n * H ≤ 960 := by
    have : zP H ln pr n * H ≤ 24 * 40 := Nat.mul_le_mul (by omega) w2
    omega
  refine ⟨0, a', b', c', e', f', ?_⟩
  by_cases hz : zP H ln pr n = 0
  · have h5 : fX5_filled hh P T = some FP.dconst0 := by
      unfold fX5_filled
      rw [n_let, hhh, hP, hmul, hz, Nat.zero_mul]
      rfl
    have h6 : fX6_filled th d a b c e f = some (FP.dconst0, 0, a', b', c', e', f') := by
      unfold fX6_filled
      rw [l1, n_bind]
      exact if_pos (by rw [hf, hz]; rfl)
    unfold fS15
    rw [h5, h6, n_bind, n_bind]
    show (if Op.cmpValue (FP.dcmp FP.dconst0 FP.dconst0) .l = 0 then _ else _) = _
    rw [g_cmp0]
    exact if_pos rfl
  · have hpos : 0 < zP H ln pr n * H := Nat.mul_pos (by omega) (by omega)
    have hne : ¬ Int32.ofNat (zP H ln pr n * H) = 0 := fun h => by
      have := (n_eq (b := 0) (by omega) (by omega)).mp h
      omega
    have h5 : fX5_filled hh P T = some (FP.ddiv (FP.i2d (Int32.ofNat (zpl ln pr n))) (FP.i2d (Int32.ofNat (zP H ln pr n * H)))) := by
      unfold fX5_filled
      rw [n_let, hhh, hP, hmul, hT, if_pos (show (0 : Int32) < Int32.ofNat (zP H ln pr n * H) from (n_lt (a := 0) (by omega) (by omega)).mpr hpos), n_as hne]
    have h6 : fX6_filled th d a b c e f = some (FP.ddiv (FP.i2d (Int32.ofNat (zpl ln pr n))) (FP.i2d (Int32.ofNat (zP H ln pr n * H))), 0, a', b', c', e', f') := by
      unfold fX6_filled
      rw [l1, n_bind]
      refine (if_neg (show ¬ f' = 0 from fun h => hz ?_)).trans ?_
      · rw [hf] at h
        exact (n_eq (b := 0) (by omega) (by omega)).mp h
      · rw [m_printedLines hn hm, n_bind, h0, hf, hmul, n_as hne]
    unfold fS15
    rw [h5, h6, n_bind, n_bind]
    show (if Op.cmpValue (FP.dcmp (FP.ddiv (FP.i2d (Int32.ofNat (zpl ln pr n))) (FP.i2d (Int32.ofNat (zP H ln pr n * H)))) (FP.ddiv (FP.i2d (Int32.ofNat (zpl ln pr n))) (FP.i2d (Int32.ofNat (zP H ln pr n * H))))) .l = 0 then _ else _) = _
    rw [g_cmp hne]
    exact if_pos rfl
end ZQ8
