section ZNU
variable {L : Nat} {bytes buf : Nat → Int32}
theorem c_fail0 (k ea a : Int32) : fX4_fail k ea a 0 = some (a, k) := rfl
theorem c_fail1 {er : Int32} (h : ¬ er = 0) (k ea a : Int32) : fX4_fail k ea a er = some (ea, er) := by unfold fX4_fail; rw [if_neg h]
theorem m_rep0 (k a ea : Int32) : fX6_report k a 0 ea = some (k, a) := rfl
theorem m_rep1 {er : Int32} (h : ¬ er = 0) (k a ea : Int32) : fX6_report k a er ea = some (er, ea) := by unfold fX6_report; rw [if_neg h]
theorem m_good1 {er : Int32} (h : ¬ er = 0) : fX6_isGood er = some 0 := by unfold fX6_isGood; rw [if_neg h]
theorem m_good0 : fX6_isGood 0 = some 1 := rfl
/-- a digit, or none -/
theorem r_digit (x : Int32) : (fX4_isDigit x = some 0 ∧ fX6_isDigit x = some 0) ∨ (fX4_isDigit x = some 1 ∧ fX6_isDigit x = some 1 ∧ ∃ v : Nat, x = Int32.ofNat (48 + v) ∧ v ≤ 9) := by
  unfold fX4_isDigit fX6_isDigit fX6_in
  by_cases h1 : x < 48
  · left; rw [if_pos h1]; exact ⟨rfl, rfl⟩
  · rw [if_neg h1]
    by_cases h2 : (57 : Int32) < x
    · left; rw [if_pos h2]; exact ⟨rfl, rfl⟩
    · right
      rw [if_neg h2]
      refine ⟨rfl, rfl, ?_⟩
      rw [Int32.lt_iff_toInt_lt] at h1 h2
      have e48 : (48 : Int32).toInt = 48 := rfl
      have e57 : (57 : Int32).toInt = 57 := rfl
      refine ⟨x.toInt.toNat - 48, ?_, by omega⟩
      apply Int32.toInt_inj.mp
      rw [n_ti (by omega)]
      omega
/-- the digits from a on -/
theorem r_digits (hL : L ≤ 500) (hb : ∀ i, i < L → bytes i &&& 255 = buf i) : ∀ (m a fuel mv : Nat), a < 9000 → L ≤ a + m → m < fuel → mv ≤ 100000000 →
    ∃ e mv' : Nat, a ≤ e ∧ (e ≤ a ∨ e ≤ L) ∧ mv' ≤ 100000000 ∧ (∀ j, fX4_takeNumber_L26 (Int32.ofNat L) j bytes fuel (Int32.ofNat a) (Int32.ofNat (if mv < 10000 then mv else 10000)) = j (Int32.ofNat e) (Int32.ofNat (if mv' < 10000 then mv' else 10000))) ∧ ∀ j, fX6_number_L41 buf (Int32.ofNat L) j fuel (Int32.ofNat mv) (Int32.ofNat a) = j (Int32.ofNat mv') (Int32.ofNat e)
  | m, a, fuel, mv, ha, hm, hf, hv => by
    obtain ⟨f, rfl⟩ : ∃ f, fuel = f + 1 := ⟨fuel - 1, by omega⟩
    have hc := c_byteAt (bytes := bytes) hL hb (show a < 100000 by omega)
    have hm' := m_byteAt (buf := buf) hL (show a < 100000 by omega)
    by_cases h1 : L ≤ a
    · refine ⟨a, mv, Nat.le_refl _, Or.inl (Nat.le_refl _), hv, fun j => ?_, fun j => ?_⟩
      · rw [fX4_takeNumber_L26, if_pos ((n_le (by omega) (by omega)).mpr h1)]
      · rw [fX6_number_L41, hm', n_bind, btx_end h1]; rfl
    · have hle : ¬ Int32.ofNat L ≤ Int32.ofNat a := fun hh => h1 ((n_le (by omega) (by omega)).mp hh)
      rcases r_digit (btx buf L a) with ⟨d1, d2⟩ | ⟨d1, d2, v, d3, d4⟩
      · refine ⟨a, mv, Nat.le_refl _, Or.inl (Nat.le_refl _), hv, fun j => ?_, fun j => ?_⟩
        · rw [fX4_takeNumber_L26, if_neg hle, hc, n_bind, d1, n_bind, if_pos rfl]
        · rw [fX6_number_L41, hm', n_bind, d2, n_bind, if_pos rfl]
      · match m, hm with
        | 0, hm => omega
        | m + 1, hm =>
          have e1 : ∀ y : Nat, y ≤ 100000000 → (10 : Int32) * Int32.ofNat y + Int32.ofNat (48 + v) - 48 = Int32.ofNat (10 * y + v) := fun y hy => by
            rw [show (10 : Int32) * Int32.ofNat y = Int32.ofNat (10 * y) from (Int32.ofNat_mul 10 y).symm, ← Int32.ofNat_add]
            exact n_sub (b := 48) (by omega)
          have e2 : (if (10000 : Int32) < Int32.ofNat (10 * (if mv < 10000 then mv else 10000) + v) then (10000 : Int32) else Int32.ofNat (10 * (if mv < 10000 then mv else 10000) + v)) = Int32.ofNat (if (if 10 * mv + v < 100000000 then 10 * mv + v else 100000000) < 10000 then (if 10 * mv + v < 100000000 then 10 * mv + v else 100000000) else 10000) := by
            have hlt : 10 * (if mv < 10000 then mv else 10000) + v < 2147483648 := by split <;> omega
            by_cases h : 10000 < 10 * (if mv < 10000 then mv else 10000) + v
            · rw [if_pos (show (10000 : Int32) < _ from (n_lt (a := 10000) (by omega) hlt).mpr h)]
              have : (if (if 10 * mv + v < 100000000 then 10 * mv + v else 100000000) < 10000 then (if 10 * mv + v < 100000000 then 10 * mv + v else 100000000) else 10000) = 10000 := by
                (repeat' split) <;> (try split at h) <;> omega
              rw [this]; rfl
            · rw [if_neg (show ¬ (10000 : Int32) < _ from fun hh => h ((n_lt (a := 10000) (by omega) hlt).mp hh))]
              refine congrArg Int32.ofNat ?_
              (repeat' split) <;> (try split at h) <;> omega
          have e3 : fX6_min 100000000 (Int32.ofNat (10 * mv + v)) = some (Int32.ofNat (if 10 * mv + v < 100000000 then 10 * mv + v else 100000000)) := by
            unfold fX6_min
            by_cases h : 10 * mv + v < 100000000
            · rw [if_pos h]
              by_cases h2 : Int32.ofNat (10 * mv + v) ≤ 100000000
              · rw [if_pos h2]
              · exact absurd ((n_le (b := 100000000) (by omega) (by omega)).mpr (by omega)) h2
            · rw [if_neg h]
              by_cases h2 : Int32.ofNat (10 * mv + v) ≤ 100000000
              · have := (n_le (b := 100000000) (by omega) (by omega)).mp h2
                have e : 10 * mv + v = 100000000 := by omega
                rw [if_pos h2, e]
              · rw [if_neg h2]; rfl
          obtain ⟨e, mv', k1, k2, k3, k4, k5⟩ := r_digits hL hb m (a + 1) f (if 10 * mv + v < 100000000 then 10 * mv + v else 100000000) (by omega) (by omega) (by omega) (by split <;> omega)
          refine ⟨e, mv', by omega, by omega, k3, fun j => ?_, fun j => ?_⟩
          · rw [fX4_takeNumber_L26, if_neg hle, hc, n_bind, d1, n_bind, if_neg (by decide), n_bind, n_let, n_let, d3, e1 _ (by split <;> omega), e2, n_s, k4]
          · rw [fX6_number_L41, hm', n_bind, d2, n_bind, if_neg (by decide), n_bind, d3, e1 _ hv, e3, n_bind, n_let, n_s, k5]
/-- a number, read by both: taken alike, or the same error at the same place -/
theorem r_num (hL : L ≤ 500) (hb : ∀ i, i < L → bytes i &&& 255 = buf i) {lo hi a : Nat} (hlo : lo ≤ hi) (hh : hi ≤ 9999) (ha : a < 8000) (ea ns ea' : Int32) :
    ∃ a' : Nat, a ≤ a' ∧ (a' ≤ a ∨ a' ≤ L) ∧ ∃ ns', ((∃ v : Nat, lo ≤ v ∧ v ≤ hi ∧ a < a' ∧ fX4_takeNumber (Int32.ofNat lo) (Int32.ofNat hi) ea bytes (Int32.ofNat L) (Int32.ofNat a) 0 = some (Int32.ofNat v, ea, Int32.ofNat a', 0) ∧ fX6_number (Int32.ofNat lo) (Int32.ofNat hi) buf (Int32.ofNat L) (Int32.ofNat a) 0 ea' ns = some (Int32.ofNat v, Int32.ofNat a', 0, ea', ns')) ∨
      ∃ vc er x, ¬ er = 0 ∧ fX4_takeNumber (Int32.ofNat lo) (Int32.ofNat hi) ea bytes (Int32.ofNat L) (Int32.ofNat a) 0 = some (vc, x, Int32.ofNat a', er) ∧ fX6_number (Int32.ofNat lo) (Int32.ofNat hi) buf (Int32.ofNat L) (Int32.ofNat a) 0 ea' ns = some (0, Int32.ofNat a', er, x, ns')) := by
  obtain ⟨a1, k1, k2, k3, k4, k5⟩ := r_next (bytes := bytes) (buf := buf) hL hb (show a < 10000 by omega)
  unfold fX4_takeNumber fX6_number
  rw [k4, n_bind, m_good0, n_bind, if_neg (by decide), k5, n_bind]
  rcases r_digit (btx buf L a1) with ⟨d1, d2⟩ | ⟨d1, d2, v0, d3, d4⟩
  · refine ⟨a1, k1, k2, ns, Or.inr ⟨Int32.ofNat lo, -2, Int32.ofNat a1, by decide, ?_, ?_⟩⟩
    · show o_bind (fX4_isDigit (btx buf L a1)) _ = _
      rw [d1, n_bind, if_pos rfl, c_fail0, n_bind]
    · show o_bind (fX6_isDigit (btx buf L a1)) _ = _
      rw [d2, n_bind, if_pos rfl, m_rep0, n_bind]
  · have hlt : a1 < L := by
      apply Nat.lt_of_not_le
      intro hle
      rw [btx_end hle] at d3
      exact n_m1' (by omega) d3
    obtain ⟨e, mv, e1, e2, e3, e4, e5⟩ := r_digits (bytes := bytes) (buf := buf) hL hb L a1 1024 0 (by omega) (by omega) (by omega) (by omega)
    have hstep : a1 < e := by
      -- the first of them is a digit
      obtain ⟨e', mv', f1, f2, f3, f4, f5⟩ := r_digits (bytes := bytes) (buf := buf) hL hb L (a1 + 1) 1023 v0 (by omega) (by omega) (by omega) (by omega)
      have g1 := e5 (fun x y => some (x, y, 0, 0, 0))
      have hm' := m_byteAt (buf := buf) hL (show a1 < 100000 by omega)
      have g2 : fX6_number_L41 buf (Int32.ofNat L) (fun x y => some (x, y, 0, 0, 0)) (1023 + 1) (Int32.ofNat 0) (Int32.ofNat a1) = some (Int32.ofNat mv', Int32.ofNat e', 0, 0, 0) := by
        have x1 : (10 : Int32) * Int32.ofNat 0 + Int32.ofNat (48 + v0) - 48 = Int32.ofNat v0 := by
          rw [show (10 : Int32) * Int32.ofNat 0 = 0 from by decide, Int32.zero_add]
          exact n_sub (b := 48) (by omega)
        have x2 : fX6_min 100000000 (Int32.ofNat v0) = some (Int32.ofNat v0) := by
          unfold fX6_min
          rw [if_pos (show Int32.ofNat v0 ≤ 100000000 from (n_le (b := 100000000) (by omega) (by omega)).mpr (by omega))]
        rw [fX6_number_L41, hm', n_bind, d2, n_bind, if_neg (by decide), n_bind, d3, x1, x2, n_bind, n_let, n_s, f5]
      have g3 := g1.symm.trans g2
      have g4 : Int32.ofNat e = Int32.ofNat e' := congrArg (fun o => match o with | some (_, y, _) => y | none => 0) g3
      have := (n_eq (by omega) (by omega)).mp g4
      omega
    have cv : (if mv < 10000 then mv else 10000) < 2147483648 := by split <;> omega
    have C : o_bind (fX4_isDigit (btx buf L a1)) (fun x4 => (if x4 = 0 then o_bind (fX4_fail (-2 : Int32) ea (Int32.ofNat a1) 0) (fun (x31, x32) => some (Int32.ofNat lo, x31, Int32.ofNat a1, x32)) else o_let (fun (x7 : Int32) (x8 : Int32) => o_let (fun (x11 : Int32) (x12 : Int32) => some (x8, x11, x7, x12)) (fun (j91_13 : Int32 → Int32 → Option (Int32 × Int32 × Int32 × Int32)) => o_let (o_bind (fX4_fail (-3 : Int32) ea (Int32.ofNat a1) 0) (fun (x15, x16) => (j91_13 x15 x16))) (fun (j85_14 : Option (Int32 × Int32 × Int32 × Int32)) => (if x8 < Int32.ofNat lo then j85_14 else (if x8 ≤ Int32.ofNat hi then (j91_13 ea 0) else j85_14))))) (fun (j73_9 : Int32 → Int32 → Option (Int32 × Int32 × Int32 × Int32)) => (fX4_takeNumber_L26 (Int32.ofNat L) j73_9 bytes 1024 (Int32.ofNat a1) (0 : Int32))))) = (if Int32.ofNat (if mv < 10000 then mv else 10000) < Int32.ofNat lo then some (Int32.ofNat (if mv < 10000 then mv else 10000), Int32.ofNat a1, Int32.ofNat e, -3) else if Int32.ofNat (if mv < 10000 then mv else 10000) ≤ Int32.ofNat hi then some (Int32.ofNat (if mv < 10000 then mv else 10000), ea, Int32.ofNat e, 0) else some (Int32.ofNat (if mv < 10000 then mv else 10000), Int32.ofNat a1, Int32.ofNat e, -3)) := by
      rw [d1, n_bind, if_neg (by decide), n_let, show (0 : Int32) = Int32.ofNat (if 0 < 10000 then 0 else 10000) from rfl, e4]
      rfl
    by_cases hr : lo ≤ mv ∧ mv ≤ hi
    · refine ⟨e, by omega, by omega, Int32.ofNat a1, Or.inl ⟨mv, hr.1, hr.2, by omega, ?_, ?_⟩⟩
      · refine C.trans ?_
        rw [if_neg (fun hh => by
          have := (n_lt cv (by omega)).mp hh
          split at this <;> omega), if_pos ((n_le cv (by omega)).mpr (by split <;> omega)), if_pos (by omega)]
      · show o_bind (fX6_isDigit (btx buf L a1)) _ = _
        rw [d2, n_bind, if_neg (by decide), n_let, show (0 : Int32) = Int32.ofNat 0 from rfl, e5]
        show o_bind (fX6_in (Int32.ofNat mv) (Int32.ofNat lo) (Int32.ofNat hi)) _ = _
        rw [in_t (fun hh => by
          have := (n_lt (by omega) (by omega)).mp hh; omega) (fun hh => by
          have := (n_lt (by omega) (by omega)).mp hh; omega), n_bind]
        rfl
    · refine ⟨e, by omega, by omega, Int32.ofNat a1, Or.inr ⟨Int32.ofNat (if mv < 10000 then mv else 10000), -3, Int32.ofNat a1, by decide, ?_, ?_⟩⟩
      · refine C.trans ?_
        by_cases h1 : Int32.ofNat (if mv < 10000 then mv else 10000) < Int32.ofNat lo
        · rw [if_pos h1]
        · rw [if_neg h1, if_neg (fun hh => by
            have g1 := (n_le cv (by omega)).mp hh
            have g2 : ¬ (if mv < 10000 then mv else 10000) < lo := fun h => h1 ((n_lt cv (by omega)).mpr h)
            split at g1 <;> split at g2 <;> omega)]
      · show o_bind (fX6_isDigit (btx buf L a1)) _ = _
        rw [d2, n_bind, if_neg (by decide), n_let, show (0 : Int32) = Int32.ofNat 0 from rfl, e5]
        show o_bind (fX6_in (Int32.ofNat mv) (Int32.ofNat lo) (Int32.ofNat hi)) _ = _
        rw [in_f (by
          by_cases h1 : mv < lo
          · exact Or.inl ((n_lt (by omega) (by omega)).mpr h1)
          · exact Or.inr ((n_lt (by omega) (by omega)).mpr (by omega))), n_bind]
        rfl
end ZNU
