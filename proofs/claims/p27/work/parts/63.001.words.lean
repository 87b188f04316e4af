/-! ===== words and numbers written ===== -/
set_option maxRecDepth 100000 in
theorem zch_nat {c : Nat} (hc : c < 128) : zch (Int32.ofNat c) = Int32.ofNat c := by
  have : ∀ c : Fin 128, zch (Int32.ofNat c.val) = Int32.ofNat c.val := by decide
  exact this ⟨c, hc⟩
theorem getD_map {cs : List Nat} {k : Nat} (hk : k < cs.length) : (cs.map Int32.ofNat).getD k 0 = Int32.ofNat (cs.getD k 0) := by
  rw [List.getD_eq_getElem?_getD, List.getD_eq_getElem?_getD, List.getElem?_map, List.getElem?_eq_getElem hk]
  rfl
theorem take_s {cs : List Nat} {k : Nat} (hk : k < cs.length) : cs.take (k + 1) = cs.take k ++ [cs.getD k 0] := by
  rw [List.take_succ, List.getD_eq_getElem?_getD, List.getElem?_eq_getElem hk]
  rfl
theorem l_write {ts cs : List Nat} {size : Int32} {bytes U : Nat → Int32} (h : WV ts size bytes U) (hc : ∀ k, k < cs.length → cs.getD k 0 < 128) (hz : ts.length + cs.length ≤ 450) :
    ∃ size' bytes' U', fL_write (cs.map Int32.ofNat) size bytes U = some (size', bytes', U') ∧ WV (ts ++ cs) size' bytes' U' := by
  have hlen : (cs.map Int32.ofNat).length = cs.length := List.length_map ..
  have key := n_inv (fun f k (s : Int32 × (Nat → Int32) × (Nat → Int32)) => fL_write_L2 (cs.map Int32.ofNat) f (Int32.ofNat k) s.1 s.2.1 s.2.2) cs.length (fun s => some (s.1, s.2.1, s.2.2)) (fun k s => WV (ts ++ cs.take k) s.1 s.2.1 s.2.2) (fun f s _ => by
      simp only [fL_write_L2, hlen, Int32.le_refl, if_true]) (fun f k s hk hs => by
      have hlt : (ts ++ cs.take k).length < 460 := by
        rw [List.length_append, List.length_take]
        omega
      obtain ⟨a, b, c, e1, e2⟩ := l_put hs (c := cs.getD k 0) (by have := hc k hk; omega) hlt
      rw [List.append_assoc, ← take_s hk] at e2
      refine ⟨(a, b, c), e2, ?_⟩
      simp (disch := omega) only [fL_write_L2, hlen, n_le, n_rd, n_cl, n_let, n_s, getD_map hk, zch_nat (hc k hk), e1, n_bind, show ¬ cs.length ≤ k from by omega, if_false]) cs.length 0 1024 (size, bytes, U) (by omega) (by omega) (by
      rw [List.take_zero, List.append_nil]; exact h)
  obtain ⟨⟨a, b, c⟩, k1, k2⟩ := key
  rw [List.take_length] at k1
  refine ⟨a, b, c, ?_, k1⟩
  unfold fL_write
  rw [n_as (by rw [hlen]; omega)]
  exact k2
/-- the digits of a number below 100 -/
def dg (n : Nat) : List Nat := if n < 10 then [48 + n] else [48 + n / 10, 48 + n % 10]
theorem dg_len (n : Nat) : 1 ≤ (dg n).length ∧ (dg n).length ≤ 2 := by
  unfold dg
  split
  · exact ⟨Nat.le_refl 1, (show 1 ≤ 2 from by decide)⟩
  · exact ⟨(show 1 ≤ 2 from by decide), Nat.le_refl 2⟩
theorem l_number10 {ts : List Nat} {size : Int32} {bytes U : Nat → Int32} (h : WV ts size bytes U) {n : Nat} (hn : n < 100) (hz : ts.length ≤ 440) :
    ∃ size' bytes' U', fL_writeNumber (Int32.ofNat n) size bytes U = some (size', bytes', U') ∧ WV (ts ++ dg n) size' bytes' U' := by
  have d10 : Int32.ofNat n / 10 = Int32.ofNat (n / 10) := by
    rw [show (10 : Int32) = Int32.ofNat 10 from rfl, n_div (by omega) (by omega)]
  have one : ∀ (f : Nat) (ts : List Nat) (size : Int32) (bytes U : Nat → Int32), WV ts size bytes U → ts.length ≤ 445 → ∃ size' bytes' U', fL_writeNumber_L18 (Int32.ofNat n) (f + 2) 1 size bytes U = some (size', bytes', U') ∧ WV (ts ++ [48 + n % 10]) size' bytes' U' := fun f ts size bytes U h hz => by
    obtain ⟨a, b, c, e1, e2⟩ := l_put h (c := 48 + n % 10) (by omega) (by omega)
    refine ⟨a, b, c, ?_, e2⟩
    rw [show f + 2 = f + 1 + 1 from rfl, fL_writeNumber_L18, if_neg (by decide), n_as (by decide), show Int32.ofNat n / 1 = Int32.ofNat n from by rw [show (1 : Int32) = Int32.ofNat 1 from rfl, n_div (by omega) (by omega), Nat.div_one], show Int32.ofNat n - Int32.ofNat n / 10 * 10 = Int32.ofNat (n % 10) from by rw [show (10 : Int32) = Int32.ofNat 10 from rfl, n_mod (by omega) (by omega)], n_let, show (48 : Int32) + Int32.ofNat (n % 10) = Int32.ofNat (48 + n % 10) from (Int32.ofNat_add 48 _).symm, n_let, e1, n_bind]
    show o_let ((1 : Int32) / 10) _ = _
    rw [n_let, fL_writeNumber_L18, if_pos (by decide)]
  unfold fL_writeNumber
  rw [n_let]
  by_cases h10 : n < 10
  · have e : (if n < 10 then [48 + n] else [48 + n / 10, 48 + n % 10]) = [48 + n % 10] := by
      rw [if_pos h10, Nat.mod_eq_of_lt h10]
    unfold dg
    rw [e]
    show ∃ size' bytes' U', fL_writeNumber_L2 (Int32.ofNat n) _ (1023 + 1) 1 = _ ∧ _
    rw [fL_writeNumber_L2, d10, if_pos (show Int32.ofNat (n / 10) < 1 from (n_lt (b := 1) (by omega) (by omega)).mpr (by omega))]
    exact one 1022 ts size bytes U h (by omega)
  · unfold dg
    rw [if_neg h10]
    have hd1 : 1 ≤ n / 10 ∧ n / 10 < 10 := by omega
    have h99 : (n / 10) % 10 = n / 10 := Nat.mod_eq_of_lt hd1.2
    obtain ⟨a, b, c, e1, e2⟩ := l_put h (c := 48 + n / 10) (by omega) (by omega)
    obtain ⟨a', b', c', e3, e4⟩ := one 1021 _ _ _ _ e2 (by rw [List.length_append]; show ts.length + 1 ≤ 445; omega)
    refine ⟨a', b', c', ?_, by rw [List.append_assoc] at e4; exact e4⟩
    show fL_writeNumber_L2 (Int32.ofNat n) _ (1022 + 1 + 1) 1 = _
    rw [fL_writeNumber_L2, d10, if_neg (by rw [show (1 : Int32) = Int32.ofNat 1 from rfl, n_lt (by omega) (by omega)]; omega), n_let, show (1 : Int32) * 10 = 10 from rfl, fL_writeNumber_L2, d10, if_pos (show Int32.ofNat (n / 10) < 10 from (n_lt (b := 10) (by omega) (by omega)).mpr (by omega))]
    show fL_writeNumber_L18 (Int32.ofNat n) (1023 + 1) 10 size bytes U = _
    rw [fL_writeNumber_L18, if_neg (by decide), n_as (by decide), d10, show Int32.ofNat (n / 10) - Int32.ofNat (n / 10) / 10 * 10 = Int32.ofNat (n / 10) from by rw [show (10 : Int32) = Int32.ofNat 10 from rfl, n_mod (by omega) (by omega), h99], n_let, show (48 : Int32) + Int32.ofNat (n / 10) = Int32.ofNat (48 + n / 10) from (Int32.ofNat_add 48 _).symm, n_let, e1, n_bind]
    show o_let ((10 : Int32) / 10) _ = _
    rw [n_let, show (10 : Int32) / 10 = 1 from by decide]
    exact e3
/-- numbers, each behind a space -/
def nums (g : Nat → Nat) : Nat → List Nat
  | 0 => []
  | m + 1 => nums g m ++ 32 :: dg (g m)
theorem nums_len (g : Nat → Nat) : ∀ m : Nat, (nums g m).length ≤ 3 * m
  | 0 => Nat.le_refl _
  | m + 1 => by
    have h1 := nums_len g m
    have h2 := dg_len (g m)
    show (nums g m ++ 32 :: dg (g m)).length ≤ _
    rw [List.length_append, List.length_cons]
    omega
theorem l_writeAll {ts cs : List Nat} {size : Int32} {bytes U : Nat → Int32} (h : WV ts size bytes U) (hc : ∀ k, k < cs.length → cs.getD k 0 < 128) {m : Nat} (hm : m ≤ 5) (hz : ts.length + cs.length + 3 * m ≤ 430) {f : Nat → Int32} {g : Nat → Nat} (hg : ∀ i, i < m → f i = Int32.ofNat (g i) ∧ g i < 100) :
    ∃ size' bytes' U', fL_writeAll (cs.map Int32.ofNat) size bytes U m f = some (size', bytes', U') ∧ WV (ts ++ (cs ++ nums g m)) size' bytes' U' := by
  have hlen : (cs.map Int32.ofNat).length = cs.length := List.length_map ..
  obtain ⟨a0, b0, c0, w1, w2⟩ := l_write h hc (by omega)
  have key := n_inv (fun fu k (s : Int32 × (Nat → Int32) × (Nat → Int32)) => fL_writeAll_L17 (Int32.ofNat m) m f fu (Int32.ofNat k) s.1 s.2.1 s.2.2) m (fun s => some (s.1, s.2.1, s.2.2)) (fun k s => WV (ts ++ (cs ++ nums g k)) s.1 s.2.1 s.2.2) (fun fu s _ => by
      simp only [fL_writeAll_L17, Int32.le_refl, if_true]) (fun fu k s hk hs => by
      have hnl := nums_len g k
      have hl1 : (ts ++ (cs ++ nums g k)).length = ts.length + (cs.length + (nums g k).length) := by rw [List.length_append, List.length_append]
      obtain ⟨a1, b1, c1, u1, u2⟩ := l_write hs (cs := [32]) (fun k hk => by
        have : k = 0 := by
          have : k < 1 := hk
          omega
        subst this
        decide) (by rw [hl1]; show _ + 1 ≤ 450; omega)
      have hl2 : (ts ++ (cs ++ nums g k) ++ [32]).length = ts.length + (cs.length + (nums g k).length) + 1 := by rw [List.length_append, hl1]; rfl
      obtain ⟨a2, b2, c2, u3, u4⟩ := l_number10 u2 (n := g k) (hg k hk).2 (by rw [hl2]; omega)
      refine ⟨(a2, b2, c2), ?_, ?_⟩
      · have e : ts ++ (cs ++ nums g k) ++ [32] ++ dg (g k) = ts ++ (cs ++ nums g (k + 1)) := by
          show _ = ts ++ (cs ++ (nums g k ++ 32 :: dg (g k)))
          simp only [List.append_assoc, List.cons_append, List.nil_append]
        rw [e] at u4
        exact u4
      · have u1 : fL_write [32] s.1 s.2.1 s.2.2 = some (a1, b1, c1) := u1
        simp (disch := omega) only [fL_writeAll_L17, n_le, n_rd, n_cl, n_let, n_s, (hg k hk).1, u1, u3, n_bind, show ¬ m ≤ k from by omega, if_false]) m 0 1024 (a0, b0, c0) (by omega) (by omega) (by
      show WV (ts ++ (cs ++ [])) a0 b0 c0
      rw [List.append_nil]; exact w2)
  obtain ⟨⟨a, b, c⟩, k1, k2⟩ := key
  refine ⟨a, b, c, ?_, k1⟩
  unfold fL_writeAll
  rw [n_as (by rw [hlen]; omega), w1, n_bind]
  show o_let (Int32.ofNat m) _ = _
  rw [n_let]
  exact k2
