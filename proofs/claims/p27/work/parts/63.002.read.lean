/-! ===== the class reads a text ===== -/
def tb : List Nat → Int32
  | [] => -1
  | c :: _ => Int32.ofNat c
theorem tb_nc {c d : Nat} {r : List Nat} (h : (decide (c < 128) && decide (d < 128) && !decide (c = d)) = true) : ¬ tb (c :: r) = Int32.ofNat d := by
  simp only [Bool.and_eq_true, Bool.not_eq_true', decide_eq_true_eq, decide_eq_false_iff_not] at h
  show ¬ Int32.ofNat c = Int32.ofNat d
  rw [n_eq (by omega) (by omega)]
  exact h.2
def RDX (ts : List Nat) (bytes : Nat → Int32) : Prop := ts.length ≤ 500 ∧ ∀ i, i < ts.length → bytes i &&& 255 = Int32.ofNat (ts.getD i 0)
theorem drop_s {ts : List Nat} {a c : Nat} {r : List Nat} (h : ts.drop a = c :: r) : ts.drop (a + 1) = r := by
  have h2 := congrArg List.tail h
  rw [List.tail_drop] at h2
  exact h2
theorem drop_w {ts : List Nat} : ∀ (w : List Nat) {a : Nat} {r : List Nat}, ts.drop a = w ++ r → ts.drop (a + w.length) = r
  | [], _, _, h => h
  | c :: w, a, r, h => by
    have := drop_w w (drop_s (show ts.drop a = c :: (w ++ r) from h))
    rw [show a + (c :: w).length = a + 1 + w.length by rw [List.length_cons]; omega]
    exact this
theorem drop_lt {ts : List Nat} {a c : Nat} {r : List Nat} (h : ts.drop a = c :: r) : a < ts.length ∧ ts.getD a 0 = c := by
  have h1 : (ts.drop a)[0]? = some c := by rw [h]; rfl
  rw [List.getElem?_drop, Nat.add_zero] at h1
  refine ⟨(List.getElem?_eq_some_iff.mp h1).1, ?_⟩
  rw [List.getD_eq_getElem?_getD, h1]
  rfl
section ZRDX
variable {ts : List Nat} {bytes : Nat → Int32}
theorem p_byte (hb : RDX ts bytes) {a : Nat} (ha : a < 100000) {r : List Nat} (h : ts.drop a = r) : fX4_byteAt (Int32.ofNat a) bytes (Int32.ofNat ts.length) = some (tb r) := by
  obtain ⟨hL, hb⟩ := hb
  unfold fX4_byteAt
  rw [if_neg (n_lt0 (by omega))]
  cases r with
  | nil =>
    rw [List.drop_eq_nil_iff] at h
    rw [if_pos ((n_le (by omega) (by omega)).mpr h)]
    rfl
  | cons c r =>
    obtain ⟨h1, h2⟩ := drop_lt h
    rw [if_neg (fun hh => by
      have := (n_le (by omega) (by omega)).mp hh; omega), if_neg (n_500 (by omega)), n_rd (by omega) (by omega), n_cl (by omega), hb a h1, h2]
    rfl
theorem p_L0stay (hb : RDX ts bytes) {a : Nat} (ha : a < 10000) {r : List Nat} (h : ts.drop a = r) (hr : ¬ tb r = 32) (j : Int32 → Option (Int32 × Int32)) (f : Nat) : fX4_next_L0 (Int32.ofNat ts.length) j bytes (f + 1) (Int32.ofNat a) = j (Int32.ofNat a) := by
  rw [fX4_next_L0]
  by_cases h1 : Int32.ofNat ts.length ≤ Int32.ofNat a
  · rw [if_pos h1]
  · rw [if_neg h1, p_byte hb (by omega) h, n_bind, if_neg hr]
theorem p_next (hb : RDX ts bytes) {a : Nat} (ha : a < 10000) {r : List Nat} (h : ts.drop a = r) (hr : ¬ tb r = 32) : fX4_next bytes (Int32.ofNat ts.length) (Int32.ofNat a) = some (tb r, Int32.ofNat a) := by
  unfold fX4_next
  rw [n_let]
  show fX4_next_L0 _ _ _ (1023 + 1) _ = _
  rw [p_L0stay hb ha h hr, p_byte hb (by omega) h, n_bind]
theorem p_next1 (hb : RDX ts bytes) {a : Nat} (ha : a < 9999) {r : List Nat} (h : ts.drop a = 32 :: r) (hr : ¬ tb r = 32) : fX4_next bytes (Int32.ofNat ts.length) (Int32.ofNat a) = some (tb r, Int32.ofNat (a + 1)) := by
  have h2 := drop_s h
  have hlt := (drop_lt h).1
  have hL := hb.1
  unfold fX4_next
  rw [n_let]
  show fX4_next_L0 _ _ _ (1022 + 1 + 1) _ = _
  rw [fX4_next_L0, if_neg (fun hh => by
      have := (n_le (by omega) (by omega)).mp hh; omega), p_byte hb (by omega) h, n_bind, if_pos (show tb (32 :: r) = 32 from rfl), n_let, n_s, p_L0stay hb (by omega) h2 hr, p_byte hb (by omega) h2, n_bind]
/-- a word that stands there -/
theorem p_word (hb : RDX ts bytes) {p : Int32} {a : Nat} (ha : a < 9000) {x : Int32} (hn : fX4_next bytes (Int32.ofNat ts.length) p = some (x, Int32.ofNat a)) {w r : List Nat} (h : ts.drop a = w ++ r) (hw : ∀ c, c ∈ w → c < 128) (hwl : w.length < 100) (hl : fX4_isLetter (tb r) = some 0) : fX4_nextIsWord (w.map Int32.ofNat) bytes (Int32.ofNat ts.length) p = some (1, Int32.ofNat a) := by
  have hlen : (w.map Int32.ofNat).length = w.length := List.length_map ..
  have go : ∀ (w2 w1 : List Nat) (j : Option (Int32 × Int32)) (f : Nat), w = w1 ++ w2 → w2.length < f → ts.drop (a + w1.length) = w2 ++ r → fX4_nextIsWord_L7 (w.map Int32.ofNat) j (Int32.ofNat a) bytes (Int32.ofNat ts.length) f (Int32.ofNat w1.length) = j := by
    intro w2
    induction w2 with
    | nil =>
      intro w1 j f he hf _
      obtain ⟨f, rfl⟩ : ∃ g, f = g + 1 := ⟨f - 1, by omega⟩
      rw [List.append_nil] at he
      subst he
      rw [fX4_nextIsWord_L7, hlen, if_pos (Int32.le_refl _)]
    | cons c w2 ih =>
      intro w1 j f he hf hd
      obtain ⟨f, rfl⟩ : ∃ g, f = g + 1 := ⟨f - 1, by omega⟩
      have hl1 : w.length = w1.length + (w2.length + 1) := by rw [he, List.length_append, List.length_cons]
      have hc : c < 128 := hw c (by rw [he]; simp)
      have hg : (w.map Int32.ofNat).getD w1.length 0 = Int32.ofNat c := by
        rw [getD_map (by omega), he, List.getD_eq_getElem?_getD, List.getElem?_append_right (Nat.le_refl _), Nat.sub_self]
        rfl
      have hd2 := drop_s (show ts.drop (a + w1.length) = c :: (w2 ++ r) from hd)
      have nx := ih (w1 ++ [c]) j f (by rw [he]; simp) (by rw [List.length_cons] at hf; omega) (by
        rw [List.length_append]
        show ts.drop (a + (w1.length + 1)) = _
        rw [← Nat.add_assoc]
        exact hd2)
      rw [fX4_nextIsWord_L7, hlen, if_neg (fun hh => by
        have := (n_le (by omega) (by omega)).mp hh; omega), ← Int32.ofNat_add, p_byte hb (by omega) hd, n_bind, n_rd (by omega) (by omega), n_cl (by omega), hg, zch_nat hc, if_pos (show tb (c :: w2 ++ r) = Int32.ofNat c from rfl), n_let, n_s]
      rw [List.length_append] at nx
      exact nx
  unfold fX4_nextIsWord
  rw [n_as (by rw [hlen]; omega), hn, n_bind]
  show o_let _ _ = _
  rw [n_let, show (0 : Int32) = Int32.ofNat ([] : List Nat).length from rfl, go w [] _ 1024 rfl (by omega) h, hlen, ← Int32.ofNat_add, p_byte hb (by omega) (drop_w w h), n_bind, hl, n_bind]
  rfl
/-- another word -/
theorem p_word0 (hb : RDX ts bytes) {p : Int32} {a : Nat} (ha : a < 9000) {x : Int32} (hn : fX4_next bytes (Int32.ofNat ts.length) p = some (x, Int32.ofNat a)) {r : List Nat} (h : ts.drop a = r) {c : Nat} {w : List Nat} (hc : c < 128) (hwl : w.length < 100) (hne : ¬ tb r = Int32.ofNat c) : fX4_nextIsWord ((c :: w).map Int32.ofNat) bytes (Int32.ofNat ts.length) p = some (0, Int32.ofNat a) := by
  have hlen : ((c :: w).map Int32.ofNat).length = w.length + 1 := by rw [List.length_map, List.length_cons]
  unfold fX4_nextIsWord
  rw [n_as (by rw [hlen]; omega), hn, n_bind]
  show o_let _ _ = _
  rw [n_let]
  show fX4_nextIsWord_L7 _ _ _ _ _ (1023 + 1) (Int32.ofNat 0) = _
  rw [fX4_nextIsWord_L7, hlen, if_neg (fun hh => by
        have := (n_le (by omega) (by omega)).mp hh; omega), ← Int32.ofNat_add, Nat.add_zero, p_byte hb (by omega) h, n_bind, n_rd (by omega) (by omega), n_cl (by omega)]
  show (if tb r = zch (Int32.ofNat c) then _ else _) = _
  rw [zch_nat hc, if_neg hne]
theorem dig_1 {d : Nat} (hd : d ≤ 9) : fX4_isDigit (Int32.ofNat (48 + d)) = some 1 := by
  have : ∀ d : Fin 10, fX4_isDigit (Int32.ofNat (48 + d.val)) = some 1 := by decide
  exact this ⟨d, by omega⟩
/-- a number below 100, behind a space -/
theorem p_num (hb : RDX ts bytes) {a v lo hi : Nat} (ha : a < 8000) {r : List Nat} (h : ts.drop a = 32 :: (dg v ++ r)) (hr : fX4_isDigit (tb r) = some 0) (hv : v < 100) (h1 : lo ≤ v) (h2 : v ≤ hi) (hh : hi ≤ 9999) (ea : Int32) :
    fX4_takeNumber (Int32.ofNat lo) (Int32.ofNat hi) ea bytes (Int32.ofNat ts.length) (Int32.ofNat a) 0 = some (Int32.ofNat v, ea, Int32.ofNat (a + 1 + (dg v).length), 0) ∧ ts.drop (a + 1 + (dg v).length) = r := by
  have hd := drop_s h
  refine ⟨?_, drop_w (dg v) hd⟩
  have hL := hb.1
  have one : ∀ (j : Int32 → Int32 → Option (Int32 × Int32 × Int32 × Int32)) (a d mv f : Nat) (r : List Nat), a < 9000 → d ≤ 9 → mv ≤ 99 → ts.drop a = (48 + d) :: r → fX4_takeNumber_L26 (Int32.ofNat ts.length) j bytes (f + 1) (Int32.ofNat a) (Int32.ofNat mv) = fX4_takeNumber_L26 (Int32.ofNat ts.length) j bytes f (Int32.ofNat (a + 1)) (Int32.ofNat (10 * mv + d)) := fun j a d mv f r ha hd hm hda => by
    have hlt := (drop_lt hda).1
    have e : ((10 : Int32) * Int32.ofNat mv + Int32.ofNat (48 + d)) - 48 = Int32.ofNat (10 * mv + d) := by
      rw [show (10 : Int32) = Int32.ofNat 10 from rfl, ← Int32.ofNat_mul, ← Int32.ofNat_add]
      exact n_sub (b := 48) (by omega)
    rw [fX4_takeNumber_L26, if_neg (fun hh => by
        have := (n_le (by omega) (by omega)).mp hh; omega), p_byte hb (by omega) hda, n_bind]
    show o_bind (fX4_isDigit (Int32.ofNat (48 + d))) _ = _
    rw [dig_1 hd, n_bind, if_neg (by decide), n_bind]
    show o_let (if (10000 : Int32) < ((10 : Int32) * Int32.ofNat mv + Int32.ofNat (48 + d)) - 48 then (10000 : Int32) else ((10 : Int32) * Int32.ofNat mv + Int32.ofNat (48 + d)) - 48) _ = _
    rw [e, if_neg (by rw [show (10000 : Int32) = Int32.ofNat 10000 from rfl, n_lt (by omega) (by omega)]; omega), n_let, n_s, n_let]
  have fin : ∀ (j : Int32 → Int32 → Option (Int32 × Int32 × Int32 × Int32)) (a f : Nat) (x : Int32), a < 9000 → ts.drop a = r → fX4_takeNumber_L26 (Int32.ofNat ts.length) j bytes (f + 1) (Int32.ofNat a) x = j (Int32.ofNat a) x := fun j a f x ha hda => by
    rw [fX4_takeNumber_L26]
    by_cases hc : Int32.ofNat ts.length ≤ Int32.ofNat a
    · rw [if_pos hc]
    · rw [if_neg hc, p_byte hb (by omega) hda, n_bind, hr, n_bind, if_pos rfl]
  obtain ⟨d0, r0, hd0, hr0, hdec⟩ : ∃ d0 r0, d0 ≤ 9 ∧ ts.drop (a + 1) = (48 + d0) :: r0 ∧ ∀ (j : Int32 → Int32 → Option (Int32 × Int32 × Int32 × Int32)), fX4_takeNumber_L26 (Int32.ofNat ts.length) j bytes 1024 (Int32.ofNat (a + 1)) 0 = j (Int32.ofNat (a + 1 + (dg v).length)) (Int32.ofNat v) := by
    unfold dg at hd ⊢
    by_cases h10 : v < 10
    · rw [if_pos h10] at hd ⊢
      refine ⟨v, r, by omega, hd, fun j => ?_⟩
      have e1 := one j (a + 1) v 0 1023 r (by omega) (by omega) (by omega) hd
      rw [show 10 * 0 + v = v by omega] at e1
      refine e1.trans ?_
      exact fin j (a + 1 + 1) 1022 _ (by omega) (drop_s hd)
    · rw [if_neg h10] at hd ⊢
      refine ⟨v / 10, (48 + v % 10) :: r, by omega, hd, fun j => ?_⟩
      have e1 := one j (a + 1) (v / 10) 0 1023 _ (by omega) (by omega) (by omega) hd
      have e2 := one j (a + 1 + 1) (v % 10) (10 * 0 + v / 10) 1022 r (by omega) (by omega) (by omega) (drop_s hd)
      rw [show 10 * (10 * 0 + v / 10) + v % 10 = v by omega] at e2
      refine e1.trans (e2.trans ?_)
      exact fin j (a + 1 + 1 + 1) 1021 _ (by omega) (drop_s (drop_s hd))
  have hn := p_next1 hb (show a < 9999 by omega) h (show ¬ tb (dg v ++ r) = 32 from by
    rw [← hd, hr0]
    show ¬ Int32.ofNat (48 + d0) = Int32.ofNat 32
    rw [n_eq (by omega) (by omega)]; omega)
  have htb : tb (dg v ++ r) = Int32.ofNat (48 + d0) := by rw [← hd, hr0]; rfl
  rw [htb] at hn
  unfold fX4_takeNumber
  rw [hn, n_bind]
  show o_bind (fX4_isDigit (Int32.ofNat (48 + d0))) _ = _
  rw [dig_1 hd0, n_bind, if_neg (by decide), n_let]
  rw [hdec, n_let, n_let, if_neg (by rw [n_lt (by omega) (by omega)]; omega), if_pos ((n_le (by omega) (by omega)).mpr h2)]
theorem p_semi (hb : RDX ts bytes) {a : Nat} (ha : a < 9000) {r : List Nat} (h : ts.drop a = 59 :: r) (ea er : Int32) : fX4_takeSemicolon ea bytes (Int32.ofNat ts.length) (Int32.ofNat a) er = some (ea, Int32.ofNat (a + 1), er) := by
  unfold fX4_takeSemicolon
  rw [p_next hb (by omega) h (tb_nc (c := 59) (d := 32) rfl), n_bind]
  show o_let _ _ = _
  rw [n_let, if_pos (show tb (59 :: r) = 59 from rfl)]
  show o_let (Int32.ofNat a + 1) _ = _
  rw [n_let, n_s]
theorem dig_0 (r : List Nat) : fX4_isDigit (tb (32 :: r)) = some 0 ∧ fX4_isDigit (tb (59 :: r)) = some 0 := by
  show fX4_isDigit (Int32.ofNat 32) = some 0 ∧ fX4_isDigit (Int32.ofNat 59) = some 0
  decide
theorem let_0 (r : List Nat) : fX4_isLetter (tb (32 :: r)) = some 0 ∧ fX4_isLetter (tb (59 :: r)) = some 0 := by
  show fX4_isLetter (Int32.ofNat 32) = some 0 ∧ fX4_isLetter (Int32.ofNat 59) = some 0
  decide
/-- costs -/
theorem p_costs (hb : RDX ts bytes) {a : Nat} (ha : a < 7000) {g : Nat → Nat} (hg : ∀ i, i < 5 → g i < 100) {r : List Nat} (h : ts.drop a = [99, 111, 115, 116, 115] ++ (nums g 5 ++ 59 :: r)) (ea cr : Int32) (co : Nat → Int32) :
    ∃ co' : Nat → Int32, fX4_readCosts ea bytes (Int32.ofNat ts.length) (Int32.ofNat a) 0 cr co = some (ea, Int32.ofNat (a + 5 + (nums g 5).length), 0, 1, co') ∧ (∀ k, k < 5 → co' k = Int32.ofNat (g k)) ∧ ts.drop (a + 5 + (nums g 5).length) = 59 :: r := by
  have h5 := drop_w [99, 111, 115, 116, 115] h
  have h5 : ts.drop (a + 5) = nums g 5 ++ 59 :: r := h5
  have key := n_inv (fun f k (s : Nat × (Nat → Int32)) => fX4_readCosts_L17 bytes (Int32.ofNat ts.length) f (Int32.ofNat k) ea (Int32.ofNat s.1) 0 s.2) 5 (fun s => some (ea, Int32.ofNat s.1, 0, 1, s.2)) (fun k s => s.1 = a + 5 + (nums g k).length ∧ ∀ q, q < k → s.2 q = Int32.ofNat (g q)) (fun f s _ => by
      simp only [fX4_readCosts_L17, show ((5 : Int32) ≤ Int32.ofNat 5) from by decide, if_true]) (fun f k s hk hs => by
      obtain ⟨y, c⟩ := s
      obtain ⟨s1, s2⟩ := hs
      have s1 : y = a + 5 + (nums g k).length := s1
      have s2 : ∀ q, q < k → c q = Int32.ofNat (g q) := s2
      have hnl := nums_len g k
      obtain ⟨r', hsp, hdg⟩ : ∃ r', nums g 5 ++ 59 :: r = nums g k ++ 32 :: (dg (g k) ++ r') ∧ fX4_isDigit (tb r') = some 0 := by
        have hk5 : k = 0 ∨ k = 1 ∨ k = 2 ∨ k = 3 ∨ k = 4 := by omega
        rcases hk5 with rfl | rfl | rfl | rfl | rfl
        · refine ⟨32 :: (dg (g 1) ++ 32 :: (dg (g 2) ++ 32 :: (dg (g 3) ++ 32 :: (dg (g 4) ++ 59 :: r)))), ?_, (dig_0 _).1⟩
          simp only [nums, List.append_assoc, List.cons_append, List.nil_append]
        · refine ⟨32 :: (dg (g 2) ++ 32 :: (dg (g 3) ++ 32 :: (dg (g 4) ++ 59 :: r))), ?_, (dig_0 _).1⟩
          simp only [nums, List.append_assoc, List.cons_append, List.nil_append]
        · refine ⟨32 :: (dg (g 3) ++ 32 :: (dg (g 4) ++ 59 :: r)), ?_, (dig_0 _).1⟩
          simp only [nums, List.append_assoc, List.cons_append, List.nil_append]
        · refine ⟨32 :: (dg (g 4) ++ 59 :: r), ?_, (dig_0 _).1⟩
          simp only [nums, List.append_assoc, List.cons_append, List.nil_append]
        · refine ⟨59 :: r, ?_, (dig_0 _).2⟩
          simp only [nums, List.append_assoc, List.cons_append, List.nil_append]
      rw [hsp] at h5
      have hd := drop_w (nums g k) h5
      rw [← s1] at hd
      have hgk := hg k hk
      obtain ⟨e1, -⟩ := p_num (lo := 0) (hi := 99) hb (show y < 8000 by omega) hd hdg hgk (by omega) (by omega) (by omega) ea
      have e1 : fX4_takeNumber 0 99 ea bytes (Int32.ofNat ts.length) (Int32.ofNat y) 0 = some (Int32.ofNat (g k), ea, Int32.ofNat (y + 1 + (dg (g k)).length), 0) := e1
      refine ⟨(y + 1 + (dg (g k)).length, upd c k (Int32.ofNat (g k))), ⟨?_, fun q hq => ?_⟩, ?_⟩
      · show y + 1 + (dg (g k)).length = a + 5 + (nums g k ++ 32 :: dg (g k)).length
        rw [List.length_append, List.length_cons]
        omega
      · by_cases e : q = k
        · subst e; exact upd_same
        · exact (upd_ne e).trans (s2 q (by omega))
      · simp (disch := omega) only [fX4_readCosts_L17, show ¬ (5 : Int32) ≤ Int32.ofNat k from fun h => by
          have := (n_le (a := 5) (by omega) (by omega)).mp h
          omega, if_false, e1, n_bind, n_rd, n_cl, n_let, n_s]) 5 0 1024 (a + 5, co) (by omega) (by omega) ⟨rfl, fun q hq => absurd hq (Nat.not_lt_zero _)⟩
  obtain ⟨⟨y, c⟩, ⟨k1, k2⟩, k3⟩ := key
  have k1 : y = a + 5 + (nums g 5).length := k1
  refine ⟨c, ?_, k2, drop_w (nums g 5) h5⟩
  unfold fX4_readCosts
  rw [show Int32.ofNat a + 5 = Int32.ofNat (a + 5) from (Int32.ofNat_add a 5).symm, n_let, ← k1]
  exact k3
end ZRDX
