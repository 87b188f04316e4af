/-! ===== the setup text read: bytes, words, numbers ===== -/
def btx (buf : Nat → Int32) (L i : Nat) : Int32 := if i < L then buf i else -1
theorem n_32 : ¬ ((-1 : Int32) = 32) := by decide
theorem zmax (a L : Nat) : a ≤ max a L ∧ L ≤ max a L := ⟨Nat.le_max_left _ _, Nat.le_max_right _ _⟩
section ZRD
variable {L : Nat} {bytes buf : Nat → Int32}
theorem c_byteAt (hL : L ≤ 500) (hb : ∀ i, i < L → bytes i &&& 255 = buf i) {a : Nat} (ha : a < 100000) : fX4_byteAt (Int32.ofNat a) bytes (Int32.ofNat L) = some (btx buf L a) := by
  unfold fX4_byteAt btx
  rw [if_neg (n_lt0 (by omega))]
  by_cases h : a < L
  · rw [if_pos h, if_neg (fun hh => by
      have := (n_le (by omega) (by omega)).mp hh; omega), if_neg (n_500 (by omega)), n_rd (by omega) (by omega), n_cl (by omega), hb a h]
  · rw [if_neg h, if_pos ((n_le (by omega) (by omega)).mpr (by omega))]
theorem m_byteAt (hL : L ≤ 500) {a : Nat} (ha : a < 100000) : fX6_byteAt (Int32.ofNat a) buf (Int32.ofNat L) = some (btx buf L a) := by
  unfold fX6_byteAt btx
  by_cases h : a < L
  · rw [if_pos h, if_neg (fun hh => by
      have := (n_le (by omega) (by omega)).mp hh; omega), n_rd (by omega) (by omega), n_cl (by omega)]
  · rw [if_neg h, if_pos ((n_le (by omega) (by omega)).mpr (by omega))]
theorem btx_end {a : Nat} (h : L ≤ a) : btx buf L a = -1 := by unfold btx; rw [if_neg (by omega)]
/-- spaces skipped, by both alike -/
theorem r_skip (hL : L ≤ 500) (hb : ∀ i, i < L → bytes i &&& 255 = buf i) (jc jm : Int32 → Option (Int32 × Int32)) : ∀ (m a fuel : Nat), a < 10000 → L ≤ a + m → m < fuel →
    ∃ a', a ≤ a' ∧ (a' ≤ a ∨ a' ≤ L) ∧ ¬ btx buf L a' = 32 ∧ fX4_next_L0 (Int32.ofNat L) jc bytes fuel (Int32.ofNat a) = jc (Int32.ofNat a') ∧ fX6_ahead_L0 buf (Int32.ofNat L) jm fuel (Int32.ofNat a) = jm (Int32.ofNat a')
  | m, a, fuel, ha, hm, hf => by
    obtain ⟨f, rfl⟩ : ∃ f, fuel = f + 1 := ⟨fuel - 1, by omega⟩
    have hc := c_byteAt (bytes := bytes) hL hb (show a < 100000 by omega)
    have hm' := m_byteAt (buf := buf) hL (show a < 100000 by omega)
    by_cases h1 : L ≤ a
    · refine ⟨a, Nat.le_refl _, Or.inl (Nat.le_refl _), ?_, ?_, ?_⟩
      · rw [btx_end h1]; exact n_32
      · rw [fX4_next_L0, if_pos ((n_le (by omega) (by omega)).mpr h1)]
      · rw [fX6_ahead_L0, hm', n_bind, btx_end h1, if_neg n_32]
    · have hle : ¬ Int32.ofNat L ≤ Int32.ofNat a := fun hh => h1 ((n_le (by omega) (by omega)).mp hh)
      by_cases h2 : btx buf L a = 32
      · match m, hm with
        | 0, hm => omega
        | m + 1, hm =>
          obtain ⟨a', k1, k2, k3, k4, k5⟩ := r_skip hL hb jc jm m (a + 1) f (by omega) (by omega) (by omega)
          refine ⟨a', by omega, by omega, k3, ?_, ?_⟩
          · rw [fX4_next_L0, if_neg hle, hc, n_bind, if_pos h2, n_let, n_s, k4]
          · rw [fX6_ahead_L0, hm', n_bind, if_pos h2, n_let, n_s, k5]
      · refine ⟨a, Nat.le_refl _, Or.inl (Nat.le_refl _), h2, ?_, ?_⟩
        · rw [fX4_next_L0, if_neg hle, hc, n_bind, if_neg h2]
        · rw [fX6_ahead_L0, hm', n_bind, if_neg h2]
theorem r_next (hL : L ≤ 500) (hb : ∀ i, i < L → bytes i &&& 255 = buf i) {a : Nat} (ha : a < 10000) :
    ∃ a', a ≤ a' ∧ (a' ≤ a ∨ a' ≤ L) ∧ ¬ btx buf L a' = 32 ∧ fX4_next bytes (Int32.ofNat L) (Int32.ofNat a) = some (btx buf L a', Int32.ofNat a') ∧ fX6_ahead buf (Int32.ofNat L) (Int32.ofNat a) = some (btx buf L a', Int32.ofNat a') := by
  obtain ⟨a', k1, k2, k3, k4, k5⟩ := r_skip hL hb (fun (x1 : Int32) => o_bind (fX4_byteAt x1 bytes (Int32.ofNat L)) (fun x3 => some (x3, x1))) (fun (x1 : Int32) => o_bind (fX6_byteAt x1 buf (Int32.ofNat L)) (fun x3 => some (x3, x1))) L a 1024 ha (by omega) (by omega)
  refine ⟨a', k1, k2, k3, ?_, ?_⟩
  · unfold fX4_next
    rw [n_let, k4, c_byteAt hL hb (by omega), n_bind]
  · unfold fX6_ahead
    rw [n_let, k5, m_byteAt hL (by omega), n_bind]
/-- where no space stands, both stay -/
theorem r_stay (hL : L ≤ 500) (hb : ∀ i, i < L → bytes i &&& 255 = buf i) {a : Nat} (ha : a < 10000) (h : ¬ btx buf L a = 32) :
    fX4_next bytes (Int32.ofNat L) (Int32.ofNat a) = some (btx buf L a, Int32.ofNat a) ∧ fX6_ahead buf (Int32.ofNat L) (Int32.ofNat a) = some (btx buf L a, Int32.ofNat a) := by
  have hc := c_byteAt (bytes := bytes) hL hb (show a < 100000 by omega)
  have hm' := m_byteAt (buf := buf) hL (show a < 100000 by omega)
  constructor
  · unfold fX4_next
    rw [n_let]
    show fX4_next_L0 (Int32.ofNat L) _ bytes (1023 + 1) (Int32.ofNat a) = _
    rw [fX4_next_L0]
    by_cases h1 : L ≤ a
    · rw [if_pos ((n_le (by omega) (by omega)).mpr h1), hc, n_bind]
    · rw [if_neg (fun hh => h1 ((n_le (by omega) (by omega)).mp hh)), hc, n_bind, if_neg h, n_bind]
  · unfold fX6_ahead
    rw [n_let]
    show fX6_ahead_L0 buf (Int32.ofNat L) _ (1023 + 1) (Int32.ofNat a) = _
    rw [fX6_ahead_L0, hm', n_bind, if_neg h, n_bind]
theorem letter_in (x : Int32) : fX4_isLetter x = fX6_in x 97 122 := rfl
/-- a word that stands at a, as both see it -/
def zword (buf : Nat → Int32) (L : Nat) (sw : List Int32) (a : Nat) : Prop := (∀ i, i < sw.length → btx buf L (a + i) = zch (sw.getD i 0)) ∧ fX6_in (btx buf L (a + sw.length)) 97 122 = some 0
theorem r_word {sw : List Int32} (hs : sw.length < 100) (hL : L ≤ 500) (hb : ∀ i, i < L → bytes i &&& 255 = buf i) {a : Nat} (ha : a < 9000) (h : ¬ btx buf L a = 32) :
    ∃ b : Bool, fX4_nextIsWord sw bytes (Int32.ofNat L) (Int32.ofNat a) = some (zbi b, Int32.ofNat a) ∧ fX6_takeWord sw buf (Int32.ofNat L) (Int32.ofNat a) 0 = some (zbi b, Int32.ofNat (if b = true then a + sw.length else a)) ∧ (b = true → zword buf L sw a) := by
  obtain ⟨n1, n2⟩ := r_stay (bytes := bytes) hL hb (show a < 10000 by omega) h
  have hc := fun i (hi : i < 100) => c_byteAt (bytes := bytes) (a := a + i) hL hb (by omega)
  have hm' := fun i (hi : i < 100) => m_byteAt (buf := buf) (a := a + i) hL (by omega)
  have ea := fun i => (Int32.ofNat_add a i).symm
  have hin : fX6_in (btx buf L (a + sw.length)) 97 122 = some 0 ∨ fX6_in (btx buf L (a + sw.length)) 97 122 = some 1 := by
    unfold fX6_in
    split
    · exact Or.inl rfl
    · split
      · exact Or.inl rfl
      · exact Or.inr rfl
  unfold fX4_nextIsWord fX6_takeWord
  rw [n_as (show sw.length < 2147483648 by omega), n_as (show sw.length < 2147483648 by omega), n1, n_bind]
  show ∃ b : Bool, o_let _ _ = _ ∧ o_bind (fX6_isGood 0) _ = _ ∧ _
  rw [n_let, show fX6_isGood 0 = some 1 from rfl, n_bind, if_neg (show ¬ (1 : Int32) = 0 by decide), n2, n_bind]
  show ∃ b : Bool, _ ∧ o_let _ _ = _ ∧ _
  rw [n_let]
  rcases n_first (fun i => ¬ btx buf L (a + i) = zch (sw.getD i 0)) sw.length with ⟨i, i1, i2, i3⟩ | hall
  · refine ⟨false, ?_, ?_, fun h => by cases h⟩
    · refine n_walk (fun f k => fX4_nextIsWord_L7 sw _ (Int32.ofNat a) bytes (Int32.ofNat L) f (Int32.ofNat k)) i _ (fun f => ?_) (fun f k hk => ?_) 1024 (by omega)
      · simp (disch := omega) only [fX4_nextIsWord_L7, n_le, show ¬ sw.length ≤ i from by omega, if_false, ea, hc, n_bind, n_rd, n_cl, i2]
        rfl
      · have h3 : btx buf L (a + k) = zch (sw.getD k 0) := Decidable.not_not.mp (i3 k hk)
        simp (disch := omega) only [fX4_nextIsWord_L7, n_le, show ¬ sw.length ≤ k from by omega, if_false, ea, hc, n_bind, n_rd, n_cl, h3, if_true, n_let, n_s]
    · refine n_walk (fun f k => fX6_takeWord_L16 sw _ (Int32.ofNat a) buf (Int32.ofNat L) f (Int32.ofNat k)) i _ (fun f => ?_) (fun f k hk => ?_) 1024 (by omega)
      · simp (disch := omega) only [fX6_takeWord_L16, n_le, n_lt, show ¬ sw.length ≤ i from by omega, if_false, ea, hm', n_bind, n_rd, n_cl, i2, i1, if_true]
        rfl
      · have h3 : btx buf L (a + k) = zch (sw.getD k 0) := Decidable.not_not.mp (i3 k hk)
        simp (disch := omega) only [fX6_takeWord_L16, n_le, show ¬ sw.length ≤ k from by omega, if_false, ea, hm', n_bind, n_rd, n_cl, h3, if_true, n_let, n_s]
  · have hall : ∀ i, i < sw.length → btx buf L (a + i) = zch (sw.getD i 0) := fun i hi => Decidable.not_not.mp (hall i hi)
    have w1 : ∀ j, fX4_nextIsWord_L7 sw j (Int32.ofNat a) bytes (Int32.ofNat L) 1024 0 = j := fun j => by
      refine n_walk (fun f k => fX4_nextIsWord_L7 sw j (Int32.ofNat a) bytes (Int32.ofNat L) f (Int32.ofNat k)) sw.length _ (fun f => ?_) (fun f k hk => ?_) 1024 (by omega)
      · simp only [fX4_nextIsWord_L7, Int32.le_refl, if_true]
      · have h3 := hall k hk
        simp (disch := omega) only [fX4_nextIsWord_L7, n_le, show ¬ sw.length ≤ k from by omega, if_false, ea, hc, n_bind, n_rd, n_cl, h3, if_true, n_let, n_s]
    have w2 : ∀ j, fX6_takeWord_L16 sw j (Int32.ofNat a) buf (Int32.ofNat L) 1024 0 = j (Int32.ofNat sw.length) := fun j => by
      refine n_walk (fun f k => fX6_takeWord_L16 sw j (Int32.ofNat a) buf (Int32.ofNat L) f (Int32.ofNat k)) sw.length _ (fun f => ?_) (fun f k hk => ?_) 1024 (by omega)
      · simp only [fX6_takeWord_L16, Int32.le_refl, if_true]
      · have h3 := hall k hk
        simp (disch := omega) only [fX6_takeWord_L16, n_le, show ¬ sw.length ≤ k from by omega, if_false, ea, hm', n_bind, n_rd, n_cl, h3, if_true, n_let, n_s]
    rw [w1, w2, ea, hc sw.length (by omega), n_bind, letter_in, if_neg (show ¬ Int32.ofNat sw.length < Int32.ofNat sw.length from fun h => Int32.lt_irrefl h), hm' sw.length (by omega), n_bind]
    rcases hin with h0 | h1
    · refine ⟨true, ?_, ?_, fun _ => ⟨hall, h0⟩⟩
      · rw [h0, n_bind, if_pos rfl]; rfl
      · rw [h0, n_bind, if_pos rfl, n_let]; rfl
    · refine ⟨false, ?_, ?_, fun h => by cases h⟩
      · rw [h1, n_bind, if_neg (by decide)]; rfl
      · rw [h1, n_bind, if_neg (by decide)]; rfl
end ZRD
