/-! ===== the text that the law writes ===== -/
def bb (w : Int32) (b : Nat) : Int32 := (w >>> ((24 - 8 * Int32.ofNat b) &&& 31)) &&& 255
theorem n_sh4 {b : Nat} (hb : b < 4) : ((24 - 8 * Int32.ofNat b) &&& 31).toBitVec.smod 32 = BitVec.ofNat 32 (24 - 8 * b) := by
  have : ∀ b : Fin 4, ((24 - 8 * Int32.ofNat b.val) &&& 31).toBitVec.smod 32 = BitVec.ofNat 32 (24 - 8 * b.val) := by decide
  exact this ⟨b, hb⟩
theorem n_255 (i : Nat) : (255 : Int32).toBitVec.getLsbD i = decide (i < 8) := by
  by_cases h : i < 32
  · have : ∀ i : Fin 32, (255 : Int32).toBitVec.getLsbD i.val = decide (i.val < 8) := by decide
    exact this ⟨i, h⟩
  · rw [BitVec.getLsbD_of_ge _ _ (by omega), decide_eq_false (by omega)]
theorem bb_bit (w : Int32) {b : Nat} (hb : b < 4) (i : Nat) : (bb w b).toBitVec.getLsbD i = (decide (i < 8) && w.toBitVec.getLsbD (24 - 8 * b + i)) := by
  unfold bb
  rw [Int32.toBitVec_and, BitVec.getLsbD_and, n_255, Int32.toBitVec_shiftRight, n_sh4 hb, BitVec.sshiftRight', BitVec.getLsbD_sshiftRight]
  have e : (BitVec.ofNat 32 (24 - 8 * b)).toNat = 24 - 8 * b := by rw [BitVec.toNat_ofNat]; exact Nat.mod_eq_of_lt (by omega)
  rw [e]
  by_cases h : i < 8
  · rw [decide_eq_true h, decide_eq_false (show ¬ 32 ≤ i by omega), if_pos (by omega)]
    simp
  · rw [decide_eq_false h]
    simp
theorem n_cbit {c : Nat} (hc : c < 256) {i : Nat} (hi : 8 ≤ i) : (Int32.ofNat c).toBitVec.getLsbD i = false := by
  show (BitVec.ofNat 32 c).getLsbD i = false
  rw [BitVec.getLsbD_ofNat]
  have h1 : c < 2 ^ i := Nat.lt_of_lt_of_le (show c < 2 ^ 8 by omega) (Nat.pow_le_pow_right (by omega) hi)
  rw [Nat.testBit_lt_two_pow h1, Bool.and_false]
/-- a character into its place of a word -/
theorem bb_or (w : Int32) {b b' c : Nat} (hb : b < 4) (hb' : b' < 4) (hc : c < 256) : bb (w ||| (Int32.ofNat c <<< ((24 - 8 * Int32.ofNat b) &&& 31))) b' = if b' = b then bb w b' ||| Int32.ofNat c else bb w b' := by
  have e : (BitVec.ofNat 32 (24 - 8 * b)).toNat = 24 - 8 * b := by rw [BitVec.toNat_ofNat]; exact Nat.mod_eq_of_lt (by omega)
  have hbit : ∀ i, i < 8 → (w ||| (Int32.ofNat c <<< ((24 - 8 * Int32.ofNat b) &&& 31))).toBitVec.getLsbD (24 - 8 * b' + i) = (w.toBitVec.getLsbD (24 - 8 * b' + i) || (decide (b' = b) && (Int32.ofNat c).toBitVec.getLsbD i)) := fun i hi => by
    rw [Int32.toBitVec_or, BitVec.getLsbD_or, Int32.toBitVec_shiftLeft, n_sh4 hb, BitVec.shiftLeft_eq', BitVec.getLsbD_shiftLeft, e]
    congr 1
    rw [decide_eq_true (show 24 - 8 * b' + i < 32 by omega), Bool.true_and]
    rcases Nat.lt_trichotomy b' b with h | h | h
    · rw [decide_eq_false (show ¬ 24 - 8 * b' + i < 24 - 8 * b by omega), n_cbit hc (show 8 ≤ 24 - 8 * b' + i - (24 - 8 * b) by omega), decide_eq_false (show ¬ b' = b by omega)]
      rfl
    · subst h
      rw [decide_eq_false (show ¬ 24 - 8 * b' + i < 24 - 8 * b' by omega), show 24 - 8 * b' + i - (24 - 8 * b') = i by omega, decide_eq_true rfl]
      rfl
    · rw [decide_eq_true (show 24 - 8 * b' + i < 24 - 8 * b by omega), decide_eq_false (show ¬ b' = b by omega)]
      rfl
  by_cases hbb : b' = b
  · rw [if_pos hbb]
    apply Int32.toBitVec_inj.mp
    apply BitVec.eq_of_getLsbD_eq
    intro i hi
    have rhs : (bb w b' ||| Int32.ofNat c).toBitVec.getLsbD i = ((decide (i < 8) && w.toBitVec.getLsbD (24 - 8 * b' + i)) || (Int32.ofNat c).toBitVec.getLsbD i) := by rw [Int32.toBitVec_or, BitVec.getLsbD_or, bb_bit _ hb']
    rw [bb_bit _ hb', rhs]
    by_cases h8 : i < 8
    · rw [decide_eq_true h8, hbit i h8, decide_eq_true hbb, Bool.true_and, Bool.true_and, Bool.true_and]
    · rw [decide_eq_false h8, n_cbit hc (by omega)]
      rfl
  · rw [if_neg hbb]
    apply Int32.toBitVec_inj.mp
    apply BitVec.eq_of_getLsbD_eq
    intro i hi
    rw [bb_bit _ hb', bb_bit _ hb']
    by_cases h8 : i < 8
    · rw [decide_eq_true h8, hbit i h8, decide_eq_false hbb, Bool.false_and, Bool.or_false]
    · rw [decide_eq_false h8]
      rfl
theorem bb_0 {b : Nat} (hb : b < 4) : bb 0 b = 0 := by
  have : ∀ b : Fin 4, bb 0 b.val = 0 := by decide
  exact this ⟨b, hb⟩
theorem n_or0 (c : Nat) : (0 : Int32) ||| Int32.ofNat c = Int32.ofNat c := Int32.zero_or
/-- the class's input buffer takes five words -/
theorem c_append (w0 w1 w2 w3 w4 : Int32) {z : Nat} (hz : z + 20 ≤ 500) (bytes : Nat → Int32) : fX5_append w0 w1 w2 w3 w4 (Int32.ofNat z) bytes = some (Int32.ofNat (z + 20), Int32.ofNat (z + 20), zap w0 w1 w2 w3 w4 z bytes) := by
  have e20 : Int32.ofNat z + 20 = Int32.ofNat (z + 20) := (Int32.ofNat_add z 20).symm
  unfold fX5_append fX4_hasRoomFor
  rw [e20, if_neg (fun h => by
    have := (n_lt (a := 500) (by omega) (by omega)).mp h; omega), n_bind, if_neg (by decide), c_putWord w0 (by omega), n_bind]
  show o_bind (fX4_putWord w1 _ _) _ = _
  rw [c_putWord w1 (by omega), n_bind]
  show o_bind (fX4_putWord w2 _ _) _ = _
  rw [c_putWord w2 (by omega), n_bind]
  show o_bind (fX4_putWord w3 _ _) _ = _
  rw [c_putWord w3 (by omega), n_bind]
  show o_bind (fX4_putWord w4 _ _) _ = _
  rw [c_putWord w4 (by omega)]
  rfl
theorem zap_lo (w0 w1 w2 w3 w4 : Int32) {z i : Nat} (bytes : Nat → Int32) (hi : i < z) : zap w0 w1 w2 w3 w4 z bytes i = bytes i := by
  unfold zap
  simp (disch := omega) only [upd_ne]
theorem zap_at (w0 w1 w2 w3 w4 : Int32) {z k : Nat} (bytes : Nat → Int32) (hk : k < 20) : zap w0 w1 w2 w3 w4 z bytes (z + k) &&& 255 = zbv w0 w1 w2 w3 w4 k := by
  unfold zap
  have a0 := n_bytef w0
  have a1 := n_bytef w1
  have a2 := n_bytef w2
  have a3 := n_bytef w3
  have a4 := n_bytef w4
  have hk : k = 0 ∨ k = 1 ∨ k = 2 ∨ k = 3 ∨ k = 4 ∨ k = 5 ∨ k = 6 ∨ k = 7 ∨ k = 8 ∨ k = 9 ∨ k = 10 ∨ k = 11 ∨ k = 12 ∨ k = 13 ∨ k = 14 ∨ k = 15 ∨ k = 16 ∨ k = 17 ∨ k = 18 ∨ k = 19 := by omega
  rcases hk with rfl | rfl | rfl | rfl | rfl | rfl | rfl | rfl | rfl | rfl | rfl | rfl | rfl | rfl | rfl | rfl | rfl | rfl | rfl | rfl
  · simp (disch := omega) only [Nat.add_zero, upd_ne, upd_same]; exact a0.1
  · simp (disch := omega) only [upd_ne, upd_same]; exact a0.2.1
  · simp (disch := omega) only [upd_ne, upd_same]; exact a0.2.2.1
  · simp (disch := omega) only [upd_ne, upd_same]; exact a0.2.2.2
  · simp (disch := omega) only [upd_ne, upd_same]; exact a1.1
  · simp (disch := omega) only [upd_ne, upd_same]; exact a1.2.1
  · simp (disch := omega) only [upd_ne, upd_same]; exact a1.2.2.1
  · simp (disch := omega) only [upd_ne, upd_same]; exact a1.2.2.2
  · simp (disch := omega) only [upd_ne, upd_same]; exact a2.1
  · simp (disch := omega) only [upd_ne, upd_same]; exact a2.2.1
  · simp (disch := omega) only [upd_ne, upd_same]; exact a2.2.2.1
  · simp (disch := omega) only [upd_ne, upd_same]; exact a2.2.2.2
  · simp (disch := omega) only [upd_ne, upd_same]; exact a3.1
  · simp (disch := omega) only [upd_ne, upd_same]; exact a3.2.1
  · simp (disch := omega) only [upd_ne, upd_same]; exact a3.2.2.1
  · simp (disch := omega) only [upd_ne, upd_same]; exact a3.2.2.2
  · simp (disch := omega) only [upd_ne, upd_same]; exact a4.1
  · simp (disch := omega) only [upd_ne, upd_same]; exact a4.2.1
  · simp (disch := omega) only [upd_ne, upd_same]; exact a4.2.2.1
  · simp (disch := omega) only [upd_ne, upd_same]; exact a4.2.2.2
/-- the words that are collected: place i of them -/
theorem zbv_bb (U : Nat → Int32) {i : Nat} (hi : i < 20) : zbv (U 1) (U 2) (U 3) (U 4) (U 5) i = bb (U (1 + i / 4)) (i % 4) := by
  unfold zbv bb
  rw [show (4 : Int32) = Int32.ofNat 4 from rfl, n_mod (by omega) (by omega)]
  congr 2
  unfold zwd
  by_cases h1 : i < 4
  · rw [if_pos h1, show i / 4 = 0 by omega]
  · rw [if_neg h1]
    by_cases h2 : i < 8
    · rw [if_pos h2, show i / 4 = 1 by omega]
    · rw [if_neg h2]
      by_cases h3 : i < 12
      · rw [if_pos h3, show i / 4 = 2 by omega]
      · rw [if_neg h3]
        by_cases h4 : i < 16
        · rw [if_pos h4, show i / 4 = 3 by omega]
        · rw [if_neg h4, show i / 4 = 4 by omega]
/-- behind the first z0 characters, which the class has, the words hold the rest -/
def WP (ts : List Nat) (z0 : Nat) (bytes U : Nat → Int32) : Prop := (∀ i, i < z0 → bytes i &&& 255 = Int32.ofNat (ts.getD i 0)) ∧ ∀ i, i < 20 → bb (U (1 + i / 4)) (i % 4) = if z0 + i < ts.length then Int32.ofNat (ts.getD (z0 + i) 0) else 0
def WV (ts : List Nat) (size : Int32) (bytes U : Nat → Int32) : Prop := ts.length < 480 ∧ size = Int32.ofNat (ts.length / 20 * 20) ∧ U 0 = Int32.ofNat ts.length ∧ WP ts (ts.length / 20 * 20) bytes U
theorem WV_nil (bytes : Nat → Int32) : WV [] 0 bytes (fun _ => 0) := ⟨by decide, rfl, rfl, fun i hi => absurd hi (Nat.not_lt_zero _), fun i hi => by
  rw [bb_0 (Nat.mod_lt _ (by omega))]
  exact (if_neg (Nat.not_lt_zero _)).symm⟩
theorem l_flush {ts : List Nat} {z0 : Nat} {bytes U : Nat → Int32} (hz : z0 + 20 ≤ 500) (h : WP ts z0 bytes U) :
    ∃ bytes' U', fL_flush (Int32.ofNat z0) bytes U = some (Int32.ofNat (z0 + 20), bytes', U') ∧ (∀ i, i < z0 + 20 → i < ts.length → bytes' i &&& 255 = Int32.ofNat (ts.getD i 0)) ∧ U' 0 = U 0 ∧ ∀ k, 1 ≤ k → k < 6 → U' k = 0 := by
  obtain ⟨h1, h2⟩ := h
  refine ⟨zap (U 1) (U 2) (U 3) (U 4) (U 5) z0 bytes, upd (upd (upd (upd (upd U 1 0) 2 0) 3 0) 4 0) 5 0, ?_, fun i hi hl => ?_, rfl, fun k k1 k6 => ?_⟩
  · unfold fL_flush
    rw [n_let]
    show o_bind (fX5_append (U 1) (U 2) (U 3) (U 4) (U 5) (Int32.ofNat z0) bytes) _ = _
    rw [c_append _ _ _ _ _ hz, n_bind]
    rfl
  · by_cases hlow : i < z0
    · rw [zap_lo _ _ _ _ _ _ hlow]
      exact h1 i hlow
    · obtain ⟨k, rfl⟩ : ∃ k, i = z0 + k := ⟨i - z0, by omega⟩
      rw [zap_at _ _ _ _ _ _ (show k < 20 by omega), zbv_bb U (by omega), h2 k (by omega), if_pos hl]
  · have hk : k = 1 ∨ k = 2 ∨ k = 3 ∨ k = 4 ∨ k = 5 := by omega
    rcases hk with rfl | rfl | rfl | rfl | rfl <;> rfl
set_option maxRecDepth 100000 in
/-- one more character -/
theorem l_put {ts : List Nat} {size : Int32} {bytes U : Nat → Int32} (h : WV ts size bytes U) {c : Nat} (hc : c < 256) (hz : ts.length < 460) :
    ∃ size' bytes' U', fL_put (Int32.ofNat c) size bytes U = some (size', bytes', U') ∧ WV (ts ++ [c]) size' bytes' U' := by
  obtain ⟨-, h2, h3, h4, h5⟩ := h
  obtain ⟨z, hzz⟩ : ∃ z, z = ts.length := ⟨_, rfl⟩
  rw [← hzz] at h2 h3 h4 h5 hz
  have hlen : (ts ++ [c]).length = z + 1 := by rw [List.length_append, ← hzz]; rfl
  have hget : ∀ i, i < z → (ts ++ [c]).getD i 0 = ts.getD i 0 := fun i hi => by
    rw [List.getD_eq_getElem?_getD, List.getD_eq_getElem?_getD, List.getElem?_append_left (by omega)]
  have hgetz : (ts ++ [c]).getD z 0 = c := by
    rw [List.getD_eq_getElem?_getD, List.getElem?_append_right (by omega), ← hzz, Nat.sub_self]
    rfl
  obtain ⟨z0, hz0⟩ : ∃ z0, z0 = z / 20 * 20 := ⟨_, rfl⟩
  have hzm : z = z0 + z % 20 := by omega
  have hm20 := Nat.mod_lt z (show 0 < 20 by omega)
  rw [← hz0] at h2 h4 h5
  obtain ⟨k, hk⟩ : ∃ k, k = z % 20 := ⟨_, rfl⟩
  rw [← hk] at hzm hm20
  have e1 : Int32.ofNat z - Int32.ofNat z / 20 * 20 = Int32.ofNat k := by
    rw [show (20 : Int32) = Int32.ofNat 20 from rfl, n_mod (by omega) (by omega), ← hk]
  have e2 : (1 : Int32) + Int32.ofNat k / 4 = Int32.ofNat (1 + k / 4) := by
    rw [show (4 : Int32) = Int32.ofNat 4 from rfl, n_div (by omega) (by omega), Int32.add_comm, n_s, Nat.add_comm]
  have e4 : Int32.ofNat z - Int32.ofNat z / 4 * 4 = Int32.ofNat (k % 4) := by
    rw [show (4 : Int32) = Int32.ofNat 4 from rfl, n_mod (by omega) (by omega), show z % 4 = k % 4 by omega]
  obtain ⟨U1, hU1⟩ : ∃ U1, U1 = upd (upd U (1 + k / 4) (U (1 + k / 4) ||| (Int32.ofNat c <<< ((24 - 8 * Int32.ofNat (k % 4)) &&& 31)))) 0 (Int32.ofNat (z + 1)) := ⟨_, rfl⟩
  have hU10 : U1 0 = Int32.ofNat (z + 1) := by rw [hU1]; exact upd_same
  have hP : WP (ts ++ [c]) z0 bytes U1 := by
    refine ⟨fun i hi => by rw [hget i (by omega)]; exact h4 i hi, fun i hi => ?_⟩
    have hUi : U1 (1 + i / 4) = if i / 4 = k / 4 then U (1 + k / 4) ||| (Int32.ofNat c <<< ((24 - 8 * Int32.ofNat (k % 4)) &&& 31)) else U (1 + i / 4) := by
      rw [hU1]
      refine (upd_ne (by omega)).trans ?_
      by_cases e : i / 4 = k / 4
      · rw [if_pos e, e]; exact upd_same
      · rw [if_neg e]; exact upd_ne (by omega)
    rw [hUi, hlen]
    have hi4 := Nat.mod_lt i (show 0 < 4 by omega)
    have hk4 := Nat.mod_lt k (show 0 < 4 by omega)
    have h5i := h5 i hi
    by_cases e : i / 4 = k / 4
    · rw [if_pos e, bb_or _ hk4 hi4 hc]
      rw [e] at h5i
      by_cases e2 : i % 4 = k % 4
      · have hik : i = k := by omega
        rw [if_pos e2, h5i, if_neg (by omega), if_pos (by omega), show z0 + i = z by omega, hgetz]
        exact n_or0 c
      · rw [if_neg e2, h5i]
        by_cases hlt : z0 + i < z
        · rw [if_pos hlt, if_pos (by omega), hget _ hlt]
        · rw [if_neg hlt, if_neg (by omega)]
    · rw [if_neg e, h5i]
      by_cases hlt : z0 + i < z
      · rw [if_pos hlt, if_pos (by omega), hget _ hlt]
      · rw [if_neg hlt, if_neg (by omega)]
  have e8 : Int32.ofNat (z + 1) - Int32.ofNat (z + 1) / 20 * 20 = Int32.ofNat ((z + 1) % 20) := by
    rw [show (20 : Int32) = Int32.ofNat 20 from rfl, n_mod (by omega) (by omega)]
  have body : ∀ r, (if Int32.ofNat ((z + 1) % 20) = 0 then o_bind (fL_flush size bytes U1) (fun (x10, a11, a12) => some (x10, a11, a12)) else some (size, bytes, U1)) = r → fL_put (Int32.ofNat c) size bytes U = r := fun r hr => by
    unfold fL_put
    have h3' : U (0 : Int32).toNatClampNeg = Int32.ofNat z := h3
    rw [h3', e1, n_let, e2, n_let, n_rd (by omega) (by omega), e4, n_let, n_rd (by omega) (by omega), n_cl (by omega), n_let]
    have hu0 : (upd U (1 + k / 4) (U (1 + k / 4) ||| Int32.ofNat c <<< ((24 - 8 * Int32.ofNat (k % 4)) &&& 31))) (0 : Int32).toNatClampNeg = Int32.ofNat z := (upd_ne (by show 0 ≠ _; omega)).trans h3
    rw [hu0, n_s, n_let]
    rw [show upd (upd U (1 + k / 4) (U (1 + k / 4) ||| Int32.ofNat c <<< ((24 - 8 * Int32.ofNat (k % 4)) &&& 31))) (0 : Int32).toNatClampNeg (Int32.ofNat (z + 1)) = U1 from hU1.symm]
    have hU10' : U1 (0 : Int32).toNatClampNeg = Int32.ofNat (z + 1) := hU10
    rw [hU10', e8, n_let]
    exact hr
  by_cases hf : (z + 1) % 20 = 0
  · have hk19 : k = 19 := by omega
    rw [h2] at body ⊢
    obtain ⟨bytes', U', f1, f2, f3, f4⟩ := l_flush (show z0 + 20 ≤ 500 by omega) hP
    refine ⟨Int32.ofNat (z0 + 20), bytes', U', body _ ?_, by rw [hlen]; omega, by rw [hlen, show (z + 1) / 20 * 20 = z0 + 20 by omega], by rw [hlen]; exact f3.trans hU10, fun i hi => ?_, fun i hi => ?_⟩
    · rw [if_pos (by rw [hf]; rfl), f1, n_bind]
    · rw [hlen, show (z + 1) / 20 * 20 = z0 + 20 by omega] at hi
      exact f2 i hi (by rw [hlen]; omega)
    · rw [hlen, show (z + 1) / 20 * 20 = z + 1 by omega, f4 _ (by omega) (by omega), bb_0 (Nat.mod_lt _ (by omega)), if_neg (by omega)]
  · refine ⟨size, bytes, U1, body _ ?_, by rw [hlen]; omega, by rw [hlen, show (z + 1) / 20 * 20 = z0 by omega]; exact h2, by rw [hlen]; exact hU10, ?_⟩
    · rw [if_neg (by rw [n_eq0 (by omega)]; exact hf)]
    · rw [hlen, show (z + 1) / 20 * 20 = z0 by omega]
      exact hP
