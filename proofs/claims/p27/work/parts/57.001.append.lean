/-! ===== the input buffer ===== -/
def bytef (w sh : Int32) : Int32 := vp_nar .byte (((w.toUInt32 >>> (sh.toUInt32 &&& Int32.toUInt32 31)).toInt32).toInt8.toInt32)
theorem n_byte (v : Int32) : (vp_nar .byte (v.toInt8.toInt32)) &&& 255 = v &&& 255 := by
  show (v.toInt8.toInt32.toInt8.toInt32) &&& 255 = v &&& 255
  rw [← Int32.toBitVec_inj, Int32.toBitVec_and, Int32.toBitVec_and]
  apply BitVec.eq_of_getLsbD_eq
  intro i hi
  rw [BitVec.getLsbD_and, BitVec.getLsbD_and]
  have e255 : ∀ i : Fin 32, (255 : Int32).toBitVec.getLsbD i.val = decide (i.val < 8) := by decide
  rw [e255 ⟨i, hi⟩]
  by_cases h8 : i < 8
  · have e1 : ∀ x : Int8, x.toInt32.toBitVec.getLsbD i = x.toBitVec.getLsbD i := fun x => by
      show (x.toBitVec.signExtend 32).getLsbD i = _
      rw [BitVec.getLsbD_signExtend]
      simp [hi, h8]
    have e2 : ∀ x : Int32, x.toInt8.toBitVec.getLsbD i = x.toBitVec.getLsbD i := fun x => by
      rw [Int32.toBitVec_toInt8, BitVec.getLsbD_signExtend]
      simp [h8, hi]
    rw [e1, e2, e1, e2]
  · simp [h8]
theorem n_shr (w : Int32) {s : Nat} (hs : s ≤ 24) {sh : Int32} (h1 : (sh &&& 31).toBitVec.smod 32 = BitVec.ofNat 32 s) {su : UInt32} (h2 : su.toBitVec % 32#32 = BitVec.ofNat 32 s) : ((w.toUInt32 >>> su).toInt32) &&& 255 = (w >>> (sh &&& 31)) &&& 255 := by
  rw [← Int32.toBitVec_inj, Int32.toBitVec_and, Int32.toBitVec_and]
  apply BitVec.eq_of_getLsbD_eq
  intro i hi
  rw [BitVec.getLsbD_and, BitVec.getLsbD_and]
  have e255 : ∀ i : Fin 32, (255 : Int32).toBitVec.getLsbD i.val = decide (i.val < 8) := by decide
  rw [e255 ⟨i, hi⟩]
  by_cases h8 : i < 8
  · have es : (BitVec.ofNat 32 s).toNat = s := by rw [BitVec.toNat_ofNat]; exact Nat.mod_eq_of_lt (by omega)
    have e1 : ((w.toUInt32 >>> su).toInt32).toBitVec.getLsbD i = w.toBitVec.getLsbD (s + i) := by
      show (w.toBitVec >>> (su.toBitVec % 32#32)).getLsbD i = _
      rw [h2, BitVec.ushiftRight_eq', es, BitVec.getLsbD_ushiftRight]
    have e2 : (w >>> (sh &&& 31)).toBitVec.getLsbD i = w.toBitVec.getLsbD (s + i) := by
      rw [Int32.toBitVec_shiftRight, h1, BitVec.sshiftRight', BitVec.getLsbD_sshiftRight, es]
      simp only [hi, show s + i < 32 by omega, if_true]
      simp
      omega
    rw [e1, e2]
  · simp [h8]
theorem n_bytef (w : Int32) : bytef w 24 &&& 255 = (w >>> ((24 : Int32) &&& 31)) &&& 255 ∧ bytef w 16 &&& 255 = (w >>> ((16 : Int32) &&& 31)) &&& 255 ∧ bytef w 8 &&& 255 = (w >>> ((8 : Int32) &&& 31)) &&& 255 ∧ bytef w 0 &&& 255 = (w >>> ((0 : Int32) &&& 31)) &&& 255 := by
  unfold bytef
  refine ⟨?_, ?_, ?_, ?_⟩
  · rw [n_byte]; exact n_shr w (s := 24) (by omega) (by decide) (by decide)
  · rw [n_byte]; exact n_shr w (s := 16) (by omega) (by decide) (by decide)
  · rw [n_byte]; exact n_shr w (s := 8) (by omega) (by decide) (by decide)
  · rw [n_byte]; exact n_shr w (s := 0) (by omega) (by decide) (by decide)
theorem n_500 {a : Nat} (ha : a < 500) : ¬ ((500 : Int32) ≤ Int32.ofNat a) := by
  rw [show (500 : Int32) = Int32.ofNat 500 from rfl, n_le (by omega) (by omega)]; omega
theorem c_putWord (w : Int32) {z : Nat} (hz : z + 4 ≤ 500) (a : Nat → Int32) : fX4_putWord w (Int32.ofNat z) a = some (Int32.ofNat (z + 4), upd (upd (upd (upd a z (bytef w 24)) (z + 1) (bytef w 16)) (z + 2) (bytef w 8)) (z + 3) (bytef w 0)) := by
  have st : ∀ f (sh : Int32) (y : Nat) (b : Nat → Int32), ¬ sh < 0 → y < 500 → fX4_putWord_L3 w (f + 1) sh (Int32.ofNat y) b = fX4_putWord_L3 w f (sh + (-8 : Int32)) (Int32.ofNat (y + 1)) (upd b y (bytef w sh)) := fun f sh y b hsh hy => by
    simp (disch := omega) only [fX4_putWord_L3, hsh, n_lt0, n_500, if_false, n_rd, n_cl, n_let, n_s]
    rfl
  unfold fX4_putWord
  show fX4_putWord_L3 w (1019 + 1 + 1 + 1 + 1 + 1) 24 (Int32.ofNat z) a = _
  rw [st _ _ _ _ (by decide) (by omega), show (24 : Int32) + -8 = 16 by decide, st _ _ _ _ (by decide) (by omega), show (16 : Int32) + -8 = 8 by decide, st _ _ _ _ (by decide) (by omega), show (8 : Int32) + -8 = 0 by decide, st _ _ _ _ (by decide) (by omega), show (0 : Int32) + -8 = -8 by decide, fX4_putWord_L3, if_pos (by decide)]
def zwd (w0 w1 w2 w3 w4 : Int32) (i : Nat) : Int32 := if i < 4 then w0 else if i < 8 then w1 else if i < 12 then w2 else if i < 16 then w3 else w4
def zbv (w0 w1 w2 w3 w4 : Int32) (i : Nat) : Int32 := (zwd w0 w1 w2 w3 w4 i >>> ((24 - 8 * (Int32.ofNat i - Int32.ofNat i / 4 * 4)) &&& 31)) &&& 255
def zap (w0 w1 w2 w3 w4 : Int32) (z : Nat) (bytes : Nat → Int32) : Nat → Int32 := upd (upd (upd (upd (upd (upd (upd (upd (upd (upd (upd (upd (upd (upd (upd (upd (upd (upd (upd (upd bytes z (bytef w0 24)) (z + 1) (bytef w0 16)) (z + 2) (bytef w0 8)) (z + 3) (bytef w0 0)) (z + 4) (bytef w1 24)) (z + 4 + 1) (bytef w1 16)) (z + 4 + 2) (bytef w1 8)) (z + 4 + 3) (bytef w1 0)) (z + 4 + 4) (bytef w2 24)) (z + 4 + 4 + 1) (bytef w2 16)) (z + 4 + 4 + 2) (bytef w2 8)) (z + 4 + 4 + 3) (bytef w2 0)) (z + 4 + 4 + 4) (bytef w3 24)) (z + 4 + 4 + 4 + 1) (bytef w3 16)) (z + 4 + 4 + 4 + 2) (bytef w3 8)) (z + 4 + 4 + 4 + 3) (bytef w3 0)) (z + 4 + 4 + 4 + 4) (bytef w4 24)) (z + 4 + 4 + 4 + 4 + 1) (bytef w4 16)) (z + 4 + 4 + 4 + 4 + 2) (bytef w4 8)) (z + 4 + 4 + 4 + 4 + 3) (bytef w4 0)
/-- the input buffers of the class and of the model -/
def TV (size : Int32) (bytes : Nat → Int32) (buf : Nat → Int32) (len : Int32) : Prop := ∃ z : Nat, z ≤ 500 ∧ size = Int32.ofNat z ∧ len = Int32.ofNat z ∧ ∀ i, i < z → bytes i &&& 255 = buf i
