/-! ===== the input buffer ===== -/
def bytef (w sh : Int32) : Int32 := vp_nar .byte (((w.toUInt32 >>> (sh.toUInt32 &&& Int32.toUInt32 31)).toInt32).toInt8.toInt32)
theorem n_byte (v : Int32) : (vp_nar .byte (v.toInt8.toInt32)) &&& 255 = v &&& 255 := by
  show (v.toInt8.toInt32.toInt8.toInt32) &&& 255 = v &&& 255
  rw [← Int32.toBitVec_inj, Int32.toBitVec_and, Int32.toBitVec_and]
  apply BitVec.eq_of_getLsbD_eq
  intro i hi
  rw [BitVec.getLsbD_and, BitVec.getLsbD_and]
  have e255 : ∀ i : Fin 32, (255 : Int32).toBitVec.getLsbD i.val = decide (i.val < 8) := by decide
  rw [e255 ⟨i, hi⟩]
  by_cases h8 : i < 8
  · have e1 : ∀ x : Int8, x.toInt32.toBitVec.getLsbD i = x.toBitVec.getLsbD i := fun x => by
      show (x.toBitVec.signExtend 32).getLsbD i = _
      rw [BitVec.getLsbD_signExtend]
      simp [hi, h8]
    have e2 : ∀ x : Int32, x.toInt8.toBitVec.getLsbD i = x.toBitVec.getLsbD i := fun x => by
      rw [Int32.toBitVec_toInt8, BitVec.getLsbD_signExtend]
      simp [h8, hi]
    rw [e1, e2, e1, e2]
  · simp [h8]
theorem n_shr (w : Int32) {s : Nat} (hs : s ≤ 24) {sh : Int32} (h1 : (sh &&& 31).toBitVec.smod 32 = BitVec.ofNat 32 s) {su : UInt32} (h2 : su.toBitVec % 32#32 = BitVec.ofNat 32 s) : ((w.toUInt32 >>> su).toInt32) &&& 255 = (w >>> (sh &&& 31)) &&& 255 := by
  rw [← Int32.toBitVec_inj, Int32.toBitVec_and, Int32.toBitVec_and]
  apply BitVec.eq_of_getLsbD_eq
  intro i hi
  rw [BitVec.getLsbD_and, BitVec.getLsbD_and]
  have e255 : ∀ i : Fin 32, (255 : Int32).toBitVec.getLsbD i.val = decide (i.val < 8) := by decide
  rw [e255 ⟨i, hi⟩]
  by_cases h8 : i < 8
  · have es : (BitVec.ofNat 32 s).toNat = s := by rw [BitVec.toNat_ofNat]; exact Nat.mod_eq_of_lt (by omega)
    have e1 : ((w.toUInt32 >>> su).toInt32).toBitVec.getLsbD i = w.toBitVec.getLsbD (s + i) := by
      show (w.toBitVec >>> (su.toBitVec % 32#32)).getLsbD i = _
      rw [h2, BitVec.ushiftRight_eq', es, BitVec.getLsbD_ushiftRight]
    have e2 : (w >>> (sh &&& 31)).toBitVec.getLsbD i = w.toBitVec.getLsbD (s + i) := by
      rw [Int32.toBitVec_shiftRight, h1, BitVec.sshiftRight', BitVec.getLsbD_sshiftRight, es]
      simp only [hi, show s + i < 32 by omega, if_true]
      simp
      omega
    rw [e1, e2]
  · simp [h8]
theorem n_bytef (w : Int32) : bytef w 24 &&& 255 = (w >>> ((24 : Int32) &&& 31)) &&& 255 ∧ bytef w 16 &&& 255 = (w >>> ((16 : Int32) &&& 31)) &&& 255 ∧ bytef w 8 &&& 255 = (w >>> ((8 : Int32) &&& 31)) &&& 255 ∧ bytef w 0 &&& 255 = (w >>> ((0 : Int32) &&& 31)) &&& 255 := by
  unfold bytef
  refine ⟨?_, ?_, ?_, ?_⟩
  · rw [n_byte]; exact n_shr w (s := 24) (by omega) (by decide) (by decide)
  · rw [n_byte]; exact n_shr w (s := 16) (by omega) (by decide) (by decide)
  · rw [n_byte]; exact n_shr w (s := 8) (by omega) (by decide) (by decide)
  · rw [n_byte]; exact n_shr w (s := 0) (by omega) (by decide) (by decide)
theorem n_500 {a : Nat} (ha : a < 500) : ¬ ((500 : Int32) ≤ Int32.ofNat a) := by
  rw [show (500 : Int32) = Int32.ofNat 500 from rfl, n_le (by omega) (by omega)]; omega
theorem c_putWord (w : Int32) {z : Nat} (hz : z + 4 ≤ 500) (a : Nat → Int32) : fX4_putWord w (Int32.ofNat z) a = some (Int32.ofNat (z + 4), upd (upd (upd (upd a z (bytef w 24)) (z + 1) (bytef w 16)) (z + 2) (bytef w 8)) (z + 3) (bytef w 0)) := by
  have st : ∀ f (sh : Int32) (y : Nat) (b : Nat → Int32), ¬ sh < 0 → y < 500 → fX4_putWord_L3 w (f + 1) sh (Int32.ofNat y) b = fX4_putWord_L3 w f (sh + (-8 : Int32)) (Int32.ofNat (y + 1)) (upd b y (bytef w sh)) := fun f sh y b hsh hy => by
    simp (disch := omega) only [fX4_putWord_L3, hsh, n_lt0, n_500, if_false, n_rd, n_cl, n_let, n_s]
    rfl
  unfold fX4_putWord
  show fX4_putWord_L3 w (1019 + 1 + 1 + 1 + 1 + 1) 24 (Int32.ofNat z) a = _
  rw [st _ _ _ _ (by decide) (by omega), show (24 : Int32) + -8 = 16 by decide, st _ _ _ _ (by decide) (by omega), show (16 : Int32) + -8 = 8 by decide, st _ _ _ _ (by decide) (by omega), show (8 : Int32) + -8 = 0 by decide, st _ _ _ _ (by decide) (by omega), show (0 : Int32) + -8 = -8 by decide, fX4_putWord_L3, if_pos (by decide)]
def zwd (w0 w1 w2 w3 w4 : Int32) (i : Nat) : Int32 := if i < 4 then w0 else if i < 8 then w1 else if i < 12 then w2 else if i < 16 then w3 else w4
def zbv (w0 w1 w2 w3 w4 : Int32) (i : Nat) : Int32 := (zwd w0 w1 w2 w3 w4 i >>> ((24 - 8 * (Int32.ofNat i - Int32.ofNat i / 4 * 4)) &&& 31)) &&& 255
theorem m_append (w0 w1 w2 w3 w4 th : Int32) {z : Nat} (hz : z + 20 ≤ 500) (b : Nat → Int32) :
    fX6_append w0 w1 w2 w3 w4 th b (Int32.ofNat z) = some (Int32.ofNat (z + 20), 0, (fun g => if z ≤ g ∧ g < z + 20 then zbv w0 w1 w2 w3 w4 (g - z) else b g), Int32.ofNat (z + 20)) := by
  have key := n_inv (fun f k (q : (Nat → Int32) × Int32) => fX6_append_L23 w4 w3 w2 w1 w0 f (Int32.ofNat k) q.1 q.2) 20 (fun q => some (q.2, 0, q.1, q.2)) (fun k q => q.2 = Int32.ofNat (z + k) ∧ q.1 = fun g => if z ≤ g ∧ g < z + k then zbv w0 w1 w2 w3 w4 (g - z) else b g) (fun f q hq => by simp only [fX6_append_L23, show ((20 : Int32) ≤ Int32.ofNat 20) from by decide, if_true]) (fun f k q hk hq => by
    obtain ⟨a, x⟩ := q
    obtain ⟨q1, q2⟩ := hq
    have q1 : x = _ := q1
    have q2 : a = _ := q2
    subst q1
    have hle : ¬ (20 : Int32) ≤ Int32.ofNat k := fun h => by
      have := (n_le (a := 20) (by omega) (by omega)).mp h; omega
    have e1 : upd a (z + k) (zbv w0 w1 w2 w3 w4 k) = fun g => if z ≤ g ∧ g < z + (k + 1) then zbv w0 w1 w2 w3 w4 (g - z) else b g := by
      subst q2
      funext g
      by_cases e : g = z + k
      · subst e
        refine upd_same.trans ?_
        rw [if_pos (by omega), Nat.add_sub_cancel_left]
      · refine (upd_ne e).trans ?_
        show (if z ≤ g ∧ g < z + k then _ else _) = _
        by_cases h : z ≤ g ∧ g < z + k
        · rw [if_pos h, if_pos (by omega)]
        · rw [if_neg h, if_neg (by omega)]
    refine ⟨(fun g => if z ≤ g ∧ g < z + (k + 1) then zbv w0 w1 w2 w3 w4 (g - z) else b g, Int32.ofNat (z + k + 1)), ⟨rfl, rfl⟩, ?_⟩
    rw [← e1]
    have i4 : ((4 : Int32) ≤ Int32.ofNat k) ↔ 4 ≤ k := n_le (a := 4) (by omega) (by omega)
    have i8 : ((8 : Int32) ≤ Int32.ofNat k) ↔ 8 ≤ k := n_le (a := 8) (by omega) (by omega)
    have i12 : ((12 : Int32) ≤ Int32.ofNat k) ↔ 12 ≤ k := n_le (a := 12) (by omega) (by omega)
    have i16 : ((16 : Int32) ≤ Int32.ofNat k) ↔ 16 ≤ k := n_le (a := 16) (by omega) (by omega)
    unfold zbv zwd
    by_cases h4 : k < 4
    · simp (disch := omega) only [fX6_append_L23, hle, if_false, n_let, i4, h4, if_true, show ¬ 4 ≤ k from by omega, n_rd, n_cl, n_s]
    · by_cases h8 : k < 8
      · simp (disch := omega) only [fX6_append_L23, hle, if_false, n_let, i4, i8, h4, h8, if_true, show 4 ≤ k from by omega, show ¬ 8 ≤ k from by omega, n_rd, n_cl, n_s]
      · by_cases h12 : k < 12
        · simp (disch := omega) only [fX6_append_L23, hle, if_false, n_let, i4, i8, i12, h4, h8, h12, if_true, show 4 ≤ k from by omega, show 8 ≤ k from by omega, show ¬ 12 ≤ k from by omega, n_rd, n_cl, n_s]
        · by_cases h16 : k < 16
          · simp (disch := omega) only [fX6_append_L23, hle, if_false, n_let, i4, i8, i12, i16, h4, h8, h12, h16, if_true, show 4 ≤ k from by omega, show 8 ≤ k from by omega, show 12 ≤ k from by omega, show ¬ 16 ≤ k from by omega, n_rd, n_cl, n_s]
          · simp (disch := omega) only [fX6_append_L23, hle, if_false, n_let, i4, i8, i12, i16, h4, h8, h12, h16, if_true, show 4 ≤ k from by omega, show 8 ≤ k from by omega, show 12 ≤ k from by omega, show 16 ≤ k from by omega, n_rd, n_cl, n_s])
    20 0 1024 (b, Int32.ofNat z) (by omega) (by omega) ⟨rfl, funext fun g => by rw [if_neg (by omega)]⟩
  obtain ⟨⟨a, x⟩, ⟨k1, k2⟩, k3⟩ := key
  have k1 : x = _ := k1
  have k2 : a = _ := k2
  subst k1 k2
  unfold fX6_append
  rw [if_pos (show Int32.ofNat z + 20 ≤ 500 from by
    rw [show Int32.ofNat z + 20 = Int32.ofNat (z + 20) from (Int32.ofNat_add z 20).symm]
    exact (n_le (b := 500) (by omega) (by omega)).mpr hz)]
  exact k3
def zap (w0 w1 w2 w3 w4 : Int32) (z : Nat) (bytes : Nat → Int32) : Nat → Int32 := upd (upd (upd (upd (upd (upd (upd (upd (upd (upd (upd (upd (upd (upd (upd (upd (upd (upd (upd (upd bytes z (bytef w0 24)) (z + 1) (bytef w0 16)) (z + 2) (bytef w0 8)) (z + 3) (bytef w0 0)) (z + 4) (bytef w1 24)) (z + 4 + 1) (bytef w1 16)) (z + 4 + 2) (bytef w1 8)) (z + 4 + 3) (bytef w1 0)) (z + 4 + 4) (bytef w2 24)) (z + 4 + 4 + 1) (bytef w2 16)) (z + 4 + 4 + 2) (bytef w2 8)) (z + 4 + 4 + 3) (bytef w2 0)) (z + 4 + 4 + 4) (bytef w3 24)) (z + 4 + 4 + 4 + 1) (bytef w3 16)) (z + 4 + 4 + 4 + 2) (bytef w3 8)) (z + 4 + 4 + 4 + 3) (bytef w3 0)) (z + 4 + 4 + 4 + 4) (bytef w4 24)) (z + 4 + 4 + 4 + 4 + 1) (bytef w4 16)) (z + 4 + 4 + 4 + 4 + 2) (bytef w4 8)) (z + 4 + 4 + 4 + 4 + 3) (bytef w4 0)
/-- the input buffers of the class and of the model -/
def TV (size : Int32) (bytes : Nat → Int32) (buf : Nat → Int32) (len : Int32) : Prop := ∃ z : Nat, z ≤ 500 ∧ size = Int32.ofNat z ∧ len = Int32.ofNat z ∧ ∀ i, i < z → bytes i &&& 255 = buf i
theorem s_0 (w0 w1 w2 w3 w4 th : Int32) {size len : Int32} {bytes buf : Nat → Int32} (h : TV size bytes buf len) :
    ∃ size' bytes' th' buf' len', fS0 w0 w1 w2 w3 w4 size bytes th buf len = some (size', bytes', th', buf', len') ∧ TV size' bytes' buf' len' := by
  have h0 := h
  obtain ⟨z, h1, h2, h3, h4⟩ := h
  subst h2 h3
  have e20 : Int32.ofNat z + 20 = Int32.ofNat (z + 20) := (Int32.ofNat_add z 20).symm
  by_cases hz : z + 20 ≤ 500
  · have h5 : fX5_append w0 w1 w2 w3 w4 (Int32.ofNat z) bytes = o_bind (some (Int32.ofNat (z + 20), zap w0 w1 w2 w3 w4 z bytes)) (fun (x16, a17) => some (x16, x16, a17)) := by
      unfold fX5_append fX4_hasRoomFor
      rw [e20, if_neg (fun h => by
        have := (n_lt (a := 500) (by omega) (by omega)).mp h; omega), n_bind, if_neg (by decide), c_putWord w0 (by omega), n_bind]
      show o_bind (fX4_putWord w1 _ _) _ = _
      rw [c_putWord w1 (by omega), n_bind]
      show o_bind (fX4_putWord w2 _ _) _ = _
      rw [c_putWord w2 (by omega), n_bind]
      show o_bind (fX4_putWord w3 _ _) _ = _
      rw [c_putWord w3 (by omega), n_bind]
      show o_bind (fX4_putWord w4 _ _) _ = _
      rw [c_putWord w4 (by omega)]
      rfl
    refine ⟨Int32.ofNat (z + 20), zap w0 w1 w2 w3 w4 z bytes, 0, (fun g => if z ≤ g ∧ g < z + 20 then zbv w0 w1 w2 w3 w4 (g - z) else buf g), Int32.ofNat (z + 20), ?_, z + 20, hz, rfl, rfl, ?_⟩
    · unfold fS0
      rw [h5, n_bind, n_bind]
      show o_bind (fX6_append w0 w1 w2 w3 w4 th buf (Int32.ofNat z)) _ = _
      rw [m_append w0 w1 w2 w3 w4 th hz buf, n_bind]
      exact if_pos rfl
    · intro i hi
      unfold zap
      show _ = if z ≤ i ∧ i < z + 20 then zbv w0 w1 w2 w3 w4 (i - z) else buf i
      by_cases hlow : i < z
      · rw [if_neg (by omega)]
        simp (disch := omega) only [upd_ne]
        exact h4 i hlow
      · rw [if_pos (by omega)]
        obtain ⟨k, rfl⟩ : ∃ k, i = z + k := ⟨i - z, by omega⟩
        rw [Nat.add_sub_cancel_left]
        have a0 := n_bytef w0
        have a1 := n_bytef w1
        have a2 := n_bytef w2
        have a3 := n_bytef w3
        have a4 := n_bytef w4
        have hk : k = 0 ∨ k = 1 ∨ k = 2 ∨ k = 3 ∨ k = 4 ∨ k = 5 ∨ k = 6 ∨ k = 7 ∨ k = 8 ∨ k = 9 ∨ k = 10 ∨ k = 11 ∨ k = 12 ∨ k = 13 ∨ k = 14 ∨ k = 15 ∨ k = 16 ∨ k = 17 ∨ k = 18 ∨ k = 19 := by omega
        rcases hk with rfl | rfl | rfl | rfl | rfl | rfl | rfl | rfl | rfl | rfl | rfl | rfl | rfl | rfl | rfl | rfl | rfl | rfl | rfl | rfl
        · simp (disch := omega) only [Nat.add_zero, upd_ne, upd_same]; exact a0.1
        · simp (disch := omega) only [upd_ne, upd_same]; exact a0.2.1
        · simp (disch := omega) only [upd_ne, upd_same]; exact a0.2.2.1
        · simp (disch := omega) only [upd_ne, upd_same]; exact a0.2.2.2
        · simp (disch := omega) only [upd_ne, upd_same]; exact a1.1
        · simp (disch := omega) only [upd_ne, upd_same]; exact a1.2.1
        · simp (disch := omega) only [upd_ne, upd_same]; exact a1.2.2.1
        · simp (disch := omega) only [upd_ne, upd_same]; exact a1.2.2.2
        · simp (disch := omega) only [upd_ne, upd_same]; exact a2.1
        · simp (disch := omega) only [upd_ne, upd_same]; exact a2.2.1
        · simp (disch := omega) only [upd_ne, upd_same]; exact a2.2.2.1
        · simp (disch := omega) only [upd_ne, upd_same]; exact a2.2.2.2
        · simp (disch := omega) only [upd_ne, upd_same]; exact a3.1
        · simp (disch := omega) only [upd_ne, upd_same]; exact a3.2.1
        · simp (disch := omega) only [upd_ne, upd_same]; exact a3.2.2.1
        · simp (disch := omega) only [upd_ne, upd_same]; exact a3.2.2.2
        · simp (disch := omega) only [upd_ne, upd_same]; exact a4.1
        · simp (disch := omega) only [upd_ne, upd_same]; exact a4.2.1
        · simp (disch := omega) only [upd_ne, upd_same]; exact a4.2.2.1
        · simp (disch := omega) only [upd_ne, upd_same]; exact a4.2.2.2
  · refine ⟨Int32.ofNat z, bytes, 0, buf, Int32.ofNat z, ?_, h0⟩
    unfold fS0 fX5_append fX4_hasRoomFor fX6_append
    rw [e20, if_pos (show (500 : Int32) < Int32.ofNat (z + 20) from (n_lt (a := 500) (by omega) (by omega)).mpr (by omega)), if_neg (show ¬ Int32.ofNat (z + 20) ≤ 500 from fun h => by
      have := (n_le (b := 500) (by omega) (by omega)).mp h; omega)]
    rfl
