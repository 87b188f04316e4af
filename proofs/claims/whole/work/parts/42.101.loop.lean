theorem z_vpin {n L : Nat} (h : n < L) (hL : L ≤ 3072) : vp_in (Int32.ofNat n) L := by
  have h1 : (Int32.ofNat n).toInt = n := Int32.toInt_ofNat_of_lt (by omega)
  have h2 : (Int32.ofNat n).toNatClampNeg = n := by show (Int32.ofNat n).toInt.toNat = n; rw [h1]; rfl
  rintro (h3 | h3)
  · rw [Int32.lt_iff_toInt_lt, h1] at h3
    have : (0 : Int32).toInt = 0 := rfl
    omega
  · rw [h2] at h3
    omega
theorem z_more {k L : Nat} (hL : L ≤ 3072) (hk : k ≤ 4000) : (Int32.ofNat L - 6 < Int32.ofNat k) ↔ L < k + 6 := by
  have h1 : (Int32.ofNat L - 6).toInt = (L : Int) - 6 := by
    rw [Int32.toInt_sub, Int32.toInt_ofNat_of_lt (by omega)]
    show Int.bmod ((L : Int) - 6) (2 ^ 32) = _
    exact Int.bmod_eq_of_le (by omega) (by omega)
  rw [Int32.lt_iff_toInt_lt, h1, Int32.toInt_ofNat_of_lt (by omega)]
  omega
set_option maxHeartbeats 4000000 in
set_option maxRecDepth 100000 in
theorem z_loop (Inv : ZS → Prop) (hstep : ∀ (x0 x1 x2 x3 x4 x5 : Int32) (S : ZS), Inv S → ∃ S1, fStep x0 x1 x2 x3 x4 x5 S = some S1 ∧ Inv S1) {p : Program} {l : Launch} {e : Env} {s : State} {m : MethodId} {below : List Frame} {meth : Method} {c : Code} {b L : Nat} {xs : Nat → Int32} (D : va_G) (cA : Nat → ClassId) (h : Nat → Nat) (hr : meth.sig.returnType = ret) (hlocks : meth.locks = false) (hL : L ≤ 3072)
    (hx : p.tables.exec = Jvm.exec) (hb : c.code = code) (hml : c.maxLocals = 9) (hown : s.vm.findClass RL = some m.cls) (hts : ∀ w ∈ lw_tbl, w.before #[Value.ref b] s = true) (hfl : l.stackTraces = false) (hF : zLX (fun q : Nat => s.heap.size ≤ q) s s.heap) (hXs : va_X b L xs s s.heap) (hbl : b < s.heap.size) :
    ∀ (n k : Nat) (S : ZS), L ≤ 6 * (k + n) + 5 → k ≤ 513 → Inv S → ∀ (H : Heap) (locs : List Loc) (ls : Array Slot), zw D (zTY cA) s (fun q : Nat => s.heap.size ≤ q) (WS cA h S) H locs → lv_has ls 9 [(0, .ref b), (1, .ref (h 0)), (2, .ref (h 105)), (3, .ref (h 125)), (4, .int (Int32.ofNat (6 * k)))] →
      W p l e room_1 s m #[Value.ref b] below meth c H locs (126 + k) (6843 + 6 * k) (lw_Z below #[Value.ref b] s) (F0 m 23 ls []) := by
  have hA : ∀ q : Nat, s.heap.size ≤ q → (fun q : Nat => s.heap.size ≤ q) q := fun _ h => h
  have hbA : ¬ (fun q : Nat => s.heap.size ≤ q) b := Nat.not_le.mpr hbl
  have hb2 : c.code = cL_law := hb
  have out : ∀ (k : Nat) (S : ZS) (H : Heap) (locs : List Loc) (ls : Array Slot), k ≤ 513 → zw D (zTY cA) s (fun q : Nat => s.heap.size ≤ q) (WS cA h S) H locs → W p l e room_1 s m #[Value.ref b] below meth c H locs (126 + k) (6843 + 6 * k) (lw_Z below #[Value.ref b] s) (F0 m 1398 ls []) := by
    intro k S H locs ls hk Z
    refine lv_iconst (v := (1 : Int32)) (pc := 1398) hx hb2 dL_law_1398 (by decide) ?_
    refine va_forget (fun q hq => Z.2.2.2.2.2 q hq) ?_
    refine W.widen (k := 601024) (n := 7293034) (by omega) (by omega) ?_
    exact W.base (lw_ret (Drawn.sameBut.refl s.drawn lw_cs) hx hb hr hlocks (pc := 1399) dL_law_1399)
  have top : ∀ (k : Nat) (S : ZS) (H : Heap) (locs : List Loc) (ls : Array Slot), k ≤ 513 → zw D (zTY cA) s (fun q : Nat => s.heap.size ≤ q) (WS cA h S) H locs → lv_has ls 9 [(0, .ref b), (1, .ref (h 0)), (2, .ref (h 105)), (3, .ref (h 125)), (4, .int (Int32.ofNat (6 * k)))] → (6 * k + 6 ≤ L → W p l e room_1 s m #[Value.ref b] below meth c H locs (126 + k) (6843 + 6 * k) (lw_Z below #[Value.ref b] s) (F0 m 33 ls [])) → W p l e room_1 s m #[Value.ref b] below meth c H locs (126 + k) (6843 + 6 * k) (lw_Z below #[Value.ref b] s) (F0 m 23 ls []) := by
    intro k S H locs ls hk Z hl kk
    refine lv_iload (pc := 23) hx hb2 dL_law_23 (lv_at hl 4 rfl) ?_
    refine lv_aload_n (pc := 25) hx hb2 dL_law_25 rfl (lv_at hl 0 rfl) ?_
    refine va_slen (pc := 26) hx hb2 hXs hbl hbA Z.2.2.2 dL_law_26 ?_
    refine lv_bipush (v := (6 : Int32)) (pc := 27) hx hb2 dL_law_27 (by decide) ?_
    refine lv_isub (pc := 29) hx hb2 dL_law_29 ?_
    refine lv_icmp_gt (tgt := 1398) (pc := 30) hx hb2 dL_law_30 (by decide) (fun c1 => ?_) (fun c1 => ?_)
    · exact out k S H locs ls hk Z
    · exact kk (by rw [z_more hL (by omega)] at c1; omega)
  intro n
  induction n with
  | zero =>
    intro k S h1 hk hI H locs ls Z hl
    exact top k S H locs ls hk Z hl (fun h2 => by omega)
  | succ n ih =>
    intro k S h1 hk hI H locs ls Z hl
    refine top k S H locs ls hk Z hl (fun h2 => ?_)
    have hi : ∀ j : Nat, j < 6 → vp_in (Int32.ofNat (6 * k) + Int32.ofNat j) L := fun j hj => by rw [← Int32.ofNat_add]; exact z_vpin (by omega) hL
    obtain ⟨S1, hS1, hI1⟩ := hstep (xs (Int32.ofNat (6 * k)).toNatClampNeg) (xs (Int32.ofNat (6 * k) + (1 : Int32)).toNatClampNeg) (xs (Int32.ofNat (6 * k) + (2 : Int32)).toNatClampNeg) (xs (Int32.ofNat (6 * k) + (3 : Int32)).toNatClampNeg) (xs (Int32.ofNat (6 * k) + (4 : Int32)).toNatClampNeg) (xs (Int32.ofNat (6 * k) + (5 : Int32)).toNatClampNeg) S hI
    refine z_step D cA h (Int32.ofNat (6 * k)) S S1 hS1 hx hb hml hown hts hfl hA hF hXs hbl hbA (z_vpin (by omega) hL) (hi 1 (by omega)) (hi 2 (by omega)) (hi 3 (by omega)) (hi 4 (by omega)) (hi 5 (by omega)) ⟨by show 126 + k + 1 ≤ 601024; omega, by show 6843 + 6 * k + 6 ≤ 7293034; omega⟩ Z hl (fun H1 locs1 ls1 Z1 hl1 => ?_)
    refine lv_iinc (v := Int32.ofNat (6 * (k + 1))) (lv' := [(4, .int (Int32.ofNat (6 * (k + 1)))), (0, .ref b), (1, .ref (h 0)), (2, .ref (h 105)), (3, .ref (h 125))]) (pc := 1392) hx hb2 dL_law_1392 hl1 (k := 4) rfl (by rw [show 6 * (k + 1) = 6 * k + 6 from rfl, Int32.ofNat_add]; rfl) (by decide) rfl (fun ls hl => ?_)
    refine lv_goto (tgt := 23) (pc := 1395) hx hb2 dL_law_1395 (by decide) ?_
    exact ih (k + 1) S1 (by omega) (by omega) hI1 H1 locs1 ls Z1 (lv_sub hl [1, 2, 3, 4, 0] rfl)
