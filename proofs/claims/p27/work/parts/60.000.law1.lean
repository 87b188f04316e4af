/-! ===== the law's own bill: lots, different lots, places ===== -/
theorem zct_t {f : Nat → Bool} {k : Nat} (h : f k = true) : zct f (k + 1) = zct f k + 1 := by
  show zct f k + (if f k = true then 1 else 0) = _
  rw [if_pos h]
theorem zct_f {f : Nat → Bool} {k : Nat} (h : f k = false) : zct f (k + 1) = zct f k := by
  show zct f k + (if f k = true then 1 else 0) = _
  rw [if_neg (by rw [h]; exact Bool.false_ne_true), Nat.add_zero]
theorem zbi_and (b : Bool) : zbi b &&& 1 = zbi b := by cases b <;> rfl
def VV (n : Nat) (ln : Nat → Nat) (pr wa sl : Nat → Bool) (es se : Nat → Int32) (v : Nat → ZL) : Prop := ∀ i, i < n → v i = (Int32.ofNat (ln i), es i, se i, zbi (pr i), zbi (wa i), zbi (sl i))
def LV (H n m : Nat) (ln : Nat → Nat) (pr wa sl : Nat → Bool) (ac : Int32) (co es se : Nat → Int32) (B : ZB) : Prop := B.1 = Int32.ofNat H ∧ B.2.1 = Int32.ofNat m ∧ B.2.2.1 = ac ∧ (∀ k, k < 5 → B.2.2.2.1 k = co k) ∧ B.2.2.2.2.1 = n ∧ VV n ln pr wa sl es se B.2.2.2.2.2
section ZLA
variable {H n m : Nat} {ln : Nat → Nat} {pr wa sl : Nat → Bool} {es se : Nat → Int32} {v : Nat → ZL}
theorem l_differs (h : VV n ln pr wa sl es se v) {k : Nat} (hk : k < n) : fX7_differs (v k) = some (zbi (zdfb pr wa k)) := by
  unfold fX7_differs
  rw [h k hk]
  unfold zdfb
  cases pr k <;> cases wa k <;> rfl
theorem l_isP5 (hn : n ≤ 16) (h : VV n ln pr wa sl es se v) {q : Nat} (hq : q < n) (j : Int32 → Option Int32) : fX6_isPrinted_L5 (Int32.ofNat q) j n v 1024 0 0 = j (Int32.ofNat (zct (zdfb pr wa) q)) := by
  have key := n_inv (fun f k (s : Int32) => fX6_isPrinted_L5 (Int32.ofNat q) j n v f s (Int32.ofNat k)) q j (fun k s => s = Int32.ofNat (zct (zdfb pr wa) k)) (fun f s _ => by simp only [fX6_isPrinted_L5, Int32.le_refl, if_true]) (fun f k s hk hs => by
    have e := l_differs h (show k < n by omega)
    cases hz : zdfb pr wa k
    · rw [hz] at e
      refine ⟨s, by rw [zct_f hz]; exact hs, ?_⟩
      simp (disch := omega) only [fX6_isPrinted_L5, n_le, n_rd, n_cl, n_bind, n_let, n_s, e, zbF, show ¬ q ≤ k from by omega, if_true, if_false]
    · rw [hz] at e
      refine ⟨s + 1, by rw [zct_t hz, hs, n_s], ?_⟩
      simp (disch := omega) only [fX6_isPrinted_L5, n_le, n_rd, n_cl, n_bind, n_let, n_s, e, zbT, n10, show ¬ q ≤ k from by omega, if_true, if_false]) q 0 1024 0 (by omega) (by omega) rfl
  obtain ⟨s, h1, h2⟩ := key
  rw [h1] at h2
  exact h2
theorem l_isPrinted (hn : n ≤ 16) (h : VV n ln pr wa sl es se v) {q : Nat} (hq : q < n) (x : Int32) : fX6_isPrinted (Int32.ofNat q) x n v = some (zbi (zprB pr wa x q)) := by
  have e := l_differs h hq
  unfold fX6_isPrinted
  rw [n_let, l_isP5 hn h hq]
  simp (disch := omega) only [n_rd, n_cl, e, n_bind]
  rw [h q hq]
  cases hz : zdfb pr wa q
  · have e1 : zprB pr wa x q = pr q := by simp [zprB, zcho, hz]
    rw [e1]
    simp only [zbF, if_true]
    exact n_as (zbi_and _)
  · simp only [zbT, n10, if_false]
    by_cases hb : (x >>> (Int32.ofNat (zct (zdfb pr wa) q) &&& 31)) &&& 1 = 1
    · have e1 : zprB pr wa x q = wa q := by simp [zprB, zcho, zbit, hz, hb]
      rw [e1, if_pos hb]
      exact n_as (zbi_and _)
    · have e1 : zprB pr wa x q = pr q := by simp [zprB, zcho, zbit, hz, hb]
      rw [e1, if_neg hb]
      exact n_as (zbi_and _)
/-- where a lot begins, of all pages one behind another; -1 -/
def zpl (H : Nat) (ln : Nat → Nat) (pr : Nat → Bool) (i : Nat) : Int32 := if pr i = true then Int32.ofNat (zpo H ln pr i) else -1
theorem zpo_le (hn : n ≤ 16) (hH : H ≤ 40) (hl : ∀ j, j < n → ln j ≤ H) {k : Nat} (hk : k < n) (hp : pr k = true) : zpo H ln pr k + ln k ≤ 640 := by
  obtain ⟨h1, h2, -⟩ := zP_pos (H := H) (ln := ln) hp
  have h3 := (zP_le H ln pr (k + 1)).1
  have h4 := zUs_le H ln pr (k + 1) (fun j hj => hl j (by omega))
  obtain ⟨Q, hQ⟩ : ∃ Q, zP H ln pr (k + 1) = Q + 1 := ⟨zP H ln pr (k + 1) - 1, by omega⟩
  unfold zpo
  rw [hQ, Nat.add_sub_cancel]
  have h5 : H * Q ≤ 40 * Q := Nat.mul_le_mul_right Q hH
  omega
/-- where lots stand: the law's row of places, at any choice -/
theorem l_places (hn : n ≤ 16) (h4 : 4 ≤ H) (hH : H ≤ 40) (hl : ∀ j, j < n → 1 ≤ ln j ∧ ln j ≤ H) (h : VV n ln pr wa sl es se v) (x : Int32) {pb : Nat → Bool} (hpb : ∀ i, i < n → zprB pr wa x i = pb i) :
    ∃ r : Nat → Int32, fX6_places x (Int32.ofNat H) n v = some r ∧ ∀ i, i < n → r i = zpl H ln pb i := by
  have key := n_inv (fun f k (s : Int32 × Int32 × (Nat → Int32)) => fX6_places_L16 n x v (Int32.ofNat H) f s.1 s.2.1 (Int32.ofNat k) s.2.2) n (fun s => some s.2.2)
    (fun k s => s.1 = Int32.ofNat (zP H ln pb k - 1) ∧ s.2.1 = Int32.ofNat (zUs H ln pb k) ∧ ∀ i, i < k → s.2.2 i = zpl H ln pb i)
    (fun f s _ => by simp only [fX6_places_L16, Int32.le_refl, if_true]) (fun f k s hk hs => by
    obtain ⟨pg, li, r⟩ := s
    obtain ⟨s1, s2, s3⟩ := hs
    have s1 : pg = Int32.ofNat (zP H ln pb k - 1) := s1
    have s2 : li = Int32.ofNat (zUs H ln pb k) := s2
    have s3 : ∀ i, i < k → r i = zpl H ln pb i := s3
    have e := l_isPrinted hn h hk x
    rw [hpb k hk] at e
    have hv : (v k).1 = Int32.ofNat (ln k) := by rw [h k hk]
    have hUH := zUs_le H ln pb k (fun j hj => (hl j (by omega)).2)
    have hlk := hl k hk
    have hPk := (zP_le H ln pb k).1
    cases hz : pb k
    · rw [hz] at e
      obtain ⟨q1, q2, -⟩ := zlay_no (H := H) (ln := ln) hz
      refine ⟨(pg, li, upd r k (-1)), ⟨by rw [q1]; exact s1, by rw [q2]; exact s2, fun i hi => ?_⟩, ?_⟩
      · by_cases ei : i = k
        · subst ei
          refine upd_same.trans ?_
          unfold zpl
          rw [if_neg (by rw [hz]; exact Bool.false_ne_true)]
        · exact (upd_ne ei).trans (s3 i (by omega))
      · simp (disch := omega) only [fX6_places_L16, n_le, n_rd, n_cl, n_bind, n_let, n_s, e, zbF, show ¬ n ≤ k from by omega, if_true, if_false]
    · rw [hz] at e
      have upd2 : ∀ (a : Int32), upd (upd r k (-1)) k a = upd r k a := fun a => by
        funext y
        by_cases ey : y = k
        · subst ey; exact upd_same.trans upd_same.symm
        · exact (upd_ne ey).trans ((upd_ne ey).trans (upd_ne ey).symm)
      have fin : ∀ a : Int32, a = zpl H ln pb k → ∀ i, i < k + 1 → upd r k a i = zpl H ln pb i := fun a ha i hi => by
        by_cases ei : i = k
        · subst ei; exact upd_same.trans ha
        · exact (upd_ne ei).trans (s3 i (by omega))
      have eH : (Int32.ofNat (zUs H ln pb k) + Int32.ofNat (ln k) ≤ Int32.ofNat H) ↔ zUs H ln pb k + ln k ≤ H := by
        rw [← Int32.ofNat_add]; exact n_le (by omega) (by omega)
      have ep : zpl H ln pb k = Int32.ofNat (zP H ln pb (k + 1) - 1) * Int32.ofNat H + Int32.ofNat (zUs H ln pb (k + 1) - ln k) := by
        unfold zpl zpo
        rw [if_pos hz, Int32.ofNat_add, Int32.ofNat_mul, Int32.mul_comm]
      by_cases hc : zUs H ln pb k + ln k ≤ H
      · have hnw : zP H ln pb (k + 1) - 1 = zP H ln pb k - 1 ∧ zUs H ln pb (k + 1) = zUs H ln pb k + ln k := by
          by_cases h0 : zP H ln pb k = 0
          · obtain ⟨q1, q2, -⟩ := zlay_new (H := H) (ln := ln) (pr := pb) hz (Or.inl h0)
            have := zUs_zero (H := H) (ln := ln) (pr := pb) k h0
            omega
          · obtain ⟨q1, q2, -⟩ := zlay_go (H := H) (ln := ln) (pr := pb) hz (by omega)
            omega
        refine ⟨(pg, li + Int32.ofNat (ln k), upd r k (pg * Int32.ofNat H + li)), ⟨by rw [hnw.1]; exact s1, ?_, fin _ ?_⟩, ?_⟩
        · show li + Int32.ofNat (ln k) = _
          rw [hnw.2, s2, Int32.ofNat_add]
        · rw [ep, hnw.1, hnw.2, Nat.add_sub_cancel, s1, s2]
        · subst s1 s2
          simp (disch := omega) only [fX6_places_L16, n_le, n_rd, n_cl, n_bind, n_let, n_s, e, hv, zbT, n10, eH, hc, upd2, show ¬ n ≤ k from by omega, if_true, if_false]
      · obtain ⟨q1, q2, -⟩ := zlay_new (H := H) (ln := ln) (pr := pb) hz (Or.inr (by omega))
        have hP0 : zP H ln pb k ≠ 0 := fun h0 => by
          have := zUs_zero (H := H) (ln := ln) (pr := pb) k h0
          omega
        refine ⟨(pg + 1, 0 + Int32.ofNat (ln k), upd r k ((pg + 1) * Int32.ofNat H + 0)), ⟨?_, ?_, fin _ ?_⟩, ?_⟩
        · show pg + 1 = _
          rw [s1, q1, n_s, show zP H ln pb k - 1 + 1 = zP H ln pb k + 1 - 1 by omega]
        · show 0 + Int32.ofNat (ln k) = _
          rw [q2, Int32.zero_add]
        · rw [ep, q1, q2, Nat.sub_self, s1, n_s, show zP H ln pb k - 1 + 1 = zP H ln pb k + 1 - 1 by omega]
          rfl
        · subst s1 s2
          simp (disch := omega) only [fX6_places_L16, n_le, n_rd, n_cl, n_bind, n_let, n_s, e, hv, zbT, n10, eH, hc, upd2, show ¬ n ≤ k from by omega, if_true, if_false])
    n 0 1024 (0, 0, (fun _ => 0)) (by omega) (by omega) ⟨rfl, rfl, fun i hi => absurd hi (Nat.not_lt_zero _)⟩
  obtain ⟨⟨pg, li, r⟩, h1, h2⟩ := key
  refine ⟨r, ?_, h1.2.2⟩
  unfold fX6_places
  rw [n_as hn]
  exact h2
theorem zprB0 (hD : zct (zdfb pr wa) n ≤ 8) : ∀ i, i < n → zprB pr wa 0 i = pr i := fun i hi => by
  unfold zprB zcho
  cases hz : zdfb pr wa i
  · rfl
  · have := zct_lt_of hi hz
    rw [n_bit0 (by omega)]
    rfl
/-- the law's numbers, pages and lines of lots -/
theorem zpl_neg {i : Nat} (h : pr i = false) : zpl H ln pr i = -1 := by unfold zpl; rw [if_neg (by rw [h]; exact Bool.false_ne_true)]
theorem zpl_pos {i : Nat} (h : pr i = true) : zpl H ln pr i = Int32.ofNat (zpo H ln pr i) := by unfold zpl; rw [if_pos h]
theorem l_number (hn : n ≤ 16) (hH : H ≤ 40) (hl : ∀ j, j < n → ln j ≤ H) {r : Nat → Int32} (hr : ∀ i, i < n → r i = zpl H ln pr i) {q : Nat} (hq : q < n) : fX6_number (Int32.ofNat q) n r = some (zNo_ H ln pr q) := by
  have sg : ∀ k, k < n → ((r k < 0) ↔ pr k = false) := fun k hk => by
    rw [hr k hk]
    cases hz : pr k
    · rw [zpl_neg hz]; exact ⟨fun _ => rfl, fun _ => by decide⟩
    · have := zpo_le hn hH hl hk hz
      rw [zpl_pos hz]
      exact ⟨fun h => absurd h (n_lt0 (by omega)), fun h => by cases h⟩
  have key := n_inv (fun f k (s : Int32) => fX6_number_L13 (Int32.ofNat q) n r f s (Int32.ofNat k)) (q + 1) some (fun k s => s = Int32.ofNat (zK H ln pr k)) (fun f s _ => by
      simp (disch := omega) only [fX6_number_L13, n_lt, show q < q + 1 from by omega, if_true]) (fun f k s hk hs => by
    have e := sg k (by omega)
    cases hz : pr k
    · rw [hz] at e
      obtain ⟨-, -, q3⟩ := zlay_no (H := H) (ln := ln) hz
      refine ⟨s, by rw [q3]; exact hs, ?_⟩
      simp (disch := omega) only [fX6_number_L13, n_lt, n_rd, n_cl, n_let, n_s, e.mpr rfl, show ¬ q < k from by omega, if_true, if_false]
    · rw [hz] at e
      have e' : ¬ r k < 0 := fun h => absurd (e.mp h) (by simp)
      have q3 : zK H ln pr (k + 1) = zK H ln pr k + 1 := by
        by_cases hc : zP H ln pr k = 0 ∨ H < zUs H ln pr k + ln k
        · exact (zlay_new hz hc).2.2
        · exact (zlay_go hz hc).2.2
      refine ⟨s + 1, by rw [q3, hs, n_s], ?_⟩
      simp (disch := omega) only [fX6_number_L13, n_lt, n_rd, n_cl, n_let, n_s, e', show ¬ q < k from by omega, if_true, if_false]) (q + 1) 0 1024 0 (by omega) (by omega) rfl
  obtain ⟨s, h1, h2⟩ := key
  rw [h1] at h2
  have h2 : fX6_number_L13 (Int32.ofNat q) n r 1024 0 0 = some (Int32.ofNat (zK H ln pr (q + 1))) := h2
  unfold fX6_number
  rw [n_rd hq (by omega), n_cl (by omega), hr q hq]
  unfold zNo_
  cases hz : pr q
  · rw [zpl_neg hz, if_neg (by decide), if_neg (by simp)]
  · have := zpo_le hn hH hl hq hz
    rw [zpl_pos hz, if_pos (show (0 : Int32) ≤ _ from (n_le (a := 0) (by omega) (by omega)).mpr (by omega)), if_pos rfl]
    exact h2
/-- a printed lot's place, by its page and line -/
theorem zpo_eq {i : Nat} : zpo H ln pr i = H * pgN H ln pr i + liN H ln pr i := rfl
theorem l_pages (hn : n ≤ 16) (h4 : 4 ≤ H) (hH : H ≤ 40) (hl : ∀ j, j < n → 1 ≤ ln j ∧ ln j ≤ H) {r : Nat → Int32} (hr : ∀ i, i < n → r i = zpl H ln pr i) : fX6_pages (Int32.ofNat H) n r = some (Int32.ofNat (zP H ln pr n)) := by
  have hH0 : ¬ Int32.ofNat H = 0 := fun e => by
    have := (n_eq (b := 0) (by omega) (by omega)).mp e
    omega
  have key := n_inv (fun f k (s : Int32) => fX6_pages_L11 (Int32.ofNat n) n r (Int32.ofNat H) f s (Int32.ofNat k)) n some (fun k s => s = Int32.ofNat (zP H ln pr k)) (fun f s _ => by
      simp only [fX6_pages_L11, Int32.le_refl, if_true]) (fun f k s hk hs => by
    have hPk := (zP_le H ln pr k).1
    have hPk1 := (zP_le H ln pr (k + 1)).1
    have hm := zP_mono H ln pr k
    refine ⟨_, rfl, ?_⟩
    subst hs
    cases hz : pr k
    · obtain ⟨q1, -, -⟩ := zlay_no (H := H) (ln := ln) hz
      have e : ¬ (0 : Int32) ≤ r k := by rw [hr k hk, zpl_neg hz]; decide
      have e2 : ¬ Int32.ofNat (zP H ln pr k) < 0 := n_lt0 (by omega)
      simp (disch := omega) only [fX6_pages_L11, n_le, n_rd, n_cl, n_let, n_s, e, e2, q1, show ¬ n ≤ k from by omega, if_true, if_false]
    · have hpo := zpo_le hn hH (fun j hj => (hl j hj).2) hk hz
      obtain ⟨p1, p2, -⟩ := zP_pos (H := H) (ln := ln) hz
      have hli := zli_le (H := H) hz (fun j hj => (hl j (by omega)).2)
      have hlk := hl k hk
      have e : (0 : Int32) ≤ r k := by rw [hr k hk, zpl_pos hz]; exact (n_le (a := 0) (by omega) (by omega)).mpr (by omega)
      have e3 : zpo H ln pr k / H = pgN H ln pr k := by
        rw [zpo_eq, Nat.mul_add_div (by omega), Nat.div_eq_of_lt (by omega), Nat.add_zero]
      have e2 : r k / Int32.ofNat H + 1 = Int32.ofNat (zP H ln pr (k + 1)) := by
        rw [hr k hk, zpl_pos hz, n_div (by omega) (by omega), e3, n_s]
        unfold pgN
        rw [show zP H ln pr (k + 1) - 1 + 1 = zP H ln pr (k + 1) by omega]
      have e4 : (if Int32.ofNat (zP H ln pr k) < Int32.ofNat (zP H ln pr (k + 1)) then Int32.ofNat (zP H ln pr (k + 1)) else Int32.ofNat (zP H ln pr k)) = Int32.ofNat (zP H ln pr (k + 1)) := by
        by_cases c9 : zP H ln pr k < zP H ln pr (k + 1)
        · rw [if_pos ((n_lt (by omega) (by omega)).mpr c9)]
        · rw [if_neg (fun h9 => c9 ((n_lt (by omega) (by omega)).mp h9)), show zP H ln pr k = zP H ln pr (k + 1) by omega]
      simp (disch := omega) only [fX6_pages_L11, n_le, n_rd, n_cl, n_let, n_s, n_as hH0, e, e2, e4, show ¬ n ≤ k from by omega, if_true, if_false]) n 0 1024 0 (by omega) (by omega) rfl
  obtain ⟨s, h1, h2⟩ := key
  rw [h1] at h2
  unfold fX6_pages
  rw [n_let]
  exact h2
theorem l_different (hn : n ≤ 16) (h : VV n ln pr wa sl es se v) : fX6_different n v = some (Int32.ofNat (zct (zdfb pr wa) n)) := by
  have key := n_inv (fun f k (s : Int32) => fX6_different_L13 (Int32.ofNat n) n v f s (Int32.ofNat k)) n some (fun k s => s = Int32.ofNat (zct (zdfb pr wa) k)) (fun f s _ => by simp only [fX6_different_L13, Int32.le_refl, if_true]) (fun f k s hk hs => by
    have e := l_differs h hk
    cases hz : zdfb pr wa k
    · rw [hz] at e
      refine ⟨s, by rw [zct_f hz]; exact hs, ?_⟩
      simp (disch := omega) only [fX6_different_L13, n_le, n_rd, n_cl, n_bind, n_let, n_s, e, zbF, show ¬ n ≤ k from by omega, if_true, if_false]
    · rw [hz] at e
      refine ⟨s + 1, by rw [zct_t hz, hs, n_s], ?_⟩
      simp (disch := omega) only [fX6_different_L13, n_le, n_rd, n_cl, n_bind, n_let, n_s, e, zbT, n10, show ¬ n ≤ k from by omega, if_true, if_false]) n 0 1024 0 (by omega) (by omega) rfl
  obtain ⟨s, h1, h2⟩ := key
  rw [h1] at h2
  unfold fX6_different
  rw [n_let]
  exact h2
/-- the lot that is the j-th different one -/
theorem l_indexOf (hn : n ≤ 16) (h : VV n ln pr wa sl es se v) {i : Nat} (hi : i < n) (hd : zdfb pr wa i = true) : fX6_indexOf (Int32.ofNat (zct (zdfb pr wa) i)) n v = some (Int32.ofNat i) := by
  have go : ∀ (m k f : Nat), k + m = i → m < f → fX6_indexOf_L4 n v f (Int32.ofNat (zct (zdfb pr wa) i - zct (zdfb pr wa) k)) (Int32.ofNat k) = some (Int32.ofNat i) := by
    intro m
    induction m with
    | zero =>
      intro k f hk hf
      obtain ⟨f, rfl⟩ : ∃ g, f = g + 1 := ⟨f - 1, by omega⟩
      have ek : k = i := by omega
      subst ek
      have e := l_differs h hi
      rw [hd] at e
      simp (disch := omega) only [fX6_indexOf_L4, n_le, n_rd, n_cl, n_bind, e, zbT, n10, show ¬ n ≤ k from by omega, Nat.sub_self, show (Int32.ofNat 0 = 0) from rfl, if_true, if_false]
    | succ m ih =>
      intro k f hk hf
      obtain ⟨f, rfl⟩ : ∃ g, f = g + 1 := ⟨f - 1, by omega⟩
      have e := l_differs h (show k < n by omega)
      have nx := ih (k + 1) f (by omega) (by omega)
      cases hz : zdfb pr wa k
      · rw [hz] at e
        rw [zct_f hz] at nx
        simp (disch := omega) only [fX6_indexOf_L4, n_le, n_rd, n_cl, n_bind, n_let, n_s, e, zbF, show ¬ n ≤ k from by omega, if_true, if_false]
        exact nx
      · rw [hz] at e
        rw [zct_t hz] at nx
        have hlt := zct_lt_of (show k < i by omega) hz
        have hle := zct_le (zdfb pr wa) i
        obtain ⟨q, hq⟩ : ∃ q, zct (zdfb pr wa) i - zct (zdfb pr wa) k = q + 1 := ⟨zct (zdfb pr wa) i - zct (zdfb pr wa) k - 1, by omega⟩
        rw [show zct (zdfb pr wa) i - (zct (zdfb pr wa) k + 1) = q by omega] at nx
        have e0 : ¬ Int32.ofNat (q + 1) = 0 := fun h0 => by
          have := (n_eq (b := 0) (by omega) (by omega)).mp h0
          omega
        rw [hq]
        simp (disch := omega) only [fX6_indexOf_L4, n_le, n_rd, n_cl, n_bind, n_let, n_s, n_dec, e, e0, zbT, n10, show ¬ n ≤ k from by omega, if_true, if_false]
        exact nx
  unfold fX6_indexOf
  have := go i 0 1024 (by omega) (by omega)
  exact this
theorem zs2_cov {pb : Nat → Bool} {i p l : Nat} (hc : zcv H ln pb i p l = true) : ∀ n : Nat, i < n → zs2 H ln pb n p l ≠ 0
  | 0, h => absurd h (Nat.not_lt_zero _)
  | k + 1, h => by
    unfold zs2
    by_cases e : zcv H ln pb k p l = true
    · rw [if_pos e]; omega
    · rw [if_neg e]
      exact zs2_cov hc k (Nat.lt_of_le_of_ne (Nat.le_of_lt_succ h) (fun e2 => e (e2 ▸ hc)))
/-- what stands on a line, of all pages one behind another -/
theorem l_standing (hn : n ≤ 16) (h4 : 4 ≤ H) (hH : H ≤ 40) (hl : ∀ j, j < n → 1 ≤ ln j ∧ ln j ≤ H) (h : VV n ln pr wa sl es se v) {pb : Nat → Bool} {r : Nat → Int32} (hr : ∀ i, i < n → r i = zpl H ln pb i) {g : Nat} (hg : g < 1000) :
    (fX6_standing (Int32.ofNat g) n v n r = some (-1) ∧ zs2 H ln pb n (g / H) (g % H) = 0) ∨ ∃ i, i < n ∧ zcv H ln pb i (g / H) (g % H) = true ∧ fX6_standing (Int32.ofNat g) n v n r = some (Int32.ofNat (10 * i + (g % H - liN H ln pb i))) ∧ zs2 H ln pb n (g / H) (g % H) = 1 + 10 * i + (g % H - liN H ln pb i) + (if g % H = liN H ln pb i then 1000 * zK H ln pb (i + 1) else 0) := by
  have st : ∀ k, k < n → ((zcv H ln pb k (g / H) (g % H) = true) ↔ (pb k = true ∧ zpo H ln pb k ≤ g ∧ g < zpo H ln pb k + ln k)) := fun k hk => by
    rw [zcv_iff]
    constructor
    · rintro ⟨c1, c2⟩
      exact ⟨c1, (n_cov (by omega) (zli_le c1 (fun j hj => (hl j (by omega)).2)) (hl k hk).1).mpr c2⟩
    · rintro ⟨c1, c2⟩
      exact ⟨c1, (n_cov (by omega) (zli_le c1 (fun j hj => (hl j (by omega)).2)) (hl k hk).1).mp c2⟩
  -- one step: the lot covers the line, or the loop goes on
  have go : ∀ k, k < n → ∀ f j, (zcv H ln pb k (g / H) (g % H) = true → fX6_standing_L2 n n r (Int32.ofNat g) v j (f + 1) (Int32.ofNat k) = j (Int32.ofNat k)) ∧ (¬ zcv H ln pb k (g / H) (g % H) = true → fX6_standing_L2 n n r (Int32.ofNat g) v j (f + 1) (Int32.ofNat k) = fX6_standing_L2 n n r (Int32.ofNat g) v j f (Int32.ofNat (k + 1))) := fun k hk f j => by
    have hv : (v k).1 = Int32.ofNat (ln k) := by rw [h k hk]
    have hs := st k hk
    have hlk := hl k hk
    cases hz : pb k
    · rw [hz] at hs
      have e : r k < 0 := by rw [hr k hk, zpl_neg hz]; decide
      refine ⟨fun hc => absurd (hs.mp hc).1 (by simp), fun _ => ?_⟩
      simp (disch := omega) only [fX6_standing_L2, n_le, n_rd, n_cl, n_let, n_s, e, show ¬ n ≤ k from by omega, if_true, if_false]
    · rw [hz] at hs
      have hpo := zpo_le hn hH (fun j hj => (hl j hj).2) hk hz
      have e0 : r k = Int32.ofNat (zpo H ln pb k) := by rw [hr k hk, zpl_pos hz]
      have e : ¬ Int32.ofNat (zpo H ln pb k) < 0 := n_lt0 (by omega)
      have e1 : Int32.ofNat (zpo H ln pb k) + Int32.ofNat (ln k) = Int32.ofNat (zpo H ln pb k + ln k) := (Int32.ofNat_add _ _).symm
      refine ⟨fun hc => ?_, fun hc => ?_⟩
      · obtain ⟨-, c2, c3⟩ := hs.mp hc
        simp (disch := omega) only [fX6_standing_L2, n_le, n_lt, n_rd, n_cl, n_let, n_s, e0, e, e1, hv, show ¬ n ≤ k from by omega, show ¬ g < zpo H ln pb k from by omega, show ¬ zpo H ln pb k + ln k ≤ g from by omega, if_true, if_false]
      · by_cases c2 : g < zpo H ln pb k
        · simp (disch := omega) only [fX6_standing_L2, n_le, n_lt, n_rd, n_cl, n_let, n_s, e0, e, c2, show ¬ n ≤ k from by omega, if_true, if_false]
        · have c3 : zpo H ln pb k + ln k ≤ g := Nat.not_lt.mp fun c3 => hc (hs.mpr ⟨rfl, by omega, c3⟩)
          simp (disch := omega) only [fX6_standing_L2, n_le, n_lt, n_rd, n_cl, n_let, n_s, e0, e, e1, c2, c3, hv, show ¬ n ≤ k from by omega, if_true, if_false]
  have walk : ∀ (m k f : Nat) j, k + m = n → m < f → (∀ i, k ≤ i → i < n → ¬ zcv H ln pb i (g / H) (g % H) = true) → fX6_standing_L2 n n r (Int32.ofNat g) v j f (Int32.ofNat k) = some (-1) := by
    intro m
    induction m with
    | zero =>
      intro k f j hk hf _
      obtain ⟨f, rfl⟩ : ∃ g, f = g + 1 := ⟨f - 1, by omega⟩
      have ek : k = n := by omega
      subst ek
      simp only [fX6_standing_L2, Int32.le_refl, if_true]
    | succ m ih =>
      intro k f j hk hf hh
      obtain ⟨f, rfl⟩ : ∃ g, f = g + 1 := ⟨f - 1, by omega⟩
      rw [(go k (by omega) f j).2 (hh k (by omega) (by omega))]
      exact ih (k + 1) f j (by omega) (by omega) (fun i h1 h2 => hh i (by omega) h2)
  have find : ∀ (i m k f : Nat) j, i < n → k + m = i → m < f → (∀ i', k ≤ i' → i' < i → ¬ zcv H ln pb i' (g / H) (g % H) = true) → zcv H ln pb i (g / H) (g % H) = true → fX6_standing_L2 n n r (Int32.ofNat g) v j f (Int32.ofNat k) = j (Int32.ofNat i) := by
    intro i m
    induction m with
    | zero =>
      intro k f j hi hk hf _ hc
      obtain ⟨f, rfl⟩ : ∃ g, f = g + 1 := ⟨f - 1, by omega⟩
      have ek : k = i := by omega
      subst ek
      exact (go k hi f j).1 hc
    | succ m ih =>
      intro k f j hi hk hf hh hc
      obtain ⟨f, rfl⟩ : ∃ g, f = g + 1 := ⟨f - 1, by omega⟩
      rw [(go k (by omega) f j).2 (hh k (by omega) (by omega))]
      exact ih (k + 1) f j hi (by omega) (by omega) (fun i' h1 h2 => hh i' (by omega) h2) hc
  by_cases h0 : zs2 H ln pb n (g / H) (g % H) = 0
  · left
    refine ⟨?_, h0⟩
    have hno : ∀ i, 0 ≤ i → i < n → ¬ zcv H ln pb i (g / H) (g % H) = true := fun i _ hi hc => zs2_cov hc n hi h0
    unfold fX6_standing
    rw [n_let]
    exact walk n 0 1024 _ (by omega) (by omega) hno
  · right
    obtain ⟨i, i1, i2, i3⟩ := zs2_lot (g / H) (g % H) n h0
    refine ⟨i, i1, i2, ?_, i3⟩
    obtain ⟨c1, c2, c3, c4⟩ := zcv_iff.mp i2
    have hd := Nat.div_add_mod g H
    have hpo := zpo_le hn hH (fun j hj => (hl j hj).2) i1 c1
    have hzp : zpo H ln pb i = H * (g / H) + liN H ln pb i := by rw [zpo_eq, c2]
    unfold fX6_standing
    rw [n_let, show (0 : Int32) = Int32.ofNat 0 from rfl, find i i 0 1024 _ i1 (by omega) (by omega) (fun i' _ h2 hc' => by
      have := zcv_uniq i2 hc'
      omega) i2]
    rw [n_rd i1 (by omega), n_cl (by omega), hr i i1, zpl_pos c1, show (10 : Int32) = Int32.ofNat 10 from rfl, ← Int32.ofNat_mul, ← Int32.ofNat_add, n_sub (a := 10 * i + (g % H - liN H ln pb i)) (b := zpo H ln pb i) (by omega)]
end ZLA
