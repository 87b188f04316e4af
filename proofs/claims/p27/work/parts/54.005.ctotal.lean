section ZCT
variable {H n m : Nat} {ln : Nat → Nat} {pr wa sl : Nat → Bool} {hh cc rr ac dc : Int32} {co es se d li p w s lots : Nat → Int32}
theorem c_slips {m : Nat} (h1 : 1 ≤ m) (h2 : m ≤ 9) (e : Int32) : fX1_slipsFor e (Int32.ofNat m) = some ((e + Int32.ofNat m - 1) / Int32.ofNat m) := by
  have hm0 : ¬ Int32.ofNat m = 0 := fun e => by
    have := (n_eq (b := 0) (by omega) (by omega)).mp e
    omega
  unfold fX1_slipsFor
  rw [if_pos (show (1 : Int32) ≤ Int32.ofNat m from (n_le (a := 1) (by omega) (by omega)).mpr h1), n_as hm0]
/-- what the class measures of a choice -/
theorem c_measure (hw : NW H n m ln pr wa) (hb : BV H n m ln pr wa sl hh cc rr li p w s) (hc : CV n pr wa lots dc) {no pg l us lo fi : Nat → Int32} {P K T : Int32} (hy : YOK H ln pr n (no, pg, l, us, lo, fi, P, K, T)) (x : Int32) (fg vno vpg vl vus vlo vfi : Nat → Int32) (vP vK vT : Int32) (pb ch : Nat → Int32) :
    ∃ f' a b c e g h i j k q r, fX1_measure x lots fg dc vno vpg vl vus vlo vfi vP vK vT pb ch hh cc rr co li p w s no pg l us P = some (f', a, b, c, e, g, h, i, j, k, q, r) ∧ ∀ k, k < 7 → f' k = zfig H n m ln pr wa sl co x k := by
  obtain ⟨w1, w2, w3, w4, w5, w6, w7⟩ := id hw
  obtain ⟨b1, b2, b3, b4, b5, b6, b7⟩ := id hb
  obtain ⟨z1, z2⟩ := zg25_end hw hb hc x (upd fg (5 : Int32).toNatClampNeg 0) (va_cpy p pb 0 0 24) upd_same (fun i hi => by
    unfold va_cpy
    rw [if_pos ⟨Nat.zero_le _, by omega⟩, Nat.zero_add, Nat.sub_zero, b5 i hi])
  unfold fX1_measure
  rw [n_let, c_L3 p (o_bo_of b5), n_let, n_let, c_L25 hw hb hc x]
  generalize (zfold (zg25 lots w s x) 0 (zct (zdfb pr wa) n) (upd fg (5 : Int32).toNatClampNeg 0, va_cpy p pb 0 0 24)).1 = fa at *
  generalize (zfold (zg25 lots w s x) 0 (zct (zdfb pr wa) n) (upd fg (5 : Int32).toNatClampNeg 0, va_cpy p pb 0 0 24)).2 = pa at *
  subst b1 b2 b3
  obtain ⟨⟨a, b, c, e, g, h, i, j, k⟩, y1, y2⟩ := e_lay3 (H := H) (n := n) (ln := ln) (pr := zprB pr wa x) (r := pa) (lines := li) w2 w3 (fun i hi => ⟨b4 i hi, (w6 i hi).2.2⟩) (fun i hi => by rw [z2 i hi, zbi_0]) vno vpg vl vus vlo vfi vP vK vT
  rw [y2, n_bind]
  have hP1 := (zP_le H ln pr n).1
  have hP2 := (zP_le H ln (zprB pr wa x) n).1
  have hM : zMx H n ln pr wa x ≤ 24 := by unfold zMx; split <;> omega
  have i1 : i = Int32.ofNat (zP H ln (zprB pr wa x) n) := y1.2.2.2.1
  have i2 : P = Int32.ofNat (zP H ln pr n) := hy.2.2.2.1
  have i3 : (if P < i then i else P) = Int32.ofNat (zMx H n ln pr wa x) := by
    rw [i1, i2]
    unfold zMx
    by_cases e : zP H ln pr n < zP H ln (zprB pr wa x) n
    · rw [if_pos e, if_pos ((n_lt (by omega) (by omega)).mpr e)]
    · rw [if_neg e, if_neg (fun h => e ((n_lt (by omega) (by omega)).mp h))]
  obtain ⟨q, q1, q2⟩ := e_findChanged w2 w3 hM (lines := li) (fun i hi => ⟨b4 i hi, w6 i hi⟩) hy y1 ch
  simp only [i3]
  show ∃ f' a' b' c' e' g' h' i' j' k' q' r', o_let _ _ = _ ∧ _
  rw [n_let, q1, n_bind, e_countChanged hM (zchg H ln pr (zprB pr wa x) n) q fa (fun p hp => ⟨q2 p hp, Nat.le_trans (zct_le _ _) w2⟩), n_bind]
  have e5 : (upd (upd (upd fa 1 (zX (zchg H ln pr (zprB pr wa x) n) (zMx H n ln pr wa x)).1) 2 (zX (zchg H ln pr (zprB pr wa x) n) (zMx H n ln pr wa x)).2.1) 3 (zX (zchg H ln pr (zprB pr wa x) n) (zMx H n ln pr wa x)).2.2.1) (5 : Int32).toNatClampNeg = Int32.ofNat (zent pr wa sl x n) := z1
  rw [e5, c_slips w4 w5, n_bind, n_let, n_let, n_let]
  refine ⟨_, a, b, c, e, g, h, i, j, k, _, _, rfl, ?_⟩
  intro y hy
  match y, hy with
  | 0, _ => 
    refine upd_same.trans ?_
    show ((((zXx H n ln pr wa x).1 * co 0 + (zXx H n ln pr wa x).2.1 * co 1) + (zXx H n ln pr wa x).2.2.1 * co 2) + zsl n m pr wa sl x * co 3) + fa 5 * co 4 = zcost H n m ln pr wa sl co x
    rw [z1]
    rfl
  | 1, _ => rfl
  | 2, _ => rfl
  | 3, _ => rfl
  | 4, _ => rfl
  | 5, _ => exact z1
  | 6, _ => exact i1
end ZCT
