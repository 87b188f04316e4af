/-! ===== statements read ===== -/
abbrev LT : Type := Nat × Nat × Nat × Nat
def lx (ls : List LT) (i : Nat) : LT := ls.getD i (0, 0, 0, 0)
def kpr (k : Nat) : Bool := !decide (k = 1)
def kwa (k : Nat) : Bool := !decide (k = 2)
def g3 (a b c i : Nat) : Nat := if i = 0 then a else if i = 1 then b else c
def kwT (k : Nat) : List Nat := if k = 1 then [32, 105, 110, 59] else if k = 2 then [32, 111, 117, 116, 59] else [59]
def lotT (x : LT) : List Nat := [108, 111, 116] ++ (nums (g3 x.1 x.2.1 x.2.2.1) 3 ++ kwT x.2.2.2)
theorem lx_lo (ls : List LT) (x : LT) {i : Nat} (hi : i < ls.length) : lx (ls ++ [x]) i = lx ls i := by
  unfold lx
  rw [List.getD_eq_getElem?_getD, List.getD_eq_getElem?_getD, List.getElem?_append_left hi]
theorem lx_n (ls : List LT) (x : LT) : lx (ls ++ [x]) ls.length = x := by
  unfold lx
  rw [List.getD_eq_getElem?_getD, List.getElem?_append_right (Nat.le_refl _), Nat.sub_self]
  rfl
/-- the class's loaded bill holds these lots -/
def RB (ls : List LT) (cc : Int32) (li es se p w s : Nat → Int32) : Prop := cc = Int32.ofNat ls.length ∧ (∃ pr wa sl : Nat → Bool, (∀ i, i < 24 → p i = zbi (pr i)) ∧ (∀ i, i < 24 → w i = zbi (wa i)) ∧ (∀ i, i < 24 → s i = zbi (sl i)) ∧ ∀ i, i < ls.length → pr i = kpr (lx ls i).2.2.2 ∧ wa i = kwa (lx ls i).2.2.2 ∧ sl i = false) ∧ ∀ i, i < ls.length → li i = Int32.ofNat (lx ls i).1 ∧ es i = Int32.ofNat (lx ls i).2.1 ∧ se i = Int32.ofNat (lx ls i).2.2.1
theorem zin_nn {α : Type} (g : Nat → α) (n : Nat) (v : α) (i : Nat) : zin g n n v i = if i = n then v else g i := by
  unfold zin
  by_cases e : i = n
  · rw [if_pos e, if_pos e]
  · rw [if_neg e, if_neg e, if_neg (by omega)]
theorem RB_add {ls : List LT} {cc : Int32} {li es se p w s : Nat → Int32} (h : RB ls cc li es se p w s) (x : LT) : RB (ls ++ [x]) (Int32.ofNat (ls.length + 1)) (zin li ls.length ls.length (Int32.ofNat x.1)) (zin es ls.length ls.length (Int32.ofNat x.2.1)) (zin se ls.length ls.length (Int32.ofNat x.2.2.1)) (upd (zin p ls.length ls.length 0) ls.length (zbi (kpr x.2.2.2))) (upd (zin w ls.length ls.length 0) ls.length (zbi (kwa x.2.2.2))) (zin s ls.length ls.length 0) := by
  obtain ⟨h1, ⟨pr, wa, sl, b1, b2, b3, b4⟩, h3⟩ := h
  have hl : (ls ++ [x]).length = ls.length + 1 := by rw [List.length_append]; rfl
  have hb : ∀ (f : Nat → Int32) (g : Nat → Bool) (b : Bool), (∀ i, i < 24 → f i = zbi (g i)) → ∀ i, i < 24 → upd (zin f ls.length ls.length 0) ls.length (zbi b) i = zbi (if i = ls.length then b else g i) := fun f g b hf i hi => by
    by_cases e : i = ls.length
    · rw [if_pos e, e]; exact upd_same
    · rw [if_neg e]
      refine (upd_ne e).trans ?_
      rw [zin_nn, if_neg e]; exact hf i hi
  refine ⟨by rw [hl], ⟨fun i => if i = ls.length then kpr x.2.2.2 else pr i, fun i => if i = ls.length then kwa x.2.2.2 else wa i, fun i => if i = ls.length then false else sl i, hb p pr _ b1, hb w wa _ b2, fun i hi => ?_, fun i hi => ?_⟩, fun i hi => ?_⟩
  · rw [zin_nn]
    by_cases e : i = ls.length
    · simp only [if_pos e]; rfl
    · simp only [if_neg e]; exact b3 i hi
  · rw [hl] at hi
    by_cases e : i = ls.length
    · simp only [if_pos e]
      rw [e, lx_n]
      exact ⟨rfl, rfl, trivial⟩
    · simp only [if_neg e]
      rw [lx_lo ls x (by omega)]
      exact b4 i (by omega)
  · rw [hl] at hi
    rw [zin_nn, zin_nn, zin_nn]
    by_cases e : i = ls.length
    · rw [if_pos e, if_pos e, if_pos e, e, lx_n]
      exact ⟨rfl, rfl, rfl⟩
    · rw [if_neg e, if_neg e, if_neg e, lx_lo ls x (by omega)]
      exact h3 i (by omega)
section ZSTM
variable {ts : List Nat} {bytes : Nat → Int32}
theorem RB_diff {ls : List LT} {cc : Int32} {li es se p w s : Nat → Int32} (h : RB ls cc li es se p w s) (hn : ls.length ≤ 7) : ∃ d : Nat, d < 8 ∧ fX0_differentLots cc p w = some (Int32.ofNat d) := by
  obtain ⟨h1, ⟨pr, wa, sl, b1, b2, b3, b4⟩, h3⟩ := h
  have hle := zct_le (zdfb pr wa) ls.length
  refine ⟨zct (zdfb pr wa) ls.length, by omega, ?_⟩
  rw [h1, e_differentLots (by omega), zsum_ct (zdfb pr wa) ls.length (fun i hi => by
    unfold zdfc zdfb
    rw [b1 i (by omega), b2 i (by omega)]
    cases pr i <;> cases wa i <;> rfl)]
theorem p_lot (hb : RDX ts bytes) {H : Nat} (h4 : 4 ≤ H) (hH : H ≤ 40) {a : Nat} (ha : a < 6000) {ls : List LT} (hn : ls.length ≤ 7) {cc : Int32} {li es se p w s : Nat → Int32} (hr : RB ls cc li es se p w s) {x : LT} (hx : 1 ≤ x.1 ∧ x.1 ≤ 4 ∧ x.2.1 < 100 ∧ x.2.2.1 ≤ 9) {r : List Nat} (h : ts.drop a = lotT x ++ r) (ea : Int32) :
    ∃ a' cc' li' es' se' p' w' s', fX4_readLot ea bytes (Int32.ofNat ts.length) (Int32.ofNat a) 0 (Int32.ofNat H) cc li es se p w s = some (ea, Int32.ofNat a', 0, cc', li', es', se', p', w', s') ∧ a' < a + 20 ∧ ts.drop a' = 59 :: r ∧ RB (ls ++ [x]) cc' li' es' se' p' w' s' := by
  obtain ⟨x1, x2, x3, k⟩ := x
  obtain ⟨hx1, hx2, hx3, hx4⟩ := hx
  have hx1 : 1 ≤ x1 := hx1
  have hx2 : x1 ≤ 4 := hx2
  have hx3 : x2 < 100 := hx3
  have hx4 : x3 ≤ 9 := hx4
  have hcc : cc = Int32.ofNat ls.length := hr.1
  have hadd := RB_add hr (x1, x2, x3, k)
  obtain ⟨d, hd8, hdl⟩ := RB_diff hr hn
  obtain ⟨-, ⟨pr, wa, sl, b1, b2, b3, -⟩, -⟩ := id hr
  have hins := c_insert (li := li) (es := es) (se := se) (show ls.length < 24 by omega) b1 b2 b3 (Nat.le_refl ls.length) (Int32.ofNat x1) (Int32.ofNat x2) (Int32.ofNat x3)
  have h0 : ts.drop a = [108, 111, 116] ++ (32 :: (dg x1 ++ 32 :: (dg x2 ++ 32 :: (dg x3 ++ (kwT k ++ r))))) := by
    rw [h]
    show [108, 111, 116] ++ (nums (g3 x1 x2 x3) 3 ++ kwT k) ++ r = _
    have e : nums (g3 x1 x2 x3) 3 = 32 :: dg x1 ++ (32 :: dg x2 ++ (32 :: dg x3)) := by
      show [] ++ 32 :: dg (g3 x1 x2 x3 0) ++ 32 :: dg (g3 x1 x2 x3 1) ++ 32 :: dg (g3 x1 x2 x3 2) = _
      rw [show g3 x1 x2 x3 0 = x1 from rfl, show g3 x1 x2 x3 1 = x2 from rfl, show g3 x1 x2 x3 2 = x3 from rfl]
      simp only [List.append_assoc, List.cons_append, List.nil_append]
    rw [e]
    simp only [List.append_assoc, List.cons_append, List.nil_append]
  have h1 := drop_w [108, 111, 116] h0
  have h1 : ts.drop (a + 3) = 32 :: (dg x1 ++ 32 :: (dg x2 ++ 32 :: (dg x3 ++ (kwT k ++ r)))) := h1
  have dl1 := dg_len x1
  have dl2 := dg_len x2
  have dl3 := dg_len x3
  have hml := c_mostLines hH
  obtain ⟨u1, v1⟩ := p_num (lo := 1) (hi := if H < 9 then H else 9) hb (show a + 3 < 8000 by omega) h1 (dig_0 _).1 (by omega) hx1 (by split <;> omega) (by split <;> omega) ea
  obtain ⟨u2, v2⟩ := p_num (lo := 0) (hi := 9999) hb (show a + 3 + 1 + (dg x1).length < 8000 by omega) v1 (dig_0 _).1 hx3 (by omega) (by omega) (by omega) ea
  have hk0 : fX4_isDigit (tb (kwT k ++ r)) = some 0 := by
    unfold kwT
    split
    · exact (dig_0 _).1
    · split
      · exact (dig_0 _).1
      · exact (dig_0 _).2
  obtain ⟨u3, v3⟩ := p_num (lo := 0) (hi := 9) hb (show a + 3 + 1 + (dg x1).length + 1 + (dg x2).length < 8000 by omega) v2 hk0 (by omega) (by omega) hx4 (by omega) ea
  obtain ⟨a3, ha3⟩ : ∃ a3, a3 = a + 3 + 1 + (dg x1).length + 1 + (dg x2).length + 1 + (dg x3).length := ⟨_, rfl⟩
  rw [← ha3] at u3 v3
  have nb : ∀ b : Bool, vp_nar .boolean (zbi b) = zbi b := vp_narB
  -- the words behind the numbers, and what they make of the lot
  have body : ∀ (o i : Bool) (a4 : Nat) (sk : Nat), fX4_nextIsWord [111, 117, 116] bytes (Int32.ofNat ts.length) (Int32.ofNat a3) = some (zbi o, Int32.ofNat a4) → fX4_nextIsWord [105, 110] bytes (Int32.ofNat ts.length) (Int32.ofNat a4) = some (zbi i, Int32.ofNat a4) → kpr k = !i → kwa k = !o → sk = (if o = true then 3 else if i = true then 2 else 0) → ts.drop (a4 + sk) = 59 :: r → a4 + sk < a + 20 → ∃ a' cc' li' es' se' p' w' s', fX4_readLot ea bytes (Int32.ofNat ts.length) (Int32.ofNat a) 0 (Int32.ofNat H) cc li es se p w s = some (ea, Int32.ofNat a', 0, cc', li', es', se', p', w', s') ∧ a' < a + 20 ∧ ts.drop a' = 59 :: r ∧ RB (ls ++ [(x1, x2, x3, k)]) cc' li' es' se' p' w' s' := fun o i a4 sk w1 w2 hkp hkw hsk hd hlt => by
    refine ⟨a4 + sk, _, _, _, _, _, _, _, ?_, hlt, hd, hadd⟩
    unfold fX4_readLot
    rw [hcc]
    refine w_pos ((n_lt (b := 24) (by omega) (by omega)).mpr (by omega)) ?_
    refine w_letE (show Int32.ofNat a + 3 = Int32.ofNat (a + 3) from (Int32.ofNat_add a 3).symm) ?_
    refine w_bind hml ?_
    refine w_bind u1 ?_
    refine w_bind u2 ?_
    refine w_bind u3 ?_
    refine w_bind w1 ?_
    refine w_bind w2 ?_
    refine w_join (fun j => j ea 0 = some (ea, Int32.ofNat (a4 + sk), 0, Int32.ofNat (ls.length + 1), zin li ls.length ls.length (Int32.ofNat x1), zin es ls.length ls.length (Int32.ofNat x2), zin se ls.length ls.length (Int32.ofNat x3), upd (zin p ls.length ls.length 0) ls.length (zbi (kpr k)), upd (zin w ls.length ls.length 0) ls.length (zbi (kwa k)), zin s ls.length ls.length 0)) ?_ (fun jE hE => ?_)
    · refine w_pos rfl ?_
      refine w_join (fun j => j (Int32.ofNat sk) = some (ea, Int32.ofNat (a4 + sk), 0, Int32.ofNat (ls.length + 1), zin li ls.length ls.length (Int32.ofNat x1), zin es ls.length ls.length (Int32.ofNat x2), zin se ls.length ls.length (Int32.ofNat x3), upd (zin p ls.length ls.length 0) ls.length (zbi (kpr k)), upd (zin w ls.length ls.length 0) ls.length (zbi (kwa k)), zin s ls.length ls.length 0)) ?_ (fun jE hE => ?_)
      · refine w_letE (Int32.ofNat_add a4 sk).symm ?_
        refine w_bind hins ?_
        refine w_join (fun j => j (zbi (kpr k)) = some (ea, Int32.ofNat (a4 + sk), 0, Int32.ofNat (ls.length + 1), zin li ls.length ls.length (Int32.ofNat x1), zin es ls.length ls.length (Int32.ofNat x2), zin se ls.length ls.length (Int32.ofNat x3), upd (zin p ls.length ls.length 0) ls.length (zbi (kpr k)), upd (zin w ls.length ls.length 0) ls.length (zbi (kwa k)), zin s ls.length ls.length 0)) ?_ (fun jE hE => ?_)
        · refine w_rd rfl (show ls.length < 24 by omega) (by omega) ?_
          refine w_letE (show upd (zin p ls.length ls.length 0) (Int32.ofNat ls.length).toNatClampNeg (vp_nar .boolean (zbi (kpr k))) = upd (zin p ls.length ls.length 0) ls.length (zbi (kpr k)) from by rw [n_cl (by omega), nb]) ?_
          refine w_join (fun j => j (zbi (kwa k)) = some (ea, Int32.ofNat (a4 + sk), 0, Int32.ofNat (ls.length + 1), zin li ls.length ls.length (Int32.ofNat x1), zin es ls.length ls.length (Int32.ofNat x2), zin se ls.length ls.length (Int32.ofNat x3), upd (zin p ls.length ls.length 0) ls.length (zbi (kpr k)), upd (zin w ls.length ls.length 0) ls.length (zbi (kwa k)), zin s ls.length ls.length 0)) ?_ (fun jE hE => ?_)
          · refine w_rd rfl (show ls.length < 24 by omega) (by omega) ?_
            exact w_letE (show upd (zin w ls.length ls.length 0) (Int32.ofNat ls.length).toNatClampNeg (vp_nar .boolean (zbi (kwa k))) = upd (zin w ls.length ls.length 0) ls.length (zbi (kwa k)) from by rw [n_cl (by omega), nb]) rfl
          · rw [hkw] at hE ⊢
            cases o
            · exact w_pos rfl hE
            · exact w_neg (by decide) hE
        · rw [hkp] at hE ⊢
          cases i
          · exact w_pos rfl hE
          · exact w_neg (by decide) hE
      · cases o
        · refine w_pos rfl ?_
          cases i
          · rw [hsk] at hE
            rw [hsk]
            exact w_pos rfl hE
          · rw [hsk] at hE
            rw [hsk]
            exact w_neg (by decide) hE
        · rw [hsk] at hE
          rw [hsk]
          exact w_neg (by decide) hE
    · refine w_join (fun j => j = some (ea, Int32.ofNat (a4 + sk), 0, Int32.ofNat (ls.length + 1), zin li ls.length ls.length (Int32.ofNat x1), zin es ls.length ls.length (Int32.ofNat x2), zin se ls.length ls.length (Int32.ofNat x3), upd (zin p ls.length ls.length 0) ls.length (zbi (kpr k)), upd (zin w ls.length ls.length 0) ls.length (zbi (kwa k)), zin s ls.length ls.length 0)) ?_ (fun jD hD => ?_)
      · refine w_bind (by rw [← hcc]; exact hdl) ?_
        exact w_pos ((n_lt (b := 8) (by omega) (by omega)).mpr hd8) hE
      · cases o
        · refine w_pos rfl ?_
          cases i
          · exact w_pos rfl hE
          · exact w_neg (by decide) hD
        · exact w_neg (by decide) hD
  have small : ∀ c, c ∈ [111, 117, 116] → c < 128 := by decide
  have small2 : ∀ c, c ∈ [105, 110] → c < 128 := by decide
  by_cases k1 : k = 1
  · have v3 : ts.drop a3 = 32 :: 105 :: 110 :: 59 :: r := by rw [v3]; unfold kwT; rw [if_pos k1]; rfl
    have n1 := p_next1 hb (show a3 < 9999 by omega) v3 (tb_nc (c := 105) (d := 32) rfl)
    have n2 := p_next hb (show a3 + 1 < 10000 by omega) (drop_s v3) (tb_nc (c := 105) (d := 32) rfl)
    have e1 := p_word0 hb (show a3 + 1 < 9000 by omega) n1 (drop_s v3) (c := 111) (w := [117, 116]) (by omega) (by decide) (tb_nc (c := 105) (d := 111) rfl)
    have e2 := p_word hb (show a3 + 1 < 9000 by omega) n2 (w := [105, 110]) (r := 59 :: r) (drop_s v3) small2 (by decide) (let_0 r).2
    exact body false true (a3 + 1) 2 e1 e2 (by rw [k1]; rfl) (by rw [k1]; rfl) rfl (drop_s (drop_s (drop_s v3))) (by omega)
  · by_cases k2 : k = 2
    · have v3 : ts.drop a3 = 32 :: 111 :: 117 :: 116 :: 59 :: r := by rw [v3]; unfold kwT; rw [if_neg k1, if_pos k2]; rfl
      have n1 := p_next1 hb (show a3 < 9999 by omega) v3 (tb_nc (c := 111) (d := 32) rfl)
      have n2 := p_next hb (show a3 + 1 < 10000 by omega) (drop_s v3) (tb_nc (c := 111) (d := 32) rfl)
      have e1 := p_word hb (show a3 + 1 < 9000 by omega) n1 (w := [111, 117, 116]) (r := 59 :: r) (drop_s v3) small (by decide) (let_0 r).2
      have e2 := p_word0 hb (show a3 + 1 < 9000 by omega) n2 (drop_s v3) (c := 105) (w := [110]) (by omega) (by decide) (tb_nc (c := 111) (d := 105) rfl)
      exact body true false (a3 + 1) 3 e1 e2 (by rw [k2]; rfl) (by rw [k2]; rfl) rfl (drop_s (drop_s (drop_s (drop_s v3)))) (by omega)
    · have v3 : ts.drop a3 = 59 :: r := by rw [v3]; unfold kwT; rw [if_neg k1, if_neg k2]; rfl
      have n1 := p_next hb (show a3 < 10000 by omega) v3 (tb_nc (c := 59) (d := 32) rfl)
      have e1 := p_word0 hb (show a3 < 9000 by omega) n1 v3 (c := 111) (w := [117, 116]) (by omega) (by decide) (tb_nc (c := 59) (d := 111) rfl)
      have e2 := p_word0 hb (show a3 < 9000 by omega) n1 v3 (c := 105) (w := [110]) (by omega) (by decide) (tb_nc (c := 59) (d := 105) rfl)
      exact body false false a3 0 e1 e2 (by unfold kpr; rw [decide_eq_false k1]) (by unfold kwa; rw [decide_eq_false k2]) rfl v3 (by omega)
end ZSTM
