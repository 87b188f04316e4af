/-! ===== a text read, and the law's random bill ===== -/
section ZLD5
variable {ts : List Nat} {bytes : Nat → Int32} {j : Int32 → Int32 → Int32 → Int32 → Int32 → Int32 → Int32 → (Nat → Int32) → (Nat → Int32) → (Nat → Int32) → (Nat → Int32) → (Nat → Int32) → (Nat → Int32) → (Nat → Int32) → Option (Int32 × Int32 × Int32 × Int32 × Int32 × Int32 × Int32 × Int32 × Int32 × Int32 × Int32 × Int32 × (Nat → Int32) × (Nat → Int32) × (Nat → Int32) × (Nat → Int32) × (Nat → Int32) × (Nat → Int32) × (Nat → Int32))} {H : Nat} {ea : Int32}
theorem p_step (hb : RDX ts bytes) {a a1 k : Nat} (hk : k < 500) (ha : a < 8000) (ha1 : a1 < 8000) {r r1 : List Nat} (h : ts.drop a = r) (hr : ¬ tb r = 32) (hr2 : ¬ tb r = -1) {cr sr cr' sr' cc rr cc' rr' : Int32} {co li es se p w s co' li' es' se' p' w' s' : Nat → Int32} (hs : fX4_readStatement ea bytes (Int32.ofNat ts.length) (Int32.ofNat a) 0 cr sr (Int32.ofNat H) cc rr co li es se p w s = some (ea, Int32.ofNat a1, 0, cr', sr', cc', rr', co', li', es', se', p', w', s')) (h1 : ts.drop a1 = 59 :: r1) (f : Nat) :
    fX4_readInto_L16 j bytes (Int32.ofNat ts.length) (Int32.ofNat H) (f + 1) (Int32.ofNat k) ea (Int32.ofNat a) 0 cr sr cc rr co li es se p w s = fX4_readInto_L16 j bytes (Int32.ofNat ts.length) (Int32.ofNat H) f (Int32.ofNat (k + 1)) ea (Int32.ofNat (a1 + 1)) 0 cr' sr' cc' rr' co' li' es' se' p' w' s' := by
  rw [fX4_readInto_L16]
  refine w_neg (fun hh => by have := (n_le (a := 500) (by omega) (by omega)).mp hh; omega) (w_pos rfl ?_)
  refine w_bind (p_next hb (by omega) h hr) ?_
  refine w_neg hr2 (w_bind hs ?_)
  refine w_bind (p_semi hb (by omega) h1 ea 0) ?_
  exact w_letE (n_s k) rfl
theorem small_lot : ∀ c, c ∈ [108, 111, 116] → c < 128 := by decide
theorem small_costs : ∀ c, c ∈ [99, 111, 115, 116, 115] → c < 128 := by decide
theorem small_slip : ∀ c, c ∈ [115, 108, 105, 112] → c < 128 := by decide
theorem small_bill : ∀ c, c ∈ [98, 105, 108, 108] → c < 128 := by decide
theorem nums_let (g : Nat → Nat) (m : Nat) (r : List Nat) : fX4_isLetter (tb (nums g (m + 1) ++ r)) = some 0 := by
  have : ∀ (m : Nat) (r : List Nat), ∃ r', nums g (m + 1) ++ r = 32 :: r' := fun m => by
    induction m with
    | zero => exact fun r => ⟨dg (g 0) ++ r, by show [] ++ 32 :: dg (g 0) ++ r = _; simp only [List.nil_append, List.cons_append]⟩
    | succ m ih =>
      intro r
      obtain ⟨r', hr'⟩ := ih (32 :: dg (g (m + 1)) ++ r)
      exact ⟨r', by rw [← hr']; show nums g (m + 1) ++ 32 :: dg (g (m + 1)) ++ r = _; rw [List.append_assoc]⟩
  obtain ⟨r', hr'⟩ := this m r
  rw [hr']
  exact (let_0 r').1
theorem p_stmt_lot (hb : RDX ts bytes) (h4 : 4 ≤ H) (hH : H ≤ 40) {a : Nat} (ha : a < 6000) {ls : List LT} (hn : ls.length ≤ 7) {cc rr cr sr : Int32} {co li es se p w s : Nat → Int32} (hr : RB ls cc li es se p w s) {x : LT} (hx : 1 ≤ x.1 ∧ x.1 ≤ 4 ∧ x.2.1 < 100 ∧ x.2.2.1 ≤ 9) {r : List Nat} (h : ts.drop a = lotT x ++ r) :
    ∃ a' cc' li' es' se' p' w' s', fX4_readStatement ea bytes (Int32.ofNat ts.length) (Int32.ofNat a) 0 cr sr (Int32.ofNat H) cc rr co li es se p w s = some (ea, Int32.ofNat a', 0, cr, sr, cc', rr, co, li', es', se', p', w', s') ∧ a' < a + 20 ∧ ts.drop a' = 59 :: r ∧ RB (ls ++ [x]) cc' li' es' se' p' w' s' := by
  obtain ⟨a', cc', li', es', se', p', w', s', e1, e2, e3, e4⟩ := p_lot hb h4 hH ha hn hr hx h ea
  refine ⟨a', cc', li', es', se', p', w', s', ?_, e2, e3, e4⟩
  have hd : ts.drop a = [108, 111, 116] ++ (nums (g3 x.1 x.2.1 x.2.2.1) 3 ++ (kwT x.2.2.2 ++ r)) := by
    rw [h]; unfold lotT; simp only [List.append_assoc]
  have hw1 := p_word hb (show a < 9000 by omega) (p_next hb (by omega) hd (tb_nc (c := 108) (d := 32) rfl)) hd small_lot (by decide) (nums_let _ 2 _)
  unfold fX4_readStatement
  refine w_bind hw1 ?_
  refine w_neg (by decide) ?_
  exact w_bind e1 rfl
theorem p_stmt_costs (hb : RDX ts bytes) {a : Nat} (ha : a < 6000) {g : Nat → Nat} (hg : ∀ i, i < 5 → g i < 100) {cc rr sr : Int32} {co li es se p w s : Nat → Int32} {r : List Nat} (h : ts.drop a = [99, 111, 115, 116, 115] ++ (nums g 5 ++ 59 :: r)) :
    ∃ a' co', fX4_readStatement ea bytes (Int32.ofNat ts.length) (Int32.ofNat a) 0 0 sr (Int32.ofNat H) cc rr co li es se p w s = some (ea, Int32.ofNat a', 0, 1, sr, cc, rr, co', li, es, se, p, w, s) ∧ a' < a + 21 ∧ ts.drop a' = 59 :: r ∧ ∀ k, k < 5 → co' k = Int32.ofNat (g k) := by
  obtain ⟨co', e1, e2, e3⟩ := p_costs hb (show a < 7000 by omega) hg h ea 0 co
  have hnl := nums_len g 5
  refine ⟨a + 5 + (nums g 5).length, co', ?_, by omega, e3, e2⟩
  have hn := p_next hb (show a < 10000 by omega) h (tb_nc (c := 99) (d := 32) rfl)
  have hw1 := p_word0 hb (show a < 9000 by omega) hn h (c := 108) (w := [111, 116]) (by omega) (by decide) (tb_nc (c := 99) (d := 108) rfl)
  have hw2 := p_word hb (show a < 9000 by omega) hn h small_costs (by decide) (nums_let _ 4 _)
  unfold fX4_readStatement
  refine w_bind hw1 ?_
  refine w_pos rfl ?_
  refine w_bind hw2 ?_
  refine w_join (fun _ => True) trivial (fun j _ => ?_)
  refine w_neg (by decide) (w_pos rfl ?_)
  exact w_bind e1 rfl
theorem p_stmt_slip (hb : RDX ts bytes) {a v : Nat} (ha : a < 6000) (h1 : 1 ≤ v) (h9 : v ≤ 9) {cc rr cr : Int32} {co li es se p w s : Nat → Int32} {r : List Nat} (h : ts.drop a = [115, 108, 105, 112] ++ (32 :: (dg v ++ 59 :: r))) :
    ∃ a', fX4_readStatement ea bytes (Int32.ofNat ts.length) (Int32.ofNat a) 0 cr 0 (Int32.ofNat H) cc rr co li es se p w s = some (ea, Int32.ofNat a', 0, cr, 1, cc, Int32.ofNat v, co, li, es, se, p, w, s) ∧ a' < a + 10 ∧ ts.drop a' = 59 :: r := by
  have hd := drop_w [115, 108, 105, 112] h
  have hd : ts.drop (a + 4) = 32 :: (dg v ++ 59 :: r) := hd
  have dl := dg_len v
  obtain ⟨e1, e2⟩ := p_num (lo := 1) (hi := 9) hb (show a + 4 < 8000 by omega) hd (dig_0 _).2 (by omega) h1 h9 (by omega) ea
  refine ⟨a + 4 + 1 + (dg v).length, ?_, by omega, e2⟩
  have hn := p_next hb (show a < 10000 by omega) h (tb_nc (c := 115) (d := 32) rfl)
  have hw1 := p_word0 hb (show a < 9000 by omega) hn h (c := 108) (w := [111, 116]) (by omega) (by decide) (tb_nc (c := 115) (d := 108) rfl)
  have hw2 := p_word0 hb (show a < 9000 by omega) hn h (c := 99) (w := [111, 115, 116, 115]) (by omega) (by decide) (tb_nc (c := 115) (d := 99) rfl)
  have hw3 := p_word hb (show a < 9000 by omega) hn h small_slip (by decide) (let_0 _).1
  unfold fX4_readStatement fX4_readSlip
  refine w_bind hw1 ?_
  refine w_pos rfl ?_
  refine w_bind hw2 ?_
  refine w_join (fun j => j = some (ea, Int32.ofNat (a + 4 + 1 + (dg v).length), 0, cr, 1, cc, Int32.ofNat v, co, li, es, se, p, w, s)) ?_ (fun j hj => w_pos rfl hj)
  refine w_bind hw3 ?_
  refine w_join (fun _ => True) trivial (fun j _ => ?_)
  refine w_neg (by decide) (w_pos rfl ?_)
  refine w_bind (a := (ea, Int32.ofNat (a + 4 + 1 + (dg v).length), 0, 1, Int32.ofNat v)) ?_ rfl
  refine w_letE (show Int32.ofNat a + 4 = Int32.ofNat (a + 4) from (Int32.ofNat_add a 4).symm) ?_
  exact w_bind e1 rfl
/-- the lots of a text, one behind another -/
def lotsT : List LT → List Nat
  | [] => []
  | x :: xs => lotT x ++ lotsT xs
theorem p_loop_lots (hb : RDX ts bytes) (h4 : 4 ≤ H) (hH : H ≤ 40) : ∀ (xs ls : List LT) (a k f : Nat) (cc rr cr sr : Int32) (co li es se p w s : Nat → Int32) (r : List Nat), k + xs.length < 400 → a + 21 * xs.length < 5000 → ls.length + xs.length ≤ 8 → (∀ x, x ∈ xs → 1 ≤ x.1 ∧ x.1 ≤ 4 ∧ x.2.1 < 100 ∧ x.2.2.1 ≤ 9) → RB ls cc li es se p w s → ts.drop a = lotsT xs ++ r →
    ∃ a' cc' li' es' se' p' w' s', fX4_readInto_L16 j bytes (Int32.ofNat ts.length) (Int32.ofNat H) (f + xs.length) (Int32.ofNat k) ea (Int32.ofNat a) 0 cr sr cc rr co li es se p w s = fX4_readInto_L16 j bytes (Int32.ofNat ts.length) (Int32.ofNat H) f (Int32.ofNat (k + xs.length)) ea (Int32.ofNat a') 0 cr sr cc' rr co li' es' se' p' w' s' ∧ a' ≤ a + 21 * xs.length ∧ ts.drop a' = r ∧ RB (ls ++ xs) cc' li' es' se' p' w' s'
  | [], ls, a, k, f, cc, rr, cr, sr, co, li, es, se, p, w, s, r, hk, ha, hn, hx, hr, h => ⟨a, cc, li, es, se, p, w, s, rfl, by omega, h, by rw [List.append_nil]; exact hr⟩
  | x :: xs, ls, a, k, f, cc, rr, cr, sr, co, li, es, se, p, w, s, r, hk, ha, hn, hx, hr, h => by
    rw [List.length_cons] at hk ha hn
    have h' : ts.drop a = lotT x ++ (lotsT xs ++ r) := by
      rw [h]; show lotT x ++ lotsT xs ++ r = _; rw [List.append_assoc]
    obtain ⟨a1, cc1, li1, es1, se1, p1, w1, s1, e1, e2, e3, e4⟩ := p_stmt_lot (ea := ea) (rr := rr) (cr := cr) (sr := sr) (co := co) hb h4 hH (show a < 6000 by omega) (show ls.length ≤ 7 by omega) hr (hx x (List.mem_cons_self)) h'
    have st := p_step (j := j) hb (k := k) (by omega) (show a < 8000 by omega) (show a1 < 8000 by omega) h' (by show ¬ Int32.ofNat 108 = 32; decide) (by show ¬ Int32.ofNat 108 = -1; decide) e1 e3 (f + xs.length)
    obtain ⟨a2, cc2, li2, es2, se2, p2, w2, s2, q1, q2, q3, q4⟩ := p_loop_lots hb h4 hH xs (ls ++ [x]) (a1 + 1) (k + 1) f cc1 rr cr sr co li1 es1 se1 p1 w1 s1 r (by omega) (by omega) (by rw [List.length_append]; show ls.length + 1 + xs.length ≤ 8; omega) (fun y hy => hx y (List.mem_cons_of_mem _ hy)) e4 (drop_s e3)
    refine ⟨a2, cc2, li2, es2, se2, p2, w2, s2, ?_, by rw [List.length_cons]; omega, q3, by rw [List.append_assoc] at q4; exact q4⟩
    rw [List.length_cons, show f + (xs.length + 1) = f + xs.length + 1 by omega, show k + (xs.length + 1) = k + 1 + xs.length by omega]
    exact st.trans q1
theorem p_loop_end (hb : RDX ts bytes) {a k f : Nat} (hk : k < 500) (ha : a < 8000) (h : ts.drop a = []) {cc rr cr sr : Int32} {co li es se p w s : Nat → Int32} : fX4_readInto_L16 j bytes (Int32.ofNat ts.length) (Int32.ofNat H) (f + 1) (Int32.ofNat k) ea (Int32.ofNat a) 0 cr sr cc rr co li es se p w s = j ea (Int32.ofNat a) 0 cr sr cc rr co li es se p w s := by
  rw [fX4_readInto_L16]
  refine w_neg (fun hh => by have := (n_le (a := 500) (by omega) (by omega)).mp hh; omega) (w_pos rfl ?_)
  refine w_bind (p_next hb (by omega) h (by decide)) ?_
  exact w_pos rfl rfl
end ZLD5
def costsT (cg : Option (Nat → Nat)) : List Nat := match cg with
  | none => []
  | some g => [99, 111, 115, 116, 115] ++ (nums g 5 ++ [59])
def slipT (sv : Option Nat) : List Nat := match sv with
  | none => []
  | some v => [115, 108, 105, 112] ++ (32 :: (dg v ++ [59]))
def costsF (cg : Option (Nat → Nat)) (k : Nat) : Int32 := match cg with
  | none => zCosts k
  | some g => Int32.ofNat (g k)
/-- the text of a bill -/
def billT (H : Nat) (xs : List LT) (cg : Option (Nat → Nat)) (sv : Option Nat) : List Nat := [98, 105, 108, 108] ++ (32 :: (dg H ++ 59 :: (lotsT xs ++ (costsT cg ++ slipT sv))))
theorem p_into {bytes : Nat → Int32} {H : Nat} {xs : List LT} {cg : Option (Nat → Nat)} {sv : Option Nat} {ts : List Nat} (hts : ts = billT H xs cg sv) (hb : RDX ts bytes) (h4 : 4 ≤ H) (hH : H ≤ 11) (hxl : xs.length ≤ 8) (hx : ∀ x, x ∈ xs → 1 ≤ x.1 ∧ x.1 ≤ 4 ∧ x.2.1 < 100 ∧ x.2.2.1 ≤ 9) (hcg : ∀ g, cg = some g → ∀ i, i < 5 → g i < 100) (hsv : ∀ v, sv = some v → 1 ≤ v ∧ v ≤ 9) {z : Nat} (hz : ts.length ≤ z) (hz5 : z ≤ 500) (e1 l1 a1 r1 c1 s1 oh oc orr oa : Int32) (oco oli oes ose op ow os : Nat → Int32) (hbo : RB [] 0 oli oes ose op ow os) :
    ∃ at' cr sr cc co li es se p w s, fX4_readInto (Int32.ofNat ts.length) (Int32.ofNat z) e1 bytes l1 a1 r1 c1 s1 oh oc orr oa oco oli oes ose op ow os = some (0, 0, -1, Int32.ofNat ts.length, at', 0, cr, sr, Int32.ofNat H, cc, Int32.ofNat (sv.getD 3), 0, co, li, es, se, p, w, s) ∧ RB xs cc li es se p w s ∧ ∀ k, k < 5 → co k = costsF cg k := by
  have hL := hb.1
  have h0 : ts.drop 0 = billT H xs cg sv := by rw [List.drop_zero]; exact hts
  have hn0 := p_next hb (a := 0) (by omega) h0 (by show ¬ Int32.ofNat 98 = 32; decide)
  have hw0 := p_word hb (a := 0) (by omega) hn0 (w := [98, 105, 108, 108]) h0 small_bill (by decide) (let_0 _).1
  have hd0 := drop_w [98, 105, 108, 108] (show ts.drop 0 = [98, 105, 108, 108] ++ _ from h0)
  have hd0 : ts.drop 4 = 32 :: (dg H ++ 59 :: (lotsT xs ++ (costsT cg ++ slipT sv))) := hd0
  have dl := dg_len H
  obtain ⟨n1, n2⟩ := p_num (lo := 4) (hi := 40) hb (a := 4) (by omega) hd0 (dig_0 _).2 (by omega) h4 (by omega) (by omega) (-1)
  have n3 := p_semi hb (a := 4 + 1 + (dg H).length) (by omega) n2 (-1) 0
  have hd1 := drop_s n2
  obtain ⟨A, hA⟩ : ∃ A, A = 4 + 1 + (dg H).length + 1 := ⟨_, rfl⟩
  rw [← hA] at n3 hd1
  have hbeg : fX4_begin (Int32.ofNat ts.length) (Int32.ofNat z) e1 l1 a1 r1 c1 s1 = some (-1, Int32.ofNat ts.length, 0, 0, 0, 0) := by
    unfold fX4_begin
    rw [if_neg (fun hh => by have := (n_lt (by omega) (by omega)).mp hh; omega), n_let]
  have hhd : fX4_readHead (-1) bytes (Int32.ofNat ts.length) 0 0 20 = some (-1, Int32.ofNat A, 0, Int32.ofNat H) := by
    unfold fX4_readHead
    have hw0 : fX4_nextIsWord [98, 105, 108, 108] bytes (Int32.ofNat ts.length) 0 = some (1, 0) := hw0
    refine w_bind hw0 ?_
    refine w_join (fun j => j (-1) 0 = some (-1, Int32.ofNat A, 0, Int32.ofNat H)) ?_ (fun j hj => w_neg (by decide) hj)
    refine w_letE (show (0 : Int32) + 4 = Int32.ofNat 4 from rfl) ?_
    refine w_bind n1 ?_
    exact w_bind n3 rfl
  have hcl : fX0_clear oh oc orr oa oco = some (20, 0, 3, 0, upd (upd (upd (upd (upd oco 0 1) 1 5) 2 10) 3 8) 4 2) := rfl
  have hco0 : ∀ k, k < 5 → upd (upd (upd (upd (upd oco 0 1) 1 5) 2 10) 3 8) 4 2 k = zCosts k := fun k hk => by
    have hk5 : k = 0 ∨ k = 1 ∨ k = 2 ∨ k = 3 ∨ k = 4 := by omega
    rcases hk5 with rfl | rfl | rfl | rfl | rfl <;> rfl
  obtain ⟨j, hj⟩ : ∃ j : Int32 → Int32 → Int32 → Int32 → Int32 → Int32 → Int32 → (Nat → Int32) → (Nat → Int32) → (Nat → Int32) → (Nat → Int32) → (Nat → Int32) → (Nat → Int32) → (Nat → Int32) → Option (Int32 × Int32 × Int32 × Int32 × Int32 × Int32 × Int32 × Int32 × Int32 × Int32 × Int32 × Int32 × (Nat → Int32) × (Nat → Int32) × (Nat → Int32) × (Nat → Int32) × (Nat → Int32) × (Nat → Int32) × (Nat → Int32)), j = (fun (x19 : Int32) (x20 : Int32) (x21 : Int32) (x22 : Int32) (x23 : Int32) (x24 : Int32) (x25 : Int32) (a26 : Nat → Int32) (a27 : Nat → Int32) (a28 : Nat → Int32) (a29 : Nat → Int32) (a30 : Nat → Int32) (a31 : Nat → Int32) (a32 : Nat → Int32) => some (x21, (0 : Int32), x19, Int32.ofNat ts.length, x20, x21, x22, x23, Int32.ofNat H, x24, x25, 0, a26, a27, a28, a29, a30, a31, a32)) := ⟨_, rfl⟩
  obtain ⟨a2, cc2, li2, es2, se2, p2, w2, s2, q1, q2, q3, q4⟩ := p_loop_lots (j := j) (ea := -1) hb h4 (show H ≤ 40 by omega) xs [] A 0 (1024 - xs.length) 0 3 0 0 (upd (upd (upd (upd (upd oco 0 1) 1 5) 2 10) 3 8) 4 2) oli oes ose op ow os _ (by omega) (by omega) (by rw [List.length_nil]; omega) hx hbo hd1
  rw [show 1024 - xs.length + xs.length = 1024 by omega, Nat.zero_add] at q1
  -- behind the lots: costs, or none
  have tailc : ∃ (a3 k3 f3 : Nat) (cr : Int32) (co : Nat → Int32), k3 < 400 ∧ 1000 < f3 ∧ a3 < 6000 ∧ fX4_readInto_L16 j bytes (Int32.ofNat ts.length) (Int32.ofNat H) (1024 - xs.length) (Int32.ofNat xs.length) (-1) (Int32.ofNat a2) 0 0 0 cc2 3 (upd (upd (upd (upd (upd oco 0 1) 1 5) 2 10) 3 8) 4 2) li2 es2 se2 p2 w2 s2 = fX4_readInto_L16 j bytes (Int32.ofNat ts.length) (Int32.ofNat H) f3 (Int32.ofNat k3) (-1) (Int32.ofNat a3) 0 cr 0 cc2 3 co li2 es2 se2 p2 w2 s2 ∧ ts.drop a3 = slipT sv ∧ ∀ k, k < 5 → co k = costsF cg k := by
    cases hc : cg with
    | none =>
      rw [hc] at q3
      exact ⟨a2, xs.length, 1024 - xs.length, 0, _, by omega, by omega, by omega, rfl, q3, hco0⟩
    | some g =>
      rw [hc] at q3
      have q3 : ts.drop a2 = [99, 111, 115, 116, 115] ++ (nums g 5 ++ 59 :: slipT sv) := by
        rw [q3]
        show [99, 111, 115, 116, 115] ++ (nums g 5 ++ [59]) ++ slipT sv = _
        simp only [List.append_assoc, List.cons_append, List.nil_append]
      obtain ⟨a3, co3, t1, t2, t3, t4⟩ := p_stmt_costs (H := H) (ea := -1) (cc := cc2) (rr := 3) (sr := 0) (co := upd (upd (upd (upd (upd oco 0 1) 1 5) 2 10) 3 8) 4 2) (li := li2) (es := es2) (se := se2) (p := p2) (w := w2) (s := s2) hb (show a2 < 6000 by omega) (hcg g hc) q3
      have st := p_step (j := j) hb (k := xs.length) (by omega) (show a2 < 8000 by omega) (show a3 < 8000 by omega) q3 (by show ¬ Int32.ofNat 99 = 32; decide) (by show ¬ Int32.ofNat 99 = -1; decide) t1 t3 (1023 - xs.length)
      rw [show 1023 - xs.length + 1 = 1024 - xs.length by omega] at st
      exact ⟨a3 + 1, xs.length + 1, 1023 - xs.length, 1, co3, by omega, by omega, by omega, st, drop_s t3, t4⟩
  obtain ⟨a3, k3, f3, cr, co, hk3, hf3, ha3, e3, d3, c3⟩ := tailc
  -- the slip, or none
  have tails : ∃ (a4 k4 f4 : Nat) (sr : Int32), k4 < 500 ∧ 0 < f4 ∧ a4 < 7000 ∧ fX4_readInto_L16 j bytes (Int32.ofNat ts.length) (Int32.ofNat H) f3 (Int32.ofNat k3) (-1) (Int32.ofNat a3) 0 cr 0 cc2 3 co li2 es2 se2 p2 w2 s2 = fX4_readInto_L16 j bytes (Int32.ofNat ts.length) (Int32.ofNat H) f4 (Int32.ofNat k4) (-1) (Int32.ofNat a4) 0 cr sr cc2 (Int32.ofNat (sv.getD 3)) co li2 es2 se2 p2 w2 s2 ∧ ts.drop a4 = [] := by
    cases hs : sv with
    | none =>
      rw [hs] at d3
      exact ⟨a3, k3, f3, 0, by omega, by omega, by omega, rfl, d3⟩
    | some v =>
      rw [hs] at d3
      have d3 : ts.drop a3 = [115, 108, 105, 112] ++ (32 :: (dg v ++ 59 :: [])) := d3
      obtain ⟨a4, t1, t2, t3⟩ := p_stmt_slip (H := H) (ea := -1) (cc := cc2) (rr := 3) (cr := cr) (co := co) (li := li2) (es := es2) (se := se2) (p := p2) (w := w2) (s := s2) hb (show a3 < 6000 by omega) (hsv v hs).1 (hsv v hs).2 d3
      obtain ⟨f, rfl⟩ : ∃ f, f3 = f + 1 := ⟨f3 - 1, by omega⟩
      have st := p_step (j := j) hb (k := k3) (by omega) (show a3 < 8000 by omega) (show a4 < 8000 by omega) d3 (by show ¬ Int32.ofNat 115 = 32; decide) (by show ¬ Int32.ofNat 115 = -1; decide) t1 t3 f
      exact ⟨a4 + 1, k3 + 1, f, 1, by omega, by omega, by omega, st, drop_s t3⟩
  obtain ⟨a4, k4, f4, sr, hk4, hf4, ha4, e4, d4⟩ := tails
  obtain ⟨f, rfl⟩ : ∃ f, f4 = f + 1 := ⟨f4 - 1, by omega⟩
  have e5 := p_loop_end (j := j) (H := H) (ea := -1) (f := f) (cc := cc2) (rr := Int32.ofNat (sv.getD 3)) (cr := cr) (sr := sr) (co := co) (li := li2) (es := es2) (se := se2) (p := p2) (w := w2) (s := s2) hb hk4 (show a4 < 8000 by omega) d4
  refine ⟨Int32.ofNat a4, cr, sr, cc2, co, li2, es2, se2, p2, w2, s2, ?_, by rw [List.nil_append] at q4; exact q4, c3⟩
  unfold fX4_readInto
  refine w_bind hbeg ?_
  refine w_bind hcl ?_
  refine w_bind hhd ?_
  refine w_letE hj.symm ?_
  refine (q1.trans (e3.trans (e4.trans e5))).trans ?_
  rw [hj]
/-- the class loads the text of a bill -/
def lprF (xs : List LT) (i : Nat) : Bool := kpr (lx xs i).2.2.2
def lwaF (xs : List LT) (i : Nat) : Bool := kwa (lx xs i).2.2.2
theorem load_QB {H m : Nat} {xs : List LT} {cc : Int32} {co li es se p w s : Nat → Int32} {bc : Nat → Int32} {v : Nat → ZL} (hr : RB xs cc li es se p w s) (h4 : 4 ≤ H) (hH : H ≤ 11) (hm : 1 ≤ m ∧ m ≤ 9) (hxl : xs.length ≤ 8) (hx : ∀ i, i < xs.length → 1 ≤ (lx xs i).1 ∧ (lx xs i).1 ≤ 4) (hct : zct (zdfb (lprF xs) (lwaF xs)) xs.length ≤ 4) (hco : ∀ k, k < 5 → bc k = co k) (hv : ∀ i, i < xs.length → v i = (Int32.ofNat (lx xs i).1, Int32.ofNat (lx xs i).2.1, Int32.ofNat (lx xs i).2.2.1, zbi (lprF xs i), zbi (lwaF xs i), 0)) :
    QB (Int32.ofNat H, cc, Int32.ofNat m, 0, co, li, es, se, p, w, s) (Int32.ofNat H, Int32.ofNat m, 0, bc, xs.length, v) := by
  obtain ⟨h1, ⟨pr, wa, sl, b1, b2, b3, b4⟩, h3⟩ := hr
  have hz : zct (zdfb pr wa) xs.length = zct (zdfb (lprF xs) (lwaF xs)) xs.length := zct_congr _ (fun i hi => by
    unfold zdfb
    rw [(b4 i hi).1, (b4 i hi).2.1]
    rfl)
  refine ⟨H, xs.length, m, fun i => (lx xs i).1, pr, wa, sl, ⟨h4, by omega, by omega, hm.1, hm.2, fun i hi => ?_, by omega⟩, ⟨by omega, by omega⟩, ⟨rfl, h1, rfl, fun i hi => (h3 i hi).1, b1, b2, b3⟩, ⟨rfl, rfl, rfl, hco, rfl, fun i hi => ?_⟩⟩
  · have := hx i hi
    show 1 ≤ (lx xs i).1 ∧ (lx xs i).1 ≤ 9 ∧ (lx xs i).1 ≤ H
    omega
  · refine (hv i hi).trans ?_
    show _ = (Int32.ofNat (lx xs i).1, es i, se i, zbi (pr i), zbi (wa i), zbi (sl i))
    rw [(h3 i hi).2.1, (h3 i hi).2.2, (b4 i hi).1, (b4 i hi).2.1, (b4 i hi).2.2]
    rfl
theorem SV_BO {q : TB} {B : ZB} {y : ZY} {lots prices : Nat → Int32} {dc priced : Int32} (h : SV q B y lots dc prices priced) : o_bo 24 q.2.2.2.2.2.2.2.2.1 ∧ o_bo 24 q.2.2.2.2.2.2.2.2.2.1 ∧ o_bo 24 q.2.2.2.2.2.2.2.2.2.2 := by
  obtain ⟨H, n, m, ln, pr, wa, sl, h1, h0, ⟨b1, b2, b3, b4, b5, b6, b7⟩, -⟩ := h
  exact ⟨o_bo_of b5, o_bo_of b6, o_bo_of b7⟩
theorem w_hlp {α ρ : Type} {x : Option (String ⊕ α)} {a : α} {ok : α → ρ} {ex : List (String × ρ)} {r : Option ρ} (h : x = some (.inr a)) (k : some (ok a) = r) : o_hlp x ok ex = r := by rw [h]; exact k
theorem l_load {ts : List Nat} {bytes : Nat → Int32} {H : Nat} {xs : List LT} {cg : Option (Nat → Nat)} {sv : Option Nat} (hts : ts = billT H xs cg sv) (hb : RDX ts bytes) (h4 : 4 ≤ H) (hH : H ≤ 11) (hxl : xs.length ≤ 8) (hx : ∀ x, x ∈ xs → 1 ≤ x.1 ∧ x.1 ≤ 4 ∧ x.2.1 < 100 ∧ x.2.2.1 ≤ 9) (hcg : ∀ g, cg = some g → ∀ i, i < 5 → g i < 100) (hsv : ∀ v, sv = some v → 1 ≤ v ∧ v ≤ 9) (hct : zct (zdfb (lprF xs) (lwaF xs)) xs.length ≤ 4) {z : Nat} (hz : ts.length ≤ z) (hz5 : z ≤ 500) {bc : Nat → Int32} (hbc : ∀ k, k < 5 → bc k = costsF cg k) {v : Nat → ZL} (hv : ∀ i, i < xs.length → v i = (Int32.ofNat (lx xs i).1, Int32.ofNat (lx xs i).2.1, Int32.ofNat (lx xs i).2.2.1, zbi (lprF xs i), zbi (lwaF xs i), 0))
    {hh cc rr ac dc priced P K T next kept : Int32} {co li es se p w s lots prices no pg l us lo fi : Nat → Int32} {past : Nat → TB} {old : Nat → ZB} {B : ZB} {r : Nat} (hs : SV (hh, cc, rr, ac, co, li, es, se, p, w, s) B (no, pg, l, us, lo, fi, P, K, T) lots dc prices priced) (hhv : HV past next kept old r) (e1 l1 a1 r1 c1 s1 oh oc orr oa le : Int32) (oco oli oes ose op ow os : Nat → Int32) (hbo : RB [] 0 oli oes ose op ow os) :
    ∃ t2 t3 t4 t5 t6 t7 cc' co' li' es' se' p' w' s' oh' oc' or' oa' oco' oli' oes' ose' op' ow' os' past' next' kept' no' pg' l' us' lo' fi' P' K' T' lots' dc', fL_load (Int32.ofNat ts.length) (Int32.ofNat z) e1 bytes l1 a1 r1 c1 s1 hh cc rr ac co li es se p w s oh oc orr oa oco oli oes ose op ow os past next kept no pg l us lo fi P K T lots dc priced le = some (Int32.ofNat xs.length, 0, t2, t3, t4, t5, t6, t7, Int32.ofNat H, cc', Int32.ofNat (sv.getD 3), 0, co', li', es', se', p', w', s', oh', oc', or', oa', oco', oli', oes', ose', op', ow', os', past', next', kept', no', pg', l', us', lo', fi', P', K', T', lots', dc', 0, t2) ∧ SV (Int32.ofNat H, cc', Int32.ofNat (sv.getD 3), 0, co', li', es', se', p', w', s') (Int32.ofNat H, Int32.ofNat (sv.getD 3), 0, bc, xs.length, v) (no', pg', l', us', lo', fi', P', K', T') lots' dc' prices 0 ∧ HV past' next' kept' old 0 := by
  obtain ⟨at', cr, sr, cc1, co1, li1, es1, se1, p1, w1, s1', u1, u2, u3⟩ := p_into hts hb h4 hH hxl hx hcg hsv hz hz5 e1 l1 a1 r1 c1 s1 oh oc orr oa oco oli oes ose op ow os hbo
  have hlx : ∀ i, i < xs.length → lx xs i ∈ xs := fun i hi => by
    unfold lx
    rw [List.getD_eq_getElem?_getD, List.getElem?_eq_getElem hi]
    exact List.getElem_mem hi
  have hm : 1 ≤ sv.getD 3 ∧ sv.getD 3 ≤ 9 := by
    cases hc : sv with
    | none => exact ⟨by decide, by decide⟩
    | some v => exact hsv v hc
  have hq := load_QB (m := sv.getD 3) (bc := bc) (v := v) u2 h4 hH hm hxl (fun i hi => ⟨(hx _ (hlx i hi)).1, (hx _ (hlx i hi)).2.1⟩) hct (fun k hk => (hbc k hk).trans (u3 k hk).symm) hv
  have hcc : cc1 = Int32.ofNat xs.length := u2.1
  obtain ⟨past', next', kept', g1, g2, -⟩ := h_remember hhv (SV_QB hs)
  obtain ⟨H9, n9, m9, ln9, pr9, wa9, sl9, -, -, ⟨b1, b2, b3, b4, b5, b6, b7⟩, -⟩ := id hq
  have hcp := c_copyFrom hh cc rr ac co li es se p w s (Int32.ofNat H) cc1 (Int32.ofNat (sv.getD 3)) 0 co1 li1 es1 se1 p1 w1 s1' (o_bo_of b5) (o_bo_of b6) (o_bo_of b7)
  have hq2 := QB_ext hq (QE_copy (Int32.ofNat H, cc1, Int32.ofNat (sv.getD 3), 0, co1, li1, es1, se1, p1, w1, s1') (hh, cc, rr, ac, co, li, es, se, p, w, s))
  obtain ⟨no', pg', l', us', lo', fi', P', K', T', lots', dc', k1, k2⟩ := h_settle hq2 no pg l us lo fi P K T lots dc priced prices
  refine ⟨-1, Int32.ofNat ts.length, at', 0, cr, sr, _, _, _, _, _, _, _, _, Int32.ofNat H, cc1, Int32.ofNat (sv.getD 3), 0, co1, li1, es1, se1, p1, w1, s1', past', next', kept', no', pg', l', us', lo', fi', P', K', T', lots', dc', ?_, k2, HV_none g2 old⟩
  unfold fL_load
  apply w_hlp
  · unfold fX5_load
    refine w_neg (n_lt0 (by omega)) ?_
    refine w_pos ((n_le (by omega) (by omega)).mpr hz) ?_
    refine w_bind u1 ?_
    refine w_pos rfl ?_
    refine w_bind g1 ?_
    refine w_bind hcp ?_
    exact w_bind k1 rfl
  · rw [hcc]
