/-! ===== the law's random bill ===== -/
theorem w_self {α : Type} (a : α) {P : α → Prop} (h : ∀ r, a = r → P r) : P a := h a rfl
theorem x_bind {α β : Type} {P : Option β → Prop} {x : Option α} {a : α} {f : α → Option β} (h : x = some a) (k : P (f a)) : P (o_bind x f) := by rw [h]; exact k
theorem x_letE {α β : Type} {P : β → Prop} {a b : α} {f : α → β} (e : a = b) (k : P (f b)) : P (o_let a f) := by subst e; exact k
theorem x_join {α β : Type} {P : β → Prop} {a : α} {f : α → β} (Q : α → Prop) (ha : Q a) (k : ∀ x, Q x → P (f x)) : P (o_let a f) := k a ha
theorem x_pos {β : Type} {P : β → Prop} {c : Prop} {ic : Decidable c} {a b : β} (h : c) (k : P a) : P (@ite β c ic a b) := by rw [if_pos h]; exact k
theorem x_neg {β : Type} {P : β → Prop} {c : Prop} {ic : Decidable c} {a b : β} (h : ¬ c) (k : P b) : P (@ite β c ic a b) := by rw [if_neg h]; exact k
theorem x_as {β : Type} {P : Option β → Prop} {c : Prop} {ic : Decidable c} {a : Option β} (h : c) (k : P a) : P (@o_as β c ic a) := by rw [n_as h]; exact k
theorem lotsT_end (x : LT) : ∀ ls : List LT, lotsT (ls ++ [x]) = lotsT ls ++ lotT x
  | [] => by show lotT x ++ [] = [] ++ lotT x; rw [List.append_nil, List.nil_append]
  | y :: ls => by show lotT y ++ lotsT (ls ++ [x]) = lotT y ++ lotsT ls ++ lotT x; rw [lotsT_end x ls, List.append_assoc]
theorem lotT_len (x : LT) : (lotT x).length ≤ 17 := by
  have h := nums_len (g3 x.1 x.2.1 x.2.2.1) 3
  unfold lotT
  rw [List.length_append, List.length_append]
  show 3 + _ ≤ 17
  unfold kwT
  split
  · show 3 + (_ + 4) ≤ 17; omega
  · split
    · show 3 + (_ + 5) ≤ 17; omega
    · show 3 + (_ + 1) ≤ 17; omega
theorem lotsT_len : ∀ ls : List LT, (lotsT ls).length ≤ 17 * ls.length
  | [] => Nat.le_refl _
  | x :: ls => by
    have h1 := lotT_len x
    have h2 := lotsT_len ls
    show (lotT x ++ lotsT ls).length ≤ _
    rw [List.length_append, List.length_cons]
    omega
/-- the lots so far, and the law's row of them -/
def VX (ls : List LT) (v : Nat → ZL) : Prop := ∀ i, i < ls.length → v i = (Int32.ofNat (lx ls i).1, Int32.ofNat (lx ls i).2.1, Int32.ofNat (lx ls i).2.2.1, zbi (lprF ls i), zbi (lwaF ls i), 0)
def LD (ls : List LT) : Nat := zct (zdfb (lprF ls) (lwaF ls)) ls.length
def LOK (ls : List LT) : Prop := ∀ x, x ∈ ls → 1 ≤ x.1 ∧ x.1 ≤ 4 ∧ x.2.1 < 100 ∧ x.2.2.1 ≤ 9
theorem LD_end (ls : List LT) (x : LT) : LD (ls ++ [x]) = LD ls + (if (kpr x.2.2.2 != kwa x.2.2.2) = true then 1 else 0) := by
  unfold LD
  have hl : (ls ++ [x]).length = ls.length + 1 := by rw [List.length_append]; rfl
  rw [hl]
  show zct (zdfb (lprF (ls ++ [x])) (lwaF (ls ++ [x]))) ls.length + (if zdfb (lprF (ls ++ [x])) (lwaF (ls ++ [x])) ls.length = true then 1 else 0) = _
  have e : zdfb (lprF (ls ++ [x])) (lwaF (ls ++ [x])) ls.length = (kpr x.2.2.2 != kwa x.2.2.2) := by
    unfold zdfb lprF lwaF
    rw [lx_n]
  rw [e, zct_congr (g := zdfb (lprF ls) (lwaF ls)) ls.length (fun i hi => by
    unfold zdfb lprF lwaF
    rw [lx_lo ls x hi])]
theorem VX_end {ls : List LT} {v : Nat → ZL} (h : VX ls v) (x : LT) : VX (ls ++ [x]) (zins v ls.length (Int32.ofNat x.1, Int32.ofNat x.2.1, Int32.ofNat x.2.2.1, zbi (kpr x.2.2.2), zbi (kwa x.2.2.2), 0)) := fun i hi => by
  rw [List.length_append] at hi
  have hi : i < ls.length + 1 := hi
  unfold zins lprF lwaF
  by_cases e : i < ls.length
  · rw [if_pos e, lx_lo ls x e]; exact h i e
  · have : i = ls.length := by omega
    subst this
    rw [if_neg e, if_pos rfl, lx_n]
theorem LOK_end {ls : List LT} (h : LOK ls) {x : LT} (hx : 1 ≤ x.1 ∧ x.1 ≤ 4 ∧ x.2.1 < 100 ∧ x.2.2.1 ≤ 9) : LOK (ls ++ [x]) := fun y hy => by
  rcases List.mem_append.mp hy with hy | hy
  · exact h y hy
  · rw [List.mem_singleton.mp hy]; exact hx
theorem small_at {w : List Nat} (h : ∀ c, c ∈ w → c < 128) : ∀ k, k < w.length → w.getD k 0 < 128 := fun k hk => by
  rw [List.getD_eq_getElem?_getD, List.getElem?_eq_getElem hk]
  exact h _ (List.getElem_mem hk)
theorem small_kw (k : Nat) : ∀ c, c ∈ kwT k → c < 128 := by
  unfold kwT
  split
  · decide
  · split <;> decide
section ZRB
variable {Pr : Option (Int32 × Int32 × (Nat → Int32) × Int32 × Int32 × Int32 × Int32 × Int32 × Int32 × Int32 × Int32 × Int32 × (Nat → Int32) × (Nat → Int32) × (Nat → Int32) × (Nat → Int32) × (Nat → Int32) × (Nat → Int32) × (Nat → Int32) × Int32 × Int32 × Int32 × Int32 × (Nat → Int32) × (Nat → Int32) × (Nat → Int32) × (Nat → Int32) × (Nat → Int32) × (Nat → Int32) × (Nat → Int32) × (Nat → Int32 × Int32 × Int32 × Int32 × (Nat → Int32) × (Nat → Int32) × (Nat → Int32) × (Nat → Int32) × (Nat → Int32) × (Nat → Int32) × (Nat → Int32)) × Int32 × Int32 × (Nat → Int32) × (Nat → Int32) × (Nat → Int32) × (Nat → Int32) × (Nat → Int32) × (Nat → Int32) × Int32 × Int32 × Int32 × (Nat → Int32) × Int32 × Int32 × Int32 × (Nat → Int32) × Int32 × Int32 × Int32 × (Nat → Int32) × Nat × (Nat → ZL)) → Prop}
theorem l_L58 {j : Nat → (Nat → ZL) → Int32 → (Nat → Int32) → (Nat → Int32) → Int32 → Option (Int32 × Int32 × (Nat → Int32) × Int32 × Int32 × Int32 × Int32 × Int32 × Int32 × Int32 × Int32 × Int32 × (Nat → Int32) × (Nat → Int32) × (Nat → Int32) × (Nat → Int32) × (Nat → Int32) × (Nat → Int32) × (Nat → Int32) × Int32 × Int32 × Int32 × Int32 × (Nat → Int32) × (Nat → Int32) × (Nat → Int32) × (Nat → Int32) × (Nat → Int32) × (Nat → Int32) × (Nat → Int32) × (Nat → Int32 × Int32 × Int32 × Int32 × (Nat → Int32) × (Nat → Int32) × (Nat → Int32) × (Nat → Int32) × (Nat → Int32) × (Nat → Int32) × (Nat → Int32)) × Int32 × Int32 × (Nat → Int32) × (Nat → Int32) × (Nat → Int32) × (Nat → Int32) × (Nat → Int32) × (Nat → Int32) × Int32 × Int32 × Int32 × (Nat → Int32) × Int32 × Int32 × Int32 × (Nat → Int32) × Int32 × Int32 × Int32 × (Nat → Int32) × Nat × (Nat → ZL))} {H many : Nat} (h4 : 4 ≤ H) (hH : H ≤ 11) (hm : many ≤ 8) {pre : List Nat} (hpre : pre.length ≤ 20)
    (hj : ∀ (ls : List LT) (v : Nat → ZL) (size : Int32) (bytes U : Nat → Int32) (seed : Int32), ls.length = many → LOK ls → LD ls ≤ 3 → VX ls v → WV (pre ++ lotsT ls) size bytes U → Pr (j many v size bytes U seed)) :
    ∀ (m : Nat) (ls : List LT) (f : Nat) (size : Int32) (bytes U : Nat → Int32) (seed : Int32) (v : Nat → ZL), ls.length + m = many → m < f → LOK ls → LD ls ≤ 3 → VX ls v → WV (pre ++ lotsT ls) size bytes U → Pr (fL_randomBill_L58 (Int32.ofNat many) j (Int32.ofNat H) f (Int32.ofNat (LD ls)) (Int32.ofNat ls.length) ls.length v size bytes U seed)
  | 0, ls, f, size, bytes, U, seed, v, hl, hf, hok, hd, hv, hw => by
    obtain ⟨f, rfl⟩ : ∃ g, f = g + 1 := ⟨f - 1, by omega⟩
    have hl : ls.length = many := hl
    rw [fL_randomBill_L58]
    refine x_pos (by rw [hl]; exact Int32.le_refl _) ?_
    have := hj ls v size bytes U seed hl hok hd hv hw
    rw [← hl] at this
    exact this
  | m + 1, ls, f, size, bytes, U, seed, v, hl, hf, hok, hd, hv, hw => by
    obtain ⟨f, rfl⟩ : ∃ g, f = g + 1 := ⟨f - 1, by omega⟩
    have hlen := lotsT_len ls
    have hlp : (pre ++ lotsT ls).length = pre.length + (lotsT ls).length := List.length_append
    obtain ⟨y1, sd1, hy1, e1⟩ := l_below (k := 4) (by omega) (by omega) seed
    obtain ⟨y2, sd2, hy2, e2⟩ := l_below (k := 60) (by omega) (by omega) sd1
    obtain ⟨y3, sd3, hy3, e3⟩ := l_below (k := 3) (by omega) (by omega) sd2
    obtain ⟨y4, sd4, hy4, e4⟩ := l_below (k := 4) (by omega) (by omega) sd3
    have e1 : fX8_below 4 seed = some (Int32.ofNat y1, sd1) := e1
    have e2 : fX8_below 60 sd1 = some (Int32.ofNat y2, sd2) := e2
    have e3 : fX8_below 3 sd2 = some (Int32.ofNat y3, sd3) := e3
    have e4 : fX8_below 4 sd3 = some (Int32.ofNat y4, sd4) := e4
    rw [fL_randomBill_L58]
    refine x_neg (fun hh => by have := (n_le (by omega) (by omega)).mp hh; omega) ?_
    refine x_bind (show fX7_init = some () from rfl) ?_
    refine x_letE (show (if Int32.ofNat H < 4 then Int32.ofNat H else 4) = (4 : Int32) from if_neg (fun hh => by have := (n_lt (b := 4) (by omega) (by omega)).mp hh; omega)) ?_
    refine x_bind e1 ?_
    refine x_letE (show (1 : Int32) + Int32.ofNat y1 = Int32.ofNat (y1 + 1) from by rw [Int32.add_comm, n_s]) ?_
    refine x_bind e2 ?_
    refine x_bind e3 ?_
    refine x_join (fun j => ∀ (k : Nat) (sd : Int32), k < 100000 → (3 ≤ LD ls → k = 0) → Pr (j (Int32.ofNat k) sd)) (fun k sd hkb hk0 => ?_) (fun jK hK => ?_)
    · obtain ⟨x, hx⟩ : ∃ x : LT, x = (y1 + 1, y2, y3, k) := ⟨_, rfl⟩
      have hxk : x.2.2.2 = k := by rw [hx]
      have hD' := LD_end ls x
      rw [hxk] at hD'
      have hD3 : LD (ls ++ [x]) ≤ 3 := by
        rw [hD']
        by_cases h3 : 3 ≤ LD ls
        · rw [hk0 h3, if_neg (by decide)]; omega
        · split <;> omega
      have hV' := VX_end hv x
      rw [hx] at hV'
      have hok' := LOK_end hok (x := x) (by rw [hx]; show 1 ≤ y1 + 1 ∧ y1 + 1 ≤ 4 ∧ y2 < 100 ∧ y3 ≤ 9; omega)
      have hl' : (ls ++ [x]).length = ls.length + 1 := by rw [List.length_append]; rfl
      have hkb : k < 100000 := hkb
      have k1 : ∀ {a b : Option (Int32 × Int32 × (Nat → Int32) × Int32 × Int32 × Int32 × Int32 × Int32 × Int32 × Int32 × Int32 × Int32 × (Nat → Int32) × (Nat → Int32) × (Nat → Int32) × (Nat → Int32) × (Nat → Int32) × (Nat → Int32) × (Nat → Int32) × Int32 × Int32 × Int32 × Int32 × (Nat → Int32) × (Nat → Int32) × (Nat → Int32) × (Nat → Int32) × (Nat → Int32) × (Nat → Int32) × (Nat → Int32) × (Nat → Int32 × Int32 × Int32 × Int32 × (Nat → Int32) × (Nat → Int32) × (Nat → Int32) × (Nat → Int32) × (Nat → Int32) × (Nat → Int32) × (Nat → Int32)) × Int32 × Int32 × (Nat → Int32) × (Nat → Int32) × (Nat → Int32) × (Nat → Int32) × (Nat → Int32) × (Nat → Int32) × Int32 × Int32 × Int32 × (Nat → Int32) × Int32 × Int32 × Int32 × (Nat → Int32) × Int32 × Int32 × Int32 × (Nat → Int32) × Nat × (Nat → ZL))}, (if Int32.ofNat k = (1 : Int32) then a else b) = if k = 1 then a else b := fun {a b} => by
        by_cases e : k = 1
        · rw [if_pos e, if_pos (by rw [e]; rfl)]
        · rw [if_neg e, if_neg (show ¬ Int32.ofNat k = 1 from fun h => e ((n_eq (b := 1) (by omega) (by omega)).mp h))]
      have k2 : ∀ {a b : Option (Int32 × Int32 × (Nat → Int32) × Int32 × Int32 × Int32 × Int32 × Int32 × Int32 × Int32 × Int32 × Int32 × (Nat → Int32) × (Nat → Int32) × (Nat → Int32) × (Nat → Int32) × (Nat → Int32) × (Nat → Int32) × (Nat → Int32) × Int32 × Int32 × Int32 × Int32 × (Nat → Int32) × (Nat → Int32) × (Nat → Int32) × (Nat → Int32) × (Nat → Int32) × (Nat → Int32) × (Nat → Int32) × (Nat → Int32 × Int32 × Int32 × Int32 × (Nat → Int32) × (Nat → Int32) × (Nat → Int32) × (Nat → Int32) × (Nat → Int32) × (Nat → Int32) × (Nat → Int32)) × Int32 × Int32 × (Nat → Int32) × (Nat → Int32) × (Nat → Int32) × (Nat → Int32) × (Nat → Int32) × (Nat → Int32) × Int32 × Int32 × Int32 × (Nat → Int32) × Int32 × Int32 × Int32 × (Nat → Int32) × Int32 × Int32 × Int32 × (Nat → Int32) × Nat × (Nat → ZL))}, (if Int32.ofNat k = (2 : Int32) then a else b) = if k = 2 then a else b := fun {a b} => by
        by_cases e : k = 2
        · rw [if_pos e, if_pos (by rw [e]; rfl)]
        · rw [if_neg e, if_neg (show ¬ Int32.ofNat k = 2 from fun h => e ((n_eq (b := 2) (by omega) (by omega)).mp h))]
      refine x_join (fun j => Pr (j (zbi (kpr k)))) ?_ (fun jP hP => ?_)
      · refine x_as (zbi_or _) ?_
        refine x_join (fun j => Pr (j (zbi (kwa k)))) ?_ (fun jW hW => ?_)
        · refine x_as (zbi_or _) ?_
          have hdf : fX7_differs (Int32.ofNat (y1 + 1), Int32.ofNat y2, Int32.ofNat y3, zbi (kpr k), zbi (kwa k), 0) = some (zbi (kpr k != kwa k)) := by
            unfold fX7_differs
            cases kpr k <;> cases kwa k <;> rfl
          refine x_bind hdf ?_
          refine x_join (fun j => Pr (j (Int32.ofNat (LD (ls ++ [x]))))) ?_ (fun jD hD => ?_)
          · refine x_bind (l_adds (show ls.length ≤ 15 by omega) (Nat.le_refl ls.length) v (Int32.ofNat (y1 + 1), Int32.ofNat y2, Int32.ofNat y3, zbi (kpr k), zbi (kwa k), 0)) ?_
            have hqq : zins v ls.length ((Int32.ofNat (y1 + 1), Int32.ofNat y2, Int32.ofNat y3, zbi (kpr k), zbi (kwa k), 0) : ZL) (Int32.ofNat ls.length).toNatClampNeg = (Int32.ofNat (y1 + 1), Int32.ofNat y2, Int32.ofNat y3, zbi (kpr k), zbi (kwa k), 0) := by
              rw [n_cl (by omega)]
              unfold zins
              rw [if_neg (Nat.lt_irrefl _), if_pos rfl]
            dsimp only
            rw [hqq]
            refine x_letE rfl (x_letE rfl (x_letE rfl ?_))
            obtain ⟨a2, b2, c2, u1, u2⟩ := l_writeAll hw (cs := [108, 111, 116]) (small_at small_lot) (m := 3) (by omega) (by rw [hlp]; show pre.length + (lotsT ls).length + 3 + 9 ≤ 430; omega) (f := upd (upd (upd (fun _ => 0) (0 : Int32).toNatClampNeg (Int32.ofNat (y1 + 1))) (1 : Int32).toNatClampNeg (Int32.ofNat y2)) (2 : Int32).toNatClampNeg (Int32.ofNat y3)) (g := g3 (y1 + 1) y2 y3) (fun i hi => by
              have hi3 : i = 0 ∨ i = 1 ∨ i = 2 := by omega
              rcases hi3 with rfl | rfl | rfl
              · exact ⟨rfl, by show y1 + 1 < 100; omega⟩
              · exact ⟨rfl, by show y2 < 100; omega⟩
              · exact ⟨rfl, by show y3 < 100; omega⟩)
            refine x_bind u1 ?_
            have hl2 : (pre ++ lotsT ls ++ ([108, 111, 116] ++ nums (g3 (y1 + 1) y2 y3) 3)).length ≤ pre.length + (lotsT ls).length + 12 := by
              have := nums_len (g3 (y1 + 1) y2 y3) 3
              rw [List.length_append, hlp, List.length_append]
              show _ + (3 + _) ≤ _
              omega
            have fin : ∀ (a3 : Int32) (b3 c3 : Nat → Int32), WV (pre ++ lotsT ls ++ ([108, 111, 116] ++ nums (g3 (y1 + 1) y2 y3) 3) ++ kwT k) a3 b3 c3 → Pr (fL_randomBill_L58 (Int32.ofNat many) j (Int32.ofNat H) f (Int32.ofNat (LD (ls ++ [x]))) (Int32.ofNat (ls.length + 1)) (ls.length + 1) (zins v ls.length (Int32.ofNat (y1 + 1), Int32.ofNat y2, Int32.ofNat y3, zbi (kpr k), zbi (kwa k), 0)) a3 b3 c3 sd) := fun a3 b3 c3 h3 => by
              have e : pre ++ lotsT ls ++ ([108, 111, 116] ++ nums (g3 (y1 + 1) y2 y3) 3) ++ kwT k = pre ++ lotsT (ls ++ [x]) := by
                rw [lotsT_end, hx]
                unfold lotT
                simp only [List.append_assoc]
              rw [e] at h3
              have := l_L58 h4 hH hm hpre hj m (ls ++ [x]) f a3 b3 c3 sd _ (by rw [hl']; omega) (by omega) hok' hD3 (by rw [hx]; exact hV') h3
              rw [hl'] at this
              exact this
            have wk := l_write u2 (cs := kwT k) (small_at (small_kw k)) (by
              have : (kwT k).length ≤ 5 := by unfold kwT; split; decide; split <;> decide
              omega)
            obtain ⟨a3, b3, c3, v1, v2⟩ := wk
            rw [k1]
            by_cases e1' : k = 1
            · rw [if_pos e1']
              have v1 : fL_write [32, 105, 110, 59] a2 b2 c2 = some (a3, b3, c3) := by rw [← v1]; unfold kwT; rw [if_pos e1']; rfl
              refine x_bind v1 ?_
              refine x_letE (n_s ls.length) ?_
              exact fin a3 b3 c3 v2
            · rw [if_neg e1', k2]
              by_cases e2' : k = 2
              · rw [if_pos e2']
                have v1 : fL_write [32, 111, 117, 116, 59] a2 b2 c2 = some (a3, b3, c3) := by rw [← v1]; unfold kwT; rw [if_neg e1', if_pos e2']; rfl
                refine x_bind v1 ?_
                refine x_letE (n_s ls.length) ?_
                exact fin a3 b3 c3 v2
              · rw [if_neg e2']
                have v1 : fL_write [59] a2 b2 c2 = some (a3, b3, c3) := by rw [← v1]; unfold kwT; rw [if_neg e1', if_neg e2']; rfl
                refine x_bind v1 ?_
                refine x_letE (n_s ls.length) ?_
                exact fin a3 b3 c3 v2
          · rw [hD'] at hD
            cases hb : (kpr k != kwa k)
            · rw [hb] at hD
              exact x_pos rfl hD
            · rw [hb] at hD
              exact x_neg (by decide) (x_letE (n_s _) hD)
        · rw [k2]
          by_cases e : k = 2
          · rw [if_pos e]
            have : kwa k = false := by rw [e]; rfl
            rw [this] at hW
            exact hW
          · rw [if_neg e]
            have : kwa k = true := by unfold kwa; rw [decide_eq_false e]; rfl
            rw [this] at hW
            exact hW
      · rw [k1]
        by_cases e : k = 1
        · rw [if_pos e]
          have : kpr k = false := by rw [e]; rfl
          rw [this] at hP
          exact hP
        · rw [if_neg e]
          have : kpr k = true := by unfold kpr; rw [decide_eq_false e]; rfl
          rw [this] at hP
          exact hP
    · by_cases h3 : 3 ≤ LD ls
      · refine x_pos ((n_le (a := 3) (by omega) (by omega)).mpr h3) ?_
        exact hK 0 sd3 (by omega) (fun _ => rfl)
      · refine x_neg (fun hh => h3 ((n_le (a := 3) (by omega) (by omega)).mp hh)) ?_
        refine x_bind e4 ?_
        exact hK y4 sd4 (by omega) (fun h => absurd h h3)
theorem l_L262 (j : (Nat → Int32) → Int32 → Option (Int32 × Int32 × (Nat → Int32) × Int32 × Int32 × Int32 × Int32 × Int32 × Int32 × Int32 × Int32 × Int32 × (Nat → Int32) × (Nat → Int32) × (Nat → Int32) × (Nat → Int32) × (Nat → Int32) × (Nat → Int32) × (Nat → Int32) × Int32 × Int32 × Int32 × Int32 × (Nat → Int32) × (Nat → Int32) × (Nat → Int32) × (Nat → Int32) × (Nat → Int32) × (Nat → Int32) × (Nat → Int32) × (Nat → Int32 × Int32 × Int32 × Int32 × (Nat → Int32) × (Nat → Int32) × (Nat → Int32) × (Nat → Int32) × (Nat → Int32) × (Nat → Int32) × (Nat → Int32)) × Int32 × Int32 × (Nat → Int32) × (Nat → Int32) × (Nat → Int32) × (Nat → Int32) × (Nat → Int32) × (Nat → Int32) × Int32 × Int32 × Int32 × (Nat → Int32) × Int32 × Int32 × Int32 × (Nat → Int32) × Int32 × Int32 × Int32 × (Nat → Int32) × Nat × (Nat → ZL))) (c : Nat → Int32) (seed : Int32) : ∃ (g : Nat → Nat) (a : Nat → Int32) (sd : Int32), fL_randomBill_L262 j 1024 0 c seed = j a sd ∧ ∀ i, i < 5 → a i = Int32.ofNat (g i) ∧ g i < 100 := by
  have key := n_inv (fun f k (s : (Nat → Int32) × Int32) => fL_randomBill_L262 j f (Int32.ofNat k) s.1 s.2) 5 (fun s => j s.1 s.2) (fun k s => ∃ g : Nat → Nat, ∀ i, i < k → s.1 i = Int32.ofNat (g i) ∧ g i < 100) (fun f s _ => by
      simp only [fL_randomBill_L262, show ((5 : Int32) ≤ Int32.ofNat 5) from by decide, if_true]) (fun f k s hk hs => by
      obtain ⟨a, sd⟩ := s
      obtain ⟨g, hg⟩ := hs
      have hg : ∀ i, i < k → a i = Int32.ofNat (g i) ∧ g i < 100 := hg
      obtain ⟨y, sd1, hy, e⟩ := l_below (k := 20) (by omega) (by omega) sd
      have e : fX8_below 20 sd = some (Int32.ofNat y, sd1) := e
      refine ⟨(upd a k (Int32.ofNat y), sd1), ⟨fun i => if i = k then y else g i, fun i hi => ?_⟩, ?_⟩
      · by_cases ei : i = k
        · simp only [if_pos ei]
          rw [ei]
          exact ⟨upd_same, by omega⟩
        · simp only [if_neg ei]
          have := hg i (by omega)
          exact ⟨(upd_ne ei).trans this.1, this.2⟩
      · have hle : ¬ (5 : Int32) ≤ Int32.ofNat k := fun h => by
          have := (n_le (a := 5) (by omega) (by omega)).mp h; omega
        simp (disch := omega) only [fL_randomBill_L262, hle, if_false, e, n_bind, n_rd, n_cl, n_let, n_s]) 5 0 1024 (c, seed) (by omega) (by omega) ⟨fun _ => 0, fun i hi => absurd hi (Nat.not_lt_zero _)⟩
  obtain ⟨⟨a, sd⟩, ⟨g, hg⟩, h2⟩ := key
  exact ⟨g, a, sd, h2, hg⟩
end ZRB
theorem WP_RDX {ts : List Nat} {bytes U : Nat → Int32} (hl : ts.length < 480) (h : ∀ i, i < ts.length → bytes i &&& 255 = Int32.ofNat (ts.getD i 0)) : RDX ts bytes := ⟨by omega, h⟩
theorem l_loadText {ts : List Nat} {size : Int32} {bytes U : Nat → Int32} {H : Nat} {xs : List LT} {cg : Option (Nat → Nat)} {sv : Option Nat} (hts : ts = billT H xs cg sv) (hw : WV ts size bytes U) (h4 : 4 ≤ H) (hH : H ≤ 11) (hxl : xs.length ≤ 8) (hx : LOK xs) (hcg : ∀ g, cg = some g → ∀ i, i < 5 → g i < 100) (hsv : ∀ v, sv = some v → 1 ≤ v ∧ v ≤ 9) (hct : LD xs ≤ 4) {bc : Nat → Int32} (hbc : ∀ k, k < 5 → bc k = costsF cg k) {v : Nat → ZL} (hv : VX xs v)
    {hh cc rr ac dc priced P K T next kept : Int32} {co li es se p w s lots prices no pg l us lo fi : Nat → Int32} {past : Nat → TB} {old : Nat → ZB} {B : ZB} {r : Nat} (hs : SV (hh, cc, rr, ac, co, li, es, se, p, w, s) B (no, pg, l, us, lo, fi, P, K, T) lots dc prices priced) (hhv : HV past next kept old r) (e1 l1 a1 r1 c1 s1 oh oc orr oa le : Int32) (oco oli oes ose op ow os : Nat → Int32) (hbo : RB [] 0 oli oes ose op ow os) :
    ∃ bytes' U' t2 t3 t4 t5 t6 t7 cc' co' li' es' se' p' w' s' oh' oc' or' oa' oco' oli' oes' ose' op' ow' os' past' next' kept' no' pg' l' us' lo' fi' P' K' T' lots' dc', fL_loadText size e1 bytes l1 a1 r1 c1 s1 hh cc rr ac co li es se p w s oh oc orr oa oco oli oes ose op ow os past next kept no pg l us lo fi P K T lots dc priced le U = some (Int32.ofNat xs.length, 0, t2, bytes', t3, t4, t5, t6, t7, Int32.ofNat H, cc', Int32.ofNat (sv.getD 3), 0, co', li', es', se', p', w', s', oh', oc', or', oa', oco', oli', oes', ose', op', ow', os', past', next', kept', no', pg', l', us', lo', fi', P', K', T', lots', dc', 0, t2, U') ∧ SV (Int32.ofNat H, cc', Int32.ofNat (sv.getD 3), 0, co', li', es', se', p', w', s') (Int32.ofNat H, Int32.ofNat (sv.getD 3), 0, bc, xs.length, v) (no', pg', l', us', lo', fi', P', K', T') lots' dc' prices 0 ∧ HV past' next' kept' old 0 := by
  obtain ⟨w1, w2, w3, w4⟩ := hw
  have go : ∀ (z : Nat) (bytes' U' : Nat → Int32), (∀ i, i < ts.length → bytes' i &&& 255 = Int32.ofNat (ts.getD i 0)) → ts.length ≤ z → z ≤ 500 → ∀ (body : Option (Int32 × Int32 × Int32 × (Nat → Int32) × Int32 × Int32 × Int32 × Int32 × Int32 × Int32 × Int32 × Int32 × Int32 × (Nat → Int32) × (Nat → Int32) × (Nat → Int32) × (Nat → Int32) × (Nat → Int32) × (Nat → Int32) × (Nat → Int32) × Int32 × Int32 × Int32 × Int32 × (Nat → Int32) × (Nat → Int32) × (Nat → Int32) × (Nat → Int32) × (Nat → Int32) × (Nat → Int32) × (Nat → Int32) × (Nat → Int32 × Int32 × Int32 × Int32 × (Nat → Int32) × (Nat → Int32) × (Nat → Int32) × (Nat → Int32) × (Nat → Int32) × (Nat → Int32) × (Nat → Int32)) × Int32 × Int32 × (Nat → Int32) × (Nat → Int32) × (Nat → Int32) × (Nat → Int32) × (Nat → Int32) × (Nat → Int32) × Int32 × Int32 × Int32 × (Nat → Int32) × Int32 × Int32 × Int32 × (Nat → Int32))), (∀ R, o_let (upd U' (0 : Int32).toNatClampNeg (0 : Int32)) (fun a8 => o_bind (fL_load (Int32.ofNat ts.length) (Int32.ofNat z) e1 bytes' l1 a1 r1 c1 s1 hh cc rr ac co li es se p w s oh oc orr oa oco oli oes ose op ow os past next kept no pg l us lo fi P K T lots dc priced le) (fun (x9, x10, x11, x12, x13, x14, x15, x16, x17, x18, x19, x20, a21, a22, a23, a24, a25, a26, a27, x28, x29, x30, x31, a32, a33, a34, a35, a36, a37, a38, a39, x40, x41, a42, a43, a44, a45, a46, a47, x48, x49, x50, a51, x52, x53, x54) => some (x9, x10, x11, bytes', x12, x13, x14, x15, x16, x17, x18, x19, x20, a21, a22, a23, a24, a25, a26, a27, x28, x29, x30, x31, a32, a33, a34, a35, a36, a37, a38, a39, x40, x41, a42, a43, a44, a45, a46, a47, x48, x49, x50, a51, x52, x53, x54, a8))) = R → body = R) → ∃ bytes' U' t2 t3 t4 t5 t6 t7 cc' co' li' es' se' p' w' s' oh' oc' or' oa' oco' oli' oes' ose' op' ow' os' past' next' kept' no' pg' l' us' lo' fi' P' K' T' lots' dc', body = some (Int32.ofNat xs.length, 0, t2, bytes', t3, t4, t5, t6, t7, Int32.ofNat H, cc', Int32.ofNat (sv.getD 3), 0, co', li', es', se', p', w', s', oh', oc', or', oa', oco', oli', oes', ose', op', ow', os', past', next', kept', no', pg', l', us', lo', fi', P', K', T', lots', dc', 0, t2, U') ∧ SV (Int32.ofNat H, cc', Int32.ofNat (sv.getD 3), 0, co', li', es', se', p', w', s') (Int32.ofNat H, Int32.ofNat (sv.getD 3), 0, bc, xs.length, v) (no', pg', l', us', lo', fi', P', K', T') lots' dc' prices 0 ∧ HV past' next' kept' old 0 := fun z bytes' U' hby hz hz5 body hbody => by
    obtain ⟨t2, t3, t4, t5, t6, t7, cc', co', li', es', se', p', w', s', oh', oc', or', oa', oco', oli', oes', ose', op', ow', os', past', next', kept', no', pg', l', us', lo', fi', P', K', T', lots', dc', u1, u2, u3⟩ := l_load hts ⟨by omega, hby⟩ h4 hH hxl hx hcg hsv hct hz hz5 hbc hv hs hhv e1 l1 a1 r1 c1 s1 oh oc orr oa le oco oli oes ose op ow os hbo
    refine ⟨bytes', upd U' (0 : Int32).toNatClampNeg (0 : Int32), t2, t3, t4, t5, t6, t7, cc', co', li', es', se', p', w', s', oh', oc', or', oa', oco', oli', oes', ose', op', ow', os', past', next', kept', no', pg', l', us', lo', fi', P', K', T', lots', dc', hbody _ ?_, u2, u3⟩
    refine w_let ?_
    exact w_bind u1 rfl
  have e20 : Int32.ofNat ts.length - Int32.ofNat ts.length / 20 * 20 = Int32.ofNat (ts.length % 20) := by
    rw [show (20 : Int32) = Int32.ofNat 20 from rfl, n_mod (by omega) (by omega)]
  have hm20 := Nat.mod_lt ts.length (show 0 < 20 by omega)
  have w3 : U (0 : Int32).toNatClampNeg = Int32.ofNat ts.length := w3
  by_cases hz : ts.length % 20 = 0
  · refine go ts.length bytes U (fun i hi => w4.1 i (by omega)) (Nat.le_refl _) (by omega) _ (fun R hR => ?_)
    unfold fL_loadText
    rw [w3]
    refine w_let ?_
    refine w_letE e20 ?_
    rw [hz, w2, show ts.length / 20 * 20 = ts.length by omega]
    refine w_join (fun j => j (Int32.ofNat ts.length) bytes U = R) hR (fun j hj => ?_)
    exact w_pos (by decide) hj
  · obtain ⟨bytes', U', f1, f2, f3, f4⟩ := l_flush (show ts.length / 20 * 20 + 20 ≤ 500 by omega) w4
    refine go (ts.length / 20 * 20 + 20) bytes' U' (fun i hi => f2 i (by omega) hi) (by omega) (by omega) _ (fun R hR => ?_)
    unfold fL_loadText
    rw [w3]
    refine w_let ?_
    refine w_letE e20 ?_
    rw [w2]
    refine w_join (fun j => j (Int32.ofNat (ts.length / 20 * 20 + 20)) bytes' U' = R) hR (fun j hj => ?_)
    refine w_neg (by rw [n_le0 (by omega)]; exact hz) ?_
    exact w_bind f1 hj
/-- the law's random bill, loaded by the class and made by the law -/
def RBX (prices : Nat → Int32) (old : Nat → ZB) (R : Option (Int32 × Int32 × (Nat → Int32) × Int32 × Int32 × Int32 × Int32 × Int32 × Int32 × Int32 × Int32 × Int32 × (Nat → Int32) × (Nat → Int32) × (Nat → Int32) × (Nat → Int32) × (Nat → Int32) × (Nat → Int32) × (Nat → Int32) × Int32 × Int32 × Int32 × Int32 × (Nat → Int32) × (Nat → Int32) × (Nat → Int32) × (Nat → Int32) × (Nat → Int32) × (Nat → Int32) × (Nat → Int32) × (Nat → Int32 × Int32 × Int32 × Int32 × (Nat → Int32) × (Nat → Int32) × (Nat → Int32) × (Nat → Int32) × (Nat → Int32) × (Nat → Int32) × (Nat → Int32)) × Int32 × Int32 × (Nat → Int32) × (Nat → Int32) × (Nat → Int32) × (Nat → Int32) × (Nat → Int32) × (Nat → Int32) × Int32 × Int32 × Int32 × (Nat → Int32) × Int32 × Int32 × Int32 × (Nat → Int32) × Int32 × Int32 × Int32 × (Nat → Int32) × Nat × (Nat → ZL))) : Prop := ∃ t2 bytes' t3 t4 t5 t6 t7 hh' cc' rr' co' li' es' se' p' w' s' oh' oc' or' oa' oco' oli' oes' ose' op' ow' os' past' next' kept' no' pg' l' us' lo' fi' P' K' T' lots' dc' U' sd bc nn v, R = some (0, t2, bytes', t3, t4, t5, t6, t7, hh', cc', rr', 0, co', li', es', se', p', w', s', oh', oc', or', oa', oco', oli', oes', ose', op', ow', os', past', next', kept', no', pg', l', us', lo', fi', P', K', T', lots', dc', 0, t2, U', sd, hh', rr', bc, nn, v) ∧ SV (hh', cc', rr', 0, co', li', es', se', p', w', s') (hh', rr', 0, bc, nn, v) (no', pg', l', us', lo', fi', P', K', T') lots' dc' prices 0 ∧ HV past' next' kept' old 0
theorem l_randomBill {hh cc rr ac dc priced P K T next kept : Int32} {co li es se p w s lots prices no pg l us lo fi : Nat → Int32} {past : Nat → TB} {old : Nat → ZB} {B : ZB} {r : Nat} (hs : SV (hh, cc, rr, ac, co, li, es, se, p, w, s) B (no, pg, l, us, lo, fi, P, K, T) lots dc prices priced) (hhv : HV past next kept old r) (e1 l1 a1 r1 c1 s1 oh oc orr oa le seed : Int32) (bytes oco oli oes ose op ow os : Nat → Int32) (hbo : RB [] 0 oli oes ose op ow os) :
    RBX prices old (fL_randomBill 0 e1 bytes l1 a1 r1 c1 s1 hh cc rr ac co li es se p w s oh oc orr oa oco oli oes ose op ow os past next kept no pg l us lo fi P K T lots dc priced le (fun _ => 0) seed) := by
  obtain ⟨y1, sd1, hy1, q1⟩ := l_below (k := 8) (by omega) (by omega) seed
  have q1 : fX8_below 8 seed = some (Int32.ofNat y1, sd1) := q1
  obtain ⟨y2, sd2, hy2, q2⟩ := l_below (k := 9) (by omega) (by omega) sd1
  have q2 : fX8_below 9 sd1 = some (Int32.ofNat y2, sd2) := q2
  obtain ⟨H, hH⟩ : ∃ H, H = 4 + y1 := ⟨_, rfl⟩
  obtain ⟨x1, x2, x3, u1, u2⟩ := l_writeAll (WV_nil bytes) (cs := [98, 105, 108, 108]) (small_at small_bill) (m := 1) (by omega) (by decide) (f := upd (fun _ => 0) (0 : Int32).toNatClampNeg (Int32.ofNat H)) (g := fun _ => H) (fun i hi => by
    have : i = 0 := by omega
    subst this
    exact ⟨rfl, by show H < 100; omega⟩)
  have hd := dg_len H
  have hn1 : nums (fun _ => H) 1 = 32 :: dg H := rfl
  rw [List.nil_append, hn1] at u2
  have hl1 : ([98, 105, 108, 108] ++ 32 :: dg H).length ≤ 7 := by
    rw [List.length_append]
    show 4 + ((dg H).length + 1) ≤ 7
    omega
  obtain ⟨x4, x5, x6, u3, u4⟩ := l_write u2 (cs := [59]) (small_at (by decide)) (by show _ + 1 ≤ 450; omega)
  have u3 : fL_write [59] x1 x2 x3 = some (x4, x5, x6) := u3
  obtain ⟨pre, hpre⟩ : ∃ pre, pre = [98, 105, 108, 108] ++ 32 :: dg H ++ [59] := ⟨_, rfl⟩
  rw [← hpre] at u4
  have hlp : pre.length ≤ 8 := by
    rw [hpre, List.length_append]
    show _ + 1 ≤ 8
    omega
  unfold fL_randomBill
  refine x_bind (show fX6_init = some zCosts from rfl) ?_
  refine x_bind q1 ?_
  refine x_letE (show (4 : Int32) + Int32.ofNat y1 = Int32.ofNat H from by rw [hH]; exact (Int32.ofNat_add 4 y1).symm) ?_
  refine x_letE rfl ?_
  refine x_bind u1 ?_
  refine x_bind u3 ?_
  refine x_bind q2 ?_
  refine x_join (fun j => ∀ (ls : List LT) (v : Nat → ZL) (size : Int32) (byt U : Nat → Int32) (sd : Int32), ls.length = y2 → LOK ls → LD ls ≤ 3 → VX ls v → WV (pre ++ lotsT ls) size byt U → RBX prices old (j y2 v size byt U sd)) ?_ (fun j hj => ?_)
  · intro ls v size byt U sd hll hok hld hv hwv
    have hlt := lotsT_len ls
    obtain ⟨y3, sd3, hy3, q3⟩ := l_below (k := 2) (by omega) (by omega) sd
    have q3 : fX8_below 2 sd = some (Int32.ofNat y3, sd3) := q3
    refine x_bind q3 ?_
    refine x_join (fun j => ∀ (cg : Option (Nat → Nat)) (bc : Nat → Int32) (size : Int32) (byt U : Nat → Int32) (sd : Int32), (∀ g, cg = some g → ∀ i, i < 5 → g i < 100) → (∀ k, k < 5 → bc k = costsF cg k) → WV (pre ++ lotsT ls ++ costsT cg) size byt U → RBX prices old (j bc size byt U sd)) ?_ (fun j hj => ?_)
    · intro cg bc size byt U sd hcg hbc hwv
      obtain ⟨y4, sd4, hy4, q4⟩ := l_below (k := 2) (by omega) (by omega) sd
      have q4 : fX8_below 2 sd = some (Int32.ofNat y4, sd4) := q4
      have hlc : (pre ++ lotsT ls ++ costsT cg).length ≤ 8 + 17 * 8 + 21 := by
        rw [List.length_append, List.length_append]
        cases cg with
        | none => show _ + 0 ≤ _; omega
        | some g =>
          have hg5 := nums_len g 5
          show _ + ([99, 111, 115, 116, 115] ++ (nums g 5 ++ [59])).length ≤ _
          rw [List.length_append, List.length_append]
          show _ + (5 + (_ + 1)) ≤ _
          omega
      refine x_bind q4 ?_
      refine x_join (fun j => ∀ (sv : Option Nat) (size : Int32) (byt U : Nat → Int32) (sd : Int32), (∀ v, sv = some v → 1 ≤ v ∧ v ≤ 9) → WV (pre ++ lotsT ls ++ costsT cg ++ slipT sv) size byt U → RBX prices old (j (Int32.ofNat (sv.getD 3)) size byt U sd)) ?_ (fun j hj => ?_)
      · intro sv size byt U sd hsv hwv
        have hts : pre ++ lotsT ls ++ costsT cg ++ slipT sv = billT H ls cg sv := by
          rw [hpre]
          unfold billT
          simp only [List.append_assoc, List.cons_append, List.nil_append]
        obtain ⟨bytes', U', t2, t3, t4, t5, t6, t7, cc', co', li', es', se', p', w', s', oh', oc', or', oa', oco', oli', oes', ose', op', ow', os', past', next', kept', no', pg', l', us', lo', fi', P', K', T', lots', dc', v1, v2, v3⟩ := l_loadText hts hwv (by omega) (by omega) (by omega) hok hcg hsv (by omega) hbc hv hs hhv e1 l1 a1 r1 c1 s1 oh oc orr oa le oco oli oes ose op ow os hbo
        refine x_bind v1 ?_
        refine x_pos (by rw [hll]) ?_
        rw [hll] at v2
        exact ⟨t2, bytes', t3, t4, t5, t6, t7, Int32.ofNat H, cc', Int32.ofNat (sv.getD 3), co', li', es', se', p', w', s', oh', oc', or', oa', oco', oli', oes', ose', op', ow', os', past', next', kept', no', pg', l', us', lo', fi', P', K', T', lots', dc', U', sd, bc, y2, v, rfl, v2, v3⟩
      · by_cases h0 : y4 = 0
        · refine x_pos (by rw [h0]; rfl) ?_
          obtain ⟨y5, sd5, hy5, q5⟩ := l_below (k := 4) (by omega) (by omega) sd4
          have q5 : fX8_below 4 sd4 = some (Int32.ofNat y5, sd5) := q5
          refine x_bind q5 ?_
          refine x_letE (show (1 : Int32) + Int32.ofNat y5 = Int32.ofNat (y5 + 1) from by rw [Int32.add_comm, n_s]) ?_
          refine x_letE rfl ?_
          obtain ⟨z1, z2, z3, w1, w2⟩ := l_writeAll hwv (cs := [115, 108, 105, 112]) (small_at small_slip) (m := 1) (by omega) (by show _ + 4 + 3 ≤ 430; omega) (f := upd (fun _ => 0) (0 : Int32).toNatClampNeg (Int32.ofNat (y5 + 1))) (g := fun _ => y5 + 1) (fun i hi => by
            have : i = 0 := by omega
            subst this
            exact ⟨rfl, by show y5 + 1 < 100; omega⟩)
          have hd5 := dg_len (y5 + 1)
          have hn5 : nums (fun _ => y5 + 1) 1 = 32 :: dg (y5 + 1) := rfl
          rw [hn5] at w2
          obtain ⟨z4, z5, z6, w3, w4⟩ := l_write w2 (cs := [59]) (small_at (by decide)) (by
            have h9 : ([115, 108, 105, 112] ++ 32 :: dg (y5 + 1)).length = 4 + ((dg (y5 + 1)).length + 1) := by rw [List.length_append]; rfl
            rw [List.length_append, h9]
            show _ + (4 + (_ + 1)) + 1 ≤ 450
            omega)
          have w3 : fL_write [59] z1 z2 z3 = some (z4, z5, z6) := w3
          refine x_bind w1 ?_
          refine x_bind w3 ?_
          refine hj (some (y5 + 1)) z4 z5 z6 sd5 (fun v hv => by cases hv; omega) ?_
          have e : pre ++ lotsT ls ++ costsT cg ++ ([115, 108, 105, 112] ++ 32 :: dg (y5 + 1)) ++ [59] = pre ++ lotsT ls ++ costsT cg ++ ([115, 108, 105, 112] ++ (32 :: (dg (y5 + 1) ++ [59]))) := by
            simp only [List.append_assoc, List.cons_append, List.nil_append]
          rw [e] at w4
          exact w4
        · refine x_neg (fun h => h0 ((n_eq0 (by omega)).mp h)) ?_
          exact hj none size byt U sd4 (fun v hv => by cases hv) (by show WV (pre ++ lotsT ls ++ costsT cg ++ []) size byt U; rw [List.append_nil]; exact hwv)
    · by_cases h0 : y3 = 0
      · refine x_pos (by rw [h0]; rfl) ?_
        refine x_join (fun j => ∀ (g : Nat → Nat) (a : Nat → Int32) (sd : Int32), (∀ i, i < 5 → a i = Int32.ofNat (g i) ∧ g i < 100) → RBX prices old (j a sd)) (fun g a sd hg => ?_) (fun j hj => ?_)
        · have hg5 := nums_len g 5
          have hlp2 : (pre ++ lotsT ls).length ≤ 8 + 17 * 8 := by rw [List.length_append]; omega
          obtain ⟨z1, z2, z3, w1, w2⟩ := l_writeAll hwv (cs := [99, 111, 115, 116, 115]) (small_at small_costs) (m := 5) (by omega) (by show _ + 5 + 15 ≤ 430; omega) hg
          obtain ⟨z4, z5, z6, w3, w4⟩ := l_write w2 (cs := [59]) (small_at (by decide)) (by
            have h9 : ([99, 111, 115, 116, 115] ++ nums g 5).length = 5 + (nums g 5).length := by rw [List.length_append]; rfl
            rw [List.length_append, h9]
            show _ + (5 + _) + 1 ≤ 450
            omega)
          have w3 : fL_write [59] z1 z2 z3 = some (z4, z5, z6) := w3
          refine x_bind w1 ?_
          refine x_bind w3 ?_
          refine hj (some g) a z4 z5 z6 sd (fun g' hg' => by cases hg'; exact fun i hi => (hg i hi).2) (fun k hk => (hg k hk).1) ?_
          have e : pre ++ lotsT ls ++ ([99, 111, 115, 116, 115] ++ nums g 5) ++ [59] = pre ++ lotsT ls ++ ([99, 111, 115, 116, 115] ++ (nums g 5 ++ [59])) := by
            simp only [List.append_assoc]
          rw [e] at w4
          exact w4
        · obtain ⟨g, a, sd, k1, k2⟩ := l_L262 j zCosts sd3
          rw [k1]
          exact hj g a sd k2
      · refine x_neg (fun h => h0 ((n_eq0 (by omega)).mp h)) ?_
        exact hj none zCosts size byt U sd3 (fun g hg => by cases hg) (fun k _ => rfl) (by show WV (pre ++ lotsT ls ++ []) size byt U; rw [List.append_nil]; exact hwv)
  · exact l_L58 (Pr := RBX prices old) (H := H) (many := y2) (by omega) (by omega) (by omega) (pre := pre) (by omega) hj y2 [] 12 x4 x5 x6 sd2 (fun _ => ((0 : Int32), (0 : Int32), (0 : Int32), (0 : Int32), (0 : Int32), (0 : Int32))) (Nat.zero_add y2) (by omega) (fun x hx => absurd hx (List.not_mem_nil)) (Nat.zero_le _) (fun i hi => absurd hi (Nat.not_lt_zero _)) (by show WV (pre ++ []) x4 x5 x6; rw [List.append_nil]; exact u4)
