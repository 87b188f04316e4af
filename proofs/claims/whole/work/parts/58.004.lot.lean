def RS (L : Nat) (ea0 ea0' : Int32) (a : Nat) (er ea ea' pos : Int32) : Prop := (er = 0 ∧ ea = ea0 ∧ ea' = ea0' ∧ pos = Int32.ofNat a ∧ a ≤ L) ∨ (¬ er = 0 ∧ ea' = ea)
def PB (H n m : Nat) (ln : Nat → Nat) (pr wa sl : Nat → Bool) (hh cc rr : Int32) (co li es se p w s d : Nat → Int32) : Prop := NW H n m ln pr wa ∧ BV H n m ln pr wa sl hh cc rr li p w s ∧ MV H n m ln pr wa sl 0 co es se d ∧ ∀ i, n ≤ i → i < 24 → d (9 + 6 * i + 5) = 0
def PX (hh cc rr : Int32) (co li es se p w s d : Nat → Int32) : Prop := ∃ H n m ln pr wa sl, PB H n m ln pr wa sl hh cc rr co li es se p w s d
def BO (p w s : Nat → Int32) : Prop := ∃ pr wa sl : Nat → Bool, (∀ i, i < 24 → p i = zbi (pr i)) ∧ (∀ i, i < 24 → w i = zbi (wa i)) ∧ ∀ i, i < 24 → s i = zbi (sl i)
section ZLO
variable {L : Nat} {bytes buf : Nat → Int32}
theorem r_one (hL : L ≤ 500) (hb : ∀ i, i < L → bytes i &&& 255 = buf i) {lo hi a : Nat} (hlo : lo ≤ hi) (hh : hi ≤ 9999) (ha : a ≤ 700) {er ea ea' pos ea0 ea0' : Int32} (hst : RS L ea0 ea0' a er ea ea' pos) (ns : Int32) :
    ∃ (v vm : Int32) (a1 : Nat) (er1 ea1 ea1' pos1 ns1 : Int32), fX4_takeNumber (Int32.ofNat lo) (Int32.ofNat hi) ea bytes (Int32.ofNat L) (Int32.ofNat a) er = some (v, ea1, Int32.ofNat a1, er1) ∧ fX6_number (Int32.ofNat lo) (Int32.ofNat hi) buf (Int32.ofNat L) pos er ea' ns = some (vm, pos1, er1, ea1', ns1) ∧ a1 ≤ 700 ∧ RS L ea0 ea0' a1 er1 ea1 ea1' pos1 ∧ (er1 = 0 → er = 0 ∧ a < a1 ∧ ∃ k : Nat, v = Int32.ofNat k ∧ vm = Int32.ofNat k ∧ lo ≤ k ∧ k ≤ hi) := by
  rcases hst with ⟨rfl, rfl, rfl, rfl, h5⟩ | ⟨he, rfl⟩
  · obtain ⟨a1, k1, k2, ns1, ⟨v, v1, v2, v3, v4, v5⟩ | ⟨vc, er1, x, x1, x2, x3⟩⟩ := r_num (lo := lo) (hi := hi) (bytes := bytes) (buf := buf) hL hb hlo hh (show a < 8000 by omega) ea ns ea'
    · exact ⟨_, _, a1, 0, ea, ea', _, ns1, v4, v5, by omega, Or.inl ⟨rfl, rfl, rfl, rfl, by omega⟩, fun _ => ⟨rfl, v3, v, rfl, rfl, v1, v2⟩⟩
    · exact ⟨_, _, a1, er1, x, x, _, ns1, x2, x3, by omega, Or.inr ⟨x1, rfl⟩, fun h => absurd h x1⟩
  · obtain ⟨v, a1, k1, k2⟩ := c_num_err hL hb (show a < 8000 by omega) he (Int32.ofNat lo) (Int32.ofNat hi) ea'
    exact ⟨v, 0, a1, er, ea', ea', pos, ns, k2, m_num_err he _ _ pos ea' ns, by omega, Or.inr ⟨he, rfl⟩, fun h => absurd h he⟩
theorem zw_out (i : Nat) (h : i < 3) : ¬ zch (([111, 117, 116] : List Int32).getD i 0) = -1 := by
  have : i = 0 ∨ i = 1 ∨ i = 2 := by omega
  rcases this with rfl | rfl | rfl <;> decide
theorem zw_in (i : Nat) (h : i < 2) : ¬ zch (([105, 110] : List Int32).getD i 0) = -1 := by
  have : i = 0 ∨ i = 1 := by omega
  rcases this with rfl | rfl <;> decide
/-- the lot behind its numbers, in the model -/
def zdl (d : Nat → Int32) (n : Nat) (v1 v2 v3 : Int32) (out inn : Bool) : Nat → Int32 := upd (if out = true then upd (upd (upd (upd (upd (upd d (9 + 6 * n + 0) v1) (9 + 6 * n + 1) v2) (9 + 6 * n + 2) v3) (9 + 6 * n + 3) 1) (9 + 6 * n + 4) 1) (9 + 6 * n + 4) 0 else if inn = true then upd (upd (upd (upd (upd (upd d (9 + 6 * n + 0) v1) (9 + 6 * n + 1) v2) (9 + 6 * n + 2) v3) (9 + 6 * n + 3) 1) (9 + 6 * n + 4) 1) (9 + 6 * n + 3) 0 else upd (upd (upd (upd (upd d (9 + 6 * n + 0) v1) (9 + 6 * n + 1) v2) (9 + 6 * n + 2) v3) (9 + 6 * n + 3) 1) (9 + 6 * n + 4) 1) 1 (Int32.ofNat (n + 1))
section ZLB
variable {H n m : Nat} {ln : Nat → Nat} {pr wa sl : Nat → Bool} {hh cc rr : Int32} {co es se d li p w s : Nat → Int32}
theorem zdl_lo {v1 v2 v3 : Int32} {out inn : Bool} {y : Nat} (h1 : y ≠ 1) (h : y < 9 + 6 * n ∨ 9 + 6 * n + 5 ≤ y) : zdl d n v1 v2 v3 out inn y = d y := by
  unfold zdl
  rw [upd_ne h1]
  split
  · simp (disch := omega) only [upd_ne]
  · split <;> simp (disch := omega) only [upd_ne]
theorem lot_PB (h : PB H n m ln pr wa sl hh cc rr co li es se p w s d) (hn : n < 24) {l : Nat} (hl : 1 ≤ l ∧ l ≤ 9 ∧ l ≤ H) (v2 v3 : Int32) (out inn : Bool) (ho : ¬ (out = true ∧ inn = true)) :
    MV H (n + 1) m (zin ln n n l) (zin pr n n (!inn)) (zin wa n n (!out)) (zin sl n n false) 0 co (zin es n n v2) (zin se n n v3) (zdl d n (Int32.ofNat l) v2 v3 out inn) ∧ zct (zdfb (zin pr n n (!inn)) (zin wa n n (!out))) (n + 1) = zct (zdfb pr wa) n + (if (out || inn) = true then 1 else 0) ∧
    (zct (zdfb pr wa) n + (if (out || inn) = true then 1 else 0) ≤ 8 → PB H (n + 1) m (zin ln n n l) (zin pr n n (!inn)) (zin wa n n (!out)) (zin sl n n false) hh (Int32.ofNat (n + 1)) rr co (zin li n n (Int32.ofNat l)) (zin es n n v2) (zin se n n v3) (zin p n n (zbi (!inn))) (zin w n n (zbi (!out))) (zin s n n 0) (zdl d n (Int32.ofNat l) v2 v3 out inn)) := by
  obtain ⟨⟨w1, w2, w3, w4, w5, w6, w7⟩, ⟨b1, b2, b3, b4, b5, b6, b7⟩, ⟨m1, m2, m3, m4, m5, m6⟩, hz⟩ := h
  have zlt : ∀ {α : Type} (f : Nat → α) (v : α) (i : Nat), i < n → zin f n n v i = f i := fun f v i hi => by
    unfold zin; rw [if_neg (by omega), if_neg (by omega)]
  have zeq : ∀ {α : Type} (f : Nat → α) (v : α), zin f n n v n = v := fun f v => by unfold zin; rw [if_pos rfl]
  have zgt : ∀ {α : Type} (f : Nat → α) (v : α) (i : Nat), n < i → zin f n n v i = f i := fun f v i hi => by
    unfold zin; rw [if_neg (by omega), if_neg (by omega)]
  have zz : ∀ (f : Nat → Int32) (g : Nat → Bool) (v : Int32) (b : Bool), (∀ i, i < 24 → f i = zbi (g i)) → v = zbi b → ∀ i, i < 24 → zin f n n v i = zbi (zin g n n b i) := fun f g v b hf hv i hi => by
    rcases Nat.lt_trichotomy i n with h | h | h
    · rw [zlt f v i h, zlt g b i h]; exact hf i hi
    · subst h; rw [zeq, zeq]; exact hv
    · rw [zgt f v i h, zgt g b i h]; exact hf i hi
  have hD : zct (zdfb (zin pr n n (!inn)) (zin wa n n (!out))) (n + 1) = zct (zdfb pr wa) n + (if (out || inn) = true then 1 else 0) := by
    show zct (zdfb (zin pr n n (!inn)) (zin wa n n (!out))) n + (if zdfb (zin pr n n (!inn)) (zin wa n n (!out)) n = true then 1 else 0) = _
    rw [zct_congr (g := zdfb pr wa) n (fun i hi => by unfold zdfb; rw [zlt pr _ i hi, zlt wa _ i hi])]
    unfold zdfb
    rw [zeq, zeq]
    cases out <;> cases inn <;> simp at ho ⊢
  have hm' : MV H (n + 1) m (zin ln n n l) (zin pr n n (!inn)) (zin wa n n (!out)) (zin sl n n false) 0 co (zin es n n v2) (zin se n n v3) (zdl d n (Int32.ofNat l) v2 v3 out inn) := by
    refine ⟨(zdl_lo (by omega) (by omega)).trans m1, upd_same, (zdl_lo (by omega) (by omega)).trans m3, (zdl_lo (by omega) (by omega)).trans m4, fun k hk => (zdl_lo (by omega) (by omega)).trans (m5 k hk), fun i hi => ?_⟩
    by_cases e : i = n
    · subst e
      rw [zeq, zeq, zeq, zeq, zeq, zeq]
      unfold zdl
      cases out
      · cases inn
        · refine ⟨?_, ?_, ?_, ?_, ?_, ?_⟩
          all_goals simp (disch := omega) only [upd_ne, upd_same, Bool.false_eq_true, if_false]
          · rfl
          · rfl
          · exact hz i (Nat.le_refl _) (by omega)
        · refine ⟨?_, ?_, ?_, ?_, ?_, ?_⟩
          all_goals simp (disch := omega) only [upd_ne, upd_same, Bool.false_eq_true, if_false, if_true]
          · rfl
          · rfl
          · exact hz i (Nat.le_refl _) (by omega)
      · cases inn
        · refine ⟨?_, ?_, ?_, ?_, ?_, ?_⟩
          all_goals simp (disch := omega) only [upd_ne, upd_same, Bool.false_eq_true, if_false, if_true]
          · rfl
          · rfl
          · exact hz i (Nat.le_refl _) (by omega)
        · exact absurd ⟨rfl, rfl⟩ ho
    · have hi2 : i < n := by omega
      obtain ⟨d0, d1, d2, d3, d4, d5⟩ := m6 i hi2
      rw [zlt ln _ i hi2, zlt es _ i hi2, zlt se _ i hi2, zlt pr _ i hi2, zlt wa _ i hi2, zlt sl _ i hi2]
      exact ⟨(zdl_lo (by omega) (by omega)).trans d0, (zdl_lo (by omega) (by omega)).trans d1, (zdl_lo (by omega) (by omega)).trans d2, (zdl_lo (by omega) (by omega)).trans d3, (zdl_lo (by omega) (by omega)).trans d4, (zdl_lo (by omega) (by omega)).trans d5⟩
  refine ⟨hm', hD, fun h8 => ⟨⟨w1, w2, by omega, w4, w5, fun i hi => ?_, by rw [hD]; exact h8⟩, ⟨b1, rfl, b3, fun i hi => ?_, zz p pr _ _ b5 rfl, zz w wa _ _ b6 rfl, zz s sl 0 false b7 rfl⟩, hm', fun i h1 h2 => (zdl_lo (by omega) (by omega)).trans (hz i (by omega) h2)⟩⟩
  · by_cases e : i = n
    · subst e; rw [zeq]; exact hl
    · rw [zlt ln l i (by omega)]; exact w6 i (by omega)
  · show zin li n n (Int32.ofNat l) i = Int32.ofNat (zin ln n n l i)
    by_cases e : i = n
    · subst e; rw [zeq, zeq]
    · rw [zlt li _ i (by omega), zlt ln l i (by omega)]; exact b4 i (by omega)
end ZLB
end ZLO
