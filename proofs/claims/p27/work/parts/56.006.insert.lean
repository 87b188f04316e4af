/-! ===== a lot put in ===== -/
theorem n_dec (a : Nat) : Int32.ofNat (a + 1) + (-1 : Int32) = Int32.ofNat a := by
  rw [← Int32.sub_eq_add_neg]; exact n_p a
def zsh {α : Type} (g : Nat → α) (c n j : Nat) : α := if c < j ∧ j ≤ n then g (j - 1) else g j
def zin {α : Type} (g : Nat → α) (n a : Nat) (v : α) (j : Nat) : α := if j = a then v else if a < j ∧ j ≤ n then g (j - 1) else g j
theorem zsh_step (g : Nat → Int32) {c n : Nat} (h : c < n) : upd (zsh g (c + 1) n) (c + 1) (zsh g (c + 1) n c) = zsh g c n := by
  funext j
  by_cases e : j = c + 1
  · subst e
    refine upd_same.trans ?_
    unfold zsh
    rw [if_neg (by omega), if_pos (by omega), Nat.add_sub_cancel]
  · refine (upd_ne e).trans ?_
    unfold zsh
    by_cases h2 : c + 1 < j ∧ j ≤ n
    · rw [if_pos h2, if_pos (by omega)]
    · rw [if_neg h2, if_neg (by omega)]
theorem zsh_low (g : Nat → Int32) {c n : Nat} : zsh g (c + 1) n c = g c := by unfold zsh; rw [if_neg (by omega)]
theorem zsh_n (g : Nat → Int32) (n : Nat) : zsh g n n = g := by funext j; unfold zsh; rw [if_neg (by omega)]
theorem zin_sh (g : Nat → Int32) (n a : Nat) (v : Int32) : upd (zsh g a n) a v = zin g n a v := by
  funext j
  by_cases e : j = a
  · subst e; refine upd_same.trans ?_; unfold zin; rw [if_pos rfl]
  · refine (upd_ne e).trans ?_
    unfold zin zsh
    rw [if_neg e]
theorem zct_zin (f : Nat → Bool) {a : Nat} (v : Bool) : ∀ n : Nat, a ≤ n → zct (zin f n a v) (n + 1) = zct f n + (if v = true then 1 else 0) := by
  intro n hn
  have low : ∀ k, k ≤ a → zct (zin f n a v) k = zct f k := fun k hk => zct_congr k (fun i hi => by unfold zin; rw [if_neg (by omega), if_neg (by omega)])
  have key : ∀ k, a + k ≤ n → zct (zin f n a v) (a + k + 1) = zct f (a + k) + (if v = true then 1 else 0) := fun k => by
    induction k with
    | zero =>
      intro _
      show zct (zin f n a v) a + (if zin f n a v a = true then 1 else 0) = _
      rw [low a (Nat.le_refl _)]
      unfold zin
      rw [if_pos rfl]
      rfl
    | succ k ih =>
      intro hk
      show zct (zin f n a v) (a + k + 1) + (if zin f n a v (a + k + 1) = true then 1 else 0) = zct f (a + k) + (if f (a + k) = true then 1 else 0) + _
      rw [ih (by omega)]
      have : zin f n a v (a + k + 1) = f (a + k) := by
        unfold zin
        rw [if_neg (by omega), if_pos (by omega), Nat.add_sub_cancel]
      rw [this]
      omega
  have := key (n - a) (by omega)
  rw [show a + (n - a) = n by omega] at this
  exact this
section ZIN
variable {H n m : Nat} {ln : Nat → Nat} {pr wa sl : Nat → Bool} {hh cc rr ac dc : Int32} {co es se d li p w s lots : Nat → Int32}
theorem c_move {c : Nat} (hc : c + 1 < 24) (a1 a2 a3 a4 a5 a6 : Nat → Int32) {x y z : Bool} (h4 : a4 c = zbi x) (h5 : a5 c = zbi y) (h6 : a6 c = zbi z) :
    fX0_moveOneFurther (Int32.ofNat c) a1 a2 a3 a4 a5 a6 = some (upd a1 (c + 1) (a1 c), upd a2 (c + 1) (a2 c), upd a3 (c + 1) (a3 c), upd a4 (c + 1) (a4 c), upd a5 (c + 1) (a5 c), upd a6 (c + 1) (a6 c)) := by
  unfold fX0_moveOneFurther
  rw [if_neg (n_lt0 (by omega)), n_s, if_pos (show Int32.ofNat (c + 1) < 24 from (n_lt (b := 24) (by omega) (by omega)).mpr hc)]
  simp (disch := omega) only [n_rd, n_cl, n_let, h4, h5, h6, vp_narB]
theorem c_insert (hn : n < 24) (hp : ∀ i, i < 24 → p i = zbi (pr i)) (hw : ∀ i, i < 24 → w i = zbi (wa i)) (hs : ∀ i, i < 24 → s i = zbi (sl i)) {a : Nat} (ha : a ≤ n) (v1 v2 v3 : Int32) :
    fX0_insert (Int32.ofNat a) v1 v2 v3 (Int32.ofNat n) li es se p w s = some (Int32.ofNat (n + 1), zin li n a v1, zin es n a v2, zin se n a v3, zin p n a 0, zin w n a 0, zin s n a 0) := by
  have e0 : vp_nar .boolean (0 : Int32) = 0 := vp_narB false
  have loop : ∀ j : (Nat → Int32) → (Nat → Int32) → (Nat → Int32) → (Nat → Int32) → (Nat → Int32) → (Nat → Int32) → Option (Int32 × (Nat → Int32) × (Nat → Int32) × (Nat → Int32) × (Nat → Int32) × (Nat → Int32) × (Nat → Int32)), fX0_insert_L28 (Int32.ofNat a) j 1024 (Int32.ofNat n) li es se p w s = j (zsh li a n) (zsh es a n) (zsh se a n) (zsh p a n) (zsh w a n) (zsh s a n) := fun j => by
    have key := n_inv (fun f k (q : (Nat → Int32) × (Nat → Int32) × (Nat → Int32) × (Nat → Int32) × (Nat → Int32) × (Nat → Int32)) => fX0_insert_L28 (Int32.ofNat a) j f (Int32.ofNat (n - k)) q.1 q.2.1 q.2.2.1 q.2.2.2.1 q.2.2.2.2.1 q.2.2.2.2.2) (n - a) (fun q => j q.1 q.2.1 q.2.2.1 q.2.2.2.1 q.2.2.2.2.1 q.2.2.2.2.2) (fun k q => q = (zsh li (n - k) n, zsh es (n - k) n, zsh se (n - k) n, zsh p (n - k) n, zsh w (n - k) n, zsh s (n - k) n)) (fun f q hq => by
        have : Int32.ofNat (n - (n - a)) ≤ Int32.ofNat a := (n_le (by omega) (by omega)).mpr (by omega)
        simp only [fX0_insert_L28, this, if_true]) (fun f k q hk hq => by
        obtain ⟨c, hc⟩ : ∃ c, n - k = c + 1 := ⟨n - k - 1, by omega⟩
        have hc2 : n - (k + 1) = c := by omega
        refine ⟨_, rfl, ?_⟩
        subst hq
        have hle : ¬ Int32.ofNat (c + 1) ≤ Int32.ofNat a := fun h => by
          have := (n_le (by omega) (by omega)).mp h; omega
        rw [hc, hc2]
        have hm := c_move (c := c) (by omega) (zsh li (c + 1) n) (zsh es (c + 1) n) (zsh se (c + 1) n) (zsh p (c + 1) n) (zsh w (c + 1) n) (zsh s (c + 1) n) (zsh_low p ▸ hp c (by omega)) (zsh_low w ▸ hw c (by omega)) (zsh_low s ▸ hs c (by omega))
        rw [zsh_step li (by omega), zsh_step es (by omega), zsh_step se (by omega), zsh_step p (by omega), zsh_step w (by omega), zsh_step s (by omega)] at hm
        simp only [fX0_insert_L28, hle, if_false, n_p, hm, n_bind, n_let, n_dec])
      (n - a) 0 1024 (li, es, se, p, w, s) (by omega) (by omega) (by rw [Nat.sub_zero, zsh_n, zsh_n, zsh_n, zsh_n, zsh_n, zsh_n])
    obtain ⟨q, q1, q2⟩ := key
    subst q1
    rw [show n - (n - a) = a by omega] at q2
    exact q2
  unfold fX0_insert
  rw [if_neg (fun h => by
    have := (n_le (a := 24) (by omega) (by omega)).mp h
    omega), if_neg (n_lt0 (by omega)), if_pos ((n_le (by omega) (by omega)).mpr ha), n_let, loop]
  simp (disch := omega) only [n_rd, n_cl, n_let, e0, zin_sh, n_s]
end ZIN
