/-! ===== the checksum ===== -/
theorem n_zip {σ R R' : Type} (F : Nat → Nat → σ → R) (G : Nat → Nat → σ → R') (n : Nat) (ex : σ → R) (ex' : σ → R') (hx : ∀ f s, F (f + 1) n s = ex s) (hx' : ∀ f s, G (f + 1) n s = ex' s) (hs : ∀ k s, k < n → ∃ s', (∀ f, F (f + 1) k s = F f (k + 1) s') ∧ ∀ f, G (f + 1) k s = G f (k + 1) s') :
    ∀ (m k fuel : Nat) (s : σ), k + m = n → m < fuel → ∃ s', F fuel k s = ex s' ∧ G fuel k s = ex' s'
  | 0, k, fuel, s, h, hf => by
    obtain ⟨f, rfl⟩ : ∃ f, fuel = f + 1 := ⟨fuel - 1, by omega⟩
    have e : k = n := by omega
    subst e
    exact ⟨s, hx f s, hx' f s⟩
  | m + 1, k, fuel, s, h, hf => by
    obtain ⟨f, rfl⟩ : ∃ f, fuel = f + 1 := ⟨fuel - 1, by omega⟩
    obtain ⟨s1, h1, h2⟩ := hs k s (by omega)
    obtain ⟨s2, h3, h4⟩ := n_zip F G n ex ex' hx hx' hs m (k + 1) f s1 (by omega) (by omega)
    exact ⟨s2, (h1 f).trans h3, (h2 f).trans h4⟩
theorem o_runR {α β : Type} (a : α) (k : α → Option β) : o_run (some (.inr a)) k = k a := rfl
section ZSU
variable {H n m : Nat} {ln : Nat → Nat} {pr wa sl : Nat → Bool} {hh cc rr ac dc : Int32} {co es se d li p w s lots : Nat → Int32} {no pg l us lo fi : Nat → Int32} {P K T : Int32}
theorem c_choice (hw : NW H n m ln pr wa) (hb : BV H n m ln pr wa sl hh cc rr li p w s) (hy : YOK H ln pr n (no, pg, l, us, lo, fi, P, K, T)) (hc : CV n pr wa lots dc) {k q : Nat} (hk : k < 2 ^ zct (zdfb pr wa) n) (hq : q < 7) (fg vno vpg vl vus vlo vfi : Nat → Int32) (vP vK vT : Int32) (pb ch : Nat → Int32) :
    ∃ f1 v2 v3 v4 v5 v6 v7 v8 v9 v10 v11 v12, fX5_choice (Int32.ofNat k) (Int32.ofNat q) hh cc rr co li p w s no pg l us P lots fg dc vno vpg vl vus vlo vfi vP vK vT pb ch = some (.inr (zfig H n m ln pr wa sl co (Int32.ofNat k) q, f1, v2, v3, v4, v5, v6, v7, v8, v9, v10, v11, v12)) := by
  have hD := hw.2.2.2.2.2.2
  have pw := (n_pow2 hD).1
  obtain ⟨f1, v2, v3, v4, v5, v6, v7, v8, v9, v10, v11, v12, h1, h2⟩ := c_measure (co := co) hw hb hc hy (Int32.ofNat k) fg vno vpg vl vus vlo vfi vP vK vT pb ch
  refine ⟨f1, v2, v3, v4, v5, v6, v7, v8, v9, v10, v11, v12, ?_⟩
  unfold fX5_choice
  rw [c_needChoice_t hD hc hk, o_tryR, if_neg (n_lt0 (by omega)), if_pos (show Int32.ofNat q < 7 from n_nge (n := 7) (by omega) hq), h1, n_bind]
  show o_rd 7 (Int32.ofNat q) (some (Sum.inr (f1 (Int32.ofNat q).toNatClampNeg, _))) = _
  rw [n_rd (by omega) (by omega), n_cl (by omega), h2 q hq]
end ZSU
