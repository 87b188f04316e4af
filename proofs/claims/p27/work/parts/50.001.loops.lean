/-! loops with a counter, as folds -/
def zfold {σ : Type} (g : Nat → σ → σ) (k : Nat) : Nat → σ → σ
  | 0, s => s
  | m + 1, s => zfold g (k + 1) m (g k s)
theorem n_for {σ ρ : Type} (F : Nat → Nat → σ → Option ρ) (n : Nat) (g : Nat → σ → σ) (ex : σ → Option ρ) (P : Nat → σ → Prop) (hP : ∀ k s, k < n → P k s → P (k + 1) (g k s)) (hx : ∀ f s, P n s → F (f + 1) n s = ex s) (hs : ∀ f k s, k < n → P k s → F (f + 1) k s = F f (k + 1) (g k s)) :
    ∀ (m k fuel : Nat) (s : σ), k + m = n → m < fuel → P k s → F fuel k s = ex (zfold g k m s)
  | 0, k, fuel, s, h, hf, hp => by
    obtain ⟨f, rfl⟩ : ∃ f, fuel = f + 1 := ⟨fuel - 1, by omega⟩
    have e : k = n := by omega
    subst e
    exact hx f s hp
  | m + 1, k, fuel, s, h, hf, hp => by
    obtain ⟨f, rfl⟩ : ∃ f, fuel = f + 1 := ⟨fuel - 1, by omega⟩
    rw [hs f k s (by omega) hp]
    exact n_for F n g ex P hP hx hs m (k + 1) f (g k s) (by omega) (by omega) (hP k s (by omega) hp)
theorem n_for0 {σ ρ : Type} (F : Nat → Nat → σ → Option ρ) (n : Nat) (g : Nat → σ → σ) (ex : σ → Option ρ) (hx : ∀ f s, F (f + 1) n s = ex s) (hs : ∀ f k s, k < n → F (f + 1) k s = F f (k + 1) (g k s)) (m k fuel : Nat) (s : σ) (h : k + m = n) (hf : m < fuel) : F fuel k s = ex (zfold g k m s) :=
  n_for F n g ex (fun _ _ => True) (fun _ _ _ _ => trivial) (fun f s _ => hx f s) (fun f k s hk _ => hs f k s hk) m k fuel s h hf trivial
theorem zfold_sum (g : Nat → Int32) : ∀ (m k : Nat) (s : Int32), zfold (fun k s => s + g k) k m s = s + zsum g k m
  | 0, k, s => by unfold zfold zsum; rw [Int32.add_zero]
  | m + 1, k, s => by unfold zfold zsum; rw [zfold_sum g m (k + 1), Int32.add_assoc]
theorem zfold_inv {σ : Type} {g : Nat → σ → σ} (P : Nat → σ → Prop) (n : Nat) (hP : ∀ k s, k < n → P k s → P (k + 1) (g k s)) : ∀ (m k : Nat) (s : σ), k + m = n → P k s → P n (zfold g k m s)
  | 0, k, s, h, hp => by
    have e : k = n := by omega
    subst e
    exact hp
  | m + 1, k, s, h, hp => zfold_inv P n hP m (k + 1) (g k s) (by omega) (hP k s (by omega) hp)
/-- a loop that may stop: the first place that stops gives the answer -/
def zfind {σ ρ : Type} (st : Nat → σ → Option ρ) (g : Nat → σ → σ) (ex : σ → ρ) (k : Nat) : Nat → σ → ρ
  | 0, s => ex s
  | m + 1, s => match st k s with
    | some r => r
    | none => zfind st g ex (k + 1) m (g k s)
theorem n_find {σ ρ : Type} (F : Nat → Nat → σ → Option ρ) (n : Nat) (st : Nat → σ → Option ρ) (g : Nat → σ → σ) (ex : σ → ρ) (hx : ∀ f s, F (f + 1) n s = some (ex s)) (hs : ∀ f k s, k < n → F (f + 1) k s = (match st k s with | some r => some r | none => F f (k + 1) (g k s))) :
    ∀ (m k fuel : Nat) (s : σ), k + m = n → m < fuel → F fuel k s = some (zfind st g ex k m s)
  | 0, k, fuel, s, h, hf => by
    obtain ⟨f, rfl⟩ : ∃ f, fuel = f + 1 := ⟨fuel - 1, by omega⟩
    have e : k = n := by omega
    subst e
    exact hx f s
  | m + 1, k, fuel, s, h, hf => by
    obtain ⟨f, rfl⟩ : ∃ f, fuel = f + 1 := ⟨fuel - 1, by omega⟩
    rw [hs f k s (by omega)]
    unfold zfind
    cases st k s with
    | some r => rfl
    | none => exact n_find F n st g ex hx hs m (k + 1) f (g k s) (by omega) (by omega)
