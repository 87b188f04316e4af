def zCosts : Nat → Int32 := upd (upd (upd (upd (upd (fun _ => 0) (0 : Int32).toNatClampNeg (1 : Int32)) (1 : Int32).toNatClampNeg (5 : Int32)) (2 : Int32).toNatClampNeg (10 : Int32)) (3 : Int32).toNatClampNeg (8 : Int32)) (4 : Int32).toNatClampNeg (2 : Int32)
theorem zq8_up (a0 a1 a2 a3 a4 a5 a6 a7 : Nat) : va_up (va_up (va_up (va_up (va_up (va_up (va_up (va_up (fun _ => none) (0 : Int32).toNatClampNeg (some a0)) (1 : Int32).toNatClampNeg (some a1)) (2 : Int32).toNatClampNeg (some a2)) (3 : Int32).toNatClampNeg (some a3)) (4 : Int32).toNatClampNeg (some a4)) (5 : Int32).toNatClampNeg (some a5)) (6 : Int32).toNatClampNeg (some a6)) (7 : Int32).toNatClampNeg (some a7) = zq8 a0 a1 a2 a3 a4 a5 a6 a7 := by
  funext i
  match i with
  | 0 => rfl
  | 1 => rfl
  | 2 => rfl
  | 3 => rfl
  | 4 => rfl
  | 5 => rfl
  | 6 => rfl
  | 7 => rfl
  | n + 8 =>
    have h : ∀ k : Nat, k < 8 → ¬ n + 8 = k := fun k hk => by omega
    show (if n + 8 = 7 then _ else if n + 8 = 6 then _ else if n + 8 = 5 then _ else if n + 8 = 4 then _ else if n + 8 = 3 then _ else if n + 8 = 2 then _ else if n + 8 = 1 then _ else if n + 8 = 0 then _ else _) = _
    rw [if_neg (h 7 (by omega)), if_neg (h 6 (by omega)), if_neg (h 5 (by omega)), if_neg (h 4 (by omega)), if_neg (h 3 (by omega)), if_neg (h 2 (by omega)), if_neg (h 1 (by omega)), if_neg (h 0 (by omega))]
    rfl
