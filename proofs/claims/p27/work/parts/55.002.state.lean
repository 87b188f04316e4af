section ZQ2
variable {H n m : Nat} {ln : Nat → Nat} {pr wa sl : Nat → Bool} {hh cc rr ac dc : Int32} {co es se d li p w s lots : Nat → Int32} {no pg l us lo fi : Nat → Int32} {P K T : Int32}
theorem q_stateX {x : Int32} (hx : x < 0 ∨ Int32.ofNat 12 ≤ x) : fX5_state x hh cc rr ac es w s us P K dc = some (.inl "java/lang/IllegalArgumentException") := by
  unfold fX5_state
  have h := fun k hk => n_ne (n := 12) (by omega) hx (k := k) hk
  rw [if_neg (show ¬ x = (0 : Int32) from h 0 (by omega)), if_neg (show ¬ x = (1 : Int32) from h 1 (by omega)), if_neg (show ¬ x = (2 : Int32) from h 2 (by omega)), if_neg (show ¬ x = (3 : Int32) from h 3 (by omega)), if_neg (show ¬ x = (4 : Int32) from h 4 (by omega)), if_neg (show ¬ x = (5 : Int32) from h 5 (by omega)), if_neg (show ¬ x = (6 : Int32) from h 6 (by omega)), if_neg (show ¬ x = (7 : Int32) from h 7 (by omega)), if_neg (show ¬ x = (8 : Int32) from h 8 (by omega)), if_neg (show ¬ x = (9 : Int32) from h 9 (by omega)), if_neg (show ¬ x = (10 : Int32) from h 10 (by omega)), if_neg (show ¬ x = (11 : Int32) from h 11 (by omega))]
end ZQ2
