def zTold (cA : Nat → ClassId) (g : Nat) (told : Nat → Int64) : Nat × va_E := (g, .inl (cA 5, 1, .inr (.inl told)))
