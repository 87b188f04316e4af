/-! ===== the model's measuring of a choice ===== -/
theorem zbT : zbi true = 1 := rfl
theorem zbF : zbi false = 0 := rfl
theorem n10 : ((1 : Int32) = 0) = False := by decide
