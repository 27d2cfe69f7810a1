/-! small rows that runs use -/
theorem px_c0 : Int32.ofInt 0 = 0 := rfl
theorem px_c1 : Int32.ofInt 1 = 1 := rfl
