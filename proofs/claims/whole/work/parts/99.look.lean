theorem tt_one : 1 = 1 := rfl
