theorem xx_one : 1 = 1 := rfl
