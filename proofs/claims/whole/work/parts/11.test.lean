theorem zt_0 : 1 = 1 := rfl
