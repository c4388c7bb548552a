theorem zz_0 : 1 = 1 := rfl
