/-! WINDOWS -/
theorem gb_u0 : gb_GR 1 9 := gb_nx (b := 1) rfl (gb_st 1) (by decide +kernel)
theorem gb_u1 : gb_GR 1 17 := gb_nx (b := 9) rfl gb_u0 (by decide +kernel)
theorem gb_u2 : gb_GR 1 25 := gb_nx (b := 17) rfl gb_u1 (by decide +kernel)
