/-! the first kind, looked through -/
theorem nk_f0 : nk_all (nk_1 nk_pr nk_l0) 10 1 = true := by decide +kernel
theorem nk_f1 : nk_all (nk_1 nk_pr nk_l1) 10 1025 = true := by decide +kernel
theorem nk_f2 : nk_all (nk_1 nk_pr nk_l2) 10 2049 = true := by decide +kernel
theorem nk_f3 : nk_all (nk_1 nk_pr nk_l3) 10 3073 = true := by decide +kernel
theorem nk_f4 : nk_all (nk_1 nk_pr nk_l4) 10 4097 = true := by decide +kernel
theorem nk_f5 : nk_all (nk_1 nk_pr nk_l5) 10 5121 = true := by decide +kernel
theorem nk_f6 : nk_all (nk_1 nk_pr nk_l6) 10 6145 = true := by decide +kernel
theorem nk_f7 : nk_all (nk_1 nk_pr nk_l7) 10 7169 = true := by decide +kernel
theorem nk_f8 : nk_all (nk_1 nk_pr nk_l8) 10 8193 = true := by decide +kernel
theorem nk_f9 : nk_all (nk_1 nk_pr nk_l9) 10 9217 = true := by decide +kernel
theorem nk_f10 : nk_all (nk_1 nk_pr nk_l10) 10 10241 = true := by decide +kernel
theorem nk_f11 : nk_all (nk_1 nk_pr nk_l11) 10 11265 = true := by decide +kernel
theorem nk_f12 : nk_all (nk_1 nk_pr nk_l12) 10 12289 = true := by decide +kernel
theorem nk_f13 : nk_all (nk_1 nk_pr nk_l13) 10 13313 = true := by decide +kernel
theorem nk_f14 : nk_all (nk_1 nk_pr nk_l14) 10 14337 = true := by decide +kernel
theorem nk_f15 : nk_all (nk_1 nk_pr nk_l15) 10 15361 = true := by decide +kernel
