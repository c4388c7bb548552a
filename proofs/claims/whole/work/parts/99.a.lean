/-! WHAT PASSES IS WHOLE -/
theorem nk_sqx (a b : Nat) (h : a ≤ b) : (2 * a) * (2 * a) ≤ (2 * b) * (2 * b) := Nat.mul_le_mul (by omega) (by omega)
theorem nk_sqy {c a b : Nat} (h : a ≤ b) (h2 : 1099511627776 < c * ((2 * a) * (2 * a))) : 1099511627776 < c * ((2 * b) * (2 * b)) := Nat.lt_of_lt_of_le h2 (Nat.mul_le_mul_left c (nk_sqx a b h))
theorem nk_z3 {h l k : Nat} {m : List (Nat × Nat)} (hl : l ≤ h) (h1 : nk_3 nk_pr m k h = true) (h2 : 1099511627776 < (2 + 2 ^ k) * ((2 * l) * (2 * l))) : ∃ l X J, nk_3x nk_pr l X h = true ∧ (∀ j, 2 ≤ j → j < J → 1 + j * (2 * h) ∣ X) ∧ 1099511627776 < J * ((2 * h) * (2 * h)) := ⟨m, _, 2 + 2 ^ k, h1, fun j a b => nk_pj_in (2 * h) k 2 j a b, nk_sqy hl h2⟩
theorem nk_z5 {h l k : Nat} {m : List (Nat × Nat)} (hl : l ≤ h) (h1 : nk_5 nk_pr m k h = true) (h2 : 1099511627776 < (2 + 16 * 2 ^ k) * ((2 * l) * (2 * l))) : ∃ l X J, nk_3x nk_pr l X h = true ∧ (∀ j, 2 ≤ j → j < J → 1 + j * (2 * h) ∣ X) ∧ 1099511627776 < J * ((2 * h) * (2 * h)) := ⟨m, _, 2 + 16 * 2 ^ k, h1, fun j a b => nk_pk_in (2 * h) k 2 j a b, nk_sqy hl h2⟩
theorem nk_A3 (h : Nat) (h1 : 16384 ≤ h) (h2 : h < 370728) : ∃ l X J, nk_3x nk_pr l X h = true ∧ (∀ j, 2 ≤ j → j < J → 1 + j * (2 * h) ∣ X) ∧ 1099511627776 < J * ((2 * h) * (2 * h)) := by
  rcases Nat.lt_or_ge h 77056 with c71 | c71
  · rcases Nat.lt_or_ge h 27392 with c35 | c35
    · rcases Nat.lt_or_ge h 20736 with c17 | c17
      · rcases Nat.lt_or_ge h 18432 with c8 | c8
        · rcases Nat.lt_or_ge h 17408 with c4 | c4
          · rcases Nat.lt_or_ge h 16896 with c2 | c2
            · rcases Nat.lt_or_ge h 16640 with c1 | c1
              · exact nk_z5 (l := 16384) (by omega) (nk_all_s 8 _ nk_t0 h (by omega) (by omega)) (by decide)
              · exact nk_z5 (l := 16640) (by omega) (nk_all_s 8 _ nk_t1 h (by omega) (by omega)) (by decide)
            · rcases Nat.lt_or_ge h 17152 with c3 | c3
              · exact nk_z5 (l := 16896) (by omega) (nk_all_s 8 _ nk_t2 h (by omega) (by omega)) (by decide)
              · exact nk_z5 (l := 17152) (by omega) (nk_all_s 8 _ nk_t3 h (by omega) (by omega)) (by decide)
          · rcases Nat.lt_or_ge h 17920 with c6 | c6
            · rcases Nat.lt_or_ge h 17664 with c5 | c5
              · exact nk_z5 (l := 17408) (by omega) (nk_all_s 8 _ nk_t4 h (by omega) (by omega)) (by decide)
              · exact nk_z5 (l := 17664) (by omega) (nk_all_s 8 _ nk_t5 h (by omega) (by omega)) (by decide)
            · rcases Nat.lt_or_ge h 18176 with c7 | c7
              · exact nk_z5 (l := 17920) (by omega) (nk_all_s 8 _ nk_t6 h (by omega) (by omega)) (by decide)
              · exact nk_z5 (l := 18176) (by omega) (nk_all_s 8 _ nk_t7 h (by omega) (by omega)) (by decide)
        · rcases Nat.lt_or_ge h 19456 with c12 | c12
          · rcases Nat.lt_or_ge h 18944 with c10 | c10
            · rcases Nat.lt_or_ge h 18688 with c9 | c9
              · exact nk_z5 (l := 18432) (by omega) (nk_all_s 8 _ nk_t8 h (by omega) (by omega)) (by decide)
              · exact nk_z5 (l := 18688) (by omega) (nk_all_s 8 _ nk_t9 h (by omega) (by omega)) (by decide)
            · rcases Nat.lt_or_ge h 19200 with c11 | c11
              · exact nk_z5 (l := 18944) (by omega) (nk_all_s 8 _ nk_t10 h (by omega) (by omega)) (by decide)
              · exact nk_z5 (l := 19200) (by omega) (nk_all_s 8 _ nk_t11 h (by omega) (by omega)) (by decide)
          · rcases Nat.lt_or_ge h 19968 with c14 | c14
            · rcases Nat.lt_or_ge h 19712 with c13 | c13
              · exact nk_z5 (l := 19456) (by omega) (nk_all_s 8 _ nk_t12 h (by omega) (by omega)) (by decide)
              · exact nk_z5 (l := 19712) (by omega) (nk_all_s 8 _ nk_t13 h (by omega) (by omega)) (by decide)
            · rcases Nat.lt_or_ge h 20224 with c15 | c15
              · exact nk_z5 (l := 19968) (by omega) (nk_all_s 8 _ nk_t14 h (by omega) (by omega)) (by decide)
              · rcases Nat.lt_or_ge h 20480 with c16 | c16
                · exact nk_z5 (l := 20224) (by omega) (nk_all_s 8 _ nk_t15 h (by omega) (by omega)) (by decide)
                · exact nk_z5 (l := 20480) (by omega) (nk_all_s 8 _ nk_t16 h (by omega) (by omega)) (by decide)
      · rcases Nat.lt_or_ge h 23040 with c26 | c26
        · rcases Nat.lt_or_ge h 21760 with c21 | c21
          · rcases Nat.lt_or_ge h 21248 with c19 | c19
            · rcases Nat.lt_or_ge h 20992 with c18 | c18
              · exact nk_z5 (l := 20736) (by omega) (nk_all_s 8 _ nk_t17 h (by omega) (by omega)) (by decide)
              · exact nk_z5 (l := 20992) (by omega) (nk_all_s 8 _ nk_t18 h (by omega) (by omega)) (by decide)
            · rcases Nat.lt_or_ge h 21504 with c20 | c20
              · exact nk_z5 (l := 21248) (by omega) (nk_all_s 8 _ nk_t19 h (by omega) (by omega)) (by decide)
              · exact nk_z5 (l := 21504) (by omega) (nk_all_s 8 _ nk_t20 h (by omega) (by omega)) (by decide)
          · rcases Nat.lt_or_ge h 22272 with c23 | c23
            · rcases Nat.lt_or_ge h 22016 with c22 | c22
              · exact nk_z5 (l := 21760) (by omega) (nk_all_s 8 _ nk_t21 h (by omega) (by omega)) (by decide)
              · exact nk_z5 (l := 22016) (by omega) (nk_all_s 8 _ nk_t22 h (by omega) (by omega)) (by decide)
            · rcases Nat.lt_or_ge h 22528 with c24 | c24
              · exact nk_z5 (l := 22272) (by omega) (nk_all_s 8 _ nk_t23 h (by omega) (by omega)) (by decide)
              · rcases Nat.lt_or_ge h 22784 with c25 | c25
                · exact nk_z5 (l := 22528) (by omega) (nk_all_s 8 _ nk_t24 h (by omega) (by omega)) (by decide)
                · exact nk_z5 (l := 22784) (by omega) (nk_all_s 8 _ nk_t25 h (by omega) (by omega)) (by decide)
        · rcases Nat.lt_or_ge h 24832 with c30 | c30
          · rcases Nat.lt_or_ge h 23808 with c28 | c28
            · rcases Nat.lt_or_ge h 23296 with c27 | c27
              · exact nk_z5 (l := 23040) (by omega) (nk_all_s 8 _ nk_t26 h (by omega) (by omega)) (by decide)
              · exact nk_z5 (l := 23296) (by omega) (nk_all_s 9 _ nk_t27 h (by omega) (by omega)) (by decide)
            · rcases Nat.lt_or_ge h 24320 with c29 | c29
              · exact nk_z5 (l := 23808) (by omega) (nk_all_s 9 _ nk_t28 h (by omega) (by omega)) (by decide)
              · exact nk_z5 (l := 24320) (by omega) (nk_all_s 9 _ nk_t29 h (by omega) (by omega)) (by decide)
          · rcases Nat.lt_or_ge h 25856 with c32 | c32
            · rcases Nat.lt_or_ge h 25344 with c31 | c31
              · exact nk_z5 (l := 24832) (by omega) (nk_all_s 9 _ nk_t30 h (by omega) (by omega)) (by decide)
              · exact nk_z5 (l := 25344) (by omega) (nk_all_s 9 _ nk_t31 h (by omega) (by omega)) (by decide)
            · rcases Nat.lt_or_ge h 26368 with c33 | c33
              · exact nk_z5 (l := 25856) (by omega) (nk_all_s 9 _ nk_t32 h (by omega) (by omega)) (by decide)
              · rcases Nat.lt_or_ge h 26880 with c34 | c34
                · exact nk_z5 (l := 26368) (by omega) (nk_all_s 9 _ nk_t33 h (by omega) (by omega)) (by decide)
                · exact nk_z5 (l := 26880) (by omega) (nk_all_s 9 _ nk_t34 h (by omega) (by omega)) (by decide)
    · rcases Nat.lt_or_ge h 40192 with c53 | c53
      · rcases Nat.lt_or_ge h 32000 with c44 | c44
        · rcases Nat.lt_or_ge h 29440 with c39 | c39
          · rcases Nat.lt_or_ge h 28416 with c37 | c37
            · rcases Nat.lt_or_ge h 27904 with c36 | c36
              · exact nk_z5 (l := 27392) (by omega) (nk_all_s 9 _ nk_t35 h (by omega) (by omega)) (by decide)
              · exact nk_z5 (l := 27904) (by omega) (nk_all_s 9 _ nk_t36 h (by omega) (by omega)) (by decide)
            · rcases Nat.lt_or_ge h 28928 with c38 | c38
              · exact nk_z5 (l := 28416) (by omega) (nk_all_s 9 _ nk_t37 h (by omega) (by omega)) (by decide)
              · exact nk_z5 (l := 28928) (by omega) (nk_all_s 9 _ nk_t38 h (by omega) (by omega)) (by decide)
          · rcases Nat.lt_or_ge h 30464 with c41 | c41
            · rcases Nat.lt_or_ge h 29952 with c40 | c40
              · exact nk_z5 (l := 29440) (by omega) (nk_all_s 9 _ nk_t39 h (by omega) (by omega)) (by decide)
              · exact nk_z5 (l := 29952) (by omega) (nk_all_s 9 _ nk_t40 h (by omega) (by omega)) (by decide)
            · rcases Nat.lt_or_ge h 30976 with c42 | c42
              · exact nk_z5 (l := 30464) (by omega) (nk_all_s 9 _ nk_t41 h (by omega) (by omega)) (by decide)
              · rcases Nat.lt_or_ge h 31488 with c43 | c43
                · exact nk_z5 (l := 30976) (by omega) (nk_all_s 9 _ nk_t42 h (by omega) (by omega)) (by decide)
                · exact nk_z5 (l := 31488) (by omega) (nk_all_s 9 _ nk_t43 h (by omega) (by omega)) (by decide)
        · rcases Nat.lt_or_ge h 35072 with c48 | c48
          · rcases Nat.lt_or_ge h 33024 with c46 | c46
            · rcases Nat.lt_or_ge h 32512 with c45 | c45
              · exact nk_z5 (l := 32000) (by omega) (nk_all_s 9 _ nk_t44 h (by omega) (by omega)) (by decide)
              · exact nk_z5 (l := 32512) (by omega) (nk_all_s 9 _ nk_t45 h (by omega) (by omega)) (by decide)
            · rcases Nat.lt_or_ge h 34048 with c47 | c47
              · exact nk_z5 (l := 33024) (by omega) (nk_all_s 10 _ nk_t46 h (by omega) (by omega)) (by decide)
              · exact nk_z5 (l := 34048) (by omega) (nk_all_s 10 _ nk_t47 h (by omega) (by omega)) (by decide)
          · rcases Nat.lt_or_ge h 37120 with c50 | c50
            · rcases Nat.lt_or_ge h 36096 with c49 | c49
              · exact nk_z5 (l := 35072) (by omega) (nk_all_s 10 _ nk_t48 h (by omega) (by omega)) (by decide)
              · exact nk_z5 (l := 36096) (by omega) (nk_all_s 10 _ nk_t49 h (by omega) (by omega)) (by decide)
            · rcases Nat.lt_or_ge h 38144 with c51 | c51
              · exact nk_z5 (l := 37120) (by omega) (nk_all_s 10 _ nk_t50 h (by omega) (by omega)) (by decide)
              · rcases Nat.lt_or_ge h 39168 with c52 | c52
                · exact nk_z5 (l := 38144) (by omega) (nk_all_s 10 _ nk_t51 h (by omega) (by omega)) (by decide)
                · exact nk_z5 (l := 39168) (by omega) (nk_all_s 10 _ nk_t52 h (by omega) (by omega)) (by decide)
      · rcases Nat.lt_or_ge h 52480 with c62 | c62
        · rcases Nat.lt_or_ge h 44288 with c57 | c57
          · rcases Nat.lt_or_ge h 42240 with c55 | c55
            · rcases Nat.lt_or_ge h 41216 with c54 | c54
              · exact nk_z5 (l := 40192) (by omega) (nk_all_s 10 _ nk_t53 h (by omega) (by omega)) (by decide)
              · exact nk_z5 (l := 41216) (by omega) (nk_all_s 10 _ nk_t54 h (by omega) (by omega)) (by decide)
            · rcases Nat.lt_or_ge h 43264 with c56 | c56
              · exact nk_z5 (l := 42240) (by omega) (nk_all_s 10 _ nk_t55 h (by omega) (by omega)) (by decide)
              · exact nk_z5 (l := 43264) (by omega) (nk_all_s 10 _ nk_t56 h (by omega) (by omega)) (by decide)
          · rcases Nat.lt_or_ge h 46336 with c59 | c59
            · rcases Nat.lt_or_ge h 45312 with c58 | c58
              · exact nk_z5 (l := 44288) (by omega) (nk_all_s 10 _ nk_t57 h (by omega) (by omega)) (by decide)
              · exact nk_z5 (l := 45312) (by omega) (nk_all_s 10 _ nk_t58 h (by omega) (by omega)) (by decide)
            · rcases Nat.lt_or_ge h 48384 with c60 | c60
              · exact nk_z5 (l := 46336) (by omega) (nk_all_s 11 _ nk_t59 h (by omega) (by omega)) (by decide)
              · rcases Nat.lt_or_ge h 50432 with c61 | c61
                · exact nk_z5 (l := 48384) (by omega) (nk_all_s 11 _ nk_t60 h (by omega) (by omega)) (by decide)
                · exact nk_z5 (l := 50432) (by omega) (nk_all_s 11 _ nk_t61 h (by omega) (by omega)) (by decide)
        · rcases Nat.lt_or_ge h 60672 with c66 | c66
          · rcases Nat.lt_or_ge h 56576 with c64 | c64
            · rcases Nat.lt_or_ge h 54528 with c63 | c63
              · exact nk_z5 (l := 52480) (by omega) (nk_all_s 11 _ nk_t62 h (by omega) (by omega)) (by decide)
              · exact nk_z5 (l := 54528) (by omega) (nk_all_s 11 _ nk_t63 h (by omega) (by omega)) (by decide)
            · rcases Nat.lt_or_ge h 58624 with c65 | c65
              · exact nk_z5 (l := 56576) (by omega) (nk_all_s 11 _ nk_t64 h (by omega) (by omega)) (by decide)
              · exact nk_z5 (l := 58624) (by omega) (nk_all_s 11 _ nk_t65 h (by omega) (by omega)) (by decide)
          · rcases Nat.lt_or_ge h 64768 with c68 | c68
            · rcases Nat.lt_or_ge h 62720 with c67 | c67
              · exact nk_z5 (l := 60672) (by omega) (nk_all_s 11 _ nk_t66 h (by omega) (by omega)) (by decide)
              · exact nk_z5 (l := 62720) (by omega) (nk_all_s 11 _ nk_t67 h (by omega) (by omega)) (by decide)
            · rcases Nat.lt_or_ge h 68864 with c69 | c69
              · exact nk_z5 (l := 64768) (by omega) (nk_all_s 12 _ nk_t68 h (by omega) (by omega)) (by decide)
              · rcases Nat.lt_or_ge h 72960 with c70 | c70
                · exact nk_z5 (l := 68864) (by omega) (nk_all_s 12 _ nk_t69 h (by omega) (by omega)) (by decide)
                · exact nk_z5 (l := 72960) (by omega) (nk_all_s 12 _ nk_t70 h (by omega) (by omega)) (by decide)
  · rcases Nat.lt_or_ge h 224512 with c107 | c107
    · rcases Nat.lt_or_ge h 150784 with c89 | c89
      · rcases Nat.lt_or_ge h 113920 with c80 | c80
        · rcases Nat.lt_or_ge h 93440 with c75 | c75
          · rcases Nat.lt_or_ge h 85248 with c73 | c73
            · rcases Nat.lt_or_ge h 81152 with c72 | c72
              · exact nk_z5 (l := 77056) (by omega) (nk_all_s 12 _ nk_t71 h (by omega) (by omega)) (by decide)
              · exact nk_z5 (l := 81152) (by omega) (nk_all_s 12 _ nk_t72 h (by omega) (by omega)) (by decide)
            · rcases Nat.lt_or_ge h 89344 with c74 | c74
              · exact nk_z5 (l := 85248) (by omega) (nk_all_s 12 _ nk_t73 h (by omega) (by omega)) (by decide)
              · exact nk_z5 (l := 89344) (by omega) (nk_all_s 12 _ nk_t74 h (by omega) (by omega)) (by decide)
          · rcases Nat.lt_or_ge h 101632 with c77 | c77
            · rcases Nat.lt_or_ge h 97536 with c76 | c76
              · exact nk_z5 (l := 93440) (by omega) (nk_all_s 12 _ nk_t75 h (by omega) (by omega)) (by decide)
              · exact nk_z5 (l := 97536) (by omega) (nk_all_s 12 _ nk_t76 h (by omega) (by omega)) (by decide)
            · rcases Nat.lt_or_ge h 105728 with c78 | c78
              · exact nk_z5 (l := 101632) (by omega) (nk_all_s 12 _ nk_t77 h (by omega) (by omega)) (by decide)
              · rcases Nat.lt_or_ge h 109824 with c79 | c79
                · exact nk_z5 (l := 105728) (by omega) (nk_all_s 12 _ nk_t78 h (by omega) (by omega)) (by decide)
                · exact nk_z5 (l := 109824) (by omega) (nk_all_s 12 _ nk_t79 h (by omega) (by omega)) (by decide)
        · rcases Nat.lt_or_ge h 130304 with c84 | c84
          · rcases Nat.lt_or_ge h 122112 with c82 | c82
            · rcases Nat.lt_or_ge h 118016 with c81 | c81
              · exact nk_z5 (l := 113920) (by omega) (nk_all_s 12 _ nk_t80 h (by omega) (by omega)) (by decide)
              · exact nk_z5 (l := 118016) (by omega) (nk_all_s 12 _ nk_t81 h (by omega) (by omega)) (by decide)
            · rcases Nat.lt_or_ge h 126208 with c83 | c83
              · exact nk_z5 (l := 122112) (by omega) (nk_all_s 12 _ nk_t82 h (by omega) (by omega)) (by decide)
              · exact nk_z5 (l := 126208) (by omega) (nk_all_s 12 _ nk_t83 h (by omega) (by omega)) (by decide)
          · rcases Nat.lt_or_ge h 138496 with c86 | c86
            · rcases Nat.lt_or_ge h 134400 with c85 | c85
              · exact nk_z5 (l := 130304) (by omega) (nk_all_s 12 _ nk_t84 h (by omega) (by omega)) (by decide)
              · exact nk_z5 (l := 134400) (by omega) (nk_all_s 12 _ nk_t85 h (by omega) (by omega)) (by decide)
            · rcases Nat.lt_or_ge h 142592 with c87 | c87
              · exact nk_z5 (l := 138496) (by omega) (nk_all_s 12 _ nk_t86 h (by omega) (by omega)) (by decide)
              · rcases Nat.lt_or_ge h 146688 with c88 | c88
                · exact nk_z5 (l := 142592) (by omega) (nk_all_s 12 _ nk_t87 h (by omega) (by omega)) (by decide)
                · exact nk_z5 (l := 146688) (by omega) (nk_all_s 12 _ nk_t88 h (by omega) (by omega)) (by decide)
      · rcases Nat.lt_or_ge h 187648 with c98 | c98
        · rcases Nat.lt_or_ge h 167168 with c93 | c93
          · rcases Nat.lt_or_ge h 158976 with c91 | c91
            · rcases Nat.lt_or_ge h 154880 with c90 | c90
              · exact nk_z5 (l := 150784) (by omega) (nk_all_s 12 _ nk_t89 h (by omega) (by omega)) (by decide)
              · exact nk_z5 (l := 154880) (by omega) (nk_all_s 12 _ nk_t90 h (by omega) (by omega)) (by decide)
            · rcases Nat.lt_or_ge h 163072 with c92 | c92
              · exact nk_z5 (l := 158976) (by omega) (nk_all_s 12 _ nk_t91 h (by omega) (by omega)) (by decide)
              · exact nk_z5 (l := 163072) (by omega) (nk_all_s 12 _ nk_t92 h (by omega) (by omega)) (by decide)
          · rcases Nat.lt_or_ge h 175360 with c95 | c95
            · rcases Nat.lt_or_ge h 171264 with c94 | c94
              · exact nk_z3 (l := 167168) (by omega) (nk_all_s 12 _ nk_t93 h (by omega) (by omega)) (by decide)
              · exact nk_z3 (l := 171264) (by omega) (nk_all_s 12 _ nk_t94 h (by omega) (by omega)) (by decide)
            · rcases Nat.lt_or_ge h 179456 with c96 | c96
              · exact nk_z3 (l := 175360) (by omega) (nk_all_s 12 _ nk_t95 h (by omega) (by omega)) (by decide)
              · rcases Nat.lt_or_ge h 183552 with c97 | c97
                · exact nk_z3 (l := 179456) (by omega) (nk_all_s 12 _ nk_t96 h (by omega) (by omega)) (by decide)
                · exact nk_z3 (l := 183552) (by omega) (nk_all_s 12 _ nk_t97 h (by omega) (by omega)) (by decide)
        · rcases Nat.lt_or_ge h 204032 with c102 | c102
          · rcases Nat.lt_or_ge h 195840 with c100 | c100
            · rcases Nat.lt_or_ge h 191744 with c99 | c99
              · exact nk_z3 (l := 187648) (by omega) (nk_all_s 12 _ nk_t98 h (by omega) (by omega)) (by decide)
              · exact nk_z3 (l := 191744) (by omega) (nk_all_s 12 _ nk_t99 h (by omega) (by omega)) (by decide)
            · rcases Nat.lt_or_ge h 199936 with c101 | c101
              · exact nk_z3 (l := 195840) (by omega) (nk_all_s 12 _ nk_t100 h (by omega) (by omega)) (by decide)
              · exact nk_z3 (l := 199936) (by omega) (nk_all_s 12 _ nk_t101 h (by omega) (by omega)) (by decide)
          · rcases Nat.lt_or_ge h 212224 with c104 | c104
            · rcases Nat.lt_or_ge h 208128 with c103 | c103
              · exact nk_z3 (l := 204032) (by omega) (nk_all_s 12 _ nk_t102 h (by omega) (by omega)) (by decide)
              · exact nk_z3 (l := 208128) (by omega) (nk_all_s 12 _ nk_t103 h (by omega) (by omega)) (by decide)
            · rcases Nat.lt_or_ge h 216320 with c105 | c105
              · exact nk_z3 (l := 212224) (by omega) (nk_all_s 12 _ nk_t104 h (by omega) (by omega)) (by decide)
              · rcases Nat.lt_or_ge h 220416 with c106 | c106
                · exact nk_z3 (l := 216320) (by omega) (nk_all_s 12 _ nk_t105 h (by omega) (by omega)) (by decide)
                · exact nk_z3 (l := 220416) (by omega) (nk_all_s 12 _ nk_t106 h (by omega) (by omega)) (by decide)
    · rcases Nat.lt_or_ge h 298240 with c125 | c125
      · rcases Nat.lt_or_ge h 261376 with c116 | c116
        · rcases Nat.lt_or_ge h 240896 with c111 | c111
          · rcases Nat.lt_or_ge h 232704 with c109 | c109
            · rcases Nat.lt_or_ge h 228608 with c108 | c108
              · exact nk_z3 (l := 224512) (by omega) (nk_all_s 12 _ nk_t107 h (by omega) (by omega)) (by decide)
              · exact nk_z3 (l := 228608) (by omega) (nk_all_s 12 _ nk_t108 h (by omega) (by omega)) (by decide)
            · rcases Nat.lt_or_ge h 236800 with c110 | c110
              · exact nk_z3 (l := 232704) (by omega) (nk_all_s 12 _ nk_t109 h (by omega) (by omega)) (by decide)
              · exact nk_z3 (l := 236800) (by omega) (nk_all_s 12 _ nk_t110 h (by omega) (by omega)) (by decide)
          · rcases Nat.lt_or_ge h 249088 with c113 | c113
            · rcases Nat.lt_or_ge h 244992 with c112 | c112
              · exact nk_z3 (l := 240896) (by omega) (nk_all_s 12 _ nk_t111 h (by omega) (by omega)) (by decide)
              · exact nk_z3 (l := 244992) (by omega) (nk_all_s 12 _ nk_t112 h (by omega) (by omega)) (by decide)
            · rcases Nat.lt_or_ge h 253184 with c114 | c114
              · exact nk_z3 (l := 249088) (by omega) (nk_all_s 12 _ nk_t113 h (by omega) (by omega)) (by decide)
              · rcases Nat.lt_or_ge h 257280 with c115 | c115
                · exact nk_z3 (l := 253184) (by omega) (nk_all_s 12 _ nk_t114 h (by omega) (by omega)) (by decide)
                · exact nk_z3 (l := 257280) (by omega) (nk_all_s 12 _ nk_t115 h (by omega) (by omega)) (by decide)
        · rcases Nat.lt_or_ge h 277760 with c120 | c120
          · rcases Nat.lt_or_ge h 269568 with c118 | c118
            · rcases Nat.lt_or_ge h 265472 with c117 | c117
              · exact nk_z3 (l := 261376) (by omega) (nk_all_s 12 _ nk_t116 h (by omega) (by omega)) (by decide)
              · exact nk_z3 (l := 265472) (by omega) (nk_all_s 12 _ nk_t117 h (by omega) (by omega)) (by decide)
            · rcases Nat.lt_or_ge h 273664 with c119 | c119
              · exact nk_z3 (l := 269568) (by omega) (nk_all_s 12 _ nk_t118 h (by omega) (by omega)) (by decide)
              · exact nk_z3 (l := 273664) (by omega) (nk_all_s 12 _ nk_t119 h (by omega) (by omega)) (by decide)
          · rcases Nat.lt_or_ge h 285952 with c122 | c122
            · rcases Nat.lt_or_ge h 281856 with c121 | c121
              · exact nk_z3 (l := 277760) (by omega) (nk_all_s 12 _ nk_t120 h (by omega) (by omega)) (by decide)
              · exact nk_z3 (l := 281856) (by omega) (nk_all_s 12 _ nk_t121 h (by omega) (by omega)) (by decide)
            · rcases Nat.lt_or_ge h 290048 with c123 | c123
              · exact nk_z3 (l := 285952) (by omega) (nk_all_s 12 _ nk_t122 h (by omega) (by omega)) (by decide)
              · rcases Nat.lt_or_ge h 294144 with c124 | c124
                · exact nk_z3 (l := 290048) (by omega) (nk_all_s 12 _ nk_t123 h (by omega) (by omega)) (by decide)
                · exact nk_z3 (l := 294144) (by omega) (nk_all_s 12 _ nk_t124 h (by omega) (by omega)) (by decide)
      · rcases Nat.lt_or_ge h 335104 with c134 | c134
        · rcases Nat.lt_or_ge h 314624 with c129 | c129
          · rcases Nat.lt_or_ge h 306432 with c127 | c127
            · rcases Nat.lt_or_ge h 302336 with c126 | c126
              · exact nk_z3 (l := 298240) (by omega) (nk_all_s 12 _ nk_t125 h (by omega) (by omega)) (by decide)
              · exact nk_z3 (l := 302336) (by omega) (nk_all_s 12 _ nk_t126 h (by omega) (by omega)) (by decide)
            · rcases Nat.lt_or_ge h 310528 with c128 | c128
              · exact nk_z3 (l := 306432) (by omega) (nk_all_s 12 _ nk_t127 h (by omega) (by omega)) (by decide)
              · exact nk_z3 (l := 310528) (by omega) (nk_all_s 12 _ nk_t128 h (by omega) (by omega)) (by decide)
          · rcases Nat.lt_or_ge h 322816 with c131 | c131
            · rcases Nat.lt_or_ge h 318720 with c130 | c130
              · exact nk_z3 (l := 314624) (by omega) (nk_all_s 12 _ nk_t129 h (by omega) (by omega)) (by decide)
              · exact nk_z3 (l := 318720) (by omega) (nk_all_s 12 _ nk_t130 h (by omega) (by omega)) (by decide)
            · rcases Nat.lt_or_ge h 326912 with c132 | c132
              · exact nk_z3 (l := 322816) (by omega) (nk_all_s 12 _ nk_t131 h (by omega) (by omega)) (by decide)
              · rcases Nat.lt_or_ge h 331008 with c133 | c133
                · exact nk_z3 (l := 326912) (by omega) (nk_all_s 12 _ nk_t132 h (by omega) (by omega)) (by decide)
                · exact nk_z3 (l := 331008) (by omega) (nk_all_s 12 _ nk_t133 h (by omega) (by omega)) (by decide)
        · rcases Nat.lt_or_ge h 351488 with c138 | c138
          · rcases Nat.lt_or_ge h 343296 with c136 | c136
            · rcases Nat.lt_or_ge h 339200 with c135 | c135
              · exact nk_z3 (l := 335104) (by omega) (nk_all_s 12 _ nk_t134 h (by omega) (by omega)) (by decide)
              · exact nk_z3 (l := 339200) (by omega) (nk_all_s 12 _ nk_t135 h (by omega) (by omega)) (by decide)
            · rcases Nat.lt_or_ge h 347392 with c137 | c137
              · exact nk_z3 (l := 343296) (by omega) (nk_all_s 12 _ nk_t136 h (by omega) (by omega)) (by decide)
              · exact nk_z3 (l := 347392) (by omega) (nk_all_s 12 _ nk_t137 h (by omega) (by omega)) (by decide)
          · rcases Nat.lt_or_ge h 359680 with c140 | c140
            · rcases Nat.lt_or_ge h 355584 with c139 | c139
              · exact nk_z3 (l := 351488) (by omega) (nk_all_s 12 _ nk_t138 h (by omega) (by omega)) (by decide)
              · exact nk_z3 (l := 355584) (by omega) (nk_all_s 12 _ nk_t139 h (by omega) (by omega)) (by decide)
            · rcases Nat.lt_or_ge h 363776 with c141 | c141
              · exact nk_z3 (l := 359680) (by omega) (nk_all_s 12 _ nk_t140 h (by omega) (by omega)) (by decide)
              · rcases Nat.lt_or_ge h 367872 with c142 | c142
                · exact nk_z3 (l := 363776) (by omega) (nk_all_s 12 _ nk_t141 h (by omega) (by omega)) (by decide)
                · exact nk_z3 (l := 367872) (by omega) (nk_all_s 12 _ nk_t142 h (by omega) (by omega)) (by decide)
theorem nk_A4 (h : Nat) (h1 : 65536 ≤ h) (h2 : h < 524288) : nk_4 h = true := by
  rcases Nat.lt_or_ge h 294912 with c56 | c56
  · rcases Nat.lt_or_ge h 180224 with c28 | c28
    · rcases Nat.lt_or_ge h 122880 with c14 | c14
      · rcases Nat.lt_or_ge h 94208 with c7 | c7
        · rcases Nat.lt_or_ge h 77824 with c3 | c3
          · rcases Nat.lt_or_ge h 69632 with c1 | c1
            · exact nk_all_s 12 _ nk_u0 h (by omega) (by omega)
            · rcases Nat.lt_or_ge h 73728 with c2 | c2
              · exact nk_all_s 12 _ nk_u1 h (by omega) (by omega)
              · exact nk_all_s 12 _ nk_u2 h (by omega) (by omega)
          · rcases Nat.lt_or_ge h 86016 with c5 | c5
            · rcases Nat.lt_or_ge h 81920 with c4 | c4
              · exact nk_all_s 12 _ nk_u3 h (by omega) (by omega)
              · exact nk_all_s 12 _ nk_u4 h (by omega) (by omega)
            · rcases Nat.lt_or_ge h 90112 with c6 | c6
              · exact nk_all_s 12 _ nk_u5 h (by omega) (by omega)
              · exact nk_all_s 12 _ nk_u6 h (by omega) (by omega)
        · rcases Nat.lt_or_ge h 106496 with c10 | c10
          · rcases Nat.lt_or_ge h 98304 with c8 | c8
            · exact nk_all_s 12 _ nk_u7 h (by omega) (by omega)
            · rcases Nat.lt_or_ge h 102400 with c9 | c9
              · exact nk_all_s 12 _ nk_u8 h (by omega) (by omega)
              · exact nk_all_s 12 _ nk_u9 h (by omega) (by omega)
          · rcases Nat.lt_or_ge h 114688 with c12 | c12
            · rcases Nat.lt_or_ge h 110592 with c11 | c11
              · exact nk_all_s 12 _ nk_u10 h (by omega) (by omega)
              · exact nk_all_s 12 _ nk_u11 h (by omega) (by omega)
            · rcases Nat.lt_or_ge h 118784 with c13 | c13
              · exact nk_all_s 12 _ nk_u12 h (by omega) (by omega)
              · exact nk_all_s 12 _ nk_u13 h (by omega) (by omega)
      · rcases Nat.lt_or_ge h 151552 with c21 | c21
        · rcases Nat.lt_or_ge h 135168 with c17 | c17
          · rcases Nat.lt_or_ge h 126976 with c15 | c15
            · exact nk_all_s 12 _ nk_u14 h (by omega) (by omega)
            · rcases Nat.lt_or_ge h 131072 with c16 | c16
              · exact nk_all_s 12 _ nk_u15 h (by omega) (by omega)
              · exact nk_all_s 12 _ nk_u16 h (by omega) (by omega)
          · rcases Nat.lt_or_ge h 143360 with c19 | c19
            · rcases Nat.lt_or_ge h 139264 with c18 | c18
              · exact nk_all_s 12 _ nk_u17 h (by omega) (by omega)
              · exact nk_all_s 12 _ nk_u18 h (by omega) (by omega)
            · rcases Nat.lt_or_ge h 147456 with c20 | c20
              · exact nk_all_s 12 _ nk_u19 h (by omega) (by omega)
              · exact nk_all_s 12 _ nk_u20 h (by omega) (by omega)
        · rcases Nat.lt_or_ge h 163840 with c24 | c24
          · rcases Nat.lt_or_ge h 155648 with c22 | c22
            · exact nk_all_s 12 _ nk_u21 h (by omega) (by omega)
            · rcases Nat.lt_or_ge h 159744 with c23 | c23
              · exact nk_all_s 12 _ nk_u22 h (by omega) (by omega)
              · exact nk_all_s 12 _ nk_u23 h (by omega) (by omega)
          · rcases Nat.lt_or_ge h 172032 with c26 | c26
            · rcases Nat.lt_or_ge h 167936 with c25 | c25
              · exact nk_all_s 12 _ nk_u24 h (by omega) (by omega)
              · exact nk_all_s 12 _ nk_u25 h (by omega) (by omega)
            · rcases Nat.lt_or_ge h 176128 with c27 | c27
              · exact nk_all_s 12 _ nk_u26 h (by omega) (by omega)
              · exact nk_all_s 12 _ nk_u27 h (by omega) (by omega)
    · rcases Nat.lt_or_ge h 237568 with c42 | c42
      · rcases Nat.lt_or_ge h 208896 with c35 | c35
        · rcases Nat.lt_or_ge h 192512 with c31 | c31
          · rcases Nat.lt_or_ge h 184320 with c29 | c29
            · exact nk_all_s 12 _ nk_u28 h (by omega) (by omega)
            · rcases Nat.lt_or_ge h 188416 with c30 | c30
              · exact nk_all_s 12 _ nk_u29 h (by omega) (by omega)
              · exact nk_all_s 12 _ nk_u30 h (by omega) (by omega)
          · rcases Nat.lt_or_ge h 200704 with c33 | c33
            · rcases Nat.lt_or_ge h 196608 with c32 | c32
              · exact nk_all_s 12 _ nk_u31 h (by omega) (by omega)
              · exact nk_all_s 12 _ nk_u32 h (by omega) (by omega)
            · rcases Nat.lt_or_ge h 204800 with c34 | c34
              · exact nk_all_s 12 _ nk_u33 h (by omega) (by omega)
              · exact nk_all_s 12 _ nk_u34 h (by omega) (by omega)
        · rcases Nat.lt_or_ge h 221184 with c38 | c38
          · rcases Nat.lt_or_ge h 212992 with c36 | c36
            · exact nk_all_s 12 _ nk_u35 h (by omega) (by omega)
            · rcases Nat.lt_or_ge h 217088 with c37 | c37
              · exact nk_all_s 12 _ nk_u36 h (by omega) (by omega)
              · exact nk_all_s 12 _ nk_u37 h (by omega) (by omega)
          · rcases Nat.lt_or_ge h 229376 with c40 | c40
            · rcases Nat.lt_or_ge h 225280 with c39 | c39
              · exact nk_all_s 12 _ nk_u38 h (by omega) (by omega)
              · exact nk_all_s 12 _ nk_u39 h (by omega) (by omega)
            · rcases Nat.lt_or_ge h 233472 with c41 | c41
              · exact nk_all_s 12 _ nk_u40 h (by omega) (by omega)
              · exact nk_all_s 12 _ nk_u41 h (by omega) (by omega)
      · rcases Nat.lt_or_ge h 266240 with c49 | c49
        · rcases Nat.lt_or_ge h 249856 with c45 | c45
          · rcases Nat.lt_or_ge h 241664 with c43 | c43
            · exact nk_all_s 12 _ nk_u42 h (by omega) (by omega)
            · rcases Nat.lt_or_ge h 245760 with c44 | c44
              · exact nk_all_s 12 _ nk_u43 h (by omega) (by omega)
              · exact nk_all_s 12 _ nk_u44 h (by omega) (by omega)
          · rcases Nat.lt_or_ge h 258048 with c47 | c47
            · rcases Nat.lt_or_ge h 253952 with c46 | c46
              · exact nk_all_s 12 _ nk_u45 h (by omega) (by omega)
              · exact nk_all_s 12 _ nk_u46 h (by omega) (by omega)
            · rcases Nat.lt_or_ge h 262144 with c48 | c48
              · exact nk_all_s 12 _ nk_u47 h (by omega) (by omega)
              · exact nk_all_s 12 _ nk_u48 h (by omega) (by omega)
        · rcases Nat.lt_or_ge h 278528 with c52 | c52
          · rcases Nat.lt_or_ge h 270336 with c50 | c50
            · exact nk_all_s 12 _ nk_u49 h (by omega) (by omega)
            · rcases Nat.lt_or_ge h 274432 with c51 | c51
              · exact nk_all_s 12 _ nk_u50 h (by omega) (by omega)
              · exact nk_all_s 12 _ nk_u51 h (by omega) (by omega)
          · rcases Nat.lt_or_ge h 286720 with c54 | c54
            · rcases Nat.lt_or_ge h 282624 with c53 | c53
              · exact nk_all_s 12 _ nk_u52 h (by omega) (by omega)
              · exact nk_all_s 12 _ nk_u53 h (by omega) (by omega)
            · rcases Nat.lt_or_ge h 290816 with c55 | c55
              · exact nk_all_s 12 _ nk_u54 h (by omega) (by omega)
              · exact nk_all_s 12 _ nk_u55 h (by omega) (by omega)
  · rcases Nat.lt_or_ge h 409600 with c84 | c84
    · rcases Nat.lt_or_ge h 352256 with c70 | c70
      · rcases Nat.lt_or_ge h 323584 with c63 | c63
        · rcases Nat.lt_or_ge h 307200 with c59 | c59
          · rcases Nat.lt_or_ge h 299008 with c57 | c57
            · exact nk_all_s 12 _ nk_u56 h (by omega) (by omega)
            · rcases Nat.lt_or_ge h 303104 with c58 | c58
              · exact nk_all_s 12 _ nk_u57 h (by omega) (by omega)
              · exact nk_all_s 12 _ nk_u58 h (by omega) (by omega)
          · rcases Nat.lt_or_ge h 315392 with c61 | c61
            · rcases Nat.lt_or_ge h 311296 with c60 | c60
              · exact nk_all_s 12 _ nk_u59 h (by omega) (by omega)
              · exact nk_all_s 12 _ nk_u60 h (by omega) (by omega)
            · rcases Nat.lt_or_ge h 319488 with c62 | c62
              · exact nk_all_s 12 _ nk_u61 h (by omega) (by omega)
              · exact nk_all_s 12 _ nk_u62 h (by omega) (by omega)
        · rcases Nat.lt_or_ge h 335872 with c66 | c66
          · rcases Nat.lt_or_ge h 327680 with c64 | c64
            · exact nk_all_s 12 _ nk_u63 h (by omega) (by omega)
            · rcases Nat.lt_or_ge h 331776 with c65 | c65
              · exact nk_all_s 12 _ nk_u64 h (by omega) (by omega)
              · exact nk_all_s 12 _ nk_u65 h (by omega) (by omega)
          · rcases Nat.lt_or_ge h 344064 with c68 | c68
            · rcases Nat.lt_or_ge h 339968 with c67 | c67
              · exact nk_all_s 12 _ nk_u66 h (by omega) (by omega)
              · exact nk_all_s 12 _ nk_u67 h (by omega) (by omega)
            · rcases Nat.lt_or_ge h 348160 with c69 | c69
              · exact nk_all_s 12 _ nk_u68 h (by omega) (by omega)
              · exact nk_all_s 12 _ nk_u69 h (by omega) (by omega)
      · rcases Nat.lt_or_ge h 380928 with c77 | c77
        · rcases Nat.lt_or_ge h 364544 with c73 | c73
          · rcases Nat.lt_or_ge h 356352 with c71 | c71
            · exact nk_all_s 12 _ nk_u70 h (by omega) (by omega)
            · rcases Nat.lt_or_ge h 360448 with c72 | c72
              · exact nk_all_s 12 _ nk_u71 h (by omega) (by omega)
              · exact nk_all_s 12 _ nk_u72 h (by omega) (by omega)
          · rcases Nat.lt_or_ge h 372736 with c75 | c75
            · rcases Nat.lt_or_ge h 368640 with c74 | c74
              · exact nk_all_s 12 _ nk_u73 h (by omega) (by omega)
              · exact nk_all_s 12 _ nk_u74 h (by omega) (by omega)
            · rcases Nat.lt_or_ge h 376832 with c76 | c76
              · exact nk_all_s 12 _ nk_u75 h (by omega) (by omega)
              · exact nk_all_s 12 _ nk_u76 h (by omega) (by omega)
        · rcases Nat.lt_or_ge h 393216 with c80 | c80
          · rcases Nat.lt_or_ge h 385024 with c78 | c78
            · exact nk_all_s 12 _ nk_u77 h (by omega) (by omega)
            · rcases Nat.lt_or_ge h 389120 with c79 | c79
              · exact nk_all_s 12 _ nk_u78 h (by omega) (by omega)
              · exact nk_all_s 12 _ nk_u79 h (by omega) (by omega)
          · rcases Nat.lt_or_ge h 401408 with c82 | c82
            · rcases Nat.lt_or_ge h 397312 with c81 | c81
              · exact nk_all_s 12 _ nk_u80 h (by omega) (by omega)
              · exact nk_all_s 12 _ nk_u81 h (by omega) (by omega)
            · rcases Nat.lt_or_ge h 405504 with c83 | c83
              · exact nk_all_s 12 _ nk_u82 h (by omega) (by omega)
              · exact nk_all_s 12 _ nk_u83 h (by omega) (by omega)
    · rcases Nat.lt_or_ge h 466944 with c98 | c98
      · rcases Nat.lt_or_ge h 438272 with c91 | c91
        · rcases Nat.lt_or_ge h 421888 with c87 | c87
          · rcases Nat.lt_or_ge h 413696 with c85 | c85
            · exact nk_all_s 12 _ nk_u84 h (by omega) (by omega)
            · rcases Nat.lt_or_ge h 417792 with c86 | c86
              · exact nk_all_s 12 _ nk_u85 h (by omega) (by omega)
              · exact nk_all_s 12 _ nk_u86 h (by omega) (by omega)
          · rcases Nat.lt_or_ge h 430080 with c89 | c89
            · rcases Nat.lt_or_ge h 425984 with c88 | c88
              · exact nk_all_s 12 _ nk_u87 h (by omega) (by omega)
              · exact nk_all_s 12 _ nk_u88 h (by omega) (by omega)
            · rcases Nat.lt_or_ge h 434176 with c90 | c90
              · exact nk_all_s 12 _ nk_u89 h (by omega) (by omega)
              · exact nk_all_s 12 _ nk_u90 h (by omega) (by omega)
        · rcases Nat.lt_or_ge h 450560 with c94 | c94
          · rcases Nat.lt_or_ge h 442368 with c92 | c92
            · exact nk_all_s 12 _ nk_u91 h (by omega) (by omega)
            · rcases Nat.lt_or_ge h 446464 with c93 | c93
              · exact nk_all_s 12 _ nk_u92 h (by omega) (by omega)
              · exact nk_all_s 12 _ nk_u93 h (by omega) (by omega)
          · rcases Nat.lt_or_ge h 458752 with c96 | c96
            · rcases Nat.lt_or_ge h 454656 with c95 | c95
              · exact nk_all_s 12 _ nk_u94 h (by omega) (by omega)
              · exact nk_all_s 12 _ nk_u95 h (by omega) (by omega)
            · rcases Nat.lt_or_ge h 462848 with c97 | c97
              · exact nk_all_s 12 _ nk_u96 h (by omega) (by omega)
              · exact nk_all_s 12 _ nk_u97 h (by omega) (by omega)
      · rcases Nat.lt_or_ge h 495616 with c105 | c105
        · rcases Nat.lt_or_ge h 479232 with c101 | c101
          · rcases Nat.lt_or_ge h 471040 with c99 | c99
            · exact nk_all_s 12 _ nk_u98 h (by omega) (by omega)
            · rcases Nat.lt_or_ge h 475136 with c100 | c100
              · exact nk_all_s 12 _ nk_u99 h (by omega) (by omega)
              · exact nk_all_s 12 _ nk_u100 h (by omega) (by omega)
          · rcases Nat.lt_or_ge h 487424 with c103 | c103
            · rcases Nat.lt_or_ge h 483328 with c102 | c102
              · exact nk_all_s 12 _ nk_u101 h (by omega) (by omega)
              · exact nk_all_s 12 _ nk_u102 h (by omega) (by omega)
            · rcases Nat.lt_or_ge h 491520 with c104 | c104
              · exact nk_all_s 12 _ nk_u103 h (by omega) (by omega)
              · exact nk_all_s 12 _ nk_u104 h (by omega) (by omega)
        · rcases Nat.lt_or_ge h 507904 with c108 | c108
          · rcases Nat.lt_or_ge h 499712 with c106 | c106
            · exact nk_all_s 12 _ nk_u105 h (by omega) (by omega)
            · rcases Nat.lt_or_ge h 503808 with c107 | c107
              · exact nk_all_s 12 _ nk_u106 h (by omega) (by omega)
              · exact nk_all_s 12 _ nk_u107 h (by omega) (by omega)
          · rcases Nat.lt_or_ge h 516096 with c110 | c110
            · rcases Nat.lt_or_ge h 512000 with c109 | c109
              · exact nk_all_s 12 _ nk_u108 h (by omega) (by omega)
              · exact nk_all_s 12 _ nk_u109 h (by omega) (by omega)
            · rcases Nat.lt_or_ge h 520192 with c111 | c111
              · exact nk_all_s 12 _ nk_u110 h (by omega) (by omega)
              · exact nk_all_s 12 _ nk_u111 h (by omega) (by omega)
theorem nk_A1 (h : Nat) (h1 : 1 ≤ h) (h2 : h < 16385) : ∃ l, nk_1 nk_pr l h = true := by
  rcases Nat.lt_or_ge h 8193 with c8 | c8
  · rcases Nat.lt_or_ge h 4097 with c4 | c4
    · rcases Nat.lt_or_ge h 2049 with c2 | c2
      · rcases Nat.lt_or_ge h 1025 with c1 | c1
        · exact ⟨_, nk_all_s 10 _ nk_f0 h (by omega) (by omega)⟩
        · exact ⟨_, nk_all_s 10 _ nk_f1 h (by omega) (by omega)⟩
      · rcases Nat.lt_or_ge h 3073 with c3 | c3
        · exact ⟨_, nk_all_s 10 _ nk_f2 h (by omega) (by omega)⟩
        · exact ⟨_, nk_all_s 10 _ nk_f3 h (by omega) (by omega)⟩
    · rcases Nat.lt_or_ge h 6145 with c6 | c6
      · rcases Nat.lt_or_ge h 5121 with c5 | c5
        · exact ⟨_, nk_all_s 10 _ nk_f4 h (by omega) (by omega)⟩
        · exact ⟨_, nk_all_s 10 _ nk_f5 h (by omega) (by omega)⟩
      · rcases Nat.lt_or_ge h 7169 with c7 | c7
        · exact ⟨_, nk_all_s 10 _ nk_f6 h (by omega) (by omega)⟩
        · exact ⟨_, nk_all_s 10 _ nk_f7 h (by omega) (by omega)⟩
  · rcases Nat.lt_or_ge h 12289 with c12 | c12
    · rcases Nat.lt_or_ge h 10241 with c10 | c10
      · rcases Nat.lt_or_ge h 9217 with c9 | c9
        · exact ⟨_, nk_all_s 10 _ nk_f8 h (by omega) (by omega)⟩
        · exact ⟨_, nk_all_s 10 _ nk_f9 h (by omega) (by omega)⟩
      · rcases Nat.lt_or_ge h 11265 with c11 | c11
        · exact ⟨_, nk_all_s 10 _ nk_f10 h (by omega) (by omega)⟩
        · exact ⟨_, nk_all_s 10 _ nk_f11 h (by omega) (by omega)⟩
    · rcases Nat.lt_or_ge h 14337 with c14 | c14
      · rcases Nat.lt_or_ge h 13313 with c13 | c13
        · exact ⟨_, nk_all_s 10 _ nk_f12 h (by omega) (by omega)⟩
        · exact ⟨_, nk_all_s 10 _ nk_f13 h (by omega) (by omega)⟩
      · rcases Nat.lt_or_ge h 15361 with c15 | c15
        · exact ⟨_, nk_all_s 10 _ nk_f14 h (by omega) (by omega)⟩
        · exact ⟨_, nk_all_s 10 _ nk_f15 h (by omega) (by omega)⟩
theorem nq_wx (n : Nat) : np_wx n = np_pr n := ns_whole (fun n q h1 h2 hq hq1 hqn hne => nk_big3 nk_prd nk_A1 nk_A3 nk_A4 h1 h2 hq hq1 hqn hne) (fun n h1 h2 hn hq => ns_S h1 h2 hn hq) n
theorem nq_all : NQ := ⟨nq_wx, fun n h1 h2 h3 => gc_all (by decide) gc_u10217 n h1 h2 h3, nf_PR⟩
