/-! THE LOOKS -/
theorem gb_v0 : nk_all gb_sk 9 7 = true := by decide +kernel
theorem gb_v1 : nk_all gb_sk 9 519 = true := by decide +kernel
theorem gb_v2 : nk_all gb_sk 9 1031 = true := by decide +kernel
theorem gb_v3 : nk_all gb_sk 9 1543 = true := by decide +kernel
theorem gb_v4 : nk_all gb_sk 9 2055 = true := by decide +kernel
theorem gb_v5 : nk_all gb_sk 9 2567 = true := by decide +kernel
theorem gb_v6 : nk_all gb_sk 9 3079 = true := by decide +kernel
theorem gb_v7 : nk_all gb_sk 9 3591 = true := by decide +kernel
theorem gb_v8 : nk_all gb_sk 9 4103 = true := by decide +kernel
theorem gb_v9 : nk_all gb_sk 9 4615 = true := by decide +kernel
theorem gb_v10 : nk_all gb_sk 9 5127 = true := by decide +kernel
theorem gb_v11 : nk_all gb_sk 9 5639 = true := by decide +kernel
theorem gb_v12 : nk_all gb_sk 9 6151 = true := by decide +kernel
theorem gb_v13 : nk_all gb_sk 9 6663 = true := by decide +kernel
theorem gb_v14 : nk_all gb_sk 9 7175 = true := by decide +kernel
theorem gb_v15 : nk_all gb_sk 9 7687 = true := by decide +kernel
theorem gb_v16 : nk_all gb_sk 9 8199 = true := by decide +kernel
theorem gb_v17 : nk_all gb_sk 9 8711 = true := by decide +kernel
theorem gb_v18 : nk_all gb_sk 9 9223 = true := by decide +kernel
theorem gb_v19 : nk_all gb_sk 9 9735 = true := by decide +kernel
theorem gb_hs (l : Nat) (h1 : 7 ≤ l) (h2 : l < 10001) : gb_sk l = true := by
  rcases Nat.lt_or_ge l 519 with c | c
  · exact nk_all_s 9 _ gb_v0 l (by omega) (by omega)
  rcases Nat.lt_or_ge l 1031 with c | c
  · exact nk_all_s 9 _ gb_v1 l (by omega) (by omega)
  rcases Nat.lt_or_ge l 1543 with c | c
  · exact nk_all_s 9 _ gb_v2 l (by omega) (by omega)
  rcases Nat.lt_or_ge l 2055 with c | c
  · exact nk_all_s 9 _ gb_v3 l (by omega) (by omega)
  rcases Nat.lt_or_ge l 2567 with c | c
  · exact nk_all_s 9 _ gb_v4 l (by omega) (by omega)
  rcases Nat.lt_or_ge l 3079 with c | c
  · exact nk_all_s 9 _ gb_v5 l (by omega) (by omega)
  rcases Nat.lt_or_ge l 3591 with c | c
  · exact nk_all_s 9 _ gb_v6 l (by omega) (by omega)
  rcases Nat.lt_or_ge l 4103 with c | c
  · exact nk_all_s 9 _ gb_v7 l (by omega) (by omega)
  rcases Nat.lt_or_ge l 4615 with c | c
  · exact nk_all_s 9 _ gb_v8 l (by omega) (by omega)
  rcases Nat.lt_or_ge l 5127 with c | c
  · exact nk_all_s 9 _ gb_v9 l (by omega) (by omega)
  rcases Nat.lt_or_ge l 5639 with c | c
  · exact nk_all_s 9 _ gb_v10 l (by omega) (by omega)
  rcases Nat.lt_or_ge l 6151 with c | c
  · exact nk_all_s 9 _ gb_v11 l (by omega) (by omega)
  rcases Nat.lt_or_ge l 6663 with c | c
  · exact nk_all_s 9 _ gb_v12 l (by omega) (by omega)
  rcases Nat.lt_or_ge l 7175 with c | c
  · exact nk_all_s 9 _ gb_v13 l (by omega) (by omega)
  rcases Nat.lt_or_ge l 7687 with c | c
  · exact nk_all_s 9 _ gb_v14 l (by omega) (by omega)
  rcases Nat.lt_or_ge l 8199 with c | c
  · exact nk_all_s 9 _ gb_v15 l (by omega) (by omega)
  rcases Nat.lt_or_ge l 8711 with c | c
  · exact nk_all_s 9 _ gb_v16 l (by omega) (by omega)
  rcases Nat.lt_or_ge l 9223 with c | c
  · exact nk_all_s 9 _ gb_v17 l (by omega) (by omega)
  rcases Nat.lt_or_ge l 9735 with c | c
  · exact nk_all_s 9 _ gb_v18 l (by omega) (by omega)
  exact nk_all_s 9 _ gb_v19 l (by omega) (by omega)
theorem gb_lt {S K : Nat} (h : Nat.beq (Nat.shiftRight S K) 0 = true) : S < 2 ^ K := by
  have e : S >>> K = 0 := Nat.eq_of_beq_eq_true h
  rw [Nat.shiftRight_eq_div_pow] at e
  refine Nat.lt_of_not_le (fun z => ?_)
  have := Nat.div_pos z (Nat.two_pow_pos K)
  omega
theorem gb_t0 {S : Nat} (h : Nat.beq (Nat.land S 1) 0 = true) : Nat.testBit S 0 = false := by
  have e : S &&& 1 = 0 := Nat.eq_of_beq_eq_true h
  have e2 : (S &&& 1).testBit 0 = false := by rw [e, Nat.zero_testBit]
  rw [Nat.testBit_and] at e2
  simpa using e2
theorem gb_L1 : Nat.beq (Nat.shiftRight gb_S1 3333333) 0 = true := by decide +kernel
theorem gb_L7 : Nat.beq (Nat.shiftRight gb_S7 3333333) 0 = true := by decide +kernel
theorem gb_L11 : Nat.beq (Nat.shiftRight gb_S11 3333333) 0 = true := by decide +kernel
theorem gb_L13 : Nat.beq (Nat.shiftRight gb_S13 3333333) 0 = true := by decide +kernel
theorem gb_L17 : Nat.beq (Nat.shiftRight gb_S17 3333333) 0 = true := by decide +kernel
theorem gb_L19 : Nat.beq (Nat.shiftRight gb_S19 3333333) 0 = true := by decide +kernel
theorem gb_L23 : Nat.beq (Nat.shiftRight gb_S23 3333333) 0 = true := by decide +kernel
theorem gb_L29 : Nat.beq (Nat.shiftRight gb_S29 3333333) 0 = true := by decide +kernel
theorem gb_T1 : Nat.beq (Nat.land gb_S1 1) 0 = true := by decide +kernel
theorem gb_A1 : gb_SP gb_S1 31 := gb_S_s gb_hs (c := 1) (by decide) rfl (Nat.le_refl _) (gb_lt gb_L1) (fun _ => gb_t0 gb_T1)
theorem gb_A7 : gb_SP gb_S7 37 := gb_S_s gb_hs (c := 7) (by decide) rfl (Nat.le_refl _) (gb_lt gb_L7) (fun z => by cases z)
theorem gb_A11 : gb_SP gb_S11 41 := gb_S_s gb_hs (c := 11) (by decide) rfl (Nat.le_refl _) (gb_lt gb_L11) (fun z => by cases z)
theorem gb_A13 : gb_SP gb_S13 43 := gb_S_s gb_hs (c := 13) (by decide) rfl (Nat.le_refl _) (gb_lt gb_L13) (fun z => by cases z)
theorem gb_A17 : gb_SP gb_S17 47 := gb_S_s gb_hs (c := 17) (by decide) rfl (Nat.le_refl _) (gb_lt gb_L17) (fun z => by cases z)
theorem gb_A19 : gb_SP gb_S19 49 := gb_S_s gb_hs (c := 19) (by decide) rfl (Nat.le_refl _) (gb_lt gb_L19) (fun z => by cases z)
theorem gb_A23 : gb_SP gb_S23 53 := gb_S_s gb_hs (c := 23) (by decide) rfl (Nat.le_refl _) (gb_lt gb_L23) (fun z => by cases z)
theorem gb_A29 : gb_SP gb_S29 59 := gb_S_s gb_hs (c := 29) (by decide) rfl (Nat.le_refl _) (gb_lt gb_L29) (fun z => by cases z)
theorem gb_A : gb_SA := ⟨gb_A1, gb_A7, gb_A11, gb_A13, gb_A17, gb_A19, gb_A23, gb_A29⟩
/-! the product -/
theorem gb_y0 : nk_all (gb_ck gb_P) 9 0 = true := by decide +kernel
theorem gb_y1 : nk_all (gb_ck gb_P) 9 512 = true := by decide +kernel
theorem gb_y2 : nk_all (gb_ck gb_P) 9 1024 = true := by decide +kernel
theorem gb_y3 : nk_all (gb_ck gb_P) 9 1536 = true := by decide +kernel
theorem gb_y4 : nk_all (gb_ck gb_P) 9 2048 = true := by decide +kernel
theorem gb_y5 : nk_all (gb_ck gb_P) 9 2560 = true := by decide +kernel
theorem gb_y6 : nk_all (gb_ck gb_P) 9 3072 = true := by decide +kernel
theorem gb_y7 : nk_all (gb_ck gb_P) 9 3584 = true := by decide +kernel
theorem gb_y8 : nk_all (gb_ck gb_P) 9 4096 = true := by decide +kernel
theorem gb_y9 : nk_all (gb_ck gb_P) 9 4608 = true := by decide +kernel
theorem gb_y10 : nk_all (gb_ck gb_P) 9 5120 = true := by decide +kernel
theorem gb_y11 : nk_all (gb_ck gb_P) 9 5632 = true := by decide +kernel
theorem gb_y12 : nk_all (gb_ck gb_P) 9 6144 = true := by decide +kernel
theorem gb_y13 : nk_all (gb_ck gb_P) 9 6656 = true := by decide +kernel
theorem gb_y14 : nk_all (gb_ck gb_P) 9 7168 = true := by decide +kernel
theorem gb_y15 : nk_all (gb_ck gb_P) 9 7680 = true := by decide +kernel
theorem gb_hy (l : Nat) (h2 : l < 8192) : gb_ck gb_P l = true := by
  rcases Nat.lt_or_ge l 512 with c | c
  · exact nk_all_s 9 _ gb_y0 l (by omega) (by omega)
  rcases Nat.lt_or_ge l 1024 with c | c
  · exact nk_all_s 9 _ gb_y1 l (by omega) (by omega)
  rcases Nat.lt_or_ge l 1536 with c | c
  · exact nk_all_s 9 _ gb_y2 l (by omega) (by omega)
  rcases Nat.lt_or_ge l 2048 with c | c
  · exact nk_all_s 9 _ gb_y3 l (by omega) (by omega)
  rcases Nat.lt_or_ge l 2560 with c | c
  · exact nk_all_s 9 _ gb_y4 l (by omega) (by omega)
  rcases Nat.lt_or_ge l 3072 with c | c
  · exact nk_all_s 9 _ gb_y5 l (by omega) (by omega)
  rcases Nat.lt_or_ge l 3584 with c | c
  · exact nk_all_s 9 _ gb_y6 l (by omega) (by omega)
  rcases Nat.lt_or_ge l 4096 with c | c
  · exact nk_all_s 9 _ gb_y7 l (by omega) (by omega)
  rcases Nat.lt_or_ge l 4608 with c | c
  · exact nk_all_s 9 _ gb_y8 l (by omega) (by omega)
  rcases Nat.lt_or_ge l 5120 with c | c
  · exact nk_all_s 9 _ gb_y9 l (by omega) (by omega)
  rcases Nat.lt_or_ge l 5632 with c | c
  · exact nk_all_s 9 _ gb_y10 l (by omega) (by omega)
  rcases Nat.lt_or_ge l 6144 with c | c
  · exact nk_all_s 9 _ gb_y11 l (by omega) (by omega)
  rcases Nat.lt_or_ge l 6656 with c | c
  · exact nk_all_s 9 _ gb_y12 l (by omega) (by omega)
  rcases Nat.lt_or_ge l 7168 with c | c
  · exact nk_all_s 9 _ gb_y13 l (by omega) (by omega)
  rcases Nat.lt_or_ge l 7680 with c | c
  · exact nk_all_s 9 _ gb_y14 l (by omega) (by omega)
  exact nk_all_s 9 _ gb_y15 l (by omega) (by omega)
theorem gb_e2 : Nat.beq (Nat.mod gb_P 2) 0 = true := by decide +kernel
theorem gb_PYy : gb_PY 1000000 gb_P := gb_ck_s (Nat.eq_of_beq_eq_true gb_e2) (J := 8192) (by decide) gb_hy
theorem gb_PY1 : gb_PY 127 4014476939333036189094441199026045136645885247730 := gb_ck_s (J := 1) (by decide) (by decide) (by
  intro j hj
  have e : j = 0 := by omega
  rw [e]
  decide +kernel)
theorem gb_f0 : gb_win 4014476939333036189094441199026045136645885247730 15000 = true := by decide +kernel
/-! the small ones -/
theorem gb_sel_s (hA : gb_SA) (c : Nat) : gb_SP (gb_sel c) (c + 30) := by
  obtain ⟨s1, s7, s11, s13, s17, s19, s23, s29⟩ := hA
  unfold gb_sel
  cases h1 : Nat.beq c 1 with
  | true =>
    have e := Nat.eq_of_beq_eq_true h1
    rw [e]
    exact s1
  | false =>
    cases h7 : Nat.beq c 7 with
    | true =>
      have e := Nat.eq_of_beq_eq_true h7
      rw [e]
      exact s7
    | false =>
      cases h11 : Nat.beq c 11 with
      | true =>
        have e := Nat.eq_of_beq_eq_true h11
        rw [e]
        exact s11
      | false =>
        cases h13 : Nat.beq c 13 with
        | true =>
          have e := Nat.eq_of_beq_eq_true h13
          rw [e]
          exact s13
        | false =>
          cases h17 : Nat.beq c 17 with
          | true =>
            have e := Nat.eq_of_beq_eq_true h17
            rw [e]
            exact s17
          | false =>
            cases h19 : Nat.beq c 19 with
            | true =>
              have e := Nat.eq_of_beq_eq_true h19
              rw [e]
              exact s19
            | false =>
              cases h23 : Nat.beq c 23 with
              | true =>
                have e := Nat.eq_of_beq_eq_true h23
                rw [e]
                exact s23
              | false =>
                cases h29 : Nat.beq c 29 with
                | true =>
                  have e := Nat.eq_of_beq_eq_true h29
                  rw [e]
                  exact s29
                | false =>
                  exact fun k hk => by
                    change (0 : Nat).testBit k = true at hk
                    rw [Nat.zero_testBit] at hk
                    cases hk
noncomputable def gb_mk : Nat := Nat.sub (Nat.pow 2 640) 1
noncomputable def gb_is (x : Nat) : Bool := Nat.beq (Nat.land (Nat.shiftRight (Nat.land (gb_sel (Nat.mod x 30)) gb_mk) (Nat.div x 30)) 1) 1
theorem gb_is_s (hA : gb_SA) {x : Nat} (h : gb_is x = true) : np_pr x = true ∧ x % 2 = 1 := by
  have e : ((gb_sel (x % 30) &&& gb_mk) >>> (x / 30)) &&& 1 = 1 := Nat.eq_of_beq_eq_true h
  have e2 : (((gb_sel (x % 30) &&& gb_mk) >>> (x / 30)) &&& 1).testBit 0 = true := (congrArg (fun z => Nat.testBit z 0) e).trans (by decide)
  rw [Nat.testBit_and, Nat.testBit_shiftRight, Nat.testBit_and] at e2
  simp only [Bool.and_eq_true] at e2
  obtain ⟨p, p1, p2, p3⟩ := gb_sel_s hA (x % 30) _ e2.1.1
  have e3 : p = x := by omega
  rw [← e3]
  exact ⟨p1, p2⟩
def gb_sp : List Nat := [3, 5, 7, 11, 13, 17, 19, 23, 29, 31, 37, 41, 43, 47, 53, 59, 61, 67, 71, 73, 79, 83, 89, 97, 101, 103, 107, 109, 113, 127, 131, 137, 139, 149, 151, 157, 163, 167, 173, 179, 181, 191, 193, 197, 199, 211, 223, 227, 229, 233, 239, 241, 251, 257, 263, 269, 271, 277, 281, 283, 293]
theorem gb_sp_s : ∀ p ∈ gb_sp, np_pr p = true ∧ p % 2 = 1 ∧ p < 300 := by decide +kernel
noncomputable def gb_sm (n : Nat) (l : List Nat) : Bool := @List.rec Nat (fun _ => Bool) false (fun p _ ih => nk_or (gb_is (Nat.sub n p)) ih) l
theorem gb_sm_s (hA : gb_SA) {n : Nat} (hn : n % 2 = 0) : ∀ l : List Nat, (∀ p ∈ l, np_pr p = true ∧ p % 2 = 1) → gb_sm n l = true → gb_P2 n
  | [], _, h => by cases h
  | p :: l, hl, h => by
    rcases nk_or_s (a := gb_is (n - p)) (b := gb_sm n l) h with h1 | h1
    · obtain ⟨q1, q2⟩ := gb_is_s hA h1
      obtain ⟨p1, p2⟩ := hl p List.mem_cons_self
      exact ⟨p, n - p, p1, q1, p2, q2, by omega⟩
    · exact gb_sm_s hA hn l (fun z hz => hl z (List.mem_cons_of_mem _ hz)) h1
theorem gb_m0 : nk_all (fun j => gb_sm (Nat.add 30 (Nat.mul 2 j)) gb_sp) 11 0 = true := by decide +kernel
theorem gb_m1 : nk_all (fun j => gb_sm (Nat.add 30 (Nat.mul 2 j)) gb_sp) 11 2048 = true := by decide +kernel
theorem gb_m2 : nk_all (fun j => gb_sm (Nat.add 30 (Nat.mul 2 j)) gb_sp) 11 4096 = true := by decide +kernel
theorem gb_m3 : nk_all (fun j => gb_sm (Nat.add 30 (Nat.mul 2 j)) gb_sp) 11 6144 = true := by decide +kernel
theorem gb_mm (j : Nat) (h : j < 8192) : gb_sm (30 + 2 * j) gb_sp = true := by
  rcases Nat.lt_or_ge j 2048 with c | c
  · exact nk_all_s 11 _ gb_m0 j (by omega) (by omega)
  rcases Nat.lt_or_ge j 4096 with c | c
  · exact nk_all_s 11 _ gb_m1 j (by omega) (by omega)
  rcases Nat.lt_or_ge j 6144 with c | c
  · exact nk_all_s 11 _ gb_m2 j (by omega) (by omega)
  exact nk_all_s 11 _ gb_m3 j (by omega) (by omega)
theorem gb_ms (n : Nat) (hn : n % 2 = 0) (h1 : 30 ≤ n) (h2 : n < 16000) : gb_P2 n := by
  have key : gb_sm (30 + 2 * ((n - 30) / 2)) gb_sp = true := gb_mm ((n - 30) / 2) (by omega)
  have e : 30 + 2 * ((n - 30) / 2) = n := by omega
  rw [e] at key
  exact gb_sm_s gb_A hn _ (fun p hp => ⟨(gb_sp_s p hp).1, (gb_sp_s p hp).2.1⟩) key
theorem gb_m : ∀ n, n < 30 → 6 ≤ n → n % 2 = 0 → np_g2 n n 3 = true := by decide +kernel
/-- every even number, given the windows -/
theorem gb_all (h : gb_GR 1 10001) (n : Nat) (h1 : 6 ≤ n) (h2 : n ≤ 1000000000000) (h3 : n % 2 = 0) : np_g2 n n 3 = true := by
  rcases Nat.lt_or_ge n 30 with c | c
  · exact gb_m n c h1 h3
  refine gb_g2b ?_
  rcases Nat.lt_or_ge n 15030 with c3 | c3
  · exact gb_ms n h3 c (by omega)
  rcases Nat.lt_or_ge n 100005000 with c4 | c4
  · exact gb_win_s gb_A gb_PY1 rfl (by decide) (by decide) gb_f0 h3 (by omega) (by omega)
  · exact gb_win_s gb_A gb_PYy (W := 15000 + 99990000 * ((n - 15000) / 99990000)) (by omega) (by omega) (by omega) (h _ (by omega) (by omega)) h3 (by omega) (by omega)
