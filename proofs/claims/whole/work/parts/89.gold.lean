/-! EVEN NUMBERS AS SUMS OF TWO -/
def gb_P2 (n : Nat) : Prop := ∃ p q, np_pr p = true ∧ np_pr q = true ∧ p % 2 = 1 ∧ q % 2 = 1 ∧ p + q = n
theorem gb_g2a {n p : Nat} (hp : np_pr p = true) (hq : np_pr (n - p) = true) (h2 : p % 2 = 1) (h3 : 2 * p ≤ n) : ∀ (f a : Nat), a % 2 = 1 → a ≤ p → p < a + 2 * f → np_g2 n f a = true
  | 0, a, h4, h5, h6 => by omega
  | f + 1, a, h4, h5, h6 => by
    unfold np_g2
    rw [if_pos (by omega)]
    by_cases e : a = p
    · rw [e, hp, hq]
      rfl
    · split
      · rfl
      · exact gb_g2a hp hq h2 h3 f (a + 2) (by omega) (by omega) (by omega)
theorem gb_g2b {n : Nat} (h : gb_P2 n) : np_g2 n n 3 = true := by
  obtain ⟨p, q, hp, hq, p2, q2, e⟩ := h
  have a1 := (np_pr_dvd.mp hp).1
  have a2 := (np_pr_dvd.mp hq).1
  rcases Nat.le_total p q with c | c
  · exact gb_g2a hp (by rw [show n - p = q by omega]; exact hq) p2 (by omega) n 3 rfl (by omega) (by omega)
  · exact gb_g2a hq (by rw [show n - q = p by omega]; exact hp) q2 (by omega) n 3 rfl (by omega) (by omega)
def gb_GA (W r acc : Nat) : Prop := ∀ m, Nat.testBit acc m = true → gb_P2 (W + 30 * m + r)
def gb_SP (S a : Nat) : Prop := ∀ k, Nat.testBit S k = true → ∃ p, np_pr p = true ∧ p % 2 = 1 ∧ p + 30 = 30 * k + a
def gb_QL (Wc : Nat) (l : List Nat) : Prop := ∀ t ∈ l, ∃ q, np_pr q = true ∧ q % 2 = 1 ∧ q + 30 * t = Wc
theorem gb_SP1 {S a : Nat} (h : gb_SP S (a + 30)) : gb_SP (Nat.shiftLeft S 1) a := by
  intro k hk
  change (S <<< 1).testBit k = true at hk
  rw [Nat.testBit_shiftLeft, Bool.and_eq_true] at hk
  obtain ⟨h1, h2⟩ := hk
  have h3 : 1 ≤ k := by simpa using h1
  obtain ⟨p, p1, p2, p3⟩ := h _ h2
  exact ⟨p, p1, p2, by omega⟩
noncomputable def gb_fo (S : Nat) (l : List Nat) : Nat → Nat := @List.rec Nat (fun _ => Nat → Nat) (fun acc => acc) (fun t _ ih acc => ih (Nat.lor acc (Nat.shiftRight S t))) l
theorem gb_fo_s {S a W r c : Nat} (hS : gb_SP S a) (e : a + c = r + 30) : ∀ (l : List Nat) (acc : Nat), gb_QL (W + c) l → gb_GA W r acc → gb_GA W r (gb_fo S l acc)
  | [], acc, _, h => h
  | t :: l, acc, hl, h => by
    refine gb_fo_s hS e l (Nat.lor acc (Nat.shiftRight S t)) (fun x hx => hl x (List.mem_cons_of_mem _ hx)) (fun m hm => ?_)
    change (acc ||| (S >>> t)).testBit m = true at hm
    rw [Nat.testBit_or, Bool.or_eq_true, Nat.testBit_shiftRight] at hm
    rcases hm with hm | hm
    · exact h m hm
    · obtain ⟨p, p1, p2, p3⟩ := hS _ hm
      obtain ⟨q, q1, q2, q3⟩ := hl t List.mem_cons_self
      exact ⟨p, q, p1, q1, p2, q2, by omega⟩
/-- the steps below W + c at which a whole number lies -/
noncomputable def gb_pl (R Wc : Nat) (ch : List Nat) : List Nat := @List.rec Nat (fun _ => List Nat) [] (fun t _ ih => @Bool.rec (fun _ => List Nat) ih (List.cons t ih) (Nat.beq (Nat.gcd (Nat.sub Wc (Nat.mul 30 t)) R) 1)) ch
theorem gb_pl_s {R Wc t : Nat} : ∀ ch : List Nat, t ∈ gb_pl R Wc ch → t ∈ ch ∧ Nat.gcd (Wc - 30 * t) R = 1
  | [], h => by cases h
  | u :: ch, h => by
    change t ∈ @Bool.rec (fun _ => List Nat) (gb_pl R Wc ch) (List.cons u (gb_pl R Wc ch)) (Nat.beq (Nat.gcd (Wc - 30 * u) R) 1) at h
    cases hb : Nat.beq (Nat.gcd (Wc - 30 * u) R) 1 with
    | false =>
      rw [hb] at h
      obtain ⟨h1, h2⟩ := gb_pl_s ch h
      exact ⟨List.mem_cons_of_mem _ h1, h2⟩
    | true =>
      rw [hb] at h
      rcases List.mem_cons.mp h with e | e
      · rw [e]
        exact ⟨List.mem_cons_self, Nat.eq_of_beq_eq_true hb⟩
      · obtain ⟨h1, h2⟩ := gb_pl_s ch e
        exact ⟨List.mem_cons_of_mem _ h1, h2⟩
noncomputable def gb_x4 (u : Nat) : Nat := Nat.mul (Nat.mul (Nat.add u 29) (Nat.add u 161)) (Nat.mul (Nat.add u 209) (Nat.add u 221))
noncomputable def gb_x8 (w : Nat) : Nat := gb_x4 (Nat.mul w (Nat.add w 30))
noncomputable def gb_px (W : Nat) (ch : List Nat) : Nat := @List.rec Nat (fun _ => Nat) 1 (fun t _ ih => Nat.mul (gb_x8 (Nat.sub W (Nat.mul 30 t))) ih) ch
theorem gb_xab {w a b : Nat} (h : a + b = 30) : (w + a) * (w + b) = w * (w + 30) + a * b := by
  rw [Nat.add_mul, Nat.mul_add, Nat.mul_add, Nat.mul_add, ← h, Nat.mul_add, Nat.mul_comm a w]
  omega
theorem gb_x8_s {w c : Nat} (hc : c ∈ [1, 7, 11, 13, 17, 19, 23, 29]) : w + c ∣ gb_x8 w := by
  have e1 : (w + 1) * (w + 29) = w * (w + 30) + 29 := gb_xab rfl
  have e2 : (w + 7) * (w + 23) = w * (w + 30) + 161 := gb_xab rfl
  have e3 : (w + 11) * (w + 19) = w * (w + 30) + 209 := gb_xab rfl
  have e4 : (w + 13) * (w + 17) = w * (w + 30) + 221 := gb_xab rfl
  show w + c ∣ ((w * (w + 30) + 29) * (w * (w + 30) + 161)) * ((w * (w + 30) + 209) * (w * (w + 30) + 221))
  rw [← e1, ← e2, ← e3, ← e4]
  simp only [List.mem_cons, List.not_mem_nil, or_false] at hc
  rcases hc with e | e | e | e | e | e | e | e <;> subst e
  · exact Nat.dvd_mul_right_of_dvd (Nat.dvd_mul_right_of_dvd (Nat.dvd_mul_right _ _) _) _
  · exact Nat.dvd_mul_right_of_dvd (Nat.dvd_mul_left_of_dvd (Nat.dvd_mul_right _ _) _) _
  · exact Nat.dvd_mul_left_of_dvd (Nat.dvd_mul_right_of_dvd (Nat.dvd_mul_right _ _) _) _
  · exact Nat.dvd_mul_left_of_dvd (Nat.dvd_mul_left_of_dvd (Nat.dvd_mul_right _ _) _) _
  · exact Nat.dvd_mul_left_of_dvd (Nat.dvd_mul_left_of_dvd (Nat.dvd_mul_left _ _) _) _
  · exact Nat.dvd_mul_left_of_dvd (Nat.dvd_mul_right_of_dvd (Nat.dvd_mul_left _ _) _) _
  · exact Nat.dvd_mul_right_of_dvd (Nat.dvd_mul_left_of_dvd (Nat.dvd_mul_left _ _) _) _
  · exact Nat.dvd_mul_right_of_dvd (Nat.dvd_mul_right_of_dvd (Nat.dvd_mul_left _ _) _) _
theorem gb_px_s {W t c : Nat} (hc : c ∈ [1, 7, 11, 13, 17, 19, 23, 29]) : ∀ ch : List Nat, t ∈ ch → (W - 30 * t) + c ∣ gb_px W ch
  | [], h => by cases h
  | u :: ch, h => by
    show _ ∣ gb_x8 (W - 30 * u) * gb_px W ch
    rcases List.mem_cons.mp h with e | e
    · rw [e]
      exact Nat.dvd_mul_right_of_dvd (gb_x8_s hc) _
    · exact Nat.dvd_mul_left_of_dvd (gb_px_s hc ch e) _
def gb_PY (y P : Nat) : Prop := ∀ d, np_pr d = true → d ≤ y → d ∣ P
theorem gb_q {y P X q : Nat} (hP : gb_PY y P) (h1 : q ∣ X) (h2 : Nat.gcd q (P % X) = 1) (h3 : 2 ≤ q) (h4 : q < (y + 1) * (y + 1)) : np_pr q = true := by
  rw [np_pr_iff]
  refine ⟨h3, np_root (a := y + 1) h3 (fun d d1 d2 d3 => ?_) h4⟩
  have l1 := np_lp_pr d1
  have l2 := (np_lp_spec d1).2.1
  have l3 := np_lp_le d1
  have l4 := Nat.dvd_trans l2 d3
  have l5 := hP _ l1 (by omega)
  have l6 : np_lp d ∣ P % X := (Nat.dvd_mod_iff (Nat.dvd_trans l4 h1)).mpr l5
  have l7 := Nat.dvd_gcd l4 l6
  rw [h2] at l7
  have := Nat.le_of_dvd (by omega) l7
  have := (np_pr_dvd.mp l1).1
  omega
theorem gb_ql {y P W c : Nat} {chX ch : List Nat} (hP : gb_PY y P) (hc : c ∈ [1, 7, 11, 13, 17, 19, 23, 29]) (hW : W % 2 = 0) (hW2 : 12030 ≤ W) (hW3 : W + 30 ≤ (y + 1) * (y + 1)) (hX : ∀ t ∈ ch, t ∈ chX) (h4 : ∀ t ∈ chX, t ≤ 400) : gb_QL (W + c) (gb_pl (Nat.mod P (gb_px W chX)) (Nat.add W c) ch) := by
  intro t ht
  obtain ⟨h1, h2⟩ := gb_pl_s ch ht
  have h5 := hX t h1
  have h6 := h4 t h5
  have c2 : c % 2 = 1 ∧ c < 30 := by
    simp only [List.mem_cons, List.not_mem_nil, or_false] at hc
    omega
  have h7 := gb_px_s (W := W) hc chX h5
  have e : W - 30 * t + c = W + c - 30 * t := by omega
  change Nat.gcd (W + c - 30 * t) (P % gb_px W chX) = 1 at h2
  rw [e] at h7
  exact ⟨W + c - 30 * t, gb_q hP h7 h2 (by omega) (by omega), by omega, by omega⟩
noncomputable def gb_Mz (z : Nat) : Nat := Nat.sub (Nat.pow 2 z) 1
theorem gb_Mz_e (z : Nat) : gb_Mz z = 2 ^ z - 1 := rfl
noncomputable def gb_M : Nat := gb_Mz 3333000
noncomputable def gb_full (acc : Nat) : Bool := Nat.beq (Nat.land acc gb_M) gb_M
theorem gb_bits {acc z m : Nat} (e : acc &&& gb_Mz z = gb_Mz z) (hm : m < z) : Nat.testBit acc m = true := by
  rw [gb_Mz_e] at e
  have e2 : (acc &&& (2 ^ z - 1)).testBit m = (2 ^ z - 1).testBit m := by rw [e]
  rw [Nat.testBit_and, Nat.testBit_two_pow_sub_one, decide_eq_true hm, Bool.and_true] at e2
  exact e2
theorem gb_full_s {acc : Nat} (h : gb_full acc = true) (m : Nat) (hm : m < 3333000) : Nat.testBit acc m = true := gb_bits (z := 3333000) (Nat.eq_of_beq_eq_true h) hm
noncomputable def gb_go (F : List Nat → List Nat → Nat → Nat) (chs : List (List Nat × List Nat)) : Nat → Bool := @List.rec (List Nat × List Nat) (fun _ => Nat → Bool) (fun acc => gb_full acc) (fun x _ ih acc => @Bool.rec (fun _ => Bool) (ih (F x.1 x.2 acc)) true (gb_full acc)) chs
theorem gb_go_s {W r : Nat} {F : List Nat → List Nat → Nat → Nat} : ∀ (chs : List (List Nat × List Nat)), (∀ x ∈ chs, ∀ acc, gb_GA W r acc → gb_GA W r (F x.1 x.2 acc)) → ∀ acc, gb_GA W r acc → gb_go F chs acc = true → ∀ m, m < 3333000 → gb_P2 (W + 30 * m + r)
  | [], _, acc, h, h2, m, hm => h m (gb_full_s h2 m hm)
  | x :: chs, hF, acc, h, h2, m, hm => by
    change @Bool.rec (fun _ => Bool) (gb_go F chs (F x.1 x.2 acc)) true (gb_full acc) = true at h2
    cases hb : gb_full acc with
    | true => exact h m (gb_full_s hb m hm)
    | false =>
      rw [hb] at h2
      exact gb_go_s chs (fun z hz => hF z (List.mem_cons_of_mem _ hz)) _ (hF x List.mem_cons_self acc h) h2 m hm
theorem gb_GA0 (W r : Nat) : gb_GA W r 0 := fun m hm => by
  rw [Nat.zero_testBit] at hm
  cases hm
/-- the first steps, without a look -/
noncomputable def gb_ba (F : List Nat → List Nat → Nat → Nat) (chs : List (List Nat × List Nat)) : Nat → Nat := @List.rec (List Nat × List Nat) (fun _ => Nat → Nat) (fun acc => acc) (fun x _ ih acc => ih (F x.1 x.2 acc)) chs
theorem gb_ba_s {W r : Nat} {F : List Nat → List Nat → Nat → Nat} : ∀ (chs : List (List Nat × List Nat)), (∀ x ∈ chs, ∀ acc, gb_GA W r acc → gb_GA W r (F x.1 x.2 acc)) → ∀ acc, gb_GA W r acc → gb_GA W r (gb_ba F chs acc)
  | [], _, acc, h => h
  | x :: chs, hF, acc, h => gb_ba_s chs (fun z hz => hF z (List.mem_cons_of_mem _ hz)) _ (hF x List.mem_cons_self acc h)
/-! steps -/
def gb_X0 : List Nat := [1, 2, 3, 4, 5, 6, 7, 8, 9, 10, 11, 12, 13, 14, 15, 16, 17, 18, 19, 20, 21, 22, 23, 24, 25, 26, 27, 28, 29, 30, 31, 32, 33, 34, 35, 36, 37, 38, 39, 40, 41, 42, 43, 44, 45, 46, 47, 48, 49, 50, 51, 52, 53, 54, 55, 56, 57, 58, 59, 60, 61, 62, 63, 64, 65, 66, 67, 68, 69, 70, 71, 72, 73, 74, 75, 76, 77, 78, 79, 80, 81, 82, 83, 84, 85, 86, 87, 88, 89, 90, 91, 92, 93, 94, 95, 96, 97, 98, 99, 100, 101, 102, 103, 104, 105, 106, 107, 108, 109, 110, 111, 112, 113, 114, 115, 116, 117, 118, 119, 120, 121, 122, 123, 124, 125, 126, 127, 128, 129, 130, 131, 132, 133, 134, 135, 136, 137, 138, 139, 140, 141, 142, 143, 144, 145, 146, 147, 148, 149, 150, 151, 152, 153, 154, 155, 156, 157, 158, 159, 160, 161, 162, 163, 164, 165, 166, 167, 168, 169, 170, 171, 172, 173, 174, 175, 176, 177, 178, 179, 180, 181, 182, 183, 184, 185, 186, 187, 188, 189, 190, 191, 192, 193, 194, 195, 196, 197, 198, 199, 200]
def gb_X1 : List Nat := [201, 202, 203, 204, 205, 206, 207, 208, 209, 210, 211, 212, 213, 214, 215, 216, 217, 218, 219, 220, 221, 222, 223, 224, 225, 226, 227, 228, 229, 230, 231, 232, 233, 234, 235, 236, 237, 238, 239, 240, 241, 242, 243, 244, 245, 246, 247, 248, 249, 250, 251, 252, 253, 254, 255, 256, 257, 258, 259, 260, 261, 262, 263, 264, 265, 266, 267, 268, 269, 270, 271, 272, 273, 274, 275, 276, 277, 278, 279, 280]
def gb_X2 : List Nat := [281, 282, 283, 284, 285, 286, 287, 288, 289, 290, 291, 292, 293, 294, 295, 296, 297, 298, 299, 300, 301, 302, 303, 304, 305, 306, 307, 308, 309, 310, 311, 312, 313, 314, 315, 316, 317, 318, 319, 320]
def gb_c1_48 : List Nat := [1, 2, 3, 4, 5, 6, 7, 8, 9, 10, 11, 12, 13, 14, 15, 16, 17, 18, 19, 20, 21, 22, 23, 24, 25, 26, 27, 28, 29, 30, 31, 32, 33, 34, 35, 36, 37, 38, 39, 40, 41, 42, 43, 44, 45, 46, 47, 48]
def gb_c49_64 : List Nat := [49, 50, 51, 52, 53, 54, 55, 56, 57, 58, 59, 60, 61, 62, 63, 64]
def gb_c65_80 : List Nat := [65, 66, 67, 68, 69, 70, 71, 72, 73, 74, 75, 76, 77, 78, 79, 80]
def gb_c81_96 : List Nat := [81, 82, 83, 84, 85, 86, 87, 88, 89, 90, 91, 92, 93, 94, 95, 96]
def gb_c97_112 : List Nat := [97, 98, 99, 100, 101, 102, 103, 104, 105, 106, 107, 108, 109, 110, 111, 112]
def gb_c113_128 : List Nat := [113, 114, 115, 116, 117, 118, 119, 120, 121, 122, 123, 124, 125, 126, 127, 128]
def gb_c129_144 : List Nat := [129, 130, 131, 132, 133, 134, 135, 136, 137, 138, 139, 140, 141, 142, 143, 144]
def gb_c145_160 : List Nat := [145, 146, 147, 148, 149, 150, 151, 152, 153, 154, 155, 156, 157, 158, 159, 160]
def gb_c161_180 : List Nat := [161, 162, 163, 164, 165, 166, 167, 168, 169, 170, 171, 172, 173, 174, 175, 176, 177, 178, 179, 180]
def gb_c181_200 : List Nat := [181, 182, 183, 184, 185, 186, 187, 188, 189, 190, 191, 192, 193, 194, 195, 196, 197, 198, 199, 200]
def gb_c201_220 : List Nat := [201, 202, 203, 204, 205, 206, 207, 208, 209, 210, 211, 212, 213, 214, 215, 216, 217, 218, 219, 220]
def gb_c221_240 : List Nat := [221, 222, 223, 224, 225, 226, 227, 228, 229, 230, 231, 232, 233, 234, 235, 236, 237, 238, 239, 240]
def gb_c241_260 : List Nat := [241, 242, 243, 244, 245, 246, 247, 248, 249, 250, 251, 252, 253, 254, 255, 256, 257, 258, 259, 260]
def gb_c261_280 : List Nat := [261, 262, 263, 264, 265, 266, 267, 268, 269, 270, 271, 272, 273, 274, 275, 276, 277, 278, 279, 280]
def gb_c281_320 : List Nat := [281, 282, 283, 284, 285, 286, 287, 288, 289, 290, 291, 292, 293, 294, 295, 296, 297, 298, 299, 300, 301, 302, 303, 304, 305, 306, 307, 308, 309, 310, 311, 312, 313, 314, 315, 316, 317, 318, 319, 320]
def gb_ok (x : List Nat × List Nat) : Prop := (∀ t ∈ x.2, t ∈ x.1) ∧ ∀ t ∈ x.1, t ≤ 400
def gb_b8 : List (List Nat × List Nat) := [(gb_X0, gb_c1_48)]
def gb_k8 : List (List Nat × List Nat) := [(gb_X0, gb_c49_64), (gb_X0, gb_c65_80), (gb_X0, gb_c81_96), (gb_X0, gb_c97_112), (gb_X0, gb_c113_128), (gb_X0, gb_c129_144), (gb_X0, gb_c145_160), (gb_X0, gb_c161_180), (gb_X0, gb_c181_200), (gb_X1, gb_c201_220), (gb_X1, gb_c221_240), (gb_X1, gb_c241_260), (gb_X1, gb_c261_280), (gb_X2, gb_c281_320)]
theorem gb_b8_s : ∀ x ∈ gb_b8, gb_ok x := by
  unfold gb_ok
  decide +kernel
theorem gb_k8_s : ∀ x ∈ gb_k8, gb_ok x := by
  unfold gb_ok
  decide +kernel
def gb_b6 : List (List Nat × List Nat) := [(gb_X0, gb_c1_48), (gb_X0, gb_c49_64)]
def gb_k6 : List (List Nat × List Nat) := [(gb_X0, gb_c65_80), (gb_X0, gb_c81_96), (gb_X0, gb_c97_112), (gb_X0, gb_c113_128), (gb_X0, gb_c129_144), (gb_X0, gb_c145_160), (gb_X0, gb_c161_180), (gb_X0, gb_c181_200), (gb_X1, gb_c201_220), (gb_X1, gb_c221_240), (gb_X1, gb_c241_260), (gb_X1, gb_c261_280), (gb_X2, gb_c281_320)]
theorem gb_b6_s : ∀ x ∈ gb_b6, gb_ok x := by
  unfold gb_ok
  decide +kernel
theorem gb_k6_s : ∀ x ∈ gb_k6, gb_ok x := by
  unfold gb_ok
  decide +kernel
def gb_b4 : List (List Nat × List Nat) := [(gb_X0, gb_c1_48), (gb_X0, gb_c49_64), (gb_X0, gb_c65_80), (gb_X0, gb_c81_96)]
def gb_k4 : List (List Nat × List Nat) := [(gb_X0, gb_c97_112), (gb_X0, gb_c113_128), (gb_X0, gb_c129_144), (gb_X0, gb_c145_160), (gb_X0, gb_c161_180), (gb_X0, gb_c181_200), (gb_X1, gb_c201_220), (gb_X1, gb_c221_240), (gb_X1, gb_c241_260), (gb_X1, gb_c261_280), (gb_X2, gb_c281_320)]
theorem gb_b4_s : ∀ x ∈ gb_b4, gb_ok x := by
  unfold gb_ok
  decide +kernel
theorem gb_k4_s : ∀ x ∈ gb_k4, gb_ok x := by
  unfold gb_ok
  decide +kernel
def gb_b3 : List (List Nat × List Nat) := [(gb_X0, gb_c1_48), (gb_X0, gb_c49_64), (gb_X0, gb_c65_80), (gb_X0, gb_c81_96), (gb_X0, gb_c97_112), (gb_X0, gb_c113_128)]
def gb_k3 : List (List Nat × List Nat) := [(gb_X0, gb_c129_144), (gb_X0, gb_c145_160), (gb_X0, gb_c161_180), (gb_X0, gb_c181_200), (gb_X1, gb_c201_220), (gb_X1, gb_c221_240), (gb_X1, gb_c241_260), (gb_X1, gb_c261_280), (gb_X2, gb_c281_320)]
theorem gb_b3_s : ∀ x ∈ gb_b3, gb_ok x := by
  unfold gb_ok
  decide +kernel
theorem gb_k3_s : ∀ x ∈ gb_k3, gb_ok x := by
  unfold gb_ok
  decide +kernel
