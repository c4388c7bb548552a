/-! THE TABLES LOOKED THROUGH -/
noncomputable def gb_D1 : Nat := Nat.shiftLeft gb_S1 1
noncomputable def gb_D7 : Nat := Nat.shiftLeft gb_S7 1
noncomputable def gb_D11 : Nat := Nat.shiftLeft gb_S11 1
noncomputable def gb_D13 : Nat := Nat.shiftLeft gb_S13 1
noncomputable def gb_D17 : Nat := Nat.shiftLeft gb_S17 1
noncomputable def gb_D19 : Nat := Nat.shiftLeft gb_S19 1
noncomputable def gb_D23 : Nat := Nat.shiftLeft gb_S23 1
noncomputable def gb_D29 : Nat := Nat.shiftLeft gb_S29 1
noncomputable def gb_sel (c : Nat) : Nat := (@Bool.rec (fun _ => Nat) (@Bool.rec (fun _ => Nat) (@Bool.rec (fun _ => Nat) (@Bool.rec (fun _ => Nat) (@Bool.rec (fun _ => Nat) (@Bool.rec (fun _ => Nat) (@Bool.rec (fun _ => Nat) (@Bool.rec (fun _ => Nat) 0 gb_S29 (Nat.beq c 29)) gb_S23 (Nat.beq c 23)) gb_S19 (Nat.beq c 19)) gb_S17 (Nat.beq c 17)) gb_S13 (Nat.beq c 13)) gb_S11 (Nat.beq c 11)) gb_S7 (Nat.beq c 7)) gb_S1 (Nat.beq c 1))
noncomputable def gb_pat (l n : Nat) : Nat := Nat.div (Nat.sub (Nat.pow 2 (Nat.mul l n)) 1) (Nat.sub (Nat.pow 2 l) 1)
def gb_pr (l : Nat) : Nat → Nat
  | 0 => 0
  | n + 1 => gb_pr l n + 2 ^ (l * n)
theorem gb_pr_e (l : Nat) : ∀ n, gb_pr l n * (2 ^ l - 1) = 2 ^ (l * n) - 1
  | 0 => by
    show 0 * (2 ^ l - 1) = 2 ^ (l * 0) - 1
    rw [Nat.zero_mul, Nat.mul_zero]
  | n + 1 => by
    show (gb_pr l n + 2 ^ (l * n)) * (2 ^ l - 1) = 2 ^ (l * (n + 1)) - 1
    rw [Nat.add_mul, gb_pr_e l n, Nat.mul_sub, Nat.mul_one, ← Nat.pow_add, Nat.mul_add, Nat.mul_one]
    have h1 : 2 ^ (l * n) ≤ 2 ^ (l * n + l) := Nat.pow_le_pow_right (by omega) (by omega)
    have h2 := Nat.two_pow_pos (l * n)
    omega
theorem gb_pat_e {l : Nat} (hl : 1 ≤ l) (n : Nat) : gb_pat l n = gb_pr l n := by
  have h1 : 2 ^ 1 ≤ 2 ^ l := Nat.pow_le_pow_right (by omega) hl
  show (2 ^ (l * n) - 1) / (2 ^ l - 1) = _
  rw [← gb_pr_e l n, Nat.mul_div_cancel _ (by omega)]
theorem gb_pr_lt {l : Nat} (hl : 1 ≤ l) (n : Nat) : gb_pr l n < 2 ^ (l * n) := by
  have h1 : 2 ^ 1 ≤ 2 ^ l := Nat.pow_le_pow_right (by omega) hl
  have h2 := gb_pr_e l n
  have h3 : gb_pr l n ≤ gb_pr l n * (2 ^ l - 1) := Nat.le_mul_of_pos_right _ (by omega)
  have h4 := Nat.two_pow_pos (l * n)
  omega
theorem gb_pr_bit {l : Nat} (hl : 1 ≤ l) : ∀ n i, i < n → (gb_pr l n).testBit (l * i) = true
  | 0, i, h => by omega
  | n + 1, i, h => by
    show (gb_pr l n + 2 ^ (l * n)).testBit (l * i) = true
    rw [Nat.add_comm]
    by_cases e : i = n
    · rw [e, Nat.testBit_two_pow_add_eq, Nat.testBit_lt_two_pow (gb_pr_lt hl n)]
      rfl
    · have h2 : l * i < l * n := Nat.mul_lt_mul_of_pos_left (by omega) hl
      rw [Nat.testBit_two_pow_add_gt h2]
      exact gb_pr_bit hl n i (by omega)
noncomputable def nk_la (p : Nat → Bool) (l : List Nat) : Bool := @List.rec Nat (fun _ => Bool) true (fun u _ ih => nk_and (p u) ih) l
theorem nk_la_s {p : Nat → Bool} {u : Nat} : ∀ l : List Nat, nk_la p l = true → u ∈ l → p u = true
  | [], _, h => by cases h
  | v :: l, h, hu => by
    obtain ⟨h1, h2⟩ := nk_and_s (a := p v) (b := nk_la p l) h
    rcases List.mem_cons.mp hu with e | e
    · rw [e]; exact h1
    · exact nk_la_s l h2 e
noncomputable def gb_s1 (l u : Nat) : Bool := Nat.beq (Nat.land (gb_sel (Nat.mod (Nat.mul l u) 30)) (Nat.shiftLeft (gb_pat l (Nat.add (Nat.div 3333333 l) 1)) (Nat.div (Nat.mul l u) 30))) 0
noncomputable def gb_sl (l : Nat) : Bool := nk_la (gb_s1 l) [7, 11, 13, 17, 19, 23, 29, 31]
noncomputable def gb_sk (l : Nat) : Bool := @Bool.rec (fun _ => Bool) (gb_sl l) true (nk_and (Nat.ble 2 (Nat.gcd l 2305567963945518424753102147331756070)) (Nat.ble (Nat.add (Nat.gcd l 2305567963945518424753102147331756070) 1) l))
theorem gb_sk_s {l : Nat} (hl : np_pr l = true) (h : gb_sk l = true) : gb_sl l = true := by
  unfold gb_sk at h
  cases hb : nk_and (Nat.ble 2 (Nat.gcd l 2305567963945518424753102147331756070)) (Nat.ble (Nat.add (Nat.gcd l 2305567963945518424753102147331756070) 1) l) with
  | false =>
    rw [hb] at h
    exact h
  | true =>
    exfalso
    obtain ⟨h1, h2⟩ := nk_and_s hb
    have h3 := Nat.le_of_ble_eq_true h1
    have h4 : Nat.gcd l 2305567963945518424753102147331756070 + 1 ≤ l := Nat.le_of_ble_eq_true h2
    have h5 := (np_pr_dvd.mp hl).2 _ h3 (Nat.gcd_dvd_left l 2305567963945518424753102147331756070)
    omega
theorem gb_w30a : ∀ w, w < 30 → w % 2 = 0 ∨ w % 3 = 0 ∨ w % 5 = 0 ∨ w = 1 ∨ [7, 11, 13, 17, 19, 23, 29, 31].elem w = true := by decide +kernel
theorem gb_w30 (w : Nat) (h : w < 30) (h2 : w % 2 ≠ 0) (h3 : w % 3 ≠ 0) (h5 : w % 5 ≠ 0) : w = 1 ∨ w ∈ [7, 11, 13, 17, 19, 23, 29, 31] := by
  rcases gb_w30a w h with z | z | z | z | z
  · exact absurd z h2
  · exact absurd z h3
  · exact absurd z h5
  · exact Or.inl z
  · exact Or.inr (List.mem_of_elem_eq_true z)
theorem gb_S_s (hs : ∀ l, 7 ≤ l → l < 10001 → gb_sk l = true) {c S K : Nat} (hc : c ∈ [1, 7, 11, 13, 17, 19, 23, 29]) (hS : gb_sel c = S) (hK : K ≤ 3333333) (hlt : S < 2 ^ K) (h0 : c = 1 → Nat.testBit S 0 = false) : gb_SP S (c + 30) := by
  intro k hk
  have hk2 : k < K := by
    refine Nat.lt_of_not_le (fun z => ?_)
    rw [Nat.testBit_lt_two_pow (Nat.lt_of_lt_of_le hlt (Nat.pow_le_pow_right (by omega) z))] at hk
    cases hk
  have c30 : c < 30 ∧ 1 ≤ c ∧ c % 2 ≠ 0 ∧ c % 3 ≠ 0 ∧ c % 5 ≠ 0 := by
    simp only [List.mem_cons, List.not_mem_nil, or_false] at hc
    omega
  refine ⟨30 * k + c, ?_, by omega, by omega⟩
  have x2 : 2 ≤ 30 * k + c := by
    by_cases e : k = 0
    · by_cases e2 : c = 1
      · rw [e, h0 e2] at hk
        cases hk
      · omega
    · omega
  generalize hx : 30 * k + c = x at *
  rw [np_pr_iff]
  refine ⟨x2, Classical.byContradiction (fun hne => ?_)⟩
  obtain ⟨l1, ⟨v, hv⟩, l3⟩ := np_lp_spec x2
  have lp := np_lp_pr x2
  generalize np_lp x = l at *
  have v2 : 2 ≤ v := by
    refine Nat.le_of_not_lt (fun z => ?_)
    have z2 : v = 0 ∨ v = 1 := by omega
    rcases z2 with z2 | z2
    · rw [z2, Nat.mul_zero] at hv; omega
    · rw [z2, Nat.mul_one] at hv; omega
  have lv := l3 v v2 ⟨l, by rw [Nat.mul_comm]; exact hv⟩
  have ll : l * l ≤ x := by rw [hv]; exact Nat.mul_le_mul_left l lv
  have l4 : l < 10001 := by
    refine Nat.lt_of_not_le (fun z => ?_)
    have := Nat.mul_le_mul z z
    omega
  have n2 : ¬ 2 ∣ x := by omega
  have n3 : ¬ 3 ∣ x := by omega
  have n5 : ¬ 5 ∣ x := by omega
  have dl : ∀ d, d ∣ l → d ∣ x := fun d h => by rw [hv]; exact Nat.dvd_mul_right_of_dvd h v
  have dv : ∀ d, d ∣ v → d ∣ x := fun d h => by rw [hv]; exact Nat.dvd_mul_left_of_dvd h l
  have l7 : 7 ≤ l := by
    refine Nat.le_of_not_lt (fun z => ?_)
    have z2 : l = 2 ∨ l = 3 ∨ l = 4 ∨ l = 5 ∨ l = 6 := by omega
    rcases z2 with z2 | z2 | z2 | z2 | z2
    · exact n2 (dl 2 ⟨1, by omega⟩)
    · exact n3 (dl 3 ⟨1, by omega⟩)
    · exact n2 (dl 2 ⟨2, by omega⟩)
    · exact n5 (dl 5 ⟨1, by omega⟩)
    · exact n2 (dl 2 ⟨3, by omega⟩)
  have v3 := gb_w30 (v % 30) (by omega) (fun z => n2 (dv 2 (by omega))) (fun z => n3 (dv 3 (by omega))) (fun z => n5 (dv 5 (by omega)))
  obtain ⟨u, i, hu, hi⟩ : ∃ u i, u ∈ [7, 11, 13, 17, 19, 23, 29, 31] ∧ v = u + 30 * i := by
    rcases v3 with z | z
    · exact ⟨31, v / 30 - 1, by decide, by omega⟩
    · exact ⟨v % 30, v / 30, z, by omega⟩
  have h1 := nk_la_s _ (gb_sk_s lp (hs l l7 l4)) hu
  have h2 : gb_sel (l * u % 30) &&& (gb_pat l (3333333 / l + 1) <<< (l * u / 30)) = 0 := Nat.eq_of_beq_eq_true h1
  have e : x = l * u + 30 * (l * i) := by
    rw [hv, hi, Nat.mul_add, Nat.mul_left_comm]
  have e1 : l * u % 30 = c := by omega
  have e2 : l * u / 30 + l * i = k := by omega
  have h3 : (gb_sel (l * u % 30) &&& (gb_pat l (3333333 / l + 1) <<< (l * u / 30))).testBit k = true := by
    have i1 : i < 3333333 / l + 1 := by
      have : i ≤ 3333333 / l := by
        rw [Nat.le_div_iff_mul_le (by omega), Nat.mul_comm]
        omega
      omega
    rw [Nat.testBit_and, e1, hS, hk, Nat.testBit_shiftLeft, ← e2, Nat.add_sub_cancel_left, gb_pat_e (by omega), gb_pr_bit (by omega) _ i i1]
    simp
  rw [h2, Nat.zero_testBit] at h3
  cases h3
/-! the product -/
noncomputable def gb_ck (P j : Nat) : Bool := (fun D => Nat.beq (nk_s3 (nk_s3 (Nat.mod P D) D) D) 0) (nk_pd 6 (Nat.mul 64 j))
theorem gb_ck_s {P y J : Nat} (h2 : P % 2 = 0) (hy : y < 128 * J) (h : ∀ j, j < J → gb_ck P j = true) : gb_PY y P := by
  intro d hd hdy
  obtain ⟨d2, dd⟩ := np_pr_dvd.mp hd
  by_cases e : d = 2
  · rw [e]
    exact Nat.dvd_of_mod_eq_zero h2
  · have o : d % 2 = 1 := by
      rcases Nat.mod_two_eq_zero_or_one d with z | z
      · exact absurd (dd 2 (by omega) (Nat.dvd_of_mod_eq_zero z)).symm e
      · exact z
    have h3 : nk_s3 (nk_s3 (P % nk_pd 6 (64 * (d / 2 / 64))) (nk_pd 6 (64 * (d / 2 / 64)))) (nk_pd 6 (64 * (d / 2 / 64))) = 0 := Nat.eq_of_beq_eq_true (h (d / 2 / 64) (by omega))
    have h4 := nk_pd_in 6 (64 * (d / 2 / 64)) (d / 2) (by omega) (by omega)
    have e3 : 2 * (d / 2) + 1 = d := by omega
    rw [e3] at h4
    generalize nk_pd 6 (64 * (d / 2 / 64)) = D at h3 h4
    have h5 := nk_s3_s (nk_s3_s (u := P) (x := P % D) (g := D) (by rw [Nat.mod_mod]))
    rw [h3, Nat.zero_mod] at h5
    exact nf_eup hd 8 (nf_eup hd 8 (Nat.dvd_trans h4 (Nat.dvd_of_mod_eq_zero h5)))
/-! windows -/
noncomputable def gb_F0 (P W : Nat) (chX ch : List Nat) (acc : Nat) : Nat := (fun R => (gb_fo gb_D1 (gb_pl R (Nat.add W 29) ch) (gb_fo gb_D7 (gb_pl R (Nat.add W 23) ch) (gb_fo gb_D11 (gb_pl R (Nat.add W 19) ch) (gb_fo gb_D13 (gb_pl R (Nat.add W 17) ch) (gb_fo gb_D17 (gb_pl R (Nat.add W 13) ch) (gb_fo gb_D19 (gb_pl R (Nat.add W 11) ch) (gb_fo gb_D23 (gb_pl R (Nat.add W 7) ch) (gb_fo gb_D29 (gb_pl R (Nat.add W 1) ch) acc))))))))) (Nat.mod P (gb_px W chX))
noncomputable def gb_F2 (P W : Nat) (chX ch : List Nat) (acc : Nat) : Nat := (fun R => (gb_fo gb_D13 (gb_pl R (Nat.add W 19) ch) (gb_fo gb_D19 (gb_pl R (Nat.add W 13) ch) (gb_fo gb_S1 (gb_pl R (Nat.add W 1) ch) acc)))) (Nat.mod P (gb_px W chX))
noncomputable def gb_F4 (P W : Nat) (chX ch : List Nat) (acc : Nat) : Nat := (fun R => (gb_fo gb_D11 (gb_pl R (Nat.add W 23) ch) (gb_fo gb_D17 (gb_pl R (Nat.add W 17) ch) (gb_fo gb_D23 (gb_pl R (Nat.add W 11) ch) acc)))) (Nat.mod P (gb_px W chX))
noncomputable def gb_F6 (P W : Nat) (chX ch : List Nat) (acc : Nat) : Nat := (fun R => (gb_fo gb_D7 (gb_pl R (Nat.add W 29) ch) (gb_fo gb_D13 (gb_pl R (Nat.add W 23) ch) (gb_fo gb_D17 (gb_pl R (Nat.add W 19) ch) (gb_fo gb_D19 (gb_pl R (Nat.add W 17) ch) (gb_fo gb_D23 (gb_pl R (Nat.add W 13) ch) (gb_fo gb_D29 (gb_pl R (Nat.add W 7) ch) acc))))))) (Nat.mod P (gb_px W chX))
noncomputable def gb_F8 (P W : Nat) (chX ch : List Nat) (acc : Nat) : Nat := (fun R => (gb_fo gb_D19 (gb_pl R (Nat.add W 19) ch) (gb_fo gb_S1 (gb_pl R (Nat.add W 7) ch) (gb_fo gb_S7 (gb_pl R (Nat.add W 1) ch) acc)))) (Nat.mod P (gb_px W chX))
noncomputable def gb_F10 (P W : Nat) (chX ch : List Nat) (acc : Nat) : Nat := (fun R => (gb_fo gb_D11 (gb_pl R (Nat.add W 29) ch) (gb_fo gb_D17 (gb_pl R (Nat.add W 23) ch) (gb_fo gb_D23 (gb_pl R (Nat.add W 17) ch) (gb_fo gb_D29 (gb_pl R (Nat.add W 11) ch) acc))))) (Nat.mod P (gb_px W chX))
noncomputable def gb_F12 (P W : Nat) (chX ch : List Nat) (acc : Nat) : Nat := (fun R => (gb_fo gb_D13 (gb_pl R (Nat.add W 29) ch) (gb_fo gb_D19 (gb_pl R (Nat.add W 23) ch) (gb_fo gb_D23 (gb_pl R (Nat.add W 19) ch) (gb_fo gb_D29 (gb_pl R (Nat.add W 13) ch) (gb_fo gb_S1 (gb_pl R (Nat.add W 11) ch) (gb_fo gb_S11 (gb_pl R (Nat.add W 1) ch) acc))))))) (Nat.mod P (gb_px W chX))
noncomputable def gb_F14 (P W : Nat) (chX ch : List Nat) (acc : Nat) : Nat := (fun R => (gb_fo gb_S1 (gb_pl R (Nat.add W 13) ch) (gb_fo gb_S7 (gb_pl R (Nat.add W 7) ch) (gb_fo gb_S13 (gb_pl R (Nat.add W 1) ch) acc)))) (Nat.mod P (gb_px W chX))
noncomputable def gb_F16 (P W : Nat) (chX ch : List Nat) (acc : Nat) : Nat := (fun R => (gb_fo gb_D17 (gb_pl R (Nat.add W 29) ch) (gb_fo gb_D23 (gb_pl R (Nat.add W 23) ch) (gb_fo gb_D29 (gb_pl R (Nat.add W 17) ch) acc)))) (Nat.mod P (gb_px W chX))
noncomputable def gb_F18 (P W : Nat) (chX ch : List Nat) (acc : Nat) : Nat := (fun R => (gb_fo gb_D19 (gb_pl R (Nat.add W 29) ch) (gb_fo gb_D29 (gb_pl R (Nat.add W 19) ch) (gb_fo gb_S1 (gb_pl R (Nat.add W 17) ch) (gb_fo gb_S7 (gb_pl R (Nat.add W 11) ch) (gb_fo gb_S11 (gb_pl R (Nat.add W 7) ch) (gb_fo gb_S17 (gb_pl R (Nat.add W 1) ch) acc))))))) (Nat.mod P (gb_px W chX))
noncomputable def gb_F20 (P W : Nat) (chX ch : List Nat) (acc : Nat) : Nat := (fun R => (gb_fo gb_S1 (gb_pl R (Nat.add W 19) ch) (gb_fo gb_S7 (gb_pl R (Nat.add W 13) ch) (gb_fo gb_S13 (gb_pl R (Nat.add W 7) ch) (gb_fo gb_S19 (gb_pl R (Nat.add W 1) ch) acc))))) (Nat.mod P (gb_px W chX))
noncomputable def gb_F22 (P W : Nat) (chX ch : List Nat) (acc : Nat) : Nat := (fun R => (gb_fo gb_D23 (gb_pl R (Nat.add W 29) ch) (gb_fo gb_D29 (gb_pl R (Nat.add W 23) ch) (gb_fo gb_S11 (gb_pl R (Nat.add W 11) ch) acc)))) (Nat.mod P (gb_px W chX))
noncomputable def gb_F24 (P W : Nat) (chX ch : List Nat) (acc : Nat) : Nat := (fun R => (gb_fo gb_S1 (gb_pl R (Nat.add W 23) ch) (gb_fo gb_S7 (gb_pl R (Nat.add W 17) ch) (gb_fo gb_S11 (gb_pl R (Nat.add W 13) ch) (gb_fo gb_S13 (gb_pl R (Nat.add W 11) ch) (gb_fo gb_S17 (gb_pl R (Nat.add W 7) ch) (gb_fo gb_S23 (gb_pl R (Nat.add W 1) ch) acc))))))) (Nat.mod P (gb_px W chX))
noncomputable def gb_F26 (P W : Nat) (chX ch : List Nat) (acc : Nat) : Nat := (fun R => (gb_fo gb_S7 (gb_pl R (Nat.add W 19) ch) (gb_fo gb_S13 (gb_pl R (Nat.add W 13) ch) (gb_fo gb_S19 (gb_pl R (Nat.add W 7) ch) acc)))) (Nat.mod P (gb_px W chX))
noncomputable def gb_F28 (P W : Nat) (chX ch : List Nat) (acc : Nat) : Nat := (fun R => (gb_fo gb_D29 (gb_pl R (Nat.add W 29) ch) (gb_fo gb_S11 (gb_pl R (Nat.add W 17) ch) (gb_fo gb_S17 (gb_pl R (Nat.add W 11) ch) acc)))) (Nat.mod P (gb_px W chX))
def gb_SA : Prop := gb_SP gb_S1 31 ∧ gb_SP gb_S7 37 ∧ gb_SP gb_S11 41 ∧ gb_SP gb_S13 43 ∧ gb_SP gb_S17 47 ∧ gb_SP gb_S19 49 ∧ gb_SP gb_S23 53 ∧ gb_SP gb_S29 59
theorem gb_SA_all (h : gb_SA) : gb_SP gb_S1 31 ∧ gb_SP gb_D1 1 ∧ gb_SP gb_S7 37 ∧ gb_SP gb_D7 7 ∧ gb_SP gb_S11 41 ∧ gb_SP gb_D11 11 ∧ gb_SP gb_S13 43 ∧ gb_SP gb_D13 13 ∧ gb_SP gb_S17 47 ∧ gb_SP gb_D17 17 ∧ gb_SP gb_S19 49 ∧ gb_SP gb_D19 19 ∧ gb_SP gb_S23 53 ∧ gb_SP gb_D23 23 ∧ gb_SP gb_S29 59 ∧ gb_SP gb_D29 29 := by
  obtain ⟨h1, h7, h11, h13, h17, h19, h23, h29⟩ := h
  exact ⟨h1, gb_SP1 h1, h7, gb_SP1 h7, h11, gb_SP1 h11, h13, gb_SP1 h13, h17, gb_SP1 h17, h19, gb_SP1 h19, h23, gb_SP1 h23, h29, gb_SP1 h29⟩
theorem gb_F0_s (hA : gb_SA) {y P W : Nat} (hP : gb_PY y P) (hW : W % 2 = 0) (hW2 : 12030 ≤ W) (hW3 : W + 30 ≤ (y + 1) * (y + 1)) (x : List Nat × List Nat) (hx : gb_ok x) (acc : Nat) (h : gb_GA W 0 acc) : gb_GA W 0 (gb_F0 P W x.1 x.2 acc) := by
  obtain ⟨s1, d1, s7, d7, s11, d11, s13, d13, s17, d17, s19, d19, s23, d23, s29, d29⟩ := gb_SA_all hA
  exact (gb_fo_s (c := 29) (r := 0) d1 rfl _ _ (gb_ql hP (by decide) hW hW2 hW3 hx.1 hx.2) (gb_fo_s (c := 23) (r := 0) d7 rfl _ _ (gb_ql hP (by decide) hW hW2 hW3 hx.1 hx.2) (gb_fo_s (c := 19) (r := 0) d11 rfl _ _ (gb_ql hP (by decide) hW hW2 hW3 hx.1 hx.2) (gb_fo_s (c := 17) (r := 0) d13 rfl _ _ (gb_ql hP (by decide) hW hW2 hW3 hx.1 hx.2) (gb_fo_s (c := 13) (r := 0) d17 rfl _ _ (gb_ql hP (by decide) hW hW2 hW3 hx.1 hx.2) (gb_fo_s (c := 11) (r := 0) d19 rfl _ _ (gb_ql hP (by decide) hW hW2 hW3 hx.1 hx.2) (gb_fo_s (c := 7) (r := 0) d23 rfl _ _ (gb_ql hP (by decide) hW hW2 hW3 hx.1 hx.2) (gb_fo_s (c := 1) (r := 0) d29 rfl _ _ (gb_ql hP (by decide) hW hW2 hW3 hx.1 hx.2) h))))))))
theorem gb_F2_s (hA : gb_SA) {y P W : Nat} (hP : gb_PY y P) (hW : W % 2 = 0) (hW2 : 12030 ≤ W) (hW3 : W + 30 ≤ (y + 1) * (y + 1)) (x : List Nat × List Nat) (hx : gb_ok x) (acc : Nat) (h : gb_GA W 2 acc) : gb_GA W 2 (gb_F2 P W x.1 x.2 acc) := by
  obtain ⟨s1, d1, s7, d7, s11, d11, s13, d13, s17, d17, s19, d19, s23, d23, s29, d29⟩ := gb_SA_all hA
  exact (gb_fo_s (c := 19) (r := 2) d13 rfl _ _ (gb_ql hP (by decide) hW hW2 hW3 hx.1 hx.2) (gb_fo_s (c := 13) (r := 2) d19 rfl _ _ (gb_ql hP (by decide) hW hW2 hW3 hx.1 hx.2) (gb_fo_s (c := 1) (r := 2) s1 rfl _ _ (gb_ql hP (by decide) hW hW2 hW3 hx.1 hx.2) h)))
theorem gb_F4_s (hA : gb_SA) {y P W : Nat} (hP : gb_PY y P) (hW : W % 2 = 0) (hW2 : 12030 ≤ W) (hW3 : W + 30 ≤ (y + 1) * (y + 1)) (x : List Nat × List Nat) (hx : gb_ok x) (acc : Nat) (h : gb_GA W 4 acc) : gb_GA W 4 (gb_F4 P W x.1 x.2 acc) := by
  obtain ⟨s1, d1, s7, d7, s11, d11, s13, d13, s17, d17, s19, d19, s23, d23, s29, d29⟩ := gb_SA_all hA
  exact (gb_fo_s (c := 23) (r := 4) d11 rfl _ _ (gb_ql hP (by decide) hW hW2 hW3 hx.1 hx.2) (gb_fo_s (c := 17) (r := 4) d17 rfl _ _ (gb_ql hP (by decide) hW hW2 hW3 hx.1 hx.2) (gb_fo_s (c := 11) (r := 4) d23 rfl _ _ (gb_ql hP (by decide) hW hW2 hW3 hx.1 hx.2) h)))
theorem gb_F6_s (hA : gb_SA) {y P W : Nat} (hP : gb_PY y P) (hW : W % 2 = 0) (hW2 : 12030 ≤ W) (hW3 : W + 30 ≤ (y + 1) * (y + 1)) (x : List Nat × List Nat) (hx : gb_ok x) (acc : Nat) (h : gb_GA W 6 acc) : gb_GA W 6 (gb_F6 P W x.1 x.2 acc) := by
  obtain ⟨s1, d1, s7, d7, s11, d11, s13, d13, s17, d17, s19, d19, s23, d23, s29, d29⟩ := gb_SA_all hA
  exact (gb_fo_s (c := 29) (r := 6) d7 rfl _ _ (gb_ql hP (by decide) hW hW2 hW3 hx.1 hx.2) (gb_fo_s (c := 23) (r := 6) d13 rfl _ _ (gb_ql hP (by decide) hW hW2 hW3 hx.1 hx.2) (gb_fo_s (c := 19) (r := 6) d17 rfl _ _ (gb_ql hP (by decide) hW hW2 hW3 hx.1 hx.2) (gb_fo_s (c := 17) (r := 6) d19 rfl _ _ (gb_ql hP (by decide) hW hW2 hW3 hx.1 hx.2) (gb_fo_s (c := 13) (r := 6) d23 rfl _ _ (gb_ql hP (by decide) hW hW2 hW3 hx.1 hx.2) (gb_fo_s (c := 7) (r := 6) d29 rfl _ _ (gb_ql hP (by decide) hW hW2 hW3 hx.1 hx.2) h))))))
theorem gb_F8_s (hA : gb_SA) {y P W : Nat} (hP : gb_PY y P) (hW : W % 2 = 0) (hW2 : 12030 ≤ W) (hW3 : W + 30 ≤ (y + 1) * (y + 1)) (x : List Nat × List Nat) (hx : gb_ok x) (acc : Nat) (h : gb_GA W 8 acc) : gb_GA W 8 (gb_F8 P W x.1 x.2 acc) := by
  obtain ⟨s1, d1, s7, d7, s11, d11, s13, d13, s17, d17, s19, d19, s23, d23, s29, d29⟩ := gb_SA_all hA
  exact (gb_fo_s (c := 19) (r := 8) d19 rfl _ _ (gb_ql hP (by decide) hW hW2 hW3 hx.1 hx.2) (gb_fo_s (c := 7) (r := 8) s1 rfl _ _ (gb_ql hP (by decide) hW hW2 hW3 hx.1 hx.2) (gb_fo_s (c := 1) (r := 8) s7 rfl _ _ (gb_ql hP (by decide) hW hW2 hW3 hx.1 hx.2) h)))
theorem gb_F10_s (hA : gb_SA) {y P W : Nat} (hP : gb_PY y P) (hW : W % 2 = 0) (hW2 : 12030 ≤ W) (hW3 : W + 30 ≤ (y + 1) * (y + 1)) (x : List Nat × List Nat) (hx : gb_ok x) (acc : Nat) (h : gb_GA W 10 acc) : gb_GA W 10 (gb_F10 P W x.1 x.2 acc) := by
  obtain ⟨s1, d1, s7, d7, s11, d11, s13, d13, s17, d17, s19, d19, s23, d23, s29, d29⟩ := gb_SA_all hA
  exact (gb_fo_s (c := 29) (r := 10) d11 rfl _ _ (gb_ql hP (by decide) hW hW2 hW3 hx.1 hx.2) (gb_fo_s (c := 23) (r := 10) d17 rfl _ _ (gb_ql hP (by decide) hW hW2 hW3 hx.1 hx.2) (gb_fo_s (c := 17) (r := 10) d23 rfl _ _ (gb_ql hP (by decide) hW hW2 hW3 hx.1 hx.2) (gb_fo_s (c := 11) (r := 10) d29 rfl _ _ (gb_ql hP (by decide) hW hW2 hW3 hx.1 hx.2) h))))
theorem gb_F12_s (hA : gb_SA) {y P W : Nat} (hP : gb_PY y P) (hW : W % 2 = 0) (hW2 : 12030 ≤ W) (hW3 : W + 30 ≤ (y + 1) * (y + 1)) (x : List Nat × List Nat) (hx : gb_ok x) (acc : Nat) (h : gb_GA W 12 acc) : gb_GA W 12 (gb_F12 P W x.1 x.2 acc) := by
  obtain ⟨s1, d1, s7, d7, s11, d11, s13, d13, s17, d17, s19, d19, s23, d23, s29, d29⟩ := gb_SA_all hA
  exact (gb_fo_s (c := 29) (r := 12) d13 rfl _ _ (gb_ql hP (by decide) hW hW2 hW3 hx.1 hx.2) (gb_fo_s (c := 23) (r := 12) d19 rfl _ _ (gb_ql hP (by decide) hW hW2 hW3 hx.1 hx.2) (gb_fo_s (c := 19) (r := 12) d23 rfl _ _ (gb_ql hP (by decide) hW hW2 hW3 hx.1 hx.2) (gb_fo_s (c := 13) (r := 12) d29 rfl _ _ (gb_ql hP (by decide) hW hW2 hW3 hx.1 hx.2) (gb_fo_s (c := 11) (r := 12) s1 rfl _ _ (gb_ql hP (by decide) hW hW2 hW3 hx.1 hx.2) (gb_fo_s (c := 1) (r := 12) s11 rfl _ _ (gb_ql hP (by decide) hW hW2 hW3 hx.1 hx.2) h))))))
theorem gb_F14_s (hA : gb_SA) {y P W : Nat} (hP : gb_PY y P) (hW : W % 2 = 0) (hW2 : 12030 ≤ W) (hW3 : W + 30 ≤ (y + 1) * (y + 1)) (x : List Nat × List Nat) (hx : gb_ok x) (acc : Nat) (h : gb_GA W 14 acc) : gb_GA W 14 (gb_F14 P W x.1 x.2 acc) := by
  obtain ⟨s1, d1, s7, d7, s11, d11, s13, d13, s17, d17, s19, d19, s23, d23, s29, d29⟩ := gb_SA_all hA
  exact (gb_fo_s (c := 13) (r := 14) s1 rfl _ _ (gb_ql hP (by decide) hW hW2 hW3 hx.1 hx.2) (gb_fo_s (c := 7) (r := 14) s7 rfl _ _ (gb_ql hP (by decide) hW hW2 hW3 hx.1 hx.2) (gb_fo_s (c := 1) (r := 14) s13 rfl _ _ (gb_ql hP (by decide) hW hW2 hW3 hx.1 hx.2) h)))
theorem gb_F16_s (hA : gb_SA) {y P W : Nat} (hP : gb_PY y P) (hW : W % 2 = 0) (hW2 : 12030 ≤ W) (hW3 : W + 30 ≤ (y + 1) * (y + 1)) (x : List Nat × List Nat) (hx : gb_ok x) (acc : Nat) (h : gb_GA W 16 acc) : gb_GA W 16 (gb_F16 P W x.1 x.2 acc) := by
  obtain ⟨s1, d1, s7, d7, s11, d11, s13, d13, s17, d17, s19, d19, s23, d23, s29, d29⟩ := gb_SA_all hA
  exact (gb_fo_s (c := 29) (r := 16) d17 rfl _ _ (gb_ql hP (by decide) hW hW2 hW3 hx.1 hx.2) (gb_fo_s (c := 23) (r := 16) d23 rfl _ _ (gb_ql hP (by decide) hW hW2 hW3 hx.1 hx.2) (gb_fo_s (c := 17) (r := 16) d29 rfl _ _ (gb_ql hP (by decide) hW hW2 hW3 hx.1 hx.2) h)))
theorem gb_F18_s (hA : gb_SA) {y P W : Nat} (hP : gb_PY y P) (hW : W % 2 = 0) (hW2 : 12030 ≤ W) (hW3 : W + 30 ≤ (y + 1) * (y + 1)) (x : List Nat × List Nat) (hx : gb_ok x) (acc : Nat) (h : gb_GA W 18 acc) : gb_GA W 18 (gb_F18 P W x.1 x.2 acc) := by
  obtain ⟨s1, d1, s7, d7, s11, d11, s13, d13, s17, d17, s19, d19, s23, d23, s29, d29⟩ := gb_SA_all hA
  exact (gb_fo_s (c := 29) (r := 18) d19 rfl _ _ (gb_ql hP (by decide) hW hW2 hW3 hx.1 hx.2) (gb_fo_s (c := 19) (r := 18) d29 rfl _ _ (gb_ql hP (by decide) hW hW2 hW3 hx.1 hx.2) (gb_fo_s (c := 17) (r := 18) s1 rfl _ _ (gb_ql hP (by decide) hW hW2 hW3 hx.1 hx.2) (gb_fo_s (c := 11) (r := 18) s7 rfl _ _ (gb_ql hP (by decide) hW hW2 hW3 hx.1 hx.2) (gb_fo_s (c := 7) (r := 18) s11 rfl _ _ (gb_ql hP (by decide) hW hW2 hW3 hx.1 hx.2) (gb_fo_s (c := 1) (r := 18) s17 rfl _ _ (gb_ql hP (by decide) hW hW2 hW3 hx.1 hx.2) h))))))
theorem gb_F20_s (hA : gb_SA) {y P W : Nat} (hP : gb_PY y P) (hW : W % 2 = 0) (hW2 : 12030 ≤ W) (hW3 : W + 30 ≤ (y + 1) * (y + 1)) (x : List Nat × List Nat) (hx : gb_ok x) (acc : Nat) (h : gb_GA W 20 acc) : gb_GA W 20 (gb_F20 P W x.1 x.2 acc) := by
  obtain ⟨s1, d1, s7, d7, s11, d11, s13, d13, s17, d17, s19, d19, s23, d23, s29, d29⟩ := gb_SA_all hA
  exact (gb_fo_s (c := 19) (r := 20) s1 rfl _ _ (gb_ql hP (by decide) hW hW2 hW3 hx.1 hx.2) (gb_fo_s (c := 13) (r := 20) s7 rfl _ _ (gb_ql hP (by decide) hW hW2 hW3 hx.1 hx.2) (gb_fo_s (c := 7) (r := 20) s13 rfl _ _ (gb_ql hP (by decide) hW hW2 hW3 hx.1 hx.2) (gb_fo_s (c := 1) (r := 20) s19 rfl _ _ (gb_ql hP (by decide) hW hW2 hW3 hx.1 hx.2) h))))
theorem gb_F22_s (hA : gb_SA) {y P W : Nat} (hP : gb_PY y P) (hW : W % 2 = 0) (hW2 : 12030 ≤ W) (hW3 : W + 30 ≤ (y + 1) * (y + 1)) (x : List Nat × List Nat) (hx : gb_ok x) (acc : Nat) (h : gb_GA W 22 acc) : gb_GA W 22 (gb_F22 P W x.1 x.2 acc) := by
  obtain ⟨s1, d1, s7, d7, s11, d11, s13, d13, s17, d17, s19, d19, s23, d23, s29, d29⟩ := gb_SA_all hA
  exact (gb_fo_s (c := 29) (r := 22) d23 rfl _ _ (gb_ql hP (by decide) hW hW2 hW3 hx.1 hx.2) (gb_fo_s (c := 23) (r := 22) d29 rfl _ _ (gb_ql hP (by decide) hW hW2 hW3 hx.1 hx.2) (gb_fo_s (c := 11) (r := 22) s11 rfl _ _ (gb_ql hP (by decide) hW hW2 hW3 hx.1 hx.2) h)))
theorem gb_F24_s (hA : gb_SA) {y P W : Nat} (hP : gb_PY y P) (hW : W % 2 = 0) (hW2 : 12030 ≤ W) (hW3 : W + 30 ≤ (y + 1) * (y + 1)) (x : List Nat × List Nat) (hx : gb_ok x) (acc : Nat) (h : gb_GA W 24 acc) : gb_GA W 24 (gb_F24 P W x.1 x.2 acc) := by
  obtain ⟨s1, d1, s7, d7, s11, d11, s13, d13, s17, d17, s19, d19, s23, d23, s29, d29⟩ := gb_SA_all hA
  exact (gb_fo_s (c := 23) (r := 24) s1 rfl _ _ (gb_ql hP (by decide) hW hW2 hW3 hx.1 hx.2) (gb_fo_s (c := 17) (r := 24) s7 rfl _ _ (gb_ql hP (by decide) hW hW2 hW3 hx.1 hx.2) (gb_fo_s (c := 13) (r := 24) s11 rfl _ _ (gb_ql hP (by decide) hW hW2 hW3 hx.1 hx.2) (gb_fo_s (c := 11) (r := 24) s13 rfl _ _ (gb_ql hP (by decide) hW hW2 hW3 hx.1 hx.2) (gb_fo_s (c := 7) (r := 24) s17 rfl _ _ (gb_ql hP (by decide) hW hW2 hW3 hx.1 hx.2) (gb_fo_s (c := 1) (r := 24) s23 rfl _ _ (gb_ql hP (by decide) hW hW2 hW3 hx.1 hx.2) h))))))
theorem gb_F26_s (hA : gb_SA) {y P W : Nat} (hP : gb_PY y P) (hW : W % 2 = 0) (hW2 : 12030 ≤ W) (hW3 : W + 30 ≤ (y + 1) * (y + 1)) (x : List Nat × List Nat) (hx : gb_ok x) (acc : Nat) (h : gb_GA W 26 acc) : gb_GA W 26 (gb_F26 P W x.1 x.2 acc) := by
  obtain ⟨s1, d1, s7, d7, s11, d11, s13, d13, s17, d17, s19, d19, s23, d23, s29, d29⟩ := gb_SA_all hA
  exact (gb_fo_s (c := 19) (r := 26) s7 rfl _ _ (gb_ql hP (by decide) hW hW2 hW3 hx.1 hx.2) (gb_fo_s (c := 13) (r := 26) s13 rfl _ _ (gb_ql hP (by decide) hW hW2 hW3 hx.1 hx.2) (gb_fo_s (c := 7) (r := 26) s19 rfl _ _ (gb_ql hP (by decide) hW hW2 hW3 hx.1 hx.2) h)))
theorem gb_F28_s (hA : gb_SA) {y P W : Nat} (hP : gb_PY y P) (hW : W % 2 = 0) (hW2 : 12030 ≤ W) (hW3 : W + 30 ≤ (y + 1) * (y + 1)) (x : List Nat × List Nat) (hx : gb_ok x) (acc : Nat) (h : gb_GA W 28 acc) : gb_GA W 28 (gb_F28 P W x.1 x.2 acc) := by
  obtain ⟨s1, d1, s7, d7, s11, d11, s13, d13, s17, d17, s19, d19, s23, d23, s29, d29⟩ := gb_SA_all hA
  exact (gb_fo_s (c := 29) (r := 28) d29 rfl _ _ (gb_ql hP (by decide) hW hW2 hW3 hx.1 hx.2) (gb_fo_s (c := 17) (r := 28) s11 rfl _ _ (gb_ql hP (by decide) hW hW2 hW3 hx.1 hx.2) (gb_fo_s (c := 11) (r := 28) s17 rfl _ _ (gb_ql hP (by decide) hW hW2 hW3 hx.1 hx.2) h)))
noncomputable def gb_win (P W : Nat) : Bool := (nk_and (gb_go (gb_F0 P W) gb_k8 (gb_ba (gb_F0 P W) gb_b8 0)) (nk_and (gb_go (gb_F2 P W) gb_k3 (gb_ba (gb_F2 P W) gb_b3 0)) (nk_and (gb_go (gb_F4 P W) gb_k3 (gb_ba (gb_F4 P W) gb_b3 0)) (nk_and (gb_go (gb_F6 P W) gb_k6 (gb_ba (gb_F6 P W) gb_b6 0)) (nk_and (gb_go (gb_F8 P W) gb_k3 (gb_ba (gb_F8 P W) gb_b3 0)) (nk_and (gb_go (gb_F10 P W) gb_k4 (gb_ba (gb_F10 P W) gb_b4 0)) (nk_and (gb_go (gb_F12 P W) gb_k6 (gb_ba (gb_F12 P W) gb_b6 0)) (nk_and (gb_go (gb_F14 P W) gb_k3 (gb_ba (gb_F14 P W) gb_b3 0)) (nk_and (gb_go (gb_F16 P W) gb_k3 (gb_ba (gb_F16 P W) gb_b3 0)) (nk_and (gb_go (gb_F18 P W) gb_k6 (gb_ba (gb_F18 P W) gb_b6 0)) (nk_and (gb_go (gb_F20 P W) gb_k4 (gb_ba (gb_F20 P W) gb_b4 0)) (nk_and (gb_go (gb_F22 P W) gb_k3 (gb_ba (gb_F22 P W) gb_b3 0)) (nk_and (gb_go (gb_F24 P W) gb_k6 (gb_ba (gb_F24 P W) gb_b6 0)) (nk_and (gb_go (gb_F26 P W) gb_k3 (gb_ba (gb_F26 P W) gb_b3 0)) (gb_go (gb_F28 P W) gb_k3 (gb_ba (gb_F28 P W) gb_b3 0))))))))))))))))
theorem gb_win_s (hA : gb_SA) {y P W : Nat} (hP : gb_PY y P) (hW : W % 2 = 0) (hW2 : 12030 ≤ W) (hW3 : W + 30 ≤ (y + 1) * (y + 1)) (h : gb_win P W = true) {n : Nat} (h2 : n % 2 = 0) (h3 : W ≤ n) (h4 : n < W + 99990000) : gb_P2 n := by
  obtain ⟨g0, h⟩ := nk_and_s h
  obtain ⟨g2, h⟩ := nk_and_s h
  obtain ⟨g4, h⟩ := nk_and_s h
  obtain ⟨g6, h⟩ := nk_and_s h
  obtain ⟨g8, h⟩ := nk_and_s h
  obtain ⟨g10, h⟩ := nk_and_s h
  obtain ⟨g12, h⟩ := nk_and_s h
  obtain ⟨g14, h⟩ := nk_and_s h
  obtain ⟨g16, h⟩ := nk_and_s h
  obtain ⟨g18, h⟩ := nk_and_s h
  obtain ⟨g20, h⟩ := nk_and_s h
  obtain ⟨g22, h⟩ := nk_and_s h
  obtain ⟨g24, h⟩ := nk_and_s h
  obtain ⟨g26, h⟩ := nk_and_s h
  have g28 := h
  have hm : (n - W) / 30 < 3333000 := by omega
  have hr : n = W + 30 * ((n - W) / 30) + 0 ∨ n = W + 30 * ((n - W) / 30) + 2 ∨ n = W + 30 * ((n - W) / 30) + 4 ∨ n = W + 30 * ((n - W) / 30) + 6 ∨ n = W + 30 * ((n - W) / 30) + 8 ∨ n = W + 30 * ((n - W) / 30) + 10 ∨ n = W + 30 * ((n - W) / 30) + 12 ∨ n = W + 30 * ((n - W) / 30) + 14 ∨ n = W + 30 * ((n - W) / 30) + 16 ∨ n = W + 30 * ((n - W) / 30) + 18 ∨ n = W + 30 * ((n - W) / 30) + 20 ∨ n = W + 30 * ((n - W) / 30) + 22 ∨ n = W + 30 * ((n - W) / 30) + 24 ∨ n = W + 30 * ((n - W) / 30) + 26 ∨ n = W + 30 * ((n - W) / 30) + 28 := by omega
  rcases hr with e | e | e | e | e | e | e | e | e | e | e | e | e | e | e
  · rw [e]
    exact gb_go_s gb_k8 (fun x hx acc => gb_F0_s hA hP hW hW2 hW3 x (gb_k8_s x hx) acc) _ (gb_ba_s gb_b8 (fun x hx acc => gb_F0_s hA hP hW hW2 hW3 x (gb_b8_s x hx) acc) 0 (gb_GA0 W 0)) g0 _ hm
  · rw [e]
    exact gb_go_s gb_k3 (fun x hx acc => gb_F2_s hA hP hW hW2 hW3 x (gb_k3_s x hx) acc) _ (gb_ba_s gb_b3 (fun x hx acc => gb_F2_s hA hP hW hW2 hW3 x (gb_b3_s x hx) acc) 0 (gb_GA0 W 2)) g2 _ hm
  · rw [e]
    exact gb_go_s gb_k3 (fun x hx acc => gb_F4_s hA hP hW hW2 hW3 x (gb_k3_s x hx) acc) _ (gb_ba_s gb_b3 (fun x hx acc => gb_F4_s hA hP hW hW2 hW3 x (gb_b3_s x hx) acc) 0 (gb_GA0 W 4)) g4 _ hm
  · rw [e]
    exact gb_go_s gb_k6 (fun x hx acc => gb_F6_s hA hP hW hW2 hW3 x (gb_k6_s x hx) acc) _ (gb_ba_s gb_b6 (fun x hx acc => gb_F6_s hA hP hW hW2 hW3 x (gb_b6_s x hx) acc) 0 (gb_GA0 W 6)) g6 _ hm
  · rw [e]
    exact gb_go_s gb_k3 (fun x hx acc => gb_F8_s hA hP hW hW2 hW3 x (gb_k3_s x hx) acc) _ (gb_ba_s gb_b3 (fun x hx acc => gb_F8_s hA hP hW hW2 hW3 x (gb_b3_s x hx) acc) 0 (gb_GA0 W 8)) g8 _ hm
  · rw [e]
    exact gb_go_s gb_k4 (fun x hx acc => gb_F10_s hA hP hW hW2 hW3 x (gb_k4_s x hx) acc) _ (gb_ba_s gb_b4 (fun x hx acc => gb_F10_s hA hP hW hW2 hW3 x (gb_b4_s x hx) acc) 0 (gb_GA0 W 10)) g10 _ hm
  · rw [e]
    exact gb_go_s gb_k6 (fun x hx acc => gb_F12_s hA hP hW hW2 hW3 x (gb_k6_s x hx) acc) _ (gb_ba_s gb_b6 (fun x hx acc => gb_F12_s hA hP hW hW2 hW3 x (gb_b6_s x hx) acc) 0 (gb_GA0 W 12)) g12 _ hm
  · rw [e]
    exact gb_go_s gb_k3 (fun x hx acc => gb_F14_s hA hP hW hW2 hW3 x (gb_k3_s x hx) acc) _ (gb_ba_s gb_b3 (fun x hx acc => gb_F14_s hA hP hW hW2 hW3 x (gb_b3_s x hx) acc) 0 (gb_GA0 W 14)) g14 _ hm
  · rw [e]
    exact gb_go_s gb_k3 (fun x hx acc => gb_F16_s hA hP hW hW2 hW3 x (gb_k3_s x hx) acc) _ (gb_ba_s gb_b3 (fun x hx acc => gb_F16_s hA hP hW hW2 hW3 x (gb_b3_s x hx) acc) 0 (gb_GA0 W 16)) g16 _ hm
  · rw [e]
    exact gb_go_s gb_k6 (fun x hx acc => gb_F18_s hA hP hW hW2 hW3 x (gb_k6_s x hx) acc) _ (gb_ba_s gb_b6 (fun x hx acc => gb_F18_s hA hP hW hW2 hW3 x (gb_b6_s x hx) acc) 0 (gb_GA0 W 18)) g18 _ hm
  · rw [e]
    exact gb_go_s gb_k4 (fun x hx acc => gb_F20_s hA hP hW hW2 hW3 x (gb_k4_s x hx) acc) _ (gb_ba_s gb_b4 (fun x hx acc => gb_F20_s hA hP hW hW2 hW3 x (gb_b4_s x hx) acc) 0 (gb_GA0 W 20)) g20 _ hm
  · rw [e]
    exact gb_go_s gb_k3 (fun x hx acc => gb_F22_s hA hP hW hW2 hW3 x (gb_k3_s x hx) acc) _ (gb_ba_s gb_b3 (fun x hx acc => gb_F22_s hA hP hW hW2 hW3 x (gb_b3_s x hx) acc) 0 (gb_GA0 W 22)) g22 _ hm
  · rw [e]
    exact gb_go_s gb_k6 (fun x hx acc => gb_F24_s hA hP hW hW2 hW3 x (gb_k6_s x hx) acc) _ (gb_ba_s gb_b6 (fun x hx acc => gb_F24_s hA hP hW hW2 hW3 x (gb_b6_s x hx) acc) 0 (gb_GA0 W 24)) g24 _ hm
  · rw [e]
    exact gb_go_s gb_k3 (fun x hx acc => gb_F26_s hA hP hW hW2 hW3 x (gb_k3_s x hx) acc) _ (gb_ba_s gb_b3 (fun x hx acc => gb_F26_s hA hP hW hW2 hW3 x (gb_b3_s x hx) acc) 0 (gb_GA0 W 26)) g26 _ hm
  · rw [e]
    exact gb_go_s gb_k3 (fun x hx acc => gb_F28_s hA hP hW hW2 hW3 x (gb_k3_s x hx) acc) _ (gb_ba_s gb_b3 (fun x hx acc => gb_F28_s hA hP hW hW2 hW3 x (gb_b3_s x hx) acc) 0 (gb_GA0 W 28)) g28 _ hm
noncomputable def gb_ch (a : Nat) : Bool := nk_lt (fun k => gb_win gb_P (Nat.add 15000 (Nat.mul 99990000 (Nat.add a k)))) 8
def gb_GR (a b : Nat) : Prop := ∀ i, a ≤ i → i < b → gb_win gb_P (15000 + 99990000 * i) = true
theorem gb_nx {a b c : Nat} (e : b + 8 = c) (h : gb_GR a b) (h2 : gb_ch b = true) : gb_GR a c := by
  intro i h3 h4
  rcases Nat.lt_or_ge i b with q | q
  · exact h i h3 q
  · have := nk_lt_s 8 h2 (i - b) (by omega)
    have e2 : b + (i - b) = i := by omega
    change gb_win gb_P (15000 + 99990000 * (b + (i - b))) = true at this
    rw [e2] at this
    exact this
theorem gb_st (a : Nat) : gb_GR a a := fun i h1 h2 => by omega
