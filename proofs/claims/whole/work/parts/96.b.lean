/-! THE SECOND KIND, by products -/
noncomputable def nk_pj (L k : Nat) : Nat → Nat := @Nat.rec (fun _ => Nat → Nat) (fun a => Nat.add 1 (Nat.mul a L)) (fun k ih a => Nat.mul (ih a) (ih (Nat.add a (Nat.pow 2 k)))) k
theorem nk_pj_in (L : Nat) : ∀ (k a j : Nat), a ≤ j → j < a + 2 ^ k → 1 + j * L ∣ nk_pj L k a
  | 0, a, j, h1, h2 => by
    have e : j = a := by
      rw [Nat.pow_zero] at h2
      omega
    rw [e]
    exact Nat.dvd_refl _
  | k + 1, a, j, h1, h2 => by
    rw [Nat.pow_succ] at h2
    show 1 + j * L ∣ nk_pj L k a * nk_pj L k (a + 2 ^ k)
    rcases Nat.lt_or_ge j (a + 2 ^ k) with q | q
    · exact Nat.dvd_mul_right_of_dvd (nk_pj_in L k a j h1 q) _
    · exact Nat.dvd_mul_left_of_dvd (nk_pj_in L k _ j q (by omega)) _
noncomputable def nk_gq (g b L : Nat) : Nat := Nat.gcd g (Nat.sub (Nat.add (nk_pl b L g) g) 1)
theorem nk_gq_s {q g b L : Nat} (q2 : 2 ≤ q) (hg : q ∣ g) (h : b ^ L % q = 1) : q ∣ nk_gq g b L := by
  refine Nat.dvd_gcd hg ?_
  show q ∣ nk_pl b L g + g - 1
  rw [nk_pl_s]
  have h1 : b ^ L % g % q = 1 := by rw [Nat.mod_mod_of_dvd _ hg, h]
  have h2 := Nat.div_add_mod (b ^ L % g) q
  rw [h1] at h2
  generalize b ^ L % g = x at h1 h2 ⊢
  obtain ⟨d, hd⟩ := hg
  refine ⟨x / q + d, ?_⟩
  rw [Nat.mul_add, ← hd]
  omega
noncomputable def nk_3g (L g : Nat) : Nat := nk_gq (nk_gq (nk_gq (nk_gq (nk_gq g 3 L) 5 L) 7 L) 11 L) 13 L
noncomputable def nk_3b (pr : Nat) (l : List (Nat × Nat)) (L g : Nat) : Bool := @Bool.rec (fun _ => Bool) (nk_1b pr l L (nk_3g L g)) true (Nat.beq (nk_s3 (Nat.mod pr g) g) 0)
theorem nk_xy (u L x y : Nat) (h : x + y = 15) : (u + x * L) * (u + y * L) = u * (u + 15 * L) + (x * y) * (L * L) := by
  have e1 : (u + x * L) * (u + y * L) = u * u + u * (y * L) + (x * L * u + x * L * (y * L)) := by rw [Nat.add_mul, Nat.mul_add, Nat.mul_add]
  have e2 : u * (y * L) = y * (u * L) := Nat.mul_left_comm u y L
  have e3 : x * L * u = x * (u * L) := by rw [Nat.mul_assoc, Nat.mul_comm L u]
  have e4 : x * L * (y * L) = x * y * (L * L) := Nat.mul_mul_mul_comm x L y L
  have e5 : u * (u + 15 * L) = u * u + 15 * (u * L) := by rw [Nat.mul_add, Nat.mul_left_comm]
  have e6 : 15 * (u * L) = x * (u * L) + y * (u * L) := by rw [← Nat.add_mul, h]
  rw [e1, e2, e3, e4, e5, e6]
  omega
/-- sixteen steps at once -/
noncomputable def nk_q16 (s m : Nat) : Nat := Nat.mul (Nat.mul (Nat.mul s (Nat.add s (Nat.mul 14 m))) (Nat.mul (Nat.add s (Nat.mul 26 m)) (Nat.add s (Nat.mul 36 m)))) (Nat.mul (Nat.mul (Nat.add s (Nat.mul 44 m)) (Nat.add s (Nat.mul 50 m))) (Nat.mul (Nat.add s (Nat.mul 54 m)) (Nat.add s (Nat.mul 56 m))))
noncomputable def nk_s16 (u L : Nat) : Nat := Nat.mul u (Nat.add u (Nat.mul 15 L))
noncomputable def nk_p16 (L a : Nat) : Nat := nk_q16 (nk_s16 (Nat.add 1 (Nat.mul a L)) L) (Nat.mul L L)
theorem nk_p16_d {s m : Nat} : s ∣ nk_q16 s m ∧ s + 14 * m ∣ nk_q16 s m ∧ s + 26 * m ∣ nk_q16 s m ∧ s + 36 * m ∣ nk_q16 s m ∧ s + 44 * m ∣ nk_q16 s m ∧ s + 50 * m ∣ nk_q16 s m ∧ s + 54 * m ∣ nk_q16 s m ∧ s + 56 * m ∣ nk_q16 s m := by
  have e : nk_q16 s m = ((s * (s + 14 * m)) * ((s + 26 * m) * (s + 36 * m))) * (((s + 44 * m) * (s + 50 * m)) * ((s + 54 * m) * (s + 56 * m))) := rfl
  rw [e]
  exact ⟨Nat.dvd_mul_right_of_dvd (Nat.dvd_mul_right_of_dvd (Nat.dvd_mul_right _ _) _) _, Nat.dvd_mul_right_of_dvd (Nat.dvd_mul_right_of_dvd (Nat.dvd_mul_left _ _) _) _, Nat.dvd_mul_right_of_dvd (Nat.dvd_mul_left_of_dvd (Nat.dvd_mul_right _ _) _) _, Nat.dvd_mul_right_of_dvd (Nat.dvd_mul_left_of_dvd (Nat.dvd_mul_left _ _) _) _, Nat.dvd_mul_left_of_dvd (Nat.dvd_mul_right_of_dvd (Nat.dvd_mul_right _ _) _) _, Nat.dvd_mul_left_of_dvd (Nat.dvd_mul_right_of_dvd (Nat.dvd_mul_left _ _) _) _, Nat.dvd_mul_left_of_dvd (Nat.dvd_mul_left_of_dvd (Nat.dvd_mul_right _ _) _) _, Nat.dvd_mul_left_of_dvd (Nat.dvd_mul_left_of_dvd (Nat.dvd_mul_left _ _) _) _⟩
theorem nk_p16_s {L a i : Nat} (hi : i < 16) : 1 + (a + i) * L ∣ nk_p16 L a := by
  have e0 : 1 + (a + i) * L = (1 + a * L) + i * L := by rw [Nat.add_mul]; omega
  rw [e0]
  show _ ∣ nk_q16 ((1 + a * L) * ((1 + a * L) + 15 * L)) (L * L)
  generalize 1 + a * L = u
  have k : ∀ x y, x + y = 15 → (u + x * L) ∣ u * (u + 15 * L) + (x * y) * (L * L) ∧ (u + y * L) ∣ u * (u + 15 * L) + (x * y) * (L * L) := fun x y h => by
    rw [← nk_xy u L x y h]
    exact ⟨Nat.dvd_mul_right _ _, Nat.dvd_mul_left _ _⟩
  obtain ⟨d0, d1, d2, d3, d4, d5, d6, d7⟩ := nk_p16_d (s := u * (u + 15 * L)) (m := L * L)
  have f0 := k 0 15 rfl
  have f1 := k 1 14 rfl
  have f2 := k 2 13 rfl
  have f3 := k 3 12 rfl
  have f4 := k 4 11 rfl
  have f5 := k 5 10 rfl
  have f6 := k 6 9 rfl
  have f7 := k 7 8 rfl
  rw [show (0 * 15) * (L * L) = 0 by simp, Nat.add_zero] at f0
  have hi2 : i = 0 ∨ i = 1 ∨ i = 2 ∨ i = 3 ∨ i = 4 ∨ i = 5 ∨ i = 6 ∨ i = 7 ∨ i = 8 ∨ i = 9 ∨ i = 10 ∨ i = 11 ∨ i = 12 ∨ i = 13 ∨ i = 14 ∨ i = 15 := by omega
  rcases hi2 with e | e | e | e | e | e | e | e | e | e | e | e | e | e | e | e <;> subst e
  · exact Nat.dvd_trans f0.1 d0
  · exact Nat.dvd_trans f1.1 d1
  · exact Nat.dvd_trans f2.1 d2
  · exact Nat.dvd_trans f3.1 d3
  · exact Nat.dvd_trans f4.1 d4
  · exact Nat.dvd_trans f5.1 d5
  · exact Nat.dvd_trans f6.1 d6
  · exact Nat.dvd_trans f7.1 d7
  · exact Nat.dvd_trans f7.2 d7
  · exact Nat.dvd_trans f6.2 d6
  · exact Nat.dvd_trans f5.2 d5
  · exact Nat.dvd_trans f4.2 d4
  · exact Nat.dvd_trans f3.2 d3
  · exact Nat.dvd_trans f2.2 d2
  · exact Nat.dvd_trans f1.2 d1
  · exact Nat.dvd_trans f0.2 d0
noncomputable def nk_pk (L k : Nat) : Nat → Nat := @Nat.rec (fun _ => Nat → Nat) (fun a => nk_p16 L a) (fun k ih a => Nat.mul (ih a) (ih (Nat.add a (Nat.mul 16 (Nat.pow 2 k))))) k
theorem nk_pk_in (L : Nat) : ∀ (k a j : Nat), a ≤ j → j < a + 16 * 2 ^ k → 1 + j * L ∣ nk_pk L k a
  | 0, a, j, h1, h2 => by
    rw [Nat.pow_zero] at h2
    have := nk_p16_s (L := L) (a := a) (i := j - a) (by omega)
    have e : a + (j - a) = j := by omega
    rw [e] at this
    exact this
  | k + 1, a, j, h1, h2 => by
    rw [Nat.pow_succ] at h2
    show 1 + j * L ∣ nk_pk L k a * nk_pk L k (a + 16 * 2 ^ k)
    rcases Nat.lt_or_ge j (a + 16 * 2 ^ k) with q | q
    · exact Nat.dvd_mul_right_of_dvd (nk_pk_in L k a j h1 q) _
    · exact Nat.dvd_mul_left_of_dvd (nk_pk_in L k _ j q (by omega)) _
noncomputable def nk_3x (pr : Nat) (l : List (Nat × Nat)) (X h : Nat) : Bool := nk_3b pr l (Nat.mul 2 h) (Nat.gcd X (Nat.sub (Nat.pow 2 (Nat.mul 2 h)) 1))
noncomputable def nk_3 (pr : Nat) (l : List (Nat × Nat)) (k h : Nat) : Bool := nk_3x pr l (nk_pj (Nat.mul 2 h) k 2) h
noncomputable def nk_5 (pr : Nat) (l : List (Nat × Nat)) (k h : Nat) : Bool := nk_3x pr l (nk_pk (Nat.mul 2 h) k 2) h
theorem nk_3_s {pr : Nat} {l : List (Nat × Nat)} {h q k X : Nat} (hpr : pr ∣ nk_pd 16 0) (hq : np_pr q = true) (hq1 : 131072 < q) (hh : 1 ≤ h) (hc : nk_3x pr l X h = true) (ho : ∀ b ∈ [2, 3, 5, 7, 11, 13], b ^ (2 * h) % q = 1) (gp : q ∣ X) (h1 : 1 ≤ k) (h3 : 100003 ≤ q * (1 + k * (2 * h))) (h4 : q * (1 + k * (2 * h)) < 1099511627776) : np_wx (q * (1 + k * (2 * h))) = false := by
  have q2 := (np_pr_dvd.mp hq).1
  have hnp : ¬ q ∣ pr := fun z => by
    obtain ⟨i, _, h6, h7⟩ := nk_pd_out hq 16 0 (Nat.dvd_trans z hpr)
    have := Nat.le_of_dvd (by omega) h7
    omega
  have key : ∀ g, q ∣ g → q ∣ nk_s3 (pr % g) g → False := by
    intro g hg hz
    have e := nk_s3_s (x := pr % g) (u := pr) (g := g) (by rw [Nat.mod_mod])
    have z1 : q ∣ nk_s3 (pr % g) g % g := (Nat.dvd_mod_iff hg).mpr hz
    rw [← e] at z1
    have z2 := (Nat.dvd_mod_iff hg).mp z1
    exact hnp (nf_eup hq 8 z2)
  have gG : q ∣ Nat.gcd X (2 ^ (2 * h) - 1) := Nat.dvd_gcd gp (nk_d1 q2 (ho 2 (by decide)))
  change nk_3b pr l (2 * h) (Nat.gcd X (2 ^ (2 * h) - 1)) = true at hc
  generalize Nat.gcd X (2 ^ (2 * h) - 1) = G at gG hc
  unfold nk_3b at hc
  cases hb : Nat.beq (nk_s3 (Nat.mod pr G) G) 0 with
  | true =>
    have e : nk_s3 (pr % G) G = 0 := Nat.eq_of_beq_eq_true hb
    exact (key _ gG (by rw [e]; exact Nat.dvd_zero q)).elim
  | false =>
    rw [hb] at hc
    obtain ⟨c1, c2⟩ := nk_and_s hc
    have e : nk_s3 (pr % (nk_3g (2 * h) G)) (nk_3g (2 * h) G) * nk_ex l (2 * h) % (nk_3g (2 * h) G) = 0 := Nat.eq_of_beq_eq_true c1
    have gg : q ∣ nk_3g (2 * h) G := nk_gq_s q2 (nk_gq_s q2 (nk_gq_s q2 (nk_gq_s q2 (nk_gq_s q2 gG (ho 3 (by decide))) (ho 5 (by decide))) (ho 7 (by decide))) (ho 11 (by decide))) (ho 13 (by decide))
    have z := Nat.dvd_trans gg (Nat.dvd_of_mod_eq_zero e)
    rcases nf_eu hq z with z1 | z1
    · exact (key _ gg z1).elim
    · exact nk_ek_s hq (by omega) h1 h3 h4 l c2 z1
/-! q = 1 + L -/
theorem nk_15 {n P : Nat} (h1 : 100003 ≤ n) (h2 : n < 1099511627776) (hP : P ∣ n) (hg : Nat.gcd P 15015 ≠ 1) : np_wx n = false := by
  cases hw : np_wx n with
  | false => rfl
  | true =>
    exfalso
    have hb := (nt_wx h1 h2).mp hw
    have g0 : Nat.gcd P 15015 ≠ 0 := fun e => by
      have := Nat.gcd_dvd_right P 15015
      rw [e] at this
      have := Nat.eq_zero_of_zero_dvd this
      omega
    have g2 : 2 ≤ Nat.gcd P 15015 := by omega
    have l1 := np_lp_pr g2
    have l2 := (np_lp_spec g2).2.1
    have l3 := Nat.dvd_trans (Nat.dvd_trans l2 (Nat.gcd_dvd_left P 15015)) hP
    have l4 : np_lp (Nat.gcd P 15015) ∣ 3 * (5 * (7 * (11 * 13))) := Nat.dvd_trans l2 (Nat.gcd_dvd_right P 15015)
    have l5 := (np_pr_dvd.mp l1).1
    generalize np_lp (Nat.gcd P 15015) = r at *
    have f : ∀ c, np_pr c = true → c ∈ [2, 3, 5, 7, 11, 13] → r ∣ c → False := fun c hc hm hr => by
      have e := (np_pr_dvd.mp hc).2 r l5 hr
      rw [e] at l3
      exact (hb c hm).1 l3
    rcases nf_eu l1 l4 with z | z
    · exact f 3 (by decide +kernel) (by decide) z
    rcases nf_eu l1 z with z | z
    · exact f 5 (by decide +kernel) (by decide) z
    rcases nf_eu l1 z with z | z
    · exact f 7 (by decide +kernel) (by decide) z
    rcases nf_eu l1 z with z | z
    · exact f 11 (by decide +kernel) (by decide) z
    · exact f 13 (by decide +kernel) (by decide) z
noncomputable def nk_br (q P : Nat) : Bool := @Bool.rec (fun _ => Bool) true (nk_bad (Nat.mul q P)) (Nat.beq (Nat.gcd P 15015) 1)
noncomputable def nk_mr (q L K : Nat) : Bool := nk_lt (fun k => nk_br q (Nat.add 1 (Nat.mul (Nat.add k 1) L))) K
theorem nk_mr_s {q L K k : Nat} (h : nk_mr q L K = true) (h1 : 1 ≤ k) (h2 : k ≤ K) (h3 : 100003 ≤ q * (1 + k * L)) (h4 : q * (1 + k * L) < 1099511627776) : np_wx (q * (1 + k * L)) = false := by
  have := nk_lt_s K h (k - 1) (by omega)
  have e : k - 1 + 1 = k := by omega
  change nk_br q (1 + (k - 1 + 1) * L) = true at this
  rw [e] at this
  unfold nk_br at this
  cases hb : Nat.beq (Nat.gcd (1 + k * L) 15015) 1 with
  | false => exact nk_15 h3 h4 (Nat.dvd_mul_left _ _) (Nat.ne_of_beq_eq_false hb)
  | true =>
    rw [hb] at this
    exact nk_bad_s h3 h4 this
noncomputable def nk_4 (h : Nat) : Bool := @Bool.rec (fun _ => Bool) true (nk_mr (Nat.add 1 (Nat.mul 2 h)) (Nat.mul 2 h) (Nat.div 1099511627776 (Nat.mul (Nat.mul 2 h) (Nat.mul 2 h)))) (Nat.beq (Nat.gcd (Nat.add 1 (Nat.mul 2 h)) ns_Q) 1)
theorem nk_4_s {h q k : Nat} (hq : np_pr q = true) (hq1 : 131072 < q) (hj : q = 1 + 2 * h) (hc : nk_4 h = true) (h1 : 1 ≤ k) (h3 : 100003 ≤ q * (1 + k * (2 * h))) (h4 : q * (1 + k * (2 * h)) < 1099511627776) : np_wx (q * (1 + k * (2 * h))) = false := by
  change @Bool.rec (fun _ => Bool) true (nk_mr (1 + 2 * h) (2 * h) (1099511627776 / ((2 * h) * (2 * h)))) (Nat.beq (Nat.gcd (1 + 2 * h) ns_Q) 1) = true at hc
  rw [← hj, ns_Qg hq (by omega)] at hc
  have hK : k ≤ 1099511627776 / ((2 * h) * (2 * h)) := by
    rw [Nat.le_div_iff_mul_le (Nat.mul_pos (by omega) (by omega))]
    have e1 : k * ((2 * h) * (2 * h)) = (2 * h) * (k * (2 * h)) := Nat.mul_left_comm k (2 * h) (2 * h)
    have e2 : (2 * h) * (k * (2 * h)) ≤ q * (1 + k * (2 * h)) := Nat.mul_le_mul (by omega) (by omega)
    omega
  exact nk_mr_s hc h1 hK h3 h4
theorem nk_big3 {pr : Nat} (hpr : pr ∣ nk_pd 16 0) (A1 : ∀ h, 1 ≤ h → h < 16385 → ∃ l, nk_1 pr l h = true) (A3 : ∀ h, 16384 ≤ h → h < 370728 → ∃ l X J, nk_3x pr l X h = true ∧ (∀ j, 2 ≤ j → j < J → 1 + j * (2 * h) ∣ X) ∧ 1099511627776 < J * ((2 * h) * (2 * h))) (A4 : ∀ h, 65536 ≤ h → h < 524288 → nk_4 h = true) {n q : Nat} (h1 : 100003 ≤ n) (h2 : n < 1099511627776) (hq : np_pr q = true) (hq1 : 131072 < q) (hqn : q ∣ n) (hne : q ≠ n) : np_wx n = false := by
  cases hw : np_wx n with
  | false => rfl
  | true =>
    exfalso
    obtain ⟨P, hP⟩ := hqn
    have P0 : P ≠ 0 := fun e => by rw [e, Nat.mul_zero] at hP; omega
    have P1 : P ≠ 1 := fun e => by rw [e, Nat.mul_one] at hP; omega
    have ho : ∀ b ∈ [2, 3, 5, 7, 11, 13], b ^ (Nat.gcd (q - 1) (P - 1)) % q = 1 := fun b hb => nt_rest hq hP (by omega) (nt_str h1 h2 hb hw).1
    have n2 : ¬ 2 ∣ n := ((nt_wx h1 h2).mp hw 2 (by decide)).1
    have nq2 : ¬ 2 ∣ q := fun z => n2 (by rw [hP]; exact Nat.dvd_mul_right_of_dvd z P)
    have nP2 : ¬ 2 ∣ P := fun z => n2 (by rw [hP]; exact Nat.dvd_mul_left_of_dvd z q)
    have d2 : 2 ∣ Nat.gcd (q - 1) (P - 1) := Nat.dvd_gcd (by omega) (by omega)
    obtain ⟨j, hj⟩ := Nat.gcd_dvd_left (q - 1) (P - 1)
    obtain ⟨k, hk⟩ := Nat.gcd_dvd_right (q - 1) (P - 1)
    obtain ⟨h, hh⟩ := d2
    rw [hh] at hj hk ho
    have ej : q = 1 + j * (2 * h) := by rw [Nat.mul_comm]; omega
    have ek : P = 1 + k * (2 * h) := by rw [Nat.mul_comm]; omega
    have j1 : 1 ≤ j := Nat.pos_of_ne_zero (fun e => by rw [e, Nat.mul_zero] at hj; omega)
    have k1 : 1 ≤ k := Nat.pos_of_ne_zero (fun e => by rw [e, Nat.mul_zero] at hk; omega)
    have hh1 : 1 ≤ h := Nat.pos_of_ne_zero (fun e => by rw [e, Nat.mul_zero, Nat.zero_mul] at hj; omega)
    rw [hP, ek] at h1 h2 hw
    rcases Nat.lt_or_ge h 16385 with c | c
    · obtain ⟨l, hl⟩ := A1 h hh1 c
      rw [nk_1_s hpr hq hq1 hh1 hl ho k1 h1 h2] at hw
      cases hw
    · by_cases j11 : j = 1
      · rw [j11, Nat.one_mul] at ej
        have hb : h < 524288 := by
          refine Nat.lt_of_not_le (fun z => ?_)
          have a2 : 2 * h ≤ k * (2 * h) := Nat.le_mul_of_pos_left _ k1
          have a3 : 1048576 * 1048576 ≤ q * (1 + k * (2 * h)) := Nat.mul_le_mul (by omega) (by omega)
          omega
        rw [nk_4_s hq hq1 ej (A4 h (by omega) hb) k1 h1 h2] at hw
        cases hw
      · have j2 : 2 ≤ j := by omega
        have s1 : j * ((2 * h) * (2 * h)) ≤ q * (1 + k * (2 * h)) := by
          have a2 : 2 * h ≤ k * (2 * h) := Nat.le_mul_of_pos_left _ k1
          have e5 := Nat.mul_assoc j (2 * h) (2 * h)
          rw [← e5]
          exact Nat.mul_le_mul (by omega) (by omega)
        have hb : h < 370728 := by
          refine Nat.lt_of_not_le (fun z => ?_)
          have a1 : 741456 * 741456 ≤ (2 * h) * (2 * h) := Nat.mul_le_mul (by omega) (by omega)
          have a2 : 2 * ((2 * h) * (2 * h)) ≤ j * ((2 * h) * (2 * h)) := Nat.mul_le_mul_right _ j2
          omega
        obtain ⟨l, X, J, hl, hX, hk2⟩ := A3 h (by omega) hb
        have jk : j < J := by
          refine Nat.lt_of_not_le (fun z => ?_)
          have a2 : J * ((2 * h) * (2 * h)) ≤ j * ((2 * h) * (2 * h)) := Nat.mul_le_mul_right _ z
          omega
        have gp : q ∣ X := by
          have := hX j j2 jk
          rw [← ej] at this
          exact this
        rw [nk_3_s hpr hq hq1 hh1 hl ho gp k1 h1 h2] at hw
        cases hw
