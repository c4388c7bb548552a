/-! COUNTING -/
noncomputable def nk_and (a b : Bool) : Bool := @Bool.rec (fun _ => Bool) false b a
noncomputable def nk_or (a b : Bool) : Bool := @Bool.rec (fun _ => Bool) b true a
theorem nk_and_s {a b : Bool} (h : nk_and a b = true) : a = true ∧ b = true := by
  cases a
  · cases h
  · exact ⟨rfl, h⟩
theorem nk_or_s {a b : Bool} (h : nk_or a b = true) : a = true ∨ b = true := by
  cases a
  · exact Or.inr h
  · exact Or.inl rfl
noncomputable def nk_all (p : Nat → Bool) (k : Nat) : Nat → Bool := @Nat.rec (fun _ => Nat → Bool) (fun a => p a) (fun k ih a => nk_and (ih a) (ih (Nat.add a (Nat.pow 2 k)))) k
theorem nk_all_s {p : Nat → Bool} : ∀ (k a : Nat), nk_all p k a = true → ∀ i, a ≤ i → i < a + 2 ^ k → p i = true
  | 0, a, h, i, h1, h2 => by
    have e : i = a := by
      rw [Nat.pow_zero] at h2
      omega
    rw [e]
    exact h
  | k + 1, a, h, i, h1, h2 => by
    obtain ⟨h3, h4⟩ := nk_and_s (a := nk_all p k a) (b := nk_all p k (a + 2 ^ k)) h
    rw [Nat.pow_succ] at h2
    rcases Nat.lt_or_ge i (a + 2 ^ k) with q | q
    · exact nk_all_s k a h3 i h1 q
    · exact nk_all_s k _ h4 i q (by omega)
noncomputable def nk_lt (p : Nat → Bool) (n : Nat) : Bool := @Nat.rec (fun _ => Bool) true (fun i ih => nk_and (p i) ih) n
theorem nk_lt_s {p : Nat → Bool} : ∀ n, nk_lt p n = true → ∀ i, i < n → p i = true
  | 0, _, i, hi => by omega
  | n + 1, h, i, hi => by
    obtain ⟨h3, h4⟩ := nk_and_s (a := p n) (b := nk_lt p n) h
    by_cases e : i = n
    · rw [e]; exact h3
    · exact nk_lt_s n h4 i (by omega)
/-- products of odd numbers -/
noncomputable def nk_pd (k : Nat) : Nat → Nat := @Nat.rec (fun _ => Nat → Nat) (fun a => Nat.add (Nat.mul 2 a) 1) (fun k ih a => Nat.mul (ih a) (ih (Nat.add a (Nat.pow 2 k)))) k
theorem nk_pd_in : ∀ (k a i : Nat), a ≤ i → i < a + 2 ^ k → 2 * i + 1 ∣ nk_pd k a
  | 0, a, i, h1, h2 => by
    have e : i = a := by
      rw [Nat.pow_zero] at h2
      omega
    rw [e]
    exact Nat.dvd_refl _
  | k + 1, a, i, h1, h2 => by
    rw [Nat.pow_succ] at h2
    show 2 * i + 1 ∣ nk_pd k a * nk_pd k (a + 2 ^ k)
    rcases Nat.lt_or_ge i (a + 2 ^ k) with q | q
    · exact Nat.dvd_mul_right_of_dvd (nk_pd_in k a i h1 q) _
    · exact Nat.dvd_mul_left_of_dvd (nk_pd_in k _ i q (by omega)) _
theorem nk_pd_out {q : Nat} (hq : np_pr q = true) : ∀ (k a : Nat), q ∣ nk_pd k a → ∃ i, a ≤ i ∧ i < a + 2 ^ k ∧ q ∣ 2 * i + 1
  | 0, a, h => ⟨a, Nat.le_refl a, by rw [Nat.pow_zero]; omega, h⟩
  | k + 1, a, h => by
    rw [Nat.pow_succ]
    rcases nf_eu hq (a := nk_pd k a) (b := nk_pd k (a + 2 ^ k)) h with h1 | h1
    · obtain ⟨i, h2, h3, h4⟩ := nk_pd_out hq k a h1
      exact ⟨i, h2, by omega, h4⟩
    · obtain ⟨i, h2, h3, h4⟩ := nk_pd_out hq k _ h1
      exact ⟨i, by omega, by omega, h4⟩
/-- powers beside a number -/
noncomputable def nk_st (b n r d : Nat) : Nat := Nat.mod (Nat.mul (Nat.pow r 256) (Nat.pow b d)) n
noncomputable def nk_dg (e k : Nat) : Nat := Nat.mod (Nat.shiftRight e k) 256
noncomputable def nk_pm (b e n : Nat) : Nat := nk_st b n (nk_st b n (nk_st b n (nk_st b n (Nat.mod (Nat.pow b (nk_dg e 32)) n) (nk_dg e 24)) (nk_dg e 16)) (nk_dg e 8)) (nk_dg e 0)
noncomputable def nk_pl (b e n : Nat) : Nat := Nat.mod (Nat.mul (Nat.pow (Nat.mod (Nat.pow b (Nat.div e 1024)) n) 1024) (Nat.pow b (Nat.mod e 1024))) n
theorem nk_sts {b n u d c : Nat} : ((b ^ u % n) ^ c * b ^ d) % n = b ^ (u * c + d) % n := by
  rw [Nat.mul_mod, ← Nat.pow_mod, ← Nat.pow_mul, ← Nat.mul_mod, ← Nat.pow_add]
theorem nk_st_s {b n u d : Nat} : nk_st b n (b ^ u % n) d = b ^ (u * 256 + d) % n := nk_sts
theorem nk_pm_s {b e n : Nat} (h : e < 1099511627776) : nk_pm b e n = b ^ e % n := by
  unfold nk_pm
  show nk_st b n (nk_st b n (nk_st b n (nk_st b n (b ^ (nk_dg e 32) % n) _) _) _) _ = _
  rw [nk_st_s, nk_st_s, nk_st_s, nk_st_s]
  congr 2
  show (((e >>> 32 % 256 * 256 + e >>> 24 % 256) * 256 + e >>> 16 % 256) * 256 + e >>> 8 % 256) * 256 + e >>> 0 % 256 = e
  simp only [Nat.shiftRight_eq_div_pow]
  omega
theorem nk_pl_s {b e n : Nat} : nk_pl b e n = b ^ e % n := by
  show ((b ^ (e / 1024) % n) ^ 1024 * b ^ (e % 1024)) % n = _
  rw [nk_sts]
  congr 2
  omega
/-- a number that doesn't pass -/
noncomputable def nk_bad (n : Nat) : Bool := @Bool.rec (fun _ => Bool) true (Bool.not (np_wx n)) (Nat.beq (nk_pm 2 (Nat.sub n 1) n) 1)
theorem nk_bad_s {n : Nat} (h1 : 100003 ≤ n) (h2 : n < 1099511627776) (h : nk_bad n = true) : np_wx n = false := by
  cases hw : np_wx n with
  | false => rfl
  | true =>
    have h3 := (nt_str h1 h2 (b := 2) (by decide) hw).1
    have e : Nat.beq (nk_pm 2 (Nat.sub n 1) n) 1 = true := by
      show Nat.beq (nk_pm 2 (n - 1) n) 1 = true
      rw [nk_pm_s (by omega), h3]
      rfl
    unfold nk_bad at h
    rw [e, hw] at h
    cases h
/-- a small whole number -/
noncomputable def nk_sm (e : Nat) : Bool := nk_and (Nat.ble 8193 e) (nk_and (Nat.ble e 67108864) (nk_and (Nat.beq (Nat.mod e 2) 1) (Nat.beq (Nat.gcd e (nk_pd 12 1)) 1)))
theorem nk_sm_s {e : Nat} (h : nk_sm e = true) : np_pr e = true := by
  obtain ⟨h1, h⟩ := nk_and_s h
  obtain ⟨h2, h⟩ := nk_and_s h
  obtain ⟨h3, h4⟩ := nk_and_s h
  have a1 := Nat.le_of_ble_eq_true h1
  have a2 := Nat.le_of_ble_eq_true h2
  have a3 : e % 2 = 1 := Nat.eq_of_beq_eq_true h3
  have a4 : Nat.gcd e (nk_pd 12 1) = 1 := Nat.eq_of_beq_eq_true h4
  rw [np_pr_iff]
  refine ⟨by omega, np_root (a := 8193) (by omega) (fun d h5 h6 h7 => ?_) (by omega)⟩
  have d2 : d % 2 = 1 := by
    have := Nat.div_add_mod d 2
    rcases Nat.mod_two_eq_zero_or_one d with q | q
    · have : 2 ∣ e := Nat.dvd_trans (Nat.dvd_of_mod_eq_zero q) h7
      omega
    · exact q
  have h8 := nk_pd_in 12 1 (d / 2) (by omega) (by omega)
  have e1 : 2 * (d / 2) + 1 = d := by omega
  rw [e1] at h8
  have h9 := Nat.dvd_gcd h7 h8
  rw [a4] at h9
  have := Nat.le_of_dvd (by omega) h9
  omega
/-! THE FIRST KIND: small steps -/
noncomputable def nk_sq (x g : Nat) : Nat := Nat.mod (Nat.mul x x) g
noncomputable def nk_s3 (x g : Nat) : Nat := nk_sq (nk_sq (nk_sq x g) g) g
theorem nk_sq_s {x u g : Nat} (h : u % g = x % g) : (u * u) % g = nk_sq x g % g := by
  show _ = x * x % g % g
  rw [Nat.mod_mod, Nat.mul_mod, h, ← Nat.mul_mod]
theorem nk_s3_s {x u g : Nat} (h : u % g = x % g) : u ^ 8 % g = nk_s3 x g % g := by
  have := nk_sq_s (nk_sq_s (nk_sq_s h))
  rw [show u ^ 8 = u * u * (u * u) * (u * u * (u * u)) by rw [← Nat.pow_two, ← Nat.pow_two, ← Nat.pow_two, ← Nat.pow_mul, ← Nat.pow_mul]]
  exact this
/-- multiples of q that don't pass -/
noncomputable def nk_mq (q L K : Nat) : Bool := nk_lt (fun k => nk_bad (Nat.mul q (Nat.add 1 (Nat.mul (Nat.add k 1) L)))) K
theorem nk_mq_s {q L K k : Nat} (h : nk_mq q L K = true) (h1 : 1 ≤ k) (h2 : k ≤ K) (h3 : 100003 ≤ q * (1 + k * L)) (h4 : q * (1 + k * L) < 1099511627776) : np_wx (q * (1 + k * L)) = false := by
  have := nk_lt_s K h (k - 1) (by omega)
  have e : k - 1 + 1 = k := by omega
  change nk_bad (q * (1 + (k - 1 + 1) * L)) = true at this
  rw [e] at this
  exact nk_bad_s h3 h4 this
noncomputable def nk_g2 (L : Nat) : Nat := Nat.gcd (Nat.sub (Nat.pow 2 L) 1) (Nat.sub (Nat.pow 3 L) 1)
noncomputable def nk_gb (g b L : Nat) : Nat := Nat.gcd g (Nat.sub (Nat.pow b L) 1)
noncomputable def nk_ex (l : List (Nat × Nat)) (L : Nat) : Nat := @List.rec (Nat × Nat) (fun _ => Nat) 1 (fun x _ ih => @Bool.rec (fun _ => Nat) ih (Nat.mul x.2 ih) (Nat.beq x.1 L)) l
noncomputable def nk_ek (l : List (Nat × Nat)) (L : Nat) : Bool := @List.rec (Nat × Nat) (fun _ => Bool) true (fun x _ ih => @Bool.rec (fun _ => Bool) ih (nk_and (nk_sm x.2) (nk_and (nk_mq x.2 L (Nat.div (Nat.div 1099511627776 x.2) L)) ih)) (Nat.beq x.1 L)) l
noncomputable def nk_1b (pr : Nat) (l : List (Nat × Nat)) (L g : Nat) : Bool := nk_and (Nat.beq (Nat.mod (Nat.mul (nk_s3 (Nat.mod pr g) g) (nk_ex l L)) g) 0) (nk_ek l L)
noncomputable def nk_1 (pr : Nat) (l : List (Nat × Nat)) (h : Nat) : Bool := @Bool.rec (fun _ => Bool) (nk_1b pr l (Nat.mul 2 h) (nk_gb (nk_gb (nk_gb (nk_gb (nk_g2 (Nat.mul 2 h)) 5 (Nat.mul 2 h)) 7 (Nat.mul 2 h)) 11 (Nat.mul 2 h)) 13 (Nat.mul 2 h))) true (Nat.beq (nk_s3 (Nat.mod pr (nk_g2 (Nat.mul 2 h))) (nk_g2 (Nat.mul 2 h))) 0)
theorem nk_d1 {q b L : Nat} (hq : 2 ≤ q) (h : b ^ L % q = 1) : q ∣ b ^ L - 1 := by
  have h2 : b ^ L % q = 1 % q := by rw [h, Nat.mod_eq_of_lt (by omega)]
  exact Nat.dvd_of_mod_eq_zero (Nat.sub_mod_eq_zero_of_mod_eq h2)
theorem nk_ek_s {q L k : Nat} (hq : np_pr q = true) (hL : 1 ≤ L) (h1 : 1 ≤ k) (h3 : 100003 ≤ q * (1 + k * L)) (h4 : q * (1 + k * L) < 1099511627776) : ∀ (l : List (Nat × Nat)), nk_ek l L = true → q ∣ nk_ex l L → np_wx (q * (1 + k * L)) = false
  | [], _, h => by
    have := Nat.le_of_dvd (by show 0 < 1; omega) h
    have := (np_pr_dvd.mp hq).1
    change q ≤ 1 at *
    omega
  | (a, e) :: l, h, hd => by
    change @Bool.rec (fun _ => Bool) (nk_ek l L) (nk_and (nk_sm e) (nk_and (nk_mq e L (1099511627776 / e / L)) (nk_ek l L))) (Nat.beq a L) = true at h
    change q ∣ @Bool.rec (fun _ => Nat) (nk_ex l L) (e * (nk_ex l L)) (Nat.beq a L) at hd
    cases hb : Nat.beq a L with
    | false =>
      rw [hb] at h hd
      exact nk_ek_s hq hL h1 h3 h4 l h hd
    | true =>
      rw [hb] at h hd
      obtain ⟨h5, h⟩ := nk_and_s h
      obtain ⟨h6, h7⟩ := nk_and_s h
      rcases nf_eu hq hd with h8 | h8
      · have e1 := (np_pr_dvd.mp (nk_sm_s h5)).2 q (np_pr_dvd.mp hq).1 h8
        have q2 := (np_pr_dvd.mp hq).1
        rw [← e1] at h6
        refine nk_mq_s h6 h1 ?_ h3 h4
        rw [Nat.le_div_iff_mul_le (by omega), Nat.le_div_iff_mul_le (by omega)]
        have h9 : q * (1 + k * L) = q + k * L * q := by rw [Nat.mul_add, Nat.mul_one, Nat.mul_comm]
        omega
      · exact nk_ek_s hq hL h1 h3 h4 l h7 h8
theorem nk_1_s {pr : Nat} {l : List (Nat × Nat)} {h q k : Nat} (hpr : pr ∣ nk_pd 16 0) (hq : np_pr q = true) (hq1 : 131072 < q) (hh : 1 ≤ h) (hc : nk_1 pr l h = true) (ho : ∀ b ∈ [2, 3, 5, 7, 11, 13], b ^ (2 * h) % q = 1) (h1 : 1 ≤ k) (h3 : 100003 ≤ q * (1 + k * (2 * h))) (h4 : q * (1 + k * (2 * h)) < 1099511627776) : np_wx (q * (1 + k * (2 * h))) = false := by
  have q2 := (np_pr_dvd.mp hq).1
  have hnp : ¬ q ∣ pr := fun z => by
    obtain ⟨i, _, h6, h7⟩ := nk_pd_out hq 16 0 (Nat.dvd_trans z hpr)
    have := Nat.le_of_dvd (by omega) h7
    omega
  have g2 : q ∣ nk_g2 (2 * h) := Nat.dvd_gcd (nk_d1 q2 (ho 2 (by decide))) (nk_d1 q2 (ho 3 (by decide)))
  have key : ∀ g, q ∣ g → q ∣ nk_s3 (pr % g) g → False := by
    intro g hg hz
    have e := nk_s3_s (x := pr % g) (u := pr) (g := g) (by rw [Nat.mod_mod])
    have z1 : q ∣ nk_s3 (pr % g) g % g := (Nat.dvd_mod_iff hg).mpr hz
    rw [← e] at z1
    have z2 := (Nat.dvd_mod_iff hg).mp z1
    exact hnp (nf_eup hq 8 z2)
  change @Bool.rec (fun _ => Bool) (nk_1b pr l (2 * h) (nk_gb (nk_gb (nk_gb (nk_gb (nk_g2 (2 * h)) 5 (2 * h)) 7 (2 * h)) 11 (2 * h)) 13 (2 * h))) true (Nat.beq (nk_s3 (pr % (nk_g2 (2 * h))) (nk_g2 (2 * h))) 0) = true at hc
  cases hb : Nat.beq (nk_s3 (pr % (nk_g2 (2 * h))) (nk_g2 (2 * h))) 0 with
  | true =>
    have e := Nat.eq_of_beq_eq_true hb
    exact (key _ g2 (by rw [e]; exact Nat.dvd_zero q)).elim
  | false =>
    rw [hb] at hc
    obtain ⟨c1, c2⟩ := nk_and_s hc
    have e := Nat.eq_of_beq_eq_true c1
    have gg : q ∣ (nk_gb (nk_gb (nk_gb (nk_gb (nk_g2 (2 * h)) 5 (2 * h)) 7 (2 * h)) 11 (2 * h)) 13 (2 * h)) := Nat.dvd_gcd (Nat.dvd_gcd (Nat.dvd_gcd (Nat.dvd_gcd g2 (nk_d1 q2 (ho 5 (by decide)))) (nk_d1 q2 (ho 7 (by decide)))) (nk_d1 q2 (ho 11 (by decide)))) (nk_d1 q2 (ho 13 (by decide)))
    have z := Nat.dvd_trans gg (Nat.dvd_of_mod_eq_zero e)
    rcases nf_eu hq z with z1 | z1
    · exact (key _ gg z1).elim
    · exact nk_ek_s hq (by omega) h1 h3 h4 l c2 z1
/-! THE SECOND KIND: large steps -/
noncomputable def nk_2c (L j q : Nat) : Bool := @Bool.rec (fun _ => Bool) true (@Bool.rec (fun _ => Bool) true (@Bool.rec (fun _ => Bool) true (@Bool.rec (fun _ => Bool) true (@Bool.rec (fun _ => Bool) true (nk_mq q L (Nat.div 1099511627776 (Nat.mul j (Nat.mul L L)))) (Nat.beq (nk_pl 7 L q) 1)) (Nat.beq (nk_pl 5 L q) 1)) (Nat.beq (nk_pl 3 L q) 1)) (Nat.beq (nk_pl 2 L q) 1)) (Nat.beq (Nat.gcd q 15015) 1)
noncomputable def nk_2 (h : Nat) : Bool := nk_lt (fun j => nk_2c (Nat.mul 2 h) (Nat.add j 1) (Nat.add 1 (Nat.mul (Nat.add j 1) (Nat.mul 2 h)))) (Nat.div 1099511627776 (Nat.mul (Nat.mul 2 h) (Nat.mul 2 h)))
theorem nk_g15 {q : Nat} (hq : np_pr q = true) (h : 13 < q) : Nat.gcd q 15015 = 1 := by
  refine nf_cop hq (fun z => ?_)
  have h2 : q ∣ 3 * (5 * (7 * (11 * 13))) := z
  have f : ∀ c, 0 < c → c ≤ 13 → ¬ q ∣ c := fun c h0 h1 z => by have := Nat.le_of_dvd h0 z; omega
  rcases nf_eu hq h2 with z | z
  · exact f _ (by omega) (by omega) z
  rcases nf_eu hq z with z | z
  · exact f _ (by omega) (by omega) z
  rcases nf_eu hq z with z | z
  · exact f _ (by omega) (by omega) z
  rcases nf_eu hq z with z | z
  · exact f _ (by omega) (by omega) z
  · exact f _ (by omega) (by omega) z
theorem nk_2_s {h q j k : Nat} (hq : np_pr q = true) (hq1 : 131072 < q) (hh : 1 ≤ h) (hj : q = 1 + j * (2 * h)) (hj1 : 1 ≤ j) (hc : nk_2 h = true) (ho : ∀ b ∈ [2, 3, 5, 7, 11, 13], b ^ (2 * h) % q = 1) (h1 : 1 ≤ k) (h3 : 100003 ≤ q * (1 + k * (2 * h))) (h4 : q * (1 + k * (2 * h)) < 1099511627776) : np_wx (q * (1 + k * (2 * h))) = false := by
  generalize hL : 2 * h = L at *
  have hL1 : 1 ≤ L := by omega
  have e0 : k * (j * (L * L)) ≤ q * (1 + k * L) := by
    have e1 : k * (j * (L * L)) = (j * L) * (k * L) := by
      simp only [Nat.mul_assoc, Nat.mul_left_comm]
    rw [e1]
    exact Nat.mul_le_mul (by omega) (by omega)
  have e2 : j * (L * L) ≤ k * (j * (L * L)) := Nat.le_mul_of_pos_left _ h1
  have p0 : 0 < L * L := Nat.mul_pos hL1 hL1
  have p1 : 0 < j * (L * L) := Nat.mul_pos hj1 p0
  have hJ : j ≤ 1099511627776 / (L * L) := by
    rw [Nat.le_div_iff_mul_le p0]
    omega
  have hK : k ≤ 1099511627776 / (j * (L * L)) := by
    rw [Nat.le_div_iff_mul_le p1]
    omega
  unfold nk_2 at hc
  change nk_lt (fun j => nk_2c (2 * h) (j + 1) (1 + (j + 1) * (2 * h))) (1099511627776 / ((2 * h) * (2 * h))) = true at hc
  rw [hL] at hc
  have hc1 := nk_lt_s _ hc (j - 1) (by omega)
  have ej : j - 1 + 1 = j := by omega
  change nk_2c L (j - 1 + 1) (1 + (j - 1 + 1) * L) = true at hc1
  rw [ej, ← hj] at hc1
  unfold nk_2c at hc1
  have b1 : Nat.beq (Nat.gcd q 15015) 1 = true := by
    rw [nk_g15 hq (by omega)]
    rfl
  have bb : ∀ b ∈ [2, 3, 5, 7, 11, 13], Nat.beq (nk_pl b L q) 1 = true := fun b hb => by
    rw [nk_pl_s, ho b hb]
    rfl
  rw [b1, bb 2 (by decide), bb 3 (by decide), bb 5 (by decide), bb 7 (by decide)] at hc1
  exact nk_mq_s hc1 h1 hK h3 h4
/-- what the tables show: no number with a part above 2^17 passes -/
theorem nk_big {pr : Nat} (hpr : pr ∣ nk_pd 16 0) (A1 : ∀ h, 1 ≤ h → h < 65536 → ∃ l, nk_1 pr l h = true) (A2 : ∀ h, 65536 ≤ h → h < 524288 → nk_2 h = true) {n q : Nat} (h1 : 100003 ≤ n) (h2 : n < 1099511627776) (hq : np_pr q = true) (hq1 : 131072 < q) (hqn : q ∣ n) (hne : q ≠ n) : np_wx n = false := by
  cases hw : np_wx n with
  | false => rfl
  | true =>
    exfalso
    obtain ⟨P, hP⟩ := hqn
    have P0 : P ≠ 0 := fun e => by rw [e, Nat.mul_zero] at hP; omega
    have P1 : P ≠ 1 := fun e => by rw [e, Nat.mul_one] at hP; omega
    have ho : ∀ b ∈ [2, 3, 5, 7, 11, 13], b ^ (Nat.gcd (q - 1) (P - 1)) % q = 1 := fun b hb => nt_rest hq hP (by omega) (nt_str h1 h2 hb hw).1
    have n2 : ¬ 2 ∣ n := ((nt_wx h1 h2).mp hw 2 (by decide)).1
    have nq2 : ¬ 2 ∣ q := fun z => n2 (by rw [hP]; exact Nat.dvd_mul_right_of_dvd z P)
    have nP2 : ¬ 2 ∣ P := fun z => n2 (by rw [hP]; exact Nat.dvd_mul_left_of_dvd z q)
    have d2 : 2 ∣ Nat.gcd (q - 1) (P - 1) := Nat.dvd_gcd (by omega) (by omega)
    obtain ⟨j, hj⟩ := Nat.gcd_dvd_left (q - 1) (P - 1)
    obtain ⟨k, hk⟩ := Nat.gcd_dvd_right (q - 1) (P - 1)
    obtain ⟨h, hh⟩ := d2
    rw [hh] at hj hk ho
    have ej : q = 1 + j * (2 * h) := by rw [Nat.mul_comm]; omega
    have ek : P = 1 + k * (2 * h) := by rw [Nat.mul_comm]; omega
    have j1 : 1 ≤ j := Nat.pos_of_ne_zero (fun e => by rw [e, Nat.mul_zero] at hj; omega)
    have k1 : 1 ≤ k := Nat.pos_of_ne_zero (fun e => by rw [e, Nat.mul_zero] at hk; omega)
    have hh1 : 1 ≤ h := Nat.pos_of_ne_zero (fun e => by rw [e, Nat.mul_zero, Nat.zero_mul] at hj; omega)
    rw [hP, ek] at h1 h2 hw
    rcases Nat.lt_or_ge h 65536 with c | c
    · obtain ⟨l, hl⟩ := A1 h hh1 c
      rw [nk_1_s hpr hq hq1 hh1 hl ho k1 h1 h2] at hw
      cases hw
    · have hb : h < 524288 := by
        refine Nat.lt_of_not_le (fun z => ?_)
        have a1 : 2 * h ≤ j * (2 * h) := Nat.le_mul_of_pos_left _ j1
        have a2 : 2 * h ≤ k * (2 * h) := Nat.le_mul_of_pos_left _ k1
        have a3 : 1048576 * 1048576 ≤ q * (1 + k * (2 * h)) := Nat.mul_le_mul (by omega) (by omega)
        omega
      rw [nk_2_s hq hq1 hh1 ej j1 (A2 h c hb) ho k1 h1 h2] at hw
      cases hw
