/-! THE STRONG TEST -/
def nt_y (b n k : Nat) : Nat := b ^ ((n - 1) / 2 ^ k) % n
theorem nt_step (b n k : Nat) : (if (n - 1) / 2 ^ k % 2 = 1 then (nt_y b n (k + 1) * nt_y b n (k + 1) % n) * b % n else nt_y b n (k + 1) * nt_y b n (k + 1) % n) = nt_y b n k := by
  have e : (n - 1) / 2 ^ (k + 1) = (n - 1) / 2 ^ k / 2 := by rw [Nat.pow_succ, Nat.div_div_eq_div_mul]
  unfold nt_y
  rw [e]
  generalize (n - 1) / 2 ^ k = m
  have e2 : b ^ (m / 2) * b ^ (m / 2) = b ^ (2 * (m / 2)) := by
    rw [← Nat.pow_add]
    congr 1
    omega
  have e4 : b ^ (m / 2) % n * (b ^ (m / 2) % n) % n = b ^ (2 * (m / 2)) % n := by rw [← Nat.mul_mod, e2]
  rw [e4]
  split
  · next h =>
    have e3 : 2 * (m / 2) + 1 = m := by omega
    have e5 : b ^ (2 * (m / 2)) * b = b ^ m := by
      rw [← Nat.pow_succ]
      exact congrArg (fun z => b ^ z) e3
    rw [Nat.mul_mod (_ % n) b n, Nat.mod_mod, ← Nat.mul_mod, e5]
  · next h =>
    have e3 : 2 * (m / 2) = m := by omega
    rw [e3]
theorem nt_false {b n : Nat} : ∀ k, np_sp b n k (nt_y b n k) = false → nt_y b n 0 = 1 ∧ ∀ i, i < k → nt_y b n (i + 1) * nt_y b n (i + 1) % n = 1 → nt_y b n (i + 1) = 1 ∨ nt_y b n (i + 1) = n - 1
  | 0, h => by
    unfold np_sp at h
    refine ⟨?_, fun i hi => by omega⟩
    simpa using h
  | k + 1, h => by
    unfold np_sp at h
    rw [nt_step] at h
    split at h
    · cases h
    · next hc =>
      obtain ⟨h1, h2⟩ := nt_false k h
      refine ⟨h1, fun i hi h3 => ?_⟩
      rcases Nat.lt_or_ge i k with q | q
      · exact h2 i q h3
      · have e : i = k := by omega
        rw [e] at h3 ⊢
        by_cases c1 : nt_y b n (k + 1) = 1
        · exact Or.inl c1
        · by_cases c2 : nt_y b n (k + 1) = n - 1
          · exact Or.inr c2
          · exact absurd ⟨h3, c1, c2⟩ hc
theorem nt_true {b n : Nat} : ∀ k, nt_y b n 0 = 1 → (∀ i, i < k → nt_y b n (i + 1) * nt_y b n (i + 1) % n = 1 → nt_y b n (i + 1) = 1 ∨ nt_y b n (i + 1) = n - 1) → np_sp b n k (nt_y b n k) = false
  | 0, h, _ => by
    unfold np_sp
    rw [h]
    rfl
  | k + 1, h, h2 => by
    unfold np_sp
    rw [nt_step, if_neg]
    · exact nt_true k h (fun i hi => h2 i (by omega))
    · rintro ⟨c1, c2, c3⟩
      rcases h2 k (by omega) c1 with c | c
      · exact c2 c
      · exact c3 c
theorem nt_y41 {b n : Nat} (h1 : 2 ≤ n) (h : n < 1099511627776) : nt_y b n 41 = 1 := by
  unfold nt_y
  rw [Nat.div_eq_of_lt (by omega), Nat.pow_zero, Nat.mod_eq_of_lt (by omega)]
theorem nt_wx {n : Nat} (h1 : 100003 ≤ n) (h2 : n < 1099511627776) : np_wx n = true ↔ ∀ b ∈ [2, 3, 5, 7, 11, 13], ¬ b ∣ n ∧ np_sp b n 41 1 = false := by
  unfold np_wx
  rw [if_neg (by omega), List.all_eq_true]
  constructor
  · intro h b hb
    have := h b hb
    rw [Bool.and_eq_true] at this
    refine ⟨fun hd => ?_, ?_⟩
    · have h3 := Nat.mod_eq_zero_of_dvd hd
      rw [h3] at this
      exact absurd this.1 (by decide)
    · simpa using this.2
  · intro h b hb
    obtain ⟨h3, h4⟩ := h b hb
    rw [h4, beq_false_of_ne (fun e => h3 (Nat.dvd_of_mod_eq_zero e))]
    rfl
theorem nt_bs {b : Nat} (h : b ∈ [2, 3, 5, 7, 11, 13]) : 2 ≤ b ∧ b ≤ 13 := by
  simp only [List.mem_cons, List.not_mem_nil, or_false] at h
  omega
/-- whole numbers pass -/
theorem nt_prime {n : Nat} (h1 : 100003 ≤ n) (h2 : n < 1099511627776) (hp : np_pr n = true) : np_wx n = true := by
  rw [nt_wx h1 h2]
  intro b hb
  have hb2 := nt_bs hb
  have hd := (np_pr_dvd.mp hp).2
  have nb : ¬ n ∣ b := fun h => by have := Nat.le_of_dvd (by omega) h; omega
  refine ⟨fun h => by have := hd b hb2.1 h; omega, ?_⟩
  have h0 : nt_y b n 0 = 1 := by
    unfold nt_y
    rw [Nat.pow_zero, Nat.div_one]
    exact nf_fer hp nb
  have := nt_true (b := b) (n := n) 41 h0 (fun i _ h3 => nf_sq hp (Nat.mod_lt _ (by omega)) h3)
  rw [nt_y41 (by omega) h2] at this
  exact this
theorem nt_str {n b : Nat} (h1 : 100003 ≤ n) (h2 : n < 1099511627776) (hb : b ∈ [2, 3, 5, 7, 11, 13]) (h : np_wx n = true) : b ^ (n - 1) % n = 1 ∧ ∀ i, i < 41 → nt_y b n (i + 1) * nt_y b n (i + 1) % n = 1 → nt_y b n (i + 1) = 1 ∨ nt_y b n (i + 1) = n - 1 := by
  obtain ⟨h3, h4⟩ := (nt_wx h1 h2).mp h b hb
  rw [← nt_y41 (b := b) (by omega) h2] at h4
  obtain ⟨h5, h6⟩ := nt_false 41 h4
  refine ⟨?_, h6⟩
  unfold nt_y at h5
  rw [Nat.pow_zero, Nat.div_one] at h5
  exact h5
/-! the sign of a number -/
def nt_sg (r b d e : Nat) : Prop := (e = 0 ∧ b ^ d % r = 1) ∨ (1 ≤ e ∧ b ^ (d * 2 ^ (e - 1)) % r = r - 1)
theorem nt_mm {r : Nat} (hr : 2 ≤ r) : (r - 1) * (r - 1) % r = 1 := by
  obtain ⟨t, rfl⟩ : ∃ t, r = t + 2 := ⟨r - 2, by omega⟩
  have e : (t + 2 - 1) * (t + 2 - 1) = (t + 2) * t + 1 := by
    have e1 : t + 2 - 1 = t + 1 := by omega
    rw [e1, Nat.add_mul, Nat.mul_add, Nat.add_mul]
    omega
  rw [e, Nat.mul_add_mod, Nat.mod_eq_of_lt (by omega)]
theorem nt_m1 {r x d : Nat} (hr : 3 ≤ r) (hx : x % r = r - 1) (hd : d % 2 = 1) : x ^ d % r = r - 1 := by
  obtain ⟨k, rfl⟩ : ∃ k, d = 2 * k + 1 := ⟨d / 2, by omega⟩
  have h1 : (x ^ 2) % r = 1 := by
    rw [Nat.pow_two, Nat.mul_mod, hx]
    exact nt_mm (by omega)
  rw [Nat.pow_succ, Nat.pow_mul, Nat.mul_mod, hx, Nat.pow_mod, h1, Nat.one_pow, Nat.mod_eq_of_lt (a := 1) (by omega), Nat.one_mul, Nat.mod_eq_of_lt (by omega)]
theorem nt_up {r b d e : Nat} (hr : 3 ≤ r) (h : nt_sg r b d e) : b ^ (d * 2 ^ e) % r = 1 := by
  rcases h with ⟨h1, h2⟩ | ⟨h1, h2⟩
  · rw [h1, Nat.pow_zero, Nat.mul_one]
    exact h2
  · obtain ⟨k, rfl⟩ : ∃ k, e = k + 1 := ⟨e - 1, by omega⟩
    rw [Nat.add_sub_cancel] at h2
    rw [Nat.pow_succ, ← Nat.mul_assoc, Nat.pow_mul, Nat.pow_two, Nat.mul_mod, h2]
    exact nt_mm (by omega)
theorem nt_nlt {r b d e D E : Nat} (hr : 3 ≤ r) (h : nt_sg r b d e) (h2 : nt_sg r b D E) (hd : d % 2 = 1) : ¬ e < E := by
  intro hlt
  rcases h2 with ⟨h3, _⟩ | ⟨h3, h4⟩
  · omega
  · have a1 := nf_pw1 (by omega) (nt_up hr h) (2 ^ (E - 1 - e))
    rw [Nat.mul_assoc, ← Nat.pow_add] at a1
    have e1 : e + (E - 1 - e) = E - 1 := by omega
    rw [e1] at a1
    have a2 := nf_pw1 (by omega) a1 D
    have a3 := nt_m1 hr h4 hd
    rw [← Nat.pow_mul] at a3
    have e2 : D * 2 ^ (E - 1) * d = d * 2 ^ (E - 1) * D := by
      rw [Nat.mul_comm, Nat.mul_comm D, ← Nat.mul_assoc]
    rw [e2, a2] at a3
    omega
theorem nt_sgeq {r b d e D E : Nat} (hr : 3 ≤ r) (h : nt_sg r b d e) (h2 : nt_sg r b D E) (hd : d % 2 = 1) (hD : D % 2 = 1) : e = E := by
  have := nt_nlt hr h h2 hd
  have := nt_nlt hr h2 h hD
  omega
theorem nt_red {r n b d e : Nat} (hr : 3 ≤ r) (hn : 1 ≤ n) (hrn : r ∣ n) (h : nt_sg n b d e) : nt_sg r b d e := by
  rcases h with ⟨h1, h2⟩ | ⟨h1, h2⟩
  · left
    refine ⟨h1, ?_⟩
    rw [← Nat.mod_mod_of_dvd _ hrn, h2, Nat.mod_eq_of_lt (by omega)]
  · right
    refine ⟨h1, ?_⟩
    rw [← Nat.mod_mod_of_dvd _ hrn, h2]
    obtain ⟨c, hc⟩ := hrn
    have c1 : c ≠ 0 := fun e => by rw [e, Nat.mul_zero] at hc; omega
    obtain ⟨c, rfl⟩ : ∃ k, c = k + 1 := ⟨c - 1, by omega⟩
    have e1 : n - 1 = r * c + (r - 1) := by
      rw [hc, Nat.mul_add, Nat.mul_one]
      omega
    rw [e1, Nat.mul_add_mod, Nat.mod_eq_of_lt (by omega)]
theorem nt_odd {m : Nat} (h : ¬ 2 ∣ m) : m % 2 = 1 := by omega
/-- every number that passes has a sign -/
theorem nt_ex {n b : Nat} (h1 : 100003 ≤ n) (h2 : n < 1099511627776) (hb : b ∈ [2, 3, 5, 7, 11, 13]) (h : np_wx n = true) : ∃ D E, D % 2 = 1 ∧ nt_sg n b D E := by
  obtain ⟨h3, h4⟩ := nt_str h1 h2 hb h
  obtain ⟨s, D, hD, hD2⟩ := nf_val (q := 2) (by omega) (n - 1) (by omega)
  have hs : s ≤ 40 := by
    refine Nat.le_of_not_lt (fun hc => ?_)
    have d1 : D ≠ 0 := fun e => hD2 (by rw [e]; exact Nat.dvd_zero 2)
    have := Nat.le_mul_of_pos_right (2 ^ s) (Nat.pos_of_ne_zero d1)
    have h5 : 2 ^ 41 ≤ 2 ^ s := Nat.pow_le_pow_right (by omega) (by omega)
    omega
  have hy : ∀ k, k ≤ s → nt_y b n k = b ^ (D * 2 ^ (s - k)) % n := by
    intro k hk
    unfold nt_y
    have e : n - 1 = 2 ^ k * (D * 2 ^ (s - k)) := by
      rw [hD, Nat.mul_comm D, ← Nat.mul_assoc, ← Nat.pow_add]
      congr 2
      omega
    rw [e, Nat.mul_div_cancel_left _ (Nat.two_pow_pos k)]
  have hk : ∀ k, k ≤ s → nt_y b n k = 1 ∨ ∃ E, nt_sg n b D E := by
    intro k
    induction k with
    | zero =>
      intro _
      left
      unfold nt_y
      rw [Nat.pow_zero, Nat.div_one]
      exact h3
    | succ k ih =>
      intro hk
      rcases ih (by omega) with h5 | h5
      · have h6 : nt_y b n (k + 1) * nt_y b n (k + 1) % n = 1 := by
          refine Eq.trans ?_ h5
          have e0 : s - k = (s - (k + 1)) + 1 := by omega
          rw [hy (k + 1) hk, hy k (by omega), ← Nat.mul_mod, ← Nat.pow_two, ← Nat.pow_mul, e0, Nat.pow_succ, Nat.mul_assoc]
        rcases h4 k (by omega) h6 with h7 | h7
        · exact Or.inl h7
        · right
          refine ⟨s - k, Or.inr ⟨by omega, ?_⟩⟩
          rw [hy (k + 1) hk] at h7
          have e : s - (k + 1) = s - k - 1 := by omega
          rw [e] at h7
          exact h7
      · exact Or.inr h5
  refine ⟨D, ?_⟩
  rcases hk s (Nat.le_refl s) with h5 | ⟨E, h5⟩
  · refine ⟨0, nt_odd hD2, Or.inl ⟨rfl, ?_⟩⟩
    rw [hy s (Nat.le_refl s), Nat.sub_self, Nat.pow_zero, Nat.mul_one] at h5
    exact h5
  · exact ⟨E, nt_odd hD2, h5⟩
/-! squares, and a part beside its rest -/
theorem nt_bi (r c : Nat) : ∀ k, (1 + r * c) ^ k % (r * r) = (1 + k * (r * c)) % (r * r)
  | 0 => by rw [Nat.pow_zero, Nat.zero_mul]
  | k + 1 => by
    rw [Nat.pow_succ, Nat.mul_mod, nt_bi r c k, ← Nat.mul_mod]
    have e : (1 + k * (r * c)) * (1 + r * c) = (1 + (k + 1) * (r * c)) + r * r * (k * c * c) := by
      have e1 : k * (r * c) * (r * c) = r * r * (k * c * c) := by
        simp only [Nat.mul_assoc, Nat.mul_left_comm]
      rw [Nat.add_mul, Nat.one_mul, Nat.mul_add, Nat.mul_one, e1, Nat.add_mul k 1, Nat.one_mul]
      omega
    rw [e, Nat.add_mul_mod_self_left]
theorem nt_sqr {n r b : Nat} (hr : np_pr r = true) (hn : 2 ≤ n) (h : r * r ∣ n) (hb : b ^ (n - 1) % n = 1) (hrb : ¬ r ∣ b) : b ^ (r - 1) % (r * r) = 1 := by
  have r2 := (np_pr_dvd.mp hr).1
  have rr : 2 ≤ r * r := by
    have := Nat.mul_le_mul r2 r2
    omega
  have f := nf_fer hr hrb
  have e := Nat.div_add_mod (b ^ (r - 1)) r
  rw [f, Nat.add_comm] at e
  generalize b ^ (r - 1) / r = c at e
  have g1 : b ^ (n - 1) % (r * r) = 1 := by rw [← Nat.mod_mod_of_dvd _ h, hb, Nat.mod_eq_of_lt (by omega)]
  have g2 := nf_pw1 rr g1 (r - 1)
  rw [Nat.mul_comm, Nat.pow_mul, ← e, nt_bi] at g2
  have g3 : (1 + (n - 1) * (r * c)) % (r * r) = 1 % (r * r) := by rw [g2, Nat.mod_eq_of_lt (by omega)]
  have g4 := Nat.dvd_of_mod_eq_zero (Nat.sub_mod_eq_zero_of_mod_eq g3)
  rw [Nat.add_sub_cancel_left, Nat.mul_left_comm] at g4
  have g5 := Nat.dvd_of_mul_dvd_mul_left (by omega) g4
  have hc : r ∣ c := by
    rcases nf_eu hr g5 with z | z
    · have z1 : r ∣ n := Nat.dvd_trans (Nat.dvd_mul_right r r) h
      have z2 : r ∣ n - (n - 1) := Nat.dvd_sub z1 z
      have z3 := Nat.le_of_dvd (by omega) z2
      omega
    · exact z
  obtain ⟨t, rfl⟩ := hc
  rw [← e, ← Nat.mul_assoc, Nat.add_mul_mod_self_left, Nat.mod_eq_of_lt (by omega)]
/-- a part q beside the rest P -/
theorem nt_rest {n q P b : Nat} (hq : np_pr q = true) (hn : n = q * P) (hP : 1 ≤ P) (hb : b ^ (n - 1) % n = 1) : b ^ (Nat.gcd (q - 1) (P - 1)) % q = 1 := by
  have q2 := (np_pr_dvd.mp hq).1
  have hn2 : 2 ≤ n := by
    have := Nat.mul_le_mul q2 hP
    omega
  have g1 : b ^ (n - 1) % q = 1 := by rw [← Nat.mod_mod_of_dvd _ (⟨P, hn⟩ : q ∣ n), hb, Nat.mod_eq_of_lt (by omega)]
  have hqb : ¬ q ∣ b := fun h => by
    have n1 : n - 1 ≠ 0 := by omega
    rw [Nat.pow_mod, Nat.mod_eq_zero_of_dvd h, Nat.zero_pow (Nat.pos_of_ne_zero n1), Nat.zero_mod] at g1
    omega
  have f := nf_fer hq hqb
  refine nf_gp q2 _ _ f ?_
  have e : n - 1 = (q - 1) * P + (P - 1) := by
    obtain ⟨q, rfl⟩ : ∃ k, q = k + 1 := ⟨q - 1, by omega⟩
    rw [hn, Nat.add_sub_cancel, Nat.add_mul, Nat.one_mul]
    omega
  rw [e, Nat.pow_add, Nat.mul_mod, nf_pw1 q2 f, Nat.one_mul, Nat.mod_mod] at g1
  exact g1
