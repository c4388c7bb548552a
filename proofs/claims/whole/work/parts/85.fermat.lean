/-! A whole number that parts a product parts one of its two -/
theorem nf_eu {p a b : Nat} (hp : np_pr p = true) (h : p ∣ a * b) : p ∣ a ∨ p ∣ b := by
  by_cases hg : Nat.gcd p a = 1
  · exact Or.inr (Nat.Coprime.dvd_of_dvd_mul_left hg h)
  · left
    obtain ⟨h2, hd⟩ := np_pr_dvd.mp hp
    have g0 : Nat.gcd p a ≠ 0 := fun e => by
      have h5 := Nat.gcd_dvd_left p a
      rw [e] at h5
      have := Nat.eq_zero_of_zero_dvd h5
      omega
    have h6 := hd _ (by omega) (Nat.gcd_dvd_left p a)
    have h3 := Nat.gcd_dvd_right p a
    rw [h6] at h3
    exact h3
theorem nf_eup {p a : Nat} (hp : np_pr p = true) : ∀ k, p ∣ a ^ k → p ∣ a
  | 0, h => by
    have h2 := (np_pr_dvd.mp hp).1
    rw [Nat.pow_zero] at h
    have := Nat.le_of_dvd (by decide) h
    omega
  | k + 1, h => by
    rw [Nat.pow_succ] at h
    rcases nf_eu hp h with h1 | h1
    · exact nf_eup hp k h1
    · exact h1
/-! sums -/
def nf_sm (f : Nat → Nat) : Nat → Nat
  | 0 => 0
  | n + 1 => nf_sm f n + f n
theorem nf_sm_shift (f : Nat → Nat) : ∀ n, nf_sm f (n + 1) = f 0 + nf_sm (fun k => f (k + 1)) n
  | 0 => by simp [nf_sm]
  | n + 1 => by
    show nf_sm f (n + 1) + f (n + 1) = f 0 + (nf_sm (fun k => f (k + 1)) n + f (n + 1))
    rw [nf_sm_shift f n, Nat.add_assoc]
theorem nf_sm_add (f g : Nat → Nat) : ∀ n, nf_sm (fun k => f k + g k) n = nf_sm f n + nf_sm g n
  | 0 => rfl
  | n + 1 => by
    show nf_sm (fun k => f k + g k) n + (f n + g n) = (nf_sm f n + f n) + (nf_sm g n + g n)
    rw [nf_sm_add f g n]
    omega
theorem nf_sm_mul (c : Nat) (f : Nat → Nat) : ∀ n, nf_sm (fun k => c * f k) n = c * nf_sm f n
  | 0 => rfl
  | n + 1 => by
    show nf_sm (fun k => c * f k) n + c * f n = c * (nf_sm f n + f n)
    rw [nf_sm_mul c f n, Nat.mul_add]
theorem nf_sm_dvd {p : Nat} {f : Nat → Nat} : ∀ n, (∀ k, k < n → p ∣ f k) → p ∣ nf_sm f n
  | 0, _ => Nat.dvd_zero p
  | n + 1, h => Nat.dvd_add (nf_sm_dvd n (fun k hk => h k (by omega))) (h n (by omega))
/-! choices -/
def nf_bc : Nat → Nat → Nat
  | 0, 0 => 1
  | 0, _ + 1 => 0
  | _ + 1, 0 => 1
  | n + 1, k + 1 => nf_bc n k + nf_bc n (k + 1)
theorem nf_bc0 (n : Nat) : nf_bc n 0 = 1 := by cases n <;> rfl
theorem nf_bcs (n k : Nat) : nf_bc (n + 1) (k + 1) = nf_bc n k + nf_bc n (k + 1) := rfl
theorem nf_bc_big : ∀ n k, n < k → nf_bc n k = 0
  | 0, 0, h => by omega
  | 0, k + 1, _ => rfl
  | n + 1, 0, h => by omega
  | n + 1, k + 1, h => by rw [nf_bcs, nf_bc_big n k (by omega), nf_bc_big n (k + 1) (by omega)]
theorem nf_bcn : ∀ n, nf_bc n n = 1
  | 0 => rfl
  | n + 1 => by rw [nf_bcs, nf_bcn n, nf_bc_big n (n + 1) (by omega)]
theorem nf_bc_abs : ∀ n k, (k + 1) * nf_bc (n + 1) (k + 1) = (n + 1) * nf_bc n k
  | 0, 0 => rfl
  | 0, k + 1 => by
    rw [nf_bcs, nf_bc_big 0 (k + 1) (by omega), nf_bc_big 0 (k + 2) (by omega)]
    simp
  | n + 1, 0 => by
    have h := nf_bc_abs n 0
    rw [nf_bc0] at h
    rw [nf_bcs, nf_bc0]
    omega
  | n + 1, k + 1 => by
    have h1 := nf_bc_abs n k
    have h2 := nf_bc_abs n (k + 1)
    have e : nf_bc (n + 1) (k + 1) = nf_bc n k + nf_bc n (k + 1) := rfl
    rw [nf_bcs (n + 1) (k + 1), Nat.mul_add, h2, Nat.add_mul (k + 1) 1, h1, Nat.one_mul]
    have h3 : (n + 1 + 1) * nf_bc (n + 1) (k + 1) = (n + 1) * nf_bc (n + 1) (k + 1) + nf_bc (n + 1) (k + 1) := by
      rw [Nat.add_mul (n + 1) 1, Nat.one_mul]
    have h4 : (n + 1) * nf_bc (n + 1) (k + 1) = (n + 1) * nf_bc n k + (n + 1) * nf_bc n (k + 1) := by rw [e, Nat.mul_add]
    omega
theorem nf_bin (x : Nat) : ∀ n, (x + 1) ^ n = nf_sm (fun k => nf_bc n k * x ^ k) (n + 1)
  | 0 => rfl
  | n + 1 => by
    have ih := nf_bin x n
    have a5 : nf_bc n 0 * x ^ 0 = 1 := by rw [nf_bc0]; rfl
    have a6 : nf_bc (n + 1) 0 * x ^ 0 = 1 := by rw [nf_bc0]; rfl
    have a1 : nf_sm (fun k => nf_bc (n + 1) k * x ^ k) (n + 1 + 1) = 1 + nf_sm (fun k => nf_bc (n + 1) (k + 1) * x ^ (k + 1)) (n + 1) := (nf_sm_shift (fun k => nf_bc (n + 1) k * x ^ k) (n + 1)).trans (congrArg (fun y => y + nf_sm (fun k => nf_bc (n + 1) (k + 1) * x ^ (k + 1)) (n + 1)) a6)
    have a2 : nf_sm (fun k => nf_bc (n + 1) (k + 1) * x ^ (k + 1)) (n + 1) = nf_sm (fun k => x * (nf_bc n k * x ^ k)) (n + 1) + nf_sm (fun k => nf_bc n (k + 1) * x ^ (k + 1)) (n + 1) := by
      rw [← nf_sm_add]
      congr 1
      funext k
      rw [nf_bcs, Nat.add_mul, Nat.pow_succ]
      congr 1
      rw [Nat.mul_comm (x ^ k) x, ← Nat.mul_assoc, ← Nat.mul_assoc, Nat.mul_comm x]
    have a3 : nf_sm (fun k => nf_bc n k * x ^ k) (n + 1 + 1) = 1 + nf_sm (fun k => nf_bc n (k + 1) * x ^ (k + 1)) (n + 1) := (nf_sm_shift (fun k => nf_bc n k * x ^ k) (n + 1)).trans (congrArg (fun y => y + nf_sm (fun k => nf_bc n (k + 1) * x ^ (k + 1)) (n + 1)) a5)
    have a4 : nf_sm (fun k => nf_bc n k * x ^ k) (n + 1 + 1) = nf_sm (fun k => nf_bc n k * x ^ k) (n + 1) + nf_bc n (n + 1) * x ^ (n + 1) := rfl
    rw [nf_bc_big n (n + 1) (by omega), Nat.zero_mul, Nat.add_zero] at a4
    rw [nf_sm_mul] at a2
    rw [a4] at a3
    rw [Nat.pow_succ, Nat.mul_add, Nat.mul_one, a1, a2, Nat.mul_comm ((x + 1) ^ n) x, ih]
    omega
/-! Fermat -/
theorem nf_f1 {p k : Nat} (hp : np_pr p = true) (hk : k + 1 < p) : p ∣ nf_bc p (k + 1) := by
  obtain ⟨n, rfl⟩ : ∃ n, p = n + 1 := ⟨p - 1, by omega⟩
  have h := nf_bc_abs n k
  have h2 : (n + 1) ∣ (k + 1) * nf_bc (n + 1) (k + 1) := ⟨_, h⟩
  rcases nf_eu hp h2 with h3 | h3
  · have := Nat.le_of_dvd (by omega) h3
    omega
  · exact h3
theorem nf_f2 {p : Nat} (hp : np_pr p = true) (x : Nat) : ∃ c, (x + 1) ^ p = x ^ p + 1 + p * c := by
  have h2 := (np_pr_dvd.mp hp).1
  obtain ⟨m, rfl⟩ : ∃ m, p = m + 1 := ⟨p - 1, by omega⟩
  have h := nf_bin x (m + 1)
  have a1 : nf_sm (fun k => nf_bc (m + 1) k * x ^ k) (m + 1 + 1) = nf_sm (fun k => nf_bc (m + 1) k * x ^ k) (m + 1) + nf_bc (m + 1) (m + 1) * x ^ (m + 1) := rfl
  have a2 := nf_sm_shift (fun k => nf_bc (m + 1) k * x ^ k) m
  obtain ⟨c, hc⟩ : (m + 1) ∣ nf_sm (fun k => nf_bc (m + 1) (k + 1) * x ^ (k + 1)) m := nf_sm_dvd m (fun k hk => Nat.dvd_mul_right_of_dvd (nf_f1 hp (by omega)) _)
  have a5 : nf_bc (m + 1) 0 * x ^ 0 = 1 := by rw [nf_bc0]; rfl
  refine ⟨c, ?_⟩
  rw [h, a1, a2, nf_bcn, Nat.one_mul]
  simp only [a5, hc]
  omega
theorem nf_f3 {p : Nat} (hp : np_pr p = true) : ∀ x, x ^ p % p = x % p
  | 0 => by
    have h2 := (np_pr_dvd.mp hp).1
    rw [Nat.zero_pow (by omega)]
  | x + 1 => by
    obtain ⟨c, hc⟩ := nf_f2 hp x
    rw [hc, Nat.add_mul_mod_self_left, Nat.add_mod, nf_f3 hp x, ← Nat.add_mod]
theorem nf_one {p y : Nat} (hp : 2 ≤ p) (h1 : 1 ≤ y) (h : p ∣ y - 1) : y % p = 1 := by
  obtain ⟨c, hc⟩ := h
  have e : y = p * c + 1 := by omega
  rw [e, Nat.mul_add_mod, Nat.mod_eq_of_lt (by omega)]
theorem nf_fer {p x : Nat} (hp : np_pr p = true) (hx : ¬ p ∣ x) : x ^ (p - 1) % p = 1 := by
  have h2 := (np_pr_dvd.mp hp).1
  have hx0 : 0 < x := Nat.pos_of_ne_zero (fun e => hx (by rw [e]; exact Nat.dvd_zero p))
  have h := nf_f3 hp x
  have e : x ^ p = x * x ^ (p - 1) := by
    rw [Nat.mul_comm, ← Nat.pow_succ]
    congr 1
    omega
  have h3 := Nat.sub_mod_eq_zero_of_mod_eq h
  have e2 : x ^ p - x = x * (x ^ (p - 1) - 1) := by rw [e, Nat.mul_sub, Nat.mul_one]
  rw [e2] at h3
  rcases nf_eu hp (Nat.dvd_of_mod_eq_zero h3) with h4 | h4
  · exact absurd h4 hx
  · exact nf_one h2 (Nat.pow_pos hx0) h4
/-! powers that make one -/
theorem nf_pw1 {p x a : Nat} (hp : 2 ≤ p) (h : x ^ a % p = 1) (k : Nat) : x ^ (a * k) % p = 1 := by
  rw [Nat.pow_mul, Nat.pow_mod, h, Nat.one_pow, Nat.mod_eq_of_lt (by omega)]
theorem nf_gp {p x : Nat} (hp : 2 ≤ p) (a b : Nat) : x ^ a % p = 1 → x ^ b % p = 1 → x ^ (Nat.gcd a b) % p = 1 := by
  induction a, b using Nat.gcd.induction with
  | H0 n =>
    intro _ h
    rw [Nat.gcd_zero_left]
    exact h
  | H1 m n hm ih =>
    intro h1 h2
    rw [Nat.gcd_rec]
    refine ih ?_ h1
    have e : x ^ n = x ^ (m * (n / m)) * x ^ (n % m) := by
      rw [← Nat.pow_add, Nat.div_add_mod]
    rw [e, Nat.mul_mod, nf_pw1 hp h1, Nat.one_mul, Nat.mod_mod] at h2
    exact h2
/-- what a square of one can be -/
theorem nf_sq {p y : Nat} (hp : np_pr p = true) (hy : y < p) (h : y * y % p = 1) : y = 1 ∨ y = p - 1 := by
  have h2 := (np_pr_dvd.mp hp).1
  have y0 : y ≠ 0 := fun e => by
    rw [e, Nat.zero_mul, Nat.zero_mod] at h
    omega
  obtain ⟨z, rfl⟩ : ∃ z, y = z + 1 := ⟨y - 1, by omega⟩
  have e : (z + 1) * (z + 1) = z * (z + 2) + 1 := by
    have e1 : (z + 1) * (z + 1) = z * (z + 1) + (z + 1) := Nat.succ_mul z (z + 1)
    have e2 : z * (z + 1) = z * z + z := Nat.mul_succ z z
    have e3 : z * (z + 2) = z * z + z * 2 := Nat.mul_add z z 2
    omega
  have h3 : p ∣ z * (z + 2) := by
    have h4 : (z + 1) * (z + 1) % p = 1 % p := by rw [h, Nat.mod_eq_of_lt (by omega)]
    have h5 := Nat.sub_mod_eq_zero_of_mod_eq h4
    rw [e, Nat.add_sub_cancel] at h5
    exact Nat.dvd_of_mod_eq_zero h5
  rcases nf_eu hp h3 with h4 | h4
  · left
    by_cases z0 : z = 0
    · omega
    · have := Nat.le_of_dvd (by omega) h4
      omega
  · right
    have := Nat.le_of_dvd (by omega) h4
    obtain ⟨c, hc⟩ := h4
    have hc1 : c = 1 := by
      rcases Nat.lt_or_ge c 2 with q | q
      · rcases (by omega : c = 0 ∨ c = 1) with q1 | q1
        · rw [q1] at hc; omega
        · exact q1
      · have := Nat.mul_le_mul_left p q
        omega
    rw [hc1] at hc
    omega
