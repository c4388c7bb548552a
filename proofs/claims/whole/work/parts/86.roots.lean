/-! DIFFERENCES -/
def nf_dl (f : Nat → Int) : Nat → Int := fun x => f (x + 1) - f x
def nf_dg : Nat → Int → (Nat → Int) → Prop
  | 0, c, f => ∀ x, f x = c
  | d + 1, c, f => nf_dg d (((d : Int) + 1) * c) (nf_dl f)
theorem nf_dg_low : ∀ (d : Nat) (c : Int) (f : Nat → Int), nf_dg d c f → nf_dg (d + 1) 0 f
  | 0, c, f, h => by
    show nf_dg 0 ((((0 : Nat) : Int) + 1) * 0) (nf_dl f)
    intro x
    show f (x + 1) - f x = _
    rw [h, h]
    simp
  | d + 1, c, f, h => by
    have := nf_dg_low d _ (nf_dl f) h
    show nf_dg (d + 1) ((((d + 1 : Nat) : Int) + 1) * 0) (nf_dl f)
    rw [Int.mul_zero]
    exact this
theorem nf_dg_add : ∀ (d : Nat) (c e : Int) (f g : Nat → Int), nf_dg d c f → nf_dg d e g → nf_dg d (c + e) (fun x => f x + g x)
  | 0, c, e, f, g, h1, h2 => fun x => by
    have k1 : ∀ x, f x = c := h1
    have k2 : ∀ x, g x = e := h2
    show f x + g x = c + e
    rw [k1, k2]
  | d + 1, c, e, f, g, h1, h2 => by
    have h := nf_dg_add d _ _ _ _ h1 h2
    show nf_dg d (((d : Int) + 1) * (c + e)) (nf_dl (fun x => f x + g x))
    have e1 : nf_dl (fun x => f x + g x) = (fun x => nf_dl f x + nf_dl g x) := by
      funext x
      show f (x + 1) + g (x + 1) - (f x + g x) = (f (x + 1) - f x) + (g (x + 1) - g x)
      omega
    rw [e1, Int.mul_add]
    exact h
theorem nf_dg_x : ∀ (d : Nat) (c : Int) (f : Nat → Int), nf_dg d c f → nf_dg (d + 1) c (fun x => (x : Int) * f x)
  | 0, c, f, h => by
    show nf_dg 0 ((((0 : Nat) : Int) + 1) * c) (nf_dl (fun x => (x : Int) * f x))
    intro x
    show ((x + 1 : Nat) : Int) * f (x + 1) - (x : Int) * f x = _
    rw [h, h, Int.natCast_add, Int.add_mul]
    simp
    omega
  | d + 1, c, f, h => by
    have a1 := nf_dg_x d _ (nf_dl f) h
    have a2 := nf_dg_low d _ (nf_dl f) h
    have a3 := nf_dg_add (d + 1) _ _ _ _ a1 (nf_dg_add (d + 1) _ _ _ _ h a2)
    show nf_dg (d + 1) ((((d + 1 : Nat) : Int) + 1) * c) (nf_dl (fun x => (x : Int) * f x))
    have e1 : nf_dl (fun x : Nat => (x : Int) * f x) = (fun x : Nat => (x : Int) * nf_dl f x + (f x + nf_dl f x)) := by
      funext x
      show ((x + 1 : Nat) : Int) * f (x + 1) - (x : Int) * f x = (x : Int) * (f (x + 1) - f x) + (f x + (f (x + 1) - f x))
      rw [Int.natCast_add, Int.add_mul, Int.mul_sub]
      simp
      omega
    have e2 : (((d + 1 : Nat) : Int) + 1) * c = ((d : Int) + 1) * c + (c + 0) := by
      rw [Int.add_mul, Int.one_mul, Int.add_zero, Int.natCast_add]
      rfl
    rw [e1, e2]
    exact a3
theorem nf_dg_pow : ∀ d, nf_dg d 1 (fun x => (x : Int) ^ d)
  | 0 => fun x => Int.pow_zero _
  | d + 1 => by
    have h := nf_dg_x d _ _ (nf_dg_pow d)
    have e : (fun x : Nat => (x : Int) ^ (d + 1)) = (fun x : Nat => (x : Int) * (x : Int) ^ d) := by
      funext x
      rw [Int.pow_succ, Int.mul_comm]
    rw [e]
    exact h
theorem nf_dg_c : ∀ d c, nf_dg (d + 1) 0 (fun _ => c)
  | 0, c => nf_dg_low 0 c _ (fun _ => rfl)
  | d + 1, c => nf_dg_low (d + 1) 0 _ (nf_dg_c d c)
def nf_fa : Nat → Nat
  | 0 => 1
  | d + 1 => (d + 1) * nf_fa d
theorem nf_dg_end (p : Int) : ∀ (d : Nat) (c : Int) (f : Nat → Int) (a : Nat), nf_dg d c f → (∀ x, a ≤ x → x ≤ a + d → p ∣ f x) → p ∣ c * (nf_fa d : Int)
  | 0, c, f, a, h1, h2 => by
    have := h2 a (by omega) (by omega)
    rw [h1] at this
    show p ∣ c * ((1 : Nat) : Int)
    simpa using this
  | d + 1, c, f, a, h1, h2 => by
    have h := nf_dg_end p d _ (nf_dl f) a h1 (fun x h3 h4 => Int.dvd_sub (h2 (x + 1) (by omega) (by omega)) (h2 x h3 (by omega)))
    show p ∣ c * (((d + 1) * nf_fa d : Nat) : Int)
    have e : c * (((d + 1) * nf_fa d : Nat) : Int) = ((d : Int) + 1) * c * (nf_fa d : Int) := by
      rw [Int.natCast_mul, ← Int.mul_assoc, Int.mul_comm c, Int.natCast_add]
      rfl
    rw [e]
    exact h
theorem nf_fa_p {p : Nat} (hp : np_pr p = true) : ∀ d, d < p → ¬ p ∣ nf_fa d
  | 0, _, h => by
    have h2 := (np_pr_dvd.mp hp).1
    have := Nat.le_of_dvd (by show 0 < 1; omega) h
    change p ≤ 1 at this
    omega
  | d + 1, hd, h => by
    rcases nf_eu hp h with h3 | h3
    · have := Nat.le_of_dvd (by omega) h3
      omega
    · exact nf_fa_p hp d (by omega) h3
/-- not all powers make one -/
theorem nf_ex {p d : Nat} (hp : np_pr p = true) (h1 : 1 ≤ d) (hd : d + 1 < p) : ∃ x, 1 ≤ x ∧ x < p ∧ x ^ d % p ≠ 1 := by
  refine Classical.byContradiction (fun hn => ?_)
  have h2 := (np_pr_dvd.mp hp).1
  have all : ∀ x, 1 ≤ x → x < p → x ^ d % p = 1 := fun x a b => Classical.byContradiction (fun c => hn ⟨x, a, b, c⟩)
  obtain ⟨e, rfl⟩ : ∃ e, d = e + 1 := ⟨d - 1, by omega⟩
  have b1 := nf_dg_add (e + 1) _ _ _ _ (nf_dg_pow (e + 1)) (nf_dg_c e (-1))
  have b2 := nf_dg_end (p : Int) (e + 1) _ _ 1 b1 (fun x h3 h4 => by
    have h5 := all x h3 (by omega)
    have h6 : x ^ (e + 1) % p = 1 % p := by rw [h5, Nat.mod_eq_of_lt (by omega)]
    have h7 := Nat.dvd_of_mod_eq_zero (Nat.sub_mod_eq_zero_of_mod_eq h6)
    have h8 : 1 ≤ x ^ (e + 1) := Nat.pow_pos h3
    have h9 := Int.natCast_dvd_natCast.mpr h7
    have h10 : ((x ^ (e + 1) - 1 : Nat) : Int) = (x : Int) ^ (e + 1) + -1 := by
      rw [Int.natCast_sub h8, Int.natCast_pow]
      rfl
    rw [h10] at h9
    exact h9)
  have b3 : (1 : Int) + 0 = 1 := rfl
  rw [b3, Int.one_mul] at b2
  exact nf_fa_p hp (e + 1) (by omega) (Int.natCast_dvd_natCast.mp b2)
/-- a number without a part's power -/
theorem nf_val {q : Nat} (hq : 2 ≤ q) : ∀ (n : Nat), 1 ≤ n → ∃ e m, n = q ^ e * m ∧ ¬ q ∣ m := by
  intro n
  induction n using Nat.strongRecOn with
  | _ n ih =>
    intro hn
    by_cases h : q ∣ n
    · obtain ⟨c, hc⟩ := h
      have c1 : 1 ≤ c := Nat.pos_of_ne_zero (fun e => by rw [e, Nat.mul_zero] at hc; omega)
      have c2 : c < n := by
        have := Nat.mul_le_mul_right c hq
        omega
      obtain ⟨e, m, h1, h2⟩ := ih c c2 c1
      exact ⟨e + 1, m, by rw [hc, h1, Nat.pow_succ, Nat.mul_comm (q ^ e) q, Nat.mul_assoc], h2⟩
    · exact ⟨0, n, by rw [Nat.pow_zero, Nat.one_mul], h⟩
theorem nf_cop {p a : Nat} (hp : np_pr p = true) (h : ¬ p ∣ a) : Nat.gcd p a = 1 := by
  obtain ⟨h2, hd⟩ := np_pr_dvd.mp hp
  have h3 := Nat.gcd_dvd_left p a
  have h0 : Nat.gcd p a ≠ 0 := fun e => by
    rw [e] at h3
    have := Nat.eq_zero_of_zero_dvd h3
    omega
  refine Classical.byContradiction (fun h1 => ?_)
  have h4 := hd _ (by omega) h3
  have h5 := Nat.gcd_dvd_right p a
  rw [h4] at h5
  exact h h5
/-- for some whole parts of p - 1 one number shows them all -/
theorem nf_gen {p : Nat} (hp : np_pr p = true) (h3 : 3 ≤ p) : ∀ (l : List Nat), (∀ q ∈ l, np_pr q = true ∧ q ∣ p - 1) → ∃ g, ¬ p ∣ g ∧ ∀ q ∈ l, g ^ ((p - 1) / q) % p ≠ 1
  | [], _ => ⟨1, fun h => by have := Nat.le_of_dvd (by omega) h; omega, fun q hq => by cases hq⟩
  | q :: l, h => by
    obtain ⟨g, g1, g2⟩ := nf_gen hp h3 l (fun r hr => h r (List.mem_cons_of_mem _ hr))
    by_cases hg : g ^ ((p - 1) / q) % p = 1
    · obtain ⟨hq, hd⟩ := h q List.mem_cons_self
      have hq2 := (np_pr_dvd.mp hq).1
      have hk : (p - 1) / q * q = p - 1 := Nat.div_mul_cancel hd
      have hk1 : 1 ≤ (p - 1) / q := Nat.pos_of_ne_zero (fun e => by rw [e, Nat.zero_mul] at hk; omega)
      have hk2 : (p - 1) / q + 1 < p := by
        have := Nat.mul_le_mul_left ((p - 1) / q) hq2
        omega
      obtain ⟨x, x1, x2, x3⟩ := nf_ex hp hk1 hk2
      have px : ¬ p ∣ x := fun z => by have := Nat.le_of_dvd (by omega) z; omega
      have fx := nf_fer hp px
      obtain ⟨e, m, hm, hqm⟩ := nf_val hq2 (p - 1) (by omega)
      refine ⟨g * x ^ m, fun z => ?_, fun r hr => ?_⟩
      · rcases nf_eu hp z with z1 | z1
        · exact g1 z1
        · exact px (nf_eup hp m z1)
      · rw [Nat.mul_pow, Nat.mul_mod]
        rcases List.mem_cons.mp hr with hr1 | hr1
        · rw [hr1, hg, Nat.one_mul, Nat.mod_mod, ← Nat.pow_mul, Nat.mul_comm m, Nat.pow_mul]
          intro z
          rw [Nat.pow_mod] at z
          have y2 : (x ^ ((p - 1) / q) % p) ^ q % p = 1 := by
            rw [← Nat.pow_mod, ← Nat.pow_mul, hk]
            exact fx
          have y3 := nf_gp (by omega) _ _ z y2
          rw [Nat.gcd_comm, nf_cop hq hqm, Nat.pow_one, Nat.mod_mod] at y3
          exact x3 y3
        · obtain ⟨hr2, hrd⟩ := h r hr
          have hne : r ≠ q := fun e2 => g2 r hr1 (by rw [e2]; exact hg)
          have hrm : r ∣ m := by
            rw [hm] at hrd
            rcases nf_eu hr2 hrd with z | z
            · have := (np_pr_dvd.mp hq).2 r (np_pr_dvd.mp hr2).1 (nf_eup hr2 e z)
              exact absurd this hne
            · exact z
          obtain ⟨c, hc⟩ := hrm
          have e3 : m * ((p - 1) / r) = (p - 1) * c := by
            have hk3 : r * ((p - 1) / r) = p - 1 := Nat.mul_div_cancel' (h r hr).2
            rw [hc, Nat.mul_comm r c, Nat.mul_assoc, hk3, Nat.mul_comm]
          rw [← Nat.pow_mul x, e3, nf_pw1 (by omega) fx, Nat.mul_one, Nat.mod_mod]
          exact g2 r hr1
    · refine ⟨g, g1, fun r hr => ?_⟩
      rcases List.mem_cons.mp hr with hr1 | hr1
      · rw [hr1]; exact hg
      · exact g2 r hr1
theorem nf_li : ∀ (f n : Nat), ∀ x ∈ np_li np_lp f n, np_pr x = true ∧ x ∣ n
  | 0, n, x, hx => by
    unfold np_li at hx
    cases hx
  | f + 1, n, x, hx => by
    by_cases h : n ≤ 1
    · rw [np_li0 h] at hx; cases hx
    · rw [np_li1 h] at hx
      rcases List.mem_cons.mp hx with e | e
      · rw [e]
        exact ⟨np_lp_pr (by omega), (np_lp_spec (by omega)).2.1⟩
      · obtain ⟨h1, h2⟩ := nf_li f _ x e
        exact ⟨h1, Nat.dvd_trans h2 (Nat.div_dvd_of_dvd (np_lp_spec (by omega)).2.1)⟩
/-- every whole number, at least 3, has its proof -/
theorem nf_PR : np_PR := by
  intro n h3 _ hp
  obtain ⟨g, g1, g2⟩ := nf_gen hp h3 (np_li np_lp 32 (n - 1)) (fun q hq => nf_li 32 (n - 1) q hq)
  have a0 : g % n ≠ 0 := fun e => g1 (Nat.dvd_of_mod_eq_zero e)
  have a1 : g % n < n := Nat.mod_lt _ (by omega)
  have hmem : np_lp (n - 1) ∈ np_li np_lp 32 (n - 1) := by
    rw [np_li1 (by omega)]
    exact List.mem_cons_self
  have a2 : g % n ≠ 1 := fun e => by
    refine g2 _ hmem ?_
    rw [Nat.pow_mod, e, Nat.one_pow, Nat.mod_eq_of_lt (by omega)]
  refine ⟨g % n, by omega, a1, ?_⟩
  unfold np_pg
  rw [Bool.and_eq_true, List.all_eq_true]
  refine ⟨?_, fun q hq => ?_⟩
  · have h5 := nf_fer hp g1
    rw [Nat.pow_mod] at h5
    rw [h5]
    rfl
  · have h5 := g2 q hq
    rw [Nat.pow_mod] at h5
    rw [beq_false_of_ne h5]
    rfl
