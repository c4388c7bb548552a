/-! LEAST PARTS -/
def np_LP (n q : Nat) : Prop := 2 ≤ q ∧ q ∣ n ∧ ∀ d, 2 ≤ d → d ∣ n → q ≤ d
def np_no (n a : Nat) : Prop := ∀ d, 2 ≤ d → d < a → ¬ d ∣ n
theorem np_mod {n d : Nat} : n % d = 0 ↔ d ∣ n := ⟨Nat.dvd_of_mod_eq_zero, Nat.mod_eq_zero_of_dvd⟩
theorem np_uniq {n q r : Nat} (h : np_LP n q) (h2 : np_LP n r) : q = r := Nat.le_antisymm (h.2.2 r h2.1 h2.2.1) (h2.2.2 q h.1 h.2.1)
def np_ls (n : Nat) : Nat → Nat → Nat
  | 0, a => a
  | f + 1, a => if n % a = 0 then a else np_ls n f (a + 1)
def np_lp (n : Nat) : Nat := np_ls n n 2
theorem np_found {n a : Nat} (h2 : 2 ≤ a) (hd : a ∣ n) (hn : np_no n a) : np_LP n a := ⟨h2, hd, fun d h1 h3 => Nat.le_of_not_lt (fun h => hn d h1 h h3)⟩
theorem np_ls_spec (n : Nat) : ∀ (f a : Nat), 2 ≤ a → a ≤ n → n < a + f → np_no n a → np_LP n (np_ls n f a)
  | 0, a, h1, h2, h3, _ => by omega
  | f + 1, a, h1, h2, h3, h4 => by
    unfold np_ls
    split
    · next h => exact np_found h1 (np_mod.mp h) h4
    · next h =>
      have hne : a ≠ n := fun e => h (by rw [e]; exact Nat.mod_self n)
      refine np_ls_spec n f (a + 1) (by omega) (by omega) (by omega) (fun d h5 h6 h7 => ?_)
      by_cases e : d = a
      · subst e
        exact h (np_mod.mpr h7)
      · exact h4 d h5 (by omega) h7
theorem np_lp_spec {n : Nat} (h : 2 ≤ n) : np_LP n (np_lp n) := np_ls_spec n n 2 (Nat.le_refl _) h (by omega) (fun d h1 h2 => by omega)
theorem np_lp_eq {n q : Nat} (h : 2 ≤ n) (hq : np_LP n q) : np_lp n = q := np_uniq (np_lp_spec h) hq
theorem np_lp_le {n : Nat} (h : 2 ≤ n) : np_lp n ≤ n := (np_lp_spec h).2.2 n h (Nat.dvd_refl n)
/-- whole by LAW 0 -/
def np_pr (n : Nat) : Bool := decide (2 ≤ n) && (np_lp n == n)
theorem np_pr_iff {n : Nat} : np_pr n = true ↔ 2 ≤ n ∧ np_lp n = n := by
  unfold np_pr
  simp
theorem np_pr_dvd {n : Nat} : np_pr n = true ↔ 2 ≤ n ∧ ∀ d, 2 ≤ d → d ∣ n → d = n := by
  rw [np_pr_iff]
  constructor
  · rintro ⟨h1, h2⟩
    refine ⟨h1, fun d h3 h4 => ?_⟩
    have h5 := (np_lp_spec h1).2.2 d h3 h4
    have h6 := Nat.le_of_dvd (by omega) h4
    omega
  · rintro ⟨h1, h2⟩
    exact ⟨h1, h2 _ (np_lp_spec h1).1 (np_lp_spec h1).2.1⟩
/-- the small part is whole -/
theorem np_lp_pr {n : Nat} (h : 2 ≤ n) : np_pr (np_lp n) = true := by
  rw [np_pr_dvd]
  obtain ⟨h1, h2, h3⟩ := np_lp_spec h
  refine ⟨h1, fun d h4 h5 => ?_⟩
  have h6 := h3 d h4 (Nat.dvd_trans h5 h2)
  have h7 := Nat.le_of_dvd (by omega) h5
  omega
theorem np_d2 {n d k : Nat} (hk : k ∣ d) (h : ¬ k ∣ n) : ¬ d ∣ n := fun q => h (Nat.dvd_trans hk q)
theorem np_step1 {n a : Nat} (h2 : ¬ 2 ∣ n) (ha : a % 6 = 5) (h : np_no n a) (e1 : ¬ a ∣ n) : np_no n (a + 2) := by
  intro d h4 h5
  by_cases e : d = a
  · rw [e]; exact e1
  · by_cases e2 : d = a + 1
    · exact np_d2 (k := 2) (by omega) h2
    · exact h d h4 (by omega)
theorem np_step {n a : Nat} (h2 : ¬ 2 ∣ n) (h3 : ¬ 3 ∣ n) (ha : a % 6 = 5) (h : np_no n a) (e1 : ¬ a ∣ n) (e2 : ¬ (a + 2) ∣ n) : np_no n (a + 6) := by
  intro d h4 h5
  by_cases q : d < a + 2
  · exact np_step1 h2 ha h e1 d h4 q
  · by_cases q1 : d = a + 2
    · rw [q1]; exact e2
    · by_cases q2 : d = a + 4
      · exact np_d2 (k := 3) (by omega) h3
      · exact np_d2 (k := 2) (by omega) h2
theorem np_no5 {n : Nat} (h2 : ¬ 2 ∣ n) (h3 : ¬ 3 ∣ n) : np_no n 5 := by
  intro d h4 h5
  have h6 : d = 2 ∨ d = 3 ∨ d = 4 := by omega
  rcases h6 with e | e | e
  · rw [e]; exact h2
  · rw [e]; exact h3
  · exact np_d2 (k := 2) (by omega) h2
/-- no part up to the root: whole -/
theorem np_root {n a : Nat} (hn : 2 ≤ n) (h : np_no n a) (ha : n < a * a) : np_lp n = n := by
  refine np_lp_eq hn ⟨hn, Nat.dvd_refl n, fun d h1 h2 => ?_⟩
  obtain ⟨c, hc⟩ := h2
  by_cases e : d < a
  · exact absurd ⟨c, hc⟩ (h d h1 e)
  · by_cases e2 : c < 2
    · have h3 : c = 0 ∨ c = 1 := by omega
      rcases h3 with q | q
      · subst q; omega
      · subst q; omega
    · by_cases e3 : c < a
      · exact absurd ⟨d, by rw [hc, Nat.mul_comm]⟩ (h c (by omega) e3)
      · have h4 := Nat.mul_le_mul (Nat.le_of_not_lt e) (Nat.le_of_not_lt e3)
        omega
/-- the machine's tests -/
theorem np_lrem {n a : Nat} (hn : n < 2 ^ 63) (ha : a < 2 ^ 63) : lg_cmp (lN n % lN a) 0 = 0 ↔ a ∣ n := by
  rw [lg_cmp_eq, xn_lmod hn ha, xn_lit64, xn_leq (by have := Nat.mod_le n a; omega) (by omega)]
  exact np_mod
theorem np_lne {a : Nat} (ha : a < 2 ^ 63) (h : 0 < a) : ¬ lN a = 0 := by
  rw [xn_lit64, xn_leq ha (by omega)]
  omega
