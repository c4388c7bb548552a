/-! THE SIEVE, as it is made -/
def bt (W : Nat → Int32) (n : Nat) : Bool := (W (n / 32)).toBitVec.getLsbD (n % 32)
theorem bt_1 {a : Int32} {s : Nat} (hs : s < 32) : ((a >>> (nI s &&& 31)) &&& 1) = if a.toBitVec.getLsbD s = true then 1 else 0 := by
  apply Int32.toBitVec.inj
  have e : (a >>> (nI s &&& 31)).toBitVec = a.toBitVec.sshiftRight s := by
    show a.toBitVec.sshiftRight ((nI s &&& 31 : Int32).toBitVec.smod 32).toNat = _
    rw [xb_amt32 s hs]
  rw [Int32.toBitVec_and, e]
  apply BitVec.eq_of_getLsbD_eq
  intro i hi
  have e1 : ((1 : Int32).toBitVec.getLsbD i) = decide (i = 0) := by
    show (1#32).getLsbD i = _
    rw [BitVec.getLsbD_one]
    rfl
  rw [BitVec.getLsbD_and, BitVec.getLsbD_sshiftRight, e1]
  by_cases h0 : i = 0
  · subst h0
    rw [Nat.add_zero, if_pos hs]
    cases h : a.toBitVec.getLsbD s
    · rfl
    · rfl
  · rw [decide_eq_false h0, Bool.and_false]
    have e2 : ((if a.toBitVec.getLsbD s = true then (1 : Int32) else 0).toBitVec.getLsbD i) = false := by
      cases h : a.toBitVec.getLsbD s
      · show (0#32).getLsbD i = false
        simp
      · show (1#32).getLsbD i = false
        rw [BitVec.getLsbD_one, decide_eq_false h0, Bool.and_false]
    rw [e2]
theorem bt_m : ∀ s, s < 32 → ∀ i, i < 32 → (((1 : Int32) <<< (nI s &&& 31)) ^^^ (-1)).toBitVec.getLsbD i = !(decide (i = s)) := by decide +kernel
theorem bt_2 {a : Int32} {s i : Nat} (hs : s < 32) (hi : i < 32) : (a &&& (((1 : Int32) <<< (nI s &&& 31)) ^^^ (-1))).toBitVec.getLsbD i = (a.toBitVec.getLsbD i && !(decide (i = s))) := by
  rw [Int32.toBitVec_and, BitVec.getLsbD_and, bt_m s hs i hi]
theorem bt_u {W : Nat → Int32} {j n : Nat} : bt (upd W (j / 32) (W (j / 32) &&& (((1 : Int32) <<< (nI (j % 32) &&& 31)) ^^^ (-1)))) n = (bt W n && !(decide (n = j))) := by
  unfold bt
  rw [xn_upd (α := Nat)]
  by_cases h : n / 32 = j / 32
  · rw [if_pos h, bt_2 (Nat.mod_lt _ (by omega)) (Nat.mod_lt _ (by omega)), h]
    congr 2
    by_cases h2 : n % 32 = j % 32
    · rw [decide_eq_true h2, decide_eq_true (by omega)]
    · rw [decide_eq_false h2, decide_eq_false (by omega)]
  · rw [if_neg h, decide_eq_false (by omega : ¬ n = j)]
    simp
/-- what stays when every odd one below i has struck -/
def sv3 (i n : Nat) : Prop := (n = 2 ∨ (n % 2 = 1 ∧ ¬ n = 1)) ∧ ∀ d, 3 ≤ d → d < i → d % 2 = 1 → d * d ≤ n → ¬ d ∣ n
theorem sv3_end {i n : Nat} (h : n < i * i) : sv3 i n ↔ np_pr n = true := by
  rw [np_pr_dvd]
  constructor
  · rintro ⟨h1, h2⟩
    rcases h1 with e | ⟨e1, e2⟩
    · subst e
      refine ⟨by omega, fun d hd hdv => ?_⟩
      have := Nat.le_of_dvd (by omega) hdv
      omega
    · refine ⟨by omega, fun d hd hdv => ?_⟩
      apply Decidable.byContradiction
      intro hne
      have key : ∀ c, 2 ≤ c → c ∣ n → c * c ≤ n → False := fun c hc hcd hcc => by
        have hodd : c % 2 = 1 := by
          apply Decidable.byContradiction
          intro z
          have : 2 ∣ n := Nat.dvd_trans (Nat.dvd_of_mod_eq_zero (by omega)) hcd
          omega
        have hci : c < i := by
          apply Decidable.byContradiction
          intro z
          have := Nat.mul_le_mul (Nat.not_lt.mp z) (Nat.not_lt.mp z)
          omega
        exact h2 c (by omega) hci hodd hcc hcd
      obtain ⟨c, hc⟩ := hdv
      by_cases hle : d ≤ c
      · exact key d hd ⟨c, hc⟩ (by rw [hc]; exact Nat.mul_le_mul_left d hle)
      · refine key c ?_ ⟨d, by rw [Nat.mul_comm]; exact hc⟩ (by rw [hc]; exact Nat.mul_le_mul_right c (by omega))
        apply Decidable.byContradiction
        intro z
        have h3 : c = 0 ∨ c = 1 := by omega
        rcases h3 with e | e
        · rw [e, Nat.mul_zero] at hc; omega
        · rw [e, Nat.mul_one] at hc; exact hne hc.symm
  · rintro ⟨h1, h2⟩
    refine ⟨?_, fun d h3 _ _ h4 h5 => ?_⟩
    · by_cases e : n = 2
      · exact Or.inl e
      · refine Or.inr ⟨?_, by omega⟩
        apply Decidable.byContradiction
        intro z
        exact e (h2 2 (by omega) (Nat.dvd_of_mod_eq_zero (by omega))).symm
    · have := h2 d (by omega) h5
      subst this
      have : d * 3 ≤ d * d := Nat.mul_le_mul_left d h3
      omega
theorem sv3_no {i n : Nat} (hi : i % 2 = 1) (h3 : 3 ≤ i) (h : ¬ sv3 i i) : sv3 i n ↔ sv3 (i + 2) n := by
  have hd : ∃ d, 3 ≤ d ∧ d < i ∧ d % 2 = 1 ∧ d * d ≤ i ∧ d ∣ i := by
    apply Classical.byContradiction
    intro z
    exact h ⟨Or.inr ⟨hi, by omega⟩, fun d h1 h2 h4 h5 h6 => z ⟨d, h1, h2, h4, h5, h6⟩⟩
  obtain ⟨d, d1, d2, d3, d4, d5⟩ := hd
  constructor
  · rintro ⟨h1, h2⟩
    refine ⟨h1, fun e e1 e2 e3 e4 e5 => ?_⟩
    by_cases z : e < i
    · exact h2 e e1 z e3 e4 e5
    · have : e = i := by omega
      subst this
      refine h2 d d1 d2 d3 ?_ (Nat.dvd_trans d5 e5)
      have : d * d ≤ e * e := Nat.mul_le_mul (by omega) (by omega)
      omega
  · rintro ⟨h1, h2⟩
    exact ⟨h1, fun e e1 e2 e3 e4 e5 => h2 e e1 (by omega) e3 e4 e5⟩
theorem sv3_yes {i n : Nat} (hi : i % 2 = 1) (h3 : 3 ≤ i) : (sv3 i n ∧ ¬ ∃ m, n = i * i + m * (2 * i)) ↔ sv3 (i + 2) n := by
  constructor
  · rintro ⟨⟨h1, h2⟩, h4⟩
    refine ⟨h1, fun e e1 e2 e3 e4 e5 => ?_⟩
    by_cases z : e < i
    · exact h2 e e1 z e3 e4 e5
    · have : e = i := by omega
      subst this
      obtain ⟨q, hq⟩ := e5
      have hqe : e ≤ q := by
        apply Decidable.byContradiction
        intro w
        have : e * q < e * e := Nat.mul_lt_mul_of_pos_left (by omega) (by omega)
        omega
      have hn1 : n % 2 = 1 := by
        rcases h1 with h1 | h1
        · subst h1
          have : 3 * 3 ≤ e * e := Nat.mul_le_mul h3 h3
          omega
        · exact h1.1
      have hq1 : q % 2 = 1 := by
        rw [hq, Nat.mul_mod, hi, Nat.one_mul, Nat.mod_mod] at hn1
        exact hn1
      refine h4 ⟨(q - e) / 2, ?_⟩
      have e9 : q = e + 2 * ((q - e) / 2) := by omega
      rw [hq]
      generalize (q - e) / 2 = m at e9
      subst e9
      rw [Nat.mul_add]
      congr 1
      rw [Nat.mul_left_comm, Nat.mul_comm m, Nat.mul_assoc, Nat.mul_comm e]
  · rintro ⟨h1, h2⟩
    refine ⟨⟨h1, fun e e1 e2 e3 e4 e5 => h2 e e1 (by omega) e3 e4 e5⟩, ?_⟩
    rintro ⟨m, hm⟩
    refine h2 i h3 (by omega) hi (by omega) ?_
    exact ⟨i + m * 2, by rw [hm, Nat.mul_add, show m * (2 * i) = i * (m * 2) by rw [Nat.mul_comm m, Nat.mul_comm 2 i, Nat.mul_assoc, Nat.mul_comm 2 m]]⟩

