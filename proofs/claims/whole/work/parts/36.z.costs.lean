/-! WITH COINS BY COSTS: coin j costs 10^16 less a digit of its own (10^(15 - j)): the least cost is the fewest coins, of as many those with most of coin 0, and so on -/
def kq_m (f : Nat → Option Nat) (w q v : Nat) : Nat → Option Nat
  | 0 => f v
  | k + 1 => if (k + 1) * w ≤ v then co_n (kq_m f w q v k) ((f (v - (k + 1) * w)).map (· + (k + 1) * q)) else kq_m f w q v k
theorem kq_m1 {f : Nat → Option Nat} {w q v k : Nat} : kq_m f w q v (k + 1) = if (k + 1) * w ≤ v then co_n (kq_m f w q v k) ((f (v - (k + 1) * w)).map (· + (k + 1) * q)) else kq_m f w q v k := rfl
theorem kq_stop {f : Nat → Option Nat} {w q v k : Nat} (h : v < (k + 1) * w) : ∀ K, k ≤ K → kq_m f w q v K = kq_m f w q v k
  | 0, hK => by rw [show k = 0 by omega]
  | K + 1, hK => by
    by_cases e : k = K + 1
    · rw [e]
    · have h2 : (k + 1) * w ≤ (K + 1) * w := Nat.mul_le_mul_right w (by omega)
      rw [kq_m1, if_neg (by omega)]
      exact kq_stop h K (by omega)
theorem kq_has {f : Nat → Option Nat} {w q v : Nat} : ∀ K x, kq_m f w q v K = some x → ∃ k, k ≤ K ∧ k * w ≤ v ∧ ∃ y, f (v - k * w) = some y ∧ y + k * q = x
  | 0, x, h => ⟨0, Nat.le_refl _, by rw [Nat.zero_mul]; exact Nat.zero_le _, x, by rw [Nat.zero_mul, Nat.sub_zero]; exact h, by rw [Nat.zero_mul]; rfl⟩
  | K + 1, x, h => by
    have ih := kq_has (f := f) (w := w) (q := q) (v := v) K
    rw [kq_m1] at h
    split at h
    · next hle =>
      cases ha : kq_m f w q v K with
      | none =>
        rw [ha] at h
        cases hb : f (v - (K + 1) * w) with
        | none => rw [hb] at h; cases h
        | some y =>
          rw [hb] at h
          have h3 : y + (K + 1) * q = x := Option.some.inj h
          exact ⟨K + 1, Nat.le_refl _, hle, y, hb, h3⟩
      | some z =>
        rw [ha] at h
        cases hb : f (v - (K + 1) * w) with
        | none =>
          rw [hb] at h
          have h3 : z = x := Option.some.inj h
          subst h3
          obtain ⟨k, k1, k2, k3⟩ := ih z ha
          exact ⟨k, by omega, k2, k3⟩
        | some y =>
          rw [hb] at h
          have h3 : min z (y + (K + 1) * q) = x := Option.some.inj h
          by_cases e : z ≤ y + (K + 1) * q
          · rw [Nat.min_eq_left e] at h3
            subst h3
            obtain ⟨k, k1, k2, k3⟩ := ih z ha
            exact ⟨k, by omega, k2, k3⟩
          · rw [Nat.min_eq_right (by omega)] at h3
            exact ⟨K + 1, Nat.le_refl _, hle, y, hb, h3⟩
    · obtain ⟨k, k1, k2, k3⟩ := ih x h
      exact ⟨k, by omega, k2, k3⟩
theorem kq_min {f : Nat → Option Nat} {w q v k y : Nat} (hk : k * w ≤ v) (hy : f (v - k * w) = some y) : ∀ K, k ≤ K → ∃ x, kq_m f w q v K = some x ∧ x ≤ y + k * q
  | 0, h => by
    have e : k = 0 := by omega
    subst e
    rw [Nat.zero_mul, Nat.sub_zero] at hy
    exact ⟨y, hy, Nat.le_add_right _ _⟩
  | K + 1, h => by
    rw [kq_m1]
    by_cases e : k = K + 1
    · subst e
      rw [if_pos hk, hy]
      cases kq_m f w q v K with
      | none => exact ⟨y + (K + 1) * q, rfl, Nat.le_refl _⟩
      | some z => exact ⟨min z (y + (K + 1) * q), rfl, Nat.min_le_right _ _⟩
    · obtain ⟨x, h1, h2⟩ := kq_min (q := q) hk hy K (by omega)
      rw [h1]
      split
      · cases f (v - (K + 1) * w) with
        | none => exact ⟨x, rfl, h2⟩
        | some z => exact ⟨min x (z + (K + 1) * q), rfl, Nat.le_trans (Nat.min_le_left _ _) h2⟩
      · exact ⟨x, rfl, h2⟩
theorem kq_one {f : Nat → Option Nat} {w v : Nat} : ∀ K, kq_m f w 1 v K = co_m f w v K
  | 0 => rfl
  | K + 1 => by
    rw [kq_m1, co_m1, kq_one K, Nat.mul_one]
theorem kq_mle {f : Nat → Option Nat} {w q v B : Nat} (hf : ∀ u y, f u = some y → y ≤ B) (K x : Nat) (h : kq_m f w q v K = some x) : x ≤ B + K * q := by
  obtain ⟨k, k1, k2, y, k3, k4⟩ := kq_has _ _ h
  have h1 := hf _ _ k3
  have h2 : k * q ≤ K * q := Nat.mul_le_mul_right q k1
  omega
/-- the least cost out of the first coins -/
def kq_C (W M Q : Nat → Nat) : Nat → Nat → Option Nat
  | 0 => fun v => if v = 0 then some 0 else none
  | i + 1 => fun v => kq_m (kq_C W M Q i) (W i) (Q i) v (M i)
theorem kq_C1 {W M Q : Nat → Nat} {i v : Nat} : kq_C W M Q (i + 1) v = kq_m (kq_C W M Q i) (W i) (Q i) v (M i) := rfl
/-- sums over the first ones; over n from i on -/
def kq_s (c : Nat → Nat) : Nat → Nat
  | 0 => 0
  | i + 1 => kq_s c i + c i
def kq_t (c : Nat → Nat) : Nat → Nat → Nat
  | 0, _ => 0
  | n + 1, i => c i + kq_t c n (i + 1)
theorem kq_sc {a b : Nat → Nat} : ∀ i, (∀ j, j < i → a j = b j) → kq_s a i = kq_s b i
  | 0, _ => rfl
  | i + 1, h => by
    show kq_s a i + a i = kq_s b i + b i
    rw [kq_sc i (fun j hj => h j (by omega)), h i (by omega)]
theorem kq_tc {a b : Nat → Nat} : ∀ n i, (∀ j, i ≤ j → a j = b j) → kq_t a n i = kq_t b n i
  | 0, _, _ => rfl
  | n + 1, i, h => by
    show a i + kq_t a n (i + 1) = b i + kq_t b n (i + 1)
    rw [kq_tc n (i + 1) (fun j hj => h j (by omega)), h i (Nat.le_refl _)]
theorem kq_st {c : Nat → Nat} : ∀ n i, kq_s c (i + n) = kq_s c i + kq_t c n i
  | 0, _ => rfl
  | n + 1, i => by
    rw [show i + (n + 1) = (i + 1) + n by omega, kq_st n (i + 1)]
    show kq_s c i + c i + kq_t c n (i + 1) = kq_s c i + (c i + kq_t c n (i + 1))
    omega
theorem kq_t0 {c : Nat → Nat} (n : Nat) : kq_t c n 0 = kq_s c n := by
  have h := kq_st (c := c) n 0
  rw [Nat.zero_add] at h
  have e : kq_s c 0 = 0 := rfl
  omega
/-- one below a place, another one from it on; a number at a place -/
def kq_jn (c : Nat → Nat) (j : Nat) (d : Nat → Nat) : Nat → Nat := fun l => if l < j then c l else d l
def kq_pt (j k : Nat) (d : Nat → Nat) : Nat → Nat := fun l => if l = j then k else d l
theorem kq_jnM {c d M : Nat → Nat} {j : Nat} (h : ∀ l, c l ≤ M l) (h2 : ∀ l, d l ≤ M l) : ∀ l, kq_jn c j d l ≤ M l := fun l => by
  unfold kq_jn
  split
  · exact h l
  · exact h2 l
theorem kq_ptM {d M : Nat → Nat} {j k : Nat} (h : k ≤ M j) (h2 : ∀ l, d l ≤ M l) : ∀ l, kq_pt j k d l ≤ M l := fun l => by
  unfold kq_pt
  split
  · next e => rw [e]; exact h
  · exact h2 l
theorem kq_jnS {c d : Nat → Nat} {G : Nat → Nat → Nat} {j sz : Nat} (h : j ≤ sz) : kq_s (fun l => G l (kq_jn c j d l)) sz = kq_s (fun l => G l (c l)) j + kq_t (fun l => G l (d l)) (sz - j) j := by
  have e := kq_st (c := fun l => G l (kq_jn c j d l)) (sz - j) j
  rw [show j + (sz - j) = sz by omega] at e
  rw [e, kq_sc (a := fun l => G l (kq_jn c j d l)) (b := fun l => G l (c l)) j (fun l hl => by
    show G l (kq_jn c j d l) = G l (c l)
    rw [show kq_jn c j d l = c l from if_pos hl]), kq_tc (a := fun l => G l (kq_jn c j d l)) (b := fun l => G l (d l)) (sz - j) j (fun l hl => by
    show G l (kq_jn c j d l) = G l (d l)
    rw [show kq_jn c j d l = d l from if_neg (by omega)])]
theorem kq_ptT {d : Nat → Nat} {G : Nat → Nat → Nat} {j k n : Nat} : kq_t (fun l => G l (kq_pt j k d l)) (n + 1) j = G j k + kq_t (fun l => G l (d l)) n (j + 1) := by
  show G j (kq_pt j k d j) + kq_t (fun l => G l (kq_pt j k d l)) n (j + 1) = _
  rw [show kq_pt j k d j = k from if_pos rfl, kq_tc (a := fun l => G l (kq_pt j k d l)) (b := fun l => G l (d l)) n (j + 1) (fun l hl => by
    show G l (kq_pt j k d l) = G l (d l)
    rw [show kq_pt j k d l = d l from if_neg (by omega)])]
theorem kq_Ch {W M Q : Nat → Nat} : ∀ i v x, kq_C W M Q i v = some x → ∃ c : Nat → Nat, (∀ j, c j ≤ M j) ∧ kq_s (fun j => c j * W j) i = v ∧ kq_s (fun j => c j * Q j) i = x
  | 0, v, x, h => by
    have h' : (if v = 0 then some 0 else none) = some x := h
    split at h'
    · next z =>
      have h2 : 0 = x := Option.some.inj h'
      exact ⟨fun _ => 0, fun _ => Nat.zero_le _, z.symm, h2⟩
    · cases h'
  | i + 1, v, x, h => by
    rw [kq_C1] at h
    obtain ⟨k, k1, k2, y, k3, k4⟩ := kq_has _ _ h
    obtain ⟨c, c1, c2, c3⟩ := kq_Ch i _ _ k3
    refine ⟨kq_jn c i (kq_pt i k (fun _ => 0)), kq_jnM c1 (kq_ptM k1 (fun _ => Nat.zero_le _)), ?_, ?_⟩
    · have e : kq_s (fun l => kq_jn c i (kq_pt i k (fun _ => 0)) l * W l) (i + 1) = kq_s (fun l => c l * W l) i + kq_t (fun l => kq_pt i k (fun _ => 0) l * W l) (i + 1 - i) i := kq_jnS (G := fun l a => a * W l) (by omega)
      have e2 : kq_t (fun l => kq_pt i k (fun _ => 0) l * W l) (0 + 1) i = k * W i + 0 := kq_ptT (d := fun _ => 0) (G := fun l a => a * W l) (n := 0)
      rw [show i + 1 - i = 0 + 1 by omega, e2] at e
      omega
    · have e : kq_s (fun l => kq_jn c i (kq_pt i k (fun _ => 0)) l * Q l) (i + 1) = kq_s (fun l => c l * Q l) i + kq_t (fun l => kq_pt i k (fun _ => 0) l * Q l) (i + 1 - i) i := kq_jnS (G := fun l a => a * Q l) (by omega)
      have e2 : kq_t (fun l => kq_pt i k (fun _ => 0) l * Q l) (0 + 1) i = k * Q i + 0 := kq_ptT (d := fun _ => 0) (G := fun l a => a * Q l) (n := 0)
      rw [show i + 1 - i = 0 + 1 by omega, e2] at e
      omega
theorem kq_Cm {W M Q c : Nat → Nat} (hc : ∀ j, c j ≤ M j) : ∀ i, ∃ x, kq_C W M Q i (kq_s (fun j => c j * W j) i) = some x ∧ x ≤ kq_s (fun j => c j * Q j) i
  | 0 => ⟨0, rfl, Nat.le_refl _⟩
  | i + 1 => by
    obtain ⟨y, y1, y2⟩ := kq_Cm (W := W) (Q := Q) hc i
    obtain ⟨x, x1, x2⟩ := kq_min (f := kq_C W M Q i) (q := Q i) (w := W i) (v := kq_s (fun j => c j * W j) i + c i * W i) (k := c i) (y := y) (Nat.le_add_left _ _) (by rw [Nat.add_sub_cancel]; exact y1) (M i) (hc i)
    refine ⟨x, x1, ?_⟩
    show x ≤ kq_s (fun j => c j * Q j) i + c i * Q i
    omega
theorem cF_has {sz : Nat} {W M : Nat → Nat} : ∀ d v x, d ≤ sz → cF sz W M d v = some x → ∃ c : Nat → Nat, (∀ j, c j ≤ M j) ∧ kq_t (fun j => c j * W j) d (sz - d) = v ∧ kq_t c d (sz - d) = x
  | 0, v, x, _, h => by
    have h' : (if v = 0 then some 0 else none) = some x := h
    split at h'
    · next z =>
      have h2 : 0 = x := Option.some.inj h'
      exact ⟨fun _ => 0, fun _ => Nat.zero_le _, z.symm, h2⟩
    · cases h'
  | d + 1, v, x, hd, h => by
    rw [cF1, ← kq_one] at h
    obtain ⟨k, k1, k2, y, k3, k4⟩ := kq_has _ _ h
    obtain ⟨c, c1, c2, c3⟩ := cF_has d _ _ (by omega) k3
    rw [show sz - d = sz - (d + 1) + 1 by omega] at c2 c3
    refine ⟨kq_pt (sz - (d + 1)) k c, kq_ptM k1 c1, ?_, ?_⟩
    · have e1 : kq_t (fun j => kq_pt (sz - (d + 1)) k c j * W j) (d + 1) (sz - (d + 1)) = k * W (sz - (d + 1)) + kq_t (fun j => c j * W j) d (sz - (d + 1) + 1) := kq_ptT (d := c) (G := fun l a => a * W l)
      omega
    · have e1 : kq_t (kq_pt (sz - (d + 1)) k c) (d + 1) (sz - (d + 1)) = k + kq_t c d (sz - (d + 1) + 1) := kq_ptT (d := c) (G := fun _ a => a)
      omega
theorem cF_min {sz : Nat} {W M c : Nat → Nat} (hc : ∀ j, c j ≤ M j) : ∀ d, d ≤ sz → ∃ x, cF sz W M d (kq_t (fun j => c j * W j) d (sz - d)) = some x ∧ x ≤ kq_t c d (sz - d)
  | 0, _ => ⟨0, rfl, Nat.le_refl _⟩
  | d + 1, hd => by
    obtain ⟨y, y1, y2⟩ := cF_min (W := W) (sz := sz) hc d (by omega)
    rw [show sz - d = sz - (d + 1) + 1 by omega] at y1 y2
    obtain ⟨x, x1, x2⟩ := kq_min (f := cF sz W M d) (q := 1) (w := W (sz - (d + 1))) (v := c (sz - (d + 1)) * W (sz - (d + 1)) + kq_t (fun j => c j * W j) d (sz - (d + 1) + 1)) (k := c (sz - (d + 1))) (y := y) (Nat.le_add_right _ _) (by rw [Nat.add_sub_cancel_left]; exact y1) (M (sz - (d + 1))) (hc _)
    rw [kq_one] at x1
    refine ⟨x, x1, ?_⟩
    show x ≤ c (sz - (d + 1)) + kq_t c d (sz - (d + 1) + 1)
    omega
theorem mo_max {f : Nat → Option Nat} {w v x : Nat} : ∀ K k, k ≤ K → k * w ≤ v → (f (v - k * w)).map (· + k) = some x → k ≤ mo f w v x K
  | 0, k, h, _, _ => Nat.le_trans h (Nat.zero_le _)
  | K + 1, k, h, h2, h3 => by
    rw [mo1]
    split
    · exact h
    · next e =>
      have hne : k ≠ K + 1 := fun z => e (by rw [← z]; exact ⟨h2, h3⟩)
      exact mo_max K k (by omega) h2 h3
/-! the digits -/
def kq_d (j : Nat) : Nat := 10 ^ (15 - j)
theorem kq_d1 {j : Nat} (h : j < 16) : 10 ^ (16 - j) = 10 * kq_d j := by
  unfold kq_d
  rw [show 16 - j = (15 - j) + 1 by omega, Nat.pow_succ, Nat.mul_comm]
theorem kq_dp (j : Nat) : 0 < kq_d j := Nat.pow_pos (by omega)
theorem kq_dle (j : Nat) : kq_d j ≤ 1000000000000000 := by
  have h : 10 ^ (15 - j) ≤ 10 ^ 15 := Nat.pow_le_pow_right (by omega) (by omega)
  exact h
def kq_Q (j : Nat) : Nat := 10000000000000000 - kq_d j
theorem kq_lt {c : Nat → Nat} (hc : ∀ j, c j ≤ 9) : ∀ n i, i + n ≤ 16 → kq_s (fun j => c j * kq_d j) (i + n) + 10 ^ (16 - (i + n)) ≤ kq_s (fun j => c j * kq_d j) i + 10 ^ (16 - i)
  | 0, i, _ => Nat.le_refl _
  | n + 1, i, h => by
    have ih := kq_lt hc n i (by omega)
    have h2 : c (i + n) * kq_d (i + n) ≤ 9 * kq_d (i + n) := Nat.mul_le_mul_right _ (hc _)
    have h3 : 10 ^ (16 - (i + (n + 1))) = kq_d (i + n) := by
      unfold kq_d
      rw [show 16 - (i + (n + 1)) = 15 - (i + n) by omega]
    rw [kq_d1 (j := i + n) (by omega)] at ih
    rw [h3]
    generalize 10 ^ (16 - i) = P at ih ⊢
    show kq_s (fun j => c j * kq_d j) (i + n) + c (i + n) * kq_d (i + n) + kq_d (i + n) ≤ _
    omega
theorem kq_mul {c : Nat → Nat} : ∀ i, i ≤ 16 → ∃ m, kq_s (fun j => c j * kq_d j) i = m * 10 ^ (16 - i)
  | 0, _ => ⟨0, by rw [Nat.zero_mul]; rfl⟩
  | i + 1, h => by
    obtain ⟨m, hm⟩ := kq_mul (c := c) i (by omega)
    refine ⟨10 * m + c i, ?_⟩
    have h3 : 10 ^ (16 - (i + 1)) = kq_d i := by
      unfold kq_d
      rw [show 16 - (i + 1) = 15 - i by omega]
    rw [h3]
    show kq_s (fun j => c j * kq_d j) i + c i * kq_d i = (10 * m + c i) * kq_d i
    rw [hm, kq_d1 (by omega), Nat.add_mul, Nat.mul_comm 10 m, Nat.mul_assoc]
theorem kq_cost {c : Nat → Nat} : ∀ i, kq_s (fun j => c j * kq_Q j) i + kq_s (fun j => c j * kq_d j) i = kq_s c i * 10000000000000000
  | 0 => by
    show 0 + 0 = 0 * 10000000000000000
    rw [Nat.zero_mul]
  | i + 1 => by
    have ih := kq_cost (c := c) i
    have h0 : kq_Q i + kq_d i = 10000000000000000 := by
      have := kq_dle i
      unfold kq_Q
      omega
    have h : c i * kq_Q i + c i * kq_d i = c i * 10000000000000000 := by
      rw [← Nat.mul_add, h0]
    show kq_s (fun j => c j * kq_Q j) i + c i * kq_Q i + (kq_s (fun j => c j * kq_d j) i + c i * kq_d i) = (kq_s c i + c i) * 10000000000000000
    rw [Nat.add_mul]
    omega
theorem kq_Cle {W M : Nat → Nat} (hM : ∀ i, M i ≤ 9) : ∀ i v x, kq_C W M kq_Q i v = some x → x ≤ 90000000000000000 * i
  | 0, v, x, h => by
    have h' : (if v = 0 then some 0 else none) = some x := h
    split at h'
    · have h2 : 0 = x := Option.some.inj h'
      omega
    · cases h'
  | i + 1, v, x, h => by
    rw [kq_C1] at h
    obtain ⟨k, k1, k2, y, k3, k4⟩ := kq_has _ _ h
    have h1 := kq_Cle hM i _ _ k3
    have h2 : k * kq_Q i ≤ 9 * 10000000000000000 := Nat.mul_le_mul (Nat.le_trans k1 (hM i)) (Nat.sub_le _ _)
    omega
/-- what is paid at least cost is what is paid with fewest, most of coin 0 first -/
theorem kq_none {sz n : Nat} {W M : Nat → Nat} (h : kq_C W M kq_Q sz n = none) : cF sz W M sz n = none := by
  cases e : cF sz W M sz n with
  | none => rfl
  | some x =>
    obtain ⟨c, c1, c2, c3⟩ := cF_has sz n x (Nat.le_refl _) e
    obtain ⟨y, y1, y2⟩ := kq_Cm (W := W) (Q := kq_Q) c1 sz
    rw [Nat.sub_self, kq_t0] at c2
    rw [c2, h] at y1
    cases y1
theorem kq_suf {sz n : Nat} {W M c : Nat → Nat} (c1 : ∀ j, c j ≤ M j) (c2 : kq_s (fun j => c j * W j) sz = n) (hN : cF sz W M sz n = some (kq_s c sz)) {j : Nat} (hj : j ≤ sz) : cF sz W M (sz - j) (kq_t (fun j => c j * W j) (sz - j) j) = some (kq_t c (sz - j) j) := by
  obtain ⟨x, x1, x2⟩ := cF_min (W := W) (sz := sz) c1 (sz - j) (by omega)
  rw [show sz - (sz - j) = j by omega] at x1 x2
  by_cases e : x = kq_t c (sz - j) j
  · rw [x1, e]
  · obtain ⟨b, b1, b2, b3⟩ := cF_has (sz - j) _ _ (by omega) x1
    rw [show sz - (sz - j) = j by omega] at b2 b3
    have s1 := kq_st (c := fun j => c j * W j) (sz - j) j
    have s2 := kq_st (c := c) (sz - j) j
    rw [show j + (sz - j) = sz by omega] at s1 s2
    have s3 : kq_s (fun l => kq_jn c j b l * W l) sz = kq_s (fun l => c l * W l) j + kq_t (fun l => b l * W l) (sz - j) j := kq_jnS (G := fun l a => a * W l) hj
    have s4 : kq_s (kq_jn c j b) sz = kq_s c j + kq_t b (sz - j) j := kq_jnS (G := fun _ a => a) hj
    obtain ⟨z, z1, z2⟩ := cF_min (W := W) (sz := sz) (kq_jnM (j := j) c1 b1) sz (Nat.le_refl _)
    rw [Nat.sub_self, kq_t0, s4, b3] at z2
    rw [Nat.sub_self, kq_t0, s3, b2, ← s1, c2, hN] at z1
    have z3 : kq_s c sz = z := Option.some.inj z1
    exfalso
    omega
theorem kq_cm {sz n y : Nat} {W M c : Nat → Nat} (hsz : sz ≤ 16) (hM : ∀ i, M i ≤ 9) (h : kq_C W M kq_Q sz n = some y) (c1 : ∀ j, c j ≤ M j) (c2 : kq_s (fun j => c j * W j) sz = n) (c3 : kq_s (fun j => c j * kq_Q j) sz = y) (hN : cF sz W M sz n = some (kq_s c sz)) {j : Nat} (hj : j < sz) : cm sz W M j (kq_t (fun j => c j * W j) (sz - j) j) = c j := by
  have hA := kq_suf c1 c2 hN (j := j) (by omega)
  have hB := kq_suf c1 c2 hN (j := j + 1) (by omega)
  have tW : kq_t (fun j => c j * W j) (sz - j) j = c j * W j + kq_t (fun j => c j * W j) (sz - (j + 1)) (j + 1) := by
    rw [show sz - j = (sz - (j + 1)) + 1 by omega]
    rfl
  have tN : kq_t c (sz - j) j = c j + kq_t c (sz - (j + 1)) (j + 1) := by
    rw [show sz - j = (sz - (j + 1)) + 1 by omega]
    rfl
  obtain ⟨g1, g2, g3⟩ := cm_sp hj hA
  apply Nat.le_antisymm
  · apply Nat.le_of_not_lt
    intro hlt
    generalize cm sz W M j (kq_t (fun j => c j * W j) (sz - j) j) = k at g1 g2 g3 hlt
    cases e : cF sz W M (sz - (j + 1)) (kq_t (fun j => c j * W j) (sz - j) j - k * W j) with
    | none =>
      rw [e] at g3
      cases g3
    | some x =>
      rw [e] at g3
      have g4 : x + k = kq_t c (sz - j) j := Option.some.inj g3
      obtain ⟨b, b1, b2, b3⟩ := cF_has (sz - (j + 1)) _ _ (by omega) e
      rw [show sz - (sz - (j + 1)) = j + 1 by omega] at b2 b3
      have s1 := kq_st (c := fun j => c j * W j) (sz - j) j
      have s2 := kq_st (c := c) (sz - j) j
      rw [show j + (sz - j) = sz by omega] at s1 s2
      have s3 : kq_s (fun l => kq_jn c j (kq_pt j k b) l * W l) sz = kq_s (fun l => c l * W l) j + kq_t (fun l => kq_pt j k b l * W l) (sz - j) j := kq_jnS (G := fun l a => a * W l) (by omega)
      have s4 : kq_s (kq_jn c j (kq_pt j k b)) sz = kq_s c j + kq_t (kq_pt j k b) (sz - j) j := kq_jnS (G := fun _ a => a) (by omega)
      have s5 : kq_s (fun l => kq_jn c j (kq_pt j k b) l * kq_d l) sz = kq_s (fun l => c l * kq_d l) j + kq_t (fun l => kq_pt j k b l * kq_d l) (sz - j) j := kq_jnS (G := fun l a => a * kq_d l) (by omega)
      have t3 : kq_t (fun l => kq_pt j k b l * W l) (sz - (j + 1) + 1) j = k * W j + kq_t (fun l => b l * W l) (sz - (j + 1)) (j + 1) := kq_ptT (G := fun l a => a * W l)
      have t4 : kq_t (kq_pt j k b) (sz - (j + 1) + 1) j = k + kq_t b (sz - (j + 1)) (j + 1) := kq_ptT (G := fun _ a => a)
      have t5 : kq_t (fun l => kq_pt j k b l * kq_d l) (sz - (j + 1) + 1) j = k * kq_d j + kq_t (fun l => b l * kq_d l) (sz - (j + 1)) (j + 1) := kq_ptT (G := fun l a => a * kq_d l)
      rw [show sz - (j + 1) + 1 = sz - j by omega] at t3 t4 t5
      obtain ⟨z, z1, z2⟩ := kq_Cm (W := W) (Q := kq_Q) (kq_jnM (j := j) c1 (kq_ptM g1 b1)) sz
      have hs : kq_s (fun l => kq_jn c j (kq_pt j k b) l * W l) sz = n := by
        rw [s3, t3, b2, ← c2, s1]
        omega
      rw [hs, h] at z1
      have z3 : y = z := Option.some.inj z1
      have q1 := kq_cost (c := kq_jn c j (kq_pt j k b)) sz
      have q2 := kq_cost (c := c) sz
      have q3 := kq_lt (c := c) (fun l => Nat.le_trans (c1 l) (hM l)) (sz - (j + 1)) (j + 1) (by omega)
      rw [show j + 1 + (sz - (j + 1)) = sz by omega] at q3
      have q4 : kq_s (fun l => c l * kq_d l) (j + 1) = kq_s (fun l => c l * kq_d l) j + c j * kq_d j := rfl
      have q5 : 10 ^ (16 - (j + 1)) = kq_d j := by
        unfold kq_d
        rw [show 16 - (j + 1) = 15 - j by omega]
      have q6 : (c j + 1) * kq_d j ≤ k * kq_d j := Nat.mul_le_mul_right _ hlt
      rw [Nat.add_mul, Nat.one_mul] at q6
      have q7 : 0 < 10 ^ (16 - sz) := Nat.pow_pos (by omega)
      have q8 : kq_s (kq_jn c j (kq_pt j k b)) sz = kq_s c sz := by
        rw [s4, t4, b3, s2]
        omega
      rw [q8] at q1
      rw [q5, q4] at q3
      rw [t5] at s5
      generalize 10 ^ (16 - sz) = P at q3 q7
      omega
  · unfold cm
    rw [hA]
    show c j ≤ mo _ _ _ (kq_t c (sz - j) j) _
    refine mo_max (M j) (c j) (c1 j) (by rw [tW]; exact Nat.le_add_right _ _) ?_
    rw [show kq_t (fun j => c j * W j) (sz - j) j - c j * W j = kq_t (fun j => c j * W j) (sz - (j + 1)) (j + 1) by rw [tW]; exact Nat.add_sub_cancel_left _ _, hB, tN, Nat.add_comm (c j)]
    rfl
theorem kq_ct {sz n y : Nat} {W M c : Nat → Nat} (hsz : sz ≤ 16) (hM : ∀ i, M i ≤ 9) (h : kq_C W M kq_Q sz n = some y) (c1 : ∀ j, c j ≤ M j) (c2 : kq_s (fun j => c j * W j) sz = n) (c3 : kq_s (fun j => c j * kq_Q j) sz = y) (hN : cF sz W M sz n = some (kq_s c sz)) : ∀ k j, j + k < sz → ct sz W M k j (kq_t (fun j => c j * W j) (sz - j) j) = c (j + k)
  | 0, j, hj => kq_cm hsz hM h c1 c2 c3 hN hj
  | k + 1, j, hj => by
    show ct sz W M k (j + 1) (kq_t (fun j => c j * W j) (sz - j) j - cm sz W M j (kq_t (fun j => c j * W j) (sz - j) j) * W j) = c (j + (k + 1))
    rw [kq_cm hsz hM h c1 c2 c3 hN (by omega)]
    have tW : kq_t (fun j => c j * W j) (sz - j) j = c j * W j + kq_t (fun j => c j * W j) (sz - (j + 1)) (j + 1) := by
      rw [show sz - j = (sz - (j + 1)) + 1 by omega]
      rfl
    rw [tW, Nat.add_sub_cancel_left, kq_ct hsz hM h c1 c2 c3 hN k (j + 1) (by omega)]
    congr 1
    omega
theorem kq_main {sz n y : Nat} {W M : Nat → Nat} (hsz : sz ≤ 16) (hM : ∀ i, M i ≤ 9) (h : kq_C W M kq_Q sz n = some y) : ∃ x D, cF sz W M sz n = some x ∧ y + D = x * 10000000000000000 ∧ D < 10000000000000000 ∧ ∀ i, i < sz → D / kq_d i % 10 = ct sz W M i 0 n := by
  obtain ⟨c, c1, c2, c3⟩ := kq_Ch sz n y h
  have c9 : ∀ j, c j ≤ 9 := fun j => Nat.le_trans (c1 j) (hM j)
  have q2 := kq_cost (c := c) sz
  have q3 := kq_lt c9 sz 0 (by omega)
  rw [Nat.zero_add] at q3
  have e0 : kq_s (fun j => c j * kq_d j) 0 = 0 := rfl
  have e16 : 10 ^ (16 - 0) = 10000000000000000 := by decide
  have q7 : 0 < 10 ^ (16 - sz) := Nat.pow_pos (by omega)
  have hD : kq_s (fun j => c j * kq_d j) sz < 10000000000000000 := by
    rw [e0, e16] at q3
    generalize 10 ^ (16 - sz) = P at q3 q7
    omega
  obtain ⟨x, x1, x2⟩ := cF_min (W := W) (sz := sz) c1 sz (Nat.le_refl _)
  rw [Nat.sub_self, kq_t0] at x1 x2
  rw [c2] at x1
  obtain ⟨b, b1, b2, b3⟩ := cF_has sz n x (Nat.le_refl _) x1
  rw [Nat.sub_self, kq_t0] at b2 b3
  obtain ⟨z, z1, z2⟩ := kq_Cm (W := W) (Q := kq_Q) b1 sz
  rw [b2, h] at z1
  have z3 : y = z := Option.some.inj z1
  have q1 := kq_cost (c := b) sz
  have hx : x = kq_s c sz := by
    rw [b3] at q1
    omega
  rw [hx] at x1
  refine ⟨kq_s c sz, kq_s (fun j => c j * kq_d j) sz, x1, by omega, hD, fun i hi => ?_⟩
  have hc := kq_ct hsz hM h c1 c2 c3 x1 i 0 (by omega)
  rw [Nat.zero_add, Nat.sub_zero, kq_t0, c2] at hc
  rw [hc]
  obtain ⟨m, hm⟩ := kq_mul (c := c) i (by omega)
  have p3 := kq_lt c9 (sz - (i + 1)) (i + 1) (by omega)
  have p4 := kq_st (c := fun j => c j * kq_d j) (sz - (i + 1)) (i + 1)
  rw [show i + 1 + (sz - (i + 1)) = sz by omega] at p3 p4
  have p5 : kq_s (fun l => c l * kq_d l) (i + 1) = kq_s (fun l => c l * kq_d l) i + c i * kq_d i := rfl
  have p6 : 10 ^ (16 - (i + 1)) = kq_d i := by
    unfold kq_d
    rw [show 16 - (i + 1) = 15 - i by omega]
  have p7 : (m * 10 + c i) * kq_d i = kq_s (fun l => c l * kq_d l) (i + 1) := by
    rw [p5, hm, kq_d1 (by omega), Nat.add_mul, Nat.mul_assoc]
  have p8 : kq_s (fun j => c j * kq_d j) sz / kq_d i = m * 10 + c i := by
    refine Nat.div_eq_of_lt_le ?_ ?_
    · rw [p7]
      omega
    · rw [Nat.add_mul (m * 10 + c i) 1, p7, Nat.one_mul]
      rw [p6] at p3
      generalize 10 ^ (16 - sz) = P at p3 q7
      omega
  rw [p8]
  have := c9 i
  omega

