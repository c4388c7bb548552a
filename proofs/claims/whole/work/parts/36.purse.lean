/-! WITH COINS -/
def co_n : Option Nat → Option Nat → Option Nat
  | none, b => b
  | some a, none => some a
  | some a, some b => some (min a b)
def co_m (f : Nat → Option Nat) (w v : Nat) : Nat → Option Nat
  | 0 => f v
  | k + 1 => if (k + 1) * w ≤ v then co_n (co_m f w v k) ((f (v - (k + 1) * w)).map (· + (k + 1))) else co_m f w v k
theorem co_m1 {f : Nat → Option Nat} {w v k : Nat} : co_m f w v (k + 1) = if (k + 1) * w ≤ v then co_n (co_m f w v k) ((f (v - (k + 1) * w)).map (· + (k + 1))) else co_m f w v k := rfl
def en (Z : Nat) (o : Option Nat) : Nat := match o with
  | none => Z
  | some x => x
theorem en_min {Z c : Nat} {a b : Option Nat} (ha : ∀ x, a = some x → x ≤ Z) (hb : ∀ y, b = some y → y + c ≤ Z) : en Z (co_n a (b.map (· + c))) = min (en Z a) (en Z b + c) := by
  cases a with
  | none =>
    cases b with
    | none =>
      show Z = min Z (Z + c)
      omega
    | some y =>
      have := hb y rfl
      show y + c = min Z (y + c)
      omega
  | some z =>
    have := ha z rfl
    cases b with
    | none =>
      show z = min z (Z + c)
      omega
    | some y => rfl
theorem co_stop {f : Nat → Option Nat} {w v k : Nat} (h : v < (k + 1) * w) : ∀ K, k ≤ K → co_m f w v K = co_m f w v k
  | 0, hK => by rw [show k = 0 by omega]
  | K + 1, hK => by
    by_cases e : k = K + 1
    · rw [e]
    · have h2 : (k + 1) * w ≤ (K + 1) * w := Nat.mul_le_mul_right w (by omega)
      rw [co_m1, if_neg (by omega)]
      exact co_stop h K (by omega)
theorem co_le {f : Nat → Option Nat} {w v B : Nat} (hf : ∀ u y, f u = some y → y ≤ B) : ∀ K x, co_m f w v K = some x → x ≤ B + K
  | 0, x, h => hf v x h
  | K + 1, x, h => by
    rw [co_m1] at h
    split at h
    · have h1 := co_le (w := w) (v := v) hf K
      cases ha : co_m f w v K with
      | none =>
        rw [ha] at h
        cases hb : f (v - (K + 1) * w) with
        | none => rw [hb] at h; cases h
        | some y =>
          rw [hb] at h
          have h2 := hf _ y hb
          have h3 : y + (K + 1) = x := Option.some.inj h
          omega
      | some z =>
        rw [ha] at h
        have h4 := h1 z ha
        cases hb : f (v - (K + 1) * w) with
        | none =>
          rw [hb] at h
          have h3 : z = x := Option.some.inj h
          omega
        | some y =>
          rw [hb] at h
          have h2 := hf _ y hb
          have h3 : min z (y + (K + 1)) = x := Option.some.inj h
          omega
    · have := co_le hf K x h
      omega
theorem co_has {f : Nat → Option Nat} {w v : Nat} : ∀ K x, co_m f w v K = some x → ∃ k, k ≤ K ∧ k * w ≤ v ∧ (f (v - k * w)).map (· + k) = some x
  | 0, x, h => ⟨0, Nat.le_refl _, by rw [Nat.zero_mul]; exact Nat.zero_le _, by
      rw [Nat.zero_mul, Nat.sub_zero, show f v = some x from h]
      rfl⟩
  | K + 1, x, h => by
    have ih := co_has (f := f) (w := w) (v := v) K
    rw [co_m1] at h
    split at h
    · next hle =>
      cases ha : co_m f w v K with
      | none =>
        rw [ha] at h
        exact ⟨K + 1, Nat.le_refl _, hle, h⟩
      | some z =>
        rw [ha] at h
        cases hb : (f (v - (K + 1) * w)).map (· + (K + 1)) with
        | none =>
          rw [hb] at h
          have h3 : z = x := Option.some.inj h
          subst h3
          obtain ⟨k, k1, k2, k3⟩ := ih z ha
          exact ⟨k, by omega, k2, k3⟩
        | some y =>
          rw [hb] at h
          have h3 : min z y = x := Option.some.inj h
          by_cases e : z ≤ y
          · rw [Nat.min_eq_left e] at h3
            subst h3
            obtain ⟨k, k1, k2, k3⟩ := ih z ha
            exact ⟨k, by omega, k2, k3⟩
          · rw [Nat.min_eq_right (by omega)] at h3
            subst h3
            exact ⟨K + 1, Nat.le_refl _, hle, hb⟩
    · obtain ⟨k, k1, k2, k3⟩ := ih x h
      exact ⟨k, by omega, k2, k3⟩
/-- the most of a coin that can be in fewest -/
def mo (f : Nat → Option Nat) (w v x : Nat) : Nat → Nat
  | 0 => 0
  | c + 1 => if (c + 1) * w ≤ v ∧ (f (v - (c + 1) * w)).map (· + (c + 1)) = some x then c + 1 else mo f w v x c
theorem mo1 {f : Nat → Option Nat} {w v x c : Nat} : mo f w v x (c + 1) = if (c + 1) * w ≤ v ∧ (f (v - (c + 1) * w)).map (· + (c + 1)) = some x then c + 1 else mo f w v x c := rfl
theorem mo_sp {f : Nat → Option Nat} {w v x : Nat} : ∀ K, (∃ k, k ≤ K ∧ k * w ≤ v ∧ (f (v - k * w)).map (· + k) = some x) → mo f w v x K ≤ K ∧ mo f w v x K * w ≤ v ∧ (f (v - mo f w v x K * w)).map (· + mo f w v x K) = some x
  | 0, ⟨k, k1, k2, k3⟩ => by
    have e : k = 0 := by omega
    subst e
    exact ⟨Nat.le_refl _, k2, k3⟩
  | K + 1, ⟨k, k1, k2, k3⟩ => by
    rw [mo1]
    by_cases e : (K + 1) * w ≤ v ∧ (f (v - (K + 1) * w)).map (· + (K + 1)) = some x
    · rw [if_pos e]
      exact ⟨Nat.le_refl _, e.1, e.2⟩
    · rw [if_neg e]
      have hne : k ≠ K + 1 := fun z => e (by rw [← z]; exact ⟨k2, k3⟩)
      obtain ⟨g1, g2, g3⟩ := mo_sp K ⟨k, by omega, k2, k3⟩
      exact ⟨by omega, g2, g3⟩
theorem en_eq {Z c x : Nat} {b : Option Nat} (hx : x < Z) : en Z b + c = x ↔ b.map (· + c) = some x := by
  cases b with
  | none =>
    constructor
    · intro h
      have : Z + c = x := h
      omega
    · intro h
      cases h
  | some y =>
    constructor
    · intro h
      have : y + c = x := h
      rw [← this]
      rfl
    · intro h
      exact Option.some.inj h
def cF (sz : Nat) (W M : Nat → Nat) : Nat → Nat → Option Nat
  | 0 => fun v => if v = 0 then some 0 else none
  | d + 1 => fun v => co_m (cF sz W M d) (W (sz - (d + 1))) v (M (sz - (d + 1)))
theorem cF1 {sz : Nat} {W M : Nat → Nat} {d v : Nat} : cF sz W M (d + 1) v = co_m (cF sz W M d) (W (sz - (d + 1))) v (M (sz - (d + 1))) := rfl
theorem cF_le {sz : Nat} {W M : Nat → Nat} (hM : ∀ i, M i ≤ 9) : ∀ d u y, cF sz W M d u = some y → y ≤ 9 * d
  | 0, u, y, h => by
    have h' : (if u = 0 then some 0 else none) = some y := h
    split at h'
    · have := Option.some.inj h'
      omega
    · cases h'
  | d + 1, u, y, h => by
    rw [cF1] at h
    have h1 := co_le (cF_le hM d) _ _ h
    have h2 := hM (sz - (d + 1))
    omega
theorem cF_i {sz i : Nat} (h : i < sz) {W M : Nat → Nat} {v : Nat} : cF sz W M (sz - i) v = co_m (cF sz W M (sz - (i + 1))) (W i) v (M i) := by
  rw [show sz - i = (sz - (i + 1)) + 1 by omega, cF1, show sz - (sz - (i + 1) + 1) = i by omega]
def cm (sz : Nat) (W M : Nat → Nat) (j left : Nat) : Nat := mo (cF sz W M (sz - (j + 1))) (W j) left (en 0 (cF sz W M (sz - j) left)) (M j)
def ct (sz : Nat) (W M : Nat → Nat) : Nat → Nat → Nat → Nat
  | 0, j, left => cm sz W M j left
  | k + 1, j, left => ct sz W M k (j + 1) (left - cm sz W M j left * W j)
/-- a coin's place: what is taken, what is left can be paid -/
theorem cm_sp {sz : Nat} {W M : Nat → Nat} {j left x : Nat} (hj : j < sz) (h : cF sz W M (sz - j) left = some x) : cm sz W M j left ≤ M j ∧ cm sz W M j left * W j ≤ left ∧ (cF sz W M (sz - (j + 1)) (left - cm sz W M j left * W j)).map (· + cm sz W M j left) = some x := by
  unfold cm
  rw [h]
  rw [cF_i hj] at h
  exact mo_sp _ (co_has _ _ h)
theorem cm_ne {sz : Nat} {W M : Nat → Nat} {j left x : Nat} (hj : j < sz) (h : cF sz W M (sz - j) left = some x) : ∃ y, cF sz W M (sz - (j + 1)) (left - cm sz W M j left * W j) = some y := by
  have h1 := (cm_sp hj h).2.2
  cases e : cF sz W M (sz - (j + 1)) (left - cm sz W M j left * W j) with
  | none => rw [e] at h1; cases h1
  | some y => exact ⟨y, rfl⟩
def cnv (sz : Nat) (W M : Nat → Nat) (n : Nat) (i : Int32) : Int32 := match cF sz W M sz n with
  | none => -2
  | some x => if i = -1 then nI x else nI (ct sz W M i.toNatClampNeg 0 n)
def cnW (L : lg_L) (i : Nat) : Nat := lgD L (64 + i)
def cnM (P : Nat → Bool) (L : lg_L) (i : Nat) : Nat := if i < 16 then (if P (lgD L (64 + i)) = true then lgD L (80 + i) else 0) else 0
theorem cnM_le {P : Nat → Bool} {L : lg_L} (hi : lg_in L) (i : Nat) : cnM P L i ≤ 9 := by
  unfold cnM
  split
  · next h =>
    split
    · exact (lg_inD hi (p := 80 + i) (by omega)).2.2.2.2 (by omega)
    · exact Nat.zero_le _
  · exact Nat.zero_le _
theorem cnW_le {L : lg_L} (hi : lg_in L) {i : Nat} (h : i < 16) : cnW L i ≤ 999 := (lg_inD hi (p := 64 + i) (by omega)).2.2.2.1 (by omega)
theorem cnM_c {P P' : Nat → Bool} {L : lg_L} (hi : lg_in L) (e : ∀ a, a ≤ 9999 → P a = P' a) : cnM P L = cnM P' L := by
  funext i
  unfold cnM
  split
  · next h => rw [e _ (lg_inD hi (p := 64 + i) (by omega)).2.1]
  · rfl

