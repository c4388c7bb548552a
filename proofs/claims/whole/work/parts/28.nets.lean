/-! SETTLED: nets as whole numbers -/
def xz (z : Int) : Int32 := Int32.ofInt z
theorem xz_toInt {z : Int} (h1 : -2147483648 ≤ z) (h2 : z < 2147483648) : (xz z).toInt = z := by
  unfold xz
  rw [Int32.toInt_ofInt, show Int32.size = 4294967296 from rfl]
  exact Int.bmod_eq_of_le_mul_two (by omega) (by omega)
theorem xz_add (a b : Int) : xz a + xz b = xz (a + b) := (Int32.ofInt_add a b).symm
theorem xz_sub (a b : Int) : xz a - xz b = xz (a - b) := (Int32.ofInt_sub a b).symm
theorem xz_neg (a : Int) : -xz a = xz (-a) := (Int32.ofInt_neg a).symm
theorem xz_lt {a b : Int} (h1 : -2147483648 ≤ a ∧ a < 2147483648) (h2 : -2147483648 ≤ b ∧ b < 2147483648) : xz a < xz b ↔ a < b := by
  rw [Int32.lt_iff_toInt_lt, xz_toInt h1.1 h1.2, xz_toInt h2.1 h2.2]
theorem xz_le {a b : Int} (h1 : -2147483648 ≤ a ∧ a < 2147483648) (h2 : -2147483648 ≤ b ∧ b < 2147483648) : xz a ≤ xz b ↔ a ≤ b := by
  rw [Int32.le_iff_toInt_le, xz_toInt h1.1 h1.2, xz_toInt h2.1 h2.2]
theorem xz_nI (n : Nat) : nI n = xz n := rfl
theorem xz_nat {z : Int} (h : 0 ≤ z) : xz z = nI z.toNat := by
  obtain ⟨n, rfl⟩ := Int.eq_ofNat_of_zero_le h
  rfl
theorem xz_0 : (0 : Int32) = xz 0 := rfl
/-- the first of the least, the first of the greatest -/
def sa_m (e : Nat → Int) : Nat → Nat → Nat → Nat
  | 0, _, i => i
  | f + 1, p, i => sa_m e f (p + 1) (if e p < e i then p else i)
def sa_x (e : Nat → Int) : Nat → Nat → Nat → Nat
  | 0, _, i => i
  | f + 1, p, i => sa_x e f (p + 1) (if e i < e p then p else i)
theorem sa_mI {e : Nat → Int} : ∀ (f p i : Nat), i < p → (∀ q, q < p → e i ≤ e q) → sa_m e f p i < p + f ∧ ∀ q, q < p + f → e (sa_m e f p i) ≤ e q
  | 0, p, i, hi, h => ⟨hi, h⟩
  | f + 1, p, i, hi, h => by
    have h1 := sa_mI (e := e) f (p + 1) (if e p < e i then p else i) (by split <;> omega) (fun q hq => by
      by_cases z : e p < e i
      · rw [if_pos z]
        by_cases y : q = p
        · rw [y]; exact Int.le_refl _
        · have := h q (by omega); omega
      · rw [if_neg z]
        by_cases y : q = p
        · rw [y]; omega
        · exact h q (by omega))
    rw [show p + 1 + f = p + (f + 1) by omega] at h1
    exact h1
theorem sa_xI {e : Nat → Int} : ∀ (f p i : Nat), i < p → (∀ q, q < p → e q ≤ e i) → sa_x e f p i < p + f ∧ ∀ q, q < p + f → e q ≤ e (sa_x e f p i)
  | 0, p, i, hi, h => ⟨hi, h⟩
  | f + 1, p, i, hi, h => by
    have h1 := sa_xI (e := e) f (p + 1) (if e i < e p then p else i) (by split <;> omega) (fun q hq => by
      by_cases z : e i < e p
      · rw [if_pos z]
        by_cases y : q = p
        · rw [y]; exact Int.le_refl _
        · have := h q (by omega); omega
      · rw [if_neg z]
        by_cases y : q = p
        · rw [y]; omega
        · exact h q (by omega))
    rw [show p + 1 + f = p + (f + 1) by omega] at h1
    exact h1
def sa_i (e : Nat → Int) : Nat := sa_m e 7 1 0
def sa_j (e : Nat → Int) : Nat := sa_x e 7 1 0
theorem sa_iI (e : Nat → Int) : sa_i e < 8 ∧ ∀ q, q < 8 → e (sa_i e) ≤ e q := sa_mI 7 1 0 (by omega) (fun q hq => by rw [show q = 0 by omega]; exact Int.le_refl _)
theorem sa_jI (e : Nat → Int) : sa_j e < 8 ∧ ∀ q, q < 8 → e q ≤ e (sa_j e) := sa_xI 7 1 0 (by omega) (fun q hq => by rw [show q = 0 by omega]; exact Int.le_refl _)
def sa_v (e : Nat → Int) : Int := if e (sa_j e) < -e (sa_i e) then e (sa_j e) else -e (sa_i e)
def sa_up (e : Nat → Int) (i : Nat) (x : Int) : Nat → Int := fun p => if p = i then x else e p
def sa_e (e : Nat → Int) : Nat → Int := sa_up (sa_up e (sa_i e) (e (sa_i e) + sa_v e)) (sa_j e) (e (sa_j e) - sa_v e)
def sa_s (e : Nat → Int) : Nat → Int
  | 0 => 0
  | n + 1 => sa_s e n + e n
theorem sa_su {e : Nat → Int} {i : Nat} {x : Int} : ∀ n, sa_s (sa_up e i x) n = sa_s e n + (if i < n then x - e i else 0)
  | 0 => rfl
  | n + 1 => by
    unfold sa_s
    rw [sa_su n]
    unfold sa_up
    by_cases h : n = i
    · subst h
      rw [if_neg (Nat.lt_irrefl _), if_pos (Nat.lt_succ_self _), if_pos rfl]
      omega
    · rw [if_neg h]
      by_cases g : i < n
      · rw [if_pos g, if_pos (by omega)]; omega
      · rw [if_neg g, if_neg (by omega)]; omega
theorem sa_sp {e : Nat → Int} : ∀ n, (∀ p, p < n → 0 ≤ e p) → 0 ≤ sa_s e n
  | 0, _ => Int.le_refl _
  | n + 1, h => by
    have h1 := sa_sp n (fun p hp => h p (by omega))
    have h2 := h n (by omega)
    unfold sa_s
    omega
theorem sa_sz {e : Nat → Int} : ∀ n, (∀ p, p < n → 0 ≤ e p) → sa_s e n = 0 → ∀ p, p < n → e p = 0
  | 0, _, _, p, hp => by omega
  | n + 1, h, h0, p, hp => by
    unfold sa_s at h0
    have h1 := sa_sp n (fun p hp => h p (by omega))
    have h2 := h n (by omega)
    by_cases z : p = n
    · rw [z]; omega
    · exact sa_sz n (fun p hp => h p (by omega)) (by omega) p (by omega)
theorem sa_sn {e : Nat → Int} {q : Nat} (hq : e q < 0) : ∀ n, q < n → (∀ p, p < n → e p ≤ 0) → sa_s e n < 0
  | 0, h, _ => by omega
  | n + 1, h, h1 => by
    unfold sa_s
    have h2 := h1 n (by omega)
    by_cases z : q = n
    · subst z
      have h3 : ∀ m, m ≤ q → sa_s e m ≤ 0 := by
        intro m
        induction m with
        | zero => intro _; exact Int.le_refl _
        | succ m ih =>
          intro hm
          have a1 := ih (by omega)
          have a2 := h1 m (by omega)
          unfold sa_s
          omega
      have := h3 q (Nat.le_refl _)
      omega
    · have := sa_sn hq n (by omega) (fun p hp => h1 p (by omega))
      omega
/-- nets that sum up to nothing, in their bounds -/
def sa_ok (e : Nat → Int) : Prop := sa_s e 8 = 0 ∧ ∀ p, p < 8 → -100000 ≤ e p ∧ e p ≤ 100000
theorem sa_pos {e : Nat → Int} (h : sa_ok e) (hi : e (sa_i e) < 0) : 0 < e (sa_j e) := by
  apply Int.lt_of_not_ge
  intro z
  have h1 := sa_sn hi 8 (sa_iI e).1 (fun p hp => Int.le_trans ((sa_jI e).2 p hp) z)
  have := h.1
  omega
theorem sa_zer {e : Nat → Int} (h : sa_ok e) (hi : ¬ e (sa_i e) < 0) : ∀ p, p < 8 → e p = 0 := sa_sz 8 (fun p hp => by have := (sa_iI e).2 p hp; omega) h.1
theorem sa_vz {e : Nat → Int} (h : sa_ok e) (hi : ¬ e (sa_i e) < 0) : sa_v e = 0 := by
  have h1 := sa_zer h hi _ (sa_iI e).1
  have h2 := sa_zer h hi _ (sa_jI e).1
  unfold sa_v
  rw [h1, h2]
  rfl
theorem sa_vp {e : Nat → Int} (h : sa_ok e) (hi : e (sa_i e) < 0) : 0 < sa_v e ∧ sa_v e ≤ 100000 ∧ sa_v e ≤ -e (sa_i e) ∧ sa_v e ≤ e (sa_j e) ∧ (sa_v e = -e (sa_i e) ∨ sa_v e = e (sa_j e)) := by
  have h1 := sa_pos h hi
  have h2 := h.2 _ (sa_iI e).1
  have h3 := h.2 _ (sa_jI e).1
  unfold sa_v
  split <;> (refine ⟨?_, ?_, ?_, ?_, ?_⟩ <;> omega)
theorem sa_ne {e : Nat → Int} (h : sa_ok e) (hi : e (sa_i e) < 0) : sa_i e ≠ sa_j e := fun z => by
  have h1 := sa_pos h hi
  rw [← z] at h1
  omega
theorem sa_ev {e : Nat → Int} (h : sa_ok e) (hi : e (sa_i e) < 0) (p : Nat) : sa_e e p = if p = sa_j e then e (sa_j e) - sa_v e else if p = sa_i e then e (sa_i e) + sa_v e else e p := rfl
theorem sa_eok {e : Nat → Int} (h : sa_ok e) (hi : e (sa_i e) < 0) : sa_ok (sa_e e) := by
  have h1 := sa_vp h hi
  have hn := sa_ne h hi
  refine ⟨?_, fun p hp => ?_⟩
  · unfold sa_e
    rw [sa_su, sa_su, if_pos (sa_iI e).1, if_pos (sa_jI e).1, h.1]
    unfold sa_up
    rw [if_neg (Ne.symm hn)]
    omega
  · rw [sa_ev h hi]
    have h2 := h.2 _ (sa_iI e).1
    have h3 := h.2 _ (sa_jI e).1
    have h4 := h.2 p hp
    have h5 := sa_pos h hi
    split
    · omega
    · split <;> omega
def sa_n (e : Nat → Int) : Nat → Nat
  | 0 => 0
  | n + 1 => sa_n e n + (if e n = 0 then 0 else 1)
theorem sa_nle {e : Nat → Int} : ∀ n, sa_n e n ≤ n
  | 0 => Nat.le_refl _
  | n + 1 => by
    have := sa_nle (e := e) n
    unfold sa_n
    split <;> omega
theorem sa_n0 {e : Nat → Int} : ∀ n, sa_n e n = 0 → ∀ p, p < n → e p = 0
  | 0, _, p, hp => by omega
  | n + 1, h, p, hp => by
    unfold sa_n at h
    by_cases z : e n = 0
    · rw [if_pos z] at h
      by_cases y : p = n
      · rw [y]; exact z
      · exact sa_n0 n (by omega) p (by omega)
    · rw [if_neg z] at h
      omega
theorem sa_nm {e e' : Nat → Int} (h : ∀ p, e p = 0 → e' p = 0) : ∀ n, sa_n e' n ≤ sa_n e n
  | 0 => Nat.le_refl _
  | n + 1 => by
    have h1 := sa_nm h n
    have h2 := h n
    unfold sa_n
    by_cases z : e n = 0
    · rw [if_pos z, if_pos (h2 z)]; omega
    · rw [if_neg z]; split <;> omega
theorem sa_nd {e e' : Nat → Int} (h : ∀ p, e p = 0 → e' p = 0) {q : Nat} (h1 : ¬ e q = 0) (h2 : e' q = 0) : ∀ n, q < n → sa_n e' n < sa_n e n
  | 0, hq => by omega
  | n + 1, hq => by
    have h3 := sa_nm h n
    have h4 := h n
    unfold sa_n
    by_cases z : q = n
    · subst z
      rw [if_neg h1, if_pos h2]; omega
    · have h5 := sa_nd h h1 h2 n (by omega)
      by_cases y : e n = 0
      · rw [if_pos y, if_pos (h4 y)]; omega
      · rw [if_neg y]; split <;> omega
theorem sa_nde {e : Nat → Int} (h : sa_ok e) (hi : e (sa_i e) < 0) : sa_n (sa_e e) 8 < sa_n e 8 := by
  have h1 := sa_vp h hi
  have h2 := sa_pos h hi
  have hz : ∀ p, e p = 0 → sa_e e p = 0 := by
    intro p hp
    rw [sa_ev h hi]
    rw [if_neg (fun z => by rw [z] at hp; omega), if_neg (fun z => by rw [z] at hp; omega)]
    exact hp
  rcases h1.2.2.2.2 with g | g
  · exact sa_nd hz (q := sa_i e) (by omega) (by rw [sa_ev h hi, if_neg (sa_ne h hi), if_pos rfl]; omega) 8 (sa_iI e).1
  · exact sa_nd hz (q := sa_j e) (by omega) (by rw [sa_ev h hi, if_pos rfl]; omega) 8 (sa_jI e).1
/-- payments one by one: how many, how many of them are lawful -/
def sa_r (P : Nat → Bool) : Nat → (Nat → Int) → Nat × Nat
  | 0, _ => (0, 0)
  | f + 1, e => if e (sa_i e) < 0 then ((sa_r P f (sa_e e)).1 + 1, (if P (sa_v e).toNat = true then 1 else 0) + (sa_r P f (sa_e e)).2) else (0, 0)
theorem sa_r1 (f : Nat) {P : Nat → Bool} {e : Nat → Int} : sa_r P (f + 1) e = if e (sa_i e) < 0 then ((sa_r P f (sa_e e)).1 + 1, (if P (sa_v e).toNat = true then 1 else 0) + (sa_r P f (sa_e e)).2) else (0, 0) := rfl
theorem sa_r0 {f : Nat} {P : Nat → Bool} {e : Nat → Int} (h : ¬ e (sa_i e) < 0) : sa_r P f e = (0, 0) := by
  cases f with
  | zero => rfl
  | succ f => rw [sa_r1, if_neg h]
theorem sa_rle {P : Nat → Bool} : ∀ (f : Nat) (e : Nat → Int), (sa_r P f e).1 ≤ f ∧ (sa_r P f e).2 ≤ f
  | 0, e => ⟨Nat.le_refl _, Nat.le_refl _⟩
  | f + 1, e => by
    rw [sa_r1]
    have := sa_rle (P := P) f (sa_e e)
    split
    · constructor
      · dsimp only; omega
      · dsimp only; split <;> omega
    · exact ⟨Nat.zero_le _, Nat.zero_le _⟩
/-- the net of one, as a whole number -/
def sa_net (D : Nat → Nat) (p : Nat) : Nat → Nat → Int → Int
  | 0, _, s => s
  | f + 1, o, s => sa_net D p f (o + 1) (s + ((D (8 * o + p) : Int) - (D (8 * p + o) : Int)))
theorem sa_netI {H : Nat → Int32} {D : Nat → Nat} {p : Nat} (hp : p < 8) (h : ∀ q, q < 64 → H q = nI (D q)) : ∀ (f o : Nat) (s : Int), o + f ≤ 8 → dn_net H p f o (xz s) = xz (sa_net D p f o s)
  | 0, _, _, _ => rfl
  | f + 1, o, s, ho => by
    unfold dn_net sa_net
    rw [h _ (by omega), h _ (by omega), xz_nI, xz_nI, xz_sub, xz_add]
    exact sa_netI hp h f (o + 1) _ (by omega)
theorem sa_netB {D : Nat → Nat} {p : Nat} (hp : p < 8) (h : ∀ q, q < 64 → D q ≤ 9999) : ∀ (f o : Nat) (s : Int), o + f ≤ 8 → s - 9999 * f ≤ sa_net D p f o s ∧ sa_net D p f o s ≤ s + 9999 * f
  | 0, _, _, _ => by
    unfold sa_net
    omega
  | f + 1, o, s, ho => by
    unfold sa_net
    have h1 := sa_netB hp h f (o + 1) (s + ((D (8 * o + p) : Int) - (D (8 * p + o) : Int))) (by omega)
    have h2 := h (8 * o + p) (by omega)
    have h3 := h (8 * p + o) (by omega)
    constructor <;> omega
def sa_E (L : lg_L) (p : Nat) : Int := sa_net (lgD L) p 8 0 0
set_option maxRecDepth 20000 in
theorem sa_E0 (D : Nat → Nat) : sa_s (fun p => sa_net D p 8 0 0) 8 = 0 := by
  simp only [sa_s, sa_net, Nat.reduceAdd, Nat.reduceMul, Nat.mul_zero, Nat.zero_add, Nat.add_zero, Nat.zero_mul, Nat.mul_one]
  omega
theorem sa_EI {L : lg_L} (hi : lg_in L) : sa_ok (sa_E L) := by
  refine ⟨sa_E0 (lgD L), fun p hp => ?_⟩
  have h := sa_netB (D := lgD L) hp (fun q hq => (lg_inD hi (p := q) (by omega)).2.1) 8 0 0 (by omega)
  unfold sa_E
  constructor <;> omega

