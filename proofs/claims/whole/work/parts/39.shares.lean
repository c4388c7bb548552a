/-! SHARES -/
abbrev sh_B : Type := Nat × (Nat → Nat)
def sf (f : Nat → sh_B → sh_B) (c left : Nat) : Nat → Nat → sh_B → sh_B
  | 0, _, B => B
  | n + 1, a, B => if a * c ≤ left then sf f c left n (a + 1) (f a B) else B
theorem sf1 {f : Nat → sh_B → sh_B} {c left n a : Nat} {B : sh_B} : sf f c left (n + 1) a B = if a * c ≤ left then sf f c left n (a + 1) (f a B) else B := rfl
theorem sf_out {f : Nat → sh_B → sh_B} {c left a : Nat} {B : sh_B} (h : left < a * c) : ∀ n, sf f c left n a B = B
  | 0 => rfl
  | n + 1 => by rw [sf1, if_neg (by omega)]
theorem sf_id {f : Nat → sh_B → sh_B} {c left : Nat} {B : sh_B} : ∀ n a, (∀ b, a ≤ b → b * c ≤ left → f b B = B) → sf f c left n a B = B
  | 0, _, _ => rfl
  | n + 1, a, h => by
    rw [sf1]
    split
    · next z =>
      rw [h a (Nat.le_refl _) z]
      exact sf_id n (a + 1) (fun b hb => h b (by omega))
    · rfl
def sy (P : Nat → Bool) (k first : Nat) : Nat → (Nat → Nat) → Nat → Nat → sh_B → sh_B
  | 0, row, _, left, B => if P left = true ∧ left - first < B.1 then (left - first, va_up row (k - 1) left) else B
  | r + 1, row, fro, left, B => sf (fun a B => if P a = true then sy P k first r (va_up row (k - 2 - r) a) a (left - a) B else B) (r + 2) left (left + 1) fro B
def sy_g (P : Nat → Bool) (k first r : Nat) (row : Nat → Nat) (left : Nat) (a : Nat) (B : sh_B) : sh_B := if P a = true then sy P k first r (va_up row (k - 2 - r) a) a (left - a) B else B
theorem sy1 {P : Nat → Bool} {k first r : Nat} {row : Nat → Nat} {fro left : Nat} {B : sh_B} : sy P k first (r + 1) row fro left B = sf (sy_g P k first r row left) (r + 2) left (left + 1) fro B := rfl
theorem sh_mul {a r left : Nat} (h : a * (r + 2) ≤ left) : a ≤ left - a ∧ a ≤ left := by
  have e : a * (r + 2) = a * r + a + a := by rw [Nat.mul_add]; omega
  omega
theorem sy_no {P : Nat → Bool} {k first : Nat} : ∀ (r : Nat) (row : Nat → Nat) (fro left : Nat) (B : sh_B), 1 ≤ first → first ≤ fro → fro ≤ left → (first + B.1 ≤ fro ∨ (r + 1) * (first + B.1 - 1) < left) → sy P k first r row fro left B = B
  | 0, row, fro, left, B, h0, h1, h2, h3 => by
    unfold sy
    rw [if_neg]
    rintro ⟨_, z⟩
    omega
  | r + 1, row, fro, left, B, h0, h1, h2, h3 => by
    rw [sy1]
    refine sf_id _ _ (fun a ha hl => ?_)
    unfold sy_g
    have hm := sh_mul hl
    split
    · refine sy_no r _ a (left - a) B h0 (by omega) hm.1 ?_
      by_cases z : first + B.1 ≤ a
      · exact Or.inl z
      · refine Or.inr ?_
        rcases h3 with h3 | h3
        · omega
        · have e : (r + 1 + 1) * (first + B.1 - 1) = (r + 1) * (first + B.1 - 1) + (first + B.1 - 1) := by rw [Nat.add_mul (r + 1) 1, Nat.one_mul]
          omega
    · rfl
def sy_t (P : Nat → Bool) (k n : Nat) (a : Nat) (B : sh_B) : sh_B := if P a = true then sy P k a (k - 2) (va_up (fun _ => 0) 0 a) a (n - a) B else B
def sz (P : Nat → Bool) (k n : Nat) : sh_B := sf (sy_t P k n) k n (n + 1) 2 (1000, fun _ => 0)
def shv (P : Nat → Bool) (n k : Nat) (i : Int32) : Int32 := if (sz P k n).1 = 1000 then -2 else if i = -1 then nI (sz P k n).1 else nI ((sz P k n).2 i.toNatClampNeg)
theorem sf_le {f : Nat → sh_B → sh_B} {c left : Nat} (h : ∀ a B, a ≤ left → B.1 ≤ 1000 → (f a B).1 ≤ 1000) (hc : 1 ≤ c) : ∀ n a (B : sh_B), B.1 ≤ 1000 → (sf f c left n a B).1 ≤ 1000
  | 0, _, _, hB => hB
  | n + 1, a, B, hB => by
    rw [sf1]
    split
    · next z =>
      have h2 : a * 1 ≤ a * c := Nat.mul_le_mul_left a hc
      exact sf_le h hc n (a + 1) _ (h a B (by omega) hB)
    · exact hB
theorem sf_c {f f' : Nat → sh_B → sh_B} {c left : Nat} (hc : 1 ≤ c) (h : ∀ a B, a ≤ left → f a B = f' a B) : ∀ n a B, sf f c left n a B = sf f' c left n a B
  | 0, _, _ => rfl
  | n + 1, a, B => by
    rw [sf1, sf1]
    split
    · next z =>
      have h2 : a * 1 ≤ a * c := Nat.mul_le_mul_left a hc
      rw [h a B (by omega)]
      exact sf_c hc h n (a + 1) _
    · rfl
theorem sy_c {P P' : Nat → Bool} {N k first : Nat} (h : ∀ a, a ≤ N → P a = P' a) : ∀ r row fro left B, left ≤ N → sy P k first r row fro left B = sy P' k first r row fro left B
  | 0, row, fro, left, B, hl => by
    unfold sy
    rw [h left hl]
  | r + 1, row, fro, left, B, hl => by
    rw [sy1, sy1]
    refine sf_c (by omega) (fun a B ha => ?_) _ _ _
    unfold sy_g
    rw [h a (by omega), sy_c h r _ a (left - a) B (by omega)]
theorem sz_c {P P' : Nat → Bool} {k n : Nat} (hk : 1 ≤ k) (h : ∀ a, a ≤ n → P a = P' a) : sz P k n = sz P' k n := by
  unfold sz
  refine sf_c hk (fun a B ha => ?_) _ _ _
  unfold sy_t
  rw [h a ha, sy_c h _ _ a (n - a) B (by omega)]
/-- the class's best row so far -/
def sh_I (k : Nat) (S : vs_S) (B : sh_B) : Prop := S.1 5 = nI B.1 ∧ B.1 ≤ 1000 ∧ (B.1 < 1000 → ∀ q, q < k → S.2.1 17 q = nI (B.2 q))
/-- the reference's -/
def sg_I (k : Nat) (S : vs_S) (B : sh_B) : Prop := S.1 34 = (if B.1 = 1000 then -1 else nI B.1) ∧ B.1 ≤ 1000 ∧ (B.1 < 1000 → ∀ q, q < k → S.2.1 80 q = nI (B.2 q))
theorem va_up1 {f : Nat → Nat} {i v j : Nat} : va_up f i v j = if j = i then v else f j := rfl

