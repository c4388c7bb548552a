/-! THE TEXT: one reading of it, for both sides -/
abbrev pT : Type := Bool × Nat × List Int32 × ((Nat → Int32) → Int32)
def tkR (b : Int32) : Nat := if b = 124 then 0 else if b = 38 then 1 else if b = 60 ∨ b = 61 ∨ b = 62 then 2 else if b = 43 ∨ b = 45 then 3 else if b = 37 ∨ b = 42 ∨ b = 47 then 4 else 5
def tkV (b v y : Int32) : Int32 := if b = 124 then (if v = 0 ∧ y = 0 then 0 else 1) else if b = 38 then (if v = 0 ∨ y = 0 then 0 else 1) else if b = 60 then (if v < y then 1 else 0) else if b = 61 then (if v = y then 1 else 0) else if b = 62 then (if y < v then 1 else 0) else if b = 43 then v + y else if b = 45 then v - y else if b = 42 then v * y else if b = 47 then (if y = 0 then 0 else v / y) else if b = 37 then (if y = 0 then 0 else v % y) else 0
def tkN (b : Int32) : Nat := if b = 112 then 0 else if b = 103 then 1 else if b = 110 then 2 else if b = 116 then 3 else if b = 104 then 4 else 5
def pF (p : Nat) : pT := (false, p, [], fun _ => 0)
def pzL (nx : Nat → pT) (tb : Nat → Int32) (k : Nat) : Nat → pT → pT
  | 0, t => t
  | f + 1, t => if tkR (tb t.2.1) = k then (if (nx (t.2.1 + 1)).1 = true then pzL nx tb k f (true, (nx (t.2.1 + 1)).2.1, t.2.2.1 ++ ((nx (t.2.1 + 1)).2.2.1 ++ [-(tb t.2.1)]), fun N => tkV (tb t.2.1) (t.2.2.2 N) ((nx (t.2.1 + 1)).2.2.2 N)) else pF (nx (t.2.1 + 1)).2.1) else t
theorem pzLS (f : Nat) {nx : Nat → pT} {tb : Nat → Int32} {k : Nat} {t : pT} : pzL nx tb k (f + 1) t = if tkR (tb t.2.1) = k then (if (nx (t.2.1 + 1)).1 = true then pzL nx tb k f (true, (nx (t.2.1 + 1)).2.1, t.2.2.1 ++ ((nx (t.2.1 + 1)).2.2.1 ++ [-(tb t.2.1)]), fun N => tkV (tb t.2.1) (t.2.2.2 N) ((nx (t.2.1 + 1)).2.2.2 N)) else pF (nx (t.2.1 + 1)).2.1) else t := rfl
def pzF (j : Nat) : Nat := if j = 2 then 1 else 120
def pzR (op : Nat → pT) (tb : Nat → Int32) : Nat → Nat → pT
  | 0, p => op p
  | j + 1, p => if (pzR op tb j p).1 = true then pzL (pzR op tb j) tb (4 - j) (pzF j) (pzR op tb j p) else pF (pzR op tb j p).2.1
theorem pzRS (j : Nat) {op : Nat → pT} {tb : Nat → Int32} {p : Nat} : pzR op tb (j + 1) p = if (pzR op tb j p).1 = true then pzL (pzR op tb j) tb (4 - j) (pzF j) (pzR op tb j p) else pF (pzR op tb j p).2.1 := rfl
def pzD (tb : Nat → Int32) : Nat → Nat → Int32 → Nat × Int32
  | 0, p, v => (p, v)
  | f + 1, p, v => if 48 ≤ tb p ∧ tb p ≤ 57 then pzD tb f (p + 1) (v * 10 + tb p - 48) else (p, v)
theorem pzDS (f : Nat) {tb : Nat → Int32} {p : Nat} {v : Int32} : pzD tb (f + 1) p v = if 48 ≤ tb p ∧ tb p ≤ 57 then pzD tb f (p + 1) (v * 10 + tb p - 48) else (p, v) := rfl
def pzA (tb : Nat → Int32) (p : Nat) : pT := if 48 ≤ tb p ∧ tb p ≤ 57 then (true, (pzD tb 4 p 0).1, [(pzD tb 4 p 0).2], fun _ => (pzD tb 4 p 0).2) else if tkN (tb p) < 5 then (true, p + 1, [-(tb p)], fun N => N (tkN (tb p))) else pF p
def pz1 (b : Int32) (t : pT) : pT := if t.1 = true then (true, t.2.1, t.2.2.1 ++ [if b = 45 then -126 else -b], fun N => if b = 45 then -(t.2.2.2 N) else if t.2.2.2 N = 0 then 1 else 0) else pF t.2.1
def pz2 (tb : Nat → Int32) (t : pT) : pT := if t.1 = true then (if tb t.2.1 = 41 then (true, t.2.1 + 1, t.2.2) else pF t.2.1) else pF t.2.1
def pzO (tb : Nat → Int32) : Nat → Nat → pT
  | 0, p => pzA tb p
  | r + 1, p => if tb p = 40 then pz2 tb (pzR (pzO tb r) tb 5 (p + 1)) else if tb p = 33 ∨ tb p = 45 then pz1 (tb p) (pzO tb r (p + 1)) else pzA tb p
theorem pzOS (r : Nat) {tb : Nat → Int32} {p : Nat} : pzO tb (r + 1) p = if tb p = 40 then pz2 tb (pzR (pzO tb r) tb 5 (p + 1)) else if tb p = 33 ∨ tb p = 45 then pz1 (tb p) (pzO tb r (p + 1)) else pzA tb p := rfl
def pzE (tb : Nat → Int32) : Nat → pT := pzR (pzO tb 6) tb 5
/-- a line: does it count, what it says -/
abbrev pL : Type := Bool × Nat × List Int32 × ((Nat → Int32) → Bool) × ((Nat → Int32) → Int32)
def pz4 (t y : pT) : pL := if y.1 = true then (true, y.2.1, t.2.2.1 ++ (-63 :: y.2.2.1), fun N => !(t.2.2.2 N == 0), y.2.2.2) else (false, y.2.1, [], fun _ => false, fun _ => 0)
def pz3 (tb : Nat → Int32) (t : pT) : pL := if t.1 = true then (if tb t.2.1 = 63 then pz4 t (pzE tb (t.2.1 + 1)) else (true, t.2.1, t.2.2.1, fun _ => true, t.2.2.2)) else (false, t.2.1, [], fun _ => false, fun _ => 0)
def pzI (tb : Nat → Int32) (p : Nat) : pL := pz3 tb (pzE tb p)
def pz5 (t : pL) : pT := (true, t.2.1, t.2.2.1 ++ [-59], fun N => if t.2.2.2.1 N = true then t.2.2.2.2 N else 0)
def pz6 (t : pL) (y : pT) : pT := if y.1 = true then (true, y.2.1, t.2.2.1 ++ (-59 :: y.2.2.1), fun N => if t.2.2.2.1 N = true then t.2.2.2.2 N else y.2.2.2 N) else pF y.2.1
def pzT (tb : Nat → Int32) : Nat → Nat → pT
  | 0, p => if (pzI tb p).1 = true then pz5 (pzI tb p) else pF (pzI tb p).2.1
  | f + 1, p => if (pzI tb p).1 = true then (if tb (pzI tb p).2.1 = 59 then pz6 (pzI tb p) (pzT tb f ((pzI tb p).2.1 + 1)) else pz5 (pzI tb p)) else pF (pzI tb p).2.1
theorem pzTS (f : Nat) {tb : Nat → Int32} {p : Nat} : pzT tb (f + 1) p = if (pzI tb p).1 = true then (if tb (pzI tb p).2.1 = 59 then pz6 (pzI tb p) (pzT tb f ((pzI tb p).2.1 + 1)) else pz5 (pzI tb p)) else pF (pzI tb p).2.1 := rfl
def pz7 (L : Nat) (t : pT) : pT := if t.1 = true ∧ t.2.1 < L then pF t.2.1 else t
/-- the whole text -/
def pzX (tb : Nat → Int32) (L : Nat) : pT := pz7 L (pzT tb 120 0)
/-! where a reading ends -/
def bl (b : Int32) : Prop := b = 0 ∨ b = -1
theorem bl_R {b : Int32} (h : bl b) : tkR b = 5 := by rcases h with e | e <;> subst e <;> decide
theorem bl_N {b : Int32} (h : bl b) : tkN b = 5 := by rcases h with e | e <;> subst e <;> decide
theorem bl_d {b : Int32} (h : bl b) : ¬ (48 ≤ b ∧ b ≤ 57) := by rcases h with e | e <;> subst e <;> decide
theorem bl_c {b c : Int32} (h : bl b) (hc : ¬ bl c) : ¬ b = c := fun z => hc (z ▸ h)
theorem bl_nb {tb : Nat → Int32} {L p : Nat} (hL : ∀ p, L ≤ p → bl (tb p)) (h : ¬ bl (tb p)) : p < L := by
  apply Decidable.byContradiction
  intro z
  exact h (hL p (by omega))
def pOk (L p : Nat) (t : pT) : Prop := t.2.1 ≤ L ∧ p ≤ t.2.1 ∧ (t.1 = true → p + t.2.2.1.length ≤ t.2.1 ∧ p < t.2.1)
theorem pOk_F {L p : Nat} (h : p ≤ L) {q : Nat} (hq : q ≤ L) (hpq : p ≤ q) : pOk L p (pF q) := ⟨hq, hpq, fun z => absurd (show false = true from z) (by decide)⟩
theorem pOk_D {tb : Nat → Int32} {L : Nat} (hL : ∀ p, L ≤ p → bl (tb p)) : ∀ (f p : Nat) (v : Int32), p ≤ L → (pzD tb f p v).1 ≤ L ∧ p ≤ (pzD tb f p v).1
  | 0, p, v, h => ⟨h, Nat.le_refl _⟩
  | f + 1, p, v, h => by
    rw [pzDS f]
    by_cases z : 48 ≤ tb p ∧ tb p ≤ 57
    · rw [if_pos z]
      have hp : p < L := bl_nb hL (fun y => bl_d y z)
      have := pOk_D hL f (p + 1) (v * 10 + tb p - 48) hp
      omega
    · rw [if_neg z]
      exact ⟨h, Nat.le_refl _⟩
theorem pOk_A {tb : Nat → Int32} {L : Nat} (hL : ∀ p, L ≤ p → bl (tb p)) {p : Nat} (h : p ≤ L) : pOk L p (pzA tb p) := by
  unfold pzA
  by_cases z : 48 ≤ tb p ∧ tb p ≤ 57
  · rw [if_pos z]
    have hp : p < L := bl_nb hL (fun y => bl_d y z)
    have e : pzD tb 4 p 0 = pzD tb 3 (p + 1) (0 * 10 + tb p - 48) := by rw [pzDS 3, if_pos z]
    have := pOk_D hL 3 (p + 1) (0 * 10 + tb p - 48) hp
    refine ⟨by show (pzD tb 4 p 0).1 ≤ L; rw [e]; exact this.1, by show p ≤ (pzD tb 4 p 0).1; rw [e]; omega, fun _ => ⟨?_, ?_⟩⟩
    · show p + 1 ≤ (pzD tb 4 p 0).1
      rw [e]; omega
    · show p < (pzD tb 4 p 0).1
      rw [e]; omega
  · rw [if_neg z]
    by_cases y : tkN (tb p) < 5
    · rw [if_pos y]
      have hp : p < L := bl_nb hL (fun w => by rw [bl_N w] at y; omega)
      exact ⟨hp, Nat.le_succ p, fun _ => ⟨Nat.le_refl _, Nat.lt_succ_self p⟩⟩
    · rw [if_neg y]
      exact pOk_F h h (Nat.le_refl _)
theorem tkR_nb {b : Int32} {k : Nat} (hk : k < 5) (h : tkR b = k) : ¬ bl b := fun z => by rw [bl_R z] at h; omega
theorem pOk_L {nx : Nat → pT} {tb : Nat → Int32} {L k : Nat} (hk : k < 5) (hL : ∀ p, L ≤ p → bl (tb p)) (hn : ∀ p, p ≤ L → pOk L p (nx p)) : ∀ (f : Nat) (t : pT) (p : Nat), t.1 = true → pOk L p t → pOk L p (pzL nx tb k f t)
  | 0, t, p, _, h => h
  | f + 1, t, p, ht, h => by
    rw [pzLS f]
    by_cases z : tkR (tb t.2.1) = k
    · rw [if_pos z]
      have hp : t.2.1 < L := bl_nb hL (tkR_nb hk z)
      have h2 := hn (t.2.1 + 1) hp
      have h3 := h.2.2 ht
      by_cases y : (nx (t.2.1 + 1)).1 = true
      · rw [if_pos y]
        have h4 := h2.2.2 y
        refine pOk_L hk hL hn f _ p rfl ⟨h2.1, ?_, fun _ => ⟨?_, ?_⟩⟩
        · show p ≤ (nx (t.2.1 + 1)).2.1
          omega
        · show p + (t.2.2.1 ++ ((nx (t.2.1 + 1)).2.2.1 ++ [-(tb t.2.1)])).length ≤ (nx (t.2.1 + 1)).2.1
          rw [List.length_append, List.length_append, List.length_singleton]
          omega
        · show p < (nx (t.2.1 + 1)).2.1
          omega
      · rw [if_neg y]
        exact pOk_F (by have := h.2.1; omega) h2.1 (by have := h2.2.1; omega)
    · rw [if_neg z]
      exact h
theorem pOk_R {op : Nat → pT} {tb : Nat → Int32} {L : Nat} (hL : ∀ p, L ≤ p → bl (tb p)) (hn : ∀ p, p ≤ L → pOk L p (op p)) : ∀ (j p : Nat), p ≤ L → pOk L p (pzR op tb j p)
  | 0, p, h => hn p h
  | j + 1, p, h => by
    rw [pzRS j]
    have h1 := pOk_R hL hn j p h
    by_cases z : (pzR op tb j p).1 = true
    · rw [if_pos z]
      exact pOk_L (by omega) hL (pOk_R hL hn j) _ _ p z h1
    · rw [if_neg z]
      exact pOk_F h h1.1 h1.2.1
theorem pOk_O {tb : Nat → Int32} {L : Nat} (hL : ∀ p, L ≤ p → bl (tb p)) : ∀ (r p : Nat), p ≤ L → pOk L p (pzO tb r p)
  | 0, p, h => pOk_A hL h
  | r + 1, p, h => by
    rw [pzOS r]
    by_cases z : tb p = 40
    · rw [if_pos z]
      have hp : p < L := bl_nb hL (fun y => bl_c y (by unfold bl; decide) z)
      have h1 := pOk_R hL (pOk_O hL r) 5 (p + 1) hp
      unfold pz2
      by_cases y : (pzR (pzO tb r) tb 5 (p + 1)).1 = true
      · rw [if_pos y]
        have h2 := h1.2.2 y
        by_cases w : tb (pzR (pzO tb r) tb 5 (p + 1)).2.1 = 41
        · rw [if_pos w]
          have hp2 := bl_nb hL (fun y => bl_c y (by unfold bl; decide) w)
          refine ⟨hp2, ?_, fun _ => ⟨?_, ?_⟩⟩
          · show p ≤ (pzR (pzO tb r) tb 5 (p + 1)).2.1 + 1
            omega
          · show p + (pzR (pzO tb r) tb 5 (p + 1)).2.2.1.length ≤ (pzR (pzO tb r) tb 5 (p + 1)).2.1 + 1
            omega
          · show p < (pzR (pzO tb r) tb 5 (p + 1)).2.1 + 1
            omega
        · rw [if_neg w]
          exact pOk_F h h1.1 (by omega)
      · rw [if_neg y]
        exact pOk_F h h1.1 (by have := h1.2.1; omega)
    · rw [if_neg z]
      by_cases w : tb p = 33 ∨ tb p = 45
      · rw [if_pos w]
        have hp : p < L := bl_nb hL (fun y => by rcases w with e | e <;> exact bl_c y (by unfold bl; decide) e)
        have h1 := pOk_O hL r (p + 1) hp
        unfold pz1
        by_cases y : (pzO tb r (p + 1)).1 = true
        · rw [if_pos y]
          have h2 := h1.2.2 y
          refine ⟨h1.1, ?_, fun _ => ⟨?_, ?_⟩⟩
          · show p ≤ (pzO tb r (p + 1)).2.1
            omega
          · show p + ((pzO tb r (p + 1)).2.2.1 ++ [_]).length ≤ (pzO tb r (p + 1)).2.1
            rw [List.length_append, List.length_singleton]
            omega
          · show p < (pzO tb r (p + 1)).2.1
            omega
        · rw [if_neg y]
          exact pOk_F h h1.1 (by have := h1.2.1; omega)
      · rw [if_neg w]
        exact pOk_A hL h
theorem pOk_E {tb : Nat → Int32} {L : Nat} (hL : ∀ p, L ≤ p → bl (tb p)) (p : Nat) (h : p ≤ L) : pOk L p (pzE tb p) := pOk_R hL (pOk_O hL 6) 5 p h
theorem pOk_I {tb : Nat → Int32} {L : Nat} (hL : ∀ p, L ≤ p → bl (tb p)) (p : Nat) (h : p ≤ L) : (pzI tb p).2.1 ≤ L ∧ p ≤ (pzI tb p).2.1 ∧ ((pzI tb p).1 = true → p + (pzI tb p).2.2.1.length ≤ (pzI tb p).2.1) := by
  unfold pzI pz3
  have h1 := pOk_E hL p h
  by_cases y : (pzE tb p).1 = true
  · rw [if_pos y]
    have h2 := h1.2.2 y
    by_cases w : tb (pzE tb p).2.1 = 63
    · rw [if_pos w]
      have hp2 := bl_nb hL (fun y => bl_c y (by unfold bl; decide) w)
      have h3 := pOk_E hL ((pzE tb p).2.1 + 1) hp2
      unfold pz4
      by_cases u : (pzE tb ((pzE tb p).2.1 + 1)).1 = true
      · rw [if_pos u]
        have h4 := h3.2.2 u
        refine ⟨h3.1, ?_, fun _ => ?_⟩
        · show p ≤ (pzE tb ((pzE tb p).2.1 + 1)).2.1
          omega
        · show p + ((pzE tb p).2.2.1 ++ (-63 :: (pzE tb ((pzE tb p).2.1 + 1)).2.2.1)).length ≤ (pzE tb ((pzE tb p).2.1 + 1)).2.1
          rw [List.length_append, List.length_cons]
          omega
      · rw [if_neg u]
        exact ⟨h3.1, by have := h3.2.1; show p ≤ (pzE tb ((pzE tb p).2.1 + 1)).2.1; omega, fun z => absurd (show false = true from z) (by decide)⟩
    · rw [if_neg w]
      exact ⟨h1.1, h1.2.1, fun _ => h2.1⟩
  · rw [if_neg y]
    exact ⟨h1.1, h1.2.1, fun z => absurd (show false = true from z) (by decide)⟩
/-! a blank is a blank -/
def tq (tb tc : Nat → Int32) : Prop := ∀ p, tb p = tc p ∨ (bl (tb p) ∧ bl (tc p))
theorem tq_R {tb tc : Nat → Int32} (h : tq tb tc) (p : Nat) : tkR (tb p) = tkR (tc p) := by
  rcases h p with e | ⟨e1, e2⟩
  · rw [e]
  · rw [bl_R e1, bl_R e2]
theorem tq_D {tb tc : Nat → Int32} (h : tq tb tc) : ∀ (f p : Nat) (v : Int32), pzD tb f p v = pzD tc f p v
  | 0, _, _ => rfl
  | f + 1, p, v => by
    rw [pzDS f, pzDS f]
    rcases h p with e | ⟨e1, e2⟩
    · rw [e, tq_D h f]
    · rw [if_neg (bl_d e1), if_neg (bl_d e2)]
theorem tq_A {tb tc : Nat → Int32} (h : tq tb tc) (p : Nat) : pzA tb p = pzA tc p := by
  unfold pzA
  rw [tq_D h]
  rcases h p with e | ⟨e1, e2⟩
  · rw [e]
  · rw [if_neg (bl_d e1), if_neg (bl_d e2), bl_N e1, bl_N e2, if_neg (by decide), if_neg (by decide)]
theorem tq_L {nx ny : Nat → pT} {tb tc : Nat → Int32} {k : Nat} (hk : k < 5) (h : tq tb tc) (hn : ∀ p, nx p = ny p) : ∀ (f : Nat) (t : pT), pzL nx tb k f t = pzL ny tc k f t
  | 0, _ => rfl
  | f + 1, t => by
    rw [pzLS f, pzLS f, hn]
    rcases h t.2.1 with e | ⟨e1, e2⟩
    · rw [e, tq_L hk h hn f]
    · rw [if_neg (by rw [bl_R e1]; omega), if_neg (by rw [bl_R e2]; omega)]
theorem tq_Rk {op oq : Nat → pT} {tb tc : Nat → Int32} (h : tq tb tc) (hn : ∀ p, op p = oq p) : ∀ (j p : Nat), pzR op tb j p = pzR oq tc j p
  | 0, p => hn p
  | j + 1, p => by
    rw [pzRS j, pzRS j, tq_Rk h hn j, tq_L (by omega) h (tq_Rk h hn j)]
theorem bl_q {b c d : Int32} (hd : ¬ bl d) (h : b = c ∨ (bl b ∧ bl c)) : (b = d) = (c = d) := by
  rcases h with e | ⟨e1, e2⟩
  · rw [e]
  · exact propext ⟨fun z => absurd z (bl_c e1 hd), fun z => absurd z (bl_c e2 hd)⟩
theorem tq_O {tb tc : Nat → Int32} (h : tq tb tc) : ∀ (r p : Nat), pzO tb r p = pzO tc r p
  | 0, p => tq_A h p
  | r + 1, p => by
    rw [pzOS r, pzOS r, tq_Rk h (tq_O h r), tq_O h r, tq_A h]
    have e2 : ∀ t, pz2 tb t = pz2 tc t := fun t => by
      unfold pz2
      simp only [bl_q (d := 41) (by unfold bl; decide) (h t.2.1)]
    rw [e2]
    rcases h p with e | ⟨e1, e2⟩
    · rw [e]
    · rw [if_neg (bl_c e1 (by unfold bl; decide)), if_neg (bl_c e2 (by unfold bl; decide)), if_neg (fun z => by rcases z with z | z <;> exact bl_c e1 (by unfold bl; decide) z), if_neg (fun z => by rcases z with z | z <;> exact bl_c e2 (by unfold bl; decide) z)]
theorem tq_E {tb tc : Nat → Int32} (h : tq tb tc) (p : Nat) : pzE tb p = pzE tc p := tq_Rk h (tq_O h 6) 5 p
theorem tq_I {tb tc : Nat → Int32} (h : tq tb tc) (p : Nat) : pzI tb p = pzI tc p := by
  unfold pzI pz3
  rw [tq_E h p, tq_E h ((pzE tc p).2.1 + 1)]
  simp only [bl_q (d := 63) (by unfold bl; decide) (h (pzE tc p).2.1)]
theorem tq_T {tb tc : Nat → Int32} (h : tq tb tc) : ∀ (f p : Nat), pzT tb f p = pzT tc f p
  | 0, p => by
    unfold pzT
    rw [tq_I h]
  | f + 1, p => by
    rw [pzTS f, pzTS f, tq_I h, tq_T h f]
    simp only [bl_q (d := 59) (by unfold bl; decide) (h (pzI tc p).2.1)]
theorem tq_X {tb tc : Nat → Int32} (h : tq tb tc) (L : Nat) : pzX tb L = pzX tc L := by
  unfold pzX
  rw [tq_T h]
/-! the machine of steps -/
def hd0 (st : List Int32) : Int32 := match st with
  | [] => 0
  | a :: _ => a
def tl0 (st : List Int32) : List Int32 := match st with
  | [] => []
  | _ :: b => b
def tks (N : Nat → Int32) (o : Int32) (st : List Int32) : List Int32 := if tkN o < 5 then N (tkN o) :: st else if o = 33 then (if hd0 st = 0 then 1 else 0) :: tl0 st else if o = 126 then -(hd0 st) :: tl0 st else tkV o (hd0 (tl0 st)) (hd0 st) :: tl0 (tl0 st)
def mch (N : Nat → Int32) : List Int32 → Bool → List Int32 → Int32
  | [], _, _ => 0
  | s :: c, u, st => if 0 ≤ s then mch N c u (s :: st) else if s = -63 then mch N c (!(hd0 st == 0)) (tl0 st) else if s = -59 then (if u = true then hd0 st else mch N c true []) else mch N c u (tks N (-s) st)
theorem mchS {N : Nat → Int32} {s : Int32} {c : List Int32} {u : Bool} {st : List Int32} : mch N (s :: c) u st = if 0 ≤ s then mch N c u (s :: st) else if s = -63 then mch N c (!(hd0 st == 0)) (tl0 st) else if s = -59 then (if u = true then hd0 st else mch N c true []) else mch N c u (tks N (-s) st) := rfl
def pGo (t : pT) : Prop := t.1 = true → ∀ (N : Nat → Int32) (c : List Int32) (u : Bool) (st : List Int32), mch N (t.2.2.1 ++ c) u st = mch N c u (t.2.2.2 N :: st)
theorem pGo_F (p : Nat) : pGo (pF p) := fun z => absurd (show false = true from z) (by decide)
theorem tkR_b {b : Int32} {k : Nat} (hk : k < 5) (h : tkR b = k) : b = 124 ∨ b = 38 ∨ b = 60 ∨ b = 61 ∨ b = 62 ∨ b = 43 ∨ b = 45 ∨ b = 37 ∨ b = 42 ∨ b = 47 := by
  unfold tkR at h
  by_cases h1 : b = 124
  · exact Or.inl h1
  · rw [if_neg h1] at h
    by_cases h2 : b = 38
    · exact Or.inr (Or.inl h2)
    · rw [if_neg h2] at h
      by_cases h3 : b = 60 ∨ b = 61 ∨ b = 62
      · rcases h3 with e | e | e <;> simp [e]
      · rw [if_neg h3] at h
        by_cases h4 : b = 43 ∨ b = 45
        · rcases h4 with e | e <;> simp [e]
        · rw [if_neg h4] at h
          by_cases h5 : b = 37 ∨ b = 42 ∨ b = 47
          · rcases h5 with e | e | e <;> simp [e]
          · rw [if_neg h5] at h
            omega
theorem mch_op {N : Nat → Int32} {b : Int32} {k : Nat} (hk : k < 5) (h : tkR b = k) (c : List Int32) (u : Bool) (st : List Int32) : mch N (-b :: c) u st = mch N c u (tkV b (hd0 (tl0 st)) (hd0 st) :: tl0 (tl0 st)) := by
  rw [mchS]
  have e : tks N (- -b) st = tkV b (hd0 (tl0 st)) (hd0 st) :: tl0 (tl0 st) := by
    unfold tks
    rcases tkR_b hk h with e | e | e | e | e | e | e | e | e | e <;> subst e <;> rfl
  rw [e]
  rcases tkR_b hk h with e | e | e | e | e | e | e | e | e | e <;> subst e <;> rfl
theorem pGo_L {nx : Nat → pT} {tb : Nat → Int32} {k : Nat} (hk : k < 5) (hn : ∀ p, pGo (nx p)) : ∀ (f : Nat) (t : pT), t.1 = true → pGo t → pGo (pzL nx tb k f t)
  | 0, t, _, h => h
  | f + 1, t, ht, h => by
    rw [pzLS f]
    by_cases z : tkR (tb t.2.1) = k
    · rw [if_pos z]
      by_cases y : (nx (t.2.1 + 1)).1 = true
      · rw [if_pos y]
        refine pGo_L hk hn f _ rfl (fun _ N c u st => ?_)
        show mch N ((t.2.2.1 ++ ((nx (t.2.1 + 1)).2.2.1 ++ [-(tb t.2.1)])) ++ c) u st = _
        rw [List.append_assoc, h ht N, List.append_assoc, hn _ y N, List.singleton_append, mch_op hk z]
        rfl
      · rw [if_neg y]
        exact pGo_F _
    · rw [if_neg z]
      exact h
theorem pGo_R {op : Nat → pT} {tb : Nat → Int32} (hn : ∀ p, pGo (op p)) : ∀ (j p : Nat), pGo (pzR op tb j p)
  | 0, p => hn p
  | j + 1, p => by
    rw [pzRS j]
    by_cases z : (pzR op tb j p).1 = true
    · rw [if_pos z]
      exact pGo_L (by omega) (pGo_R hn j) _ _ z (pGo_R hn j p)
    · rw [if_neg z]
      exact pGo_F _
theorem pz_dig {x : Int32} (h1 : 48 ≤ x) (h2 : x ≤ 57) : ∃ c, c ≤ 9 ∧ x = nI (48 + c) := by
  obtain ⟨j, hj, e⟩ := xn_of (n := 57) (by omega) (Int32.le_trans (by decide) h1) h2
  subst e
  rw [xn_lit, xn_le (by omega) (by omega)] at h1
  exact ⟨j - 48, by omega, congrArg nI (by omega)⟩
theorem pzD_n {tb : Nat → Int32} : ∀ (f p a : Nat), ∃ b, (pzD tb f p (nI a)).2 = nI b ∧ b + 1 ≤ (a + 1) * 10 ^ f
  | 0, p, a => ⟨a, rfl, by omega⟩
  | f + 1, p, a => by
    rw [pzDS f]
    by_cases z : 48 ≤ tb p ∧ tb p ≤ 57
    · rw [if_pos z]
      obtain ⟨c, hc, e⟩ := pz_dig z.1 z.2
      have e2 : nI a * 10 + tb p - 48 = nI (a * 10 + c) := by
        rw [e, xn_lit, xn_lit, xn_mul, nI_add, xn_sub (by omega)]
        exact congrArg nI (by omega)
      rw [e2]
      obtain ⟨b, hb, hb2⟩ := pzD_n (tb := tb) f (p + 1) (a * 10 + c)
      refine ⟨b, hb, Nat.le_trans hb2 ?_⟩
      rw [Nat.pow_succ, Nat.mul_comm (10 ^ f) 10, ← Nat.mul_assoc]
      exact Nat.mul_le_mul_right _ (by omega)
    · rw [if_neg z]
      refine ⟨a, rfl, ?_⟩
      exact Nat.le_mul_of_pos_right _ (Nat.pow_pos (by omega))
theorem pzD_p {tb : Nat → Int32} (p : Nat) : 0 ≤ (pzD tb 4 p 0).2 := by
  obtain ⟨b, hb, hb2⟩ := pzD_n (tb := tb) 4 p 0
  rw [show (0 : Int32) = nI 0 from rfl, hb]
  exact nI_pos' (by omega)
theorem tkN_b {b : Int32} (h : tkN b < 5) : b = 112 ∨ b = 103 ∨ b = 110 ∨ b = 116 ∨ b = 104 := by
  unfold tkN at h
  by_cases h1 : b = 112
  · exact Or.inl h1
  · rw [if_neg h1] at h
    by_cases h2 : b = 103
    · exact Or.inr (Or.inl h2)
    · rw [if_neg h2] at h
      by_cases h3 : b = 110
      · exact Or.inr (Or.inr (Or.inl h3))
      · rw [if_neg h3] at h
        by_cases h4 : b = 116
        · exact Or.inr (Or.inr (Or.inr (Or.inl h4)))
        · rw [if_neg h4] at h
          by_cases h5 : b = 104
          · exact Or.inr (Or.inr (Or.inr (Or.inr h5)))
          · rw [if_neg h5] at h
            omega
theorem pGo_A {tb : Nat → Int32} (p : Nat) : pGo (pzA tb p) := by
  unfold pzA
  by_cases z : 48 ≤ tb p ∧ tb p ≤ 57
  · rw [if_pos z]
    intro _ N c u st
    show mch N ([(pzD tb 4 p 0).2] ++ c) u st = _
    rw [List.singleton_append, mchS, if_pos (pzD_p p)]
  · rw [if_neg z]
    by_cases y : tkN (tb p) < 5
    · rw [if_pos y]
      intro _ N c u st
      show mch N ([-(tb p)] ++ c) u st = mch N c u (N (tkN (tb p)) :: st)
      rw [List.singleton_append, mchS]
      have e : tks N (- -(tb p)) st = N (tkN (tb p)) :: st := by
        unfold tks
        rcases tkN_b y with e | e | e | e | e <;> rw [e] <;> rfl
      rw [e]
      rcases tkN_b y with e | e | e | e | e <;> rw [e] <;> rfl
    · rw [if_neg y]
      exact pGo_F _
theorem pGo_1 {b : Int32} (hb : b = 33 ∨ b = 45) {t : pT} (h : pGo t) : pGo (pz1 b t) := by
  unfold pz1
  by_cases y : t.1 = true
  · rw [if_pos y]
    intro _ N c u st
    show mch N ((t.2.2.1 ++ [if b = 45 then -126 else -b]) ++ c) u st = _
    rw [List.append_assoc, h y N, List.singleton_append, mchS]
    rcases hb with e | e <;> subst e <;> rfl
  · rw [if_neg y]
    exact pGo_F _
theorem pGo_O {tb : Nat → Int32} : ∀ (r p : Nat), pGo (pzO tb r p)
  | 0, p => pGo_A p
  | r + 1, p => by
    rw [pzOS r]
    by_cases z : tb p = 40
    · rw [if_pos z]
      unfold pz2
      have h := pGo_R (op := pzO tb r) (tb := tb) (pGo_O r) 5 (p + 1)
      by_cases y : (pzR (pzO tb r) tb 5 (p + 1)).1 = true
      · rw [if_pos y]
        by_cases w : tb (pzR (pzO tb r) tb 5 (p + 1)).2.1 = 41
        · rw [if_pos w]
          exact fun _ => h y
        · rw [if_neg w]
          exact pGo_F _
      · rw [if_neg y]
        exact pGo_F _
    · rw [if_neg z]
      by_cases w : tb p = 33 ∨ tb p = 45
      · rw [if_pos w]
        exact pGo_1 w (pGo_O r (p + 1))
      · rw [if_neg w]
        exact pGo_A p
theorem pGo_E {tb : Nat → Int32} (p : Nat) : pGo (pzE tb p) := pGo_R (pGo_O 6) 5 p
theorem pGo_I {tb : Nat → Int32} (p : Nat) (h : (pzI tb p).1 = true) (N : Nat → Int32) (c : List Int32) : mch N ((pzI tb p).2.2.1 ++ c) true [] = mch N c ((pzI tb p).2.2.2.1 N) [(pzI tb p).2.2.2.2 N] := by
  unfold pzI pz3 at h ⊢
  by_cases y : (pzE tb p).1 = true
  · rw [if_pos y] at h ⊢
    by_cases w : tb (pzE tb p).2.1 = 63
    · rw [if_pos w] at h ⊢
      unfold pz4 at h ⊢
      by_cases u : (pzE tb ((pzE tb p).2.1 + 1)).1 = true
      · rw [if_pos u]
        show mch N (((pzE tb p).2.2.1 ++ (-63 :: (pzE tb ((pzE tb p).2.1 + 1)).2.2.1)) ++ c) true [] = _
        rw [List.append_assoc, pGo_E p y N, List.cons_append, mchS, if_neg (by decide), if_pos rfl, pGo_E _ u N]
        rfl
      · rw [if_neg u] at h
        cases h
    · rw [if_neg w]
      exact pGo_E p y N c true []
  · rw [if_neg y] at h
    cases h
theorem pGo_T {tb : Nat → Int32} (N : Nat → Int32) : ∀ (f p : Nat), (pzT tb f p).1 = true → mch N (pzT tb f p).2.2.1 true [] = (pzT tb f p).2.2.2 N := by
  have h5 : ∀ p, (pzI tb p).1 = true → mch N (pz5 (pzI tb p)).2.2.1 true [] = (pz5 (pzI tb p)).2.2.2 N := fun p hp => by
    show mch N ((pzI tb p).2.2.1 ++ [-59]) true [] = if (pzI tb p).2.2.2.1 N = true then (pzI tb p).2.2.2.2 N else 0
    rw [pGo_I p hp, mchS, if_neg (by decide), if_neg (by decide), if_pos rfl]
    rfl
  intro f
  induction f with
  | zero =>
    intro p h
    unfold pzT at h ⊢
    by_cases y : (pzI tb p).1 = true
    · rw [if_pos y]
      exact h5 p y
    · rw [if_neg y] at h
      cases h
  | succ f ih =>
    intro p h
    rw [pzTS f] at h ⊢
    by_cases y : (pzI tb p).1 = true
    · rw [if_pos y] at h ⊢
      by_cases w : tb (pzI tb p).2.1 = 59
      · rw [if_pos w] at h ⊢
        unfold pz6 at h ⊢
        by_cases u : (pzT tb f ((pzI tb p).2.1 + 1)).1 = true
        · rw [if_pos u]
          show mch N ((pzI tb p).2.2.1 ++ (-59 :: (pzT tb f ((pzI tb p).2.1 + 1)).2.2.1)) true [] = if (pzI tb p).2.2.2.1 N = true then (pzI tb p).2.2.2.2 N else (pzT tb f ((pzI tb p).2.1 + 1)).2.2.2 N
          rw [pGo_I p y, mchS, if_neg (by decide), if_neg (by decide), if_pos rfl, ih _ u]
          rfl
        · rw [if_neg u] at h
          cases h
      · rw [if_neg w]
        exact h5 p y
    · rw [if_neg y] at h
      cases h
theorem pOk_T {tb : Nat → Int32} {L : Nat} (hL : ∀ p, L ≤ p → bl (tb p)) : ∀ (f p : Nat), p ≤ L → (pzT tb f p).2.1 ≤ L ∧ ((pzT tb f p).1 = true → p + (pzT tb f p).2.2.1.length ≤ (pzT tb f p).2.1 + 1) := by
  have h5 : ∀ p, p ≤ L → (pzI tb p).1 = true → (pz5 (pzI tb p)).2.1 ≤ L ∧ ((pz5 (pzI tb p)).1 = true → p + (pz5 (pzI tb p)).2.2.1.length ≤ (pz5 (pzI tb p)).2.1 + 1) := fun p hp h => by
    have h1 := pOk_I hL p hp
    refine ⟨h1.1, fun _ => ?_⟩
    show p + ((pzI tb p).2.2.1 ++ [-59]).length ≤ (pzI tb p).2.1 + 1
    rw [List.length_append, List.length_singleton]
    have := h1.2.2 h
    omega
  intro f
  induction f with
  | zero =>
    intro p hp
    unfold pzT
    by_cases y : (pzI tb p).1 = true
    · rw [if_pos y]
      exact h5 p hp y
    · rw [if_neg y]
      exact ⟨(pOk_I hL p hp).1, fun z => absurd (show false = true from z) (by decide)⟩
  | succ f ih =>
    intro p hp
    rw [pzTS f]
    by_cases y : (pzI tb p).1 = true
    · rw [if_pos y]
      by_cases w : tb (pzI tb p).2.1 = 59
      · rw [if_pos w]
        have h1 := pOk_I hL p hp
        have hp2 := bl_nb hL (fun y => bl_c y (by unfold bl; decide) w)
        have h2 := ih ((pzI tb p).2.1 + 1) hp2
        unfold pz6
        by_cases u : (pzT tb f ((pzI tb p).2.1 + 1)).1 = true
        · rw [if_pos u]
          refine ⟨h2.1, fun _ => ?_⟩
          show p + ((pzI tb p).2.2.1 ++ (-59 :: (pzT tb f ((pzI tb p).2.1 + 1)).2.2.1)).length ≤ (pzT tb f ((pzI tb p).2.1 + 1)).2.1 + 1
          rw [List.length_append, List.length_cons]
          have h3 := h1.2.2 y
          have h4 := h2.2 u
          omega
        · rw [if_neg u]
          exact ⟨h2.1, fun z => absurd (show false = true from z) (by decide)⟩
      · rw [if_neg w]
        exact h5 p hp y
    · rw [if_neg y]
      exact ⟨(pOk_I hL p hp).1, fun z => absurd (show false = true from z) (by decide)⟩

