/-! FEWEST -/
def fw_p (P : Nat → Bool) (F : Nat → Nat) (v a x : Nat) : Prop := x ≤ 10 ∧ (∀ b, 2 ≤ b → b < a → b ≤ v → P b = true → x ≤ F (v - b) + 1) ∧ (x = 10 ∨ ∃ b, 2 ≤ b ∧ b ≤ v ∧ P b = true ∧ x = F (v - b) + 1)
def fw_is (P : Nat → Bool) (F : Nat → Nat) (v x : Nat) : Prop := fw_p P F v (v + 1) x
def fw_T (P : Nat → Bool) (F : Nat → Nat) (N : Nat) : Prop := F 0 = 0 ∧ ∀ v, 1 ≤ v → v ≤ N → fw_is P F v (F v)
theorem fw_ge {P : Nat → Bool} {F : Nat → Nat} {N v : Nat} (h : fw_T P F N) (h1 : 1 ≤ v) (h2 : v ≤ N) : 1 ≤ F v ∧ F v ≤ 10 := by
  obtain ⟨a, _, c⟩ := h.2 v h1 h2
  refine ⟨?_, a⟩
  rcases c with c | ⟨b, _, _, _, c⟩ <;> omega
theorem fw_le {P : Nat → Bool} {F : Nat → Nat} {N v : Nat} (h : fw_T P F N) (h2 : v ≤ N) : F v ≤ 10 := by
  by_cases z : v = 0
  · rw [z, h.1]; omega
  · exact (fw_ge h (by omega) h2).2
theorem fw_mono {P : Nat → Bool} {F : Nat → Nat} {N M : Nat} (h : fw_T P F N) (hm : M ≤ N) : fw_T P F M := ⟨h.1, fun v h1 h2 => h.2 v h1 (by omega)⟩
theorem fw_cP {P P' : Nat → Bool} {F : Nat → Nat} {N : Nat} (h : fw_T P F N) (e : ∀ a, a ≤ N → P a = P' a) : fw_T P' F N := by
  refine ⟨h.1, fun v h1 h2 => ?_⟩
  obtain ⟨a, b, c⟩ := h.2 v h1 h2
  refine ⟨a, fun z z1 z2 z3 z4 => b z z1 z2 z3 (by rw [e z (by omega)]; exact z4), ?_⟩
  rcases c with c | ⟨z, z1, z2, z3, z4⟩
  · exact Or.inl c
  · exact Or.inr ⟨z, z1, z2, by rw [← e z (by omega)]; exact z3, z4⟩
theorem fw_uq {P : Nat → Bool} {F F' : Nat → Nat} {N : Nat} (h : fw_T P F N) (h' : fw_T P F' N) : ∀ v, v ≤ N → F v = F' v := by
  intro v
  induction v using Nat.strongRecOn with
  | _ v ih =>
    intro hv
    by_cases z : v = 0
    · rw [z, h.1, h'.1]
    · obtain ⟨a1, b1, c1⟩ := h.2 v (by omega) hv
      obtain ⟨a2, b2, c2⟩ := h'.2 v (by omega) hv
      have g1 : F v ≤ F' v := by
        rcases c2 with c | ⟨b, y1, y2, y3, y4⟩
        · omega
        · have := b1 b y1 (by omega) y2 y3
          rw [ih (v - b) (by omega) (by omega)] at this
          omega
      have g2 : F' v ≤ F v := by
        rcases c1 with c | ⟨b, y1, y2, y3, y4⟩
        · omega
        · have := b2 b y1 (by omega) y2 y3
          rw [← ih (v - b) (by omega) (by omega)] at this
          omega
      omega
theorem fw_ext {P : Nat → Bool} {F : Nat → Nat} {N x : Nat} (h : fw_T P F N) (hx : fw_is P F (N + 1) x) : fw_T P (fun v => if v = N + 1 then x else F v) (N + 1) := by
  refine ⟨by dsimp only; rw [if_neg (by omega)]; exact h.1, fun v h1 h2 => ?_⟩
  have key : ∀ y, fw_is P F v y → fw_is P (fun v => if v = N + 1 then x else F v) v y := by
    rintro y ⟨a, b, c⟩
    refine ⟨a, fun z z1 z2 z3 z4 => ?_, ?_⟩
    · dsimp only
      rw [if_neg (by omega)]
      exact b z z1 z2 z3 z4
    · rcases c with c | ⟨z, z1, z2, z3, z4⟩
      · exact Or.inl c
      · refine Or.inr ⟨z, z1, z2, z3, ?_⟩
        dsimp only
        rw [if_neg (by omega)]
        exact z4
  dsimp only
  by_cases e : v = N + 1
  · rw [if_pos e]
    exact key x (by rw [e]; exact hx)
  · rw [if_neg e]
    exact key _ (h.2 v h1 (by omega))
/-- the greatest that leads on -/
def gs (P : Nat → Bool) (F : Nat → Nat) (m : Nat) : Nat → Nat
  | 0 => 0
  | a + 1 => if P (a + 1) = true ∧ F (m - (a + 1)) + 1 = F m then a + 1 else gs P F m a
def gf (P : Nat → Bool) (F : Nat → Nat) (m : Nat) : Nat := gs P F m m
theorem gs_no {P : Nat → Bool} {F : Nat → Nat} {m : Nat} : ∀ b, (∀ a, a ≤ b → ¬ (P a = true ∧ F (m - a) + 1 = F m)) → gs P F m b = 0
  | 0, _ => rfl
  | b + 1, h => by
    unfold gs
    rw [if_neg (h _ (Nat.le_refl _))]
    exact gs_no b (fun a ha => h a (by omega))
theorem gs_at {P : Nat → Bool} {F : Nat → Nat} {m a : Nat} (h0 : 1 ≤ a) (h1 : P a = true ∧ F (m - a) + 1 = F m) : ∀ b, a ≤ b → (∀ c, a < c → c ≤ b → ¬ (P c = true ∧ F (m - c) + 1 = F m)) → gs P F m b = a
  | 0, hb, _ => by omega
  | b + 1, hb, h => by
    unfold gs
    by_cases e : a = b + 1
    · rw [← e, if_pos h1]
    · rw [if_neg (h (b + 1) (by omega) (Nat.le_refl _))]
      exact gs_at h0 h1 b (by omega) (fun c c1 c2 => h c c1 (by omega))
theorem gs_sp {P : Nat → Bool} {F : Nat → Nat} {m : Nat} : ∀ b, (∃ a, 1 ≤ a ∧ a ≤ b ∧ P a = true ∧ F (m - a) + 1 = F m) → 1 ≤ gs P F m b ∧ gs P F m b ≤ b ∧ P (gs P F m b) = true ∧ F (m - gs P F m b) + 1 = F m ∧ ∀ c, gs P F m b < c → c ≤ b → ¬ (P c = true ∧ F (m - c) + 1 = F m)
  | 0, ⟨a, h1, h2, _⟩ => by omega
  | b + 1, ⟨a, h1, h2, h3, h4⟩ => by
    unfold gs
    by_cases e : P (b + 1) = true ∧ F (m - (b + 1)) + 1 = F m
    · rw [if_pos e]
      exact ⟨by omega, Nat.le_refl _, e.1, e.2, fun c c1 c2 => by omega⟩
    · rw [if_neg e]
      have hne : a ≠ b + 1 := fun z => e (by rw [← z]; exact ⟨h3, h4⟩)
      obtain ⟨g1, g2, g3, g4, g5⟩ := gs_sp b ⟨a, h1, by omega, h3, h4⟩
      refine ⟨g1, by omega, g3, g4, fun c c1 c2 => ?_⟩
      by_cases z : c = b + 1
      · rw [z]; exact e
      · exact g5 c c1 (by omega)
theorem gf_sp {P : Nat → Bool} {F : Nat → Nat} {N q : Nat} (h : fw_T P F N) (h1 : 1 ≤ q) (h2 : q ≤ N) (h9 : F q ≤ 9) : 1 ≤ gf P F q ∧ gf P F q ≤ q ∧ P (gf P F q) = true ∧ F (q - gf P F q) + 1 = F q ∧ ∀ c, gf P F q < c → c ≤ q → ¬ (P c = true ∧ F (q - c) + 1 = F q) := by
  obtain ⟨_, _, c⟩ := h.2 q h1 h2
  rcases c with c | ⟨b, z1, z2, z3, z4⟩
  · omega
  · exact gs_sp q ⟨b, by omega, z2, z3, z4.symm⟩
def fa (P : Nat → Bool) (F : Nat → Nat) : Nat → Nat → Nat
  | 0, q => gf P F q
  | k + 1, q => fa P F k (q - gf P F q)
theorem gs_c {P P' : Nat → Bool} {F F' : Nat → Nat} {N m : Nat} (hP : ∀ a, a ≤ N → P a = P' a) (hF : ∀ a, a ≤ N → F a = F' a) (hm : m ≤ N) : ∀ b, b ≤ m → gs P F m b = gs P' F' m b
  | 0, _ => rfl
  | b + 1, h => by
    unfold gs
    rw [hP _ (by omega), hF _ (by omega), hF _ hm, gs_c hP hF hm b (by omega)]
theorem fa_c {P P' : Nat → Bool} {F F' : Nat → Nat} {N : Nat} (hP : ∀ a, a ≤ N → P a = P' a) (hF : ∀ a, a ≤ N → F a = F' a) : ∀ k q, q ≤ N → fa P F k q = fa P' F' k q
  | 0, q, h => gs_c hP hF h q (Nat.le_refl _)
  | k + 1, q, h => by
    unfold fa
    rw [show gf P F q = gf P' F' q from gs_c hP hF h q (Nat.le_refl _)]
    exact fa_c hP hF k _ (by omega)
def fwv (P : Nat → Bool) (F : Nat → Nat) (n : Nat) (i : Int32) : Int32 := if 9 < F n then -2 else if i = -1 then nI (F n) else if i < nI (F n) then nI (fa P F i.toNatClampNeg n) else -1
theorem fwv_c {P P' : Nat → Bool} {F F' : Nat → Nat} {n : Nat} {i : Int32} (h : fw_T P F n) (h' : fw_T P' F' n) (hP : ∀ a, a ≤ n → P a = P' a) : fwv P F n i = fwv P' F' n i := by
  have hF := fw_uq (fw_cP h hP) h'
  unfold fwv
  rw [hF n (Nat.le_refl _), fa_c hP hF _ n (Nat.le_refl _)]
/-- the lawful ones up to N, rising -/
def on_ok (P : Nat → Bool) (N m : Nat) (O : Nat → Nat) : Prop := m ≤ N ∧ (∀ i, i < m → 2 ≤ O i ∧ O i ≤ N ∧ P (O i) = true) ∧ (∀ a, 2 ≤ a → a ≤ N → P a = true → ∃ i, i < m ∧ O i = a) ∧ ∀ i j, i < j → j < m → O i < O j
theorem on_no {P : Nat → Bool} {N m : Nat} {O : Nat → Nat} (h : on_ok P N m O) (hp : P (N + 1) = false) : on_ok P (N + 1) m O := by
  obtain ⟨h1, h2, h3, h4⟩ := h
  refine ⟨by omega, fun i hi => ⟨(h2 i hi).1, by have := (h2 i hi).2.1; omega, (h2 i hi).2.2⟩, fun a a1 a2 a3 => h3 a a1 ?_ a3, h4⟩
  have : a ≠ N + 1 := fun z => by rw [z, hp] at a3; cases a3
  omega
theorem on_yes {P : Nat → Bool} {N m : Nat} {O : Nat → Nat} (h : on_ok P N m O) (hp : P (N + 1) = true) (h2' : 2 ≤ N + 1) : on_ok P (N + 1) (m + 1) (fun i => if i = m then N + 1 else O i) := by
  obtain ⟨h1, h2, h3, h4⟩ := h
  refine ⟨by omega, fun i hi => ?_, fun a a1 a2 a3 => ?_, fun i j hij hj => ?_⟩
  · dsimp only
    by_cases z : i = m
    · rw [if_pos z]; exact ⟨h2', Nat.le_refl _, hp⟩
    · rw [if_neg z]
      have := h2 i (by omega)
      exact ⟨this.1, by omega, this.2.2⟩
  · by_cases z : a = N + 1
    · exact ⟨m, by omega, by dsimp only; rw [if_pos rfl, z]⟩
    · obtain ⟨i, i1, i2⟩ := h3 a a1 (by omega) a3
      exact ⟨i, by omega, by dsimp only; rw [if_neg (by omega)]; exact i2⟩
  · dsimp only
    rw [if_neg (by omega)]
    by_cases z : j = m
    · rw [if_pos z]
      have := h2 i (by omega)
      omega
    · rw [if_neg z]
      exact h4 i j hij (by omega)
theorem np_lx2 {law n : Nat} (h : np_lx law n = true) : 2 ≤ n := by
  apply Nat.le_of_not_lt
  intro z
  rw [np_lx0 (by omega)] at h
  unfold np_l0 at h
  rw [if_pos z] at h
  cases h
theorem np_lm2 {law n : Nat} (h : np_lm law n = true) : 2 ≤ n := by
  unfold np_lm at h
  apply Nat.le_of_not_lt
  intro z
  rw [if_pos z] at h
  cases h
/-- the class's table, as it stands for a law -/
def fx_D (P : Nat → Bool) (S : vs_S) (N : Nat) (F O : Nat → Nat) (m : Nat) : Prop := fw_T P F N ∧ on_ok P N m O ∧ (∀ v, v ≤ N → S.2.1 7 v = nI (F v)) ∧ (∀ i, i < m → S.2.1 6 i = nI (O i)) ∧ S.1 1 = nI m
def fx_ok (S : vs_S) : Prop := S.2.1 7 0 = 0 ∧ (S.1 2 = -2 ∨ ∃ l, l ≤ 3 ∧ S.1 2 = nI l ∧ ∃ F O m, fx_D (np_lx l) S 2000 F O m)
theorem fx_Dfr {P : Nat → Bool} {ks is js : List Nat} {S S1 : vs_S} {N m : Nat} {F O : Nat → Nat} (h : fx_D P S N F O m) (f : vs_fr ks is js S S1) (d1 : 1 ∉ ks) (d2 : 6 ∉ is ∧ 7 ∉ is) : fx_D P S1 N F O m := by
  unfold fx_D
  rw [f.1 1 d1, f.2.1 6 d2.1, f.2.1 7 d2.2]
  exact h
theorem fx_okfr {ks is js : List Nat} {S S1 : vs_S} (h : fx_ok S) (f : vs_fr ks is js S S1) (d1 : 1 ∉ ks ∧ 2 ∉ ks) (d2 : 6 ∉ is ∧ 7 ∉ is) : fx_ok S1 := by
  unfold fx_ok
  rw [f.1 2 d1.2, f.2.1 7 d2.2]
  rcases h with ⟨h1, h2 | ⟨l, h3, h4, F, O, m, h5⟩⟩
  · exact ⟨h1, Or.inl h2⟩
  · exact ⟨h1, Or.inr ⟨l, h3, h4, F, O, m, fx_Dfr h5 f d1.1 d2⟩⟩
theorem fw_p1 {P : Nat → Bool} {F : Nat → Nat} {v : Nat} : fw_p P F v 2 10 := ⟨Nat.le_refl _, fun b h1 h2 => by omega, Or.inl rfl⟩
theorem fw_pn {P : Nat → Bool} {F : Nat → Nat} {v a x : Nat} (h : fw_p P F v a x) (hn : ¬ (P a = true ∧ F (v - a) + 1 < x)) : fw_p P F v (a + 1) x := by
  refine ⟨h.1, fun b h1 h2 h3 h4 => ?_, h.2.2⟩
  by_cases z : b = a
  · subst z
    apply Nat.le_of_not_lt
    intro y
    exact hn ⟨h4, y⟩
  · exact h.2.1 b h1 (by omega) h3 h4
theorem fw_py {P : Nat → Bool} {F : Nat → Nat} {v a x : Nat} (h : fw_p P F v a x) (h2 : 2 ≤ a) (hav : a ≤ v) (hp : P a = true) (hl : F (v - a) + 1 < x) : fw_p P F v (a + 1) (F (v - a) + 1) := by
  refine ⟨by have := h.1; omega, fun b h1 h2 h3 h4 => ?_, Or.inr ⟨a, h2, hav, hp, rfl⟩⟩
  by_cases z : b = a
  · subst z; omega
  · have := h.2.1 b h1 (by omega) h3 h4
    omega

