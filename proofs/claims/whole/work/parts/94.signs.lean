/-! SMALL PARTS ALONE: all alike in sign -/
noncomputable def ns_e (code i : Nat) : Nat := Nat.mod (Nat.div code (Nat.pow 32 i)) 32
noncomputable def ns_d (p : Nat) : Nat := Nat.div (Nat.sub p 1) (Nat.gcd (Nat.sub p 1) 131072)
noncomputable def ns_ok1 (p d b e : Nat) : Bool := @Bool.rec (fun _ => Bool) (Nat.beq (nk_pl b (Nat.mul d (Nat.pow 2 (Nat.sub e 1))) p) (Nat.sub p 1)) (Nat.beq (nk_pl b d p) 1) (Nat.beq e 0)
theorem ns_ok1_s {p d b e : Nat} (h : ns_ok1 p d b e = true) : nt_sg p b d e := by
  unfold ns_ok1 at h
  cases hb : Nat.beq e 0 with
  | true =>
    rw [hb] at h
    have h2 := Nat.eq_of_beq_eq_true h
    rw [nk_pl_s] at h2
    exact Or.inl ⟨Nat.eq_of_beq_eq_true hb, h2⟩
  | false =>
    rw [hb] at h
    have h2 : nk_pl b (d * 2 ^ (e - 1)) p = p - 1 := Nat.eq_of_beq_eq_true h
    rw [nk_pl_s] at h2
    have h3 := Nat.ne_of_beq_eq_false hb
    exact Or.inr ⟨by omega, h2⟩
noncomputable def ns_ok (p code : Nat) : Bool := nk_and (Nat.beq (Nat.mod (ns_d p) 2) 1) (nk_and (ns_ok1 p (ns_d p) 2 (ns_e code 0)) (nk_and (ns_ok1 p (ns_d p) 3 (ns_e code 1)) (nk_and (ns_ok1 p (ns_d p) 5 (ns_e code 2)) (nk_and (ns_ok1 p (ns_d p) 7 (ns_e code 3)) (nk_and (ns_ok1 p (ns_d p) 11 (ns_e code 4)) (ns_ok1 p (ns_d p) 13 (ns_e code 5)))))))
theorem ns_ok_s {p code : Nat} (h : ns_ok p code = true) : ∃ d, d % 2 = 1 ∧ nt_sg p 2 d (ns_e code 0) ∧ nt_sg p 3 d (ns_e code 1) ∧ nt_sg p 5 d (ns_e code 2) ∧ nt_sg p 7 d (ns_e code 3) ∧ nt_sg p 11 d (ns_e code 4) ∧ nt_sg p 13 d (ns_e code 5) := by
  obtain ⟨h0, h⟩ := nk_and_s h
  obtain ⟨h1, h⟩ := nk_and_s h
  obtain ⟨h2, h⟩ := nk_and_s h
  obtain ⟨h3, h⟩ := nk_and_s h
  obtain ⟨h4, h⟩ := nk_and_s h
  obtain ⟨h5, h6⟩ := nk_and_s h
  exact ⟨ns_d p, Nat.eq_of_beq_eq_true h0, ns_ok1_s h1, ns_ok1_s h2, ns_ok1_s h3, ns_ok1_s h4, ns_ok1_s h5, ns_ok1_s h6⟩
theorem ns_code {c1 c2 : Nat} (h1 : c1 < 1073741824) (h2 : c2 < 1073741824) (e0 : ns_e c1 0 = ns_e c2 0) (e1 : ns_e c1 1 = ns_e c2 1) (e2 : ns_e c1 2 = ns_e c2 2) (e3 : ns_e c1 3 = ns_e c2 3) (e4 : ns_e c1 4 = ns_e c2 4) (e5 : ns_e c1 5 = ns_e c2 5) : c1 = c2 := by
  change c1 / 1 % 32 = c2 / 1 % 32 at e0
  change c1 / 32 % 32 = c2 / 32 % 32 at e1
  change c1 / 1024 % 32 = c2 / 1024 % 32 at e2
  change c1 / 32768 % 32 = c2 / 32768 % 32 at e3
  change c1 / 1048576 % 32 = c2 / 1048576 % 32 at e4
  change c1 / 33554432 % 32 = c2 / 33554432 % 32 at e5
  omega
noncomputable def ns_asc (l : List Nat) : Nat → Bool := @List.rec Nat (fun _ => Nat → Bool) (fun _ => true) (fun p _ ih a => nk_and (Nat.ble (Nat.add a 1) p) (ih p)) l
theorem ns_asc_s : ∀ (l : List Nat) (a : Nat), ns_asc l a = true → (∀ x ∈ l, a < x) ∧ l.Pairwise (fun x y => x < y)
  | [], a, _ => ⟨fun x hx => (by cases hx), List.Pairwise.nil⟩
  | p :: l, a, h => by
    obtain ⟨h1, h2⟩ := nk_and_s (a := Nat.ble (Nat.add a 1) p) (b := ns_asc l p) h
    have h3 : a + 1 ≤ p := Nat.le_of_ble_eq_true h1
    obtain ⟨h4, h5⟩ := ns_asc_s l p h2
    refine ⟨fun x hx => ?_, List.Pairwise.cons h4 h5⟩
    rcases List.mem_cons.mp hx with e | e
    · omega
    · have := h4 x e
      omega
noncomputable def ns_dfs (d : Nat) : Nat → List Nat → Bool := @Nat.rec (fun _ => Nat → List Nat → Bool) (fun _ _ => false) (fun _ D P l => @List.rec Nat (fun _ => Bool) true (fun p t ih => @Bool.rec (fun _ => Bool) (nk_and (nk_bad (Nat.mul P p)) (nk_and (D (Nat.mul P p) (List.cons p t)) ih)) true (Nat.ble 1099511627776 (Nat.mul P p))) l) d
theorem ns_dfs_s (d : Nat) : ∀ (l : List Nat) (P R : Nat), l.Pairwise (fun x y => x < y) → ns_dfs d P l = true → 2 ≤ R → 100003 ≤ P * R → P * R < 1099511627776 → (∀ r, np_pr r = true → r ∣ R → r ∈ l) → np_wx (P * R) = false := by
  induction d with
  | zero =>
    intro l P R _ h
    cases h
  | succ d ihd =>
    intro l
    induction l with
    | nil =>
      intro P R _ _ h2 _ _ hp
      have := hp _ (np_lp_pr h2) (np_lp_spec h2).2.1
      cases this
    | cons p t ih =>
      intro P R hs h h2 h3 h4 hp
      rw [List.pairwise_cons] at hs
      change @Bool.rec (fun _ => Bool) (nk_and (nk_bad (P * p)) (nk_and (ns_dfs d (P * p) (List.cons p t)) (ns_dfs (d + 1) P t))) true (Nat.ble 1099511627776 (P * p)) = true at h
      cases hb : Nat.ble 1099511627776 (P * p) with
      | true =>
        exfalso
        have b1 := Nat.le_of_ble_eq_true hb
        have b2 := hp _ (np_lp_pr h2) (np_lp_spec h2).2.1
        have b3 := np_lp_le h2
        have b4 : p ≤ np_lp R := by
          rcases List.mem_cons.mp b2 with e | e
          · omega
          · have := hs.1 _ e
            omega
        have b5 : P * p ≤ P * R := Nat.mul_le_mul_left P (by omega)
        omega
      | false =>
        rw [hb] at h
        obtain ⟨g1, h⟩ := nk_and_s h
        obtain ⟨g2, g3⟩ := nk_and_s h
        by_cases hd : p ∣ R
        · obtain ⟨Q, hQ⟩ := hd
          have e : P * R = P * p * Q := by rw [hQ, Nat.mul_assoc]
          rcases (by omega : Q = 0 ∨ Q = 1 ∨ 2 ≤ Q) with q | q | q
          · rw [q, Nat.mul_zero] at hQ
            omega
          · rw [q, Nat.mul_one] at e
            rw [e] at h3 h4 ⊢
            exact nk_bad_s h3 h4 g1
          · rw [e] at h3 h4 ⊢
            exact ihd (p :: t) (P * p) Q (List.pairwise_cons.mpr hs) g2 q h3 h4 (fun r hr hrd => hp r hr (by rw [hQ]; exact Nat.dvd_mul_left_of_dvd hrd p))
        · refine ih P R hs.2 g3 h2 h3 h4 (fun r hr hrd => ?_)
          rcases List.mem_cons.mp (hp r hr hrd) with e | e
          · rw [e] at hrd
            exact absurd hrd hd
          · exact e
noncomputable def ns_top (l : List Nat) : Bool := @List.rec Nat (fun _ => Bool) true (fun p t ih => nk_and (ns_dfs 12 p (List.cons p t)) ih) l
theorem ns_top_s {n : Nat} (h1 : 100003 ≤ n) (h2 : n < 1099511627776) (hn : np_lp n ≠ n) : ∀ l : List Nat, l.Pairwise (fun x y => x < y) → ns_top l = true → (∀ r, np_pr r = true → r ∣ n → r ∈ l) → np_wx n = false := by
  intro l
  have n2 : 2 ≤ n := by omega
  induction l with
  | nil =>
    intro _ _ hp
    have := hp _ (np_lp_pr n2) (np_lp_spec n2).2.1
    cases this
  | cons p t ih =>
    intro hs h hp
    obtain ⟨g1, g2⟩ := nk_and_s (a := ns_dfs 12 p (List.cons p t)) (b := ns_top t) h
    obtain ⟨c1, ⟨R, hR⟩, c3⟩ := np_lp_spec n2
    by_cases e : np_lp n = p
    · rw [e] at hR
      have R2 : 2 ≤ R := by
        refine Nat.le_of_not_lt (fun z => ?_)
        have z2 : R = 0 ∨ R = 1 := by omega
        rcases z2 with z2 | z2
        · rw [z2, Nat.mul_zero] at hR
          omega
        · rw [z2, Nat.mul_one] at hR
          exact hn (by rw [e, hR])
      have key := ns_dfs_s 12 (p :: t) p R hs g1 R2 (by rw [← hR]; exact h1) (by rw [← hR]; exact h2) (fun r hr hrd => hp r hr (by rw [hR]; exact Nat.dvd_mul_left_of_dvd hrd p))
      rw [← hR] at key
      exact key
    · rw [List.pairwise_cons] at hs
      have m1 : np_lp n ∈ t := by
        rcases List.mem_cons.mp (hp _ (np_lp_pr n2) (np_lp_spec n2).2.1) with z | z
        · exact absurd z e
        · exact z
      have m2 := hs.1 _ m1
      refine ih hs.2 g2 (fun r hr hrd => ?_)
      rcases List.mem_cons.mp (hp r hr hrd) with z | z
      · have := c3 r (np_pr_dvd.mp hr).1 hrd
        omega
      · exact z
noncomputable def ns_cl (x : Nat × List Nat) : Bool := nk_and (Nat.ble (Nat.add x.1 1) 1073741824) (nk_and (nk_la (fun p => ns_ok p x.1) x.2) (nk_and (ns_asc x.2 13) (ns_top x.2)))
noncomputable def ns_gl (g : List (Nat × List Nat)) : Bool := @List.rec (Nat × List Nat) (fun _ => Bool) true (fun x _ ih => nk_and (ns_cl x) ih) g
theorem ns_gl_s {x : Nat × List Nat} : ∀ g : List (Nat × List Nat), ns_gl g = true → x ∈ g → ns_cl x = true
  | [], _, h => by cases h
  | y :: g, h, hx => by
    obtain ⟨h1, h2⟩ := nk_and_s (a := ns_cl y) (b := ns_gl g) h
    rcases List.mem_cons.mp hx with e | e
    · rw [e]; exact h1
    · exact ns_gl_s g h2 e
/-! each sign once -/
noncomputable def ns_a2 (hi : Nat) (g : List (Nat × List Nat)) : Nat → Bool := @List.rec (Nat × List Nat) (fun _ => Nat → Bool) (fun a => Nat.ble a hi) (fun x _ ih a => nk_and (Nat.ble a x.1) (ih (Nat.add x.1 1))) g
theorem ns_a2_s {hi : Nat} : ∀ (g : List (Nat × List Nat)) (a : Nat), ns_a2 hi g a = true → a ≤ hi ∧ (∀ x ∈ g, a ≤ x.1 ∧ x.1 < hi) ∧ ∀ x ∈ g, ∀ y ∈ g, x.1 = y.1 → x = y
  | [], a, h => ⟨Nat.le_of_ble_eq_true h, fun x hx => (by cases hx), fun x hx => (by cases hx)⟩
  | z :: g, a, h => by
    obtain ⟨h1, h2⟩ := nk_and_s (a := Nat.ble a z.1) (b := ns_a2 hi g (Nat.add z.1 1)) h
    have h3 := Nat.le_of_ble_eq_true h1
    obtain ⟨k1, k2, k3⟩ := ns_a2_s g (z.1 + 1) h2
    refine ⟨by omega, fun x hx => ?_, fun x hx y hy e => ?_⟩
    · rcases List.mem_cons.mp hx with c | c
      · rw [c]; omega
      · have := k2 x c
        omega
    · rcases List.mem_cons.mp hx with c | c
      · rcases List.mem_cons.mp hy with f | f
        · rw [c, f]
        · have := k2 y f
          rw [c] at e
          omega
      · rcases List.mem_cons.mp hy with f | f
        · have := k2 x c
          rw [f] at e
          omega
        · exact k3 x c y f e
noncomputable def ns_a3 (T : List (Nat × List (Nat × List Nat))) : Nat → Bool := @List.rec (Nat × List (Nat × List Nat)) (fun _ => Nat → Bool) (fun _ => true) (fun y _ ih a => nk_and (ns_a2 y.1 y.2 a) (ih y.1)) T
theorem ns_a3_s : ∀ (T : List (Nat × List (Nat × List Nat))) (a : Nat), ns_a3 T a = true → (∀ y ∈ T, ∀ x ∈ y.2, a ≤ x.1) ∧ ∀ y ∈ T, ∀ x ∈ y.2, ∀ y' ∈ T, ∀ x' ∈ y'.2, x.1 = x'.1 → x = x'
  | [], a, _ => ⟨fun y hy => (by cases hy), fun y hy => (by cases hy)⟩
  | z :: T, a, h => by
    obtain ⟨h1, h2⟩ := nk_and_s (a := ns_a2 z.1 z.2 a) (b := ns_a3 T z.1) h
    obtain ⟨k1, k2, k3⟩ := ns_a2_s z.2 a h1
    obtain ⟨m1, m2⟩ := ns_a3_s T z.1 h2
    refine ⟨fun y hy x hx => ?_, fun y hy x hx y' hy' x' hx' e => ?_⟩
    · rcases List.mem_cons.mp hy with c | c
      · rw [c] at hx
        exact (k2 x hx).1
      · have := m1 y c x hx
        omega
    · rcases List.mem_cons.mp hy with c | c
      · rw [c] at hx
        rcases List.mem_cons.mp hy' with f | f
        · rw [f] at hx'
          exact k3 x hx x' hx' e
        · have g1 := (k2 x hx).2
          have g2 := m1 y' f x' hx'
          omega
      · rcases List.mem_cons.mp hy' with f | f
        · rw [f] at hx'
          have g1 := (k2 x' hx').2
          have g2 := m1 y c x hx
          omega
        · exact m2 y c x hx y' f x' hx' e
/-! each small whole number has its sign -/
noncomputable def ns_b1 (l : List Nat) : Nat := @List.rec Nat (fun _ => Nat) 0 (fun p _ ih => Nat.lor (Nat.pow 2 p) ih) l
noncomputable def ns_b2 (g : List (Nat × List Nat)) : Nat := @List.rec (Nat × List Nat) (fun _ => Nat) 0 (fun x _ ih => Nat.lor (ns_b1 x.2) ih) g
noncomputable def ns_b3 (T : List (Nat × List (Nat × List Nat))) : Nat := @List.rec (Nat × List (Nat × List Nat)) (fun _ => Nat) 0 (fun y _ ih => Nat.lor (ns_b2 y.2) ih) T
theorem ns_b1_s {r : Nat} : ∀ l : List Nat, (ns_b1 l).testBit r = true → r ∈ l
  | [], h => by
    change (0 : Nat).testBit r = true at h
    rw [Nat.zero_testBit] at h
    cases h
  | p :: l, h => by
    change (2 ^ p ||| ns_b1 l).testBit r = true at h
    rw [Nat.testBit_or, Bool.or_eq_true, Nat.testBit_two_pow, decide_eq_true_eq] at h
    rcases h with h | h
    · rw [h]; exact List.mem_cons_self
    · exact List.mem_cons_of_mem _ (ns_b1_s l h)
theorem ns_b2_s {r : Nat} : ∀ g : List (Nat × List Nat), (ns_b2 g).testBit r = true → ∃ x ∈ g, r ∈ x.2
  | [], h => by
    change (0 : Nat).testBit r = true at h
    rw [Nat.zero_testBit] at h
    cases h
  | x :: g, h => by
    change (ns_b1 x.2 ||| ns_b2 g).testBit r = true at h
    rw [Nat.testBit_or, Bool.or_eq_true] at h
    rcases h with h | h
    · exact ⟨x, List.mem_cons_self, ns_b1_s _ h⟩
    · obtain ⟨y, h1, h2⟩ := ns_b2_s g h
      exact ⟨y, List.mem_cons_of_mem _ h1, h2⟩
theorem ns_b3_s {r : Nat} : ∀ T : List (Nat × List (Nat × List Nat)), (ns_b3 T).testBit r = true → ∃ y ∈ T, ∃ x ∈ y.2, r ∈ x.2
  | [], h => by
    change (0 : Nat).testBit r = true at h
    rw [Nat.zero_testBit] at h
    cases h
  | x :: g, h => by
    change (ns_b2 x.2 ||| ns_b3 g).testBit r = true at h
    rw [Nat.testBit_or, Bool.or_eq_true] at h
    rcases h with h | h
    · exact ⟨x, List.mem_cons_self, ns_b2_s _ h⟩
    · obtain ⟨y, h1, h2⟩ := ns_b3_s g h
      exact ⟨y, List.mem_cons_of_mem _ h1, h2⟩
noncomputable def ns_in (B r : Nat) : Bool := Nat.beq (Nat.land (Nat.shiftRight B r) 1) 1
theorem ns_in_s {B r : Nat} (h : ns_in B r = true) : B.testBit r = true := by
  have e : (B >>> r) &&& 1 = 1 := Nat.eq_of_beq_eq_true h
  have e2 : ((B >>> r) &&& 1).testBit 0 = true := (congrArg (fun z => Nat.testBit z 0) e).trans (by decide)
  rw [Nat.testBit_and, Nat.testBit_shiftRight, Bool.and_eq_true] at e2
  exact e2.1
noncomputable def ns_cv (B Q j : Nat) : Bool := @Bool.rec (fun _ => Bool) true (ns_in B (Nat.add (Nat.mul 2 j) 1)) (Nat.beq (Nat.gcd (Nat.add (Nat.mul 2 j) 1) Q) 1)
theorem ns_cv_s {B Q j r : Nat} (hr : r = 2 * j + 1) (hQ : Nat.gcd r Q = 1) (h : ns_cv B Q j = true) : B.testBit r = true := by
  change @Bool.rec (fun _ => Bool) true (ns_in B (2 * j + 1)) (Nat.beq (Nat.gcd (2 * j + 1) Q) 1) = true at h
  rw [← hr, hQ] at h
  exact ns_in_s h
theorem ns_17 : ∀ r, r < 17 → np_pr r = true → r ∈ [2, 3, 5, 7, 11, 13] := by decide +kernel
/-- no number with small parts alone passes -/
theorem ns_small {T : List (Nat × List (Nat × List Nat))} (A1 : ∀ y ∈ T, ns_gl y.2 = true) (A2 : ∀ y ∈ T, ∀ x ∈ y.2, ∀ y' ∈ T, ∀ x' ∈ y'.2, x.1 = x'.1 → x = x') (A3 : ∀ r, np_pr r = true → 17 ≤ r → r ≤ 131072 → ∃ y ∈ T, ∃ x ∈ y.2, r ∈ x.2) {n : Nat} (h1 : 100003 ≤ n) (h2 : n < 1099511627776) (hn : np_lp n ≠ n) (hq : ∀ r, np_pr r = true → r ∣ n → r ≤ 131072) : np_wx n = false := by
  cases hw : np_wx n with
  | false => rfl
  | true =>
    exfalso
    have n2 : 2 ≤ n := by omega
    have A0 : ∀ y ∈ T, ∀ x ∈ y.2, x.1 < 1073741824 ∧ nk_and (nk_la (fun p => ns_ok p x.1) x.2) (nk_and (ns_asc x.2 13) (ns_top x.2)) = true := fun y hy x hx => by
      obtain ⟨z1, z2⟩ := nk_and_s (ns_gl_s y.2 (A1 y hy) hx)
      exact ⟨Nat.le_of_ble_eq_true z1, z2⟩
    obtain ⟨D0, E0, d0, g0⟩ := nt_ex h1 h2 (b := 2) (by decide) hw
    obtain ⟨D1, E1, d1, g1⟩ := nt_ex h1 h2 (b := 3) (by decide) hw
    obtain ⟨D2, E2, d2, g2⟩ := nt_ex h1 h2 (b := 5) (by decide) hw
    obtain ⟨D3, E3, d3, g3⟩ := nt_ex h1 h2 (b := 7) (by decide) hw
    obtain ⟨D4, E4, d4, g4⟩ := nt_ex h1 h2 (b := 11) (by decide) hw
    obtain ⟨D5, E5, d5, g5⟩ := nt_ex h1 h2 (b := 13) (by decide) hw
    have sg : ∀ r, np_pr r = true → r ∣ n → ∃ y ∈ T, ∃ x ∈ y.2, r ∈ x.2 ∧ (ns_e x.1 0 = E0 ∧ ns_e x.1 1 = E1 ∧ ns_e x.1 2 = E2 ∧ ns_e x.1 3 = E3 ∧ ns_e x.1 4 = E4 ∧ ns_e x.1 5 = E5) := by
      intro r hr hrn
      have r17 : 17 ≤ r := by
        refine Nat.le_of_not_lt (fun z => ?_)
        have m := ns_17 r z hr
        exact ((nt_wx h1 h2).mp hw r m).1 hrn
      obtain ⟨y, hy, x, hx, hrx⟩ := A3 r hr r17 (hq r hr hrn)
      have a1 := (A0 y hy x hx).2
      obtain ⟨b1, _⟩ := nk_and_s a1
      have b2 := nk_la_s _ b1 hrx
      obtain ⟨d, hd, s0, s1, s2, s3, s4, s5⟩ := ns_ok_s b2
      have f : ∀ {b D E e : Nat}, nt_sg r b d e → nt_sg n b D E → D % 2 = 1 → e = E := fun s g o => nt_sgeq (by omega) s (nt_red (by omega) (by omega) hrn g) hd o
      exact ⟨y, hy, x, hx, hrx, f s0 g0 d0, f s1 g1 d1, f s2 g2 d2, f s3 g3 d3, f s4 g4 d4, f s5 g5 d5⟩
    obtain ⟨y, hy, x, hx, _, c0, c1, c2, c3, c4, c5⟩ := sg _ (np_lp_pr n2) (np_lp_spec n2).2.1
    have all : ∀ r, np_pr r = true → r ∣ n → r ∈ x.2 := by
      intro r hr hrn
      obtain ⟨y', hy', x', hx', hrx, k0, k1, k2, k3, k4, k5⟩ := sg r hr hrn
      have e := ns_code (A0 y hy x hx).1 (A0 y' hy' x' hx').1 (c0.trans k0.symm) (c1.trans k1.symm) (c2.trans k2.symm) (c3.trans k3.symm) (c4.trans k4.symm) (c5.trans k5.symm)
      rw [A2 y hy x hx y' hy' x' hx' e]
      exact hrx
    obtain ⟨_, b⟩ := nk_and_s (A0 y hy x hx).2
    obtain ⟨b1, b2⟩ := nk_and_s b
    have := ns_top_s h1 h2 hn x.2 (ns_asc_s _ _ b1).2 b2 all
    rw [hw] at this
    cases this
/-- every number: what passes is whole -/
theorem ns_whole (B : ∀ n q, 100003 ≤ n → n < 1099511627776 → np_pr q = true → 131072 < q → q ∣ n → q ≠ n → np_wx n = false) (S : ∀ n, 100003 ≤ n → n < 1099511627776 → np_lp n ≠ n → (∀ r, np_pr r = true → r ∣ n → r ≤ 131072) → np_wx n = false) (n : Nat) : np_wx n = np_pr n := by
  by_cases h : n < 100003 ∨ 1099511627776 ≤ n
  · unfold np_wx
    rw [if_pos h]
  · have h1 : 100003 ≤ n := by omega
    have h2 : n < 1099511627776 := by omega
    by_cases hp : np_pr n = true
    · rw [hp, nt_prime h1 h2 hp]
    · have hl : np_lp n ≠ n := fun e => hp (np_pr_iff.mpr ⟨by omega, e⟩)
      have e : np_pr n = false := by simpa using hp
      rw [e]
      by_cases hq : ∃ q, np_pr q = true ∧ q ∣ n ∧ 131072 < q
      · obtain ⟨q, q1, q2, q3⟩ := hq
        exact B n q h1 h2 q1 q3 q2 (fun z => hp (by rw [← z]; exact q1))
      · exact S n h1 h2 hl (fun r r1 r2 => Nat.le_of_not_lt (fun z => hq ⟨r, r1, r2, z⟩))
