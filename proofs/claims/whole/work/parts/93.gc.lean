/-! WINDOWS BY FIVES: whole numbers that lie in fives of one shape -/
def gc_A : List Nat := [0, 17, 28, 45, 56]
noncomputable def gc_Ep1 : { x : Nat // x = gb_fo gb_S1 gc_A 0 } := ⟨_, by conv => rhs; whnf⟩
noncomputable def gc_E1 : Nat := gc_Ep1.1
noncomputable def gc_Ep7 : { x : Nat // x = gb_fo gb_S7 gc_A 0 } := ⟨_, by conv => rhs; whnf⟩
noncomputable def gc_E7 : Nat := gc_Ep7.1
noncomputable def gc_Ep11 : { x : Nat // x = gb_fo gb_S11 gc_A 0 } := ⟨_, by conv => rhs; whnf⟩
noncomputable def gc_E11 : Nat := gc_Ep11.1
noncomputable def gc_Ep13 : { x : Nat // x = gb_fo gb_S13 gc_A 0 } := ⟨_, by conv => rhs; whnf⟩
noncomputable def gc_E13 : Nat := gc_Ep13.1
noncomputable def gc_Ep17 : { x : Nat // x = gb_fo gb_S17 gc_A 0 } := ⟨_, by conv => rhs; whnf⟩
noncomputable def gc_E17 : Nat := gc_Ep17.1
noncomputable def gc_Ep19 : { x : Nat // x = gb_fo gb_S19 gc_A 0 } := ⟨_, by conv => rhs; whnf⟩
noncomputable def gc_E19 : Nat := gc_Ep19.1
noncomputable def gc_Ep23 : { x : Nat // x = gb_fo gb_S23 gc_A 0 } := ⟨_, by conv => rhs; whnf⟩
noncomputable def gc_E23 : Nat := gc_Ep23.1
noncomputable def gc_Ep29 : { x : Nat // x = gb_fo gb_S29 gc_A 0 } := ⟨_, by conv => rhs; whnf⟩
noncomputable def gc_E29 : Nat := gc_Ep29.1
def gc_EP (E c : Nat) : Prop := ∀ k, Nat.testBit E k = true → ∃ a ∈ gc_A, ∃ p, np_pr p = true ∧ p % 2 = 1 ∧ p = 30 * (k + a) + c
theorem gc_fob {S k : Nat} : ∀ (l : List Nat) (acc : Nat), (gb_fo S l acc).testBit k = true → acc.testBit k = true ∨ ∃ a ∈ l, S.testBit (a + k) = true
  | [], acc, h => Or.inl h
  | t :: l, acc, h => by
    rcases gc_fob l (Nat.lor acc (Nat.shiftRight S t)) h with h1 | ⟨a, h1, h2⟩
    · change (acc ||| (S >>> t)).testBit k = true at h1
      rw [Nat.testBit_or, Bool.or_eq_true, Nat.testBit_shiftRight] at h1
      rcases h1 with h1 | h1
      · exact Or.inl h1
      · exact Or.inr ⟨t, List.mem_cons_self, h1⟩
    · exact Or.inr ⟨a, List.mem_cons_of_mem _ h1, h2⟩
theorem gc_EP_s {S c : Nat} (hS : gb_SP S (c + 30)) : gc_EP (gb_fo S gc_A 0) c := by
  intro k hk
  rcases gc_fob gc_A 0 hk with h | ⟨a, h1, h2⟩
  · rw [Nat.zero_testBit] at h
    cases h
  · obtain ⟨p, p1, p2, p3⟩ := hS _ h2
    exact ⟨a, h1, p, p1, p2, by omega⟩
def gc_QL (Wc : Nat) (l : List Nat) : Prop := ∀ t ∈ l, 1 ≤ t ∧ ∀ a ∈ gc_A, ∃ q, np_pr q = true ∧ q % 2 = 1 ∧ q + 30 * (t + a) = Wc
noncomputable def gc_fo (E d h : Nat) (l : List Nat) : Nat → Nat := @List.rec Nat (fun _ => Nat → Nat) (fun acc => acc) (fun t _ ih acc => @Bool.rec (fun _ => Nat) acc (ih (Nat.lor acc (Nat.shiftRight E (Nat.sub t d)))) (Nat.ble t h)) l
theorem gc_fo_s {E W r c c' d h : Nat} (hE : gc_EP E c) (e : c + c' = r + 30 * d) (hd : d ≤ 1) : ∀ (l : List Nat) (acc : Nat), gc_QL (W + c') l → gb_GA W r acc → gb_GA W r (gc_fo E d h l acc)
  | [], acc, _, g => g
  | t :: l, acc, hl, g => by
    change gb_GA W r (@Bool.rec (fun _ => Nat) acc (gc_fo E d h l (Nat.lor acc (Nat.shiftRight E (Nat.sub t d)))) (Nat.ble t h))
    cases Nat.ble t h with
    | false => exact g
    | true =>
      refine gc_fo_s hE e hd l (Nat.lor acc (Nat.shiftRight E (Nat.sub t d))) (fun x hx => hl x (List.mem_cons_of_mem _ hx)) (fun m hm => ?_)
      change (acc ||| (E >>> (t - d))).testBit m = true at hm
      rw [Nat.testBit_or, Bool.or_eq_true, Nat.testBit_shiftRight] at hm
      rcases hm with hm | hm
      · exact g m hm
      · obtain ⟨a, ha, p, p1, p2, p3⟩ := hE _ hm
        obtain ⟨t1, t2⟩ := hl t List.mem_cons_self
        obtain ⟨q, q1, q2, q3⟩ := t2 a ha
        refine ⟨p, q, p1, q1, p2, q2, ?_⟩
        have e5 : t - d + m + a + d = t + a + m := by omega
        omega
/-! the fives are whole -/
noncomputable def gc_pt (u : Nat) (l : List Nat) : Nat := @List.rec Nat (fun _ => Nat) 1 (fun a _ ih => Nat.mul (Nat.sub u (Nat.mul 30 a)) ih) l
noncomputable def gc_pl (Wc : Nat) (l : List Nat) : Nat := @List.rec Nat (fun _ => Nat) 1 (fun t _ ih => Nat.mul (gc_pt (Nat.sub Wc (Nat.mul 30 t)) gc_A) ih) l
theorem gc_pt_s {u a : Nat} : ∀ l : List Nat, a ∈ l → u - 30 * a ∣ gc_pt u l
  | [], h => by cases h
  | b :: l, h => by
    show u - 30 * a ∣ (u - 30 * b) * gc_pt u l
    rcases List.mem_cons.mp h with e | e
    · rw [e]; exact Nat.dvd_mul_right _ _
    · exact Nat.dvd_mul_left_of_dvd (gc_pt_s l e) _
theorem gc_pl_s {Wc t a : Nat} (ha : a ∈ gc_A) : ∀ l : List Nat, t ∈ l → Wc - 30 * t - 30 * a ∣ gc_pl Wc l
  | [], h => by cases h
  | b :: l, h => by
    show _ ∣ gc_pt (Wc - 30 * b) gc_A * gc_pl Wc l
    rcases List.mem_cons.mp h with e | e
    · rw [e]; exact Nat.dvd_mul_right_of_dvd (gc_pt_s _ ha) _
    · exact Nat.dvd_mul_left_of_dvd (gc_pl_s ha l e) _
noncomputable def gc_rg (l : List Nat) : Bool := nk_la (fun t => nk_and (Nat.ble 1 t) (Nat.ble t 1000000)) l
theorem gc_A_s : ∀ a ∈ gc_A, a ≤ 56 := by decide
theorem gc_QL_s {y P X W c : Nat} {l : List Nat} (hP : gb_PY y P) (hW : W % 2 = 0) (hW2 : 100000000 ≤ W) (hW3 : W + 30 ≤ (y + 1) * (y + 1)) (hc : c % 2 = 1 ∧ c < 30) (hX : gc_pl (W + c) l ∣ X) (hg : Nat.gcd X (P % X) = 1) (hr : gc_rg l = true) : gc_QL (W + c) l := by
  intro t ht
  obtain ⟨r1, r2⟩ := nk_and_s (nk_la_s l hr ht)
  have t1 := Nat.le_of_ble_eq_true r1
  have t2 := Nat.le_of_ble_eq_true r2
  refine ⟨t1, fun a ha => ?_⟩
  have a1 := gc_A_s a ha
  have d1 := Nat.dvd_trans (gc_pl_s (Wc := W + c) ha l ht) hX
  have g1 : Nat.gcd (W + c - 30 * t - 30 * a) (P % X) = 1 := by
    have z := Nat.dvd_gcd (Nat.dvd_trans (Nat.gcd_dvd_left (W + c - 30 * t - 30 * a) (P % X)) d1) (Nat.gcd_dvd_right (W + c - 30 * t - 30 * a) (P % X))
    rw [hg] at z
    exact Nat.dvd_one.mp z
  exact ⟨W + c - 30 * t - 30 * a, gb_q hP d1 g1 (by omega) (by omega), by omega, by omega⟩
noncomputable def gc_X (W : Nat) (l1 l7 l11 l13 l17 l19 l23 l29 : List Nat) : Nat := (Nat.mul (gc_pl (Nat.add W 1) l1) (Nat.mul (gc_pl (Nat.add W 7) l7) (Nat.mul (gc_pl (Nat.add W 11) l11) (Nat.mul (gc_pl (Nat.add W 13) l13) (Nat.mul (gc_pl (Nat.add W 17) l17) (Nat.mul (gc_pl (Nat.add W 19) l19) (Nat.mul (gc_pl (Nat.add W 23) l23) (gc_pl (Nat.add W 29) l29))))))))
noncomputable def gc_full (acc m : Nat) : Bool := Nat.beq (Nat.land acc m) m
theorem gc_full_s {acc M m : Nat} (h : gc_full acc (gb_Mz M) = true) (hm : m < M) : Nat.testBit acc m = true := gb_bits (Nat.eq_of_beq_eq_true h) hm
noncomputable def gc_f0 (h : Nat) (l1 l7 l11 l13 l17 l19 l23 l29 : List Nat) : Nat := (gc_fo gc_E1 1 h l29 (gc_fo gc_E7 1 h l23 (gc_fo gc_E11 1 h l19 (gc_fo gc_E13 1 h l17 (gc_fo gc_E17 1 h l13 (gc_fo gc_E19 1 h l11 (gc_fo gc_E23 1 h l7 (gc_fo gc_E29 1 h l1 0))))))))
noncomputable def gc_f2 (h : Nat) (l1 l7 l11 l13 l17 l19 l23 l29 : List Nat) : Nat := (gc_fo gc_E13 1 h l19 (gc_fo gc_E19 1 h l13 (gc_fo gc_E1 0 h l1 0)))
noncomputable def gc_f4 (h : Nat) (l1 l7 l11 l13 l17 l19 l23 l29 : List Nat) : Nat := (gc_fo gc_E11 1 h l23 (gc_fo gc_E17 1 h l17 (gc_fo gc_E23 1 h l11 0)))
noncomputable def gc_f6 (h : Nat) (l1 l7 l11 l13 l17 l19 l23 l29 : List Nat) : Nat := (gc_fo gc_E7 1 h l29 (gc_fo gc_E13 1 h l23 (gc_fo gc_E17 1 h l19 (gc_fo gc_E19 1 h l17 (gc_fo gc_E23 1 h l13 (gc_fo gc_E29 1 h l7 0))))))
noncomputable def gc_f8 (h : Nat) (l1 l7 l11 l13 l17 l19 l23 l29 : List Nat) : Nat := (gc_fo gc_E19 1 h l19 (gc_fo gc_E1 0 h l7 (gc_fo gc_E7 0 h l1 0)))
noncomputable def gc_f10 (h : Nat) (l1 l7 l11 l13 l17 l19 l23 l29 : List Nat) : Nat := (gc_fo gc_E11 1 h l29 (gc_fo gc_E17 1 h l23 (gc_fo gc_E23 1 h l17 (gc_fo gc_E29 1 h l11 0))))
noncomputable def gc_f12 (h : Nat) (l1 l7 l11 l13 l17 l19 l23 l29 : List Nat) : Nat := (gc_fo gc_E13 1 h l29 (gc_fo gc_E19 1 h l23 (gc_fo gc_E23 1 h l19 (gc_fo gc_E29 1 h l13 (gc_fo gc_E1 0 h l11 (gc_fo gc_E11 0 h l1 0))))))
noncomputable def gc_f14 (h : Nat) (l1 l7 l11 l13 l17 l19 l23 l29 : List Nat) : Nat := (gc_fo gc_E1 0 h l13 (gc_fo gc_E7 0 h l7 (gc_fo gc_E13 0 h l1 0)))
noncomputable def gc_f16 (h : Nat) (l1 l7 l11 l13 l17 l19 l23 l29 : List Nat) : Nat := (gc_fo gc_E17 1 h l29 (gc_fo gc_E23 1 h l23 (gc_fo gc_E29 1 h l17 0)))
noncomputable def gc_f18 (h : Nat) (l1 l7 l11 l13 l17 l19 l23 l29 : List Nat) : Nat := (gc_fo gc_E19 1 h l29 (gc_fo gc_E29 1 h l19 (gc_fo gc_E1 0 h l17 (gc_fo gc_E7 0 h l11 (gc_fo gc_E11 0 h l7 (gc_fo gc_E17 0 h l1 0))))))
noncomputable def gc_f20 (h : Nat) (l1 l7 l11 l13 l17 l19 l23 l29 : List Nat) : Nat := (gc_fo gc_E1 0 h l19 (gc_fo gc_E7 0 h l13 (gc_fo gc_E13 0 h l7 (gc_fo gc_E19 0 h l1 0))))
noncomputable def gc_f22 (h : Nat) (l1 l7 l11 l13 l17 l19 l23 l29 : List Nat) : Nat := (gc_fo gc_E23 1 h l29 (gc_fo gc_E29 1 h l23 (gc_fo gc_E11 0 h l11 0)))
noncomputable def gc_f24 (h : Nat) (l1 l7 l11 l13 l17 l19 l23 l29 : List Nat) : Nat := (gc_fo gc_E1 0 h l23 (gc_fo gc_E7 0 h l17 (gc_fo gc_E11 0 h l13 (gc_fo gc_E13 0 h l11 (gc_fo gc_E17 0 h l7 (gc_fo gc_E23 0 h l1 0))))))
noncomputable def gc_f26 (h : Nat) (l1 l7 l11 l13 l17 l19 l23 l29 : List Nat) : Nat := (gc_fo gc_E7 0 h l19 (gc_fo gc_E13 0 h l13 (gc_fo gc_E19 0 h l7 0)))
noncomputable def gc_f28 (h : Nat) (l1 l7 l11 l13 l17 l19 l23 l29 : List Nat) : Nat := (gc_fo gc_E29 1 h l29 (gc_fo gc_E11 0 h l17 (gc_fo gc_E17 0 h l11 0)))
def gc_all8 (W : Nat) (l1 l7 l11 l13 l17 l19 l23 l29 : List Nat) : Prop := gc_QL (W + 1) l1 ∧ gc_QL (W + 7) l7 ∧ gc_QL (W + 11) l11 ∧ gc_QL (W + 13) l13 ∧ gc_QL (W + 17) l17 ∧ gc_QL (W + 19) l19 ∧ gc_QL (W + 23) l23 ∧ gc_QL (W + 29) l29
theorem gc_e1 : gc_EP gc_E1 1 := by
  unfold gc_E1
  rw [gc_Ep1.2]
  exact gc_EP_s gb_A1
theorem gc_e7 : gc_EP gc_E7 7 := by
  unfold gc_E7
  rw [gc_Ep7.2]
  exact gc_EP_s gb_A7
theorem gc_e11 : gc_EP gc_E11 11 := by
  unfold gc_E11
  rw [gc_Ep11.2]
  exact gc_EP_s gb_A11
theorem gc_e13 : gc_EP gc_E13 13 := by
  unfold gc_E13
  rw [gc_Ep13.2]
  exact gc_EP_s gb_A13
theorem gc_e17 : gc_EP gc_E17 17 := by
  unfold gc_E17
  rw [gc_Ep17.2]
  exact gc_EP_s gb_A17
theorem gc_e19 : gc_EP gc_E19 19 := by
  unfold gc_E19
  rw [gc_Ep19.2]
  exact gc_EP_s gb_A19
theorem gc_e23 : gc_EP gc_E23 23 := by
  unfold gc_E23
  rw [gc_Ep23.2]
  exact gc_EP_s gb_A23
theorem gc_e29 : gc_EP gc_E29 29 := by
  unfold gc_E29
  rw [gc_Ep29.2]
  exact gc_EP_s gb_A29
theorem gc_f0_s {W h : Nat} {l1 l7 l11 l13 l17 l19 l23 l29 : List Nat} (H : gc_all8 W l1 l7 l11 l13 l17 l19 l23 l29) : gb_GA W 0 (gc_f0 h l1 l7 l11 l13 l17 l19 l23 l29) := by
  obtain ⟨q1, q7, q11, q13, q17, q19, q23, q29⟩ := H
  exact (gc_fo_s (c' := 29) (r := 0) gc_e1 rfl (by decide) _ _ q29 (gc_fo_s (c' := 23) (r := 0) gc_e7 rfl (by decide) _ _ q23 (gc_fo_s (c' := 19) (r := 0) gc_e11 rfl (by decide) _ _ q19 (gc_fo_s (c' := 17) (r := 0) gc_e13 rfl (by decide) _ _ q17 (gc_fo_s (c' := 13) (r := 0) gc_e17 rfl (by decide) _ _ q13 (gc_fo_s (c' := 11) (r := 0) gc_e19 rfl (by decide) _ _ q11 (gc_fo_s (c' := 7) (r := 0) gc_e23 rfl (by decide) _ _ q7 (gc_fo_s (c' := 1) (r := 0) gc_e29 rfl (by decide) _ _ q1 (gb_GA0 W 0)))))))))
theorem gc_f2_s {W h : Nat} {l1 l7 l11 l13 l17 l19 l23 l29 : List Nat} (H : gc_all8 W l1 l7 l11 l13 l17 l19 l23 l29) : gb_GA W 2 (gc_f2 h l1 l7 l11 l13 l17 l19 l23 l29) := by
  obtain ⟨q1, q7, q11, q13, q17, q19, q23, q29⟩ := H
  exact (gc_fo_s (c' := 19) (r := 2) gc_e13 rfl (by decide) _ _ q19 (gc_fo_s (c' := 13) (r := 2) gc_e19 rfl (by decide) _ _ q13 (gc_fo_s (c' := 1) (r := 2) gc_e1 rfl (by decide) _ _ q1 (gb_GA0 W 2))))
theorem gc_f4_s {W h : Nat} {l1 l7 l11 l13 l17 l19 l23 l29 : List Nat} (H : gc_all8 W l1 l7 l11 l13 l17 l19 l23 l29) : gb_GA W 4 (gc_f4 h l1 l7 l11 l13 l17 l19 l23 l29) := by
  obtain ⟨q1, q7, q11, q13, q17, q19, q23, q29⟩ := H
  exact (gc_fo_s (c' := 23) (r := 4) gc_e11 rfl (by decide) _ _ q23 (gc_fo_s (c' := 17) (r := 4) gc_e17 rfl (by decide) _ _ q17 (gc_fo_s (c' := 11) (r := 4) gc_e23 rfl (by decide) _ _ q11 (gb_GA0 W 4))))
theorem gc_f6_s {W h : Nat} {l1 l7 l11 l13 l17 l19 l23 l29 : List Nat} (H : gc_all8 W l1 l7 l11 l13 l17 l19 l23 l29) : gb_GA W 6 (gc_f6 h l1 l7 l11 l13 l17 l19 l23 l29) := by
  obtain ⟨q1, q7, q11, q13, q17, q19, q23, q29⟩ := H
  exact (gc_fo_s (c' := 29) (r := 6) gc_e7 rfl (by decide) _ _ q29 (gc_fo_s (c' := 23) (r := 6) gc_e13 rfl (by decide) _ _ q23 (gc_fo_s (c' := 19) (r := 6) gc_e17 rfl (by decide) _ _ q19 (gc_fo_s (c' := 17) (r := 6) gc_e19 rfl (by decide) _ _ q17 (gc_fo_s (c' := 13) (r := 6) gc_e23 rfl (by decide) _ _ q13 (gc_fo_s (c' := 7) (r := 6) gc_e29 rfl (by decide) _ _ q7 (gb_GA0 W 6)))))))
theorem gc_f8_s {W h : Nat} {l1 l7 l11 l13 l17 l19 l23 l29 : List Nat} (H : gc_all8 W l1 l7 l11 l13 l17 l19 l23 l29) : gb_GA W 8 (gc_f8 h l1 l7 l11 l13 l17 l19 l23 l29) := by
  obtain ⟨q1, q7, q11, q13, q17, q19, q23, q29⟩ := H
  exact (gc_fo_s (c' := 19) (r := 8) gc_e19 rfl (by decide) _ _ q19 (gc_fo_s (c' := 7) (r := 8) gc_e1 rfl (by decide) _ _ q7 (gc_fo_s (c' := 1) (r := 8) gc_e7 rfl (by decide) _ _ q1 (gb_GA0 W 8))))
theorem gc_f10_s {W h : Nat} {l1 l7 l11 l13 l17 l19 l23 l29 : List Nat} (H : gc_all8 W l1 l7 l11 l13 l17 l19 l23 l29) : gb_GA W 10 (gc_f10 h l1 l7 l11 l13 l17 l19 l23 l29) := by
  obtain ⟨q1, q7, q11, q13, q17, q19, q23, q29⟩ := H
  exact (gc_fo_s (c' := 29) (r := 10) gc_e11 rfl (by decide) _ _ q29 (gc_fo_s (c' := 23) (r := 10) gc_e17 rfl (by decide) _ _ q23 (gc_fo_s (c' := 17) (r := 10) gc_e23 rfl (by decide) _ _ q17 (gc_fo_s (c' := 11) (r := 10) gc_e29 rfl (by decide) _ _ q11 (gb_GA0 W 10)))))
theorem gc_f12_s {W h : Nat} {l1 l7 l11 l13 l17 l19 l23 l29 : List Nat} (H : gc_all8 W l1 l7 l11 l13 l17 l19 l23 l29) : gb_GA W 12 (gc_f12 h l1 l7 l11 l13 l17 l19 l23 l29) := by
  obtain ⟨q1, q7, q11, q13, q17, q19, q23, q29⟩ := H
  exact (gc_fo_s (c' := 29) (r := 12) gc_e13 rfl (by decide) _ _ q29 (gc_fo_s (c' := 23) (r := 12) gc_e19 rfl (by decide) _ _ q23 (gc_fo_s (c' := 19) (r := 12) gc_e23 rfl (by decide) _ _ q19 (gc_fo_s (c' := 13) (r := 12) gc_e29 rfl (by decide) _ _ q13 (gc_fo_s (c' := 11) (r := 12) gc_e1 rfl (by decide) _ _ q11 (gc_fo_s (c' := 1) (r := 12) gc_e11 rfl (by decide) _ _ q1 (gb_GA0 W 12)))))))
theorem gc_f14_s {W h : Nat} {l1 l7 l11 l13 l17 l19 l23 l29 : List Nat} (H : gc_all8 W l1 l7 l11 l13 l17 l19 l23 l29) : gb_GA W 14 (gc_f14 h l1 l7 l11 l13 l17 l19 l23 l29) := by
  obtain ⟨q1, q7, q11, q13, q17, q19, q23, q29⟩ := H
  exact (gc_fo_s (c' := 13) (r := 14) gc_e1 rfl (by decide) _ _ q13 (gc_fo_s (c' := 7) (r := 14) gc_e7 rfl (by decide) _ _ q7 (gc_fo_s (c' := 1) (r := 14) gc_e13 rfl (by decide) _ _ q1 (gb_GA0 W 14))))
theorem gc_f16_s {W h : Nat} {l1 l7 l11 l13 l17 l19 l23 l29 : List Nat} (H : gc_all8 W l1 l7 l11 l13 l17 l19 l23 l29) : gb_GA W 16 (gc_f16 h l1 l7 l11 l13 l17 l19 l23 l29) := by
  obtain ⟨q1, q7, q11, q13, q17, q19, q23, q29⟩ := H
  exact (gc_fo_s (c' := 29) (r := 16) gc_e17 rfl (by decide) _ _ q29 (gc_fo_s (c' := 23) (r := 16) gc_e23 rfl (by decide) _ _ q23 (gc_fo_s (c' := 17) (r := 16) gc_e29 rfl (by decide) _ _ q17 (gb_GA0 W 16))))
theorem gc_f18_s {W h : Nat} {l1 l7 l11 l13 l17 l19 l23 l29 : List Nat} (H : gc_all8 W l1 l7 l11 l13 l17 l19 l23 l29) : gb_GA W 18 (gc_f18 h l1 l7 l11 l13 l17 l19 l23 l29) := by
  obtain ⟨q1, q7, q11, q13, q17, q19, q23, q29⟩ := H
  exact (gc_fo_s (c' := 29) (r := 18) gc_e19 rfl (by decide) _ _ q29 (gc_fo_s (c' := 19) (r := 18) gc_e29 rfl (by decide) _ _ q19 (gc_fo_s (c' := 17) (r := 18) gc_e1 rfl (by decide) _ _ q17 (gc_fo_s (c' := 11) (r := 18) gc_e7 rfl (by decide) _ _ q11 (gc_fo_s (c' := 7) (r := 18) gc_e11 rfl (by decide) _ _ q7 (gc_fo_s (c' := 1) (r := 18) gc_e17 rfl (by decide) _ _ q1 (gb_GA0 W 18)))))))
theorem gc_f20_s {W h : Nat} {l1 l7 l11 l13 l17 l19 l23 l29 : List Nat} (H : gc_all8 W l1 l7 l11 l13 l17 l19 l23 l29) : gb_GA W 20 (gc_f20 h l1 l7 l11 l13 l17 l19 l23 l29) := by
  obtain ⟨q1, q7, q11, q13, q17, q19, q23, q29⟩ := H
  exact (gc_fo_s (c' := 19) (r := 20) gc_e1 rfl (by decide) _ _ q19 (gc_fo_s (c' := 13) (r := 20) gc_e7 rfl (by decide) _ _ q13 (gc_fo_s (c' := 7) (r := 20) gc_e13 rfl (by decide) _ _ q7 (gc_fo_s (c' := 1) (r := 20) gc_e19 rfl (by decide) _ _ q1 (gb_GA0 W 20)))))
theorem gc_f22_s {W h : Nat} {l1 l7 l11 l13 l17 l19 l23 l29 : List Nat} (H : gc_all8 W l1 l7 l11 l13 l17 l19 l23 l29) : gb_GA W 22 (gc_f22 h l1 l7 l11 l13 l17 l19 l23 l29) := by
  obtain ⟨q1, q7, q11, q13, q17, q19, q23, q29⟩ := H
  exact (gc_fo_s (c' := 29) (r := 22) gc_e23 rfl (by decide) _ _ q29 (gc_fo_s (c' := 23) (r := 22) gc_e29 rfl (by decide) _ _ q23 (gc_fo_s (c' := 11) (r := 22) gc_e11 rfl (by decide) _ _ q11 (gb_GA0 W 22))))
theorem gc_f24_s {W h : Nat} {l1 l7 l11 l13 l17 l19 l23 l29 : List Nat} (H : gc_all8 W l1 l7 l11 l13 l17 l19 l23 l29) : gb_GA W 24 (gc_f24 h l1 l7 l11 l13 l17 l19 l23 l29) := by
  obtain ⟨q1, q7, q11, q13, q17, q19, q23, q29⟩ := H
  exact (gc_fo_s (c' := 23) (r := 24) gc_e1 rfl (by decide) _ _ q23 (gc_fo_s (c' := 17) (r := 24) gc_e7 rfl (by decide) _ _ q17 (gc_fo_s (c' := 13) (r := 24) gc_e11 rfl (by decide) _ _ q13 (gc_fo_s (c' := 11) (r := 24) gc_e13 rfl (by decide) _ _ q11 (gc_fo_s (c' := 7) (r := 24) gc_e17 rfl (by decide) _ _ q7 (gc_fo_s (c' := 1) (r := 24) gc_e23 rfl (by decide) _ _ q1 (gb_GA0 W 24)))))))
theorem gc_f26_s {W h : Nat} {l1 l7 l11 l13 l17 l19 l23 l29 : List Nat} (H : gc_all8 W l1 l7 l11 l13 l17 l19 l23 l29) : gb_GA W 26 (gc_f26 h l1 l7 l11 l13 l17 l19 l23 l29) := by
  obtain ⟨q1, q7, q11, q13, q17, q19, q23, q29⟩ := H
  exact (gc_fo_s (c' := 19) (r := 26) gc_e7 rfl (by decide) _ _ q19 (gc_fo_s (c' := 13) (r := 26) gc_e13 rfl (by decide) _ _ q13 (gc_fo_s (c' := 7) (r := 26) gc_e19 rfl (by decide) _ _ q7 (gb_GA0 W 26))))
theorem gc_f28_s {W h : Nat} {l1 l7 l11 l13 l17 l19 l23 l29 : List Nat} (H : gc_all8 W l1 l7 l11 l13 l17 l19 l23 l29) : gb_GA W 28 (gc_f28 h l1 l7 l11 l13 l17 l19 l23 l29) := by
  obtain ⟨q1, q7, q11, q13, q17, q19, q23, q29⟩ := H
  exact (gc_fo_s (c' := 29) (r := 28) gc_e29 rfl (by decide) _ _ q29 (gc_fo_s (c' := 17) (r := 28) gc_e11 rfl (by decide) _ _ q17 (gc_fo_s (c' := 11) (r := 28) gc_e17 rfl (by decide) _ _ q11 (gb_GA0 W 28))))
noncomputable def gc_cov (M : Nat) (l1 l7 l11 l13 l17 l19 l23 l29 : List Nat) (h0 h2 h4 h6 h8 h10 h12 h14 h16 h18 h20 h22 h24 h26 h28 : Nat) : Bool := (nk_and (gc_full (gc_f0 h0 l1 l7 l11 l13 l17 l19 l23 l29) (gb_Mz M)) (nk_and (gc_full (gc_f2 h2 l1 l7 l11 l13 l17 l19 l23 l29) (gb_Mz M)) (nk_and (gc_full (gc_f4 h4 l1 l7 l11 l13 l17 l19 l23 l29) (gb_Mz M)) (nk_and (gc_full (gc_f6 h6 l1 l7 l11 l13 l17 l19 l23 l29) (gb_Mz M)) (nk_and (gc_full (gc_f8 h8 l1 l7 l11 l13 l17 l19 l23 l29) (gb_Mz M)) (nk_and (gc_full (gc_f10 h10 l1 l7 l11 l13 l17 l19 l23 l29) (gb_Mz M)) (nk_and (gc_full (gc_f12 h12 l1 l7 l11 l13 l17 l19 l23 l29) (gb_Mz M)) (nk_and (gc_full (gc_f14 h14 l1 l7 l11 l13 l17 l19 l23 l29) (gb_Mz M)) (nk_and (gc_full (gc_f16 h16 l1 l7 l11 l13 l17 l19 l23 l29) (gb_Mz M)) (nk_and (gc_full (gc_f18 h18 l1 l7 l11 l13 l17 l19 l23 l29) (gb_Mz M)) (nk_and (gc_full (gc_f20 h20 l1 l7 l11 l13 l17 l19 l23 l29) (gb_Mz M)) (nk_and (gc_full (gc_f22 h22 l1 l7 l11 l13 l17 l19 l23 l29) (gb_Mz M)) (nk_and (gc_full (gc_f24 h24 l1 l7 l11 l13 l17 l19 l23 l29) (gb_Mz M)) (nk_and (gc_full (gc_f26 h26 l1 l7 l11 l13 l17 l19 l23 l29) (gb_Mz M)) (gc_full (gc_f28 h28 l1 l7 l11 l13 l17 l19 l23 l29) (gb_Mz M))))))))))))))))
noncomputable def gc_gd (P X : Nat) : Bool := Nat.beq (Nat.gcd X (Nat.mod P X)) 1
noncomputable def gc_rgs (l1 l7 l11 l13 l17 l19 l23 l29 : List Nat) : Bool := (nk_and (gc_rg l1) (nk_and (gc_rg l7) (nk_and (gc_rg l11) (nk_and (gc_rg l13) (nk_and (gc_rg l17) (nk_and (gc_rg l19) (nk_and (gc_rg l23) (gc_rg l29))))))))
noncomputable def gc_wd (b W M : Nat) : Bool := nk_and (Nat.ble W b) (nk_and (Nat.beq (Nat.mod W 2) 0) (nk_and (Nat.ble 100000000 W) (Nat.ble W 1000000000000)))
noncomputable def gc_ok (b W M : Nat) (l1 l7 l11 l13 l17 l19 l23 l29 : List Nat) (h0 h2 h4 h6 h8 h10 h12 h14 h16 h18 h20 h22 h24 h26 h28 : Nat) : Bool := nk_and (gc_wd b W M) (nk_and (gc_rgs l1 l7 l11 l13 l17 l19 l23 l29) (nk_and (gc_gd gb_P (gc_X W l1 l7 l11 l13 l17 l19 l23 l29)) (gc_cov M l1 l7 l11 l13 l17 l19 l23 l29 h0 h2 h4 h6 h8 h10 h12 h14 h16 h18 h20 h22 h24 h26 h28)))
def gc_CV (a b : Nat) : Prop := ∀ n, n % 2 = 0 → a ≤ n → n < b → gb_P2 n
theorem gc_nx {a b b1 : Nat} (W M : Nat) (l1 l7 l11 l13 l17 l19 l23 l29 : List Nat) (h0 h2 h4 h6 h8 h10 h12 h14 h16 h18 h20 h22 h24 h26 h28 : Nat) (hb : gc_CV a b) (h : gc_ok b W M l1 l7 l11 l13 l17 l19 l23 l29 h0 h2 h4 h6 h8 h10 h12 h14 h16 h18 h20 h22 h24 h26 h28 = true) (e : W + 30 * M = b1) : gc_CV a b1 := by
  obtain ⟨w, h⟩ := nk_and_s h
  obtain ⟨g, h⟩ := nk_and_s h
  obtain ⟨x, h⟩ := nk_and_s h
  obtain ⟨w1, w⟩ := nk_and_s w
  obtain ⟨w2, w⟩ := nk_and_s w
  obtain ⟨w3, w4⟩ := nk_and_s w
  have u1 := Nat.le_of_ble_eq_true w1
  have u2 : W % 2 = 0 := Nat.eq_of_beq_eq_true w2
  have u3 := Nat.le_of_ble_eq_true w3
  have u4 := Nat.le_of_ble_eq_true w4
  have x1 : Nat.gcd (gc_X W l1 l7 l11 l13 l17 l19 l23 l29) (gb_P % gc_X W l1 l7 l11 l13 l17 l19 l23 l29) = 1 := Nat.eq_of_beq_eq_true x
  obtain ⟨g1, g⟩ := nk_and_s g
  obtain ⟨g7, g⟩ := nk_and_s g
  obtain ⟨g11, g⟩ := nk_and_s g
  obtain ⟨g13, g⟩ := nk_and_s g
  obtain ⟨g17, g⟩ := nk_and_s g
  obtain ⟨g19, g⟩ := nk_and_s g
  obtain ⟨g23, g⟩ := nk_and_s g
  have g29 := g
  have x10 : gc_pl (W + 1) l1 ∣ gc_X W l1 l7 l11 l13 l17 l19 l23 l29 := (Nat.dvd_mul_right _ _)
  have x70 : gc_pl (W + 7) l7 ∣ gc_X W l1 l7 l11 l13 l17 l19 l23 l29 := (Nat.dvd_mul_left_of_dvd (Nat.dvd_mul_right _ _) _)
  have x110 : gc_pl (W + 11) l11 ∣ gc_X W l1 l7 l11 l13 l17 l19 l23 l29 := (Nat.dvd_mul_left_of_dvd (Nat.dvd_mul_left_of_dvd (Nat.dvd_mul_right _ _) _) _)
  have x130 : gc_pl (W + 13) l13 ∣ gc_X W l1 l7 l11 l13 l17 l19 l23 l29 := (Nat.dvd_mul_left_of_dvd (Nat.dvd_mul_left_of_dvd (Nat.dvd_mul_left_of_dvd (Nat.dvd_mul_right _ _) _) _) _)
  have x170 : gc_pl (W + 17) l17 ∣ gc_X W l1 l7 l11 l13 l17 l19 l23 l29 := (Nat.dvd_mul_left_of_dvd (Nat.dvd_mul_left_of_dvd (Nat.dvd_mul_left_of_dvd (Nat.dvd_mul_left_of_dvd (Nat.dvd_mul_right _ _) _) _) _) _)
  have x190 : gc_pl (W + 19) l19 ∣ gc_X W l1 l7 l11 l13 l17 l19 l23 l29 := (Nat.dvd_mul_left_of_dvd (Nat.dvd_mul_left_of_dvd (Nat.dvd_mul_left_of_dvd (Nat.dvd_mul_left_of_dvd (Nat.dvd_mul_left_of_dvd (Nat.dvd_mul_right _ _) _) _) _) _) _)
  have x230 : gc_pl (W + 23) l23 ∣ gc_X W l1 l7 l11 l13 l17 l19 l23 l29 := (Nat.dvd_mul_left_of_dvd (Nat.dvd_mul_left_of_dvd (Nat.dvd_mul_left_of_dvd (Nat.dvd_mul_left_of_dvd (Nat.dvd_mul_left_of_dvd (Nat.dvd_mul_left_of_dvd (Nat.dvd_mul_right _ _) _) _) _) _) _) _)
  have x290 : gc_pl (W + 29) l29 ∣ gc_X W l1 l7 l11 l13 l17 l19 l23 l29 := (Nat.dvd_mul_left_of_dvd (Nat.dvd_mul_left_of_dvd (Nat.dvd_mul_left_of_dvd (Nat.dvd_mul_left_of_dvd (Nat.dvd_mul_left_of_dvd (Nat.dvd_mul_left_of_dvd (Nat.dvd_mul_left_of_dvd (Nat.dvd_refl _) _) _) _) _) _) _) _)
  have H : gc_all8 W l1 l7 l11 l13 l17 l19 l23 l29 := ⟨gc_QL_s gb_PYy u2 u3 (by omega) (by decide) x10 x1 g1, gc_QL_s gb_PYy u2 u3 (by omega) (by decide) x70 x1 g7, gc_QL_s gb_PYy u2 u3 (by omega) (by decide) x110 x1 g11, gc_QL_s gb_PYy u2 u3 (by omega) (by decide) x130 x1 g13, gc_QL_s gb_PYy u2 u3 (by omega) (by decide) x170 x1 g17, gc_QL_s gb_PYy u2 u3 (by omega) (by decide) x190 x1 g19, gc_QL_s gb_PYy u2 u3 (by omega) (by decide) x230 x1 g23, gc_QL_s gb_PYy u2 u3 (by omega) (by decide) x290 x1 g29⟩
  obtain ⟨k0, h⟩ := nk_and_s h
  obtain ⟨k2, h⟩ := nk_and_s h
  obtain ⟨k4, h⟩ := nk_and_s h
  obtain ⟨k6, h⟩ := nk_and_s h
  obtain ⟨k8, h⟩ := nk_and_s h
  obtain ⟨k10, h⟩ := nk_and_s h
  obtain ⟨k12, h⟩ := nk_and_s h
  obtain ⟨k14, h⟩ := nk_and_s h
  obtain ⟨k16, h⟩ := nk_and_s h
  obtain ⟨k18, h⟩ := nk_and_s h
  obtain ⟨k20, h⟩ := nk_and_s h
  obtain ⟨k22, h⟩ := nk_and_s h
  obtain ⟨k24, h⟩ := nk_and_s h
  obtain ⟨k26, h⟩ := nk_and_s h
  have k28 := h
  intro n n2 n3 n4
  rcases Nat.lt_or_ge n b with z | z
  · exact hb n n2 n3 z
  have hm : (n - W) / 30 < M := by omega
  have hr : n = W + 30 * ((n - W) / 30) + 0 ∨ n = W + 30 * ((n - W) / 30) + 2 ∨ n = W + 30 * ((n - W) / 30) + 4 ∨ n = W + 30 * ((n - W) / 30) + 6 ∨ n = W + 30 * ((n - W) / 30) + 8 ∨ n = W + 30 * ((n - W) / 30) + 10 ∨ n = W + 30 * ((n - W) / 30) + 12 ∨ n = W + 30 * ((n - W) / 30) + 14 ∨ n = W + 30 * ((n - W) / 30) + 16 ∨ n = W + 30 * ((n - W) / 30) + 18 ∨ n = W + 30 * ((n - W) / 30) + 20 ∨ n = W + 30 * ((n - W) / 30) + 22 ∨ n = W + 30 * ((n - W) / 30) + 24 ∨ n = W + 30 * ((n - W) / 30) + 26 ∨ n = W + 30 * ((n - W) / 30) + 28 := by omega
  rcases hr with e | e | e | e | e | e | e | e | e | e | e | e | e | e | e
  · rw [e]
    exact gc_f0_s H _ (gc_full_s k0 hm)
  · rw [e]
    exact gc_f2_s H _ (gc_full_s k2 hm)
  · rw [e]
    exact gc_f4_s H _ (gc_full_s k4 hm)
  · rw [e]
    exact gc_f6_s H _ (gc_full_s k6 hm)
  · rw [e]
    exact gc_f8_s H _ (gc_full_s k8 hm)
  · rw [e]
    exact gc_f10_s H _ (gc_full_s k10 hm)
  · rw [e]
    exact gc_f12_s H _ (gc_full_s k12 hm)
  · rw [e]
    exact gc_f14_s H _ (gc_full_s k14 hm)
  · rw [e]
    exact gc_f16_s H _ (gc_full_s k16 hm)
  · rw [e]
    exact gc_f18_s H _ (gc_full_s k18 hm)
  · rw [e]
    exact gc_f20_s H _ (gc_full_s k20 hm)
  · rw [e]
    exact gc_f22_s H _ (gc_full_s k22 hm)
  · rw [e]
    exact gc_f24_s H _ (gc_full_s k24 hm)
  · rw [e]
    exact gc_f26_s H _ (gc_full_s k26 hm)
  · rw [e]
    exact gc_f28_s H _ (gc_full_s k28 hm)
theorem gc_st : gc_CV 15000 100005000 := fun n h1 h2 h3 => gb_win_s gb_A gb_PY1 rfl (by decide) (by decide) gb_f0 h1 h2 h3
/-- every even number, given the windows -/
theorem gc_all {b : Nat} (hb : 1000000000000 < b) (h : gc_CV 15000 b) (n : Nat) (h1 : 6 ≤ n) (h2 : n ≤ 1000000000000) (h3 : n % 2 = 0) : np_g2 n n 3 = true := by
  rcases Nat.lt_or_ge n 30 with c | c
  · exact gb_m n c h1 h3
  refine gb_g2b ?_
  rcases Nat.lt_or_ge n 15030 with c3 | c3
  · exact gb_ms n h3 c (by omega)
  · exact h n h3 (by omega) (by omega)
