/-! WHAT THE NUMBERS OWE: the class takes for whole, for a sum of two, what is; roots are there -/
def NQ : Prop := (∀ n, np_wx n = np_pr n) ∧ (∀ n, 6 ≤ n → n ≤ 1000000000000 → n % 2 = 0 → np_g2 n n 3 = true) ∧ np_PR
theorem np_beq {n : Nat} (h2 : 2 ≤ n) (hn : n ≤ 1000000000000) (hl : np_lp n < n) : np_pr (np_be n) = np_pr (n / np_lp n) := by
  unfold np_be
  by_cases h : np_lp n ≤ 10000
  · rw [if_pos h]
  · rw [if_neg h]
    obtain ⟨a1, a2, a3⟩ := np_lp_spec h2
    obtain ⟨m, hm⟩ := a2
    have e : n / np_lp n = m := by
      have : n / np_lp n = (np_lp n * m) / np_lp n := congrArg (· / np_lp n) hm
      rw [this, Nat.mul_div_cancel_left _ (by omega)]
    rw [e]
    have hm2 : 2 ≤ m := by
      apply Decidable.byContradiction
      intro z
      have h3 : m = 0 ∨ m = 1 := by omega
      rcases h3 with e3 | e3
      · rw [e3, Nat.mul_zero] at hm; omega
      · rw [e3, Nat.mul_one] at hm; omega
    have hm8 : m < 10000 * 10000 := by
      apply Decidable.byContradiction
      intro z
      have h1 : 10001 * (10000 * 10000) ≤ np_lp n * m := Nat.mul_le_mul (by omega) (by omega)
      omega
    have hr := np_root hm2 (a := 10000) (fun d h1 h2 h3 => by
      have := a3 d h1 (Nat.dvd_trans h3 ⟨np_lp n, by rw [Nat.mul_comm]; exact hm⟩)
      omega) hm8
    rw [show np_pr 2 = true by decide +kernel, np_pr_iff.mpr ⟨hm2, hr⟩]
theorem np_prl {n : Nat} (h2 : 2 ≤ n) : (!(np_pr n)) = decide (np_lp n < n) := by
  have hl := np_lp_le h2
  by_cases h : np_lp n = n
  · rw [np_pr_iff.mpr ⟨h2, h⟩, decide_eq_false (by omega)]; rfl
  · have : np_pr n = false := by
      cases e : np_pr n
      · rfl
      · exact absurd (np_pr_iff.mp e).2 h
    rw [this, decide_eq_true (by omega)]; rfl
theorem np_eqf (hN : NQ) (law : Nat) (hl : law ≤ 3) : np_lx law = np_lm law := by
  funext n
  by_cases hn : n ≤ 1000000000000
  · rw [np_lx0 hn]
    unfold np_l0 np_lm
    by_cases h2 : n < 2
    · rw [if_pos h2, if_pos h2]
    · rw [if_neg h2, if_neg h2]
      simp only [hN.1]
      by_cases e0 : law = 0
      · rw [if_pos e0, if_pos e0]
      · rw [if_neg e0, if_neg e0]
        by_cases e1 : law = 1
        · rw [if_pos e1, if_pos e1, np_prl (by omega)]
          by_cases hl2 : np_lp n < n
          · rw [np_beq (by omega) hn hl2]
          · rw [decide_eq_false hl2, Bool.false_and, Bool.false_and]
        · rw [if_neg e1, if_neg e1]
          by_cases e2 : law = 2
          · rw [if_pos e2, if_pos e2]
            unfold np_go
            by_cases e : n % 2 = 0
            · rw [if_pos e, if_neg (by omega)]
              by_cases e4 : n = 4
              · rw [if_pos e4, decide_eq_true (by omega)]
              · rw [if_neg e4]
                by_cases e6 : n = 2
                · subst e6
                  decide +kernel
                · rw [hN.2.1 n (by omega) hn e, decide_eq_true (by omega)]
            · rw [if_neg e, if_pos (by omega)]
          · rw [if_neg e2, if_neg e2]
  · exact if_neg hn
theorem np_xlf (hN : NQ) : np_xl = np_lp := by
  funext n
  unfold np_xl
  rw [hN.1]
  by_cases h : np_pr n = true
  · rw [if_pos h, (np_pr_iff.mp h).2]
  · rw [if_neg h]
/-! THE TWO SIDES SIDE BY SIDE -/
theorem met_mono {l : Launch} {y : MethodName} {ws : List Cond} {rm : Room} {Pc : Array Value → State → Prop} {Qc Qd : Array Value → State → Outcome → State → Prop} {mc ms : Nat} {free : Addr → Prop} (h : Met l y ws rm Pc Qc mc ms free) (k : ∀ a st o t, Qc a st o t → Qd a st o t) : Met l y ws rm Pc Qd mc ms free := fun p e h1 h2 h3 s m args below h4 h5 h6 h7 => by
  obtain ⟨n, o, a, b, c, d⟩ := h p e h1 h2 h3 s m args below h4 h5 h6 h7
  exact ⟨n, o, a, b, c, k _ _ _ _ d.1, d.2⟩
theorem vs_mono {g : vv_G} {y : MethodName} {cc : ByteArray} {nL d : Nat} {ret : Option FieldType} {as : List Value} {S : vs_S} {P Q : Int32 → vs_S → Prop} (h : vs_KI g y cc nL ret d as S P) (k : ∀ r S1, P r S1 → Q r S1) : vs_KI g y cc nL ret d as S Q :=
  met_mono h (fun a st o t q => by
    obtain ⟨⟨r, u, e, ⟨S1, e1, hp⟩, hb⟩, hf⟩ := q
    exact ⟨⟨r, u, e, ⟨S1, e1, k r S1 hp⟩, hb⟩, hf⟩)
theorem vs_monoL {g : vv_G} {y : MethodName} {cc : ByteArray} {nL d : Nat} {ret : Option FieldType} {as : List Value} {S : vs_S} {P Q : Int64 → vs_S → Prop} (h : vs_KL g y cc nL ret d as S P) (k : ∀ r S1, P r S1 → Q r S1) : vs_KL g y cc nL ret d as S Q :=
  met_mono h (fun a st o t q => by
    obtain ⟨⟨r, u, e, ⟨S1, e1, hp⟩, hb⟩, hf⟩ := q
    exact ⟨⟨r, u, e, ⟨S1, e1, k r S1 hp⟩, hb⟩, hf⟩)
/-! what holds between calls: the same tale told by both sides' cells -/
abbrev Fr (ks is js : List Nat) (S S1 : vs_S) : Prop := vs_fr ks is js S S1
theorem fr_s {ks is js : List Nat} {S S1 : vs_S} {k : Nat} {v : Int32} (h : S.1 k = v) (f : vs_fr ks is js S S1) (d : k ∉ ks) : S1.1 k = v := (f.1 k d).trans h
theorem fr_nm {ks is js : List Nat} {S S1 : vs_S} (h : nm_ok S) (f : vs_fr ks is js S S1) (d : 24 ∉ ks ∧ 70 ∉ is) : nm_ok S1 := nm_ok_of h (f.1 24 d.1) (f.2.1 70 d.2)
theorem fr_lX {ks is js : List Nat} {S S1 : vs_S} {L : lg_L} (h : lg_X S L) (f : vs_fr ks is js S S1) (d : (6 ∉ ks ∧ 7 ∉ ks ∧ 8 ∉ ks) ∧ (19 ∉ is ∧ 20 ∉ is ∧ 21 ∉ is ∧ 22 ∉ is)) : lg_X S1 L := by
  obtain ⟨H, A, B, C, dd, n⟩ := L
  obtain ⟨e1, e2, e3, o, ho, e4, e5⟩ := h
  refine ⟨by rw [f.2.1 19 d.2.1]; exact e1, (f.1 7 d.1.2.1).trans e2, (f.1 8 d.1.2.2).trans e3, o, ho, (f.1 6 d.1.1).trans e4, fun k hk => ?_⟩
  rw [f.2.1 20 d.2.2.1, f.2.1 21 d.2.2.2.1, f.2.1 22 d.2.2.2.2]
  exact e5 k hk
theorem fr_lM {ks is js : List Nat} {S S1 : vs_S} {L : lg_L} (h : lg_M S L) (f : vs_fr ks is js S S1) (d : (21 ∉ ks ∧ 22 ∉ ks) ∧ (66 ∉ is ∧ 67 ∉ is ∧ 68 ∉ is ∧ 69 ∉ is)) : lg_M S1 L := by
  obtain ⟨H, A, B, C, dd, n⟩ := L
  obtain ⟨e1, e2, e3, e5⟩ := h
  refine ⟨by rw [f.2.1 66 d.2.1]; exact e1, (f.1 22 d.1.2).trans e2, (f.1 21 d.1.1).trans e3, fun k hk => ?_⟩
  rw [f.2.1 67 d.2.2.1, f.2.1 68 d.2.2.2.1, f.2.1 69 d.2.2.2.2]
  exact e5 k hk
theorem fr_fx {ks is js : List Nat} {S S1 : vs_S} (h : fx_ok S) (f : vs_fr ks is js S S1) (d : (1 ∉ ks ∧ 2 ∉ ks) ∧ (6 ∉ is ∧ 7 ∉ is)) : fx_ok S1 := by
  unfold fx_ok fx_D at h ⊢
  rw [f.2.1 6 d.2.1, f.2.1 7 d.2.2, f.1 1 d.1.1, f.1 2 d.1.2]
  exact h
theorem fr_cx {ks is js : List Nat} {S S1 : vs_S} (h : cx_ok S) (f : vs_fr ks is js S S1) (d : 3 ∉ ks ∧ (9 ∉ is ∧ 10 ∉ is ∧ 11 ∉ is ∧ 12 ∉ is ∧ 13 ∉ is ∧ 14 ∉ is)) : cx_ok S1 := by
  have e : ∀ k, k ≤ 5 → S1.2.1 (9 + k) = S.2.1 (9 + k) := fun k hk => by
    have h5 : k = 0 ∨ k = 1 ∨ k = 2 ∨ k = 3 ∨ k = 4 ∨ k = 5 := by omega
    rcases h5 with z | z | z | z | z | z <;> subst z
    · exact f.2.1 9 d.2.1
    · exact f.2.1 10 d.2.2.1
    · exact f.2.1 11 d.2.2.2.1
    · exact f.2.1 12 d.2.2.2.2.1
    · exact f.2.1 13 d.2.2.2.2.2.1
    · exact f.2.1 14 d.2.2.2.2.2.2
  unfold cx_ok at h ⊢
  rw [f.1 3 d.1]
  rcases h with h | ⟨l, h1, h2, h3⟩
  · exact Or.inl h
  · exact Or.inr ⟨l, h1, h2, fun k n hk hn => by rw [e k hk]; exact h3 k n hk hn⟩
theorem fr_pX {ks is js : List Nat} {S S1 : vs_S} {m : Nat} {K : Nat → Nat} (h : plX S m K) (f : vs_fr ks is js S S1) (d : 18 ∉ ks ∧ 52 ∉ is) : plX S1 m K := by
  unfold plX at h ⊢
  rw [f.1 18 d.1, f.2.1 52 d.2]
  exact h
theorem fr_pM {ks is js : List Nat} {S S1 : vs_S} {m : Nat} {K : Nat → Nat} (h : plM S m K) (f : vs_fr ks is js S S1) (d : 37 ∉ ks ∧ 82 ∉ is) : plM S1 m K := by
  unfold plM at h ⊢
  rw [f.1 37 d.1, f.2.1 82 d.2]
  exact h
theorem fr_tX {ks is js : List Nat} {S S1 : vs_S} {l : List Nat} (h : tX S l) (f : vs_fr ks is js S S1) (d : 19 ∉ ks ∧ 53 ∉ is) : tX S1 l := by
  unfold tX at h ⊢
  rw [f.1 19 d.1, f.2.1 53 d.2]
  exact h
theorem fr_tM {ks is js : List Nat} {S S1 : vs_S} {l : List Nat} (h : tM S l) (f : vs_fr ks is js S S1) (d : 38 ∉ ks ∧ 83 ∉ is) : tM S1 l := by
  unfold tM at h ⊢
  rw [f.1 38 d.1, f.2.1 83 d.2]
  exact h
theorem fr_sX {ks is js : List Nat} {S S1 : vs_S} {m : Nat} {x : hT} (h : sX S m x) (f : vs_fr ks is js S S1) (d : (55 ∉ is ∧ 56 ∉ is ∧ 57 ∉ is) ∧ (59 ∉ js ∧ 60 ∉ js ∧ 61 ∉ js ∧ 62 ∉ js ∧ 63 ∉ js ∧ 64 ∉ js)) : sX S1 m x := by
  intro z hz
  have e : S1.2.2 (59 + z) = S.2.2 (59 + z) := by
    have h5 : z = 0 ∨ z = 1 ∨ z = 2 ∨ z = 3 ∨ z = 4 ∨ z = 5 := by omega
    rcases h5 with w | w | w | w | w | w <;> subst w
    · exact f.2.2 59 d.2.1
    · exact f.2.2 60 d.2.2.1
    · exact f.2.2 61 d.2.2.2.1
    · exact f.2.2 62 d.2.2.2.2.1
    · exact f.2.2 63 d.2.2.2.2.2.1
    · exact f.2.2 64 d.2.2.2.2.2.2
  rw [f.2.1 55 d.1.1, f.2.1 56 d.1.2.1, f.2.1 57 d.1.2.2, e]
  exact h z hz
theorem fr_sM {ks is js : List Nat} {S S1 : vs_S} {m : Nat} {x : hT} (h : sM S m x) (f : vs_fr ks is js S S1) (d : 84 ∉ is ∧ 85 ∉ is ∧ 86 ∉ js) : sM S1 m x := sM_fr f d.1 d.2.1 d.2.2 h
theorem fr_tp {ks is js : List Nat} {S S1 : vs_S} {L : Nat} {B : Nat → Int32} (h : tp S L B) (f : vs_fr ks is js S S1) (d : 14 ∉ ks ∧ 49 ∉ is) : tp S1 L B := h.fr f d.1 d.2
theorem fr_tq {ks is js : List Nat} {S S1 : vs_S} {L : Nat} {B : Nat → Int32} (h : tpM S L B) (f : vs_fr ks is js S S1) (d : 27 ∉ ks ∧ 76 ∉ is) : tpM S1 L B := h.fr f d.1 d.2
theorem fr_lx {ks is js : List Nat} {S S1 : vs_S} {c : List Int32} (h : slX S c) (f : vs_fr ks is js S S1) (d : 10 ∉ ks ∧ 46 ∉ is) : slX S1 c := h.fr f d.1 d.2
theorem fr_lm {ks is js : List Nat} {S S1 : vs_S} {q : qT} (h : slM S q) (f : vs_fr ks is js S S1) (d : 28 ∉ ks ∧ 77 ∉ is) : slM S1 q := h.fr f d.1 d.2
theorem sX_m {S : vs_S} {m k : Nat} {x : hT} (h : sX S m x) (hk : m ≤ k) : sX S k x := fun d hd => by
  obtain ⟨h1, h2, h3, h4⟩ := h d hd
  exact ⟨h1, h2, fun z => ⟨(h3 z).1, by have := (h3 z).2; omega⟩, h4⟩
theorem sM_m {S : vs_S} {m k : Nat} {x : hT} (h : sM S m x) (hk : m ≤ k) : sM S k x := fun d hd => by
  obtain ⟨h1, h2, h3, h4⟩ := h d hd
  exact ⟨h1, h2, fun z => by have := h3 z; omega, h4⟩
/-- the class's tale -/
def RA (S : vs_S) (law : Nat) (L : lg_L) (cn m : Nat) (K : Nat → Nat) (l : List Nat) (h : hT) (t : Nat) (B : Nat → Int32) (q : qT) : Prop := S.1 0 = nI law ∧ nx_ok S ∧ lg_X S L ∧ S.1 9 = nI cn ∧ fx_ok S ∧ cx_ok S ∧ plX S m K ∧ tX S l ∧ sX S m h ∧ tp S t B ∧ slX S (cdq q)
/-- the reference's -/
def RB (S : vs_S) (law : Nat) (L : lg_L) (cn m : Nat) (K : Nat → Nat) (l : List Nat) (h : hT) (t : Nat) (B : Nat → Int32) (q : qT) : Prop := S.1 23 = nI law ∧ nm_ok S ∧ lg_M S L ∧ S.1 26 = nI cn ∧ plM S m K ∧ tM S l ∧ sM S m h ∧ tpM S t B ∧ slM S q
def RC (law : Nat) (L : lg_L) (cn : Nat) (l : List Nat) : Prop := law ≤ 3 ∧ lg_ok L ∧ lg_in L ∧ cn ≤ 16 ∧ l.length < 2 ^ 29
def RR (S : vs_S) : Prop := ∃ law L cn m K l h t B q, RC law L cn l ∧ RA S law L cn m K l h t B q ∧ RB S law L cn m K l h t B q
/-- a call of the reference leaves the class's cells, and the other way -/
theorem fr_RA {ks is js : List Nat} {S S1 : vs_S} {law : Nat} {L : lg_L} {cn m : Nat} {K : Nat → Nat} {l : List Nat} {h : hT} {t : Nat} {B : Nat → Int32} {q : qT} (r : RA S law L cn m K l h t B q) (f : vs_fr ks is js S S1) (hk : ks.all (fun k => 21 ≤ k) = true) (hi : is.all (fun k => 65 ≤ k) = true) (hj : js.all (fun k => 65 ≤ k) = true) : RA S1 law L cn m K l h t B q := by
  have a : ∀ k, k < 21 → k ∉ ks := fun k h z => by have := List.all_eq_true.mp hk k z; rw [decide_eq_true_eq] at this; omega
  have b : ∀ k, k < 65 → k ∉ is := fun k h z => by have := List.all_eq_true.mp hi k z; rw [decide_eq_true_eq] at this; omega
  have c : ∀ k, k < 65 → k ∉ js := fun k h z => by have := List.all_eq_true.mp hj k z; rw [decide_eq_true_eq] at this; omega
  obtain ⟨h1, h2, h3, h4, h5, h6, h7, h8, h9, h10, h11⟩ := r
  exact ⟨fr_s h1 f (a 0 (by omega)), nx_fr h2 f (b 2 (by omega)), fr_lX h3 f ⟨⟨a 6 (by omega), a 7 (by omega), a 8 (by omega)⟩, b 19 (by omega), b 20 (by omega), b 21 (by omega), b 22 (by omega)⟩, fr_s h4 f (a 9 (by omega)), fr_fx h5 f ⟨⟨a 1 (by omega), a 2 (by omega)⟩, b 6 (by omega), b 7 (by omega)⟩, fr_cx h6 f ⟨a 3 (by omega), b 9 (by omega), b 10 (by omega), b 11 (by omega), b 12 (by omega), b 13 (by omega), b 14 (by omega)⟩, fr_pX h7 f ⟨a 18 (by omega), b 52 (by omega)⟩, fr_tX h8 f ⟨a 19 (by omega), b 53 (by omega)⟩, fr_sX h9 f ⟨⟨b 55 (by omega), b 56 (by omega), b 57 (by omega)⟩, c 59 (by omega), c 60 (by omega), c 61 (by omega), c 62 (by omega), c 63 (by omega), c 64 (by omega)⟩, fr_tp h10 f ⟨a 14 (by omega), b 49 (by omega)⟩, fr_lx h11 f ⟨a 10 (by omega), b 46 (by omega)⟩⟩
theorem fr_RB {ks is js : List Nat} {S S1 : vs_S} {law : Nat} {L : lg_L} {cn m : Nat} {K : Nat → Nat} {l : List Nat} {h : hT} {t : Nat} {B : Nat → Int32} {q : qT} (r : RB S law L cn m K l h t B q) (f : vs_fr ks is js S S1) (hk : ks.all (fun k => k < 21) = true) (hi : is.all (fun k => k < 65) = true) (hj : js.all (fun k => k < 65) = true) : RB S1 law L cn m K l h t B q := by
  have a : ∀ k, 21 ≤ k → k ∉ ks := fun k h z => by have := List.all_eq_true.mp hk k z; rw [decide_eq_true_eq] at this; omega
  have b : ∀ k, 65 ≤ k → k ∉ is := fun k h z => by have := List.all_eq_true.mp hi k z; rw [decide_eq_true_eq] at this; omega
  have c : ∀ k, 65 ≤ k → k ∉ js := fun k h z => by have := List.all_eq_true.mp hj k z; rw [decide_eq_true_eq] at this; omega
  obtain ⟨h1, h2, h3, h4, h5, h6, h7, h8, h9⟩ := r
  exact ⟨fr_s h1 f (a 23 (by omega)), fr_nm h2 f ⟨a 24 (by omega), b 70 (by omega)⟩, fr_lM h3 f ⟨⟨a 21 (by omega), a 22 (by omega)⟩, b 66 (by omega), b 67 (by omega), b 68 (by omega), b 69 (by omega)⟩, fr_s h4 f (a 26 (by omega)), fr_pM h5 f ⟨a 37 (by omega), b 82 (by omega)⟩, fr_tM h6 f ⟨a 38 (by omega), b 83 (by omega)⟩, fr_sM h7 f ⟨b 84 (by omega), b 85 (by omega), c 86 (by omega)⟩, fr_tq h8 f ⟨a 27 (by omega), b 76 (by omega)⟩, fr_lm h9 f ⟨a 28 (by omega), b 77 (by omega)⟩⟩

