/-! THE REFERENCE'S NUMBERS -/
/-- struck or not yet: what parts1 tells -/
def nm_ok (S : vs_S) : Prop := (S.1 24 = 0 ∧ ∀ v, v < 102100 → S.2.1 70 v = 0) ∨ (S.1 24 = 1 ∧ ∀ v, 2 ≤ v → v < 102100 → S.2.1 70 v = if np_pr v = true then 0 else 1)
def nm_fr (S S1 : vs_S) : Prop := vs_fr [24] [70] [] S S1
def nm_to (S S1 : vs_S) : Prop := nm_fr S S1 ∧ nm_ok S1
theorem nm_to.rf {S : vs_S} (h : nm_ok S) : nm_to S S := ⟨vs_fr.rf, h⟩
theorem nm_to.tr {S S1 S2 : vs_S} (h : nm_to S S1) (h2 : nm_to S1 S2) : nm_to S S2 := ⟨h.1.tr h2.1, h2.2⟩
/-- the sieve at the outer number a: what has a part below a is struck -/
def nm_st (a v : Nat) : Bool := (List.range a).any (fun d => decide (2 ≤ d) && decide (d * d ≤ v) && (v % d == 0))
theorem nm_st_iff {a v : Nat} : nm_st a v = true ↔ ∃ d, d < a ∧ 2 ≤ d ∧ d * d ≤ v ∧ d ∣ v := by
  unfold nm_st
  rw [List.any_eq_true]
  constructor
  · rintro ⟨d, h1, h2⟩
    simp only [Bool.and_eq_true, decide_eq_true_eq, beq_iff_eq] at h2
    exact ⟨d, List.mem_range.mp h1, h2.1.1, h2.1.2, np_mod.mp h2.2⟩
  · rintro ⟨d, h1, h2, h3, h4⟩
    refine ⟨d, List.mem_range.mpr h1, ?_⟩
    simp only [Bool.and_eq_true, decide_eq_true_eq, beq_iff_eq]
    exact ⟨⟨h2, h3⟩, np_mod.mpr h4⟩
theorem nm_st_pr {a v : Nat} (h2 : 2 ≤ v) (ha : v < a * a) : nm_st a v = !(np_pr v) := by
  cases h : np_pr v with
  | true =>
    have h1 := np_pr_dvd.mp h
    cases h3 : nm_st a v with
    | false => rfl
    | true =>
      obtain ⟨d, h4, h5, h6, h7⟩ := nm_st_iff.mp h3
      have h8 := h1.2 d h5 h7
      subst h8
      have h9 := Nat.mul_le_mul_left d h5
      omega
  | false =>
    show _ = true
    rw [nm_st_iff]
    have h0 := np_lp_spec h2
    refine ⟨np_lp v, ?_, h0.1, ?_, h0.2.1⟩
    · obtain ⟨c, hc⟩ := h0.2.1
      apply Nat.lt_of_not_le
      intro h3
      have hc2 : 2 ≤ c := by
        apply Nat.le_of_not_lt
        intro h4
        have h5 : c = 0 ∨ c = 1 := by omega
        rcases h5 with e | e
        · subst e; omega
        · subst e
          rw [Nat.mul_one] at hc
          have : np_pr v = true := np_pr_iff.mpr ⟨h2, hc.symm⟩
          rw [this] at h; cases h
      have h6 := h0.2.2 c hc2 ⟨np_lp v, by rw [Nat.mul_comm]; exact hc⟩
      have h7 := Nat.mul_le_mul h3 (Nat.le_trans h3 h6)
      omega
    · obtain ⟨c, hc⟩ := h0.2.1
      have hc2 : 2 ≤ c := by
        apply Nat.le_of_not_lt
        intro h4
        have h5 : c = 0 ∨ c = 1 := by omega
        rcases h5 with e | e
        · subst e; omega
        · subst e
          rw [Nat.mul_one] at hc
          have : np_pr v = true := np_pr_iff.mpr ⟨h2, hc.symm⟩
          rw [this] at h; cases h
      have h6 := h0.2.2 c hc2 ⟨np_lp v, by rw [Nat.mul_comm]; exact hc⟩
      have h7 := Nat.mul_le_mul_left (np_lp v) h6
      omega
theorem nm_lsq {n a : Nat} (hn : n < 2 ^ 40) (ha : a < 2 ^ 30) : lg_cmp (lN a * lN a) (lN n) ≤ 0 ↔ a * a ≤ n := by
  have h1 := Nat.mul_le_mul (Nat.le_of_lt ha) (Nat.le_of_lt ha)
  rw [lg_cmp_le, xn_lmul, xn_lle (by omega) (by omega)]
theorem nm_nlt {a b : Int32} : ¬ 0 < a ↔ a ≤ 0 := Int32.not_lt
set_option maxRecDepth 20000 in
theorem c_X12_leastPart (g : vv_G) (S : vs_S) (n : Nat) (hn2 : 2 ≤ n) (hn : n ≤ 1000000000002) : vs_FL g yX12_leastPart cX12_leastPart 4 (some .long) 1 [.long (lN n)] S (lN (np_lp n)) S := by
  refine vs_ofL (lv := [_, _, _, _]) mb_X12_leastPart (Nat.le_of_ble_eq_true rfl) rfl (fun x C F => ?_)
  have t2 : lg_cmp (lN n % lN 2) 0 = 0 ↔ 2 ∣ n := np_lrem (by omega) (by omega)
  have t3 : lg_cmp (lN n % lN 3) 0 = 0 ↔ 3 ∣ n := np_lrem (by omega) (by omega)
  refine vv_lload_n C dX12_leastPart_0 rfl ?_
  refine vv_ldc2 C dX12_leastPart_1 kc_X12_90 ?_
  refine vv_lrem C dX12_leastPart_4 (by decide) ?_
  refine vv_lconst C dX12_leastPart_5 lc_0 ?_
  refine vv_lcmp C dX12_leastPart_6 ?_
  refine vv_if_ne (tgt := 14) C dX12_leastPart_7 (by decide) (fun q7 => ?_) (fun q7 => ?_)
  · have h2 : ¬ 2 ∣ n := fun z => q7 (t2.mpr z)
    refine vv_lload_n C dX12_leastPart_14 rfl ?_
    refine vv_ldc2 C dX12_leastPart_15 kc_X12_92 ?_
    refine vv_lrem C dX12_leastPart_18 (by decide) ?_
    refine vv_lconst C dX12_leastPart_19 lc_0 ?_
    refine vv_lcmp C dX12_leastPart_20 ?_
    refine vv_if_ne (tgt := 28) C dX12_leastPart_21 (by decide) (fun q21 => ?_) (fun q21 => ?_)
    · have h3 : ¬ 3 ∣ n := fun z => q21 (t3.mpr z)
      have loop : ∀ (m a : Nat), 2000000 ≤ a + m → 5 ≤ a → a ≤ 1000100 → a % 6 = 5 → np_no n a → vv_V g x 4 0 0 32 [some (.long (lN n)), none, some (.long (lN a)), none] [] (vs_cells g S) := by
        intro m
        induction m with
        | zero => intro a h1 h4 h7 h5 h6; omega
        | succ m ih =>
          intro a h1 h4 h7 h5 h6
          have t1 : lg_cmp (lN n % lN a) 0 = 0 ↔ a ∣ n := np_lrem (by omega) (by omega)
          have t2 : lg_cmp (lN n % lN (a + 2)) 0 = 0 ↔ (a + 2) ∣ n := np_lrem (by omega) (by omega)
          have t0 := nm_lsq (n := n) (a := a) (by omega) (by omega)
          refine vv_lload_n C dX12_leastPart_32 rfl ?_
          refine vv_lload_n C dX12_leastPart_33 rfl ?_
          refine vv_lmul C dX12_leastPart_34 ?_
          refine vv_lload_n C dX12_leastPart_35 rfl ?_
          refine vv_lcmp C dX12_leastPart_36 ?_
          refine vv_if_gt (tgt := 77) C dX12_leastPart_37 (by decide) (fun q37 => ?_) (fun q37 => ?_)
          · have hgt : n < a * a := by
              apply Nat.lt_of_not_le
              intro z
              exact absurd q37 (Int32.not_lt.mpr (t0.mpr z))
            refine vv_lload_n C dX12_leastPart_77 rfl ?_
            exact vs_lret C F dX12_leastPart_78 rfl ⟨by rw [np_root hn2 h6 hgt], rfl⟩
          · have hle : a * a ≤ n := t0.mp (Int32.not_lt.mp q37)
            have ha6 : a ≤ 1000001 := by
              apply Nat.le_of_not_lt
              intro z
              have := Nat.mul_le_mul (Nat.succ_le_of_lt z) (Nat.succ_le_of_lt z)
              omega
            refine vv_lload_n C dX12_leastPart_40 rfl ?_
            refine vv_lload_n C dX12_leastPart_41 rfl ?_
            refine vv_lrem C dX12_leastPart_42 (np_lne (by omega) (by omega)) ?_
            refine vv_lconst C dX12_leastPart_43 lc_0 ?_
            refine vv_lcmp C dX12_leastPart_44 ?_
            refine vv_if_ne (tgt := 50) C dX12_leastPart_45 (by decide) (fun q45 => ?_) (fun q45 => ?_)
            · refine vv_lload_n C dX12_leastPart_50 rfl ?_
              refine vv_lload_n C dX12_leastPart_51 rfl ?_
              refine vv_ldc2 C dX12_leastPart_52 kc_X12_90 ?_
              refine vv_ladd C dX12_leastPart_55 ?_
              refine vs_eql (v9 := lN (a + 2)) (lN_add a 2) ?_
              refine vv_lrem C dX12_leastPart_56 (np_lne (by omega) (by omega)) ?_
              refine vv_lconst C dX12_leastPart_57 lc_0 ?_
              refine vv_lcmp C dX12_leastPart_58 ?_
              refine vv_if_ne (tgt := 68) C dX12_leastPart_59 (by decide) (fun q59 => ?_) (fun q59 => ?_)
              · refine vv_lload_n C dX12_leastPart_68 rfl ?_
                refine vv_ldc2 C dX12_leastPart_69 kc_X12_96 ?_
                refine vv_ladd C dX12_leastPart_72 ?_
                refine vs_eql (v9 := lN (a + 6)) (lN_add a 6) ?_
                refine vw_lstore_n (lv9 := [_, _, _, _]) C dX12_leastPart_73 (by decide) rfl rfl ?_
                refine vv_goto (tgt := 32) C dX12_leastPart_74 (by decide) ?_
                exact ih (a + 6) (by omega) (by omega) (by omega) (by omega) (np_step h2 h3 h5 h6 (fun z => q45 (t1.mpr z)) (fun z => q59 (t2.mpr z)))
              · refine vv_lload_n C dX12_leastPart_62 rfl ?_
                refine vv_ldc2 C dX12_leastPart_63 kc_X12_90 ?_
                refine vv_ladd C dX12_leastPart_66 ?_
                refine vs_eql (v9 := lN (a + 2)) (lN_add a 2) ?_
                exact vs_lret C F dX12_leastPart_67 rfl ⟨by rw [np_lp_eq hn2 (np_found (by omega) (t2.mp q59) (np_step1 h2 h5 h6 (fun z => q45 (t1.mpr z))))], rfl⟩
            · refine vv_lload_n C dX12_leastPart_48 rfl ?_
              exact vs_lret C F dX12_leastPart_49 rfl ⟨by rw [np_lp_eq hn2 (np_found (by omega) (t1.mp q45) h6)], rfl⟩
      refine vv_ldc2 C dX12_leastPart_28 kc_X12_94 ?_
      refine vw_lstore_n (lv9 := [_, _, _, _]) C dX12_leastPart_31 (by decide) rfl rfl ?_
      exact loop 2000000 5 (by omega) (by omega) (by omega) (by decide) (np_no5 h2 h3)
    · refine vv_ldc2 C dX12_leastPart_24 kc_X12_92 ?_
      exact vs_lret C F dX12_leastPart_27 rfl ⟨by rw [np_lp_eq hn2 (np_LP3 h2 (t3.mp q21))]; rfl, rfl⟩
  · refine vv_ldc2 C dX12_leastPart_10 kc_X12_90 ?_
    exact vs_lret C F dX12_leastPart_13 rfl ⟨by rw [np_lp_eq hn2 (np_LP2 (t2.mp q7))]; rfl, rfl⟩
