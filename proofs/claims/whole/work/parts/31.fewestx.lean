set_option maxRecDepth 20000 in
theorem c_X10_leastOfTwoOrMore (g : vv_G) (S : vs_S) (P : Nat → Bool) (N : Nat) (Y O : Nat → Nat) (m : Nat) (hD : fx_D P S N Y O m) (hN : N + 1 ≤ 2000) (hnP : P (N + 1) = false) : vs_KI g yX10_leastOfTwoOrMore cX10_leastOfTwoOrMore 4 (some .int) 2 [vv_r g 5, .int (nI (N + 1))] S (fun r S1 => S1 = S ∧ ∃ x9, r = nI x9 ∧ fw_is P Y (N + 1) x9) := by
  refine vs_ofI (lv := [_, _, _, _]) mb_X10_leastOfTwoOrMore (Nat.le_of_ble_eq_true rfl) rfl (fun x C F => ?_)
  obtain ⟨hT, hO, hF, hOa, hm⟩ := hD
  have fin : ∀ x9, x9 ≤ 10 → (∀ j, j < m → x9 ≤ Y (N + 1 - O j) + 1) → (x9 = 10 ∨ ∃ b, 2 ≤ b ∧ b ≤ N + 1 ∧ P b = true ∧ x9 = Y (N + 1 - b) + 1) → fw_is P Y (N + 1) x9 := by
    intro x9 a b c
    refine ⟨a, fun z z1 z2 z3 z4 => ?_, c⟩
    have hz : z ≠ N + 1 := fun y => by rw [y, hnP] at z4; cases z4
    obtain ⟨j, j1, j2⟩ := hO.2.2.1 z z1 (by omega) z4
    rw [← j2]
    exact b j j1
  have early : ∀ x9, x9 ≤ 2 → x9 ≤ 10 → (x9 = 10 ∨ ∃ b, 2 ≤ b ∧ b ≤ N + 1 ∧ P b = true ∧ x9 = Y (N + 1 - b) + 1) → fw_is P Y (N + 1) x9 := by
    intro x9 h2 a c
    refine fin x9 a (fun j hj => ?_) c
    have h3 := hO.2.1 j hj
    have h4 := fw_ge hT (v := N + 1 - O j) (by omega) (by omega)
    omega
  have loop : ∀ (f i x9 : Nat), i + f = m → x9 ≤ 10 → (∀ j, j < i → x9 ≤ Y (N + 1 - O j) + 1) → (x9 = 10 ∨ ∃ b, 2 ≤ b ∧ b ≤ N + 1 ∧ P b = true ∧ x9 = Y (N + 1 - b) + 1) → vv_V g x 4 0 0 5 [some (vv_r g 5), some (.int (nI (N + 1))), some (.int (nI x9)), some (.int (nI i))] [] (vs_cells g S) := by
    have hmN := hO.1
    intro f
    induction f with
    | zero =>
      intro i x9 h1 ha hb hc
      have ho : i = m := by omega
      subst ho
      refine vv_iload_n C dX10_leastOfTwoOrMore_5 rfl ?_
      refine vv_aload_n C dX10_leastOfTwoOrMore_6 rfl ?_
      refine gf_X10_many C dX10_leastOfTwoOrMore_7 fg_X10_43 ?_
      refine vs_eqi (v9 := nI i) (hm) ?_
      refine vv_icmp_ge (tgt := 44) C dX10_leastOfTwoOrMore_10 (by decide) (fun q10 => ?_) (fun q10 => ?_)
      · refine vv_iload_n C dX10_leastOfTwoOrMore_44 rfl ?_
        exact vs_iret C F dX10_leastOfTwoOrMore_45 rfl ⟨rfl, x9, rfl, fin x9 ha hb hc⟩
      · exact absurd (Int32.le_refl _) q10
    | succ f ih =>
      intro i x9 h1 ha hb hc
      have hOi := hO.2.1 i (by omega)
      have hFi := fw_le hT (v := N + 1 - O i) (by omega)
      refine vv_iload_n C dX10_leastOfTwoOrMore_5 rfl ?_
      refine vv_aload_n C dX10_leastOfTwoOrMore_6 rfl ?_
      refine gf_X10_many C dX10_leastOfTwoOrMore_7 fg_X10_43 ?_
      refine vs_eqi (v9 := nI m) (hm) ?_
      refine vv_icmp_ge (tgt := 44) C dX10_leastOfTwoOrMore_10 (by decide) (fun q10 => ?_) (fun q10 => ?_)
      · exact absurd q10 (by rw [xn_le (by omega) (by omega)]; omega)
      · refine vv_iload_n C dX10_leastOfTwoOrMore_13 rfl ?_
        refine vv_iconst C dX10_leastOfTwoOrMore_14 ic_2 ?_
        refine vv_icmp_le (tgt := 44) C dX10_leastOfTwoOrMore_15 (by decide) (fun q15 => ?_) (fun q15 => ?_)
        · have h2 : x9 ≤ 2 := by rw [xn_lit, xn_le (by omega) (by omega)] at q15; exact q15
          refine vv_iload_n C dX10_leastOfTwoOrMore_44 rfl ?_
          exact vs_iret C F dX10_leastOfTwoOrMore_45 rfl ⟨rfl, x9, rfl, early x9 h2 ha hc⟩
        · refine vv_iload_n C dX10_leastOfTwoOrMore_18 rfl ?_
          refine vv_aload_n C dX10_leastOfTwoOrMore_19 rfl ?_
          refine gf_X10_fewest C dX10_leastOfTwoOrMore_20 fg_X10_15 ?_
          refine vv_iload_n C dX10_leastOfTwoOrMore_23 rfl ?_
          refine vv_aload_n C dX10_leastOfTwoOrMore_24 rfl ?_
          refine gf_X10_lawfulOnes C dX10_leastOfTwoOrMore_25 fg_X10_11 ?_
          refine vv_iload_n C dX10_leastOfTwoOrMore_28 rfl ?_
          refine ld_6 C dX10_leastOfTwoOrMore_29 (xn_in (by omega) (by omega)) ?_
          refine vs_eqi (v9 := nI (O i)) (by rw [xn_cl (by omega)]; exact hOa i (by omega)) ?_
          refine vv_isub C dX10_leastOfTwoOrMore_30 ?_
          refine vs_eqi (v9 := nI (N + 1 - O i)) (xn_sub (by omega)) ?_
          refine ld_7 C dX10_leastOfTwoOrMore_31 (xn_in (by omega) (by omega)) ?_
          refine vs_eqi (v9 := nI (Y (N + 1 - O i))) (by rw [xn_cl (by omega)]; exact hF _ (by omega)) ?_
          refine vv_iconst C dX10_leastOfTwoOrMore_32 ic_1 ?_
          refine vv_iadd C dX10_leastOfTwoOrMore_33 ?_
          refine vs_eqi (v9 := nI (Y (N + 1 - O i) + 1)) (nI_1 _) ?_
          refine vv_mmin C dX10_leastOfTwoOrMore_34 lk_X10_54 ⟨Nat.le_of_ble_eq_true rfl, Nat.le_of_ble_eq_true rfl, Nat.zero_le _, Nat.zero_le _⟩ ?_
          refine vs_eqi (v9 := nI (min x9 (Y (N + 1 - O i) + 1))) (xn_min (by omega) (by omega)) ?_
          refine vw_istore_n (lv9 := [_, _, _, _]) C dX10_leastOfTwoOrMore_37 (by decide) rfl rfl ?_
          refine vw_iinc (lv9 := [_, _, _, _]) C dX10_leastOfTwoOrMore_38 rfl ic_1 (by decide) rfl rfl ?_
          refine vv_goto (tgt := 5) C dX10_leastOfTwoOrMore_41 (by decide) ?_
          rw [nI_1]
          refine ih (i + 1) _ (by omega) (by omega) (fun j hj => ?_) ?_
          · by_cases z : j = i
            · subst z; omega
            · have := hb j (by omega)
              omega
          · by_cases z : x9 ≤ Y (N + 1 - O i) + 1
            · rw [Nat.min_eq_left z]; exact hc
            · rw [Nat.min_eq_right (by omega)]
              exact Or.inr ⟨O i, hOi.1, by omega, hOi.2.2, rfl⟩
  refine vv_bipush C dX10_leastOfTwoOrMore_0 bp_10 ?_
  refine vw_istore_n (lv9 := [_, _, _, _]) C dX10_leastOfTwoOrMore_2 (by decide) rfl rfl ?_
  refine vv_iconst C dX10_leastOfTwoOrMore_3 ic_0 ?_
  refine vw_istore_n (lv9 := [_, _, _, _]) C dX10_leastOfTwoOrMore_4 (by decide) rfl rfl ?_
  exact loop m 0 10 (Nat.zero_add _) (by omega) (fun j hj => by omega) (Or.inl rfl)
set_option maxRecDepth 20000 in
theorem c_X10_makeFewest (g : vv_G) (S : vs_S) (hS : nx_ok S) (law : Nat) (hl : law ≤ 3) (hs : S.1 0 = nI law) (h0 : S.2.1 7 0 = 0) : vs_KV g yX10_makeFewest cX10_makeFewest 2 none 5 [vv_r g 5] S (fun S1 => (∃ Y O m, fx_D (np_lx law) S1 2000 Y O m) ∧ vs_fr [1] [6, 7] [] S S1) := by
  refine vs_ofV (lv := [_, _]) mb_X10_makeFewest (Nat.le_of_ble_eq_true rfl) rfl (fun x C F => ?_)
  have loop : ∀ (f N : Nat) (S2 : vs_S) (Y O : Nat → Nat) (m : Nat), N + f = 2000 → vs_fr [1] [6, 7] [] S S2 → fx_D (np_lx law) S2 N Y O m → vv_V g x 2 0 0 7 [some (vv_r g 5), some (.int (nI (N + 1)))] [] (vs_cells g S2) := by
    intro f
    induction f with
    | zero =>
      intro N S2 Y O m h1 fr hD
      have ho : N = 2000 := by omega
      subst ho
      refine vv_iload_n C dX10_makeFewest_7 rfl ?_
      refine vv_sipush C dX10_makeFewest_8 sp_2000 ?_
      refine vv_icmp_gt (tgt := 73) C dX10_makeFewest_11 (by decide) (fun q11 => ?_) (fun q11 => ?_)
      · exact vs_vret C F dX10_makeFewest_73 rfl ⟨⟨Y, O, m, hD⟩, fr⟩
      · exact absurd (by decide +kernel) q11
    | succ f ih =>
      intro N S2 Y O m h1 fr hD
      have hD0 := hD
      obtain ⟨hT, hO, hF, hOa, hm⟩ := hD0
      have hmN := hO.1
      refine vv_iload_n C dX10_makeFewest_7 rfl ?_
      refine vv_sipush C dX10_makeFewest_8 sp_2000 ?_
      refine vv_icmp_gt (tgt := 73) C dX10_makeFewest_11 (by decide) (fun q11 => ?_) (fun q11 => ?_)
      · exact absurd q11 (by rw [xn_lit, xn_lt (by omega) (by omega)]; omega)
      · refine vv_aload_n C dX10_makeFewest_14 rfl ?_
        refine gf_X10_laws C dX10_makeFewest_15 fg_X10_30 ?_
        refine vv_iload_n C dX10_makeFewest_18 rfl ?_
        refine vv_i2l C dX10_makeFewest_19 ?_
        refine vs_eql (v9 := lN (N + 1)) (xn_i2l (by omega)) ?_
        refine vs_caliF C dX10_makeFewest_20 (c_X1_isLawful g S2 (nx_fr hS fr (by decide)) law hl ((fr.1 0 (by decide)).trans hs) (N + 1) (by omega)) mb_X1_isLawful mv_X1_isLawful lk_X10_46 ce_4 rfl rfl rfl rfl ⟨Nat.le_of_ble_eq_true rfl, Nat.le_of_ble_eq_true rfl, Nat.le_of_ble_eq_true rfl⟩ ?_
        refine vv_if_eq (tgt := 56) C dX10_makeFewest_23 (by decide) (fun q23 => ?_) (fun q23 => ?_)
        · have hp : np_lx law (N + 1) = false := vs_b0.mp q23
          refine vv_aload_n C dX10_makeFewest_56 rfl ?_
          refine gf_X10_fewest C dX10_makeFewest_57 fg_X10_15 ?_
          refine vv_iload_n C dX10_makeFewest_60 rfl ?_
          refine vv_aload_n C dX10_makeFewest_61 rfl ?_
          refine vv_iload_n C dX10_makeFewest_62 rfl ?_
          refine vs_calli C dX10_makeFewest_63 (c_X10_leastOfTwoOrMore g S2 (np_lx law) N Y O m hD (by omega) hp) mb_X10_leastOfTwoOrMore mv_X10_leastOfTwoOrMore lk_X10_50 ce_5 rfl rfl rfl rfl ⟨Nat.le_of_ble_eq_true rfl, Nat.le_of_ble_eq_true rfl, Nat.le_of_ble_eq_true rfl⟩ (fun r63 S63 p63 => ?_)
          obtain ⟨e63, x9, ex, hw⟩ := p63
          rw [e63]
          subst ex
          refine st_7 C dX10_makeFewest_66 (xn_in (by omega) (by omega)) ?_
          refine vw_iinc (lv9 := [_, _]) C dX10_makeFewest_67 rfl ic_1 (by decide) rfl rfl ?_
          refine vv_goto (tgt := 7) C dX10_makeFewest_70 (by decide) ?_
          rw [nI_1]
          by_cases hpp : np_lx law (N + 1) = true
          · first
            | exact absurd (hpp.symm.trans hp) (by decide)
            | skip
              refine ih (N + 1) _ _ _ _ (by omega) ((((fr.ua (by decide)).ua (by decide))).us (by decide)) ⟨fw_ext hT hw, on_yes hO hp h2, fun v hv => ?_, fun i hi => ?_, rfl⟩
              · show upd (S2.2.1 7) (nI (N + 1)).toNatClampNeg 1 v = _
                rw [xn_cl (by omega), xn_upd (α := Nat)]
                split
                · rfl
                · exact hF v (by omega)
              · show upd (S2.2.1 6) (nI m).toNatClampNeg (nI (N + 1)) i = _
                rw [xn_cl (by omega), xn_upd (α := Nat)]
                split
                · rfl
                · exact hOa i (by omega)
          · first
            | exact absurd hp hpp
            | skip
              refine ih (N + 1) _ _ O m (by omega) (fr.ua (by decide)) ⟨fw_ext hT hw, on_no hO hp, fun v hv => ?_, hOa, hm⟩
              show upd (S2.2.1 7) (nI (N + 1)).toNatClampNeg (nI x9) v = _
              rw [xn_cl (by omega), xn_upd (α := Nat)]
              split
              · rfl
              · exact hF v (by omega)
        · have hp : np_lx law (N + 1) = true := vs_b1.mp q23
          have h2 := np_lx2 hp
          have hw : fw_is (np_lx law) Y (N + 1) 1 := ⟨by omega, fun b _ _ _ _ => by omega, Or.inr ⟨N + 1, h2, Nat.le_refl _, hp, by rw [Nat.sub_self, hT.1]⟩⟩
          refine vv_aload_n C dX10_makeFewest_26 rfl ?_
          refine gf_X10_fewest C dX10_makeFewest_27 fg_X10_15 ?_
          refine vv_iload_n C dX10_makeFewest_30 rfl ?_
          refine vv_iconst C dX10_makeFewest_31 ic_1 ?_
          refine st_7 C dX10_makeFewest_32 (xn_in (by omega) (by omega)) ?_
          refine vv_aload_n C dX10_makeFewest_33 rfl ?_
          refine gf_X10_lawfulOnes C dX10_makeFewest_34 fg_X10_11 ?_
          refine vv_aload_n C dX10_makeFewest_37 rfl ?_
          refine gf_X10_many C dX10_makeFewest_38 fg_X10_43 ?_
          refine vs_eqi (v9 := nI m) (hm) ?_
          refine vv_iload_n C dX10_makeFewest_41 rfl ?_
          refine st_6 C dX10_makeFewest_42 (xn_in (by omega) (by omega)) ?_
          refine vv_aload_n C dX10_makeFewest_43 rfl ?_
          refine vv_dup C dX10_makeFewest_44 rfl ?_
          refine gf_X10_many C dX10_makeFewest_45 fg_X10_43 ?_
          refine vs_eqi (v9 := nI m) (hm) ?_
          refine vv_iconst C dX10_makeFewest_48 ic_1 ?_
          refine vv_iadd C dX10_makeFewest_49 ?_
          refine vs_eqi (v9 := nI (m + 1)) (nI_1 _) ?_
          refine pf_X10_many C dX10_makeFewest_50 fp_X10_43 ?_
          refine vv_goto (tgt := 67) C dX10_makeFewest_53 (by decide) ?_
          refine vw_iinc (lv9 := [_, _]) C dX10_makeFewest_67 rfl ic_1 (by decide) rfl rfl ?_
          refine vv_goto (tgt := 7) C dX10_makeFewest_70 (by decide) ?_
          rw [nI_1]
          by_cases hpp : np_lx law (N + 1) = true
          · first
            | exact absurd (hpp.symm.trans hp) (by decide)
            | skip
              refine ih (N + 1) _ _ _ _ (by omega) ((((fr.ua (by decide)).ua (by decide))).us (by decide)) ⟨fw_ext hT hw, on_yes hO hp h2, fun v hv => ?_, fun i hi => ?_, rfl⟩
              · show upd (S2.2.1 7) (nI (N + 1)).toNatClampNeg 1 v = _
                rw [xn_cl (by omega), xn_upd (α := Nat)]
                split
                · rfl
                · exact hF v (by omega)
              · show upd (S2.2.1 6) (nI m).toNatClampNeg (nI (N + 1)) i = _
                rw [xn_cl (by omega), xn_upd (α := Nat)]
                split
                · rfl
                · exact hOa i (by omega)
          · first
            | exact absurd hp hpp
            | skip
              refine ih (N + 1) _ _ O m (by omega) (fr.ua (by decide)) ⟨fw_ext hT hw, on_no hO hp, fun v hv => ?_, hOa, hm⟩
              show upd (S2.2.1 7) (nI (N + 1)).toNatClampNeg (nI x9) v = _
              rw [xn_cl (by omega), xn_upd (α := Nat)]
              split
              · rfl
              · exact hF v (by omega)
  refine vv_aload_n C dX10_makeFewest_0 rfl ?_
  refine vv_iconst C dX10_makeFewest_1 ic_0 ?_
  refine pf_X10_many C dX10_makeFewest_2 fp_X10_43 ?_
  refine vv_iconst C dX10_makeFewest_5 ic_1 ?_
  refine vw_istore_n (lv9 := [_, _]) C dX10_makeFewest_6 (by decide) rfl rfl ?_
  exact loop 2000 0 (vs_us S 1 0) (fun _ => 0) (fun _ => 0) 0 (by omega) (vs_fr.rf.us (by decide)) ⟨⟨rfl, fun v v1 v2 => by omega⟩, ⟨Nat.le_refl _, fun i hi => by omega, fun a a1 a2 => by omega, fun i j hij hj => by omega⟩, fun v hv => by rw [show v = 0 by omega]; exact h0, fun i hi => by omega, rfl⟩
set_option maxRecDepth 20000 in
theorem c_X10_greatestFirst (g : vv_G) (S : vs_S) (P : Nat → Bool) (hP2 : ∀ a, P a = true → 2 ≤ a) (Y O : Nat → Nat) (m : Nat) (hD : fx_D P S 2000 Y O m) (q : Nat) (h1q : 1 ≤ q) (hq : q ≤ 2000) : vs_FI g yX10_greatestFirst cX10_greatestFirst 4 (some .int) 2 [vv_r g 5, .int (nI q)] S (nI (gf P Y q)) S := by
  refine vs_ofI (lv := [_, _, _, _]) mb_X10_greatestFirst (Nat.le_of_ble_eq_true rfl) rfl (fun x C F => ?_)
  obtain ⟨hT, hO, hF, hOa, hm⟩ := hD
  have hFq := fw_ge hT h1q hq
  have hmN := hO.1
  have loop : ∀ (k : Nat) (w3 : Option Value), k ≤ m → (∀ j, k ≤ j → j < m → O j ≤ q → ¬ Y (q - O j) + 1 = Y q) → vv_V g x 4 0 0 7 [some (vv_r g 5), some (.int (nI q)), some (.int (nI k - 1)), w3] [] (vs_cells g S) := by
    intro k
    induction k with
    | zero =>
      intro w3 hk hb
      refine vv_iload_n C dX10_greatestFirst_7 rfl ?_
      refine vv_if_lt (tgt := 50) C dX10_greatestFirst_8 (by decide) (fun q8 => ?_) (fun q8 => ?_)
      · refine vv_iconst C dX10_greatestFirst_50 ic_0 ?_
        exact vs_iret C F dX10_greatestFirst_51 rfl ⟨by
        have e : gf P Y q = 0 := gs_no q (fun a ha hh => by
          have a2 := hP2 a hh.1
          obtain ⟨j, j1, j2⟩ := hO.2.2.1 a a2 (by omega) hh.1
          exact hb j (by omega) j1 (by omega) (by rw [j2]; exact hh.2))
        rw [e]
        rfl, rfl⟩
      · exact absurd (by decide +kernel) q8
    | succ k ih =>
      intro w3 hk hb
      rw [nI_pred]
      have hOk := hO.2.1 k (by omega)
      refine vv_iload_n C dX10_greatestFirst_7 rfl ?_
      refine vv_if_lt (tgt := 50) C dX10_greatestFirst_8 (by decide) (fun q8 => ?_) (fun q8 => ?_)
      · exact absurd q8 (xn_neg (by omega))
      · refine vv_aload_n C dX10_greatestFirst_11 rfl ?_
        refine gf_X10_lawfulOnes C dX10_greatestFirst_12 fg_X10_11 ?_
        refine vv_iload_n C dX10_greatestFirst_15 rfl ?_
        refine ld_6 C dX10_greatestFirst_16 (xn_in (by omega) (by omega)) ?_
        refine vs_eqi (v9 := nI (O k)) (by rw [xn_cl (by omega)]; exact hOa k (by omega)) ?_
        refine vw_istore_n (lv9 := [_, _, _, _]) C dX10_greatestFirst_17 (by decide) rfl rfl ?_
        refine vv_iload_n C dX10_greatestFirst_18 rfl ?_
        refine vv_iload_n C dX10_greatestFirst_19 rfl ?_
        refine vv_icmp_gt (tgt := 44) C dX10_greatestFirst_20 (by decide) (fun q20 => ?_) (fun q20 => ?_)
        · have hz : ¬ O k ≤ q := by rw [xn_lt (by omega) (by omega)] at q20; omega
          refine vw_iinc (lv9 := [_, _, _, _]) C dX10_greatestFirst_44 rfl ic_m1 (by decide) rfl rfl ?_
          refine vv_goto (tgt := 7) C dX10_greatestFirst_47 (by decide) ?_
          show vv_V g x 4 0 0 7 [_, _, some (.int (nI k + -1)), _] _ _
          rw [xm1]
          refine ih _ (by omega) (fun j j1 j2 j3 => ?_)
          by_cases y : j = k
          · subst y
            first
            | exact absurd j3 hz
            | exact hy
          · exact hb j (by omega) j2 j3
        · have hz : O k ≤ q := by rw [xn_lt (by omega) (by omega)] at q20; omega
          have hFo := fw_le hT (v := q - O k) (by omega)
          refine vv_aload_n C dX10_greatestFirst_23 rfl ?_
          refine gf_X10_fewest C dX10_greatestFirst_24 fg_X10_15 ?_
          refine vv_iload_n C dX10_greatestFirst_27 rfl ?_
          refine vv_iload_n C dX10_greatestFirst_28 rfl ?_
          refine vv_isub C dX10_greatestFirst_29 ?_
          refine vs_eqi (v9 := nI (q - O k)) (xn_sub (by omega)) ?_
          refine ld_7 C dX10_greatestFirst_30 (xn_in (by omega) (by omega)) ?_
          refine vs_eqi (v9 := nI (Y (q - O k))) (by rw [xn_cl (by omega)]; exact hF _ (by omega)) ?_
          refine vv_aload_n C dX10_greatestFirst_31 rfl ?_
          refine gf_X10_fewest C dX10_greatestFirst_32 fg_X10_15 ?_
          refine vv_iload_n C dX10_greatestFirst_35 rfl ?_
          refine ld_7 C dX10_greatestFirst_36 (xn_in (by omega) (by omega)) ?_
          refine vs_eqi (v9 := nI (Y q)) (by rw [xn_cl (by omega)]; exact hF _ (by omega)) ?_
          refine vv_iconst C dX10_greatestFirst_37 ic_1 ?_
          refine vv_isub C dX10_greatestFirst_38 ?_
          refine vs_eqi (v9 := nI (Y q - 1)) (xn_sub (a := Y q) (b := 1) (by omega)) ?_
          refine vv_icmp_ne (tgt := 44) C dX10_greatestFirst_39 (by decide) (fun q39 => ?_) (fun q39 => ?_)
          · have hy : ¬ Y (q - O k) + 1 = Y q := by rw [xn_eq (by omega) (by omega)] at q39; omega
            refine vw_iinc (lv9 := [_, _, _, _]) C dX10_greatestFirst_44 rfl ic_m1 (by decide) rfl rfl ?_
            refine vv_goto (tgt := 7) C dX10_greatestFirst_47 (by decide) ?_
            show vv_V g x 4 0 0 7 [_, _, some (.int (nI k + -1)), _] _ _
            rw [xm1]
            refine ih _ (by omega) (fun j j1 j2 j3 => ?_)
            by_cases y : j = k
            · subst y
              first
              | exact absurd j3 hz
              | exact hy
            · exact hb j (by omega) j2 j3
          · have hy : Y (q - O k) + 1 = Y q := by rw [xn_eq (by omega) (by omega)] at q39; omega
            refine vv_iload_n C dX10_greatestFirst_42 rfl ?_
            exact vs_iret C F dX10_greatestFirst_43 rfl ⟨by
        have e : gf P Y q = O k := gs_at (by omega) ⟨hOk.2.2, hy⟩ q hz (fun c c1 c2 hh => by
          obtain ⟨j, j1, j2⟩ := hO.2.2.1 c (by omega) (by omega) hh.1
          have hjk : ¬ j ≤ k := fun z => by
            by_cases y : j = k
            · rw [y] at j2; omega
            · have := hO.2.2.2 j k (by omega) (by omega)
              omega
          exact hb j (by omega) j1 (by omega) (by rw [j2]; exact hh.2))
        rw [e], rfl⟩
  refine vv_aload_n C dX10_greatestFirst_0 rfl ?_
  refine gf_X10_many C dX10_greatestFirst_1 fg_X10_43 ?_
  refine vs_eqi (v9 := nI m) (hm) ?_
  refine vv_iconst C dX10_greatestFirst_4 ic_1 ?_
  refine vv_isub C dX10_greatestFirst_5 ?_
  refine vw_istore_n (lv9 := [_, _, _, _]) C dX10_greatestFirst_6 (by decide) rfl rfl ?_
  exact loop m _ (Nat.le_refl _) (fun j j1 j2 => by omega)
set_option maxRecDepth 20000 in
theorem c_X10_fewestAt (g : vv_G) (S : vs_S) (P : Nat → Bool) (hP2 : ∀ a, P a = true → 2 ≤ a) (Y O : Nat → Nat) (m : Nat) (hD : fx_D P S 2000 Y O m) (n : Nat) (hn : n ≤ 2000) (h9 : Y n ≤ 9) (i : Nat) (hi : i < Y n) : vs_FI g yX10_fewestAt cX10_fewestAt 5 (some .int) 3 [vv_r g 5, .int (nI n), .int (nI i)] S (nI (fa P Y i n)) S := by
  refine vs_ofI (lv := [_, _, _, _, _]) mb_X10_fewestAt (Nat.le_of_ble_eq_true rfl) rfl (fun x C F => ?_)
  have hT := hD.1
  have loop : ∀ (f k q : Nat), k + f = i → Y q + k = Y n → q ≤ 2000 → fa P Y f q = fa P Y i n → vv_V g x 5 0 0 5 [some (vv_r g 5), some (.int (nI n)), some (.int (nI i)), some (.int (nI q)), some (.int (nI k))] [] (vs_cells g S) := by
    intro f
    induction f with
    | zero =>
      intro k q h1 h2 h3 he
      have hk : k = i := by omega
      subst hk
      have hq1 : 1 ≤ q := Nat.pos_of_ne_zero (fun z => by rw [z, hT.1] at h2; omega)
      refine vv_iload C dX10_fewestAt_5 rfl ?_
      refine vv_iload_n C dX10_fewestAt_7 rfl ?_
      refine vv_icmp_ge (tgt := 25) C dX10_fewestAt_8 (by decide) (fun q8 => ?_) (fun q8 => ?_)
      · refine vv_aload_n C dX10_fewestAt_25 rfl ?_
        refine vv_iload_n C dX10_fewestAt_26 rfl ?_
        refine vs_caliF C dX10_fewestAt_27 (c_X10_greatestFirst g S P hP2 Y O m hD q hq1 h3) mb_X10_greatestFirst mv_X10_greatestFirst lk_X10_60 ce_5 rfl rfl rfl rfl ⟨Nat.le_of_ble_eq_true rfl, Nat.le_of_ble_eq_true rfl, Nat.le_of_ble_eq_true rfl⟩ ?_
        exact vs_iret C F dX10_fewestAt_30 rfl ⟨congrArg nI he, rfl⟩
      · exact absurd (Int32.le_refl _) q8
    | succ f ih =>
      intro k q h1 h2 h3 he
      have hq1 : 1 ≤ q := Nat.pos_of_ne_zero (fun z => by rw [z, hT.1] at h2; omega)
      have hg := gf_sp hT hq1 h3 (by omega)
      refine vv_iload C dX10_fewestAt_5 rfl ?_
      refine vv_iload_n C dX10_fewestAt_7 rfl ?_
      refine vv_icmp_ge (tgt := 25) C dX10_fewestAt_8 (by decide) (fun q8 => ?_) (fun q8 => ?_)
      · exact absurd q8 (by rw [xn_le (by omega) (by omega)]; omega)
      · refine vv_iload_n C dX10_fewestAt_11 rfl ?_
        refine vv_aload_n C dX10_fewestAt_12 rfl ?_
        refine vv_iload_n C dX10_fewestAt_13 rfl ?_
        refine vs_caliF C dX10_fewestAt_14 (c_X10_greatestFirst g S P hP2 Y O m hD q hq1 h3) mb_X10_greatestFirst mv_X10_greatestFirst lk_X10_60 ce_5 rfl rfl rfl rfl ⟨Nat.le_of_ble_eq_true rfl, Nat.le_of_ble_eq_true rfl, Nat.le_of_ble_eq_true rfl⟩ ?_
        refine vv_isub C dX10_fewestAt_17 ?_
        refine vs_eqi (v9 := nI (q - gf P Y q)) (xn_sub hg.2.1) ?_
        refine vw_istore_n (lv9 := [_, _, _, _, _]) C dX10_fewestAt_18 (by decide) rfl rfl ?_
        refine vw_iinc (lv9 := [_, _, _, _, _]) C dX10_fewestAt_19 rfl ic_1 (by decide) rfl rfl ?_
        refine vv_goto (tgt := 5) C dX10_fewestAt_22 (by decide) ?_
        rw [nI_1]
        exact ih (k + 1) _ (by omega) (by omega) (by omega) he
  refine vv_iload_n C dX10_fewestAt_0 rfl ?_
  refine vw_istore_n (lv9 := [_, _, _, _, _]) C dX10_fewestAt_1 (by decide) rfl rfl ?_
  refine vv_iconst C dX10_fewestAt_2 ic_0 ?_
  refine vw_istore (lv9 := [_, _, _, _, _]) C dX10_fewestAt_3 (by decide) rfl rfl ?_
  exact loop i 0 n (by omega) (by omega) hn rfl
set_option maxRecDepth 20000 in
theorem c_X10_fewestFor (g : vv_G) (S : vs_S) (hS : nx_ok S) (law : Nat) (hl : law ≤ 3) (hs : S.1 0 = nI law) (hf : fx_ok S) (n : Nat) (hn : n ≤ 2000) : vs_KI g yX10_fewestFor cX10_fewestFor 2 (some .int) 6 [vv_r g 5, .int (nI n)] S (fun r S1 => ∃ Y O m, fx_D (np_lx law) S1 2000 Y O m ∧ S1.1 2 = nI law ∧ fx_ok S1 ∧ r = (if Y n < 10 then nI (Y n) else -2) ∧ vs_fr [1, 2] [6, 7] [] S S1) := by
  refine vs_ofI (lv := [_, _]) mb_X10_fewestFor (Nat.le_of_ble_eq_true rfl) rfl (fun x C F => ?_)
  have F9 := F
  have fin : ∀ (S2 : vs_S) (Y O : Nat → Nat) (m : Nat), fx_D (np_lx law) S2 2000 Y O m → S2.1 2 = nI law → fx_ok S2 → vs_fr [1, 2] [6, 7] [] S S2 → vv_V g x 2 0 0 29 [some (vv_r g 5), some (.int (nI n))] [] (vs_cells g S2) := by
    intro S2 Y O m hD h2 ok2 fr
    have hFn := fw_le hD.1 hn
    refine vv_aload_n C dX10_fewestFor_29 rfl ?_
    refine gf_X10_fewest C dX10_fewestFor_30 fg_X10_15 ?_
    refine vv_iload_n C dX10_fewestFor_33 rfl ?_
    refine ld_7 C dX10_fewestFor_34 (xn_in (by omega) (by omega)) ?_
    refine vs_eqi (v9 := nI (Y n)) (by rw [xn_cl (by omega)]; exact hD.2.2.1 n hn) ?_
    refine vv_bipush C dX10_fewestFor_35 bp_10 ?_
    refine vv_icmp_ge (tgt := 49) C dX10_fewestFor_37 (by decide) (fun q37 => ?_) (fun q37 => ?_)
    · have hz : ¬ Y n < 10 := by rw [xn_lit, xn_le (by omega) (by omega)] at q37; omega
      refine vv_bipush C dX10_fewestFor_49 bp_m2 ?_
      first
      | exact vs_iret C F9 dX10_fewestFor_51 rfl ⟨Y, O, m, hD, h2, ok2, by rw [if_pos hz], fr⟩
      | exact vs_iret C F9 dX10_fewestFor_51 rfl ⟨Y, O, m, hD, h2, ok2, by rw [if_neg hz], fr⟩
    · have hz : Y n < 10 := by rw [xn_lit, xn_le (by omega) (by omega)] at q37; omega
      refine vv_aload_n C dX10_fewestFor_40 rfl ?_
      refine gf_X10_fewest C dX10_fewestFor_41 fg_X10_15 ?_
      refine vv_iload_n C dX10_fewestFor_44 rfl ?_
      refine ld_7 C dX10_fewestFor_45 (xn_in (by omega) (by omega)) ?_
      refine vs_eqi (v9 := nI (Y n)) (by rw [xn_cl (by omega)]; exact hD.2.2.1 n hn) ?_
      refine vv_goto (tgt := 51) C dX10_fewestFor_46 (by decide) ?_
      first
      | exact vs_iret C F9 dX10_fewestFor_51 rfl ⟨Y, O, m, hD, h2, ok2, by rw [if_pos hz], fr⟩
      | exact vs_iret C F9 dX10_fewestFor_51 rfl ⟨Y, O, m, hD, h2, ok2, by rw [if_neg hz], fr⟩
  refine vv_aload_n C dX10_fewestFor_0 rfl ?_
  refine gf_X10_fewestLaw C dX10_fewestFor_1 fg_X10_23 ?_
  refine vv_aload_n C dX10_fewestFor_4 rfl ?_
  refine gf_X10_laws C dX10_fewestFor_5 fg_X10_30 ?_
  refine vs_caliF C dX10_fewestFor_8 (c_X1_inForce g S) mb_X1_inForce mv_X1_inForce lk_X10_34 ce_4 rfl rfl rfl rfl ⟨Nat.le_of_ble_eq_true rfl, Nat.le_of_ble_eq_true rfl, Nat.le_of_ble_eq_true rfl⟩ ?_
  refine vv_icmp_eq (tgt := 29) C dX10_fewestFor_11 (by decide) (fun q11 => ?_) (fun q11 => ?_)
  · rcases hf with ⟨h1, h2 | ⟨l, h3, h4, F0, O0, m0, h5⟩⟩
    · exact absurd (h2.symm.trans (q11.trans hs)) (by
        intro z
        have := congrArg Int32.toInt z
        rw [xn_toInt (by omega)] at this
        have e2 : (-2 : Int32).toInt = -2 := rfl
        omega)
    · have e : l = law := (xn_eq (by omega) (by omega)).mp (h4.symm.trans (q11.trans hs))
      subst e
      exact fin S F0 O0 m0 h5 h4 ⟨h1, Or.inr ⟨l, h3, h4, F0, O0, m0, h5⟩⟩ vs_fr.rf
  · skip
    refine vv_aload_n C dX10_fewestFor_14 rfl ?_
    refine vv_aload_n C dX10_fewestFor_15 rfl ?_
    refine gf_X10_laws C dX10_fewestFor_16 fg_X10_30 ?_
    refine vs_caliF C dX10_fewestFor_19 (c_X1_inForce g S) mb_X1_inForce mv_X1_inForce lk_X10_34 ce_4 rfl rfl rfl rfl ⟨Nat.le_of_ble_eq_true rfl, Nat.le_of_ble_eq_true rfl, Nat.le_of_ble_eq_true rfl⟩ ?_
    refine pf_X10_fewestLaw C dX10_fewestFor_22 fp_X10_23 ?_
    refine vv_aload_n C dX10_fewestFor_25 rfl ?_
    refine vs_callv C dX10_fewestFor_26 (c_X10_makeFewest g (vs_us S 2 (S.1 0)) hS law hl hs hf.1) mb_X10_makeFewest mv_X10_makeFewest lk_X10_40 ce_5 rfl rfl rfl rfl ⟨Nat.le_of_ble_eq_true rfl, Nat.le_of_ble_eq_true rfl, Nat.le_of_ble_eq_true rfl⟩ (fun S26 p26 => ?_)
    obtain ⟨⟨F0, O0, m0, hD⟩, f26⟩ := p26
    have e2 : S26.1 2 = nI law := (f26.1 2 (by decide)).trans hs
    exact fin S26 F0 O0 m0 hD e2 ⟨by rw [hD.2.2.1 0 (by omega), hD.1.1]; rfl, Or.inr ⟨law, hl, e2, F0, O0, m0, hD⟩⟩ ((vs_fr.rf.us (by decide)).tr (f26.wd (by decide) (by decide) (by decide)))
      
set_option maxRecDepth 20000 in
theorem c_X11_fewest (g : vv_G) (S : vs_S) (hS : nx_ok S) (law : Nat) (hl : law ≤ 3) (hs : S.1 0 = nI law) (hf : fx_ok S) (n i : Int32) : vs_KI g yX11_fewest cX11_fewest 4 (some .int) 7 [vv_r g 0, .int n, .int i] S (fun r S1 => ∃ Y, ((vs_w n 1 2000 && decide (-1 ≤ i)) = true → fw_T (np_lx law) Y 2000) ∧ r = (if (vs_w n 1 2000 && decide (-1 ≤ i)) = true then fwv (np_lx law) Y n.toNatClampNeg i else -1) ∧ fx_ok S1 ∧ vs_fr [1, 2] [6, 7] [] S S1) := by
  refine vs_ofI (lv := [_, _, _, _]) mb_X11_fewest (Nat.le_of_ble_eq_true rfl) rfl (fun x C F => ?_)
  refine vv_iload_n C dX11_fewest_0 rfl ?_
  refine vv_iconst C dX11_fewest_1 ic_1 ?_
  refine vv_sipush C dX11_fewest_2 sp_2000 ?_
  refine vs_calsiF C dX11_fewest_5 (c_X11_within g S _ _ _) mb_X11_within ms_X11_within lk_X11_94 rfl rfl ⟨Nat.le_of_ble_eq_true rfl, Nat.le_of_ble_eq_true rfl, Nat.le_of_ble_eq_true rfl⟩ ?_
  refine vv_if_eq (tgt := 16) C dX11_fewest_8 (by decide) (fun q8 => ?_) (fun q8 => ?_)
  · have w1 : vs_w n 1 2000 = false := vs_b0.mp q8
    have hw : ¬ (vs_w n 1 2000 && decide (-1 ≤ i)) = true := by rw [w1, Bool.false_and]; decide
    refine vv_iconst C dX11_fewest_16 ic_m1 ?_
    exact vs_iret C F dX11_fewest_17 rfl ⟨fun _ => 0, fun z => absurd z hw, by rw [if_neg hw], hf, vs_fr.rf⟩
  · have w1 : vs_w n 1 2000 = true := vs_b1.mp q8
    obtain ⟨k, hk1, hk2, ek⟩ := vs_wN (a := 1) (b := 2000) (by omega) (by omega) w1
    subst ek
    refine vv_iload_n C dX11_fewest_11 rfl ?_
    refine vv_iconst C dX11_fewest_12 ic_m1 ?_
    refine vv_icmp_ge (tgt := 18) C dX11_fewest_13 (by decide) (fun q13 => ?_) (fun q13 => ?_)
    · have hw : (vs_w (nI k) 1 2000 && decide (-1 ≤ i)) = true := by rw [w1, decide_eq_true q13]; rfl
      refine vv_aload_n C dX11_fewest_18 rfl ?_
      refine gf_X11_sums C dX11_fewest_19 fg_X11_30 ?_
      refine vv_iload_n C dX11_fewest_22 rfl ?_
      refine vs_calli C dX11_fewest_23 (c_X10_fewestFor g S hS law hl hs hf k hk2) mb_X10_fewestFor mv_X10_fewestFor lk_X11_145 ce_5 rfl rfl rfl rfl ⟨Nat.le_of_ble_eq_true rfl, Nat.le_of_ble_eq_true rfl, Nat.le_of_ble_eq_true rfl⟩ (fun r23 S23 p23 => ?_)
      obtain ⟨F1, O1, m1, hD, e2, ok2, er, fr⟩ := p23
      subst er
      have hFk := fw_le hD.1 hk2
      refine vw_istore_n (lv9 := [_, _, _, _]) C dX11_fewest_26 (by decide) rfl rfl ?_
      refine vv_iload_n C dX11_fewest_27 rfl ?_
      refine vv_bipush C dX11_fewest_28 bp_m2 ?_
      refine vv_icmp_eq (tgt := 38) C dX11_fewest_30 (by decide) (fun q30 => ?_) (fun q30 => ?_)
      · have hz : 9 < F1 k := by
          apply Nat.lt_of_not_le
          intro z
          rw [if_pos (by omega)] at q30
          have := congrArg Int32.toInt q30
          rw [xn_toInt (by omega)] at this
          have e2 : (-2 : Int32).toInt = -2 := rfl
          omega
        refine vv_iload_n C dX11_fewest_38 rfl ?_
        refine vs_iret C F dX11_fewest_39 rfl ⟨F1, fun _ => hD.1, ?_, ok2, fr⟩
        rw [if_pos hw, xn_cl (by omega)]
        unfold fwv
        first
        | rw [if_neg (show ¬ F1 k < 10 by omega), if_pos hz]
        | rw [if_pos hz, if_neg (by omega), if_pos q35]
      · have hz : F1 k < 10 := by
          apply Nat.lt_of_not_le
          intro z
          rw [if_neg (by omega)] at q30
          exact q30 rfl
        refine vv_iload_n C dX11_fewest_33 rfl ?_
        refine vv_iconst C dX11_fewest_34 ic_m1 ?_
        refine vv_icmp_ne (tgt := 40) C dX11_fewest_35 (by decide) (fun q35 => ?_) (fun q35 => ?_)
        · obtain ⟨j, hj, ej⟩ := xn_m1 q13 q35
          subst ej
          refine vv_iload_n C dX11_fewest_40 rfl ?_
          refine vv_iload_n C dX11_fewest_41 rfl ?_
          refine vv_icmp_ge (tgt := 57) C dX11_fewest_42 (by decide) (fun q42 => ?_) (fun q42 => ?_)
          · have hij : ¬ j < F1 k := by rw [if_pos hz, xn_le (by omega) (by omega)] at q42; omega
            refine vv_iconst C dX11_fewest_57 ic_m1 ?_
            refine vs_iret C F dX11_fewest_58 rfl ⟨F1, fun _ => hD.1, ?_, ok2, fr⟩
            rw [if_pos hw, xn_cl (by omega)]
            unfold fwv
            rw [if_neg (by omega), if_neg q35, xn_cl hj]
            first
            | rw [if_pos ((xn_lt (by omega) (by omega)).mpr hij)]
            | rw [if_neg (fun z => hij ((xn_lt (by omega) (by omega)).mp z))]
          · have hij : j < F1 k := by rw [if_pos hz, xn_le (by omega) (by omega)] at q42; omega
            refine vv_aload_n C dX11_fewest_45 rfl ?_
            refine gf_X11_sums C dX11_fewest_46 fg_X11_30 ?_
            refine vv_iload_n C dX11_fewest_49 rfl ?_
            refine vv_iload_n C dX11_fewest_50 rfl ?_
            refine vs_caliF C dX11_fewest_51 (c_X10_fewestAt g S23 (np_lx law) (fun a h => np_lx2 h) F1 O1 m1 hD k hk2 (by omega) j (by omega)) mb_X10_fewestAt mv_X10_fewestAt lk_X11_148 ce_5 rfl rfl rfl rfl ⟨Nat.le_of_ble_eq_true rfl, Nat.le_of_ble_eq_true rfl, Nat.le_of_ble_eq_true rfl⟩ ?_
            refine vv_goto (tgt := 58) C dX11_fewest_54 (by decide) ?_
            refine vs_iret C F dX11_fewest_58 rfl ⟨F1, fun _ => hD.1, ?_, ok2, fr⟩
            rw [if_pos hw, xn_cl (by omega)]
            unfold fwv
            rw [if_neg (by omega), if_neg q35, xn_cl hj]
            first
            | rw [if_pos ((xn_lt (by omega) (by omega)).mpr hij)]
            | rw [if_neg (fun z => hij ((xn_lt (by omega) (by omega)).mp z))]
        · refine vv_iload_n C dX11_fewest_38 rfl ?_
          refine vs_iret C F dX11_fewest_39 rfl ⟨F1, fun _ => hD.1, ?_, ok2, fr⟩
          rw [if_pos hw, xn_cl (by omega)]
          unfold fwv
          first
          | rw [if_neg (show ¬ F1 k < 10 by omega), if_pos hz]
          | rw [if_pos hz, if_neg (by omega), if_pos q35]
    · have hw : ¬ (vs_w (nI k) 1 2000 && decide (-1 ≤ i)) = true := by rw [w1, decide_eq_false q13]; decide
      refine vv_iconst C dX11_fewest_16 ic_m1 ?_
      exact vs_iret C F dX11_fewest_17 rfl ⟨fun _ => 0, fun z => absurd z hw, by rw [if_neg hw], hf, vs_fr.rf⟩
