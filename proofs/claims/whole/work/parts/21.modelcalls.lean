/-- the reference's law is still in force -/
def nm_T (law : Nat) (S S1 : vs_S) : Prop := nm_to S S1 ∧ S1.1 23 = nI law
theorem nm_T.rf {law : Nat} {S : vs_S} (h : nm_ok S) (hs : S.1 23 = nI law) : nm_T law S S := ⟨nm_to.rf h, hs⟩
theorem nm_T.go {law : Nat} {S S1 S2 : vs_S} (h : nm_T law S S1) (h2 : nm_to S1 S2) : nm_T law S S2 := ⟨h.1.tr h2, by rw [h2.1.1 23 (by decide)]; exact h.2⟩
theorem vs_bk1 {x y : Int32} (h : ((decide (0 ≤ x) && decide (x ≤ 999999)) && (decide (0 ≤ y) && decide (y ≤ 999999))) = true) : 0 ≤ x ∧ x ≤ nI 999999 ∧ 0 ≤ y ∧ y ≤ nI 999999 := by
  simp only [Bool.and_eq_true, decide_eq_true_eq] at h
  exact ⟨h.1.1, h.1.2, h.2.1, h.2.2⟩
set_option maxRecDepth 20000 in
theorem c_X12_nextOf (g : vv_G) (S : vs_S) (hfl : vv_fl g = false) (hS : nm_ok S) (law : Nat) (hl : law ≤ 3) (hs : S.1 23 = nI law) (v : Int32) : vs_KI g yX12_nextOf cX12_nextOf 3 (some .int) 5 [vv_r g 65, .int v] S (fun r S1 => r = lw_next (np_lm law) v.toNatClampNeg ∧ nm_to S S1) := by
  obtain ⟨n, hn, hv, hc⟩ := xn_any v
  rw [hc]
  refine vs_ofI (lv := [_, _, _]) mb_X12_nextOf (Nat.le_of_ble_eq_true rfl) rfl (fun x C F => ?_)
  have loop : ∀ (f m : Nat) (S2 : vs_S), nm_T law S S2 → 2 ≤ m → m ≤ 1000001001 → f = 1000001001 - m → lw_up (np_lm law) f m = lw_next (np_lm law) n → vv_V g x 3 0 0 11 [some (vv_r g 65), some (.int v), some (.int (nI m))] [] (vs_cells g S2) := by
    intro f
    induction f with
    | zero =>
      intro m S2 t h2 h1 hf he
      have hm : m = 1000001001 := by omega
      subst hm
      refine vv_iload_n C dX12_nextOf_11 rfl ?_
      refine vv_ldc C dX12_nextOf_12 kc_X12_196 ?_
      refine vv_icmp_gt (tgt := 34) C dX12_nextOf_14 (by decide) (fun q14 => ?_) (fun q14 => ?_)
      · refine vv_bipush C dX12_nextOf_34 bp_m2 ?_
        exact vs_iret C F dX12_nextOf_36 rfl ⟨by rw [← he]; rfl, t.1⟩
      · exact absurd (by decide +kernel : (1000001000 : Int32) < nI 1000001001) q14
    | succ f ih =>
      intro m S2 t h2 h1 hf he
      rw [lw_up1 (by omega)] at he
      refine vv_iload_n C dX12_nextOf_11 rfl ?_
      refine vv_ldc C dX12_nextOf_12 kc_X12_196 ?_
      refine vv_icmp_gt (tgt := 34) C dX12_nextOf_14 (by decide) (fun q14 => ?_) (fun q14 => ?_)
      · exact absurd q14 (by rw [xn_lit, xn_lt (by omega) (by omega)]; omega)
      · refine vv_aload_n C dX12_nextOf_17 rfl ?_
        refine vv_iload_n C dX12_nextOf_18 rfl ?_
        refine vv_i2l C dX12_nextOf_19 ?_
        refine vs_eql (v9 := lN m) (xn_i2l (by omega)) ?_
        refine vs_calli C dX12_nextOf_20 (c_X12_isLawful g S2 hfl t.1.2 law hl t.2 m (by omega)) mb_X12_isLawful mv_X12_isLawful lk_X12_135 ce_65 rfl rfl rfl rfl ⟨Nat.le_of_ble_eq_true rfl, Nat.le_of_ble_eq_true rfl, Nat.le_of_ble_eq_true rfl⟩ (fun r20 S20 p20 => ?_)
        obtain ⟨e20, u20⟩ := p20
        subst e20
        have t20 := t.go u20
        refine vv_if_eq (tgt := 28) C dX12_nextOf_23 (by decide) (fun q23 => ?_) (fun q23 => ?_)
        · rw [if_neg (by rw [vs_b0.mp q23]; decide)] at he
          refine vw_iinc (lv9 := [_, _, _]) C dX12_nextOf_28 rfl ic_1 (by decide) rfl rfl ?_
          refine vv_goto (tgt := 11) C dX12_nextOf_31 (by decide) ?_
          rw [nI_1]
          exact ih (m + 1) S20 t20 (by omega) (by omega) (by omega) he
        · rw [if_pos (vs_b1.mp q23)] at he
          refine vv_iload_n C dX12_nextOf_26 rfl ?_
          exact vs_iret C F dX12_nextOf_27 rfl ⟨he, t20.1⟩
  refine vv_iload_n C dX12_nextOf_0 rfl ?_
  refine vv_iconst C dX12_nextOf_1 ic_2 ?_
  refine vv_icmp_ge (tgt := 9) C dX12_nextOf_2 (by decide) (fun q2 => ?_) (fun q2 => ?_)
  · have hv2 : v = nI (lw_mx n) := by rw [← lw_mxV hv hn, if_neg (Int32.not_lt.mpr q2)]
    refine vv_iload_n C dX12_nextOf_9 rfl ?_
    refine vs_eqi (v9 := nI (lw_mx n)) (hv2) ?_
    refine vw_istore_n (lv9 := [_, _, _]) C dX12_nextOf_10 (by decide) rfl rfl ?_
    have hmx : 2 ≤ lw_mx n := by unfold lw_mx; split <;> omega
    have hmx2 : lw_mx n < 2 ^ 31 := by unfold lw_mx; split <;> omega
    by_cases hz : lw_mx n ≤ 1000001001
    · exact loop (1000001001 - lw_mx n) _ S (nm_T.rf hS hs) hmx hz rfl rfl
    · refine vv_iload_n C dX12_nextOf_11 rfl ?_
      refine vv_ldc C dX12_nextOf_12 kc_X12_196 ?_
      refine vv_icmp_gt (tgt := 34) C dX12_nextOf_14 (by decide) (fun q14 => ?_) (fun q14 => ?_)
      · refine vv_bipush C dX12_nextOf_34 bp_m2 ?_
        exact vs_iret C F dX12_nextOf_36 rfl ⟨by unfold lw_next; rw [lw_up0 (by omega)], nm_to.rf hS⟩
      · exact absurd (by rw [xn_lit, xn_lt (by omega) (by omega)]; omega) q14
  · have hv2 : (2 : Int32) = nI (lw_mx n) := by rw [← lw_mxV hv hn, if_pos (Int32.not_le.mp q2)]
    refine vv_iconst C dX12_nextOf_5 ic_2 ?_
    refine vv_goto (tgt := 10) C dX12_nextOf_6 (by decide) ?_
    refine vs_eqi (v9 := nI (lw_mx n)) (hv2) ?_
    refine vw_istore_n (lv9 := [_, _, _]) C dX12_nextOf_10 (by decide) rfl rfl ?_
    have hmx : 2 ≤ lw_mx n := by unfold lw_mx; split <;> omega
    have hmx2 : lw_mx n < 2 ^ 31 := by unfold lw_mx; split <;> omega
    by_cases hz : lw_mx n ≤ 1000001001
    · exact loop (1000001001 - lw_mx n) _ S (nm_T.rf hS hs) hmx hz rfl rfl
    · refine vv_iload_n C dX12_nextOf_11 rfl ?_
      refine vv_ldc C dX12_nextOf_12 kc_X12_196 ?_
      refine vv_icmp_gt (tgt := 34) C dX12_nextOf_14 (by decide) (fun q14 => ?_) (fun q14 => ?_)
      · refine vv_bipush C dX12_nextOf_34 bp_m2 ?_
        exact vs_iret C F dX12_nextOf_36 rfl ⟨by unfold lw_next; rw [lw_up0 (by omega)], nm_to.rf hS⟩
      · exact absurd (by rw [xn_lit, xn_lt (by omega) (by omega)]; omega) q14
set_option maxRecDepth 20000 in
theorem c_X12_lastOf (g : vv_G) (S : vs_S) (hfl : vv_fl g = false) (hS : nm_ok S) (law : Nat) (hl : law ≤ 3) (hs : S.1 23 = nI law) (v : Int32) : vs_KI g yX12_lastOf cX12_lastOf 3 (some .int) 5 [vv_r g 65, .int v] S (fun r S1 => r = lw_dn (np_lm law) v.toNatClampNeg ∧ nm_to S S1) := by
  obtain ⟨n, hn, hv, hc⟩ := xn_any v
  rw [hc]
  refine vs_ofI (lv := [_, _, _]) mb_X12_lastOf (Nat.le_of_ble_eq_true rfl) rfl (fun x C F => ?_)
  have loop : ∀ (m : Nat) (S2 : vs_S), nm_T law S S2 → m < 2 ^ 31 → m ≤ 1000000000000 → lw_dn (np_lm law) m = lw_dn (np_lm law) n → vv_V g x 3 0 0 2 [some (vv_r g 65), some (.int v), some (.int (nI m))] [] (vs_cells g S2) := by
    intro m
    induction m with
    | zero =>
      intro S2 t h1 h3 he
      refine vv_iload_n C dX12_lastOf_2 rfl ?_
      refine vv_iconst C dX12_lastOf_3 ic_2 ?_
      refine vv_icmp_lt (tgt := 24) C dX12_lastOf_4 (by decide) (fun q4 => ?_) (fun q4 => ?_)
      · refine vv_bipush C dX12_lastOf_24 bp_m2 ?_
        exact vs_iret C F dX12_lastOf_26 rfl ⟨by rw [← he]; rfl, t.1⟩
      · exact absurd (by decide +kernel : nI 0 < (2 : Int32)) q4
    | succ m ih =>
      intro S2 t h1 h3 he
      refine vv_iload_n C dX12_lastOf_2 rfl ?_
      refine vv_iconst C dX12_lastOf_3 ic_2 ?_
      refine vv_icmp_lt (tgt := 24) C dX12_lastOf_4 (by decide) (fun q4 => ?_) (fun q4 => ?_)
      · have hm : m + 1 < 2 := by rw [xn_lit, xn_lt (by omega) (by omega)] at q4; exact q4
        rw [lw_dn0 hm] at he
        refine vv_bipush C dX12_lastOf_24 bp_m2 ?_
        exact vs_iret C F dX12_lastOf_26 rfl ⟨he, t.1⟩
      · have hm : 2 ≤ m + 1 := by rw [xn_lit, xn_lt (by omega) (by omega)] at q4; omega
        rw [lw_dn1 hm] at he
        refine vv_aload_n C dX12_lastOf_7 rfl ?_
        refine vv_iload_n C dX12_lastOf_8 rfl ?_
        refine vv_i2l C dX12_lastOf_9 ?_
        refine vs_eql (v9 := lN (m + 1)) (xn_i2l (by omega)) ?_
        refine vs_calli C dX12_lastOf_10 (c_X12_isLawful g S2 hfl t.1.2 law hl t.2 (m + 1) (by omega)) mb_X12_isLawful mv_X12_isLawful lk_X12_135 ce_65 rfl rfl rfl rfl ⟨Nat.le_of_ble_eq_true rfl, Nat.le_of_ble_eq_true rfl, Nat.le_of_ble_eq_true rfl⟩ (fun r10 S10 p10 => ?_)
        obtain ⟨e10, u10⟩ := p10
        subst e10
        have t10 := t.go u10
        refine vv_if_eq (tgt := 18) C dX12_lastOf_13 (by decide) (fun q13 => ?_) (fun q13 => ?_)
        · rw [if_neg (by rw [vs_b0.mp q13]; decide)] at he
          refine vw_iinc (lv9 := [_, _, _]) C dX12_lastOf_18 rfl ic_m1 (by decide) rfl rfl ?_
          refine vv_goto (tgt := 2) C dX12_lastOf_21 (by decide) ?_
          rw [pk_m1]
          exact ih S10 t10 (by omega) (by omega) he
        · rw [if_pos (vs_b1.mp q13)] at he
          refine vv_iload_n C dX12_lastOf_16 rfl ?_
          exact vs_iret C F dX12_lastOf_17 rfl ⟨he, t10.1⟩
  refine vv_iload_n C dX12_lastOf_0 rfl ?_
  refine vw_istore_n (lv9 := [_, _, _]) C dX12_lastOf_1 (by decide) rfl rfl ?_
  rcases hv with e | ⟨e, e2⟩
  · subst e
    exact loop n S (nm_T.rf hS hs) hn (by omega) rfl
  · subst e2
    refine vv_iload_n C dX12_lastOf_2 rfl ?_
    refine vv_iconst C dX12_lastOf_3 ic_2 ?_
    refine vv_icmp_lt (tgt := 24) C dX12_lastOf_4 (by decide) (fun q4 => ?_) (fun q4 => ?_)
    · refine vv_bipush C dX12_lastOf_24 bp_m2 ?_
      exact vs_iret C F dX12_lastOf_26 rfl ⟨rfl, nm_to.rf hS⟩
    · exact absurd (Int32.lt_trans e (by decide)) q4
set_option maxRecDepth 20000 in
theorem c_X12_change (g : vv_G) (S : vs_S) (hfl : vv_fl g = false) (hS : nm_ok S) (law : Nat) (hl : law ≤ 3) (hs : S.1 23 = nI law) (n : Int32) : vs_KI g yX12_change cX12_change 3 (some .int) 5 [vv_r g 65, .int n] S (fun r S1 => r = (if vs_w n 1 2000 = true then lw_ch (np_lm law) n.toNatClampNeg 2000 1 else -1) ∧ nm_to S S1) := by
  refine vs_ofI (lv := [_, _, _]) mb_X12_change (Nat.le_of_ble_eq_true rfl) rfl (fun x C F => ?_)
  refine vv_iload_n C dX12_change_0 rfl ?_
  refine vv_i2l C dX12_change_1 ?_
  refine vv_lconst C dX12_change_2 lc_1 ?_
  refine vs_eql (v9 := (1 : Int32).toInt64) (by decide +kernel) ?_
  refine vv_ldc2 C dX12_change_3 kc_X12_162 ?_
  refine vs_eql (v9 := (2000 : Int32).toInt64) (by decide +kernel) ?_
  refine vs_calsiF C dX12_change_6 (c_X12_within g S _ _ _) mb_X12_within ms_X12_within lk_X12_123 rfl rfl ⟨Nat.le_of_ble_eq_true rfl, Nat.le_of_ble_eq_true rfl, Nat.le_of_ble_eq_true rfl⟩ ?_
  refine vv_if_ne (tgt := 14) C dX12_change_9 (by decide) (fun q9 => ?_) (fun q9 => ?_)
  · have hw : vs_w n 1 2000 = true := vs_b1.mp q9
    obtain ⟨k, k1, k2, k3⟩ := vs_wN (a := 1) (b := 2000) (by omega) (by omega) hw
    subst k3
    have loop : ∀ (f b : Nat) (S2 : vs_S), nm_T law S S2 → b + f = 2001 → 1 ≤ b → lw_ch (np_lm law) k f b = lw_ch (np_lm law) k 2000 1 → vv_V g x 3 0 0 16 [some (vv_r g 65), some (.int (nI k)), some (.int (nI b))] [] (vs_cells g S2) := by
      intro f
      induction f with
      | zero =>
        intro b S2 t h1 h2 he
        have hb : b = 2001 := by omega
        subst hb
        refine vv_iload_n C dX12_change_16 rfl ?_
        refine vv_sipush C dX12_change_17 sp_2000 ?_
        refine vv_icmp_gt (tgt := 51) C dX12_change_20 (by decide) (fun q20 => ?_) (fun q20 => ?_)
        · refine vv_bipush C dX12_change_51 bp_m2 ?_
          exact vs_iret C F dX12_change_53 rfl ⟨by rw [if_pos hw, xn_cl (by omega), ← he]; rfl, t.1⟩
        · exact absurd (by decide +kernel : (2000 : Int32) < nI 2001) q20
      | succ f ih =>
        intro b S2 t h1 h2 he
        have go : lw_ch (np_lm law) k f (b + 1) = lw_ch (np_lm law) k 2000 1 → ∀ S3 : vs_S, nm_T law S S3 → vv_V g x 3 0 0 45 [some (vv_r g 65), some (.int (nI k)), some (.int (nI b))] [] (vs_cells g S3) := by
          intro he S3 t3
          refine vw_iinc (lv9 := [_, _, _]) C dX12_change_45 rfl ic_1 (by decide) rfl rfl ?_
          refine vv_goto (tgt := 16) C dX12_change_48 (by decide) ?_
          rw [nI_1]
          exact ih (b + 1) S3 t3 (by omega) (by omega) he
        rw [lw_ch1 (f := f) (b := b)] at he
        refine vv_iload_n C dX12_change_16 rfl ?_
        refine vv_sipush C dX12_change_17 sp_2000 ?_
        refine vv_icmp_gt (tgt := 51) C dX12_change_20 (by decide) (fun q20 => ?_) (fun q20 => ?_)
        · exact absurd q20 (by rw [xn_lit, xn_lt (by omega) (by omega)]; omega)
        · refine vv_aload_n C dX12_change_23 rfl ?_
          refine vv_iload_n C dX12_change_24 rfl ?_
          refine vv_i2l C dX12_change_25 ?_
          refine vs_eql (v9 := lN b) (xn_i2l (by omega)) ?_
          refine vs_calli C dX12_change_26 (c_X12_isLawful g S2 hfl t.1.2 law hl t.2 b (by omega)) mb_X12_isLawful mv_X12_isLawful lk_X12_135 ce_65 rfl rfl rfl rfl ⟨Nat.le_of_ble_eq_true rfl, Nat.le_of_ble_eq_true rfl, Nat.le_of_ble_eq_true rfl⟩ (fun r26 S26 p26 => ?_)
          obtain ⟨e26, u26⟩ := p26
          subst e26
          have t26 := t.go u26
          refine vv_if_eq (tgt := 45) C dX12_change_29 (by decide) (fun q29 => ?_) (fun q29 => ?_)
          · exact go (by rw [vs_b0.mp q29] at he; exact he) S26 t26
          · refine vv_aload_n C dX12_change_32 rfl ?_
            refine vv_iload_n C dX12_change_33 rfl ?_
            refine vv_iload_n C dX12_change_34 rfl ?_
            refine vv_iadd C dX12_change_35 ?_
            refine vs_eqi (v9 := nI (k + b)) (nI_add k b) ?_
            refine vv_i2l C dX12_change_36 ?_
            refine vs_eql (v9 := lN (k + b)) (xn_i2l (by omega)) ?_
            refine vs_calli C dX12_change_37 (c_X12_isLawful g S26 hfl t26.1.2 law hl t26.2 (k + b) (by omega)) mb_X12_isLawful mv_X12_isLawful lk_X12_135 ce_65 rfl rfl rfl rfl ⟨Nat.le_of_ble_eq_true rfl, Nat.le_of_ble_eq_true rfl, Nat.le_of_ble_eq_true rfl⟩ (fun r37 S37 p37 => ?_)
            obtain ⟨e37, u37⟩ := p37
            subst e37
            have t37 := t26.go u37
            refine vv_if_eq (tgt := 45) C dX12_change_40 (by decide) (fun q40 => ?_) (fun q40 => ?_)
            · exact go (by rw [vs_b0.mp q40, Bool.and_false] at he; exact he) S37 t37
            · refine vv_iload_n C dX12_change_43 rfl ?_
              exact vs_iret C F dX12_change_44 rfl ⟨by rw [if_pos hw, xn_cl (by omega), ← he, vs_b1.mp q29, vs_b1.mp q40]; rfl, t37.1⟩
    refine vv_iconst C dX12_change_14 ic_1 ?_
    refine vw_istore_n (lv9 := [_, _, _]) C dX12_change_15 (by decide) rfl rfl ?_
    exact loop 2000 1 S (nm_T.rf hS hs) (by omega) (by omega) rfl
  · refine vv_iconst C dX12_change_12 ic_m1 ?_
    exact vs_iret C F dX12_change_13 rfl ⟨by rw [show vs_w n 1 2000 = false from vs_b0.mp q9]; rfl, nm_to.rf hS⟩
set_option maxRecDepth 20000 in
theorem c_X12_third (g : vv_G) (S : vs_S) (hfl : vv_fl g = false) (hS : nm_ok S) (law : Nat) (hl : law ≤ 3) (hs : S.1 23 = nI law) (n : Int32) : vs_KI g yX12_third cX12_third 3 (some .int) 5 [vv_r g 65, .int n] S (fun r S1 => r = (if vs_w n 1 100000 = true then lw_th (np_lm law) n.toNatClampNeg (n.toNatClampNeg / 2) else -1) ∧ nm_to S S1) := by
  refine vs_ofI (lv := [_, _, _]) mb_X12_third (Nat.le_of_ble_eq_true rfl) rfl (fun x C F => ?_)
  refine vv_iload_n C dX12_third_0 rfl ?_
  refine vv_i2l C dX12_third_1 ?_
  refine vv_lconst C dX12_third_2 lc_1 ?_
  refine vs_eql (v9 := (1 : Int32).toInt64) (by decide +kernel) ?_
  refine vv_ldc2 C dX12_third_3 kc_X12_194 ?_
  refine vs_eql (v9 := (100000 : Int32).toInt64) (by decide +kernel) ?_
  refine vs_calsiF C dX12_third_6 (c_X12_within g S _ _ _) mb_X12_within ms_X12_within lk_X12_123 rfl rfl ⟨Nat.le_of_ble_eq_true rfl, Nat.le_of_ble_eq_true rfl, Nat.le_of_ble_eq_true rfl⟩ ?_
  refine vv_if_ne (tgt := 14) C dX12_third_9 (by decide) (fun q9 => ?_) (fun q9 => ?_)
  · have hw : vs_w n 1 100000 = true := vs_b1.mp q9
    obtain ⟨k, k1, k2, k3⟩ := vs_wN (a := 1) (b := 100000) (by omega) (by omega) hw
    subst k3
    have loop : ∀ (a : Nat) (S2 : vs_S), nm_T law S S2 → a ≤ k → lw_th (np_lm law) k a = lw_th (np_lm law) k (k / 2) → vv_V g x 3 0 0 18 [some (vv_r g 65), some (.int (nI k)), some (.int (nI a))] [] (vs_cells g S2) := by
      intro a
      induction a with
      | zero =>
        intro S2 t h1 he
        refine vv_iload_n C dX12_third_18 rfl ?_
        refine vv_iconst C dX12_third_19 ic_2 ?_
        refine vv_icmp_lt (tgt := 51) C dX12_third_20 (by decide) (fun q20 => ?_) (fun q20 => ?_)
        · refine vv_bipush C dX12_third_51 bp_m2 ?_
          exact vs_iret C F dX12_third_53 rfl ⟨by rw [if_pos hw, xn_cl (by omega), ← he]; rfl, t.1⟩
        · exact absurd (by decide +kernel : nI 0 < (2 : Int32)) q20
      | succ a ih =>
        intro S2 t h1 he
        have go : lw_th (np_lm law) k a = lw_th (np_lm law) k (k / 2) → ∀ S3 : vs_S, nm_T law S S3 → vv_V g x 3 0 0 45 [some (vv_r g 65), some (.int (nI k)), some (.int (nI (a + 1)))] [] (vs_cells g S3) := by
          intro he S3 t3
          refine vw_iinc (lv9 := [_, _, _]) C dX12_third_45 rfl ic_m1 (by decide) rfl rfl ?_
          refine vv_goto (tgt := 18) C dX12_third_48 (by decide) ?_
          rw [pk_m1]
          exact ih S3 t3 (by omega) he
        refine vv_iload_n C dX12_third_18 rfl ?_
        refine vv_iconst C dX12_third_19 ic_2 ?_
        refine vv_icmp_lt (tgt := 51) C dX12_third_20 (by decide) (fun q20 => ?_) (fun q20 => ?_)
        · have hm : a + 1 < 2 := by rw [xn_lit, xn_lt (by omega) (by omega)] at q20; exact q20
          rw [lw_th0 hm] at he
          refine vv_bipush C dX12_third_51 bp_m2 ?_
          exact vs_iret C F dX12_third_53 rfl ⟨by rw [if_pos hw, xn_cl (by omega), ← he], t.1⟩
        · have hm : 2 ≤ a + 1 := by rw [xn_lit, xn_lt (by omega) (by omega)] at q20; omega
          rw [lw_th1 hm] at he
          refine vv_aload_n C dX12_third_23 rfl ?_
          refine vv_iload_n C dX12_third_24 rfl ?_
          refine vv_i2l C dX12_third_25 ?_
          refine vs_eql (v9 := lN (a + 1)) (xn_i2l (by omega)) ?_
          refine vs_calli C dX12_third_26 (c_X12_isLawful g S2 hfl t.1.2 law hl t.2 (a + 1) (by omega)) mb_X12_isLawful mv_X12_isLawful lk_X12_135 ce_65 rfl rfl rfl rfl ⟨Nat.le_of_ble_eq_true rfl, Nat.le_of_ble_eq_true rfl, Nat.le_of_ble_eq_true rfl⟩ (fun r26 S26 p26 => ?_)
          obtain ⟨e26, u26⟩ := p26
          subst e26
          have t26 := t.go u26
          refine vv_if_eq (tgt := 45) C dX12_third_29 (by decide) (fun q29 => ?_) (fun q29 => ?_)
          · exact go (by rw [vs_b0.mp q29] at he; exact he) S26 t26
          · refine vv_aload_n C dX12_third_32 rfl ?_
            refine vv_iload_n C dX12_third_33 rfl ?_
            refine vv_iload_n C dX12_third_34 rfl ?_
            refine vv_isub C dX12_third_35 ?_
            refine vs_eqi (v9 := nI (k - (a + 1))) (xn_sub (by omega)) ?_
            refine vv_i2l C dX12_third_36 ?_
            refine vs_eql (v9 := lN (k - (a + 1))) (xn_i2l (by omega)) ?_
            refine vs_calli C dX12_third_37 (c_X12_isLawful g S26 hfl t26.1.2 law hl t26.2 (k - (a + 1)) (by omega)) mb_X12_isLawful mv_X12_isLawful lk_X12_135 ce_65 rfl rfl rfl rfl ⟨Nat.le_of_ble_eq_true rfl, Nat.le_of_ble_eq_true rfl, Nat.le_of_ble_eq_true rfl⟩ (fun r37 S37 p37 => ?_)
            obtain ⟨e37, u37⟩ := p37
            subst e37
            have t37 := t26.go u37
            refine vv_if_eq (tgt := 45) C dX12_third_40 (by decide) (fun q40 => ?_) (fun q40 => ?_)
            · exact go (by rw [vs_b0.mp q40, Bool.and_false] at he; exact he) S37 t37
            · refine vv_iload_n C dX12_third_43 rfl ?_
              exact vs_iret C F dX12_third_44 rfl ⟨by rw [if_pos hw, xn_cl (by omega), ← he, vs_b1.mp q29, vs_b1.mp q40]; rfl, t37.1⟩
    refine vv_iload_n C dX12_third_14 rfl ?_
    refine vv_iconst C dX12_third_15 ic_2 ?_
    refine vv_idiv C dX12_third_16 (by decide) ?_
    refine vs_eqi (v9 := nI (k / 2)) (by rw [xn_lit, xn_div (by omega) (by omega)]) ?_
    refine vw_istore_n (lv9 := [_, _, _]) C dX12_third_17 (by decide) rfl rfl ?_
    exact loop (k / 2) S (nm_T.rf hS hs) (by omega) rfl
  · refine vv_iconst C dX12_third_12 ic_m1 ?_
    exact vs_iret C F dX12_third_13 rfl ⟨by rw [show vs_w n 1 100000 = false from vs_b0.mp q9]; rfl, nm_to.rf hS⟩
set_option maxRecDepth 20000 in
theorem c_X12_tax (g : vv_G) (S : vs_S) (hfl : vv_fl g = false) (hS : nm_ok S) (law : Nat) (hl : law ≤ 3) (hs : S.1 23 = nI law) (n : Int32) : vs_KI g yX12_tax cX12_tax 2 (some .int) 6 [vv_r g 65, .int n] S (fun r S1 => r = (if vs_w n 0 1000000000 = true then lw_dn (np_lm law) (n / 10).toNatClampNeg else -1) ∧ nm_to S S1) := by
  have t := nm_T.rf hS hs
  refine vs_ofI (lv := [_, _]) mb_X12_tax (Nat.le_of_ble_eq_true rfl) rfl (fun x C F => ?_)
  refine vv_iload_n C dX12_tax_0 rfl ?_
  refine vv_i2l C dX12_tax_1 ?_
  refine vv_lconst C dX12_tax_2 lc_0 ?_
  refine vs_eql (v9 := (0 : Int32).toInt64) (by decide +kernel) ?_
  refine vv_ldc2 C dX12_tax_3 kc_X12_145 ?_
  refine vs_eql (v9 := (1000000000 : Int32).toInt64) (by decide +kernel) ?_
  refine vs_calsiF C dX12_tax_6 (c_X12_within g S _ _ _) mb_X12_within ms_X12_within lk_X12_123 rfl rfl ⟨Nat.le_of_ble_eq_true rfl, Nat.le_of_ble_eq_true rfl, Nat.le_of_ble_eq_true rfl⟩ ?_
  refine vv_if_eq (tgt := 23) C dX12_tax_9 (by decide) (fun q9 => ?_) (fun q9 => ?_)
  · have w1 : vs_w n 0 1000000000 = false := vs_b0.mp q9
    refine vv_iconst C dX12_tax_23 ic_m1 ?_
    first
    | exact vs_iret C F dX12_tax_24 rfl ⟨by rw [w1, if_pos rfl], u17⟩
    | exact vs_iret C F dX12_tax_24 rfl ⟨by rw [w1]; rfl, nm_to.rf hS⟩
  · have w1 : vs_w n 0 1000000000 = true := vs_b1.mp q9
    refine vv_aload_n C dX12_tax_12 rfl ?_
    refine vv_iload_n C dX12_tax_13 rfl ?_
    refine vv_bipush C dX12_tax_14 bp_10 ?_
    refine vv_idiv C dX12_tax_16 (by decide) ?_
    refine vs_calli C dX12_tax_17 (c_X12_lastOf g S hfl t.1.2 law hl t.2 _) mb_X12_lastOf mv_X12_lastOf lk_X12_200 ce_65 rfl rfl rfl rfl ⟨Nat.le_of_ble_eq_true rfl, Nat.le_of_ble_eq_true rfl, Nat.le_of_ble_eq_true rfl⟩ (fun r17 S17 p17 => ?_)
    obtain ⟨e17, u17⟩ := p17
    subst e17
    refine vv_goto (tgt := 24) C dX12_tax_20 (by decide) ?_
    first
    | exact vs_iret C F dX12_tax_24 rfl ⟨by rw [w1, if_pos rfl], u17⟩
    | exact vs_iret C F dX12_tax_24 rfl ⟨by rw [w1]; rfl, nm_to.rf hS⟩
/-- a next or last one is never some other number below 0 -/
theorem lw_upn {P : Nat → Bool} : ∀ (f m : Nat), m + f ≤ 2 ^ 31 → (lw_up P f m < 0 ↔ lw_up P f m = -2)
  | 0, m, _ => ⟨fun _ => rfl, fun _ => by show (-2 : Int32) < 0; decide⟩
  | f + 1, m, h => by
    show (if P m = true then nI m else lw_up P f (m + 1)) < 0 ↔ (if P m = true then nI m else lw_up P f (m + 1)) = -2
    split
    · exact ⟨fun z => absurd z (xn_neg (by omega)), fun z => absurd (show nI m < 0 by rw [z]; decide) (xn_neg (by omega))⟩
    · exact lw_upn f (m + 1) (by omega)
theorem lw_dnn {P : Nat → Bool} : ∀ (m : Nat), m < 2 ^ 31 → (lw_dn P m < 0 ↔ lw_dn P m = -2)
  | 0, _ => ⟨fun _ => rfl, fun _ => by show (-2 : Int32) < 0; decide⟩
  | m + 1, h => by
    show (if m = 0 then -2 else if P (m + 1) = true then nI (m + 1) else lw_dn P m) < 0 ↔ (if m = 0 then -2 else if P (m + 1) = true then nI (m + 1) else lw_dn P m) = -2
    split
    · exact ⟨fun _ => rfl, fun _ => by decide⟩
    · split
      · exact ⟨fun z => absurd z (xn_neg (by omega)), fun z => absurd (show nI (m + 1) < 0 by rw [z]; decide) (xn_neg (by omega))⟩
      · exact lw_dnn m (by omega)
theorem lw_nextn {P : Nat → Bool} {m : Nat} : lw_next P m < 0 ↔ lw_next P m = -2 := by
  unfold lw_next
  by_cases h : lw_mx m ≤ 1000001001
  · exact lw_upn _ _ (by omega)
  · rw [lw_up0 (by omega)]
    exact ⟨fun _ => rfl, fun _ => by decide⟩
theorem lw_cln {v : Int32} : v.toNatClampNeg < 2 ^ 31 := by
  obtain ⟨n, hn, -, hc⟩ := xn_any v
  rw [hc]; exact hn
theorem lw_rd2 {v n : Int32} (h : v < 0 ↔ v = -2) : (if v < 0 then -2 else if v - n < 0 then -(v - n) else v - n) = lw_rd v n := by
  unfold lw_rd
  by_cases e : v = -2
  · rw [if_pos e, if_pos (h.mpr e)]
  · rw [if_neg e, if_neg (fun z => e (h.mp z))]
    by_cases e2 : v - n < 0
    · rw [if_pos e2, if_neg (Int32.not_le.mpr e2), Int32.zero_sub]
    · rw [if_neg e2, if_pos (Int32.not_lt.mp e2)]
set_option maxRecDepth 20000 in
theorem c_X12_rounded (g : vv_G) (S : vs_S) (hfl : vv_fl g = false) (hS : nm_ok S) (law : Nat) (hl : law ≤ 3) (hs : S.1 23 = nI law) (n paid : Int32) : vs_KI g yX12_rounded cX12_rounded 4 (some .int) 6 [vv_r g 65, .int n, .int paid] S (fun r S1 => r = (if (vs_w n 0 1000000000 && vs_w paid 0 1) = true then (if paid = 1 then lw_rd (lw_next (np_lm law) n.toNatClampNeg) n else lw_rd (lw_dn (np_lm law) n.toNatClampNeg) n) else -1) ∧ nm_to S S1) := by
  have t := nm_T.rf hS hs
  refine vs_ofI (lv := [_, _, _, _]) mb_X12_rounded (Nat.le_of_ble_eq_true rfl) rfl (fun x C F => ?_)
  refine vv_iload_n C dX12_rounded_0 rfl ?_
  refine vv_i2l C dX12_rounded_1 ?_
  refine vv_lconst C dX12_rounded_2 lc_0 ?_
  refine vs_eql (v9 := (0 : Int32).toInt64) (by decide +kernel) ?_
  refine vv_ldc2 C dX12_rounded_3 kc_X12_145 ?_
  refine vs_eql (v9 := (1000000000 : Int32).toInt64) (by decide +kernel) ?_
  refine vs_calsiF C dX12_rounded_6 (c_X12_within g S _ _ _) mb_X12_within ms_X12_within lk_X12_123 rfl rfl ⟨Nat.le_of_ble_eq_true rfl, Nat.le_of_ble_eq_true rfl, Nat.le_of_ble_eq_true rfl⟩ ?_
  refine vv_if_eq (tgt := 22) C dX12_rounded_9 (by decide) (fun q9 => ?_) (fun q9 => ?_)
  · have w1 : vs_w n 0 1000000000 = false := vs_b0.mp q9
    refine vv_iconst C dX12_rounded_22 ic_m1 ?_
    exact vs_iret C F dX12_rounded_23 rfl ⟨by first | (rw [w1]; rfl) | (rw [w2, Bool.and_false]; rfl), nm_to.rf hS⟩
  · have w1 : vs_w n 0 1000000000 = true := vs_b1.mp q9
    refine vv_iload_n C dX12_rounded_12 rfl ?_
    refine vv_i2l C dX12_rounded_13 ?_
    refine vv_lconst C dX12_rounded_14 lc_0 ?_
    refine vs_eql (v9 := (0 : Int32).toInt64) (by decide +kernel) ?_
    refine vv_lconst C dX12_rounded_15 lc_1 ?_
    refine vs_eql (v9 := (1 : Int32).toInt64) (by decide +kernel) ?_
    refine vs_calsiF C dX12_rounded_16 (c_X12_within g S _ _ _) mb_X12_within ms_X12_within lk_X12_123 rfl rfl ⟨Nat.le_of_ble_eq_true rfl, Nat.le_of_ble_eq_true rfl, Nat.le_of_ble_eq_true rfl⟩ ?_
    refine vv_if_ne (tgt := 24) C dX12_rounded_19 (by decide) (fun q19 => ?_) (fun q19 => ?_)
    · have w2 : vs_w paid 0 1 = true := vs_b1.mp q19
      refine vv_iload_n C dX12_rounded_24 rfl ?_
      refine vv_iconst C dX12_rounded_25 ic_1 ?_
      refine vv_icmp_ne (tgt := 37) C dX12_rounded_26 (by decide) (fun q26 => ?_) (fun q26 => ?_)
      · refine vv_aload_n C dX12_rounded_37 rfl ?_
        refine vv_iload_n C dX12_rounded_38 rfl ?_
        refine vs_calli C dX12_rounded_39 (c_X12_lastOf g S hfl t.1.2 law hl t.2 _) mb_X12_lastOf mv_X12_lastOf lk_X12_200 ce_65 rfl rfl rfl rfl ⟨Nat.le_of_ble_eq_true rfl, Nat.le_of_ble_eq_true rfl, Nat.le_of_ble_eq_true rfl⟩ (fun r39 S39 p39 => ?_)
        obtain ⟨e39, u39⟩ := p39
        subst e39
        have hu := u39
        have hz := lw_dnn (P := np_lm law) n.toNatClampNeg lw_cln
        refine vw_istore_n (lv9 := [_, _, _, _]) C dX12_rounded_42 (by decide) rfl rfl ?_
        refine vv_iload_n C dX12_rounded_43 rfl ?_
        refine vv_if_ge (tgt := 52) C dX12_rounded_44 (by decide) (fun q44 => ?_) (fun q44 => ?_)
        · refine vv_iload_n C dX12_rounded_52 rfl ?_
          refine vv_iload_n C dX12_rounded_53 rfl ?_
          refine vv_isub C dX12_rounded_54 ?_
          refine vs_calsiF C dX12_rounded_55 (c_X12_size g _ _) mb_X12_size ms_X12_size lk_X12_264 rfl rfl ⟨Nat.le_of_ble_eq_true rfl, Nat.le_of_ble_eq_true rfl, Nat.le_of_ble_eq_true rfl⟩ ?_
          exact vs_iret C F dX12_rounded_58 rfl ⟨by rw [w1, w2, if_pos vs_tt]; (first | rw [if_pos q26] | rw [if_neg q26]); rw [← lw_rd2 hz]; first | rw [if_pos (Int32.not_le.mp q44)] | rw [if_neg (Int32.not_lt.mpr q44)], hu⟩
        · refine vv_bipush C dX12_rounded_47 bp_m2 ?_
          refine vv_goto (tgt := 58) C dX12_rounded_49 (by decide) ?_
          exact vs_iret C F dX12_rounded_58 rfl ⟨by rw [w1, w2, if_pos vs_tt]; (first | rw [if_pos q26] | rw [if_neg q26]); rw [← lw_rd2 hz]; first | rw [if_pos (Int32.not_le.mp q44)] | rw [if_neg (Int32.not_lt.mpr q44)], hu⟩
      · refine vv_aload_n C dX12_rounded_29 rfl ?_
        refine vv_iload_n C dX12_rounded_30 rfl ?_
        refine vs_calli C dX12_rounded_31 (c_X12_nextOf g S hfl t.1.2 law hl t.2 _) mb_X12_nextOf mv_X12_nextOf lk_X12_197 ce_65 rfl rfl rfl rfl ⟨Nat.le_of_ble_eq_true rfl, Nat.le_of_ble_eq_true rfl, Nat.le_of_ble_eq_true rfl⟩ (fun r31 S31 p31 => ?_)
        obtain ⟨e31, u31⟩ := p31
        subst e31
        have hu := u31
        have hz := lw_nextn (P := np_lm law) (m := n.toNatClampNeg)
        refine vv_goto (tgt := 42) C dX12_rounded_34 (by decide) ?_
        refine vw_istore_n (lv9 := [_, _, _, _]) C dX12_rounded_42 (by decide) rfl rfl ?_
        refine vv_iload_n C dX12_rounded_43 rfl ?_
        refine vv_if_ge (tgt := 52) C dX12_rounded_44 (by decide) (fun q44 => ?_) (fun q44 => ?_)
        · refine vv_iload_n C dX12_rounded_52 rfl ?_
          refine vv_iload_n C dX12_rounded_53 rfl ?_
          refine vv_isub C dX12_rounded_54 ?_
          refine vs_calsiF C dX12_rounded_55 (c_X12_size g _ _) mb_X12_size ms_X12_size lk_X12_264 rfl rfl ⟨Nat.le_of_ble_eq_true rfl, Nat.le_of_ble_eq_true rfl, Nat.le_of_ble_eq_true rfl⟩ ?_
          exact vs_iret C F dX12_rounded_58 rfl ⟨by rw [w1, w2, if_pos vs_tt]; (first | rw [if_pos q26] | rw [if_neg q26]); rw [← lw_rd2 hz]; first | rw [if_pos (Int32.not_le.mp q44)] | rw [if_neg (Int32.not_lt.mpr q44)], hu⟩
        · refine vv_bipush C dX12_rounded_47 bp_m2 ?_
          refine vv_goto (tgt := 58) C dX12_rounded_49 (by decide) ?_
          exact vs_iret C F dX12_rounded_58 rfl ⟨by rw [w1, w2, if_pos vs_tt]; (first | rw [if_pos q26] | rw [if_neg q26]); rw [← lw_rd2 hz]; first | rw [if_pos (Int32.not_le.mp q44)] | rw [if_neg (Int32.not_lt.mpr q44)], hu⟩
    · have w2 : vs_w paid 0 1 = false := vs_b0.mp q19
      refine vv_iconst C dX12_rounded_22 ic_m1 ?_
      exact vs_iret C F dX12_rounded_23 rfl ⟨by first | (rw [w1]; rfl) | (rw [w2, Bool.and_false]; rfl), nm_to.rf hS⟩
set_option maxRecDepth 20000 in
theorem c_X12_force (g : vv_G) (S : vs_S) (n : Int32) : vs_FI g yX12_force cX12_force 3 (some .int) 2 [vv_r g 65, .int n] S (if vs_w n 0 3 = true then S.1 23 else -1) (if vs_w n 0 3 = true then vs_us S 23 n else S) := by
  refine vs_ofI (lv := [_, _, _]) mb_X12_force (Nat.le_of_ble_eq_true rfl) rfl (fun x C F => ?_)
  refine vv_iload_n C dX12_force_0 rfl ?_
  refine vv_i2l C dX12_force_1 ?_
  refine vv_lconst C dX12_force_2 lc_0 ?_
  refine vs_eql (v9 := (0 : Int32).toInt64) (by decide +kernel) ?_
  refine vv_ldc2 C dX12_force_3 kc_X12_92 ?_
  refine vs_eql (v9 := (3 : Int32).toInt64) (by decide +kernel) ?_
  refine vs_calsiF C dX12_force_6 (c_X12_within g S _ _ _) mb_X12_within ms_X12_within lk_X12_123 rfl rfl ⟨Nat.le_of_ble_eq_true rfl, Nat.le_of_ble_eq_true rfl, Nat.le_of_ble_eq_true rfl⟩ ?_
  refine vv_if_ne (tgt := 14) C dX12_force_9 (by decide) (fun q9 => ?_) (fun q9 => ?_)
  · refine vv_aload_n C dX12_force_14 rfl ?_
    refine gf_X12_law1 C dX12_force_15 fg_X12_117 ?_
    refine vw_istore_n (lv9 := [_, _, _]) C dX12_force_18 (by decide) rfl rfl ?_
    refine vv_aload_n C dX12_force_19 rfl ?_
    refine vv_iload_n C dX12_force_20 rfl ?_
    refine pf_X12_law1 C dX12_force_21 fp_X12_117 ?_
    refine vv_iload_n C dX12_force_24 rfl ?_
    exact vs_iret C F dX12_force_25 rfl ⟨by rw [show vs_w n 0 3 = true from vs_b1.mp q9, if_pos rfl], by rw [show vs_w n 0 3 = true from vs_b1.mp q9, if_pos rfl]⟩
  · refine vv_iconst C dX12_force_12 ic_m1 ?_
    exact vs_iret C F dX12_force_13 rfl ⟨by rw [show vs_w n 0 3 = false from vs_b0.mp q9]; rfl, by rw [show vs_w n 0 3 = false from vs_b0.mp q9]; rfl⟩
set_option maxRecDepth 20000 in
theorem c_X12_lawful (g : vv_G) (S : vs_S) (hfl : vv_fl g = false) (hS : nm_ok S) (law : Nat) (hl : law ≤ 3) (hs : S.1 23 = nI law) (xx yy : Int32) : vs_KI g yX12_lawful cX12_lawful 3 (some .int) 5 [vv_r g 65, .int xx, .int yy] S (fun r S1 => r = (if ((decide (0 ≤ xx) && decide (xx ≤ 999999)) && (decide (0 ≤ yy) && decide (yy ≤ 999999))) = true then vs_b (np_lm law (xx.toNatClampNeg * 1000000 + yy.toNatClampNeg)) else -1) ∧ nm_to S S1) := by
  have t := nm_T.rf hS hs
  refine vs_ofI (lv := [_, _, _]) mb_X12_lawful (Nat.le_of_ble_eq_true rfl) rfl (fun x C F => ?_)
  refine vv_iload_n C dX12_lawful_0 rfl ?_
  refine vs_calsiF C dX12_lawful_1 (c_X12_isHalf g S _) mb_X12_isHalf ms_X12_isHalf lk_X12_129 rfl rfl ⟨Nat.le_of_ble_eq_true rfl, Nat.le_of_ble_eq_true rfl, Nat.le_of_ble_eq_true rfl⟩ ?_
  refine vv_if_eq (tgt := 38) C dX12_lawful_4 (by decide) (fun q4 => ?_) (fun q4 => ?_)
  · have hw : ((decide (0 ≤ xx) && decide (xx ≤ 999999)) && (decide (0 ≤ yy) && decide (yy ≤ 999999))) = false := by rw [show (decide (0 ≤ xx) && decide (xx ≤ 999999)) = false from vs_b0.mp q4]; rfl
    refine vv_iconst C dX12_lawful_38 ic_m1 ?_
    first
    | exact vs_iret C F dX12_lawful_39 rfl ⟨by rw [hw]; rfl, nm_to.rf hS⟩
    | exact vs_iret C F dX12_lawful_39 rfl ⟨by rw [if_pos hw, ← en2]; first | (rw [vs_b0.mp q27]; rfl) | (rw [vs_b1.mp q27]; rfl), u24⟩
  · refine vv_iload_n C dX12_lawful_7 rfl ?_
    refine vs_calsiF C dX12_lawful_8 (c_X12_isHalf g S _) mb_X12_isHalf ms_X12_isHalf lk_X12_129 rfl rfl ⟨Nat.le_of_ble_eq_true rfl, Nat.le_of_ble_eq_true rfl, Nat.le_of_ble_eq_true rfl⟩ ?_
    refine vv_if_eq (tgt := 38) C dX12_lawful_11 (by decide) (fun q11 => ?_) (fun q11 => ?_)
    · have hw : ((decide (0 ≤ xx) && decide (xx ≤ 999999)) && (decide (0 ≤ yy) && decide (yy ≤ 999999))) = false := by rw [show (decide (0 ≤ yy) && decide (yy ≤ 999999)) = false from vs_b0.mp q11, Bool.and_false]
      refine vv_iconst C dX12_lawful_38 ic_m1 ?_
      first
      | exact vs_iret C F dX12_lawful_39 rfl ⟨by rw [hw]; rfl, nm_to.rf hS⟩
      | exact vs_iret C F dX12_lawful_39 rfl ⟨by rw [if_pos hw, ← en2]; first | (rw [vs_b0.mp q27]; rfl) | (rw [vs_b1.mp q27]; rfl), u24⟩
    · have hw : ((decide (0 ≤ xx) && decide (xx ≤ 999999)) && (decide (0 ≤ yy) && decide (yy ≤ 999999))) = true := by rw [show (decide (0 ≤ xx) && decide (xx ≤ 999999)) = true from vs_b1.mp q4, show (decide (0 ≤ yy) && decide (yy ≤ 999999)) = true from vs_b1.mp q11]; rfl
      obtain ⟨n, hn, en, en2⟩ := vs_book hw
      refine vv_aload_n C dX12_lawful_14 rfl ?_
      refine vv_iload_n C dX12_lawful_15 rfl ?_
      refine vv_i2l C dX12_lawful_16 ?_
      refine vv_ldc2 C dX12_lawful_17 kc_X12_133 ?_
      refine vv_lmul C dX12_lawful_20 ?_
      refine vv_iload_n C dX12_lawful_21 rfl ?_
      refine vv_i2l C dX12_lawful_22 ?_
      refine vv_ladd C dX12_lawful_23 ?_
      refine vs_eql (v9 := lN n) (en) ?_
      refine vs_calli C dX12_lawful_24 (c_X12_isLawful g S hfl t.1.2 law hl t.2 n (by omega)) mb_X12_isLawful mv_X12_isLawful lk_X12_135 ce_65 rfl rfl rfl rfl ⟨Nat.le_of_ble_eq_true rfl, Nat.le_of_ble_eq_true rfl, Nat.le_of_ble_eq_true rfl⟩ (fun r24 S24 p24 => ?_)
      obtain ⟨e24, u24⟩ := p24
      subst e24
      refine vv_if_eq (tgt := 34) C dX12_lawful_27 (by decide) (fun q27 => ?_) (fun q27 => ?_)
      · refine vv_iconst C dX12_lawful_34 ic_0 ?_
        refine vv_goto (tgt := 39) C dX12_lawful_35 (by decide) ?_
        first
        | exact vs_iret C F dX12_lawful_39 rfl ⟨by rw [hw]; rfl, nm_to.rf hS⟩
        | exact vs_iret C F dX12_lawful_39 rfl ⟨by rw [if_pos hw, ← en2]; first | (rw [vs_b0.mp q27]; rfl) | (rw [vs_b1.mp q27]; rfl), u24⟩
      · refine vv_iconst C dX12_lawful_30 ic_1 ?_
        refine vv_goto (tgt := 39) C dX12_lawful_31 (by decide) ?_
        first
        | exact vs_iret C F dX12_lawful_39 rfl ⟨by rw [hw]; rfl, nm_to.rf hS⟩
        | exact vs_iret C F dX12_lawful_39 rfl ⟨by rw [if_pos hw, ← en2]; first | (rw [vs_b0.mp q27]; rfl) | (rw [vs_b1.mp q27]; rfl), u24⟩
set_option maxRecDepth 20000 in
theorem c_X12_part (g : vv_G) (S : vs_S) (xx yy : Int32) : vs_FL g yX12_part cX12_part 3 (some .long) 5 [vv_r g 65, .int xx, .int yy] S (if (((decide (0 ≤ xx) && decide (xx ≤ 999999)) && (decide (0 ≤ yy) && decide (yy ≤ 999999))) && decide (2 ≤ (xx.toNatClampNeg * 1000000 + yy.toNatClampNeg))) = true then lN (np_lp (xx.toNatClampNeg * 1000000 + yy.toNatClampNeg)) else -9223372036854775808) S := by
  refine vs_ofL (lv := [_, _, _]) mb_X12_part (Nat.le_of_ble_eq_true rfl) rfl (fun x C F => ?_)
  refine vv_iload_n C dX12_part_0 rfl ?_
  refine vs_calsiF C dX12_part_1 (c_X12_isHalf g S _) mb_X12_isHalf ms_X12_isHalf lk_X12_129 rfl rfl ⟨Nat.le_of_ble_eq_true rfl, Nat.le_of_ble_eq_true rfl, Nat.le_of_ble_eq_true rfl⟩ ?_
  refine vv_if_eq (tgt := 23) C dX12_part_4 (by decide) (fun q4 => ?_) (fun q4 => ?_)
  · have hw : ((decide (0 ≤ xx) && decide (xx ≤ 999999)) && (decide (0 ≤ yy) && decide (yy ≤ 999999))) = false := by rw [show (decide (0 ≤ xx) && decide (xx ≤ 999999)) = false from vs_b0.mp q4]; rfl
    refine vv_ldc2 C dX12_part_23 kc_X12_140 ?_
    exact vs_lret C F dX12_part_26 rfl ⟨by rw [hw]; first | rfl | (rw [xn_cl (show a < 2 ^ 31 by omega), xn_cl (show b < 2 ^ 31 by omega), ← en2, decide_eq_false h2]; rfl), rfl⟩
  · refine vv_iload_n C dX12_part_7 rfl ?_
    refine vs_calsiF C dX12_part_8 (c_X12_isHalf g S _) mb_X12_isHalf ms_X12_isHalf lk_X12_129 rfl rfl ⟨Nat.le_of_ble_eq_true rfl, Nat.le_of_ble_eq_true rfl, Nat.le_of_ble_eq_true rfl⟩ ?_
    refine vv_if_eq (tgt := 23) C dX12_part_11 (by decide) (fun q11 => ?_) (fun q11 => ?_)
    · have hw : ((decide (0 ≤ xx) && decide (xx ≤ 999999)) && (decide (0 ≤ yy) && decide (yy ≤ 999999))) = false := by rw [show (decide (0 ≤ yy) && decide (yy ≤ 999999)) = false from vs_b0.mp q11, Bool.and_false]
      refine vv_ldc2 C dX12_part_23 kc_X12_140 ?_
      exact vs_lret C F dX12_part_26 rfl ⟨by rw [hw]; first | rfl | (rw [xn_cl (show a < 2 ^ 31 by omega), xn_cl (show b < 2 ^ 31 by omega), ← en2, decide_eq_false h2]; rfl), rfl⟩
    · have hw : ((decide (0 ≤ xx) && decide (xx ≤ 999999)) && (decide (0 ≤ yy) && decide (yy ≤ 999999))) = true := by rw [show (decide (0 ≤ xx) && decide (xx ≤ 999999)) = true from vs_b1.mp q4, show (decide (0 ≤ yy) && decide (yy ≤ 999999)) = true from vs_b1.mp q11]; rfl
      obtain ⟨n, hn, en, en2⟩ := vs_book hw
      obtain ⟨a, ha, ea⟩ := xn_of (n := 999999) (by omega) (vs_bk1 hw).1 (vs_bk1 hw).2.1
      obtain ⟨b, hb, eb⟩ := xn_of (n := 999999) (by omega) (vs_bk1 hw).2.2.1 (vs_bk1 hw).2.2.2
      subst ea eb
      rw [xn_cl (show a < 2 ^ 31 by omega), xn_cl (show b < 2 ^ 31 by omega)] at en2
      refine vv_iload_n C dX12_part_14 rfl ?_
      refine vv_if_ne (tgt := 27) C dX12_part_15 (by decide) (fun q15 => ?_) (fun q15 => ?_)
      · have h2 : 2 ≤ n := by
          have z : ¬ a = 0 := fun z => q15 (by rw [z]; rfl)
          omega
        refine vv_iload_n C dX12_part_27 rfl ?_
        refine vv_i2l C dX12_part_28 ?_
        refine vv_ldc2 C dX12_part_29 kc_X12_133 ?_
        refine vv_lmul C dX12_part_32 ?_
        refine vv_iload_n C dX12_part_33 rfl ?_
        refine vv_i2l C dX12_part_34 ?_
        refine vv_ladd C dX12_part_35 ?_
        refine vs_eql (v9 := lN n) (en) ?_
        refine vs_calslF C dX12_part_36 (c_X12_leastPart g S n h2 (by omega)) mb_X12_leastPart ms_X12_leastPart lk_X12_104 rfl rfl ⟨Nat.le_of_ble_eq_true rfl, Nat.le_of_ble_eq_true rfl, Nat.le_of_ble_eq_true rfl⟩ ?_
        exact vs_lret C F dX12_part_39 rfl ⟨by rw [hw, xn_cl (show a < 2 ^ 31 by omega), xn_cl (show b < 2 ^ 31 by omega), ← en2, decide_eq_true h2, if_pos vs_tt], rfl⟩
      · have z0 : a = 0 := (xn_eq (b := 0) (by omega) (by omega)).mp q15
        refine vv_iload_n C dX12_part_18 rfl ?_
        refine vv_iconst C dX12_part_19 ic_2 ?_
        refine vv_icmp_ge (tgt := 27) C dX12_part_20 (by decide) (fun q20 => ?_) (fun q20 => ?_)
        · have h2 : 2 ≤ n := by
            rw [xn_lit, xn_le (by omega) (by omega)] at q20
            omega
          refine vv_iload_n C dX12_part_27 rfl ?_
          refine vv_i2l C dX12_part_28 ?_
          refine vv_ldc2 C dX12_part_29 kc_X12_133 ?_
          refine vv_lmul C dX12_part_32 ?_
          refine vv_iload_n C dX12_part_33 rfl ?_
          refine vv_i2l C dX12_part_34 ?_
          refine vv_ladd C dX12_part_35 ?_
          refine vs_eql (v9 := lN n) (en) ?_
          refine vs_calslF C dX12_part_36 (c_X12_leastPart g S n h2 (by omega)) mb_X12_leastPart ms_X12_leastPart lk_X12_104 rfl rfl ⟨Nat.le_of_ble_eq_true rfl, Nat.le_of_ble_eq_true rfl, Nat.le_of_ble_eq_true rfl⟩ ?_
          exact vs_lret C F dX12_part_39 rfl ⟨by rw [hw, xn_cl (show a < 2 ^ 31 by omega), xn_cl (show b < 2 ^ 31 by omega), ← en2, decide_eq_true h2, if_pos vs_tt], rfl⟩
        · have h2 : ¬ 2 ≤ n := by
            rw [xn_lit, xn_le (by omega) (by omega)] at q20
            omega
          refine vv_ldc2 C dX12_part_23 kc_X12_140 ?_
          exact vs_lret C F dX12_part_26 rfl ⟨by rw [hw]; first | rfl | (rw [xn_cl (show a < 2 ^ 31 by omega), xn_cl (show b < 2 ^ 31 by omega), ← en2, decide_eq_false h2]; rfl), rfl⟩
