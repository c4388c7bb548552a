theorem lt_o {N k p : Nat} (hN : N ≤ 60) (hk : k ≤ 60) (hp : p < 2 ^ 31) : nI p < nI N - nI k ↔ p + k < N := by
  have s1 : (nI N - nI k).toInt = (N : Int) - k := by
    rw [Int32.toInt_sub, xn_toInt (by omega), xn_toInt (by omega)]
    exact Int.bmod_eq_of_le_mul_two (by omega) (by omega)
  rw [Int32.lt_iff_toInt_lt, s1, xn_toInt hp]
  omega
theorem lt_lw {law : Nat} {v : Int64} (h : v < 2) : lwz (np_lm law) v = false := by
  unfold lwz
  by_cases z : 0 ≤ v
  · obtain ⟨k, hk, e⟩ := xl_of z
    subst e
    rw [xn_lit64, xn_llt hk (by omega)] at h
    rw [xn_lN hk]
    have : np_lm law ((k : Int)).toNat = false := by
      unfold np_lm
      rw [if_pos (by show k < 2; exact h)]
    rw [this, Bool.and_false]
  · rw [decide_eq_false z]
    rfl
theorem c_X12_kindK (g : vv_G) (S : vs_S) (K : Nat → Nat) (m : Nat) (hp : plM S m K) (b : Nat) (hb : b < m) : vs_FI g yX12_kindOf cX12_kindOf 2 (some .int) 1 [vv_r g 65, .int (nI b)] S (nI (K b)) S := by
  have hm := hp.2.1
  have h := c_X12_kindOf g S (nI b) (xn_in (by omega) (by omega))
  rw [xn_cl (by omega), (hp.2.2 b hb).1] at h
  exact h

set_option maxRecDepth 20000 in
theorem c_X12_withinL (g : vv_G) (S : vs_S) (n lo hi : Int64) : vs_FI g yX12_within cX12_within 6 (some .boolean) 1 [.long n, .long lo, .long hi] S (vs_b (decide (lo ≤ n) && decide (n ≤ hi))) S := by
  refine vs_ofI (lv := [_, _, _, _, _, _]) mb_X12_within (Nat.le_of_ble_eq_true rfl) rfl (fun x C F => ?_)
  refine vv_lload_n C dX12_within_0 rfl ?_
  refine vv_lload_n C dX12_within_1 rfl ?_
  refine vv_lcmp C dX12_within_2 ?_
  refine vv_if_lt (tgt := 17) C dX12_within_3 (by decide) (fun q3 => ?_) (fun q3 => ?_)
  · refine vv_iconst C dX12_within_17 ic_0 ?_
    exact vs_zret C F dX12_within_18 rfl rfl ⟨by first | (have z := (lg_cmp_lt _ _).mp q3; rw [decide_eq_false (Int64.not_le.mpr z)]; rfl) | (have z := (lg_cmp_gt _ _).mp q10; rw [decide_eq_false (p := n ≤ hi) (Int64.not_le.mpr z), Bool.and_false]; rfl) | (rw [decide_eq_true (Int64.not_lt.mp (fun z => q3 ((lg_cmp_lt _ _).mpr z))), decide_eq_true (Int64.not_lt.mp (fun z => q10 ((lg_cmp_gt _ _).mpr z)))]; rfl), rfl⟩
  · refine vv_lload_n C dX12_within_6 rfl ?_
    refine vv_lload C dX12_within_7 rfl ?_
    refine vv_lcmp C dX12_within_9 ?_
    refine vv_if_gt (tgt := 17) C dX12_within_10 (by decide) (fun q10 => ?_) (fun q10 => ?_)
    · refine vv_iconst C dX12_within_17 ic_0 ?_
      exact vs_zret C F dX12_within_18 rfl rfl ⟨by first | (have z := (lg_cmp_lt _ _).mp q3; rw [decide_eq_false (Int64.not_le.mpr z)]; rfl) | (have z := (lg_cmp_gt _ _).mp q10; rw [decide_eq_false (p := n ≤ hi) (Int64.not_le.mpr z), Bool.and_false]; rfl) | (rw [decide_eq_true (Int64.not_lt.mp (fun z => q3 ((lg_cmp_lt _ _).mpr z))), decide_eq_true (Int64.not_lt.mp (fun z => q10 ((lg_cmp_gt _ _).mpr z)))]; rfl), rfl⟩
    · refine vv_iconst C dX12_within_13 ic_1 ?_
      refine vv_goto (tgt := 18) C dX12_within_14 (by decide) ?_
      exact vs_zret C F dX12_within_18 rfl rfl ⟨by first | (have z := (lg_cmp_lt _ _).mp q3; rw [decide_eq_false (Int64.not_le.mpr z)]; rfl) | (have z := (lg_cmp_gt _ _).mp q10; rw [decide_eq_false (p := n ≤ hi) (Int64.not_le.mpr z), Bool.and_false]; rfl) | (rw [decide_eq_true (Int64.not_lt.mp (fun z => q3 ((lg_cmp_lt _ _).mpr z))), decide_eq_true (Int64.not_lt.mp (fun z => q10 ((lg_cmp_gt _ _).mpr z)))]; rfl), rfl⟩
set_option maxRecDepth 20000 in
theorem c_X12_taken (g : vv_G) (S : vs_S) (m : Nat) (h : hT) (hX : sM S m h) (hm5 : m ≤ 50) (K : Nat → Nat) (hp : plM S m K) (d c : Int32) : vs_FI g yX12_taken cX12_taken 4 (some .int) 3 [vv_r g 65, .int d, .int c] S (k_tk K h d c) S := by
  refine vs_ofI (lv := [_, _, _, _]) mb_X12_taken (Nat.le_of_ble_eq_true rfl) rfl (fun x C F => ?_)
  refine vv_iload_n C dX12_taken_0 rfl ?_
  refine vs_calsiF C dX12_taken_1 (c_X12_isShelf g S _) mb_X12_isShelf ms_X12_isShelf lk_X12_307 rfl rfl ⟨Nat.le_of_ble_eq_true rfl, Nat.le_of_ble_eq_true rfl, Nat.le_of_ble_eq_true rfl⟩ ?_
  refine vv_if_eq (tgt := 19) C dX12_taken_4 (by decide) (fun q4 => ?_) (fun q4 => ?_)
  · have w0 : shw d = false := vs_b0.mp q4
    have hv : k_tk K h d c = -1 := by unfold k_tk; rw [w0]; rfl
    refine vv_iconst C dX12_taken_19 ic_m1 ?_
    exact vs_iret C F dX12_taken_20 rfl ⟨hv.symm, rfl⟩
  · have w1 : shw d = true := vs_b1.mp q4
    obtain ⟨k, hk, ek⟩ := shw_d w1
    subst ek
    obtain ⟨ht6, h84, h1b, h57⟩ := hX k hk
    have hb5 : h.1 k = 1 → h.2.1 k < 50 := fun z => by have := h1b z; omega
    have hc1 : (nI k).toNatClampNeg = k := xn_cl (by omega)
    refine vv_iload_n C dX12_taken_7 rfl ?_
    refine vv_i2l C dX12_taken_8 ?_
    refine vv_lconst C dX12_taken_9 lc_0 ?_
    refine vs_eql (v9 := (0 : Int32).toInt64) (by decide +kernel) ?_
    refine vv_ldc2 C dX12_taken_10 kc_X12_278 ?_
    refine vs_eql (v9 := (7 : Int32).toInt64) (by decide +kernel) ?_
    refine vs_calsiF C dX12_taken_13 (c_X12_within g S _ _ _) mb_X12_within ms_X12_within lk_X12_123 rfl rfl ⟨Nat.le_of_ble_eq_true rfl, Nat.le_of_ble_eq_true rfl, Nat.le_of_ble_eq_true rfl⟩ ?_
    refine vv_if_ne (tgt := 21) C dX12_taken_16 (by decide) (fun q16 => ?_) (fun q16 => ?_)
    · have w2 : vs_w c 0 7 = true := vs_b1.mp q16
      obtain ⟨k1, _, hk1, ek1⟩ := vs_wN (a := 0) (b := 7) (by omega) (by omega) w2
      subst ek1
      have hk1 : k1 < 8 := by omega
      have hv : k_tk K h (nI k) (nI k1) = if h.1 k = 0 then -11 else if h.1 k = 1 ∧ un k1 8 (K (h.2.1 k)) = true then nI (K (h.2.1 k)) else -12 := by unfold k_tk; rw [w1, w2, if_pos vs_tt, hc1, xn_cl (n := k1) (by omega)]
      refine vv_aload_n C dX12_taken_21 rfl ?_
      refine gf_X12_shelf C dX12_taken_22 fg_X12_68 ?_
      refine vv_iload_n C dX12_taken_25 rfl ?_
      refine ld_84 C dX12_taken_26 (xn_in (by omega) (by omega)) ?_
      refine vs_eqi (v9 := hm (h.1 k) (h.2.1 k)) (by rw [hc1]; exact h84) ?_
      refine vv_if_ge (tgt := 33) C dX12_taken_27 (by decide) (fun q27 => ?_) (fun q27 => ?_)
      · have e0 : ¬ h.1 k = 0 := fun z => Int32.not_lt.mpr q27 ((hm_n hb5 ht6).mpr z)
        rw [if_neg e0] at hv
        refine vv_aload_n C dX12_taken_33 rfl ?_
        refine gf_X12_shelf C dX12_taken_34 fg_X12_68 ?_
        refine vv_iload_n C dX12_taken_37 rfl ?_
        refine ld_84 C dX12_taken_38 (xn_in (by omega) (by omega)) ?_
        refine vs_eqi (v9 := hm (h.1 k) (h.2.1 k)) (by rw [hc1]; exact h84) ?_
        refine vv_bipush C dX12_taken_39 bp_50 ?_
        refine vv_icmp_lt (tgt := 47) C dX12_taken_41 (by decide) (fun q41 => ?_) (fun q41 => ?_)
        · have hb1' : h.1 k = 1 := by
            have : ¬ 2 ≤ h.1 k := fun z => Int32.not_le.mpr q41 ((hm_g hb5 ht6 e0).mpr z)
            omega
          have hb := h1b hb1'
          have hb1 : hm (h.1 k) (h.2.1 k) = nI (h.2.1 k) := by rw [hb1']; rfl
          have hK8 := (hp.2.2 _ hb).2
          refine vv_aload_n C dX12_taken_47 rfl ?_
          refine vv_aload_n C dX12_taken_48 rfl ?_
          refine gf_X12_shelf C dX12_taken_49 fg_X12_68 ?_
          refine vv_iload_n C dX12_taken_52 rfl ?_
          refine ld_84 C dX12_taken_53 (xn_in (by omega) (by omega)) ?_
          refine vs_eqi (v9 := nI (h.2.1 k)) (by rw [hc1, h84, hb1]) ?_
          refine vs_caliF C dX12_taken_54 (c_X12_kindK g S K m hp _ hb) mb_X12_kindOf mv_X12_kindOf lk_X12_351 ce_65 rfl rfl rfl rfl ⟨Nat.le_of_ble_eq_true rfl, Nat.le_of_ble_eq_true rfl, Nat.le_of_ble_eq_true rfl⟩ ?_
          refine vw_istore_n (lv9 := [_, _, _, _]) C dX12_taken_57 (by decide) rfl rfl ?_
          have loop : ∀ (f n : Nat), n < 8 → n ≤ f → un k1 8 n = un k1 8 (K (h.2.1 k)) → vv_V g x 4 0 0 58 [some (vv_r g 65), some (.int (nI k)), some (.int (nI k1)), some (.int (nI n))] [] (vs_cells g S) := by
            intro f
            induction f with
            | zero =>
              intro n hn8 hnf he
              have e0 : n = 0 := by omega
              subst e0
              rw [un1 k1 hk1 0 (by omega)] at he
              refine vv_iload_n C dX12_taken_58 rfl ?_
              refine vv_iload_n C dX12_taken_59 rfl ?_
              refine vv_icmp_eq (tgt := 75) C dX12_taken_60 (by decide) (fun q60 => ?_) (fun q60 => ?_)
              · have e1 : 0 = k1 := (xn_eq (by omega) (by omega)).mp q60
                rw [if_pos e1] at he
                have hv2 : k_tk K h (nI k) (nI k1) = nI (K (h.2.1 k)) := by rw [hv, if_pos ⟨hb1', he.symm⟩]
                refine vv_iload_n C dX12_taken_75 rfl ?_
                refine vv_iload_n C dX12_taken_76 rfl ?_
                refine vv_icmp_ne (tgt := 93) C dX12_taken_77 (by decide) (fun q77 => ?_) (fun q77 => ?_)
                · have q77 : ¬ nI 0 = nI k1 := q77
                  refine vv_bipush C dX12_taken_93 bp_m12 ?_
                  first
                  | exact absurd q60 q77
                  | exact absurd q77 q60
                  | exact vs_iret C F dX12_taken_95 rfl ⟨hv2.symm, rfl⟩
                · have q77 : nI 0 = nI k1 := q77
                  refine vv_aload_n C dX12_taken_80 rfl ?_
                  refine vv_aload_n C dX12_taken_81 rfl ?_
                  refine gf_X12_shelf C dX12_taken_82 fg_X12_68 ?_
                  refine vv_iload_n C dX12_taken_85 rfl ?_
                  refine ld_84 C dX12_taken_86 (xn_in (by omega) (by omega)) ?_
                  refine vs_eqi (v9 := nI (h.2.1 k)) (by rw [hc1, h84, hb1]) ?_
                  refine vs_caliF C dX12_taken_87 (c_X12_kindK g S K m hp _ hb) mb_X12_kindOf mv_X12_kindOf lk_X12_351 ce_65 rfl rfl rfl rfl ⟨Nat.le_of_ble_eq_true rfl, Nat.le_of_ble_eq_true rfl, Nat.le_of_ble_eq_true rfl⟩ ?_
                  refine vv_goto (tgt := 95) C dX12_taken_90 (by decide) ?_
                  first
                  | exact absurd q60 q77
                  | exact absurd q77 q60
                  | exact vs_iret C F dX12_taken_95 rfl ⟨hv2.symm, rfl⟩
              · have e1 : ¬ 0 = k1 := fun z => q60 (by rw [z])
                rw [if_neg e1, if_pos rfl] at he
                have hv2 : k_tk K h (nI k) (nI k1) = -12 := by rw [hv, if_neg (fun z => by rw [z.2] at he; cases he)]
                refine vv_iload_n C dX12_taken_63 rfl ?_
                refine vv_if_le (tgt := 75) C dX12_taken_64 (by decide) (fun q64 => ?_) (fun q64 => ?_)
                · skip
                  refine vv_iload_n C dX12_taken_75 rfl ?_
                  refine vv_iload_n C dX12_taken_76 rfl ?_
                  refine vv_icmp_ne (tgt := 93) C dX12_taken_77 (by decide) (fun q77 => ?_) (fun q77 => ?_)
                  · have q77 : ¬ nI 0 = nI k1 := q77
                    refine vv_bipush C dX12_taken_93 bp_m12 ?_
                    first
                    | exact absurd q60 q77
                    | exact absurd q77 q60
                    | exact vs_iret C F dX12_taken_95 rfl ⟨hv2.symm, rfl⟩
                  · have q77 : nI 0 = nI k1 := q77
                    refine vv_aload_n C dX12_taken_80 rfl ?_
                    refine vv_aload_n C dX12_taken_81 rfl ?_
                    refine gf_X12_shelf C dX12_taken_82 fg_X12_68 ?_
                    refine vv_iload_n C dX12_taken_85 rfl ?_
                    refine ld_84 C dX12_taken_86 (xn_in (by omega) (by omega)) ?_
                    refine vs_eqi (v9 := nI (h.2.1 k)) (by rw [hc1, h84, hb1]) ?_
                    refine vs_caliF C dX12_taken_87 (c_X12_kindK g S K m hp _ hb) mb_X12_kindOf mv_X12_kindOf lk_X12_351 ce_65 rfl rfl rfl rfl ⟨Nat.le_of_ble_eq_true rfl, Nat.le_of_ble_eq_true rfl, Nat.le_of_ble_eq_true rfl⟩ ?_
                    refine vv_goto (tgt := 95) C dX12_taken_90 (by decide) ?_
                    first
                    | exact absurd q60 q77
                    | exact absurd q77 q60
                    | exact vs_iret C F dX12_taken_95 rfl ⟨hv2.symm, rfl⟩
                · exact absurd (by decide : nI 0 ≤ 0) q64
            | succ f ih =>
              intro n hn8 hnf he
              refine vv_iload_n C dX12_taken_58 rfl ?_
              refine vv_iload_n C dX12_taken_59 rfl ?_
              refine vv_icmp_eq (tgt := 75) C dX12_taken_60 (by decide) (fun q60 => ?_) (fun q60 => ?_)
              · have e1 : n = k1 := (xn_eq (by omega) (by omega)).mp q60
                rw [un1 k1 hk1 n hn8, if_pos e1] at he
                have hv2 : k_tk K h (nI k) (nI k1) = nI (K (h.2.1 k)) := by rw [hv, if_pos ⟨hb1', he.symm⟩]
                refine vv_iload_n C dX12_taken_75 rfl ?_
                refine vv_iload_n C dX12_taken_76 rfl ?_
                refine vv_icmp_ne (tgt := 93) C dX12_taken_77 (by decide) (fun q77 => ?_) (fun q77 => ?_)
                · have q77 : ¬ nI n = nI k1 := q77
                  refine vv_bipush C dX12_taken_93 bp_m12 ?_
                  first
                  | exact absurd q60 q77
                  | exact absurd q77 q60
                  | exact vs_iret C F dX12_taken_95 rfl ⟨hv2.symm, rfl⟩
                · have q77 : nI n = nI k1 := q77
                  refine vv_aload_n C dX12_taken_80 rfl ?_
                  refine vv_aload_n C dX12_taken_81 rfl ?_
                  refine gf_X12_shelf C dX12_taken_82 fg_X12_68 ?_
                  refine vv_iload_n C dX12_taken_85 rfl ?_
                  refine ld_84 C dX12_taken_86 (xn_in (by omega) (by omega)) ?_
                  refine vs_eqi (v9 := nI (h.2.1 k)) (by rw [hc1, h84, hb1]) ?_
                  refine vs_caliF C dX12_taken_87 (c_X12_kindK g S K m hp _ hb) mb_X12_kindOf mv_X12_kindOf lk_X12_351 ce_65 rfl rfl rfl rfl ⟨Nat.le_of_ble_eq_true rfl, Nat.le_of_ble_eq_true rfl, Nat.le_of_ble_eq_true rfl⟩ ?_
                  refine vv_goto (tgt := 95) C dX12_taken_90 (by decide) ?_
                  first
                  | exact absurd q60 q77
                  | exact absurd q77 q60
                  | exact vs_iret C F dX12_taken_95 rfl ⟨hv2.symm, rfl⟩
              · have e1 : ¬ n = k1 := fun z => q60 (by rw [z])
                rw [un1 k1 hk1 n hn8, if_neg e1] at he
                refine vv_iload_n C dX12_taken_63 rfl ?_
                refine vv_if_le (tgt := 75) C dX12_taken_64 (by decide) (fun q64 => ?_) (fun q64 => ?_)
                · have e2 : n = 0 := by
                    have z : nI n ≤ nI 0 := q64
                    rw [xn_le (by omega) (by omega)] at z
                    omega
                  rw [if_pos e2] at he
                  have hv2 : k_tk K h (nI k) (nI k1) = -12 := by rw [hv, if_neg (fun z => by rw [z.2] at he; cases he)]
                  refine vv_iload_n C dX12_taken_75 rfl ?_
                  refine vv_iload_n C dX12_taken_76 rfl ?_
                  refine vv_icmp_ne (tgt := 93) C dX12_taken_77 (by decide) (fun q77 => ?_) (fun q77 => ?_)
                  · have q77 : ¬ nI n = nI k1 := q77
                    refine vv_bipush C dX12_taken_93 bp_m12 ?_
                    first
                    | exact absurd q60 q77
                    | exact absurd q77 q60
                    | exact vs_iret C F dX12_taken_95 rfl ⟨hv2.symm, rfl⟩
                  · have q77 : nI n = nI k1 := q77
                    refine vv_aload_n C dX12_taken_80 rfl ?_
                    refine vv_aload_n C dX12_taken_81 rfl ?_
                    refine gf_X12_shelf C dX12_taken_82 fg_X12_68 ?_
                    refine vv_iload_n C dX12_taken_85 rfl ?_
                    refine ld_84 C dX12_taken_86 (xn_in (by omega) (by omega)) ?_
                    refine vs_eqi (v9 := nI (h.2.1 k)) (by rw [hc1, h84, hb1]) ?_
                    refine vs_caliF C dX12_taken_87 (c_X12_kindK g S K m hp _ hb) mb_X12_kindOf mv_X12_kindOf lk_X12_351 ce_65 rfl rfl rfl rfl ⟨Nat.le_of_ble_eq_true rfl, Nat.le_of_ble_eq_true rfl, Nat.le_of_ble_eq_true rfl⟩ ?_
                    refine vv_goto (tgt := 95) C dX12_taken_90 (by decide) ?_
                    first
                    | exact absurd q60 q77
                    | exact absurd q77 q60
                    | exact vs_iret C F dX12_taken_95 rfl ⟨hv2.symm, rfl⟩
                · have e2 : ¬ n = 0 := fun z => q64 (by rw [z]; decide)
                  rw [if_neg e2] at he
                  refine vv_iload_n C dX12_taken_67 rfl ?_
                  refine vs_calsiF C dX12_taken_68 (c_X12_above g S n hn8) mb_X12_above ms_X12_above lk_X12_354 rfl rfl ⟨Nat.le_of_ble_eq_true rfl, Nat.le_of_ble_eq_true rfl, Nat.le_of_ble_eq_true rfl⟩ ?_
                  refine vw_istore_n (lv9 := [_, _, _, _]) C dX12_taken_71 (by decide) rfl rfl ?_
                  refine vv_goto (tgt := 58) C dX12_taken_72 (by decide) ?_
                  exact ih (pA n) (pA_lt n hn8) (by have := pA_dn n hn8 (by omega); omega) he
          exact loop 8 (K (h.2.1 k)) hK8 (by omega) rfl
        · have e2 : 2 ≤ h.1 k := (hm_g hb5 ht6 e0).mp (Int32.not_lt.mp q41)
          rw [if_neg (fun z => by omega)] at hv
          refine vv_bipush C dX12_taken_44 bp_m12 ?_
          exact vs_iret C F dX12_taken_46 rfl ⟨hv.symm, rfl⟩
      · have e0 := (hm_n hb5 ht6).mp (Int32.not_le.mp q27)
        rw [if_pos e0] at hv
        refine vv_bipush C dX12_taken_30 bp_m11 ?_
        exact vs_iret C F dX12_taken_32 rfl ⟨hv.symm, rfl⟩
    · have hv : k_tk K h (nI k) c = -1 := by unfold k_tk; rw [w1, show vs_w c 0 7 = false from vs_b0.mp q16]; rfl
      refine vv_iconst C dX12_taken_19 ic_m1 ?_
      exact vs_iret C F dX12_taken_20 rfl ⟨hv.symm, rfl⟩
set_option maxRecDepth 20000 in
theorem c_X12_looked (g : vv_G) (S : vs_S) (m : Nat) (h : hT) (hX : sM S m h) (hm5 : m ≤ 50) (hfl : vv_fl g = false) (law : Nat) (hl : law ≤ 3) (hT : nm_T law S S) (d i n : Int32) : vs_KI g yX12_looked cX12_looked 7 (some .int) 6 [vv_r g 65, .int d, .int i, .int n] S (fun r S1 => r = k_lk (np_lm law) h d i n ∧ nm_T law S S1) := by
  refine vs_ofI (lv := [_, _, _, _, _, _, _]) mb_X12_looked (Nat.le_of_ble_eq_true rfl) rfl (fun x C F => ?_)
  refine vv_iload_n C dX12_looked_0 rfl ?_
  refine vs_calsiF C dX12_looked_1 (c_X12_isShelf g S _) mb_X12_isShelf ms_X12_isShelf lk_X12_307 rfl rfl ⟨Nat.le_of_ble_eq_true rfl, Nat.le_of_ble_eq_true rfl, Nat.le_of_ble_eq_true rfl⟩ ?_
  refine vv_if_eq (tgt := 19) C dX12_looked_4 (by decide) (fun q4 => ?_) (fun q4 => ?_)
  · have w0 : shw d = false := vs_b0.mp q4
    have hv : k_lk (np_lm law) h d i n = -1 := by unfold k_lk; rw [w0]; rfl
    refine vv_iconst C dX12_looked_19 ic_m1 ?_
    exact vs_iret C F dX12_looked_20 rfl ⟨hv.symm, hT⟩
  · have w1 : shw d = true := vs_b1.mp q4
    obtain ⟨k, hk, ek⟩ := shw_d w1
    subst ek
    obtain ⟨ht6, h84, h1b, h57⟩ := hX k hk
    have hb5 : h.1 k = 1 → h.2.1 k < 50 := fun z => by have := h1b z; omega
    have hc1 : (nI k).toNatClampNeg = k := xn_cl (by omega)
    refine vv_iload_n C dX12_looked_7 rfl ?_
    refine vv_i2l C dX12_looked_8 ?_
    refine vv_lconst C dX12_looked_9 lc_1 ?_
    refine vs_eql (v9 := (1 : Int32).toInt64) (by decide +kernel) ?_
    refine vv_ldc2 C dX12_looked_10 kc_X12_310 ?_
    refine vs_eql (v9 := (60 : Int32).toInt64) (by decide +kernel) ?_
    refine vs_calsiF C dX12_looked_13 (c_X12_within g S _ _ _) mb_X12_within ms_X12_within lk_X12_123 rfl rfl ⟨Nat.le_of_ble_eq_true rfl, Nat.le_of_ble_eq_true rfl, Nat.le_of_ble_eq_true rfl⟩ ?_
    refine vv_if_ne (tgt := 21) C dX12_looked_16 (by decide) (fun q16 => ?_) (fun q16 => ?_)
    · have w2 : vs_w n 1 60 = true := vs_b1.mp q16
      obtain ⟨n1, hn1, hn2, en1⟩ := vs_wN (a := 1) (b := 60) (by omega) (by omega) w2
      subst en1
      have hv : k_lk (np_lm law) h (nI k) i (nI n1) = lkX (np_lm law) h k i n1 := by unfold k_lk; rw [w1, w2, if_pos vs_tt, hc1, xn_cl (n := n1) (by omega)]
      unfold lkX at hv
      refine vv_aload_n C dX12_looked_21 rfl ?_
      refine gf_X12_shelf C dX12_looked_22 fg_X12_68 ?_
      refine vv_iload_n C dX12_looked_25 rfl ?_
      refine ld_84 C dX12_looked_26 (xn_in (by omega) (by omega)) ?_
      refine vs_eqi (v9 := hm (h.1 k) (h.2.1 k)) (by rw [hc1]; exact h84) ?_
      refine vv_if_ge (tgt := 33) C dX12_looked_27 (by decide) (fun q27 => ?_) (fun q27 => ?_)
      · have e0 : ¬ h.1 k = 0 := fun z => Int32.not_lt.mpr q27 ((hm_n hb5 ht6).mpr z)
        rw [if_neg e0] at hv
        refine vv_aload_n C dX12_looked_33 rfl ?_
        refine gf_X12_shelf C dX12_looked_34 fg_X12_68 ?_
        refine vv_iload_n C dX12_looked_37 rfl ?_
        refine ld_84 C dX12_looked_38 (xn_in (by omega) (by omega)) ?_
        refine vs_eqi (v9 := hm (h.1 k) (h.2.1 k)) (by rw [hc1]; exact h84) ?_
        refine vv_bipush C dX12_looked_39 bp_53 ?_
        refine vv_icmp_eq (tgt := 47) C dX12_looked_41 (by decide) (fun q41 => ?_) (fun q41 => ?_)
        · have e5 : h.1 k = 5 := (hm_5 hb5 ht6).mp q41
          rw [if_neg (fun z => z e5)] at hv
          obtain ⟨e57, hN60, h57E⟩ := h57 (by omega)
          refine vv_iload_n C dX12_looked_47 rfl ?_
          refine vv_if_ge (tgt := 54) C dX12_looked_48 (by decide) (fun q48 => ?_) (fun q48 => ?_)
          · rw [if_neg (Int32.not_lt.mpr q48)] at hv
            obtain ⟨p, hp, ep⟩ := xn_ofN q48
            subst ep
            rw [xn_cl hp] at hv
            have hval := hv
            refine vv_iconst C dX12_looked_54 ic_0 ?_
            refine vw_istore (lv9 := [_, _, _, _, _, _, _]) C dX12_looked_55 (by decide) rfl rfl ?_
            have loop : ∀ (f t : Nat) (w5 w6 : Option Value) (S1 : vs_S), t + f = n1 → nm_T law S S1 → lkv (np_lm law) (h.2.2.2 k) (h.2.2.1 k) f (p + t) = lkv (np_lm law) (h.2.2.2 k) (h.2.2.1 k) n1 p → vv_V g x 7 0 0 57 [some (vv_r g 65), some (.int (nI k)), some (.int (nI p)), some (.int (nI n1)), some (.int (nI t)), w5, w6] [] (vs_cells g S1) := by
              intro f
              induction f with
              | zero =>
                intro t w5 w6 S1 ht hS1 he
                have e60 : t = n1 := by omega
                subst e60
                refine vv_iload C dX12_looked_57 rfl ?_
                refine vv_iload_n C dX12_looked_59 rfl ?_
                refine vv_icmp_ge (tgt := 129) C dX12_looked_60 (by decide) (fun q60 => ?_) (fun q60 => ?_)
                · refine vv_iload_n C dX12_looked_129 rfl ?_
                  refine vv_iload_n C dX12_looked_130 rfl ?_
                  refine vv_iadd C dX12_looked_131 ?_
                  refine vs_eqi (v9 := nI (p + t)) (nI_add _ _) ?_
                  exact vs_iret C F dX12_looked_132 rfl ⟨by rw [hval, ← he]; rfl, hS1⟩
                · exact absurd (Int32.le_refl _) q60
              | succ f ih =>
                intro t w5 w6 S1 ht hS1 he
                rw [lkvS f] at he
                refine vv_iload C dX12_looked_57 rfl ?_
                refine vv_iload_n C dX12_looked_59 rfl ?_
                refine vv_icmp_ge (tgt := 129) C dX12_looked_60 (by decide) (fun q60 => ?_) (fun q60 => ?_)
                · exact absurd q60 (by rw [xn_le (by omega) (by omega)]; omega)
                · refine vv_iload_n C dX12_looked_63 rfl ?_
                  refine vv_aload_n C dX12_looked_64 rfl ?_
                  refine gf_X12_many C dX12_looked_65 fg_X12_71 ?_
                  refine vv_iload_n C dX12_looked_68 rfl ?_
                  refine ld_85 C dX12_looked_69 (xn_in (by omega) (by omega)) ?_
                  refine vs_eqi (v9 := nI (h.2.2.1 k)) (by rw [hc1, hS1.1.1.2.1 85 (by decide)]; exact e57) ?_
                  refine vv_iload C dX12_looked_70 rfl ?_
                  refine vv_isub C dX12_looked_72 ?_
                  refine vv_icmp_lt (tgt := 79) C dX12_looked_73 (by decide) (fun q73 => ?_) (fun q73 => ?_)
                  · have hlt : p + t < h.2.2.1 k := (lt_o hN60 (by omega) hp).mp q73
                    rw [if_pos hlt] at he
                    refine vv_aload_n C dX12_looked_79 rfl ?_
                    refine gf_X12_items C dX12_looked_80 fg_X12_74 ?_
                    refine vv_bipush C dX12_looked_83 bp_60 ?_
                    refine vv_iload_n C dX12_looked_85 rfl ?_
                    refine vv_imul C dX12_looked_86 ?_
                    refine vs_eqi (v9 := nI (60 * k)) (by rw [xn_lit, xn_mul]) ?_
                    refine vv_iload_n C dX12_looked_87 rfl ?_
                    refine vv_iadd C dX12_looked_88 ?_
                    refine vs_eqi (v9 := nI (60 * k + p)) (nI_add _ _) ?_
                    refine vv_iload C dX12_looked_89 rfl ?_
                    refine vv_iadd C dX12_looked_91 ?_
                    refine vs_eqi (v9 := nI (60 * k + p + t)) (nI_add _ _) ?_
                    refine ld_86 C dX12_looked_92 (xn_in (by omega) (by omega)) ?_
                    refine vs_eql (v9 := h.2.2.2 k (p + t)) (by rw [xn_cl (by omega), hS1.1.1.2.2 86 (by decide), Nat.add_assoc]; exact h57E _ hlt) ?_
                    refine vw_lstore (lv9 := [_, _, _, _, _, _, _]) C dX12_looked_93 (by decide) rfl rfl ?_
                    refine vv_lload C dX12_looked_95 rfl ?_
                    refine vv_ldc2 C dX12_looked_97 kc_X12_90 ?_
                    refine vv_ldc2 C dX12_looked_100 kc_X12_312 ?_
                    refine vs_calsiF C dX12_looked_103 (c_X12_withinL g S1 _ _ _) mb_X12_within ms_X12_within lk_X12_123 rfl rfl ⟨Nat.le_of_ble_eq_true rfl, Nat.le_of_ble_eq_true rfl, Nat.le_of_ble_eq_true rfl⟩ ?_
                    refine vv_if_eq (tgt := 118) C dX12_looked_106 (by decide) (fun q106 => ?_) (fun q106 => ?_)
                    · have hw := vs_b0.mp q106
                      have hok : okP (np_lm law) (h.2.2.2 k (p + t)) = false := by
                        unfold okP
                        by_cases z : 2 ≤ h.2.2.2 k (p + t)
                        · rw [decide_eq_true z, Bool.true_and] at hw
                          rw [hw]; rfl
                        · rw [lt_lw (Int64.not_le.mp z), Bool.and_false]
                      rw [hok, if_neg (by decide)] at he
                      refine vv_iload_n C dX12_looked_118 rfl ?_
                      refine vv_iload C dX12_looked_119 rfl ?_
                      refine vv_iadd C dX12_looked_121 ?_
                      refine vs_eqi (v9 := nI (p + t)) (nI_add _ _) ?_
                      first
                      | exact vs_iret C F dX12_looked_122 rfl ⟨by rw [hval, ← he], hS1⟩
                      | exact vs_iret C F dX12_looked_122 rfl ⟨by rw [hval, ← he], hS1.go t112⟩
                    · have hw := vs_b1.mp q106
                      rw [Bool.and_eq_true, decide_eq_true_eq, decide_eq_true_eq] at hw
                      obtain ⟨c9, hc9, ec9⟩ := xl_of (Int64.le_trans (by decide) hw.1)
                      have hc12 : c9 ≤ 1000000000000 := by
                        have z := hw.2
                        rw [ec9, xn_lit64, xn_lle hc9 (by omega)] at z
                        exact z
                      have hok : okP (np_lm law) (h.2.2.2 k (p + t)) = np_lm law c9 := by
                        unfold okP lwz
                        rw [decide_eq_true hw.2, ec9, xn_lN hc9, decide_eq_true (show (0 : Int64) ≤ lN c9 by rw [← ec9]; exact Int64.le_trans (by decide) hw.1)]
                        rfl
                      rw [hok] at he
                      refine vv_aload_n C dX12_looked_109 rfl ?_
                      refine vv_lload C dX12_looked_110 rfl ?_
                      refine vs_eql (v9 := lN c9) (ec9) ?_
                      refine vs_calli C dX12_looked_112 (c_X12_isLawful g S1 hfl hS1.1.2 law hl hS1.2 c9 hc12) mb_X12_isLawful mv_X12_isLawful lk_X12_135 ce_65 rfl rfl rfl rfl ⟨Nat.le_of_ble_eq_true rfl, Nat.le_of_ble_eq_true rfl, Nat.le_of_ble_eq_true rfl⟩ (fun r112 S112 p112 => ?_)
                      obtain ⟨e112, t112⟩ := p112
                      subst e112
                      refine vv_if_ne (tgt := 123) C dX12_looked_115 (by decide) (fun q115 => ?_) (fun q115 => ?_)
                      · have hg := vs_b1.mp q115
                        rw [hg, if_pos rfl] at he
                        refine vw_iinc (lv9 := [_, _, _, _, _, _, _]) C dX12_looked_123 rfl ic_1 (by decide) rfl rfl ?_
                        refine vv_goto (tgt := 57) C dX12_looked_126 (by decide) ?_
                        rw [nI_1]
                        exact ih (t + 1) _ _ _ (by omega) (hS1.go t112) (by rw [← Nat.add_assoc]; exact he)
                      · have hg := vs_b0.mp q115
                        rw [hg, if_neg (by decide)] at he
                        refine vv_iload_n C dX12_looked_118 rfl ?_
                        refine vv_iload C dX12_looked_119 rfl ?_
                        refine vv_iadd C dX12_looked_121 ?_
                        refine vs_eqi (v9 := nI (p + t)) (nI_add _ _) ?_
                        first
                        | exact vs_iret C F dX12_looked_122 rfl ⟨by rw [hval, ← he], hS1⟩
                        | exact vs_iret C F dX12_looked_122 rfl ⟨by rw [hval, ← he], hS1.go t112⟩
                  · have hlt : ¬ p + t < h.2.2.1 k := fun z => q73 ((lt_o hN60 (by omega) hp).mpr z)
                    rw [if_neg hlt] at he
                    refine vv_bipush C dX12_looked_76 bp_m13 ?_
                    exact vs_iret C F dX12_looked_78 rfl ⟨by rw [hval, ← he], hS1⟩
            exact loop n1 0 _ _ S (by omega) hT rfl
          · rw [if_pos (Int32.not_le.mp q48)] at hv
            refine vv_bipush C dX12_looked_51 bp_m13 ?_
            exact vs_iret C F dX12_looked_53 rfl ⟨hv.symm, hT⟩
        · have e5 : ¬ h.1 k = 5 := fun z => q41 ((hm_5 hb5 ht6).mpr z)
          rw [if_pos e5] at hv
          refine vv_bipush C dX12_looked_44 bp_m12 ?_
          exact vs_iret C F dX12_looked_46 rfl ⟨hv.symm, hT⟩
      · have e0 := (hm_n hb5 ht6).mp (Int32.not_le.mp q27)
        rw [if_pos e0] at hv
        refine vv_bipush C dX12_looked_30 bp_m11 ?_
        exact vs_iret C F dX12_looked_32 rfl ⟨hv.symm, hT⟩
    · have hv : k_lk (np_lm law) h (nI k) i n = -1 := by unfold k_lk; rw [w1, show vs_w n 1 60 = false from vs_b0.mp q16]; rfl
      refine vv_iconst C dX12_looked_19 ic_m1 ?_
      exact vs_iret C F dX12_looked_20 rfl ⟨hv.symm, hT⟩
