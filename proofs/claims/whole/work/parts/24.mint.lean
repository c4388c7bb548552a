theorem lg_mcq {cn : Nat} {c : Int32} (hcn : cn ≤ 16) (h : vs_w c 0 (nI cn - 1) = true) : ∃ k, k < cn ∧ c = nI k := lg_mcp (what := 0) hcn h
set_option maxRecDepth 20000 in
theorem c_X11_mint (g : vv_G) (S : vs_S) (L : lg_L) (hL : lg_X S L) (hk : lg_ok L) (cn : Nat) (hcn : cn ≤ 16) (hs : S.1 9 = nI cn) (c what v : Int32) : vs_KI g yX11_mint cX11_mint 4 (some .int) 3 [vv_r g 0, .int c, .int what, .int v] S (fun r S1 => r = (if lg_mc cn c what v = true then L.1 (lg_mp c what) else -1) ∧ lg_X S1 (if lg_mc cn c what v = true then lg_bec L (lg_mp c what) v else L) ∧ vs_fr [6, 7, 8] [19, 20, 21, 22] [] S S1) := by
  obtain ⟨H, A, B, C0, d, n9⟩ := L
  refine vs_ofI (lv := [_, _, _, _]) mb_X11_mint (Nat.le_of_ble_eq_true rfl) rfl (fun x C F => ?_)
  refine vv_iload_n C dX11_mint_0 rfl ?_
  refine vv_iconst C dX11_mint_1 ic_0 ?_
  refine vv_aload_n C dX11_mint_2 rfl ?_
  refine gf_X11_purse C dX11_mint_3 fg_X11_53 ?_
  refine vs_caliF C dX11_mint_6 (c_X5_size g S) mb_X5_size mv_X5_size lk_X11_165 ce_23 rfl rfl rfl rfl ⟨Nat.le_of_ble_eq_true rfl, Nat.le_of_ble_eq_true rfl, Nat.le_of_ble_eq_true rfl⟩ ?_
  refine vs_eqi (v9 := nI cn) (hs) ?_
  refine vv_iconst C dX11_mint_9 ic_1 ?_
  refine vv_isub C dX11_mint_10 ?_
  refine vs_calsiF C dX11_mint_11 (c_X11_within g S _ _ _) mb_X11_within ms_X11_within lk_X11_94 rfl rfl ⟨Nat.le_of_ble_eq_true rfl, Nat.le_of_ble_eq_true rfl, Nat.le_of_ble_eq_true rfl⟩ ?_
  refine vv_if_eq (tgt := 26) C dX11_mint_14 (by decide) (fun q14 => ?_) (fun q14 => ?_)
  · have hmf : lg_mc cn c what v = false := by unfold lg_mc; rw [show vs_w c 0 (nI cn - 1) = false from vs_b0.mp q14]; rfl
    refine vv_iconst C dX11_mint_26 ic_m1 ?_
    exact vs_iret C F dX11_mint_27 rfl ⟨by rw [hmf]; rfl, by rw [hmf]; exact hL, vs_fr.rf⟩
  · have w1 : vs_w c 0 (nI cn - 1) = true := vs_b1.mp q14
    refine vv_iload_n C dX11_mint_17 rfl ?_
    refine vv_iconst C dX11_mint_18 ic_0 ?_
    refine vv_iconst C dX11_mint_19 ic_1 ?_
    refine vs_calsiF C dX11_mint_20 (c_X11_within g S _ _ _) mb_X11_within ms_X11_within lk_X11_94 rfl rfl ⟨Nat.le_of_ble_eq_true rfl, Nat.le_of_ble_eq_true rfl, Nat.le_of_ble_eq_true rfl⟩ ?_
    refine vv_if_ne (tgt := 28) C dX11_mint_23 (by decide) (fun q23 => ?_) (fun q23 => ?_)
    · have w2 : vs_w what 0 1 = true := vs_b1.mp q23
      obtain ⟨k, hkc, ec⟩ := lg_mcq hcn w1
      subst ec
      refine vv_iload_n C dX11_mint_28 rfl ?_
      refine vv_if_ne (tgt := 56) C dX11_mint_29 (by decide) (fun q29 => ?_) (fun q29 => ?_)
      · refine vv_iload_n C dX11_mint_56 rfl ?_
        refine vs_calsiF C dX11_mint_57 (c_X5_isNumber g S _) mb_X5_isNumber ms_X5_isNumber lk_X11_159 rfl rfl ⟨Nat.le_of_ble_eq_true rfl, Nat.le_of_ble_eq_true rfl, Nat.le_of_ble_eq_true rfl⟩ ?_
        refine vv_if_eq (tgt := 78) C dX11_mint_60 (by decide) (fun q60 => ?_) (fun q60 => ?_)
        · have hmf : lg_mc cn (nI k) what v = false := by unfold lg_mc; rw [w1, w2, if_neg q29, show vs_w v 0 9 = false from vs_b0.mp q60]; rfl
          refine vv_iconst C dX11_mint_78 ic_m1 ?_
          first
          | exact vs_iret C F dX11_mint_79 rfl ⟨by rw [hmf]; rfl, by rw [hmf]; exact hL, vs_fr.rf⟩
          | exact vs_iret C F dX11_mint_79 rfl ⟨by rw [if_pos hmt, hmp]; exact p72.1.trans (congrFun hL.1.symm _), by rw [if_pos hmt, hmp]; exact p72.2.1, p72.2.2⟩
        · have hmt : lg_mc cn (nI k) what v = true := by unfold lg_mc; rw [w1, w2, if_neg q29, show vs_w v 0 9 = true from vs_b1.mp q60]; rfl
          have hmp : lg_mp (nI k) what = 80 + k := by unfold lg_mp; rw [if_neg q29, xn_cl (by omega)]
          refine vv_aload_n C dX11_mint_63 rfl ?_
          refine gf_X11_ledger C dX11_mint_64 fg_X11_44 ?_
          refine vv_bipush C dX11_mint_67 bp_80 ?_
          refine vv_iload_n C dX11_mint_69 rfl ?_
          refine vv_iadd C dX11_mint_70 ?_
          refine vs_eqi (v9 := nI (80 + k)) (nI_add 80 k) ?_
          refine vv_iload_n C dX11_mint_71 rfl ?_
          refine vs_calli C dX11_mint_72 (c_X2_become g S H A B C0 d n9 hL hk (80 + k) (by omega) v) mb_X2_become mv_X2_become lk_X11_168 ce_18 rfl rfl rfl rfl ⟨Nat.le_of_ble_eq_true rfl, Nat.le_of_ble_eq_true rfl, Nat.le_of_ble_eq_true rfl⟩ (fun r72 S72 p72 => ?_)
          refine vv_goto (tgt := 79) C dX11_mint_75 (by decide) ?_
          first
          | exact vs_iret C F dX11_mint_79 rfl ⟨by rw [hmf]; rfl, by rw [hmf]; exact hL, vs_fr.rf⟩
          | exact vs_iret C F dX11_mint_79 rfl ⟨by rw [if_pos hmt, hmp]; exact p72.1.trans (congrFun hL.1.symm _), by rw [if_pos hmt, hmp]; exact p72.2.1, p72.2.2⟩
      · refine vv_iload_n C dX11_mint_32 rfl ?_
        refine vs_calsiF C dX11_mint_33 (c_X5_isWorth g S _) mb_X5_isWorth ms_X5_isWorth lk_X11_155 rfl rfl ⟨Nat.le_of_ble_eq_true rfl, Nat.le_of_ble_eq_true rfl, Nat.le_of_ble_eq_true rfl⟩ ?_
        refine vv_if_eq (tgt := 54) C dX11_mint_36 (by decide) (fun q36 => ?_) (fun q36 => ?_)
        · have hmf : lg_mc cn (nI k) what v = false := by unfold lg_mc; rw [w1, w2, if_pos q29, show vs_w v 1 999 = false from vs_b0.mp q36]; rfl
          refine vv_iconst C dX11_mint_54 ic_m1 ?_
          first
          | exact vs_iret C F dX11_mint_55 rfl ⟨by rw [hmf]; rfl, by rw [hmf]; exact hL, vs_fr.rf⟩
          | exact vs_iret C F dX11_mint_55 rfl ⟨by rw [if_pos hmt, hmp]; exact p48.1.trans (congrFun hL.1.symm _), by rw [if_pos hmt, hmp]; exact p48.2.1, p48.2.2⟩
        · have hmt : lg_mc cn (nI k) what v = true := by unfold lg_mc; rw [w1, w2, if_pos q29, show vs_w v 1 999 = true from vs_b1.mp q36]; rfl
          have hmp : lg_mp (nI k) what = 64 + k := by unfold lg_mp; rw [if_pos q29, xn_cl (by omega)]
          refine vv_aload_n C dX11_mint_39 rfl ?_
          refine gf_X11_ledger C dX11_mint_40 fg_X11_44 ?_
          refine vv_bipush C dX11_mint_43 bp_64 ?_
          refine vv_iload_n C dX11_mint_45 rfl ?_
          refine vv_iadd C dX11_mint_46 ?_
          refine vs_eqi (v9 := nI (64 + k)) (nI_add 64 k) ?_
          refine vv_iload_n C dX11_mint_47 rfl ?_
          refine vs_calli C dX11_mint_48 (c_X2_become g S H A B C0 d n9 hL hk (64 + k) (by omega) v) mb_X2_become mv_X2_become lk_X11_168 ce_18 rfl rfl rfl rfl ⟨Nat.le_of_ble_eq_true rfl, Nat.le_of_ble_eq_true rfl, Nat.le_of_ble_eq_true rfl⟩ (fun r48 S48 p48 => ?_)
          refine vv_goto (tgt := 55) C dX11_mint_51 (by decide) ?_
          first
          | exact vs_iret C F dX11_mint_55 rfl ⟨by rw [hmf]; rfl, by rw [hmf]; exact hL, vs_fr.rf⟩
          | exact vs_iret C F dX11_mint_55 rfl ⟨by rw [if_pos hmt, hmp]; exact p48.1.trans (congrFun hL.1.symm _), by rw [if_pos hmt, hmp]; exact p48.2.1, p48.2.2⟩
    · have hmf : lg_mc cn c what v = false := by unfold lg_mc; rw [w1, show vs_w what 0 1 = false from vs_b0.mp q23]; rfl
      refine vv_iconst C dX11_mint_26 ic_m1 ?_
      exact vs_iret C F dX11_mint_27 rfl ⟨by rw [hmf]; rfl, by rw [hmf]; exact hL, vs_fr.rf⟩
theorem lg_w3 {v : Int32} : vs_w v (1 : Int32) 999 = vs_w v 1 999 := rfl
set_option maxRecDepth 20000 in
theorem c_X12_mint (g : vv_G) (S : vs_S) (L : lg_L) (hL : lg_M S L) (hk : lg_ok L) (cn : Nat) (hcn : cn ≤ 16) (hs : S.1 26 = nI cn) (c what v : Int32) : vs_KI g yX12_mint cX12_mint 4 (some .int) 4 [vv_r g 65, .int c, .int what, .int v] S (fun r S1 => r = (if lg_mc cn c what v = true then L.1 (lg_mp c what) else -1) ∧ lg_M S1 (if lg_mc cn c what v = true then lg_bec L (lg_mp c what) v else L) ∧ vs_fr [21, 22] [66, 67, 68, 69] [] S S1) := by
  obtain ⟨H, A, B, C0, d, n9⟩ := L
  refine vs_ofI (lv := [_, _, _, _]) mb_X12_mint (Nat.le_of_ble_eq_true rfl) rfl (fun x C F => ?_)
  refine vv_aload_n C dX12_mint_0 rfl ?_
  refine vv_iload_n C dX12_mint_1 rfl ?_
  refine vs_caliF C dX12_mint_2 (c_X12_isCoin g S _) mb_X12_isCoin mv_X12_isCoin lk_X12_177 ce_65 rfl rfl rfl rfl ⟨Nat.le_of_ble_eq_true rfl, Nat.le_of_ble_eq_true rfl, Nat.le_of_ble_eq_true rfl⟩ ?_
  refine vv_if_eq (tgt := 48) C dX12_mint_5 (by decide) (fun q5 => ?_) (fun q5 => ?_)
  · have hmf : lg_mc cn c what v = false := by unfold lg_mc; rw [show vs_w c 0 (nI cn - 1) = false by rw [← hs]; exact vs_b0.mp q5]; rfl
    refine vv_iconst C dX12_mint_48 ic_m1 ?_
    exact vs_iret C F dX12_mint_49 rfl ⟨by rw [hmf]; rfl, by rw [hmf]; exact hL, vs_fr.rf⟩
  · have w1 : vs_w c 0 (nI cn - 1) = true := by rw [← hs]; exact vs_b1.mp q5
    refine vv_iload_n C dX12_mint_8 rfl ?_
    refine vv_i2l C dX12_mint_9 ?_
    refine vv_lconst C dX12_mint_10 lc_0 ?_
    refine vs_eql (v9 := (0 : Int32).toInt64) (by decide +kernel) ?_
    refine vv_lconst C dX12_mint_11 lc_1 ?_
    refine vs_eql (v9 := (1 : Int32).toInt64) (by decide +kernel) ?_
    refine vs_calsiF C dX12_mint_12 (c_X12_within g S _ _ _) mb_X12_within ms_X12_within lk_X12_123 rfl rfl ⟨Nat.le_of_ble_eq_true rfl, Nat.le_of_ble_eq_true rfl, Nat.le_of_ble_eq_true rfl⟩ ?_
    refine vv_if_eq (tgt := 48) C dX12_mint_15 (by decide) (fun q15 => ?_) (fun q15 => ?_)
    · have hmf : lg_mc cn c what v = false := by unfold lg_mc; rw [w1, show vs_w what 0 1 = false from vs_b0.mp q15]; rfl
      refine vv_iconst C dX12_mint_48 ic_m1 ?_
      exact vs_iret C F dX12_mint_49 rfl ⟨by rw [hmf]; rfl, by rw [hmf]; exact hL, vs_fr.rf⟩
    · have w2 : vs_w what 0 1 = true := vs_b1.mp q15
      obtain ⟨k, hkc, ec⟩ := lg_mcq hcn w1
      subst ec
      refine vv_iload_n C dX12_mint_18 rfl ?_
      refine vv_i2l C dX12_mint_19 ?_
      refine vv_iload_n C dX12_mint_20 rfl ?_
      by_cases hw : what = 0
      · refine vv_if_ne (tgt := 28) C dX12_mint_21 (by decide) (fun q21 => ?_) (fun q21 => ?_)
        · exact absurd hw q21
        · skip
          refine vv_lconst C dX12_mint_24 lc_1 ?_
          refine vv_goto (tgt := 29) C dX12_mint_25 (by decide) ?_
          refine vs_eql (v9 := (1 : Int32).toInt64) (by decide +kernel) ?_
          refine vv_iload_n C dX12_mint_29 rfl ?_
          refine vv_if_ne (tgt := 39) C dX12_mint_30 (by decide) (fun q30 => ?_) (fun q30 => ?_)
          · exact absurd hw q30
          · skip
            refine vv_ldc2 C dX12_mint_33 kc_X12_170 ?_
            refine vv_goto (tgt := 42) C dX12_mint_36 (by decide) ?_
            refine vs_eql (v9 := (999 : Int32).toInt64) (by decide +kernel) ?_
            refine vs_calsiF C dX12_mint_42 (c_X12_within g S _ _ _) mb_X12_within ms_X12_within lk_X12_123 rfl rfl ⟨Nat.le_of_ble_eq_true rfl, Nat.le_of_ble_eq_true rfl, Nat.le_of_ble_eq_true rfl⟩ ?_
            refine vv_if_ne (tgt := 50) C dX12_mint_45 (by decide) (fun q45 => ?_) (fun q45 => ?_)
            · have hmt : lg_mc cn (nI k) what v = true := by
                unfold lg_mc
                rw [w1, w2, if_pos hw, vs_b1.mp q45]
                rfl
              have hmp : lg_mp (nI k) what = 64 + k := by unfold lg_mp; rw [if_pos hw, xn_cl (by omega)]
              refine vv_aload_n C dX12_mint_50 rfl ?_
              refine vv_iload_n C dX12_mint_51 rfl ?_
              refine vv_if_ne (tgt := 60) C dX12_mint_52 (by decide) (fun q52 => ?_) (fun q52 => ?_)
              · exact absurd hw q52
              · skip
                refine vv_bipush C dX12_mint_55 bp_64 ?_
                refine vv_goto (tgt := 62) C dX12_mint_57 (by decide) ?_
                refine vv_iload_n C dX12_mint_62 rfl ?_
                refine vv_iadd C dX12_mint_63 ?_
                refine vs_eqi (v9 := nI (64 + k)) (nI_add 64 k) ?_
                refine vv_iload_n C dX12_mint_64 rfl ?_
                refine vs_calli C dX12_mint_65 (c_X12_becomes g S H A B C0 d n9 hL hk (64 + k) (by omega) v) mb_X12_becomes mv_X12_becomes lk_X12_180 ce_65 rfl rfl rfl rfl ⟨Nat.le_of_ble_eq_true rfl, Nat.le_of_ble_eq_true rfl, Nat.le_of_ble_eq_true rfl⟩ (fun r65 S65 p65 => ?_)
                exact vs_iret C F dX12_mint_68 rfl ⟨by rw [if_pos hmt, hmp]; exact p65.1.trans (congrFun hL.1.symm _), by rw [if_pos hmt, hmp]; exact p65.2.1, p65.2.2⟩
            · have hmf : lg_mc cn (nI k) what v = false := by
                unfold lg_mc
                rw [w1, w2, if_pos hw, vs_b0.mp q45]
                rfl
              refine vv_iconst C dX12_mint_48 ic_m1 ?_
              exact vs_iret C F dX12_mint_49 rfl ⟨by rw [hmf]; rfl, by rw [hmf]; exact hL, vs_fr.rf⟩
      · refine vv_if_ne (tgt := 28) C dX12_mint_21 (by decide) (fun q21 => ?_) (fun q21 => ?_)
        · skip
          refine vv_lconst C dX12_mint_28 lc_0 ?_
          refine vs_eql (v9 := (0 : Int32).toInt64) (by decide +kernel) ?_
          refine vv_iload_n C dX12_mint_29 rfl ?_
          refine vv_if_ne (tgt := 39) C dX12_mint_30 (by decide) (fun q30 => ?_) (fun q30 => ?_)
          · skip
            refine vv_ldc2 C dX12_mint_39 kc_X12_172 ?_
            refine vs_eql (v9 := (9 : Int32).toInt64) (by decide +kernel) ?_
            refine vs_calsiF C dX12_mint_42 (c_X12_within g S _ _ _) mb_X12_within ms_X12_within lk_X12_123 rfl rfl ⟨Nat.le_of_ble_eq_true rfl, Nat.le_of_ble_eq_true rfl, Nat.le_of_ble_eq_true rfl⟩ ?_
            refine vv_if_ne (tgt := 50) C dX12_mint_45 (by decide) (fun q45 => ?_) (fun q45 => ?_)
            · have hmt : lg_mc cn (nI k) what v = true := by
                unfold lg_mc
                rw [w1, w2, if_neg hw, vs_b1.mp q45]
                rfl
              have hmp : lg_mp (nI k) what = 80 + k := by unfold lg_mp; rw [if_neg hw, xn_cl (by omega)]
              refine vv_aload_n C dX12_mint_50 rfl ?_
              refine vv_iload_n C dX12_mint_51 rfl ?_
              refine vv_if_ne (tgt := 60) C dX12_mint_52 (by decide) (fun q52 => ?_) (fun q52 => ?_)
              · skip
                refine vv_bipush C dX12_mint_60 bp_80 ?_
                refine vv_iload_n C dX12_mint_62 rfl ?_
                refine vv_iadd C dX12_mint_63 ?_
                refine vs_eqi (v9 := nI (80 + k)) (nI_add 80 k) ?_
                refine vv_iload_n C dX12_mint_64 rfl ?_
                refine vs_calli C dX12_mint_65 (c_X12_becomes g S H A B C0 d n9 hL hk (80 + k) (by omega) v) mb_X12_becomes mv_X12_becomes lk_X12_180 ce_65 rfl rfl rfl rfl ⟨Nat.le_of_ble_eq_true rfl, Nat.le_of_ble_eq_true rfl, Nat.le_of_ble_eq_true rfl⟩ (fun r65 S65 p65 => ?_)
                exact vs_iret C F dX12_mint_68 rfl ⟨by rw [if_pos hmt, hmp]; exact p65.1.trans (congrFun hL.1.symm _), by rw [if_pos hmt, hmp]; exact p65.2.1, p65.2.2⟩
              · exact absurd q52 hw
            · have hmf : lg_mc cn (nI k) what v = false := by
                unfold lg_mc
                rw [w1, w2, if_neg hw, vs_b0.mp q45]
                rfl
              refine vv_iconst C dX12_mint_48 ic_m1 ?_
              exact vs_iret C F dX12_mint_49 rfl ⟨by rw [hmf]; rfl, by rw [hmf]; exact hL, vs_fr.rf⟩
          · exact absurd q30 hw
        · exact absurd q21 hw
