/-! HOW MANY -/
def k_ct (v0 v1 v2 v3 v4 v5 v6 w : Int32) : Int32 := if w = 0 then v0 else if w = 1 then v1 else if w = 2 then v2 else if w = 3 then v3 else if w = 4 then v4 else if w = 5 then v5 else if w = 6 then v6 else -1
set_option maxRecDepth 20000 in
theorem c_X11_count (g : vv_G) (S : vs_S) (w : Int32) : vs_FI g yX11_count cX11_count 2 (some .int) 3 [vv_r g 0, .int w] S (k_ct (S.1 0) (S.1 9) (nI (dop (S.2.1 19) 64 0)) (S.1 14) (S.1 7) (S.1 18) (S.1 19) w) S := by
  refine vs_ofI (lv := [_, _]) mb_X11_count (Nat.le_of_ble_eq_true rfl) rfl (fun x C F => ?_)
  refine vv_iload_n C dX11_count_0 rfl ?_
  by_cases h0 : w = 0
  · subst h0
    refine vv_tableIn (tgt := 44) (off := 43) C dX11_count_1 (by decide +kernel) (by decide +kernel) (by decide +kernel) (by decide) ?_
    refine vv_aload_n C dX11_count_44 rfl ?_
    refine gf_X11_laws C dX11_count_45 fg_X11_21 ?_
    refine vs_caliF C dX11_count_48 (c_X1_inForce g S) mb_X1_inForce mv_X1_inForce lk_X11_98 ce_4 rfl rfl rfl rfl ⟨Nat.le_of_ble_eq_true rfl, Nat.le_of_ble_eq_true rfl, Nat.le_of_ble_eq_true rfl⟩ ?_
    exact vs_iret C F dX11_count_51 rfl ⟨rfl, rfl⟩
  by_cases h1 : w = 1
  · subst h1
    refine vv_tableIn (tgt := 52) (off := 51) C dX11_count_1 (by decide +kernel) (by decide +kernel) (by decide +kernel) (by decide) ?_
    refine vv_aload_n C dX11_count_52 rfl ?_
    refine gf_X11_purse C dX11_count_53 fg_X11_53 ?_
    refine vs_caliF C dX11_count_56 (c_X5_size g S) mb_X5_size mv_X5_size lk_X11_165 ce_23 rfl rfl rfl rfl ⟨Nat.le_of_ble_eq_true rfl, Nat.le_of_ble_eq_true rfl, Nat.le_of_ble_eq_true rfl⟩ ?_
    exact vs_iret C F dX11_count_59 rfl ⟨rfl, rfl⟩
  by_cases h2 : w = 2
  · subst h2
    refine vv_tableIn (tgt := 60) (off := 59) C dX11_count_1 (by decide +kernel) (by decide +kernel) (by decide +kernel) (by decide) ?_
    refine vv_aload_n C dX11_count_60 rfl ?_
    refine gf_X11_debts C dX11_count_61 fg_X11_60 ?_
    refine vs_caliF C dX11_count_64 (c_X0_open g S) mb_X0_open mv_X0_open lk_X11_288 ce_43 rfl rfl rfl rfl ⟨Nat.le_of_ble_eq_true rfl, Nat.le_of_ble_eq_true rfl, Nat.le_of_ble_eq_true rfl⟩ ?_
    exact vs_iret C F dX11_count_67 rfl ⟨rfl, rfl⟩
  by_cases h3 : w = 3
  · subst h3
    refine vv_tableIn (tgt := 68) (off := 67) C dX11_count_1 (by decide +kernel) (by decide +kernel) (by decide +kernel) (by decide) ?_
    refine vv_aload_n C dX11_count_68 rfl ?_
    refine gf_X11_reader C dX11_count_69 fg_X11_74 ?_
    refine vs_caliF C dX11_count_72 (c_X6_length g S) mb_X6_length mv_X6_length lk_X11_291 ce_48 rfl rfl rfl rfl ⟨Nat.le_of_ble_eq_true rfl, Nat.le_of_ble_eq_true rfl, Nat.le_of_ble_eq_true rfl⟩ ?_
    exact vs_iret C F dX11_count_75 rfl ⟨rfl, rfl⟩
  by_cases h4 : w = 4
  · subst h4
    refine vv_tableIn (tgt := 76) (off := 75) C dX11_count_1 (by decide +kernel) (by decide +kernel) (by decide +kernel) (by decide) ?_
    refine vv_aload_n C dX11_count_76 rfl ?_
    refine gf_X11_ledger C dX11_count_77 fg_X11_44 ?_
    refine vs_caliF C dX11_count_80 (c_X2_done g S) mb_X2_done mv_X2_done lk_X11_294 ce_18 rfl rfl rfl rfl ⟨Nat.le_of_ble_eq_true rfl, Nat.le_of_ble_eq_true rfl, Nat.le_of_ble_eq_true rfl⟩ ?_
    exact vs_iret C F dX11_count_83 rfl ⟨rfl, rfl⟩
  by_cases h5 : w = 5
  · subst h5
    refine vv_tableIn (tgt := 84) (off := 83) C dX11_count_1 (by decide +kernel) (by decide +kernel) (by decide +kernel) (by decide) ?_
    refine vv_aload_n C dX11_count_84 rfl ?_
    refine gf_X11_payments C dX11_count_85 fg_X11_81 ?_
    refine vs_caliF C dX11_count_88 (c_X4_size g S) mb_X4_size mv_X4_size lk_X11_267 ce_51 rfl rfl rfl rfl ⟨Nat.le_of_ble_eq_true rfl, Nat.le_of_ble_eq_true rfl, Nat.le_of_ble_eq_true rfl⟩ ?_
    exact vs_iret C F dX11_count_91 rfl ⟨rfl, rfl⟩
  by_cases h6 : w = 6
  · subst h6
    refine vv_tableIn (tgt := 92) (off := 91) C dX11_count_1 (by decide +kernel) (by decide +kernel) (by decide +kernel) (by decide) ?_
    refine vv_aload_n C dX11_count_92 rfl ?_
    refine gf_X11_payments C dX11_count_93 fg_X11_81 ?_
    refine vs_caliF C dX11_count_96 (c_X4_ran g S) mb_X4_ran mv_X4_ran lk_X11_297 ce_51 rfl rfl rfl rfl ⟨Nat.le_of_ble_eq_true rfl, Nat.le_of_ble_eq_true rfl, Nat.le_of_ble_eq_true rfl⟩ ?_
    exact vs_iret C F dX11_count_99 rfl ⟨rfl, rfl⟩
  have a0 : w.toInt ≠ 0 := fun z => h0 (Int32.toInt_inj.mp z)
  have a1 : w.toInt ≠ 1 := fun z => h1 (Int32.toInt_inj.mp z)
  have a2 : w.toInt ≠ 2 := fun z => h2 (Int32.toInt_inj.mp z)
  have a3 : w.toInt ≠ 3 := fun z => h3 (Int32.toInt_inj.mp z)
  have a4 : w.toInt ≠ 4 := fun z => h4 (Int32.toInt_inj.mp z)
  have a5 : w.toInt ≠ 5 := fun z => h5 (Int32.toInt_inj.mp z)
  have a6 : w.toInt ≠ 6 := fun z => h6 (Int32.toInt_inj.mp z)
  refine vv_tableOut (tgt := 100) C dX11_count_1 (by omega) (by decide) ?_
  refine vv_iconst C dX11_count_100 ic_m1 ?_
  exact vs_iret C F dX11_count_101 rfl ⟨by unfold k_ct; rw [if_neg h0, if_neg h1, if_neg h2, if_neg h3, if_neg h4, if_neg h5, if_neg h6], rfl⟩
set_option maxRecDepth 20000 in
theorem c_X12_count (g : vv_G) (S : vs_S) (w : Int32) : vs_FI g yX12_count cX12_count 4 (some .int) 1 [vv_r g 65, .int w] S (k_ct (S.1 23) (S.1 26) (nI (dop (S.2.1 66) 64 0)) (S.1 27) (S.1 22) (S.1 37) (S.1 38) w) S := by
  refine vs_ofI (lv := [_, _, _, _]) mb_X12_count (Nat.le_of_ble_eq_true rfl) rfl (fun x C F => ?_)
  refine vv_iload_n C dX12_count_0 rfl ?_
  by_cases h0 : w = 0
  · subst h0
    refine vv_tableIn (tgt := 44) (off := 43) C dX12_count_1 (by decide +kernel) (by decide +kernel) (by decide +kernel) (by decide) ?_
    refine vv_aload_n C dX12_count_44 rfl ?_
    refine gf_X12_law1 C dX12_count_45 fg_X12_117 ?_
    exact vs_iret C F dX12_count_48 rfl ⟨rfl, rfl⟩
  by_cases h1 : w = 1
  · subst h1
    refine vv_tableIn (tgt := 49) (off := 48) C dX12_count_1 (by decide +kernel) (by decide +kernel) (by decide +kernel) (by decide) ?_
    refine vv_aload_n C dX12_count_49 rfl ?_
    refine gf_X12_coinMany C dX12_count_50 fg_X12_174 ?_
    exact vs_iret C F dX12_count_53 rfl ⟨rfl, rfl⟩
  by_cases h2 : w = 2
  · subst h2
    refine vv_tableIn (tgt := 54) (off := 53) C dX12_count_1 (by decide +kernel) (by decide +kernel) (by decide +kernel) (by decide) ?_
    refine vv_iconst C dX12_count_54 ic_0 ?_
    refine vw_istore_n (lv9 := [_, _, _, _]) C dX12_count_55 (by decide) rfl rfl ?_
    refine vv_iconst C dX12_count_56 ic_0 ?_
    refine vw_istore_n (lv9 := [_, _, _, _]) C dX12_count_57 (by decide) rfl rfl ?_
    have loop : ∀ (f p c : Nat), p + f = 64 → c + dop (S.2.1 66) f p = dop (S.2.1 66) 64 0 → vv_V g x 4 0 0 58 [some (vv_r g 65), some (.int 2), some (.int (nI c)), some (.int (nI p))] [] (vs_cells g S) := by
      intro f
      induction f with
      | zero =>
        intro p c hi he
        have e4 : p = 64 := by omega
        subst e4
        refine vv_iload_n C dX12_count_58 rfl ?_
        refine vv_bipush C dX12_count_59 bp_64 ?_
        refine vv_icmp_ge (tgt := 87) C dX12_count_61 (by decide) (fun q61 => ?_) (fun q61 => ?_)
        · skip
          refine vv_iload_n C dX12_count_87 rfl ?_
          exact vs_iret C F dX12_count_88 rfl ⟨by show nI c = nI (dop (S.2.1 66) 64 0); rw [← he]; rfl, rfl⟩
        · exact absurd (by decide +kernel : (64 : Int32) ≤ nI 64) q61
      | succ f ih =>
        intro p c hi he
        rw [dop1 f] at he
        refine vv_iload_n C dX12_count_58 rfl ?_
        refine vv_bipush C dX12_count_59 bp_64 ?_
        refine vv_icmp_ge (tgt := 87) C dX12_count_61 (by decide) (fun q61 => ?_) (fun q61 => ?_)
        · exact absurd q61 (by rw [xn_lit, xn_le (by omega) (by omega)]; omega)
        · skip
          refine vv_iload_n C dX12_count_64 rfl ?_
          refine vv_aload_n C dX12_count_65 rfl ?_
          refine gf_X12_may C dX12_count_66 fg_X12_9 ?_
          refine vv_iload_n C dX12_count_69 rfl ?_
          refine ld_66 C dX12_count_70 (xn_in (by omega) (by omega)) ?_
          refine vs_eqi (v9 := (S.2.1 66) p) (by rw [xn_cl (by omega)]) ?_
          refine vv_if_le (tgt := 78) C dX12_count_71 (by decide) (fun q71 => ?_) (fun q71 => ?_)
          · skip
            refine vv_iconst C dX12_count_78 ic_0 ?_
            refine vv_iadd C dX12_count_79 ?_
            refine vs_eqi (v9 := nI (c + (if 0 < (S.2.1 66) p then 1 else 0))) (by first | (rw [if_neg (Int32.not_lt.mpr q71)]; exact nI_add _ _) | (rw [if_pos (Int32.not_le.mp q71)]; exact nI_add _ _)) ?_
            refine vw_istore_n (lv9 := [_, _, _, _]) C dX12_count_80 (by decide) rfl rfl ?_
            refine vw_iinc (lv9 := [_, _, _, _]) C dX12_count_81 rfl ic_1 (by decide) rfl rfl ?_
            refine vv_goto (tgt := 58) C dX12_count_84 (by decide) ?_
            rw [nI_1]
            exact ih (p + 1) _ (by omega) (by rw [← he, Nat.add_assoc])
          · skip
            refine vv_iconst C dX12_count_74 ic_1 ?_
            refine vv_goto (tgt := 79) C dX12_count_75 (by decide) ?_
            refine vv_iadd C dX12_count_79 ?_
            refine vs_eqi (v9 := nI (c + (if 0 < (S.2.1 66) p then 1 else 0))) (by first | (rw [if_neg (Int32.not_lt.mpr q71)]; exact nI_add _ _) | (rw [if_pos (Int32.not_le.mp q71)]; exact nI_add _ _)) ?_
            refine vw_istore_n (lv9 := [_, _, _, _]) C dX12_count_80 (by decide) rfl rfl ?_
            refine vw_iinc (lv9 := [_, _, _, _]) C dX12_count_81 rfl ic_1 (by decide) rfl rfl ?_
            refine vv_goto (tgt := 58) C dX12_count_84 (by decide) ?_
            rw [nI_1]
            exact ih (p + 1) _ (by omega) (by rw [← he, Nat.add_assoc])
    exact loop 64 0 0 rfl (Nat.zero_add _)
  by_cases h3 : w = 3
  · subst h3
    refine vv_tableIn (tgt := 89) (off := 88) C dX12_count_1 (by decide +kernel) (by decide +kernel) (by decide +kernel) (by decide) ?_
    refine vv_aload_n C dX12_count_89 rfl ?_
    refine gf_X12_tapeMany C dX12_count_90 fg_X12_207 ?_
    exact vs_iret C F dX12_count_93 rfl ⟨rfl, rfl⟩
  by_cases h4 : w = 4
  · subst h4
    refine vv_tableIn (tgt := 94) (off := 93) C dX12_count_1 (by decide +kernel) (by decide +kernel) (by decide +kernel) (by decide) ?_
    refine vv_aload_n C dX12_count_94 rfl ?_
    refine gf_X12_done C dX12_count_95 fg_X12_84 ?_
    exact vs_iret C F dX12_count_98 rfl ⟨rfl, rfl⟩
  by_cases h5 : w = 5
  · subst h5
    refine vv_tableIn (tgt := 99) (off := 98) C dX12_count_1 (by decide +kernel) (by decide +kernel) (by decide +kernel) (by decide) ?_
    refine vv_aload_n C dX12_count_99 rfl ?_
    refine gf_X12_bodies C dX12_count_100 fg_X12_314 ?_
    exact vs_iret C F dX12_count_103 rfl ⟨rfl, rfl⟩
  by_cases h6 : w = 6
  · subst h6
    refine vv_tableIn (tgt := 104) (off := 103) C dX12_count_1 (by decide +kernel) (by decide +kernel) (by decide +kernel) (by decide) ?_
    refine vv_aload_n C dX12_count_104 rfl ?_
    refine gf_X12_ran C dX12_count_105 fg_X12_317 ?_
    exact vs_iret C F dX12_count_108 rfl ⟨rfl, rfl⟩
  have a0 : w.toInt ≠ 0 := fun z => h0 (Int32.toInt_inj.mp z)
  have a1 : w.toInt ≠ 1 := fun z => h1 (Int32.toInt_inj.mp z)
  have a2 : w.toInt ≠ 2 := fun z => h2 (Int32.toInt_inj.mp z)
  have a3 : w.toInt ≠ 3 := fun z => h3 (Int32.toInt_inj.mp z)
  have a4 : w.toInt ≠ 4 := fun z => h4 (Int32.toInt_inj.mp z)
  have a5 : w.toInt ≠ 5 := fun z => h5 (Int32.toInt_inj.mp z)
  have a6 : w.toInt ≠ 6 := fun z => h6 (Int32.toInt_inj.mp z)
  refine vv_tableOut (tgt := 109) C dX12_count_1 (by omega) (by decide) ?_
  refine vv_iconst C dX12_count_109 ic_m1 ?_
  exact vs_iret C F dX12_count_110 rfl ⟨by unfold k_ct; rw [if_neg h0, if_neg h1, if_neg h2, if_neg h3, if_neg h4, if_neg h5, if_neg h6], rfl⟩
