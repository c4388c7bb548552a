set_option maxRecDepth 20000 in
theorem c_X3_smallPart (g : vv_G) (S : vs_S) (n most : Nat) (hn : n < 2 ^ 40) (h1m : 1 ≤ most) (hm : most < 2 ^ 30) : vs_KL g yX3_smallPart cX3_smallPart 4 (some .long) 1 [.long (lN n), .int (nI most)] S (fun r S1 => S1 = S ∧ np_small n most r) := by
  refine vs_ofL (lv := [_, _, _, _]) mb_X3_smallPart (Nat.le_of_ble_eq_true rfl) rfl (fun x C F => ?_)
  have t2 : lg_cmp (lN n % lN 2) 0 = 0 ↔ 2 ∣ n := np_lrem (by omega) (by omega)
  have t3 : lg_cmp (lN n % lN 3) 0 = 0 ↔ 3 ∣ n := np_lrem (by omega) (by omega)
  refine vv_lload_n C dX3_smallPart_0 rfl ?_
  refine vv_ldc2 C dX3_smallPart_1 kc_X3_34 ?_
  refine vv_lrem C dX3_smallPart_4 (by decide) ?_
  refine vv_lconst C dX3_smallPart_5 lc_0 ?_
  refine vv_lcmp C dX3_smallPart_6 ?_
  refine vv_if_ne (tgt := 14) C dX3_smallPart_7 (by decide) (fun q7 => ?_) (fun q7 => ?_)
  · have h2 : ¬ 2 ∣ n := fun z => q7 (t2.mpr z)
    refine vv_lload_n C dX3_smallPart_14 rfl ?_
    refine vv_ldc2 C dX3_smallPart_15 kc_X3_54 ?_
    refine vv_lrem C dX3_smallPart_18 (by decide) ?_
    refine vv_lconst C dX3_smallPart_19 lc_0 ?_
    refine vv_lcmp C dX3_smallPart_20 ?_
    refine vv_if_ne (tgt := 28) C dX3_smallPart_21 (by decide) (fun q21 => ?_) (fun q21 => ?_)
    · have h3 : ¬ 3 ∣ n := fun z => q21 (t3.mpr z)
      have loop : ∀ (m a : Nat), most + 7 ≤ a + m → a ≤ most + 6 → a % 6 = 5 → np_no n a → vv_V g x 4 0 0 30 [some (.long (lN n)), none, some (.int (nI most)), some (.int (nI a))] [] (vs_cells g S) := by
        intro m
        induction m with
        | zero => intro a h1 h4; omega
        | succ m ih =>
          intro a h1 h4 h5 h6
          have t1 : lg_cmp (lN n % lN a) 0 = 0 ↔ a ∣ n := np_lrem (by omega) (by omega)
          have t2 : lg_cmp (lN n % lN (a + 2)) 0 = 0 ↔ (a + 2) ∣ n := np_lrem (by omega) (by omega)
          refine vv_iload_n C dX3_smallPart_30 rfl ?_
          refine vv_iload_n C dX3_smallPart_31 rfl ?_
          refine vv_icmp_gt (tgt := 69) C dX3_smallPart_32 (by decide) (fun q32 => ?_) (fun q32 => ?_)
          · refine vv_lconst C dX3_smallPart_69 lc_0 ?_
            exact vs_lret C F dX3_smallPart_70 rfl ⟨rfl, Or.inl ⟨rfl, fun d h7 h8 => h6 d h7 (by rw [xn_lt (by omega) (by omega)] at q32; omega)⟩⟩
          · have hle : a ≤ most := by rw [xn_lt (by omega) (by omega)] at q32; omega
            refine vv_lload_n C dX3_smallPart_35 rfl ?_
            refine vv_iload_n C dX3_smallPart_36 rfl ?_
            refine vv_i2l C dX3_smallPart_37 ?_
            refine vs_eql (v9 := lN a) (xn_i2l (by omega)) ?_
            refine vv_lrem C dX3_smallPart_38 (np_lne (by omega) (by omega)) ?_
            refine vv_lconst C dX3_smallPart_39 lc_0 ?_
            refine vv_lcmp C dX3_smallPart_40 ?_
            refine vv_if_ne (tgt := 47) C dX3_smallPart_41 (by decide) (fun q41 => ?_) (fun q41 => ?_)
            · refine vv_lload_n C dX3_smallPart_47 rfl ?_
              refine vv_iload_n C dX3_smallPart_48 rfl ?_
              refine vv_iconst C dX3_smallPart_49 ic_2 ?_
              refine vv_iadd C dX3_smallPart_50 ?_
              refine vs_eqi (v9 := nI (a + 2)) (nI_add a 2) ?_
              refine vv_i2l C dX3_smallPart_51 ?_
              refine vs_eql (v9 := lN (a + 2)) (xn_i2l (by omega)) ?_
              refine vv_lrem C dX3_smallPart_52 (np_lne (by omega) (by omega)) ?_
              refine vv_lconst C dX3_smallPart_53 lc_0 ?_
              refine vv_lcmp C dX3_smallPart_54 ?_
              refine vv_if_ne (tgt := 63) C dX3_smallPart_55 (by decide) (fun q55 => ?_) (fun q55 => ?_)
              · refine vw_iinc (lv9 := [_, _, _, _]) C dX3_smallPart_63 rfl ic_6 (by decide) rfl rfl ?_
                refine vv_goto (tgt := 30) C dX3_smallPart_66 (by decide) ?_
                rw [show nI a + 6 = nI (a + 6) from nI_add a 6]
                exact ih (a + 6) (by omega) (by omega) (by omega) (np_step h2 h3 h5 h6 (fun z => q41 (t1.mpr z)) (fun z => q55 (t2.mpr z)))
              · refine vv_iload_n C dX3_smallPart_58 rfl ?_
                refine vv_iconst C dX3_smallPart_59 ic_2 ?_
                refine vv_iadd C dX3_smallPart_60 ?_
                refine vs_eqi (v9 := nI (a + 2)) (nI_add a 2) ?_
                refine vv_i2l C dX3_smallPart_61 ?_
                refine vs_eql (v9 := lN (a + 2)) (xn_i2l (by omega)) ?_
                exact vs_lret C F dX3_smallPart_62 rfl ⟨rfl, Or.inr ⟨a + 2, rfl, np_found (by omega) (t2.mp q55) (np_step1 h2 h5 h6 (fun z => q41 (t1.mpr z))), by omega, Or.inr (Or.inr ⟨by omega, by omega⟩)⟩⟩
            · refine vv_iload_n C dX3_smallPart_44 rfl ?_
              refine vv_i2l C dX3_smallPart_45 ?_
              refine vs_eql (v9 := lN a) (xn_i2l (by omega)) ?_
              exact vs_lret C F dX3_smallPart_46 rfl ⟨rfl, Or.inr ⟨a, rfl, np_found (by omega) (t1.mp q41) h6, by omega, Or.inr (Or.inl hle)⟩⟩
      refine vv_iconst C dX3_smallPart_28 ic_5 ?_
      refine vw_istore_n (lv9 := [_, _, _, _]) C dX3_smallPart_29 (by decide) rfl rfl ?_
      rw [show (5 : Int32) = nI 5 from rfl]
      by_cases hz : 5 ≤ most + 6
      · exact loop (most + 7) 5 (by omega) hz (by decide) (np_no5 h2 h3)
      · omega
    · refine vv_ldc2 C dX3_smallPart_24 kc_X3_54 ?_
      exact vs_lret C F dX3_smallPart_27 rfl ⟨rfl, Or.inr ⟨3, rfl, np_LP3 h2 (t3.mp q21), by omega, Or.inl (by omega)⟩⟩
  · refine vv_ldc2 C dX3_smallPart_10 kc_X3_34 ?_
    exact vs_lret C F dX3_smallPart_13 rfl ⟨rfl, Or.inr ⟨2, rfl, np_LP2 (t2.mp q7), by omega, Or.inl (by omega)⟩⟩
set_option maxRecDepth 20000 in
theorem c_X3_isWhole (g : vv_G) (S : vs_S) (hS : nx_ok S) (n : Nat) (hn : n < 2 ^ 40) : vs_FI g yX3_isWhole cX3_isWhole 7 (some .boolean) 3 [vv_r g 1, .long (lN n)] S (vs_b (np_wx n)) S := by
  refine vs_ofI (lv := [_, _, _, _, _, _, _]) mb_X3_isWhole (Nat.le_of_ble_eq_true rfl) rfl (fun x C F => ?_)
  refine vv_lload_n C dX3_isWhole_0 rfl ?_
  refine vv_ldc2 C dX3_isWhole_1 kc_X3_34 ?_
  refine vv_lcmp C dX3_isWhole_4 ?_
  refine vv_if_ge (tgt := 10) C dX3_isWhole_5 (by decide) (fun q5 => ?_) (fun q5 => ?_)
  · refine vv_lload_n C dX3_isWhole_10 rfl ?_
    refine vv_ldc2 C dX3_isWhole_11 kc_X3_36 ?_
    refine vv_lcmp C dX3_isWhole_14 ?_
    refine vv_if_ge (tgt := 25) C dX3_isWhole_15 (by decide) (fun q15 => ?_) (fun q15 => ?_)
    · have hge : 100003 ≤ n := by rw [lg_cmp_ge, xn_lit64, xn_lle (by omega) (by omega)] at q15; exact q15
      have loop : ∀ (m i : Nat) (w : Option Value), i + m = 6 → 100003 ≤ n → np_wx n = ([2, 3, 5, 7, 11, 13].drop i).all (fun b => !(n % b == 0) && !(np_sp b n 41 1)) → vv_V g x 7 0 0 36 [some (vv_r g 1), some (.long (lN n)), none, some (.ref (vv_aB g)), some (.int 6), some (.int (nI i)), w] [] (vs_cells g S) := by
        intro m
        induction m with
        | zero =>
          intro i w h1 h2 h3
          have hi : i = 6 := by omega
          subst hi
          refine vv_iload C dX3_isWhole_36 rfl ?_
          refine vv_iload C dX3_isWhole_38 rfl ?_
          refine vv_icmp_ge (tgt := 77) C dX3_isWhole_40 (by decide) (fun q40 => ?_) (fun q40 => ?_)
          · refine vv_iconst C dX3_isWhole_77 ic_1 ?_
            exact vs_zret C F dX3_isWhole_78 rfl rfl ⟨by rw [h3]; rfl, rfl⟩
          · exact absurd (Int32.le_refl _) q40
        | succ m ih =>
          intro i w h1 h2 h3
          obtain ⟨b1, b2, b3, b4⟩ := np_bs6 i (by omega)
          rw [b4, List.all_cons] at h3
          have t1 : lg_cmp (lN n % lN (np_bs i)) 0 = 0 ↔ np_bs i ∣ n := np_lrem (by omega) (by omega)
          refine vv_iload C dX3_isWhole_36 rfl ?_
          refine vv_iload C dX3_isWhole_38 rfl ?_
          refine vv_icmp_ge (tgt := 77) C dX3_isWhole_40 (by decide) (fun q40 => ?_) (fun q40 => ?_)
          · exact absurd q40 (by rw [xn_lit, xn_le (by omega) (by omega)]; omega)
          · refine vv_aload_nR C dX3_isWhole_43 rfl ?_
            refine vv_iload C dX3_isWhole_44 rfl ?_
            refine vv_ildsB C dX3_isWhole_46 (xn_in (by omega) (by omega)) ?_
            refine vs_eqi (v9 := nI (np_bs i)) (by rw [xn_cl (by omega)]; exact b1) ?_
            refine vw_istore (lv9 := [_, _, _, _, _, _, _]) C dX3_isWhole_47 (by decide) rfl rfl ?_
            refine vv_lload_n C dX3_isWhole_49 rfl ?_
            refine vv_iload C dX3_isWhole_50 rfl ?_
            refine vv_i2l C dX3_isWhole_52 ?_
            refine vs_eql (v9 := lN (np_bs i)) (xn_i2l (by omega)) ?_
            refine vv_lrem C dX3_isWhole_53 (np_lne (by omega) (by omega)) ?_
            refine vv_lconst C dX3_isWhole_54 lc_0 ?_
            refine vv_lcmp C dX3_isWhole_55 ?_
            refine vv_if_eq (tgt := 69) C dX3_isWhole_56 (by decide) (fun q56 => ?_) (fun q56 => ?_)
            · refine vv_iconst C dX3_isWhole_69 ic_0 ?_
              exact vs_zret C F dX3_isWhole_70 rfl rfl ⟨by rw [h3]; have e := t1; first | (rw [np_mod.mpr (t1.mp q56)]; rfl) | (rw [vs_b1.mp q66]; cases n % np_bs i == 0 <;> rfl), rfl⟩
            · have hz : (n % np_bs i == 0) = false := beq_false_of_ne (fun z => q56 (t1.mpr (np_mod.mp z)))
              refine vv_iload C dX3_isWhole_59 rfl ?_
              refine vv_i2l C dX3_isWhole_61 ?_
              refine vs_eql (v9 := lN (np_bs i)) (xn_i2l (by omega)) ?_
              refine vv_lload_n C dX3_isWhole_62 rfl ?_
              refine vs_calsiF C dX3_isWhole_63 (c_X3_showsParts g S _ _ b3 h2 hn) mb_X3_showsParts ms_X3_showsParts lk_X3_41 rfl rfl ⟨Nat.le_of_ble_eq_true rfl, Nat.le_of_ble_eq_true rfl, Nat.le_of_ble_eq_true rfl⟩ ?_
              refine vv_if_eq (tgt := 71) C dX3_isWhole_66 (by decide) (fun q66 => ?_) (fun q66 => ?_)
              · refine vw_iinc (lv9 := [_, _, _, _, _, _, _]) C dX3_isWhole_71 rfl ic_1 (by decide) rfl rfl ?_
                refine vv_goto (tgt := 36) C dX3_isWhole_74 (by decide) ?_
                rw [nI_1]
                refine ih (i + 1) _ (by omega) h2 ?_
                rw [h3, hz, vs_b0.mp q66]
                rfl
              · refine vv_iconst C dX3_isWhole_69 ic_0 ?_
                exact vs_zret C F dX3_isWhole_70 rfl rfl ⟨by rw [h3]; have e := t1; first | (rw [np_mod.mpr (t1.mp q56)]; rfl) | (rw [vs_b1.mp q66]; cases n % np_bs i == 0 <;> rfl), rfl⟩
      refine vv_getsB C dX3_isWhole_25 gs_X3_38 ?_
      refine vw_astore_nR (lv9 := [_, _, _, _, _, _, _]) C dX3_isWhole_28 (by decide) rfl rfl ?_
      refine vv_aload_nR C dX3_isWhole_29 rfl ?_
      refine vv_alensB (v := 6) C dX3_isWhole_30 (by decide) ?_
      refine vw_istore (lv9 := [_, _, _, _, _, _, _]) C dX3_isWhole_31 (by decide) rfl rfl ?_
      refine vv_iconst C dX3_isWhole_33 ic_0 ?_
      refine vw_istore (lv9 := [_, _, _, _, _, _, _]) C dX3_isWhole_34 (by decide) rfl rfl ?_
      exact loop 6 0 _ rfl hge (by unfold np_wx; rw [if_neg (by omega)]; rfl)
    · have hlt : n < 100003 := by rw [lg_cmp_ge, xn_lit64, xn_lle (by omega) (by omega)] at q15; omega
      refine vv_aload_n C dX3_isWhole_18 rfl ?_
      refine vv_lload_n C dX3_isWhole_19 rfl ?_
      refine vv_l2i C dX3_isWhole_20 ?_
      refine vs_eqi (v9 := nI n) (xn_l2i n) ?_
      refine vs_caliF C dX3_isWhole_21 (c_X3_sieved g S hS n hlt) mb_X3_sieved mv_X3_sieved lk_X3_26 ce_1 rfl rfl rfl rfl ⟨Nat.le_of_ble_eq_true rfl, Nat.le_of_ble_eq_true rfl, Nat.le_of_ble_eq_true rfl⟩ ?_
      exact vs_zret C F dX3_isWhole_24 rfl vs_bz ⟨by unfold np_wx; rw [if_pos (Or.inl hlt)], rfl⟩
  · have h2 : n < 2 := by rw [lg_cmp_ge, xn_lit64, xn_lle (by omega) (by omega)] at q5; omega
    refine vv_iconst C dX3_isWhole_8 ic_0 ?_
    exact vs_zret C F dX3_isWhole_9 rfl rfl ⟨by unfold np_wx np_pr; rw [if_pos (by omega), decide_eq_false (by omega)]; rfl, rfl⟩
set_option maxRecDepth 20000 in
theorem c_X3_besideLeast (g : vv_G) (S : vs_S) (n : Nat) (h2 : 2 ≤ n) (hn : n < 2 ^ 40) : vs_FL g yX3_besideLeast cX3_besideLeast 4 (some .long) 2 [.long (lN n)] S (lN (np_be n)) S := by
  refine vs_ofL (lv := [_, _, _, _]) mb_X3_besideLeast (Nat.le_of_ble_eq_true rfl) rfl (fun x C F => ?_)
  refine vv_lload_n C dX3_besideLeast_0 rfl ?_
  refine vv_sipush C dX3_besideLeast_1 sp_10000 ?_
  refine vs_eqi (v9 := nI 10000) (rfl) ?_
  refine vs_callsl C dX3_besideLeast_4 (c_X3_smallPart g S n 10000 hn (by omega) (by omega)) mb_X3_smallPart ms_X3_smallPart lk_X3_45 rfl rfl ⟨Nat.le_of_ble_eq_true rfl, Nat.le_of_ble_eq_true rfl, Nat.le_of_ble_eq_true rfl⟩ (fun r4 S4 p4 => ?_)
  obtain ⟨rfl, hsm⟩ := p4
  have hbe := np_be_small h2 hsm
  refine vw_lstore_n (lv9 := [_, _, _, _]) C dX3_besideLeast_7 (by decide) rfl rfl ?_
  refine vv_lload_n C dX3_besideLeast_8 rfl ?_
  refine vv_lconst C dX3_besideLeast_9 lc_0 ?_
  refine vv_lcmp C dX3_besideLeast_10 ?_
  refine vv_if_ne (tgt := 20) C dX3_besideLeast_11 (by decide) (fun q11 => ?_) (fun q11 => ?_)
  · rcases hbe with ⟨z1, z2⟩ | ⟨q, z1, z2, z3, z4⟩
    · exact absurd (by rw [z1]; exact (lg_cmp_eq _ _).mpr rfl) q11
    · subst z1
      refine vv_lload_n C dX3_besideLeast_20 rfl ?_
      refine vv_lload_n C dX3_besideLeast_21 rfl ?_
      refine vv_ldiv C dX3_besideLeast_22 (np_lne (by omega) z2) ?_
      refine vs_eql (v9 := lN (n / q)) (xn_ldiv (by omega) (by omega)) ?_
      exact vs_lret C F dX3_besideLeast_23 rfl ⟨by rw [z4], rfl⟩
  · rcases hbe with ⟨z1, z2⟩ | ⟨q, z1, z2, z3, z4⟩
    · refine vv_ldc2 C dX3_besideLeast_14 kc_X3_34 ?_
      refine vv_goto (tgt := 23) C dX3_besideLeast_17 (by decide) ?_
      exact vs_lret C F dX3_besideLeast_23 rfl ⟨by rw [z2]; rfl, rfl⟩
    · exact absurd q11 (by rw [z1, lg_cmp_eq, xn_lit64, xn_leq (by omega) (by omega)]; omega)
set_option maxRecDepth 20000 in
theorem c_X3_leastPart (g : vv_G) (S : vs_S) (hS : nx_ok S) (n : Nat) (h2 : 2 ≤ n) (hn : n ≤ 1000000000000) : vs_FL g yX3_leastPart cX3_leastPart 5 (some .long) 4 [vv_r g 1, .long (lN n)] S (lN (np_xl n)) S := by
  refine vs_ofL (lv := [_, _, _, _, _]) mb_X3_leastPart (Nat.le_of_ble_eq_true rfl) rfl (fun x C F => ?_)
  refine vv_aload_n C dX3_leastPart_0 rfl ?_
  refine vv_lload_n C dX3_leastPart_1 rfl ?_
  refine vs_caliF C dX3_leastPart_2 (c_X3_isWhole g S hS n (by omega)) mb_X3_isWhole mv_X3_isWhole lk_X3_49 ce_1 rfl rfl rfl rfl ⟨Nat.le_of_ble_eq_true rfl, Nat.le_of_ble_eq_true rfl, Nat.le_of_ble_eq_true rfl⟩ ?_
  refine vv_if_eq (tgt := 10) C dX3_leastPart_5 (by decide) (fun q5 => ?_) (fun q5 => ?_)
  · refine vv_lload_n C dX3_leastPart_10 rfl ?_
    refine vv_ldc C dX3_leastPart_11 kc_X3_53 ?_
    refine vs_eqi (v9 := nI 1000000) (rfl) ?_
    refine vs_callsl C dX3_leastPart_13 (c_X3_smallPart g S n 1000000 (by omega) (by omega) (by omega)) mb_X3_smallPart ms_X3_smallPart lk_X3_45 rfl rfl ⟨Nat.le_of_ble_eq_true rfl, Nat.le_of_ble_eq_true rfl, Nat.le_of_ble_eq_true rfl⟩ (fun r13 S13 p13 => ?_)
    obtain ⟨rfl, hsm⟩ := p13
    have hbe := np_xl_small h2 hn (vs_b0.mp q5) hsm
    refine vw_lstore_n (lv9 := [_, _, _, _, _]) C dX3_leastPart_16 (by decide) rfl rfl ?_
    refine vv_lload_n C dX3_leastPart_17 rfl ?_
    refine vv_lconst C dX3_leastPart_18 lc_0 ?_
    refine vv_lcmp C dX3_leastPart_19 ?_
    refine vv_if_ne (tgt := 27) C dX3_leastPart_20 (by decide) (fun q20 => ?_) (fun q20 => ?_)
    · rcases hbe with ⟨z1, z2⟩ | ⟨q, z1, z2, z3, z4⟩
      · exact absurd (by rw [z1]; exact (lg_cmp_eq _ _).mpr rfl) q20
      · refine vv_lload_n C dX3_leastPart_27 rfl ?_
        exact vs_lret C F dX3_leastPart_28 rfl ⟨by rw [z1, z4], rfl⟩
    · rcases hbe with ⟨z1, z2⟩ | ⟨q, z1, z2, z3, z4⟩
      · refine vv_lload_n C dX3_leastPart_23 rfl ?_
        refine vv_goto (tgt := 28) C dX3_leastPart_24 (by decide) ?_
        exact vs_lret C F dX3_leastPart_28 rfl ⟨by rw [z2], rfl⟩
      · exact absurd q20 (by rw [z1, lg_cmp_eq, xn_lit64, xn_leq (by omega) (by omega)]; omega)
  · refine vv_lload_n C dX3_leastPart_8 rfl ?_
    exact vs_lret C F dX3_leastPart_9 rfl ⟨by unfold np_xl; rw [if_pos (vs_b1.mp q5)], rfl⟩
