set_option maxRecDepth 20000 in
theorem c_X7_choose (g : vv_G) (S : vs_S) (hS : nx_ok S) (law : Nat) (hl : law ≤ 3) (hs0 : S.1 0 = nI law) (cd : List Int32) (hc : slX S cd) (a b : Nat) (hab : a ≤ b) (hb : b ≤ 100000) : vs_KI g yX7_choose cX7_choose 7 (some .boolean) 6 [vv_r g 45, .int (nI a), .int (nI b)] S (fun r S1 => r = vs_b (!(decide ((k_ch (np_lx law) (fun N => mch N cd true []) a b).1 = 0))) ∧ vs_fr [11, 12, 13] [47] [] S S1 ∧ ((k_ch (np_lx law) (fun N => mch N cd true []) a b).1 = 0 ∨ (S1.1 12 = (k_ch (np_lx law) (fun N => mch N cd true []) a b).2.1 ∧ S1.1 13 = (k_ch (np_lx law) (fun N => mch N cd true []) a b).2.2))) := by
  refine vs_ofI (lv := [_, _, _, _, _, _, _]) mb_X7_choose (Nat.le_of_ble_eq_true rfl) rfl (fun x C F => ?_)
  refine vv_aload_n C dX7_choose_0 rfl ?_
  refine gf_X7_laws C dX7_choose_1 fg_X7_20 ?_
  refine vv_iload_n C dX7_choose_4 rfl ?_
  refine vv_iconst C dX7_choose_5 ic_1 ?_
  refine vv_isub C dX7_choose_6 ?_
  refine vs_caliF C dX7_choose_7 (c_X1_greatestTo g S hS law hl hs0 _) mb_X1_greatestTo mv_X1_greatestTo lk_X7_48 ce_4 rfl rfl rfl rfl ⟨Nat.le_of_ble_eq_true rfl, Nat.le_of_ble_eq_true rfl, Nat.le_of_ble_eq_true rfl⟩ ?_
  refine vw_istore_n (lv9 := [_, _, _, _, _, _, _]) C dX7_choose_10 (by decide) rfl rfl ?_
  refine vv_iconst C dX7_choose_11 ic_0 ?_
  refine vw_istore (lv9 := [_, _, _, _, _, _, _]) C dX7_choose_12 (by decide) rfl rfl ?_
  refine vv_iload_n C dX7_choose_14 rfl ?_
  refine vw_istore (lv9 := [_, _, _, _, _, _, _]) C dX7_choose_15 (by decide) rfl rfl ?_
  have loop : ∀ (f y : Nat) (pv : Int32) (c : Nat) (bb : Int32 × Int32) (w6 : Option Value) (S1 : vs_S), y + f = b + 1 → c ≤ y → vs_fr [11, 12, 13] [47] [] S S1 → (c = 0 ∨ (S1.1 12 = bb.1 ∧ S1.1 13 = bb.2)) → k_cs (np_lx law) (fun N => mch N cd true []) f y pv c bb = (k_ch (np_lx law) (fun N => mch N cd true []) a b) → vv_V g x 7 0 0 17 [some (vv_r g 45), some (.int (nI a)), some (.int (nI b)), some (.int pv), some (.int (nI c)), some (.int (nI y)), w6] [] (vs_cells g S1) := by
    intro f
    induction f with
    | zero =>
      intro y pv c bb w6 S1 hi hcy hf hb9 he
      refine vv_iload C dX7_choose_17 rfl ?_
      refine vv_iload_n C dX7_choose_19 rfl ?_
      refine vv_icmp_gt (tgt := 99) C dX7_choose_20 (by decide) (fun q20 => ?_) (fun q20 => ?_)
      · skip
        refine vv_iload C dX7_choose_99 rfl ?_
        refine vv_if_le (tgt := 108) C dX7_choose_101 (by decide) (fun q101 => ?_) (fun q101 => ?_)
        · have e0 : c = 0 := by
            have z : nI c ≤ nI 0 := q101
            rw [xn_le (by omega) (by omega)] at z
            omega
          refine vv_iconst C dX7_choose_108 ic_0 ?_
          first
          | exact vs_zret C F dX7_choose_109 rfl rfl ⟨by rw [← he]; show _ = vs_b (!(decide (c = 0))); rw [decide_eq_true e0]; rfl, hf, Or.inl (by rw [← he]; exact e0)⟩
          | exact vs_zret C F dX7_choose_109 rfl rfl ⟨by rw [← he]; show _ = vs_b (!(decide (c = 0))); rw [decide_eq_false e0]; rfl, hf, Or.inr (by rw [← he]; exact hb9.resolve_left e0)⟩
        · have e0 : ¬ c = 0 := fun z => q101 (by rw [z]; decide)
          refine vv_iconst C dX7_choose_104 ic_1 ?_
          refine vv_goto (tgt := 109) C dX7_choose_105 (by decide) ?_
          first
          | exact vs_zret C F dX7_choose_109 rfl rfl ⟨by rw [← he]; show _ = vs_b (!(decide (c = 0))); rw [decide_eq_true e0]; rfl, hf, Or.inl (by rw [← he]; exact e0)⟩
          | exact vs_zret C F dX7_choose_109 rfl rfl ⟨by rw [← he]; show _ = vs_b (!(decide (c = 0))); rw [decide_eq_false e0]; rfl, hf, Or.inr (by rw [← he]; exact hb9.resolve_left e0)⟩
      · exact absurd (show nI b < nI y by rw [xn_lt (by omega) (by omega)]; omega) q20
    | succ f ih =>
      intro y pv c bb w6 S1 hi hcy hf hb9 he
      rw [k_csS f] at he
      refine vv_iload C dX7_choose_17 rfl ?_
      refine vv_iload_n C dX7_choose_19 rfl ?_
      refine vv_icmp_gt (tgt := 99) C dX7_choose_20 (by decide) (fun q20 => ?_) (fun q20 => ?_)
      · exact absurd q20 (by rw [xn_lt (by omega) (by omega)]; omega)
      · skip
        refine vv_aload_n C dX7_choose_23 rfl ?_
        refine gf_X7_laws C dX7_choose_24 fg_X7_20 ?_
        refine vv_iload C dX7_choose_27 rfl ?_
        refine vv_i2l C dX7_choose_29 ?_
        refine vs_eql (v9 := lN y) (xn_i2l (by omega)) ?_
        refine vs_caliF C dX7_choose_30 (c_X1_isLawful g S1 (nx_fr hS hf (by decide)) law hl ((hf.1 0 (by decide)).trans hs0) y (by omega)) mb_X1_isLawful mv_X1_isLawful lk_X7_53 ce_4 rfl rfl rfl rfl ⟨Nat.le_of_ble_eq_true rfl, Nat.le_of_ble_eq_true rfl, Nat.le_of_ble_eq_true rfl⟩ ?_
        refine vv_if_eq (tgt := 93) C dX7_choose_33 (by decide) (fun q33 => ?_) (fun q33 => ?_)
        · rw [vs_b0.mp q33, if_neg (by decide)] at he
          refine vw_iinc (lv9 := [_, _, _, _, _, _, _]) C dX7_choose_93 rfl ic_1 (by decide) rfl rfl ?_
          refine vv_goto (tgt := 17) C dX7_choose_96 (by decide) ?_
          rw [nI_1]
          try rw [nI_1]
          first
          | exact ih (y + 1) pv c bb _ S1 (by omega) (by omega) hf hb9 he
          | exact ih (y + 1) _ (c + 1) bb _ _ (by omega) (by omega) (hf.tr (p58.2.wd (by decide) (by decide) (by decide))) (Or.inr ⟨(p58.2.1 12 (by decide)).trans (hb9.resolve_left hc0).1, (p58.2.1 13 (by decide)).trans (hb9.resolve_left hc0).2⟩) he
          | exact ih (y + 1) _ (c + 1) (nI y, (mch (nmF (nI y) (if pv = -2 then 0 else nI y - pv) (nI (c + 1))) cd true [])) _ _ (by omega) (by omega) (((hf.tr (p58.2.wd (by decide) (by decide) (by decide))).us (by decide)).us (by decide)) (Or.inr ⟨rfl, p58.1⟩) he
        · rw [vs_b1.mp q33, if_pos rfl] at he
          refine vw_iinc (lv9 := [_, _, _, _, _, _, _]) C dX7_choose_36 rfl ic_1 (by decide) rfl rfl ?_
          refine vv_aload_n C dX7_choose_39 rfl ?_
          refine vv_iload C dX7_choose_40 rfl ?_
          refine vv_iload_n C dX7_choose_42 rfl ?_
          refine vv_bipush C dX7_choose_43 bp_m2 ?_
          refine vv_icmp_ne (tgt := 52) C dX7_choose_45 (by decide) (fun q45 => ?_) (fun q45 => ?_)
          · refine vv_iload C dX7_choose_52 rfl ?_
            refine vv_iload_n C dX7_choose_54 rfl ?_
            refine vv_isub C dX7_choose_55 ?_
            refine vs_eqi (v9 := (if pv = -2 then 0 else nI y - pv)) (by first | rw [if_pos q45] | rw [if_neg q45]) ?_
            refine vv_iload C dX7_choose_56 rfl ?_
            refine vs_eqi (v9 := nI (c + 1)) (nI_1 _) ?_
            refine vs_calli C dX7_choose_58 (c_X7_workOut g S1 cd (hc.fr hf (by decide) (by decide)) (nI y) (if pv = -2 then 0 else nI y - pv) (nI (c + 1))) mb_X7_workOut mv_X7_workOut lk_X7_57 ce_45 rfl rfl rfl rfl ⟨Nat.le_of_ble_eq_true rfl, Nat.le_of_ble_eq_true rfl, Nat.le_of_ble_eq_true rfl⟩ (fun r58 S58 p58 => ?_)
            refine vw_istore (lv9 := [_, _, _, _, _, _, _]) C dX7_choose_61 (by decide) rfl rfl ?_
            refine vv_iload C dX7_choose_63 rfl ?_
            refine vs_eqi (v9 := nI (c + 1)) (nI_1 _) ?_
            refine vv_iconst C dX7_choose_65 ic_1 ?_
            refine vv_icmp_eq (tgt := 78) C dX7_choose_66 (by decide) (fun q66 => ?_) (fun q66 => ?_)
            · have hc0 : c = 0 := by have := (xn_eq (by omega) (by omega)).mp (show nI (c + 1) = nI 1 from q66); omega
              rw [if_pos (Or.inl hc0)] at he
              refine vv_aload_n C dX7_choose_78 rfl ?_
              refine vv_iload C dX7_choose_79 rfl ?_
              refine pf_X7_price C dX7_choose_81 fp_X7_42 ?_
              refine vv_aload_n C dX7_choose_84 rfl ?_
              refine vv_iload C dX7_choose_85 rfl ?_
              refine pf_X7_brings C dX7_choose_87 fp_X7_45 ?_
              refine vv_iload C dX7_choose_90 rfl ?_
              refine vw_istore_n (lv9 := [_, _, _, _, _, _, _]) C dX7_choose_92 (by decide) rfl rfl ?_
              refine vw_iinc (lv9 := [_, _, _, _, _, _, _]) C dX7_choose_93 rfl ic_1 (by decide) rfl rfl ?_
              refine vv_goto (tgt := 17) C dX7_choose_96 (by decide) ?_
              rw [nI_1]
              try rw [nI_1]
              first
              | exact ih (y + 1) pv c bb _ S1 (by omega) (by omega) hf hb9 he
              | exact ih (y + 1) _ (c + 1) bb _ _ (by omega) (by omega) (hf.tr (p58.2.wd (by decide) (by decide) (by decide))) (Or.inr ⟨(p58.2.1 12 (by decide)).trans (hb9.resolve_left hc0).1, (p58.2.1 13 (by decide)).trans (hb9.resolve_left hc0).2⟩) he
              | exact ih (y + 1) _ (c + 1) (nI y, (mch (nmF (nI y) (if pv = -2 then 0 else nI y - pv) (nI (c + 1))) cd true [])) _ _ (by omega) (by omega) (((hf.tr (p58.2.wd (by decide) (by decide) (by decide))).us (by decide)).us (by decide)) (Or.inr ⟨rfl, p58.1⟩) he
            · have hc0 : ¬ c = 0 := fun z => q66 (by rw [z]; rfl)
              refine vv_iload C dX7_choose_69 rfl ?_
              refine vv_aload_n C dX7_choose_71 rfl ?_
              refine gf_X7_brings C dX7_choose_72 fg_X7_45 ?_
              refine vs_eqi (v9 := bb.2) (by rw [p58.2.1 13 (by decide)]; exact (hb9.resolve_left hc0).2) ?_
              refine vv_icmp_le (tgt := 90) C dX7_choose_75 (by decide) (fun q75 => ?_) (fun q75 => ?_)
              · rw [if_neg (fun z => z.elim hc0 (fun z => Int32.not_lt.mpr q75 (by rw [p58.1]; exact z)))] at he
                refine vv_iload C dX7_choose_90 rfl ?_
                refine vw_istore_n (lv9 := [_, _, _, _, _, _, _]) C dX7_choose_92 (by decide) rfl rfl ?_
                refine vw_iinc (lv9 := [_, _, _, _, _, _, _]) C dX7_choose_93 rfl ic_1 (by decide) rfl rfl ?_
                refine vv_goto (tgt := 17) C dX7_choose_96 (by decide) ?_
                rw [nI_1]
                try rw [nI_1]
                first
                | exact ih (y + 1) pv c bb _ S1 (by omega) (by omega) hf hb9 he
                | exact ih (y + 1) _ (c + 1) bb _ _ (by omega) (by omega) (hf.tr (p58.2.wd (by decide) (by decide) (by decide))) (Or.inr ⟨(p58.2.1 12 (by decide)).trans (hb9.resolve_left hc0).1, (p58.2.1 13 (by decide)).trans (hb9.resolve_left hc0).2⟩) he
                | exact ih (y + 1) _ (c + 1) (nI y, (mch (nmF (nI y) (if pv = -2 then 0 else nI y - pv) (nI (c + 1))) cd true [])) _ _ (by omega) (by omega) (((hf.tr (p58.2.wd (by decide) (by decide) (by decide))).us (by decide)).us (by decide)) (Or.inr ⟨rfl, p58.1⟩) he
              · rw [if_pos (Or.inr (by have z := Int32.not_le.mp q75; rw [p58.1] at z; exact z))] at he
                refine vv_aload_n C dX7_choose_78 rfl ?_
                refine vv_iload C dX7_choose_79 rfl ?_
                refine pf_X7_price C dX7_choose_81 fp_X7_42 ?_
                refine vv_aload_n C dX7_choose_84 rfl ?_
                refine vv_iload C dX7_choose_85 rfl ?_
                refine pf_X7_brings C dX7_choose_87 fp_X7_45 ?_
                refine vv_iload C dX7_choose_90 rfl ?_
                refine vw_istore_n (lv9 := [_, _, _, _, _, _, _]) C dX7_choose_92 (by decide) rfl rfl ?_
                refine vw_iinc (lv9 := [_, _, _, _, _, _, _]) C dX7_choose_93 rfl ic_1 (by decide) rfl rfl ?_
                refine vv_goto (tgt := 17) C dX7_choose_96 (by decide) ?_
                rw [nI_1]
                try rw [nI_1]
                first
                | exact ih (y + 1) pv c bb _ S1 (by omega) (by omega) hf hb9 he
                | exact ih (y + 1) _ (c + 1) bb _ _ (by omega) (by omega) (hf.tr (p58.2.wd (by decide) (by decide) (by decide))) (Or.inr ⟨(p58.2.1 12 (by decide)).trans (hb9.resolve_left hc0).1, (p58.2.1 13 (by decide)).trans (hb9.resolve_left hc0).2⟩) he
                | exact ih (y + 1) _ (c + 1) (nI y, (mch (nmF (nI y) (if pv = -2 then 0 else nI y - pv) (nI (c + 1))) cd true [])) _ _ (by omega) (by omega) (((hf.tr (p58.2.wd (by decide) (by decide) (by decide))).us (by decide)).us (by decide)) (Or.inr ⟨rfl, p58.1⟩) he
          · refine vv_iconst C dX7_choose_48 ic_0 ?_
            refine vv_goto (tgt := 56) C dX7_choose_49 (by decide) ?_
            refine vs_eqi (v9 := (if pv = -2 then 0 else nI y - pv)) (by first | rw [if_pos q45] | rw [if_neg q45]) ?_
            refine vv_iload C dX7_choose_56 rfl ?_
            refine vs_eqi (v9 := nI (c + 1)) (nI_1 _) ?_
            refine vs_calli C dX7_choose_58 (c_X7_workOut g S1 cd (hc.fr hf (by decide) (by decide)) (nI y) (if pv = -2 then 0 else nI y - pv) (nI (c + 1))) mb_X7_workOut mv_X7_workOut lk_X7_57 ce_45 rfl rfl rfl rfl ⟨Nat.le_of_ble_eq_true rfl, Nat.le_of_ble_eq_true rfl, Nat.le_of_ble_eq_true rfl⟩ (fun r58 S58 p58 => ?_)
            refine vw_istore (lv9 := [_, _, _, _, _, _, _]) C dX7_choose_61 (by decide) rfl rfl ?_
            refine vv_iload C dX7_choose_63 rfl ?_
            refine vs_eqi (v9 := nI (c + 1)) (nI_1 _) ?_
            refine vv_iconst C dX7_choose_65 ic_1 ?_
            refine vv_icmp_eq (tgt := 78) C dX7_choose_66 (by decide) (fun q66 => ?_) (fun q66 => ?_)
            · have hc0 : c = 0 := by have := (xn_eq (by omega) (by omega)).mp (show nI (c + 1) = nI 1 from q66); omega
              rw [if_pos (Or.inl hc0)] at he
              refine vv_aload_n C dX7_choose_78 rfl ?_
              refine vv_iload C dX7_choose_79 rfl ?_
              refine pf_X7_price C dX7_choose_81 fp_X7_42 ?_
              refine vv_aload_n C dX7_choose_84 rfl ?_
              refine vv_iload C dX7_choose_85 rfl ?_
              refine pf_X7_brings C dX7_choose_87 fp_X7_45 ?_
              refine vv_iload C dX7_choose_90 rfl ?_
              refine vw_istore_n (lv9 := [_, _, _, _, _, _, _]) C dX7_choose_92 (by decide) rfl rfl ?_
              refine vw_iinc (lv9 := [_, _, _, _, _, _, _]) C dX7_choose_93 rfl ic_1 (by decide) rfl rfl ?_
              refine vv_goto (tgt := 17) C dX7_choose_96 (by decide) ?_
              rw [nI_1]
              try rw [nI_1]
              first
              | exact ih (y + 1) pv c bb _ S1 (by omega) (by omega) hf hb9 he
              | exact ih (y + 1) _ (c + 1) bb _ _ (by omega) (by omega) (hf.tr (p58.2.wd (by decide) (by decide) (by decide))) (Or.inr ⟨(p58.2.1 12 (by decide)).trans (hb9.resolve_left hc0).1, (p58.2.1 13 (by decide)).trans (hb9.resolve_left hc0).2⟩) he
              | exact ih (y + 1) _ (c + 1) (nI y, (mch (nmF (nI y) (if pv = -2 then 0 else nI y - pv) (nI (c + 1))) cd true [])) _ _ (by omega) (by omega) (((hf.tr (p58.2.wd (by decide) (by decide) (by decide))).us (by decide)).us (by decide)) (Or.inr ⟨rfl, p58.1⟩) he
            · have hc0 : ¬ c = 0 := fun z => q66 (by rw [z]; rfl)
              refine vv_iload C dX7_choose_69 rfl ?_
              refine vv_aload_n C dX7_choose_71 rfl ?_
              refine gf_X7_brings C dX7_choose_72 fg_X7_45 ?_
              refine vs_eqi (v9 := bb.2) (by rw [p58.2.1 13 (by decide)]; exact (hb9.resolve_left hc0).2) ?_
              refine vv_icmp_le (tgt := 90) C dX7_choose_75 (by decide) (fun q75 => ?_) (fun q75 => ?_)
              · rw [if_neg (fun z => z.elim hc0 (fun z => Int32.not_lt.mpr q75 (by rw [p58.1]; exact z)))] at he
                refine vv_iload C dX7_choose_90 rfl ?_
                refine vw_istore_n (lv9 := [_, _, _, _, _, _, _]) C dX7_choose_92 (by decide) rfl rfl ?_
                refine vw_iinc (lv9 := [_, _, _, _, _, _, _]) C dX7_choose_93 rfl ic_1 (by decide) rfl rfl ?_
                refine vv_goto (tgt := 17) C dX7_choose_96 (by decide) ?_
                rw [nI_1]
                try rw [nI_1]
                first
                | exact ih (y + 1) pv c bb _ S1 (by omega) (by omega) hf hb9 he
                | exact ih (y + 1) _ (c + 1) bb _ _ (by omega) (by omega) (hf.tr (p58.2.wd (by decide) (by decide) (by decide))) (Or.inr ⟨(p58.2.1 12 (by decide)).trans (hb9.resolve_left hc0).1, (p58.2.1 13 (by decide)).trans (hb9.resolve_left hc0).2⟩) he
                | exact ih (y + 1) _ (c + 1) (nI y, (mch (nmF (nI y) (if pv = -2 then 0 else nI y - pv) (nI (c + 1))) cd true [])) _ _ (by omega) (by omega) (((hf.tr (p58.2.wd (by decide) (by decide) (by decide))).us (by decide)).us (by decide)) (Or.inr ⟨rfl, p58.1⟩) he
              · rw [if_pos (Or.inr (by have z := Int32.not_le.mp q75; rw [p58.1] at z; exact z))] at he
                refine vv_aload_n C dX7_choose_78 rfl ?_
                refine vv_iload C dX7_choose_79 rfl ?_
                refine pf_X7_price C dX7_choose_81 fp_X7_42 ?_
                refine vv_aload_n C dX7_choose_84 rfl ?_
                refine vv_iload C dX7_choose_85 rfl ?_
                refine pf_X7_brings C dX7_choose_87 fp_X7_45 ?_
                refine vv_iload C dX7_choose_90 rfl ?_
                refine vw_istore_n (lv9 := [_, _, _, _, _, _, _]) C dX7_choose_92 (by decide) rfl rfl ?_
                refine vw_iinc (lv9 := [_, _, _, _, _, _, _]) C dX7_choose_93 rfl ic_1 (by decide) rfl rfl ?_
                refine vv_goto (tgt := 17) C dX7_choose_96 (by decide) ?_
                rw [nI_1]
                try rw [nI_1]
                first
                | exact ih (y + 1) pv c bb _ S1 (by omega) (by omega) hf hb9 he
                | exact ih (y + 1) _ (c + 1) bb _ _ (by omega) (by omega) (hf.tr (p58.2.wd (by decide) (by decide) (by decide))) (Or.inr ⟨(p58.2.1 12 (by decide)).trans (hb9.resolve_left hc0).1, (p58.2.1 13 (by decide)).trans (hb9.resolve_left hc0).2⟩) he
                | exact ih (y + 1) _ (c + 1) (nI y, (mch (nmF (nI y) (if pv = -2 then 0 else nI y - pv) (nI (c + 1))) cd true [])) _ _ (by omega) (by omega) (((hf.tr (p58.2.wd (by decide) (by decide) (by decide))).us (by decide)).us (by decide)) (Or.inr ⟨rfl, p58.1⟩) he
  exact loop (b + 1 - a) a _ 0 (0, 0) _ S (by omega) (Nat.zero_le _) vs_fr.rf (Or.inl rfl) rfl
set_option maxRecDepth 20000 in
theorem c_X11_chosen (g : vv_G) (S : vs_S) (hS : nx_ok S) (law : Nat) (hl : law ≤ 3) (hs0 : S.1 0 = nI law) (cd : List Int32) (hc : slX S cd) (a b w : Int32) : vs_KI g yX11_chosen cX11_chosen 4 (some .int) 7 [vv_r g 0, .int a, .int b, .int w] S (fun r S1 => r = k_chosen (np_lx law) (fun N => mch N cd true []) a b w ∧ vs_fr [11, 12, 13] [47] [] S S1) := by
  refine vs_ofI (lv := [_, _, _, _]) mb_X11_chosen (Nat.le_of_ble_eq_true rfl) rfl (fun x C F => ?_)
  refine vv_iload_n C dX11_chosen_0 rfl ?_
  refine vv_iload_n C dX11_chosen_1 rfl ?_
  refine vs_calsiF C dX11_chosen_2 (c_X11_isWalk g S a b) mb_X11_isWalk ms_X11_isWalk lk_X11_185 rfl rfl ⟨Nat.le_of_ble_eq_true rfl, Nat.le_of_ble_eq_true rfl, Nat.le_of_ble_eq_true rfl⟩ ?_
  refine vv_if_eq (tgt := 38) C dX11_chosen_5 (by decide) (fun q5 => ?_) (fun q5 => ?_)
  · have w1 := vs_b0.mp q5
    rw [vs_ends] at w1
    have hv : k_chosen (np_lx law) (fun N => mch N cd true []) a b w = -2000000000 := if_neg (by rw [w1, Bool.false_and]; decide)
    refine vv_ldc C dX11_chosen_38 kc_X11_201 ?_
    first
    | exact vs_iret C F dX11_chosen_40 rfl ⟨hv.symm, vs_fr.rf⟩
    | exact vs_iret C F dX11_chosen_40 rfl ⟨hv.symm, p32.2.1⟩
  · have w1 := vs_b1.mp q5
    rw [vs_ends] at w1
    refine vv_iload_n C dX11_chosen_8 rfl ?_
    refine vv_iload_n C dX11_chosen_9 rfl ?_
    refine vv_isub C dX11_chosen_10 ?_
    refine vv_sipush C dX11_chosen_11 sp_2000 ?_
    refine vv_icmp_gt (tgt := 38) C dX11_chosen_14 (by decide) (fun q14 => ?_) (fun q14 => ?_)
    · have hv : k_chosen (np_lx law) (fun N => mch N cd true []) a b w = -2000000000 := if_neg (by rw [w1, decide_eq_false (p := b - a ≤ 2000) (Int32.not_le.mpr q14), Bool.false_and, Bool.and_false]; decide)
      refine vv_ldc C dX11_chosen_38 kc_X11_201 ?_
      first
      | exact vs_iret C F dX11_chosen_40 rfl ⟨hv.symm, vs_fr.rf⟩
      | exact vs_iret C F dX11_chosen_40 rfl ⟨hv.symm, p32.2.1⟩
    · have w2 : decide (b - a ≤ 2000) = true := decide_eq_true (Int32.not_lt.mp q14)
      refine vv_iload_n C dX11_chosen_17 rfl ?_
      refine vv_iconst C dX11_chosen_18 ic_0 ?_
      refine vv_iconst C dX11_chosen_19 ic_1 ?_
      refine vs_calsiF C dX11_chosen_20 (c_X11_within g S _ _ _) mb_X11_within ms_X11_within lk_X11_94 rfl rfl ⟨Nat.le_of_ble_eq_true rfl, Nat.le_of_ble_eq_true rfl, Nat.le_of_ble_eq_true rfl⟩ ?_
      refine vv_if_eq (tgt := 38) C dX11_chosen_23 (by decide) (fun q23 => ?_) (fun q23 => ?_)
      · have hv : k_chosen (np_lx law) (fun N => mch N cd true []) a b w = -2000000000 := if_neg (by rw [w1, w2, show vs_w w 0 1 = false from vs_b0.mp q23]; decide)
        refine vv_ldc C dX11_chosen_38 kc_X11_201 ?_
        first
        | exact vs_iret C F dX11_chosen_40 rfl ⟨hv.symm, vs_fr.rf⟩
        | exact vs_iret C F dX11_chosen_40 rfl ⟨hv.symm, p32.2.1⟩
      · have w3 : vs_w w 0 1 = true := vs_b1.mp q23
        obtain ⟨x1, y1, hxy, hy1, ea, eb⟩ := ch_ab w1
        subst ea eb
        have hval : k_chosen (np_lx law) (fun N => mch N cd true []) (nI x1) (nI y1) w = if (k_ch (np_lx law) (fun N => mch N cd true []) x1 y1).1 = 0 then -2000000000 else if w = 0 then (k_ch (np_lx law) (fun N => mch N cd true []) x1 y1).2.1 else (k_ch (np_lx law) (fun N => mch N cd true []) x1 y1).2.2 := by
          unfold k_chosen
          rw [w1, w2, w3, xn_cl (n := x1) (by omega), xn_cl (n := y1) (by omega)]
          rfl
        refine vv_aload_n C dX11_chosen_26 rfl ?_
        refine gf_X11_seller C dX11_chosen_27 fg_X11_67 ?_
        refine vv_iload_n C dX11_chosen_30 rfl ?_
        refine vv_iload_n C dX11_chosen_31 rfl ?_
        refine vs_calli C dX11_chosen_32 (c_X7_choose g S hS law hl hs0 cd hc x1 y1 hxy hy1) mb_X7_choose mv_X7_choose lk_X11_198 ce_45 rfl rfl rfl rfl ⟨Nat.le_of_ble_eq_true rfl, Nat.le_of_ble_eq_true rfl, Nat.le_of_ble_eq_true rfl⟩ (fun r32 S32 p32 => ?_)
        refine vv_if_ne (tgt := 41) C dX11_chosen_35 (by decide) (fun q35 => ?_) (fun q35 => ?_)
        · have z0 : ¬ (k_ch (np_lx law) (fun N => mch N cd true []) x1 y1).1 = 0 := by
            rw [p32.1] at q35
            have z := vs_b1.mp q35
            simpa using z
          rw [if_neg z0] at hval
          have hpb := p32.2.2.resolve_left z0
          refine vv_iload_n C dX11_chosen_41 rfl ?_
          refine vv_if_ne (tgt := 55) C dX11_chosen_42 (by decide) (fun q42 => ?_) (fun q42 => ?_)
          · rw [if_neg q42] at hval
            refine vv_aload_n C dX11_chosen_55 rfl ?_
            refine gf_X11_seller C dX11_chosen_56 fg_X11_67 ?_
            refine vs_caliF C dX11_chosen_59 (c_X7_brings g S32) mb_X7_brings mv_X7_brings lk_X11_205 ce_45 rfl rfl rfl rfl ⟨Nat.le_of_ble_eq_true rfl, Nat.le_of_ble_eq_true rfl, Nat.le_of_ble_eq_true rfl⟩ ?_
            first
            | exact vs_iret C F dX11_chosen_62 rfl ⟨hpb.1.trans hval.symm, p32.2.1⟩
            | exact vs_iret C F dX11_chosen_62 rfl ⟨hpb.2.trans hval.symm, p32.2.1⟩
          · rw [if_pos q42] at hval
            refine vv_aload_n C dX11_chosen_45 rfl ?_
            refine gf_X11_seller C dX11_chosen_46 fg_X11_67 ?_
            refine vs_caliF C dX11_chosen_49 (c_X7_price g S32) mb_X7_price mv_X7_price lk_X11_202 ce_45 rfl rfl rfl rfl ⟨Nat.le_of_ble_eq_true rfl, Nat.le_of_ble_eq_true rfl, Nat.le_of_ble_eq_true rfl⟩ ?_
            refine vv_goto (tgt := 62) C dX11_chosen_52 (by decide) ?_
            first
            | exact vs_iret C F dX11_chosen_62 rfl ⟨hpb.1.trans hval.symm, p32.2.1⟩
            | exact vs_iret C F dX11_chosen_62 rfl ⟨hpb.2.trans hval.symm, p32.2.1⟩
        · have z0 : (k_ch (np_lx law) (fun N => mch N cd true []) x1 y1).1 = 0 := by
            rw [p32.1] at q35
            have z := vs_b0.mp q35
            simpa using z
          have hv : k_chosen (np_lx law) (fun N => mch N cd true []) (nI x1) (nI y1) w = -2000000000 := by rw [hval, if_pos z0]
          refine vv_ldc C dX11_chosen_38 kc_X11_201 ?_
          first
          | exact vs_iret C F dX11_chosen_40 rfl ⟨hv.symm, vs_fr.rf⟩
          | exact vs_iret C F dX11_chosen_40 rfl ⟨hv.symm, p32.2.1⟩
