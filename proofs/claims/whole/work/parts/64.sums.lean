set_option maxRecDepth 20000 in
theorem c_X12_sums (g : vv_G) (r d : Nat) (hr6 : r ≤ 6) (hd : 3 ≤ d) (hK : RjM g yX12_product cX12_product 4 1 r d) (S : vs_S) (L : Nat) (B N : Nat → Int32) (hI : iX S L B N) (p : Nat) (hp : p ≤ L) (hq : qX S p r) : vs_KI g yX12_sums cX12_sums 4 (some .int) (d + 1) [vv_r g 65] S (fun v S1 => zX S S1 (pzR (pzO (ab L B) r) (ab L B) 2 p) ∧ ((pzR (pzO (ab L B) r) (ab L B) 2 p).1 = true → v = (pzR (pzO (ab L B) r) (ab L B) 2 p).2.2.2 N)) := by
  refine vs_ofI (lv := [_, _, _, _]) mb_X12_sums (Nat.le_of_ble_eq_true rfl) rfl (fun x C F => ?_)
  refine vv_aload_n C dX12_sums_0 rfl ?_
  refine vs_calli C dX12_sums_1 (hK S L B N hI p hp hq) mb_X12_product mv_X12_product lk_X12_238 ce_65 rfl rfl rfl rfl ⟨by omega, by omega, Nat.le_of_ble_eq_true rfl⟩ (fun r1 S1 p1 => ?_)
  have hL := hI.2.1
  have hpo := pOk_M (B := B) r 1 p hp
  have loop : ∀ (f : Nat) (t : pT) (w2 w3 : Option Value) (Sa : vs_S), t.1 = true → zX S Sa t → pOk L p t → 120 ≤ t.2.1 + f → pzL (pzR (pzO (ab L B) r) (ab L B) 1) (ab L B) 3 f t = (pzR (pzO (ab L B) r) (ab L B) 2 p) → vv_V g x 4 0 0 5 [some (vv_r g 65), some (.int (t.2.2.2 N)), w2, w3] [] (vs_cells g Sa) := by
    intro f
    induction f with
    | zero =>
      intro t w2 w3 Sa ht hS hq2 hb9 he
      have hL := hI.2.1
      have hb : bl (ab L B t.2.1) := ab_bl _ (by omega)
      refine vv_aload_n C dX12_sums_5 rfl ?_
      refine gf_X12_fault C dX12_sums_6 fg_X12_219 ?_
      refine vv_if_ge (tgt := 77) C dX12_sums_9 (by decide) (fun q9 => ?_) (fun q9 => ?_)
      · exact absurd q9 (nf_m1 (hS.2.2.1 ht).1)
      · skip
        refine vv_aload_n C dX12_sums_12 rfl ?_
        refine vs_caliF C dX12_sums_13 (c_X12_byteAt g Sa L B N (hI.fr hS.1) t.2.1 hq2.1 hS.2.1) mb_X12_byteAt mv_X12_byteAt lk_X12_222 ce_65 rfl rfl rfl rfl ⟨by omega, by omega, Nat.le_of_ble_eq_true rfl⟩ ?_
        refine vv_bipush C dX12_sums_16 bp_43 ?_
        refine vv_icmp_eq (tgt := 30) C dX12_sums_18 (by decide) (fun q18 => ?_) (fun q18 => ?_)
        · exact absurd q18 (bl_c hb (by unfold bl; decide))
        · skip
          refine vv_aload_n C dX12_sums_21 rfl ?_
          refine vs_caliF C dX12_sums_22 (c_X12_byteAt g Sa L B N (hI.fr hS.1) t.2.1 hq2.1 hS.2.1) mb_X12_byteAt mv_X12_byteAt lk_X12_222 ce_65 rfl rfl rfl rfl ⟨by omega, by omega, Nat.le_of_ble_eq_true rfl⟩ ?_
          refine vv_bipush C dX12_sums_25 bp_45 ?_
          refine vv_icmp_ne (tgt := 77) C dX12_sums_27 (by decide) (fun q27 => ?_) (fun q27 => ?_)
          · skip
            refine vv_iload_n C dX12_sums_77 rfl ?_
            exact vs_iret C F dX12_sums_78 rfl ⟨by rw [← he]; exact hS, fun _ => congrArg (fun t9 : pT => t9.2.2.2 N) he⟩
          · exact absurd q27 (bl_c hb (by unfold bl; decide))
    | succ f ih =>
      intro t w2 w3 Sa ht hS hq2 hb9 he
      have hL := hI.2.1
      have hq3 := hq2.2.2 ht
      rw [pzLS f] at he
      refine vv_aload_n C dX12_sums_5 rfl ?_
      refine gf_X12_fault C dX12_sums_6 fg_X12_219 ?_
      refine vv_if_ge (tgt := 77) C dX12_sums_9 (by decide) (fun q9 => ?_) (fun q9 => ?_)
      · exact absurd q9 (nf_m1 (hS.2.2.1 ht).1)
      · skip
        refine vv_aload_n C dX12_sums_12 rfl ?_
        refine vs_caliF C dX12_sums_13 (c_X12_byteAt g Sa L B N (hI.fr hS.1) t.2.1 hq2.1 hS.2.1) mb_X12_byteAt mv_X12_byteAt lk_X12_222 ce_65 rfl rfl rfl rfl ⟨by omega, by omega, Nat.le_of_ble_eq_true rfl⟩ ?_
        refine vv_bipush C dX12_sums_16 bp_43 ?_
        refine vv_icmp_eq (tgt := 30) C dX12_sums_18 (by decide) (fun q18 => ?_) (fun q18 => ?_)
        · have hk : tkR (ab L B t.2.1) = 3 := by rw [q18]; decide
          rw [if_pos hk] at he
          have hqL : t.2.1 < L := bl_nb ab_bl (tkR_nb (by omega) hk)
          refine vv_aload_n C dX12_sums_30 rfl ?_
          refine vs_caliF C dX12_sums_31 (c_X12_byteAt g Sa L B N (hI.fr hS.1) t.2.1 hq2.1 hS.2.1) mb_X12_byteAt mv_X12_byteAt lk_X12_222 ce_65 rfl rfl rfl rfl ⟨by omega, by omega, Nat.le_of_ble_eq_true rfl⟩ ?_
          refine vv_bipush C dX12_sums_34 bp_43 ?_
          refine vv_icmp_ne (tgt := 43) C dX12_sums_36 (by decide) (fun q36 => ?_) (fun q36 => ?_)
          · refine vv_iconst C dX12_sums_43 ic_0 ?_
            refine vw_istore_n (lv9 := [_, _, _, _]) C dX12_sums_44 (by decide) rfl rfl ?_
            refine vv_aload_n C dX12_sums_45 rfl ?_
            refine vv_dup C dX12_sums_46 rfl ?_
            refine gf_X12_at C dX12_sums_47 fg_X12_210 ?_
            refine vs_eqi (v9 := nI t.2.1) (hS.2.1) ?_
            refine vv_iconst C dX12_sums_50 ic_1 ?_
            refine vv_iadd C dX12_sums_51 ?_
            refine vs_eqi (v9 := nI (t.2.1 + 1)) (nI_1 _) ?_
            refine pf_X12_at C dX12_sums_52 fp_X12_210 ?_
            refine vv_aload_n C dX12_sums_55 rfl ?_
            refine vs_calli C dX12_sums_56 (hK (vs_us Sa 30 (nI (t.2.1 + 1))) L B N (hI.fr (hS.1.tr (vs_fr.rf.us (by decide)))) (t.2.1 + 1) hqL ⟨rfl, (hS.2.2.1 ht).1, ((hS.2.2.1 ht).2).trans hq.2.2⟩) mb_X12_product mv_X12_product lk_X12_238 ce_65 rfl rfl rfl rfl ⟨by omega, by omega, Nat.le_of_ble_eq_true rfl⟩ (fun r56 S56 p56 => ?_)
            refine vw_istore_n (lv9 := [_, _, _, _]) C dX12_sums_59 (by decide) rfl rfl ?_
            have hyo := pOk_M (B := B) r 1 (t.2.1 + 1) hqL
            by_cases hy : ((pzR (pzO (ab L B) r) (ab L B) 1) (t.2.1 + 1)).1 = true
            · rw [if_pos hy] at he
              have e9 := p56.2 hy
              subst e9
              have hyp := hyo.2.2 hy
              refine vv_iload_n C dX12_sums_60 rfl ?_
              refine vv_if_eq (tgt := 70) C dX12_sums_61 (by decide) (fun q61 => ?_) (fun q61 => ?_)
              · refine vv_iload_n C dX12_sums_70 rfl ?_
                refine vv_iload_n C dX12_sums_71 rfl ?_
                refine vv_isub C dX12_sums_72 ?_
                refine vs_eqi (v9 := tkV (ab L B t.2.1) (t.2.2.2 N) (((pzR (pzO (ab L B) r) (ab L B) 1) (t.2.1 + 1)).2.2.2 N)) (by first | exact absurd q61 (by decide) | exact absurd rfl q61 | exact absurd q18 q36 | exact absurd (q27.symm.trans q36) (by decide) | exact tkpl q18 | exact tkmi q27) ?_
                refine vw_istore_n (lv9 := [_, _, _, _]) C dX12_sums_73 (by decide) rfl rfl ?_
                refine vv_goto (tgt := 5) C dX12_sums_74 (by decide) ?_
                exact ih (true, ((pzR (pzO (ab L B) r) (ab L B) 1) (t.2.1 + 1)).2.1, t.2.2.1 ++ (((pzR (pzO (ab L B) r) (ab L B) 1) (t.2.1 + 1)).2.2.1 ++ [-(ab L B t.2.1)]), fun N => tkV (ab L B t.2.1) (t.2.2.2 N) (((pzR (pzO (ab L B) r) (ab L B) 1) (t.2.1 + 1)).2.2.2 N)) _ _ S56 rfl ⟨((hS.1.tr (vs_fr.rf.us (by decide))).tr p56.1.1), p56.1.2.1, fun _ => ⟨(p56.1.2.2.1 hy).1, (p56.1.2.2.1 hy).2.trans (hS.2.2.1 ht).2⟩, fun z => absurd rfl z⟩ ⟨hyo.1, by show p ≤ ((pzR (pzO (ab L B) r) (ab L B) 1) (t.2.1 + 1)).2.1; omega, fun _ => ⟨by
                    show p + (t.2.2.1 ++ (((pzR (pzO (ab L B) r) (ab L B) 1) (t.2.1 + 1)).2.2.1 ++ [-(ab L B t.2.1)])).length ≤ ((pzR (pzO (ab L B) r) (ab L B) 1) (t.2.1 + 1)).2.1
                    rw [List.length_append, List.length_append, List.length_singleton]
                    omega, by show p < ((pzR (pzO (ab L B) r) (ab L B) 1) (t.2.1 + 1)).2.1; omega⟩⟩ (by show 120 ≤ ((pzR (pzO (ab L B) r) (ab L B) 1) (t.2.1 + 1)).2.1 + f; omega) he
              · refine vv_iload_n C dX12_sums_64 rfl ?_
                refine vv_iload_n C dX12_sums_65 rfl ?_
                refine vv_iadd C dX12_sums_66 ?_
                refine vv_goto (tgt := 73) C dX12_sums_67 (by decide) ?_
                refine vs_eqi (v9 := tkV (ab L B t.2.1) (t.2.2.2 N) (((pzR (pzO (ab L B) r) (ab L B) 1) (t.2.1 + 1)).2.2.2 N)) (by first | exact absurd q61 (by decide) | exact absurd rfl q61 | exact absurd q18 q36 | exact absurd (q27.symm.trans q36) (by decide) | exact tkpl q18 | exact tkmi q27) ?_
                refine vw_istore_n (lv9 := [_, _, _, _]) C dX12_sums_73 (by decide) rfl rfl ?_
                refine vv_goto (tgt := 5) C dX12_sums_74 (by decide) ?_
                exact ih (true, ((pzR (pzO (ab L B) r) (ab L B) 1) (t.2.1 + 1)).2.1, t.2.2.1 ++ (((pzR (pzO (ab L B) r) (ab L B) 1) (t.2.1 + 1)).2.2.1 ++ [-(ab L B t.2.1)]), fun N => tkV (ab L B t.2.1) (t.2.2.2 N) (((pzR (pzO (ab L B) r) (ab L B) 1) (t.2.1 + 1)).2.2.2 N)) _ _ S56 rfl ⟨((hS.1.tr (vs_fr.rf.us (by decide))).tr p56.1.1), p56.1.2.1, fun _ => ⟨(p56.1.2.2.1 hy).1, (p56.1.2.2.1 hy).2.trans (hS.2.2.1 ht).2⟩, fun z => absurd rfl z⟩ ⟨hyo.1, by show p ≤ ((pzR (pzO (ab L B) r) (ab L B) 1) (t.2.1 + 1)).2.1; omega, fun _ => ⟨by
                    show p + (t.2.2.1 ++ (((pzR (pzO (ab L B) r) (ab L B) 1) (t.2.1 + 1)).2.2.1 ++ [-(ab L B t.2.1)])).length ≤ ((pzR (pzO (ab L B) r) (ab L B) 1) (t.2.1 + 1)).2.1
                    rw [List.length_append, List.length_append, List.length_singleton]
                    omega, by show p < ((pzR (pzO (ab L B) r) (ab L B) 1) (t.2.1 + 1)).2.1; omega⟩⟩ (by show 120 ≤ ((pzR (pzO (ab L B) r) (ab L B) 1) (t.2.1 + 1)).2.1 + f; omega) he
            · rw [if_neg hy] at he
              have h32 := p56.1.2.2.2 hy
              have hy31 : ((pzR (pzO (ab L B) r) (ab L B) 1) (t.2.1 + 1)).2.1 < 2 ^ 31 := by have := hyo.1; omega
              refine vv_iload_n C dX12_sums_60 rfl ?_
              refine vv_if_eq (tgt := 70) C dX12_sums_61 (by decide) (fun q61 => ?_) (fun q61 => ?_)
              · refine vv_iload_n C dX12_sums_70 rfl ?_
                refine vv_iload_n C dX12_sums_71 rfl ?_
                refine vv_isub C dX12_sums_72 ?_
                refine vw_istore_n (lv9 := [_, _, _, _]) C dX12_sums_73 (by decide) rfl rfl ?_
                refine vv_goto (tgt := 5) C dX12_sums_74 (by decide) ?_
                refine vv_aload_n C dX12_sums_5 rfl ?_
                refine gf_X12_fault C dX12_sums_6 fg_X12_219 ?_
                refine vv_if_ge (tgt := 77) C dX12_sums_9 (by decide) (fun q9 => ?_) (fun q9 => ?_)
                · skip
                  refine vv_iload_n C dX12_sums_77 rfl ?_
                  exact vs_iret C F dX12_sums_78 rfl ⟨by rw [← he]; exact ⟨((hS.1.tr (vs_fr.rf.us (by decide))).tr p56.1.1), p56.1.2.1, fun z => absurd (show false = true from z) (by decide), fun _ => h32⟩, fun z => by rw [← he] at z; cases z⟩
                · exact absurd (nf_ge hy31 h32) q9
              · refine vv_iload_n C dX12_sums_64 rfl ?_
                refine vv_iload_n C dX12_sums_65 rfl ?_
                refine vv_iadd C dX12_sums_66 ?_
                refine vv_goto (tgt := 73) C dX12_sums_67 (by decide) ?_
                refine vw_istore_n (lv9 := [_, _, _, _]) C dX12_sums_73 (by decide) rfl rfl ?_
                refine vv_goto (tgt := 5) C dX12_sums_74 (by decide) ?_
                refine vv_aload_n C dX12_sums_5 rfl ?_
                refine gf_X12_fault C dX12_sums_6 fg_X12_219 ?_
                refine vv_if_ge (tgt := 77) C dX12_sums_9 (by decide) (fun q9 => ?_) (fun q9 => ?_)
                · skip
                  refine vv_iload_n C dX12_sums_77 rfl ?_
                  exact vs_iret C F dX12_sums_78 rfl ⟨by rw [← he]; exact ⟨((hS.1.tr (vs_fr.rf.us (by decide))).tr p56.1.1), p56.1.2.1, fun z => absurd (show false = true from z) (by decide), fun _ => h32⟩, fun z => by rw [← he] at z; cases z⟩
                · exact absurd (nf_ge hy31 h32) q9
          · refine vv_iconst C dX12_sums_39 ic_1 ?_
            refine vv_goto (tgt := 44) C dX12_sums_40 (by decide) ?_
            refine vw_istore_n (lv9 := [_, _, _, _]) C dX12_sums_44 (by decide) rfl rfl ?_
            refine vv_aload_n C dX12_sums_45 rfl ?_
            refine vv_dup C dX12_sums_46 rfl ?_
            refine gf_X12_at C dX12_sums_47 fg_X12_210 ?_
            refine vs_eqi (v9 := nI t.2.1) (hS.2.1) ?_
            refine vv_iconst C dX12_sums_50 ic_1 ?_
            refine vv_iadd C dX12_sums_51 ?_
            refine vs_eqi (v9 := nI (t.2.1 + 1)) (nI_1 _) ?_
            refine pf_X12_at C dX12_sums_52 fp_X12_210 ?_
            refine vv_aload_n C dX12_sums_55 rfl ?_
            refine vs_calli C dX12_sums_56 (hK (vs_us Sa 30 (nI (t.2.1 + 1))) L B N (hI.fr (hS.1.tr (vs_fr.rf.us (by decide)))) (t.2.1 + 1) hqL ⟨rfl, (hS.2.2.1 ht).1, ((hS.2.2.1 ht).2).trans hq.2.2⟩) mb_X12_product mv_X12_product lk_X12_238 ce_65 rfl rfl rfl rfl ⟨by omega, by omega, Nat.le_of_ble_eq_true rfl⟩ (fun r56 S56 p56 => ?_)
            refine vw_istore_n (lv9 := [_, _, _, _]) C dX12_sums_59 (by decide) rfl rfl ?_
            have hyo := pOk_M (B := B) r 1 (t.2.1 + 1) hqL
            by_cases hy : ((pzR (pzO (ab L B) r) (ab L B) 1) (t.2.1 + 1)).1 = true
            · rw [if_pos hy] at he
              have e9 := p56.2 hy
              subst e9
              have hyp := hyo.2.2 hy
              refine vv_iload_n C dX12_sums_60 rfl ?_
              refine vv_if_eq (tgt := 70) C dX12_sums_61 (by decide) (fun q61 => ?_) (fun q61 => ?_)
              · refine vv_iload_n C dX12_sums_70 rfl ?_
                refine vv_iload_n C dX12_sums_71 rfl ?_
                refine vv_isub C dX12_sums_72 ?_
                refine vs_eqi (v9 := tkV (ab L B t.2.1) (t.2.2.2 N) (((pzR (pzO (ab L B) r) (ab L B) 1) (t.2.1 + 1)).2.2.2 N)) (by first | exact absurd q61 (by decide) | exact absurd rfl q61 | exact absurd q18 q36 | exact absurd (q27.symm.trans q36) (by decide) | exact tkpl q18 | exact tkmi q27) ?_
                refine vw_istore_n (lv9 := [_, _, _, _]) C dX12_sums_73 (by decide) rfl rfl ?_
                refine vv_goto (tgt := 5) C dX12_sums_74 (by decide) ?_
                exact ih (true, ((pzR (pzO (ab L B) r) (ab L B) 1) (t.2.1 + 1)).2.1, t.2.2.1 ++ (((pzR (pzO (ab L B) r) (ab L B) 1) (t.2.1 + 1)).2.2.1 ++ [-(ab L B t.2.1)]), fun N => tkV (ab L B t.2.1) (t.2.2.2 N) (((pzR (pzO (ab L B) r) (ab L B) 1) (t.2.1 + 1)).2.2.2 N)) _ _ S56 rfl ⟨((hS.1.tr (vs_fr.rf.us (by decide))).tr p56.1.1), p56.1.2.1, fun _ => ⟨(p56.1.2.2.1 hy).1, (p56.1.2.2.1 hy).2.trans (hS.2.2.1 ht).2⟩, fun z => absurd rfl z⟩ ⟨hyo.1, by show p ≤ ((pzR (pzO (ab L B) r) (ab L B) 1) (t.2.1 + 1)).2.1; omega, fun _ => ⟨by
                    show p + (t.2.2.1 ++ (((pzR (pzO (ab L B) r) (ab L B) 1) (t.2.1 + 1)).2.2.1 ++ [-(ab L B t.2.1)])).length ≤ ((pzR (pzO (ab L B) r) (ab L B) 1) (t.2.1 + 1)).2.1
                    rw [List.length_append, List.length_append, List.length_singleton]
                    omega, by show p < ((pzR (pzO (ab L B) r) (ab L B) 1) (t.2.1 + 1)).2.1; omega⟩⟩ (by show 120 ≤ ((pzR (pzO (ab L B) r) (ab L B) 1) (t.2.1 + 1)).2.1 + f; omega) he
              · refine vv_iload_n C dX12_sums_64 rfl ?_
                refine vv_iload_n C dX12_sums_65 rfl ?_
                refine vv_iadd C dX12_sums_66 ?_
                refine vv_goto (tgt := 73) C dX12_sums_67 (by decide) ?_
                refine vs_eqi (v9 := tkV (ab L B t.2.1) (t.2.2.2 N) (((pzR (pzO (ab L B) r) (ab L B) 1) (t.2.1 + 1)).2.2.2 N)) (by first | exact absurd q61 (by decide) | exact absurd rfl q61 | exact absurd q18 q36 | exact absurd (q27.symm.trans q36) (by decide) | exact tkpl q18 | exact tkmi q27) ?_
                refine vw_istore_n (lv9 := [_, _, _, _]) C dX12_sums_73 (by decide) rfl rfl ?_
                refine vv_goto (tgt := 5) C dX12_sums_74 (by decide) ?_
                exact ih (true, ((pzR (pzO (ab L B) r) (ab L B) 1) (t.2.1 + 1)).2.1, t.2.2.1 ++ (((pzR (pzO (ab L B) r) (ab L B) 1) (t.2.1 + 1)).2.2.1 ++ [-(ab L B t.2.1)]), fun N => tkV (ab L B t.2.1) (t.2.2.2 N) (((pzR (pzO (ab L B) r) (ab L B) 1) (t.2.1 + 1)).2.2.2 N)) _ _ S56 rfl ⟨((hS.1.tr (vs_fr.rf.us (by decide))).tr p56.1.1), p56.1.2.1, fun _ => ⟨(p56.1.2.2.1 hy).1, (p56.1.2.2.1 hy).2.trans (hS.2.2.1 ht).2⟩, fun z => absurd rfl z⟩ ⟨hyo.1, by show p ≤ ((pzR (pzO (ab L B) r) (ab L B) 1) (t.2.1 + 1)).2.1; omega, fun _ => ⟨by
                    show p + (t.2.2.1 ++ (((pzR (pzO (ab L B) r) (ab L B) 1) (t.2.1 + 1)).2.2.1 ++ [-(ab L B t.2.1)])).length ≤ ((pzR (pzO (ab L B) r) (ab L B) 1) (t.2.1 + 1)).2.1
                    rw [List.length_append, List.length_append, List.length_singleton]
                    omega, by show p < ((pzR (pzO (ab L B) r) (ab L B) 1) (t.2.1 + 1)).2.1; omega⟩⟩ (by show 120 ≤ ((pzR (pzO (ab L B) r) (ab L B) 1) (t.2.1 + 1)).2.1 + f; omega) he
            · rw [if_neg hy] at he
              have h32 := p56.1.2.2.2 hy
              have hy31 : ((pzR (pzO (ab L B) r) (ab L B) 1) (t.2.1 + 1)).2.1 < 2 ^ 31 := by have := hyo.1; omega
              refine vv_iload_n C dX12_sums_60 rfl ?_
              refine vv_if_eq (tgt := 70) C dX12_sums_61 (by decide) (fun q61 => ?_) (fun q61 => ?_)
              · refine vv_iload_n C dX12_sums_70 rfl ?_
                refine vv_iload_n C dX12_sums_71 rfl ?_
                refine vv_isub C dX12_sums_72 ?_
                refine vw_istore_n (lv9 := [_, _, _, _]) C dX12_sums_73 (by decide) rfl rfl ?_
                refine vv_goto (tgt := 5) C dX12_sums_74 (by decide) ?_
                refine vv_aload_n C dX12_sums_5 rfl ?_
                refine gf_X12_fault C dX12_sums_6 fg_X12_219 ?_
                refine vv_if_ge (tgt := 77) C dX12_sums_9 (by decide) (fun q9 => ?_) (fun q9 => ?_)
                · skip
                  refine vv_iload_n C dX12_sums_77 rfl ?_
                  exact vs_iret C F dX12_sums_78 rfl ⟨by rw [← he]; exact ⟨((hS.1.tr (vs_fr.rf.us (by decide))).tr p56.1.1), p56.1.2.1, fun z => absurd (show false = true from z) (by decide), fun _ => h32⟩, fun z => by rw [← he] at z; cases z⟩
                · exact absurd (nf_ge hy31 h32) q9
              · refine vv_iload_n C dX12_sums_64 rfl ?_
                refine vv_iload_n C dX12_sums_65 rfl ?_
                refine vv_iadd C dX12_sums_66 ?_
                refine vv_goto (tgt := 73) C dX12_sums_67 (by decide) ?_
                refine vw_istore_n (lv9 := [_, _, _, _]) C dX12_sums_73 (by decide) rfl rfl ?_
                refine vv_goto (tgt := 5) C dX12_sums_74 (by decide) ?_
                refine vv_aload_n C dX12_sums_5 rfl ?_
                refine gf_X12_fault C dX12_sums_6 fg_X12_219 ?_
                refine vv_if_ge (tgt := 77) C dX12_sums_9 (by decide) (fun q9 => ?_) (fun q9 => ?_)
                · skip
                  refine vv_iload_n C dX12_sums_77 rfl ?_
                  exact vs_iret C F dX12_sums_78 rfl ⟨by rw [← he]; exact ⟨((hS.1.tr (vs_fr.rf.us (by decide))).tr p56.1.1), p56.1.2.1, fun z => absurd (show false = true from z) (by decide), fun _ => h32⟩, fun z => by rw [← he] at z; cases z⟩
                · exact absurd (nf_ge hy31 h32) q9
        · skip
          refine vv_aload_n C dX12_sums_21 rfl ?_
          refine vs_caliF C dX12_sums_22 (c_X12_byteAt g Sa L B N (hI.fr hS.1) t.2.1 hq2.1 hS.2.1) mb_X12_byteAt mv_X12_byteAt lk_X12_222 ce_65 rfl rfl rfl rfl ⟨by omega, by omega, Nat.le_of_ble_eq_true rfl⟩ ?_
          refine vv_bipush C dX12_sums_25 bp_45 ?_
          refine vv_icmp_ne (tgt := 77) C dX12_sums_27 (by decide) (fun q27 => ?_) (fun q27 => ?_)
          · have hne : ¬ tkR (ab L B t.2.1) = 3 := fun z => (tk3 z).elim q18 q27
            rw [if_neg hne] at he
            refine vv_iload_n C dX12_sums_77 rfl ?_
            exact vs_iret C F dX12_sums_78 rfl ⟨by rw [← he]; exact hS, fun _ => congrArg (fun t9 : pT => t9.2.2.2 N) he⟩
          · have hk : tkR (ab L B t.2.1) = 3 := by rw [q27]; decide
            rw [if_pos hk] at he
            have hqL : t.2.1 < L := bl_nb ab_bl (tkR_nb (by omega) hk)
            refine vv_aload_n C dX12_sums_30 rfl ?_
            refine vs_caliF C dX12_sums_31 (c_X12_byteAt g Sa L B N (hI.fr hS.1) t.2.1 hq2.1 hS.2.1) mb_X12_byteAt mv_X12_byteAt lk_X12_222 ce_65 rfl rfl rfl rfl ⟨by omega, by omega, Nat.le_of_ble_eq_true rfl⟩ ?_
            refine vv_bipush C dX12_sums_34 bp_43 ?_
            refine vv_icmp_ne (tgt := 43) C dX12_sums_36 (by decide) (fun q36 => ?_) (fun q36 => ?_)
            · refine vv_iconst C dX12_sums_43 ic_0 ?_
              refine vw_istore_n (lv9 := [_, _, _, _]) C dX12_sums_44 (by decide) rfl rfl ?_
              refine vv_aload_n C dX12_sums_45 rfl ?_
              refine vv_dup C dX12_sums_46 rfl ?_
              refine gf_X12_at C dX12_sums_47 fg_X12_210 ?_
              refine vs_eqi (v9 := nI t.2.1) (hS.2.1) ?_
              refine vv_iconst C dX12_sums_50 ic_1 ?_
              refine vv_iadd C dX12_sums_51 ?_
              refine vs_eqi (v9 := nI (t.2.1 + 1)) (nI_1 _) ?_
              refine pf_X12_at C dX12_sums_52 fp_X12_210 ?_
              refine vv_aload_n C dX12_sums_55 rfl ?_
              refine vs_calli C dX12_sums_56 (hK (vs_us Sa 30 (nI (t.2.1 + 1))) L B N (hI.fr (hS.1.tr (vs_fr.rf.us (by decide)))) (t.2.1 + 1) hqL ⟨rfl, (hS.2.2.1 ht).1, ((hS.2.2.1 ht).2).trans hq.2.2⟩) mb_X12_product mv_X12_product lk_X12_238 ce_65 rfl rfl rfl rfl ⟨by omega, by omega, Nat.le_of_ble_eq_true rfl⟩ (fun r56 S56 p56 => ?_)
              refine vw_istore_n (lv9 := [_, _, _, _]) C dX12_sums_59 (by decide) rfl rfl ?_
              have hyo := pOk_M (B := B) r 1 (t.2.1 + 1) hqL
              by_cases hy : ((pzR (pzO (ab L B) r) (ab L B) 1) (t.2.1 + 1)).1 = true
              · rw [if_pos hy] at he
                have e9 := p56.2 hy
                subst e9
                have hyp := hyo.2.2 hy
                refine vv_iload_n C dX12_sums_60 rfl ?_
                refine vv_if_eq (tgt := 70) C dX12_sums_61 (by decide) (fun q61 => ?_) (fun q61 => ?_)
                · refine vv_iload_n C dX12_sums_70 rfl ?_
                  refine vv_iload_n C dX12_sums_71 rfl ?_
                  refine vv_isub C dX12_sums_72 ?_
                  refine vs_eqi (v9 := tkV (ab L B t.2.1) (t.2.2.2 N) (((pzR (pzO (ab L B) r) (ab L B) 1) (t.2.1 + 1)).2.2.2 N)) (by first | exact absurd q61 (by decide) | exact absurd rfl q61 | exact absurd q18 q36 | exact absurd (q27.symm.trans q36) (by decide) | exact tkpl q18 | exact tkmi q27) ?_
                  refine vw_istore_n (lv9 := [_, _, _, _]) C dX12_sums_73 (by decide) rfl rfl ?_
                  refine vv_goto (tgt := 5) C dX12_sums_74 (by decide) ?_
                  exact ih (true, ((pzR (pzO (ab L B) r) (ab L B) 1) (t.2.1 + 1)).2.1, t.2.2.1 ++ (((pzR (pzO (ab L B) r) (ab L B) 1) (t.2.1 + 1)).2.2.1 ++ [-(ab L B t.2.1)]), fun N => tkV (ab L B t.2.1) (t.2.2.2 N) (((pzR (pzO (ab L B) r) (ab L B) 1) (t.2.1 + 1)).2.2.2 N)) _ _ S56 rfl ⟨((hS.1.tr (vs_fr.rf.us (by decide))).tr p56.1.1), p56.1.2.1, fun _ => ⟨(p56.1.2.2.1 hy).1, (p56.1.2.2.1 hy).2.trans (hS.2.2.1 ht).2⟩, fun z => absurd rfl z⟩ ⟨hyo.1, by show p ≤ ((pzR (pzO (ab L B) r) (ab L B) 1) (t.2.1 + 1)).2.1; omega, fun _ => ⟨by
                      show p + (t.2.2.1 ++ (((pzR (pzO (ab L B) r) (ab L B) 1) (t.2.1 + 1)).2.2.1 ++ [-(ab L B t.2.1)])).length ≤ ((pzR (pzO (ab L B) r) (ab L B) 1) (t.2.1 + 1)).2.1
                      rw [List.length_append, List.length_append, List.length_singleton]
                      omega, by show p < ((pzR (pzO (ab L B) r) (ab L B) 1) (t.2.1 + 1)).2.1; omega⟩⟩ (by show 120 ≤ ((pzR (pzO (ab L B) r) (ab L B) 1) (t.2.1 + 1)).2.1 + f; omega) he
                · refine vv_iload_n C dX12_sums_64 rfl ?_
                  refine vv_iload_n C dX12_sums_65 rfl ?_
                  refine vv_iadd C dX12_sums_66 ?_
                  refine vv_goto (tgt := 73) C dX12_sums_67 (by decide) ?_
                  refine vs_eqi (v9 := tkV (ab L B t.2.1) (t.2.2.2 N) (((pzR (pzO (ab L B) r) (ab L B) 1) (t.2.1 + 1)).2.2.2 N)) (by first | exact absurd q61 (by decide) | exact absurd rfl q61 | exact absurd q18 q36 | exact absurd (q27.symm.trans q36) (by decide) | exact tkpl q18 | exact tkmi q27) ?_
                  refine vw_istore_n (lv9 := [_, _, _, _]) C dX12_sums_73 (by decide) rfl rfl ?_
                  refine vv_goto (tgt := 5) C dX12_sums_74 (by decide) ?_
                  exact ih (true, ((pzR (pzO (ab L B) r) (ab L B) 1) (t.2.1 + 1)).2.1, t.2.2.1 ++ (((pzR (pzO (ab L B) r) (ab L B) 1) (t.2.1 + 1)).2.2.1 ++ [-(ab L B t.2.1)]), fun N => tkV (ab L B t.2.1) (t.2.2.2 N) (((pzR (pzO (ab L B) r) (ab L B) 1) (t.2.1 + 1)).2.2.2 N)) _ _ S56 rfl ⟨((hS.1.tr (vs_fr.rf.us (by decide))).tr p56.1.1), p56.1.2.1, fun _ => ⟨(p56.1.2.2.1 hy).1, (p56.1.2.2.1 hy).2.trans (hS.2.2.1 ht).2⟩, fun z => absurd rfl z⟩ ⟨hyo.1, by show p ≤ ((pzR (pzO (ab L B) r) (ab L B) 1) (t.2.1 + 1)).2.1; omega, fun _ => ⟨by
                      show p + (t.2.2.1 ++ (((pzR (pzO (ab L B) r) (ab L B) 1) (t.2.1 + 1)).2.2.1 ++ [-(ab L B t.2.1)])).length ≤ ((pzR (pzO (ab L B) r) (ab L B) 1) (t.2.1 + 1)).2.1
                      rw [List.length_append, List.length_append, List.length_singleton]
                      omega, by show p < ((pzR (pzO (ab L B) r) (ab L B) 1) (t.2.1 + 1)).2.1; omega⟩⟩ (by show 120 ≤ ((pzR (pzO (ab L B) r) (ab L B) 1) (t.2.1 + 1)).2.1 + f; omega) he
              · rw [if_neg hy] at he
                have h32 := p56.1.2.2.2 hy
                have hy31 : ((pzR (pzO (ab L B) r) (ab L B) 1) (t.2.1 + 1)).2.1 < 2 ^ 31 := by have := hyo.1; omega
                refine vv_iload_n C dX12_sums_60 rfl ?_
                refine vv_if_eq (tgt := 70) C dX12_sums_61 (by decide) (fun q61 => ?_) (fun q61 => ?_)
                · refine vv_iload_n C dX12_sums_70 rfl ?_
                  refine vv_iload_n C dX12_sums_71 rfl ?_
                  refine vv_isub C dX12_sums_72 ?_
                  refine vw_istore_n (lv9 := [_, _, _, _]) C dX12_sums_73 (by decide) rfl rfl ?_
                  refine vv_goto (tgt := 5) C dX12_sums_74 (by decide) ?_
                  refine vv_aload_n C dX12_sums_5 rfl ?_
                  refine gf_X12_fault C dX12_sums_6 fg_X12_219 ?_
                  refine vv_if_ge (tgt := 77) C dX12_sums_9 (by decide) (fun q9 => ?_) (fun q9 => ?_)
                  · skip
                    refine vv_iload_n C dX12_sums_77 rfl ?_
                    exact vs_iret C F dX12_sums_78 rfl ⟨by rw [← he]; exact ⟨((hS.1.tr (vs_fr.rf.us (by decide))).tr p56.1.1), p56.1.2.1, fun z => absurd (show false = true from z) (by decide), fun _ => h32⟩, fun z => by rw [← he] at z; cases z⟩
                  · exact absurd (nf_ge hy31 h32) q9
                · refine vv_iload_n C dX12_sums_64 rfl ?_
                  refine vv_iload_n C dX12_sums_65 rfl ?_
                  refine vv_iadd C dX12_sums_66 ?_
                  refine vv_goto (tgt := 73) C dX12_sums_67 (by decide) ?_
                  refine vw_istore_n (lv9 := [_, _, _, _]) C dX12_sums_73 (by decide) rfl rfl ?_
                  refine vv_goto (tgt := 5) C dX12_sums_74 (by decide) ?_
                  refine vv_aload_n C dX12_sums_5 rfl ?_
                  refine gf_X12_fault C dX12_sums_6 fg_X12_219 ?_
                  refine vv_if_ge (tgt := 77) C dX12_sums_9 (by decide) (fun q9 => ?_) (fun q9 => ?_)
                  · skip
                    refine vv_iload_n C dX12_sums_77 rfl ?_
                    exact vs_iret C F dX12_sums_78 rfl ⟨by rw [← he]; exact ⟨((hS.1.tr (vs_fr.rf.us (by decide))).tr p56.1.1), p56.1.2.1, fun z => absurd (show false = true from z) (by decide), fun _ => h32⟩, fun z => by rw [← he] at z; cases z⟩
                  · exact absurd (nf_ge hy31 h32) q9
            · refine vv_iconst C dX12_sums_39 ic_1 ?_
              refine vv_goto (tgt := 44) C dX12_sums_40 (by decide) ?_
              refine vw_istore_n (lv9 := [_, _, _, _]) C dX12_sums_44 (by decide) rfl rfl ?_
              refine vv_aload_n C dX12_sums_45 rfl ?_
              refine vv_dup C dX12_sums_46 rfl ?_
              refine gf_X12_at C dX12_sums_47 fg_X12_210 ?_
              refine vs_eqi (v9 := nI t.2.1) (hS.2.1) ?_
              refine vv_iconst C dX12_sums_50 ic_1 ?_
              refine vv_iadd C dX12_sums_51 ?_
              refine vs_eqi (v9 := nI (t.2.1 + 1)) (nI_1 _) ?_
              refine pf_X12_at C dX12_sums_52 fp_X12_210 ?_
              refine vv_aload_n C dX12_sums_55 rfl ?_
              refine vs_calli C dX12_sums_56 (hK (vs_us Sa 30 (nI (t.2.1 + 1))) L B N (hI.fr (hS.1.tr (vs_fr.rf.us (by decide)))) (t.2.1 + 1) hqL ⟨rfl, (hS.2.2.1 ht).1, ((hS.2.2.1 ht).2).trans hq.2.2⟩) mb_X12_product mv_X12_product lk_X12_238 ce_65 rfl rfl rfl rfl ⟨by omega, by omega, Nat.le_of_ble_eq_true rfl⟩ (fun r56 S56 p56 => ?_)
              refine vw_istore_n (lv9 := [_, _, _, _]) C dX12_sums_59 (by decide) rfl rfl ?_
              have hyo := pOk_M (B := B) r 1 (t.2.1 + 1) hqL
              by_cases hy : ((pzR (pzO (ab L B) r) (ab L B) 1) (t.2.1 + 1)).1 = true
              · rw [if_pos hy] at he
                have e9 := p56.2 hy
                subst e9
                have hyp := hyo.2.2 hy
                refine vv_iload_n C dX12_sums_60 rfl ?_
                refine vv_if_eq (tgt := 70) C dX12_sums_61 (by decide) (fun q61 => ?_) (fun q61 => ?_)
                · refine vv_iload_n C dX12_sums_70 rfl ?_
                  refine vv_iload_n C dX12_sums_71 rfl ?_
                  refine vv_isub C dX12_sums_72 ?_
                  refine vs_eqi (v9 := tkV (ab L B t.2.1) (t.2.2.2 N) (((pzR (pzO (ab L B) r) (ab L B) 1) (t.2.1 + 1)).2.2.2 N)) (by first | exact absurd q61 (by decide) | exact absurd rfl q61 | exact absurd q18 q36 | exact absurd (q27.symm.trans q36) (by decide) | exact tkpl q18 | exact tkmi q27) ?_
                  refine vw_istore_n (lv9 := [_, _, _, _]) C dX12_sums_73 (by decide) rfl rfl ?_
                  refine vv_goto (tgt := 5) C dX12_sums_74 (by decide) ?_
                  exact ih (true, ((pzR (pzO (ab L B) r) (ab L B) 1) (t.2.1 + 1)).2.1, t.2.2.1 ++ (((pzR (pzO (ab L B) r) (ab L B) 1) (t.2.1 + 1)).2.2.1 ++ [-(ab L B t.2.1)]), fun N => tkV (ab L B t.2.1) (t.2.2.2 N) (((pzR (pzO (ab L B) r) (ab L B) 1) (t.2.1 + 1)).2.2.2 N)) _ _ S56 rfl ⟨((hS.1.tr (vs_fr.rf.us (by decide))).tr p56.1.1), p56.1.2.1, fun _ => ⟨(p56.1.2.2.1 hy).1, (p56.1.2.2.1 hy).2.trans (hS.2.2.1 ht).2⟩, fun z => absurd rfl z⟩ ⟨hyo.1, by show p ≤ ((pzR (pzO (ab L B) r) (ab L B) 1) (t.2.1 + 1)).2.1; omega, fun _ => ⟨by
                      show p + (t.2.2.1 ++ (((pzR (pzO (ab L B) r) (ab L B) 1) (t.2.1 + 1)).2.2.1 ++ [-(ab L B t.2.1)])).length ≤ ((pzR (pzO (ab L B) r) (ab L B) 1) (t.2.1 + 1)).2.1
                      rw [List.length_append, List.length_append, List.length_singleton]
                      omega, by show p < ((pzR (pzO (ab L B) r) (ab L B) 1) (t.2.1 + 1)).2.1; omega⟩⟩ (by show 120 ≤ ((pzR (pzO (ab L B) r) (ab L B) 1) (t.2.1 + 1)).2.1 + f; omega) he
                · refine vv_iload_n C dX12_sums_64 rfl ?_
                  refine vv_iload_n C dX12_sums_65 rfl ?_
                  refine vv_iadd C dX12_sums_66 ?_
                  refine vv_goto (tgt := 73) C dX12_sums_67 (by decide) ?_
                  refine vs_eqi (v9 := tkV (ab L B t.2.1) (t.2.2.2 N) (((pzR (pzO (ab L B) r) (ab L B) 1) (t.2.1 + 1)).2.2.2 N)) (by first | exact absurd q61 (by decide) | exact absurd rfl q61 | exact absurd q18 q36 | exact absurd (q27.symm.trans q36) (by decide) | exact tkpl q18 | exact tkmi q27) ?_
                  refine vw_istore_n (lv9 := [_, _, _, _]) C dX12_sums_73 (by decide) rfl rfl ?_
                  refine vv_goto (tgt := 5) C dX12_sums_74 (by decide) ?_
                  exact ih (true, ((pzR (pzO (ab L B) r) (ab L B) 1) (t.2.1 + 1)).2.1, t.2.2.1 ++ (((pzR (pzO (ab L B) r) (ab L B) 1) (t.2.1 + 1)).2.2.1 ++ [-(ab L B t.2.1)]), fun N => tkV (ab L B t.2.1) (t.2.2.2 N) (((pzR (pzO (ab L B) r) (ab L B) 1) (t.2.1 + 1)).2.2.2 N)) _ _ S56 rfl ⟨((hS.1.tr (vs_fr.rf.us (by decide))).tr p56.1.1), p56.1.2.1, fun _ => ⟨(p56.1.2.2.1 hy).1, (p56.1.2.2.1 hy).2.trans (hS.2.2.1 ht).2⟩, fun z => absurd rfl z⟩ ⟨hyo.1, by show p ≤ ((pzR (pzO (ab L B) r) (ab L B) 1) (t.2.1 + 1)).2.1; omega, fun _ => ⟨by
                      show p + (t.2.2.1 ++ (((pzR (pzO (ab L B) r) (ab L B) 1) (t.2.1 + 1)).2.2.1 ++ [-(ab L B t.2.1)])).length ≤ ((pzR (pzO (ab L B) r) (ab L B) 1) (t.2.1 + 1)).2.1
                      rw [List.length_append, List.length_append, List.length_singleton]
                      omega, by show p < ((pzR (pzO (ab L B) r) (ab L B) 1) (t.2.1 + 1)).2.1; omega⟩⟩ (by show 120 ≤ ((pzR (pzO (ab L B) r) (ab L B) 1) (t.2.1 + 1)).2.1 + f; omega) he
              · rw [if_neg hy] at he
                have h32 := p56.1.2.2.2 hy
                have hy31 : ((pzR (pzO (ab L B) r) (ab L B) 1) (t.2.1 + 1)).2.1 < 2 ^ 31 := by have := hyo.1; omega
                refine vv_iload_n C dX12_sums_60 rfl ?_
                refine vv_if_eq (tgt := 70) C dX12_sums_61 (by decide) (fun q61 => ?_) (fun q61 => ?_)
                · refine vv_iload_n C dX12_sums_70 rfl ?_
                  refine vv_iload_n C dX12_sums_71 rfl ?_
                  refine vv_isub C dX12_sums_72 ?_
                  refine vw_istore_n (lv9 := [_, _, _, _]) C dX12_sums_73 (by decide) rfl rfl ?_
                  refine vv_goto (tgt := 5) C dX12_sums_74 (by decide) ?_
                  refine vv_aload_n C dX12_sums_5 rfl ?_
                  refine gf_X12_fault C dX12_sums_6 fg_X12_219 ?_
                  refine vv_if_ge (tgt := 77) C dX12_sums_9 (by decide) (fun q9 => ?_) (fun q9 => ?_)
                  · skip
                    refine vv_iload_n C dX12_sums_77 rfl ?_
                    exact vs_iret C F dX12_sums_78 rfl ⟨by rw [← he]; exact ⟨((hS.1.tr (vs_fr.rf.us (by decide))).tr p56.1.1), p56.1.2.1, fun z => absurd (show false = true from z) (by decide), fun _ => h32⟩, fun z => by rw [← he] at z; cases z⟩
                  · exact absurd (nf_ge hy31 h32) q9
                · refine vv_iload_n C dX12_sums_64 rfl ?_
                  refine vv_iload_n C dX12_sums_65 rfl ?_
                  refine vv_iadd C dX12_sums_66 ?_
                  refine vv_goto (tgt := 73) C dX12_sums_67 (by decide) ?_
                  refine vw_istore_n (lv9 := [_, _, _, _]) C dX12_sums_73 (by decide) rfl rfl ?_
                  refine vv_goto (tgt := 5) C dX12_sums_74 (by decide) ?_
                  refine vv_aload_n C dX12_sums_5 rfl ?_
                  refine gf_X12_fault C dX12_sums_6 fg_X12_219 ?_
                  refine vv_if_ge (tgt := 77) C dX12_sums_9 (by decide) (fun q9 => ?_) (fun q9 => ?_)
                  · skip
                    refine vv_iload_n C dX12_sums_77 rfl ?_
                    exact vs_iret C F dX12_sums_78 rfl ⟨by rw [← he]; exact ⟨((hS.1.tr (vs_fr.rf.us (by decide))).tr p56.1.1), p56.1.2.1, fun z => absurd (show false = true from z) (by decide), fun _ => h32⟩, fun z => by rw [← he] at z; cases z⟩
                  · exact absurd (nf_ge hy31 h32) q9
  by_cases ht0 : ((pzR (pzO (ab L B) r) (ab L B) 1) p).1 = true
  · have e9 := p1.2 ht0
    subst e9
    refine vw_istore_n (lv9 := [_, _, _, _]) C dX12_sums_4 (by decide) rfl rfl ?_
    exact loop 120 ((pzR (pzO (ab L B) r) (ab L B) 1) p) _ _ S1 ht0 p1.1 hpo (by omega) (by show _ = if ((pzR (pzO (ab L B) r) (ab L B) 1) p).1 = true then _ else _; rw [if_pos ht0]; rfl)
  · have h32 := p1.1.2.2.2 ht0
    have hy31 : ((pzR (pzO (ab L B) r) (ab L B) 1) p).2.1 < 2 ^ 31 := by have := hpo.1; omega
    have hfin : (pzR (pzO (ab L B) r) (ab L B) 2 p) = pF ((pzR (pzO (ab L B) r) (ab L B) 1) p).2.1 := if_neg ht0
    refine vw_istore_n (lv9 := [_, _, _, _]) C dX12_sums_4 (by decide) rfl rfl ?_
    refine vv_aload_n C dX12_sums_5 rfl ?_
    refine gf_X12_fault C dX12_sums_6 fg_X12_219 ?_
    refine vv_if_ge (tgt := 77) C dX12_sums_9 (by decide) (fun q9 => ?_) (fun q9 => ?_)
    · skip
      refine vv_iload_n C dX12_sums_77 rfl ?_
      exact vs_iret C F dX12_sums_78 rfl ⟨by rw [hfin]; exact ⟨p1.1.1, p1.1.2.1, fun z => absurd (show false = true from z) (by decide), fun _ => h32⟩, fun z => by rw [hfin] at z; cases z⟩
    · exact absurd (nf_ge hy31 h32) q9
