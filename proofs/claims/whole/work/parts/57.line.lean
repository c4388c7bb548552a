theorem pzT0 {tb : Nat → Int32} {p : Nat} (h : (pzI tb p).1 = true) : pzT tb 0 p = pz5 (pzI tb p) := if_pos h
theorem pzT0n {tb : Nat → Int32} {p : Nat} (h : ¬ (pzI tb p).1 = true) : pzT tb 0 p = pF (pzI tb p).2.1 := if_neg h
set_option maxRecDepth 20000 in
theorem c_X6_readLine (g : vv_G) (S : vs_S) (L : Nat) (B : Nat → Int32) (hT : tp S L B) (p : Nat) (hp : p ≤ L) (c : List Int32) (hr : rX S p c) : vs_KV g yX6_readLine cX6_readLine 1 none 58 [vv_r g 48] S (fun S1 => pX S S1 c (pzT (ah L B) 0 p)) := by
  have hL := hT.2.1
  have hcl := hr.2.2.2
  refine vs_ofV (lv := [_]) mb_X6_readLine (Nat.le_of_ble_eq_true rfl) rfl (fun x C F => ?_)
  refine vv_aload_n C dX6_readLine_0 rfl ?_
  refine vv_iconst C dX6_readLine_1 ic_0 ?_
  refine vv_iconst C dX6_readLine_2 ic_0 ?_
  refine vs_callv C dX6_readLine_3 (c_X6_expr g S L B hT p hp c hr) mb_X6_readRank mv_X6_readRank lk_X6_38 ce_48 rfl rfl rfl rfl ⟨by omega, by omega, Nat.le_of_ble_eq_true rfl⟩ (fun S3 p3 => ?_)
  have hpo := pOk_E (ah_bl (L := L) (B := B)) p hp
  by_cases ht : (pzE (ah L B) p).1 = true
  · have hpt := hpo.2.2 ht
    have hlenT : (c ++ (pzE (ah L B) p).2.2.1).length ≤ 120 := by rw [List.length_append]; have := hpo.1; omega
    by_cases hq : ah L B (pzE (ah L B) p).2.1 = 63
    · have hqL : (pzE (ah L B) p).2.1 < L := bl_nb ah_bl (fun z => bl_c z (by unfold bl; decide) hq)
      refine vv_aload_n C dX6_readLine_6 rfl ?_
      refine vv_bipush C dX6_readLine_7 bp_63 ?_
      refine vs_caliF C dX6_readLine_9 (c_X6_takesY g S3 L B (hT.fr p3.1 (by decide) (by decide)) (pzE (ah L B) p).2.1 hpo.1 p3.2.1 ((p3.2.2.1 ht).1) 63 hq) mb_X6_takes mv_X6_takes lk_X6_34 ce_48 rfl rfl rfl rfl ⟨by omega, by omega, Nat.le_of_ble_eq_true rfl⟩ ?_
      refine vv_if_eq (tgt := 27) C dX6_readLine_12 (by decide) (fun q12 => ?_) (fun q12 => ?_)
      · exact absurd q12 (by decide)
      · skip
        refine vv_aload_n C dX6_readLine_15 rfl ?_
        refine vv_bipush C dX6_readLine_16 bp_m63 ?_
        refine vs_calvF C dX6_readLine_18 (c_X6_write g (vs_us S3 15 (nI ((pzE (ah L B) p).2.1 + 1))) (c ++ (pzE (ah L B) p).2.2.1) (p3.2.2.1 ht).2 hlenT (-63)) mb_X6_write mv_X6_write lk_X6_42 ce_48 rfl rfl rfl rfl ⟨by omega, by omega, Nat.le_of_ble_eq_true rfl⟩ ?_
        refine vv_aload_n C dX6_readLine_21 rfl ?_
        refine vv_iconst C dX6_readLine_22 ic_0 ?_
        refine vv_iconst C dX6_readLine_23 ic_0 ?_
        refine vs_callv C dX6_readLine_24 (c_X6_expr g (wX (vs_us S3 15 (nI ((pzE (ah L B) p).2.1 + 1))) (c ++ (pzE (ah L B) p).2.2.1).length (-63)) L B (hT.fr ((p3.1.tr (vs_fr.rf.us (by decide) : vs_fr [15, 16, 17] [50] [] S3 (vs_us S3 15 (nI ((pzE (ah L B) p).2.1 + 1))))).tr wX_fr) (by decide) (by decide)) ((pzE (ah L B) p).2.1 + 1) hqL ((c ++ (pzE (ah L B) p).2.2.1) ++ [-63]) ⟨rfl, (p3.2.2.1 ht).1, hc_w (S := vs_us S3 15 (nI ((pzE (ah L B) p).2.1 + 1))) (p3.2.2.1 ht).2 hlenT, by rw [List.length_append, List.length_append, List.length_singleton]; omega⟩) mb_X6_readRank mv_X6_readRank lk_X6_38 ce_48 rfl rfl rfl rfl ⟨by omega, by omega, Nat.le_of_ble_eq_true rfl⟩ (fun S24 p24 => ?_)
        have hyo := pOk_E (ah_bl (L := L) (B := B)) ((pzE (ah L B) p).2.1 + 1) hqL
        by_cases hy : (pzE (ah L B) ((pzE (ah L B) p).2.1 + 1)).1 = true
        · have hv : pzT (ah L B) 0 p = (true, (pzE (ah L B) ((pzE (ah L B) p).2.1 + 1)).2.1, ((pzE (ah L B) p).2.2.1 ++ (-63 :: (pzE (ah L B) ((pzE (ah L B) p).2.1 + 1)).2.2.1)) ++ [-59], fun N => if (!((pzE (ah L B) p).2.2.2 N == 0)) = true then (pzE (ah L B) ((pzE (ah L B) p).2.1 + 1)).2.2.2 N else 0) := by
            unfold pzT pzI pz3
            rw [if_pos ht, if_pos hq]
            unfold pz4
            rw [if_pos hy]
            rfl
          have hyp := hyo.2.2 hy
          have hlen : (((c ++ (pzE (ah L B) p).2.2.1) ++ [-63]) ++ (pzE (ah L B) ((pzE (ah L B) p).2.1 + 1)).2.2.1).length ≤ 120 := by rw [List.length_append, List.length_append, List.length_append, List.length_singleton]; have := hyo.1; omega
          have e5 : c ++ (((pzE (ah L B) p).2.2.1 ++ (-63 :: (pzE (ah L B) ((pzE (ah L B) p).2.1 + 1)).2.2.1)) ++ [-59]) = ((((c ++ (pzE (ah L B) p).2.2.1) ++ [-63]) ++ (pzE (ah L B) ((pzE (ah L B) p).2.1 + 1)).2.2.1) ++ [-59]) := by simp
          refine vv_aload_n C dX6_readLine_27 rfl ?_
          refine vv_bipush C dX6_readLine_28 bp_m59 ?_
          refine vs_calvF C dX6_readLine_30 (c_X6_write g S24 (((c ++ (pzE (ah L B) p).2.2.1) ++ [-63]) ++ (pzE (ah L B) ((pzE (ah L B) p).2.1 + 1)).2.2.1) (p24.2.2.1 hy).2 hlen (-59)) mb_X6_write mv_X6_write lk_X6_42 ce_48 rfl rfl rfl rfl ⟨by omega, by omega, Nat.le_of_ble_eq_true rfl⟩ ?_
          exact vs_vret C F dX6_readLine_33 rfl (by rw [hv]; exact ⟨(((p3.1.tr (vs_fr.rf.us (by decide))).tr wX_fr).tr p24.1).tr wX_fr, p24.2.1, fun _ => ⟨(p24.2.2.1 hy).1, by rw [e5]; exact hc_w (p24.2.2.1 hy).2 hlen⟩, fun z => absurd rfl z⟩)
        · have hv : pzT (ah L B) 0 p = pF (pzE (ah L B) ((pzE (ah L B) p).2.1 + 1)).2.1 := by
            unfold pzT pzI pz3
            rw [if_pos ht, if_pos hq]
            unfold pz4
            rw [if_neg hy]
            rfl
          obtain ⟨h17, w, hw, h16⟩ := p24.2.2.2 hy
          refine vv_aload_n C dX6_readLine_27 rfl ?_
          refine vv_bipush C dX6_readLine_28 bp_m59 ?_
          refine vs_callv C dX6_readLine_30 (c_X6_writeA g S24 w hw h16 (-59)) mb_X6_write mv_X6_write lk_X6_42 ce_48 rfl rfl rfl rfl ⟨by omega, by omega, Nat.le_of_ble_eq_true rfl⟩ (fun S30 p30 => ?_)
          exact vs_vret C F dX6_readLine_33 rfl (by rw [hv]; exact ⟨(((p3.1.tr (vs_fr.rf.us (by decide))).tr wX_fr).tr p24.1).tr (p30.1.wd (by decide) (by decide) (by decide)), (p30.1.1 15 (by decide)).trans p24.2.1, fun z => absurd (show false = true from z) (by decide), fun _ => ⟨(p30.1.1 17 (by decide)).trans h17, p30.2⟩⟩)
    · have hv : pzT (ah L B) 0 p = (true, (pzE (ah L B) p).2.1, (pzE (ah L B) p).2.2.1 ++ [-59], fun N => if true = true then (pzE (ah L B) p).2.2.2 N else 0) := by
        unfold pzT pzI pz3
        rw [if_pos ht, if_neg hq]
        rfl
      refine vv_aload_n C dX6_readLine_6 rfl ?_
      refine vv_bipush C dX6_readLine_7 bp_63 ?_
      refine vs_caliF C dX6_readLine_9 (c_X6_takesN g S3 L B (hT.fr p3.1 (by decide) (by decide)) (pzE (ah L B) p).2.1 hpo.1 p3.2.1 63 (fun z => hq z.2)) mb_X6_takes mv_X6_takes lk_X6_34 ce_48 rfl rfl rfl rfl ⟨by omega, by omega, Nat.le_of_ble_eq_true rfl⟩ ?_
      refine vv_if_eq (tgt := 27) C dX6_readLine_12 (by decide) (fun q12 => ?_) (fun q12 => ?_)
      · skip
        refine vv_aload_n C dX6_readLine_27 rfl ?_
        refine vv_bipush C dX6_readLine_28 bp_m59 ?_
        refine vs_calvF C dX6_readLine_30 (c_X6_write g S3 (c ++ (pzE (ah L B) p).2.2.1) (p3.2.2.1 ht).2 hlenT (-59)) mb_X6_write mv_X6_write lk_X6_42 ce_48 rfl rfl rfl rfl ⟨by omega, by omega, Nat.le_of_ble_eq_true rfl⟩ ?_
        exact vs_vret C F dX6_readLine_33 rfl (by rw [hv]; exact ⟨p3.1.tr wX_fr, p3.2.1, fun _ => ⟨(p3.2.2.1 ht).1, by rw [← List.append_assoc]; exact hc_w (p3.2.2.1 ht).2 hlenT⟩, fun z => absurd rfl z⟩)
      · exact absurd rfl q12
  · have hv : pzT (ah L B) 0 p = pF (pzE (ah L B) p).2.1 := by
      unfold pzT pzI pz3
      rw [if_neg ht]
      rfl
    obtain ⟨h17, w, hw, h16⟩ := p3.2.2.2 ht
    refine vv_aload_n C dX6_readLine_6 rfl ?_
    refine vv_bipush C dX6_readLine_7 bp_63 ?_
    refine vs_caliF C dX6_readLine_9 (c_X6_takesN g S3 L B (hT.fr p3.1 (by decide) (by decide)) (pzE (ah L B) p).2.1 hpo.1 p3.2.1 63 (fun z => nI_m1 (by have := hpo.1; omega) (h17.symm.trans z.1))) mb_X6_takes mv_X6_takes lk_X6_34 ce_48 rfl rfl rfl rfl ⟨by omega, by omega, Nat.le_of_ble_eq_true rfl⟩ ?_
    refine vv_if_eq (tgt := 27) C dX6_readLine_12 (by decide) (fun q12 => ?_) (fun q12 => ?_)
    · skip
      refine vv_aload_n C dX6_readLine_27 rfl ?_
      refine vv_bipush C dX6_readLine_28 bp_m59 ?_
      refine vs_callv C dX6_readLine_30 (c_X6_writeA g S3 w hw h16 (-59)) mb_X6_write mv_X6_write lk_X6_42 ce_48 rfl rfl rfl rfl ⟨by omega, by omega, Nat.le_of_ble_eq_true rfl⟩ (fun S30 p30 => ?_)
      exact vs_vret C F dX6_readLine_33 rfl (by rw [hv]; exact ⟨p3.1.tr (p30.1.wd (by decide) (by decide) (by decide)), (p30.1.1 15 (by decide)).trans p3.2.1, fun z => absurd (show false = true from z) (by decide), fun _ => ⟨(p30.1.1 17 (by decide)).trans h17, p30.2⟩⟩)
    · exact absurd rfl q12
set_option maxRecDepth 20000 in
theorem c_X6_readText (g : vv_G) (S : vs_S) (L : Nat) (B : Nat → Int32) (hT : tp S L B) : vs_KI g yX6_readText cX6_readText 2 (some .int) 59 [vv_r g 48] S (fun r S1 => r = (if (pzX (ah L B) L).1 = true then -1 else nI (pzX (ah L B) L).2.1) ∧ vs_fr [14, 15, 16, 17] [50] [] S S1 ∧ S1.1 14 = 0 ∧ ((pzX (ah L B) L).1 = true → hc0 S1 (pzX (ah L B) L).2.2.1)) := by
  have hL := hT.2.1
  refine vs_ofI (lv := [_, _]) mb_X6_readText (Nat.le_of_ble_eq_true rfl) rfl (fun x C F => ?_)
  refine vv_aload_n C dX6_readText_0 rfl ?_
  refine vv_iconst C dX6_readText_1 ic_0 ?_
  refine pf_X6_at C dX6_readText_2 fp_X6_25 ?_
  refine vv_aload_n C dX6_readText_5 rfl ?_
  refine vv_iconst C dX6_readText_6 ic_0 ?_
  refine pf_X6_written C dX6_readText_7 fp_X6_22 ?_
  refine vv_aload_n C dX6_readText_10 rfl ?_
  refine vv_iconst C dX6_readText_11 ic_m1 ?_
  refine pf_X6_fault C dX6_readText_12 fp_X6_28 ?_
  refine vv_aload_n C dX6_readText_15 rfl ?_
  refine vs_callv C dX6_readText_16 (c_X6_readLine g (vs_us (vs_us (vs_us S 15 0) 16 0) 17 (-1)) L B (hT.fr (((vs_fr.rf.us (by decide)).us (by decide)).us (by decide) : vs_fr [15, 16, 17] [50] [] S (vs_us (vs_us (vs_us S 15 0) 16 0) 17 (-1))) (by decide) (by decide)) 0 (Nat.zero_le _) [] ⟨rfl, rfl, ⟨rfl, fun i hi => absurd hi (Nat.not_lt_zero i)⟩, Nat.le_refl _⟩) mb_X6_readLine mv_X6_readLine lk_X6_31 ce_48 rfl rfl rfl rfl ⟨by omega, by omega, Nat.le_of_ble_eq_true rfl⟩ (fun S16 p16 => ?_)
  refine vv_iconst C dX6_readText_19 ic_0 ?_
  refine vw_istore_n (lv9 := [_, _]) C dX6_readText_20 (by decide) rfl rfl ?_
  have fin : ∀ (w1 : Option Value) (S1 : vs_S), vs_fr [15, 16, 17] [50] [] S S1 → S1.1 15 = nI (pzT (ah L B) 120 0).2.1 → ((pzT (ah L B) 120 0).1 = true → S1.1 17 = -1 ∧ hc0 S1 (pzT (ah L B) 120 0).2.2.1) → (¬ (pzT (ah L B) 120 0).1 = true → S1.1 17 = nI (pzT (ah L B) 120 0).2.1) → vv_V g x 2 0 0 46 [some (vv_r g 48), w1] [] (vs_cells g S1) := by
    intro w1 S1 hf h15 hy hn
    have hT1 := hT.fr hf (by decide) (by decide)
    have hpo := (pOk_T (ah_bl (L := L) (B := B)) 120 0 (Nat.zero_le _)).1
    by_cases ht : (pzT (ah L B) 120 0).1 = true
    · obtain ⟨h17, hcc⟩ := hy ht
      by_cases hq : (pzT (ah L B) 120 0).2.1 < L
      · have hv : (pzX (ah L B) L) = pF (pzT (ah L B) 120 0).2.1 := if_pos ⟨ht, hq⟩
        refine vv_aload_n C dX6_readText_46 rfl ?_
        refine gf_X6_fault C dX6_readText_47 fg_X6_28 ?_
        refine vv_iconst C dX6_readText_50 ic_m1 ?_
        refine vv_icmp_ne (tgt := 73) C dX6_readText_51 (by decide) (fun q51 => ?_) (fun q51 => ?_)
        · exact absurd h17 q51
        · skip
          refine vv_aload_n C dX6_readText_54 rfl ?_
          refine gf_X6_at C dX6_readText_55 fg_X6_25 ?_
          refine vs_eqi (v9 := nI (pzT (ah L B) 120 0).2.1) (h15) ?_
          refine vv_aload_n C dX6_readText_58 rfl ?_
          refine gf_X6_length C dX6_readText_59 fg_X6_18 ?_
          refine vs_eqi (v9 := nI L) (hT1.1) ?_
          refine vv_icmp_ge (tgt := 73) C dX6_readText_62 (by decide) (fun q62 => ?_) (fun q62 => ?_)
          · exact absurd q62 (by rw [xn_le (by omega) (by omega)]; omega)
          · skip
            refine vv_aload_n C dX6_readText_65 rfl ?_
            refine vv_aload_n C dX6_readText_66 rfl ?_
            refine gf_X6_at C dX6_readText_67 fg_X6_25 ?_
            refine vs_eqi (v9 := nI (pzT (ah L B) 120 0).2.1) (h15) ?_
            refine pf_X6_fault C dX6_readText_70 fp_X6_28 ?_
            refine vv_aload_n C dX6_readText_73 rfl ?_
            refine vv_iconst C dX6_readText_74 ic_0 ?_
            refine pf_X6_length C dX6_readText_75 fp_X6_18 ?_
            refine vv_aload_n C dX6_readText_78 rfl ?_
            refine gf_X6_fault C dX6_readText_79 fg_X6_28 ?_
            exact vs_iret C F dX6_readText_82 rfl ⟨by rw [hv]; rfl, (((hf.wd (by decide) (by decide) (by decide) : vs_fr [14, 15, 16, 17] [50] [] S S1)).us (by decide)).us (by decide), rfl, fun z => by rw [hv] at z; cases z⟩
      · have hv : (pzX (ah L B) L) = (pzT (ah L B) 120 0) := if_neg (fun z => hq z.2)
        refine vv_aload_n C dX6_readText_46 rfl ?_
        refine gf_X6_fault C dX6_readText_47 fg_X6_28 ?_
        refine vv_iconst C dX6_readText_50 ic_m1 ?_
        refine vv_icmp_ne (tgt := 73) C dX6_readText_51 (by decide) (fun q51 => ?_) (fun q51 => ?_)
        · exact absurd h17 q51
        · skip
          refine vv_aload_n C dX6_readText_54 rfl ?_
          refine gf_X6_at C dX6_readText_55 fg_X6_25 ?_
          refine vs_eqi (v9 := nI (pzT (ah L B) 120 0).2.1) (h15) ?_
          refine vv_aload_n C dX6_readText_58 rfl ?_
          refine gf_X6_length C dX6_readText_59 fg_X6_18 ?_
          refine vs_eqi (v9 := nI L) (hT1.1) ?_
          refine vv_icmp_ge (tgt := 73) C dX6_readText_62 (by decide) (fun q62 => ?_) (fun q62 => ?_)
          · skip
            refine vv_aload_n C dX6_readText_73 rfl ?_
            refine vv_iconst C dX6_readText_74 ic_0 ?_
            refine pf_X6_length C dX6_readText_75 fp_X6_18 ?_
            refine vv_aload_n C dX6_readText_78 rfl ?_
            refine gf_X6_fault C dX6_readText_79 fg_X6_28 ?_
            exact vs_iret C F dX6_readText_82 rfl ⟨by rw [hv, if_pos ht]; exact h17, ((hf.wd (by decide) (by decide) (by decide) : vs_fr [14, 15, 16, 17] [50] [] S S1)).us (by decide), rfl, fun _ => by rw [hv]; exact hcc⟩
          · exact absurd (show nI L ≤ nI (pzT (ah L B) 120 0).2.1 by rw [xn_le (by omega) (by omega)]; omega) q62
    · have h17 := hn ht
      have hv : (pzX (ah L B) L) = (pzT (ah L B) 120 0) := if_neg (fun z => ht z.1)
      refine vv_aload_n C dX6_readText_46 rfl ?_
      refine gf_X6_fault C dX6_readText_47 fg_X6_28 ?_
      refine vv_iconst C dX6_readText_50 ic_m1 ?_
      refine vv_icmp_ne (tgt := 73) C dX6_readText_51 (by decide) (fun q51 => ?_) (fun q51 => ?_)
      · skip
        refine vv_aload_n C dX6_readText_73 rfl ?_
        refine vv_iconst C dX6_readText_74 ic_0 ?_
        refine pf_X6_length C dX6_readText_75 fp_X6_18 ?_
        refine vv_aload_n C dX6_readText_78 rfl ?_
        refine gf_X6_fault C dX6_readText_79 fg_X6_28 ?_
        exact vs_iret C F dX6_readText_82 rfl ⟨by rw [hv, if_neg ht]; exact h17, ((hf.wd (by decide) (by decide) (by decide) : vs_fr [14, 15, 16, 17] [50] [] S S1)).us (by decide), rfl, fun z => absurd (by rw [hv] at z; exact z) ht⟩
      · exact absurd (h17.symm.trans q51) (nI_m1 (by omega))
  have loop : ∀ (f i p : Nat) (c : List Int32) (S1 : vs_S), i + f = 120 → p ≤ L → c.length ≤ p → pX S S1 c (pzT (ah L B) 0 p) → ((pzT (ah L B) 120 0).1 = (pzT (ah L B) f p).1 ∧ (pzT (ah L B) 120 0).2.1 = (pzT (ah L B) f p).2.1 ∧ ((pzT (ah L B) f p).1 = true → (pzT (ah L B) 120 0).2.2.1 = c ++ (pzT (ah L B) f p).2.2.1)) → vv_V g x 2 0 0 21 [some (vv_r g 48), some (.int (nI i))] [] (vs_cells g S1) := by
    intro f
    induction f with
    | zero =>
      intro i p c S1 hi hp hcl hS hR
      have e4 : i = 120 := by omega
      subst e4
      refine vv_iload_n C dX6_readText_21 rfl ?_
      refine vv_bipush C dX6_readText_22 bp_120 ?_
      refine vv_icmp_ge (tgt := 46) C dX6_readText_24 (by decide) (fun q24 => ?_) (fun q24 => ?_)
      · skip
        exact fin _ _ hS.1 (by rw [hR.2.1]; exact hS.2.1) (fun z => ⟨(hS.2.2.1 (hR.1 ▸ z)).1, by rw [hR.2.2 (hR.1 ▸ z)]; exact (hS.2.2.1 (hR.1 ▸ z)).2⟩) (fun z => by rw [hR.2.1]; exact (hS.2.2.2 (hR.1 ▸ z)).1)
      · exact absurd (by decide +kernel) q24
    | succ f ih =>
      intro i p c S1 hi hp hcl hS hR
      have hpo := pOk_I (ah_bl (L := L) (B := B)) p hp
      rw [pzTS f] at hR
      by_cases ht : (pzI (ah L B) p).1 = true
      · rw [if_pos ht] at hR
        rw [pzT0 ht] at hS
        by_cases hq : ah L B (pzI (ah L B) p).2.1 = 59
        · rw [if_pos hq] at hR
          have hqL : (pzI (ah L B) p).2.1 < L := bl_nb ah_bl (fun z => bl_c z (by unfold bl; decide) hq)
          have hpt := hpo.2.2 ht
          refine vv_iload_n C dX6_readText_21 rfl ?_
          refine vv_bipush C dX6_readText_22 bp_120 ?_
          refine vv_icmp_ge (tgt := 46) C dX6_readText_24 (by decide) (fun q24 => ?_) (fun q24 => ?_)
          · exact absurd q24 (by rw [xn_lit, xn_le (by omega) (by omega)]; omega)
          · refine vv_aload_n C dX6_readText_27 rfl ?_
            refine vv_bipush C dX6_readText_28 bp_59 ?_
            refine vs_caliF C dX6_readText_30 (c_X6_takesY g S1 L B (hT.fr hS.1 (by decide) (by decide)) (pzI (ah L B) p).2.1 hpo.1 hS.2.1 (hS.2.2.1 rfl).1 59 hq) mb_X6_takes mv_X6_takes lk_X6_34 ce_48 rfl rfl rfl rfl ⟨by omega, by omega, Nat.le_of_ble_eq_true rfl⟩ ?_
            refine vv_if_eq (tgt := 46) C dX6_readText_33 (by decide) (fun q33 => ?_) (fun q33 => ?_)
            · exact absurd q33 (by decide)
            · skip
              refine vv_aload_n C dX6_readText_36 rfl ?_
              refine vs_callv C dX6_readText_37 (c_X6_readLine g (vs_us S1 15 (nI ((pzI (ah L B) p).2.1 + 1))) L B (hT.fr (hS.1.tr (vs_fr.rf.us (by decide))) (by decide) (by decide)) ((pzI (ah L B) p).2.1 + 1) hqL (c ++ ((pzI (ah L B) p).2.2.1 ++ [-59])) ⟨rfl, (hS.2.2.1 rfl).1, (hS.2.2.1 rfl).2, by rw [List.length_append, List.length_append, List.length_singleton]; omega⟩) mb_X6_readLine mv_X6_readLine lk_X6_31 ce_48 rfl rfl rfl rfl ⟨by omega, by omega, Nat.le_of_ble_eq_true rfl⟩ (fun S37 p37 => ?_)
              refine vw_iinc (lv9 := [_, _]) C dX6_readText_40 rfl ic_1 (by decide) rfl rfl ?_
              refine vv_goto (tgt := 21) C dX6_readText_43 (by decide) ?_
              rw [nI_1]
              refine ih (i + 1) ((pzI (ah L B) p).2.1 + 1) (c ++ ((pzI (ah L B) p).2.2.1 ++ [-59])) S37 (by omega) hqL (by rw [List.length_append, List.length_append, List.length_singleton]; omega) ⟨(hS.1.tr (vs_fr.rf.us (by decide))).tr p37.1, p37.2⟩ ?_
              unfold pz6 at hR
              by_cases hy : (pzT (ah L B) f ((pzI (ah L B) p).2.1 + 1)).1 = true
              · rw [if_pos hy] at hR
                refine ⟨hR.1.trans hy.symm, hR.2.1, fun _ => ?_⟩
                rw [hR.2.2 rfl]
                simp
              · rw [if_neg hy] at hR
                refine ⟨hR.1.trans (by cases e : (pzT (ah L B) f ((pzI (ah L B) p).2.1 + 1)).1; rfl; exact absurd e hy), hR.2.1, fun z => absurd z hy⟩
        · rw [if_neg hq] at hR
          refine vv_iload_n C dX6_readText_21 rfl ?_
          refine vv_bipush C dX6_readText_22 bp_120 ?_
          refine vv_icmp_ge (tgt := 46) C dX6_readText_24 (by decide) (fun q24 => ?_) (fun q24 => ?_)
          · exact absurd q24 (by rw [xn_lit, xn_le (by omega) (by omega)]; omega)
          · refine vv_aload_n C dX6_readText_27 rfl ?_
            refine vv_bipush C dX6_readText_28 bp_59 ?_
            refine vs_caliF C dX6_readText_30 (c_X6_takesN g S1 L B (hT.fr hS.1 (by decide) (by decide)) (pzI (ah L B) p).2.1 hpo.1 hS.2.1 59 (fun z => hq z.2)) mb_X6_takes mv_X6_takes lk_X6_34 ce_48 rfl rfl rfl rfl ⟨by omega, by omega, Nat.le_of_ble_eq_true rfl⟩ ?_
            refine vv_if_eq (tgt := 46) C dX6_readText_33 (by decide) (fun q33 => ?_) (fun q33 => ?_)
            · skip
              exact fin _ _ hS.1 (by rw [hR.2.1]; exact hS.2.1) (fun z => ⟨(hS.2.2.1 (hR.1 ▸ z)).1, by rw [hR.2.2 (hR.1 ▸ z)]; exact (hS.2.2.1 (hR.1 ▸ z)).2⟩) (fun z => by rw [hR.2.1]; exact (hS.2.2.2 (hR.1 ▸ z)).1)
            · exact absurd rfl q33
      · rw [if_neg ht] at hR
        rw [pzT0n ht] at hS
        refine vv_iload_n C dX6_readText_21 rfl ?_
        refine vv_bipush C dX6_readText_22 bp_120 ?_
        refine vv_icmp_ge (tgt := 46) C dX6_readText_24 (by decide) (fun q24 => ?_) (fun q24 => ?_)
        · exact absurd q24 (by rw [xn_lit, xn_le (by omega) (by omega)]; omega)
        · refine vv_aload_n C dX6_readText_27 rfl ?_
          refine vv_bipush C dX6_readText_28 bp_59 ?_
          refine vs_caliF C dX6_readText_30 (c_X6_takesN g S1 L B (hT.fr hS.1 (by decide) (by decide)) (pzI (ah L B) p).2.1 hpo.1 hS.2.1 59 (fun z => nI_m1 (n := (pzI (ah L B) p).2.1) (by have := hpo.1; omega) ((hS.2.2.2 (fun z9 => absurd (show false = true from z9) (by decide))).1.symm.trans z.1))) mb_X6_takes mv_X6_takes lk_X6_34 ce_48 rfl rfl rfl rfl ⟨by omega, by omega, Nat.le_of_ble_eq_true rfl⟩ ?_
          refine vv_if_eq (tgt := 46) C dX6_readText_33 (by decide) (fun q33 => ?_) (fun q33 => ?_)
          · skip
            exact fin _ _ hS.1 (by rw [hR.2.1]; exact hS.2.1) (fun z => ⟨(hS.2.2.1 (hR.1 ▸ z)).1, by rw [hR.2.2 (hR.1 ▸ z)]; exact (hS.2.2.1 (hR.1 ▸ z)).2⟩) (fun z => by rw [hR.2.1]; exact (hS.2.2.2 (hR.1 ▸ z)).1)
          · exact absurd rfl q33
  exact loop 120 0 0 [] S16 rfl (Nat.zero_le _) (Nat.le_refl _) ⟨(((vs_fr.rf.us (by decide)).us (by decide)).us (by decide) : vs_fr [15, 16, 17] [50] [] S (vs_us (vs_us (vs_us S 15 0) 16 0) 17 (-1))).tr p16.1, p16.2⟩ ⟨rfl, rfl, fun _ => rfl⟩
