set_option maxRecDepth 20000 in
theorem c_X6_readRank5 (g : vv_G) (r d : Nat) (hO : OpX g r d) (S : vs_S) (L : Nat) (B : Nat → Int32) (hT : tp S L B) (p : Nat) (hp : p ≤ L) (c : List Int32) (hr : rX S p c) : vs_KV g yX6_readRank cX6_readRank 6 none (d + 1) [vv_r g 48, .int (nI (5 - 0)), .int (nI (6 - r))] S (fun S1 => pX S S1 c (pzR (pzO (ah L B) r) (ah L B) 0 p)) := by
  refine vs_ofV (lv := [_, _, _, _, _, _]) mb_X6_readRank (Nat.le_of_ble_eq_true rfl) rfl (fun x C F => ?_)
  refine vv_iload_n C dX6_readRank_0 rfl ?_
  refine vv_iconst C dX6_readRank_1 ic_5 ?_
  refine vv_icmp_ne (tgt := 11) C dX6_readRank_2 (by decide) (fun q2 => ?_) (fun q2 => ?_)
  · exact absurd (by decide +kernel) q2
  · skip
    refine vv_aload_n C dX6_readRank_5 rfl ?_
    refine vv_iload_n C dX6_readRank_6 rfl ?_
    refine vs_callv C dX6_readRank_7 (hO S L B hT p hp c hr) mb_X6_readOperand mv_X6_readOperand lk_X6_46 ce_48 rfl rfl rfl rfl ⟨by omega, by omega, Nat.le_of_ble_eq_true rfl⟩ (fun S7 p7 => ?_)
    exact vs_vret C F dX6_readRank_10 rfl p7
theorem pzF_le (j : Nat) : pzF j ≤ 120 := by
  unfold pzF
  split <;> omega
theorem tkR_le (b : Int32) : tkR b ≤ 5 := by
  unfold tkR
  split
  · omega
  split
  · omega
  split
  · omega
  split
  · omega
  split <;> omega
theorem nI_m1 {n : Nat} (h : n < 2 ^ 31) : ¬ nI n = -1 := fun z => xn_neg h (by rw [z]; decide)
set_option maxRecDepth 20000 in
theorem c_X6_readRankS (g : vv_G) (r j d : Nat) (hr6 : r ≤ 6) (hj5 : j < 5) (hd : 3 ≤ d) (hK : RkX g r j d) (S : vs_S) (L : Nat) (B : Nat → Int32) (hT : tp S L B) (p : Nat) (hp : p ≤ L) (c : List Int32) (hr : rX S p c) : vs_KV g yX6_readRank cX6_readRank 6 none (d + 1) [vv_r g 48, .int (nI (5 - (j + 1))), .int (nI (6 - r))] S (fun S1 => pX S S1 c (pzR (pzO (ah L B) r) (ah L B) (j + 1) p)) := by
  have hL := hT.2.1
  have hcl := hr.2.2.2
  refine vs_ofV (lv := [_, _, _, _, _, _]) mb_X6_readRank (Nat.le_of_ble_eq_true rfl) rfl (fun x C F => ?_)
  refine vv_iload_n C dX6_readRank_0 rfl ?_
  refine vv_iconst C dX6_readRank_1 ic_5 ?_
  refine vv_icmp_ne (tgt := 11) C dX6_readRank_2 (by decide) (fun q2 => ?_) (fun q2 => ?_)
  · skip
    refine vv_aload_n C dX6_readRank_11 rfl ?_
    refine vv_iload_n C dX6_readRank_12 rfl ?_
    refine vv_iconst C dX6_readRank_13 ic_1 ?_
    refine vv_iadd C dX6_readRank_14 ?_
    refine vs_eqi (v9 := nI (5 - j)) (by rw [nI_1]; exact congrArg nI (by omega)) ?_
    refine vv_iload_n C dX6_readRank_15 rfl ?_
    refine vs_callv C dX6_readRank_16 (hK S L B hT p hp c hr) mb_X6_readRank mv_X6_readRank lk_X6_38 ce_48 rfl rfl rfl rfl ⟨by omega, by omega, Nat.le_of_ble_eq_true rfl⟩ (fun S16 p16 => ?_)
    have hpo := pOk_RO (L := L) (B := B) r j p hp
    by_cases ht0 : ((pzR (pzO (ah L B) r) (ah L B) j) p).1 = true
    · have hfin : pzL (pzR (pzO (ah L B) r) (ah L B) j) (ah L B) (4 - j) (pzF j) ((pzR (pzO (ah L B) r) (ah L B) j) p) = (pzR (pzO (ah L B) r) (ah L B) (j + 1) p) := by rw [pzRS j, if_pos ht0]
      have loop : ∀ (f i : Nat) (w5 : Option Value) (t : pT) (S1 : vs_S), i + f = pzF j → pX S S1 c t → t.1 = true → pOk L p t → pzL (pzR (pzO (ah L B) r) (ah L B) j) (ah L B) (4 - j) f t = (pzR (pzO (ah L B) r) (ah L B) (j + 1) p) → vv_V g x 6 0 0 34 [some (vv_r g 48), some (.int (nI (5 - (j + 1)))), some (.int (nI (6 - r))), some (.int (nI (pzF j))), some (.int (nI i)), w5] [] (vs_cells g S1) := by
        intro f
        induction f with
        | zero =>
          intro i w5 t S1 hi hS ht hq he
          have e4 : i = pzF j := by omega
          subst e4
          refine vv_iload C dX6_readRank_34 rfl ?_
          refine vv_iload_n C dX6_readRank_36 rfl ?_
          refine vv_icmp_ge (tgt := 96) C dX6_readRank_37 (by decide) (fun q37 => ?_) (fun q37 => ?_)
          · exact vs_vret C F dX6_readRank_96 rfl (by rw [← he]; exact hS)
          · exact absurd (Int32.le_refl _) q37
        | succ f ih =>
          intro i w5 t S1 hi hS ht hq he
          rw [pzLS f] at he
          refine vv_iload C dX6_readRank_34 rfl ?_
          refine vv_iload_n C dX6_readRank_36 rfl ?_
          refine vv_icmp_ge (tgt := 96) C dX6_readRank_37 (by decide) (fun q37 => ?_) (fun q37 => ?_)
          · exact absurd q37 (by rw [xn_le (by have := pzF_le j; omega) (by have := pzF_le j; omega)]; omega)
          · refine vv_aload_n C dX6_readRank_40 rfl ?_
            refine gf_X6_fault C dX6_readRank_41 fg_X6_28 ?_
            refine vv_iconst C dX6_readRank_44 ic_m1 ?_
            refine vv_icmp_ne (tgt := 96) C dX6_readRank_45 (by decide) (fun q45 => ?_) (fun q45 => ?_)
            · exact absurd (hS.2.2.1 ht).1 q45
            · skip
              refine vv_aload_n C dX6_readRank_48 rfl ?_
              refine vs_caliF C dX6_readRank_49 (c_X6_ahead g S1 L B (hT.fr hS.1 (by decide) (by decide)) t.2.1 hq.1 hS.2.1) mb_X6_ahead mv_X6_ahead lk_X6_49 ce_48 rfl rfl rfl rfl ⟨by omega, by omega, Nat.le_of_ble_eq_true rfl⟩ ?_
              refine vs_calsiF C dX6_readRank_52 (c_X6_rankOf g S1 _) mb_X6_rankOf ms_X6_rankOf lk_X6_53 rfl rfl ⟨by omega, by omega, Nat.le_of_ble_eq_true rfl⟩ ?_
              refine vv_iload_n C dX6_readRank_55 rfl ?_
              refine vv_icmp_ne (tgt := 96) C dX6_readRank_56 (by decide) (fun q56 => ?_) (fun q56 => ?_)
              · have hne : ¬ tkR (ah L B t.2.1) = 4 - j := fun z => q56 (by rw [z]; exact congrArg nI (by omega))
                rw [if_neg hne] at he
                exact vs_vret C F dX6_readRank_96 rfl (by rw [← he]; exact hS)
              · have heq : tkR (ah L B t.2.1) = 4 - j := by have := (xn_eq (by have := tkR_le (ah L B t.2.1); omega) (by omega)).mp q56; omega
                rw [if_pos heq] at he
                have hqL : t.2.1 < L := bl_nb ah_bl (tkR_nb (by omega) heq)
                have hq3 := hq.2.2 ht
                refine vv_aload_n C dX6_readRank_59 rfl ?_
                refine vs_caliF C dX6_readRank_60 (c_X6_ahead g S1 L B (hT.fr hS.1 (by decide) (by decide)) t.2.1 hq.1 hS.2.1) mb_X6_ahead mv_X6_ahead lk_X6_49 ce_48 rfl rfl rfl rfl ⟨by omega, by omega, Nat.le_of_ble_eq_true rfl⟩ ?_
                refine vw_istore (lv9 := [_, _, _, _, _, _]) C dX6_readRank_63 (by decide) rfl rfl ?_
                refine vv_aload_n C dX6_readRank_65 rfl ?_
                refine vv_dup C dX6_readRank_66 rfl ?_
                refine gf_X6_at C dX6_readRank_67 fg_X6_25 ?_
                refine vs_eqi (v9 := nI t.2.1) (hS.2.1) ?_
                refine vv_iconst C dX6_readRank_70 ic_1 ?_
                refine vv_iadd C dX6_readRank_71 ?_
                refine vs_eqi (v9 := nI (t.2.1 + 1)) (nI_1 _) ?_
                refine pf_X6_at C dX6_readRank_72 fp_X6_25 ?_
                refine vv_aload_n C dX6_readRank_75 rfl ?_
                refine vv_iload_n C dX6_readRank_76 rfl ?_
                refine vv_iconst C dX6_readRank_77 ic_1 ?_
                refine vv_iadd C dX6_readRank_78 ?_
                refine vs_eqi (v9 := nI (5 - j)) (by rw [nI_1]; exact congrArg nI (by omega)) ?_
                refine vv_iload_n C dX6_readRank_79 rfl ?_
                refine vs_callv C dX6_readRank_80 (hK (vs_us S1 15 (nI (t.2.1 + 1))) L B (hT.fr (hS.1.tr (vs_fr.rf.us (by decide))) (by decide) (by decide)) (t.2.1 + 1) hqL (c ++ t.2.2.1) ⟨rfl, (hS.2.2.1 ht).1, (hS.2.2.1 ht).2, by rw [List.length_append]; omega⟩) mb_X6_readRank mv_X6_readRank lk_X6_38 ce_48 rfl rfl rfl rfl ⟨by omega, by omega, Nat.le_of_ble_eq_true rfl⟩ (fun S80 p80 => ?_)
                have hyo := pOk_RO (L := L) (B := B) r j (t.2.1 + 1) hqL
                by_cases hy : ((pzR (pzO (ah L B) r) (ah L B) j) (t.2.1 + 1)).1 = true
                · rw [if_pos hy] at he
                  have hyp := hyo.2.2 hy
                  have hlen : ((c ++ t.2.2.1) ++ ((pzR (pzO (ah L B) r) (ah L B) j) (t.2.1 + 1)).2.2.1).length ≤ 120 := by rw [List.length_append, List.length_append]; have := hyo.1; omega
                  refine vv_aload_n C dX6_readRank_83 rfl ?_
                  refine vv_iload C dX6_readRank_84 rfl ?_
                  refine vv_ineg C dX6_readRank_86 ?_
                  refine vs_calvF C dX6_readRank_87 (c_X6_write g S80 ((c ++ t.2.2.1) ++ ((pzR (pzO (ah L B) r) (ah L B) j) (t.2.1 + 1)).2.2.1) (p80.2.2.1 hy).2 hlen _) mb_X6_write mv_X6_write lk_X6_42 ce_48 rfl rfl rfl rfl ⟨by omega, by omega, Nat.le_of_ble_eq_true rfl⟩ ?_
                  refine vw_iinc (lv9 := [_, _, _, _, _, _]) C dX6_readRank_90 rfl ic_1 (by decide) rfl rfl ?_
                  refine vv_goto (tgt := 34) C dX6_readRank_93 (by decide) ?_
                  rw [nI_1]
                  refine ih (i + 1) _ (true, ((pzR (pzO (ah L B) r) (ah L B) j) (t.2.1 + 1)).2.1, t.2.2.1 ++ (((pzR (pzO (ah L B) r) (ah L B) j) (t.2.1 + 1)).2.2.1 ++ [-(ah L B t.2.1)]), fun N => tkV (ah L B t.2.1) (t.2.2.2 N) (((pzR (pzO (ah L B) r) (ah L B) j) (t.2.1 + 1)).2.2.2 N)) _ (by omega) ⟨((hS.1.tr (vs_fr.rf.us (by decide))).tr p80.1).tr wX_fr, p80.2.1, fun _ => ⟨(p80.2.2.1 hy).1, ?_⟩, fun z => absurd rfl z⟩ rfl ?_ he
                  · rw [← List.append_assoc, ← List.append_assoc]
                    exact hc_w (p80.2.2.1 hy).2 hlen
                  · refine ⟨hyo.1, ?_, fun _ => ⟨?_, ?_⟩⟩
                    · show p ≤ ((pzR (pzO (ah L B) r) (ah L B) j) (t.2.1 + 1)).2.1
                      omega
                    · show p + (t.2.2.1 ++ (((pzR (pzO (ah L B) r) (ah L B) j) (t.2.1 + 1)).2.2.1 ++ [-(ah L B t.2.1)])).length ≤ ((pzR (pzO (ah L B) r) (ah L B) j) (t.2.1 + 1)).2.1
                      rw [List.length_append, List.length_append, List.length_singleton]
                      omega
                    · show p < ((pzR (pzO (ah L B) r) (ah L B) j) (t.2.1 + 1)).2.1
                      omega
                · rw [if_neg hy] at he
                  obtain ⟨h17, w, hw, h16⟩ := p80.2.2.2 hy
                  refine vv_aload_n C dX6_readRank_83 rfl ?_
                  refine vv_iload C dX6_readRank_84 rfl ?_
                  refine vv_ineg C dX6_readRank_86 ?_
                  refine vs_callv C dX6_readRank_87 (c_X6_writeA g S80 w hw h16 _) mb_X6_write mv_X6_write lk_X6_42 ce_48 rfl rfl rfl rfl ⟨by omega, by omega, Nat.le_of_ble_eq_true rfl⟩ (fun S87 p87 => ?_)
                  refine vw_iinc (lv9 := [_, _, _, _, _, _]) C dX6_readRank_90 rfl ic_1 (by decide) rfl rfl ?_
                  refine vv_goto (tgt := 34) C dX6_readRank_93 (by decide) ?_
                  refine vv_iload C dX6_readRank_34 rfl ?_
                  refine vv_iload_n C dX6_readRank_36 rfl ?_
                  refine vv_icmp_ge (tgt := 96) C dX6_readRank_37 (by decide) (fun q37 => ?_) (fun q37 => ?_)
                  · exact vs_vret C F dX6_readRank_96 rfl (by
                  rw [← he]
                  exact ⟨((hS.1.tr (vs_fr.rf.us (by decide))).tr p80.1).tr (p87.1.wd (by decide) (by decide) (by decide)), (p87.1.1 15 (by decide)).trans p80.2.1, fun z => absurd (show false = true from z) (by decide), fun _ => ⟨(p87.1.1 17 (by decide)).trans h17, p87.2⟩⟩)
                  · refine vv_aload_n C dX6_readRank_40 rfl ?_
                    refine gf_X6_fault C dX6_readRank_41 fg_X6_28 ?_
                    refine vv_iconst C dX6_readRank_44 ic_m1 ?_
                    refine vv_icmp_ne (tgt := 96) C dX6_readRank_45 (by decide) (fun q45 => ?_) (fun q45 => ?_)
                    · skip
                      exact vs_vret C F dX6_readRank_96 rfl (by
                  rw [← he]
                  exact ⟨((hS.1.tr (vs_fr.rf.us (by decide))).tr p80.1).tr (p87.1.wd (by decide) (by decide) (by decide)), (p87.1.1 15 (by decide)).trans p80.2.1, fun z => absurd (show false = true from z) (by decide), fun _ => ⟨(p87.1.1 17 (by decide)).trans h17, p87.2⟩⟩)
                    · exact absurd (((p87.1.1 17 (by decide)).trans h17).symm.trans q45) (nI_m1 (by have := hyo.1; omega))
      refine vv_iload_n C dX6_readRank_19 rfl ?_
      refine vv_iconst C dX6_readRank_20 ic_2 ?_
      refine vv_icmp_ne (tgt := 28) C dX6_readRank_21 (by decide) (fun q21 => ?_) (fun q21 => ?_)
      · have hj : ¬ j = 2 := fun z => q21 (by rw [z]; rfl)
        refine vv_bipush C dX6_readRank_28 bp_120 ?_
        refine vs_eqi (v9 := nI (pzF j)) (by unfold pzF; first | rw [if_pos hj]; rfl | rw [if_neg hj]; rfl) ?_
        refine vw_istore_n (lv9 := [_, _, _, _, _, _]) C dX6_readRank_30 (by decide) rfl rfl ?_
        refine vv_iconst C dX6_readRank_31 ic_0 ?_
        refine vw_istore (lv9 := [_, _, _, _, _, _]) C dX6_readRank_32 (by decide) rfl rfl ?_
        exact loop (pzF j) 0 _ ((pzR (pzO (ah L B) r) (ah L B) j) p) S16 (by omega) p16 ht0 hpo hfin
      · have hj : j = 2 := by have := (xn_eq (by omega) (by omega)).mp (show nI (5 - (j + 1)) = nI 2 from q21); omega
        refine vv_iconst C dX6_readRank_24 ic_1 ?_
        refine vv_goto (tgt := 30) C dX6_readRank_25 (by decide) ?_
        refine vs_eqi (v9 := nI (pzF j)) (by unfold pzF; first | rw [if_pos hj]; rfl | rw [if_neg hj]; rfl) ?_
        refine vw_istore_n (lv9 := [_, _, _, _, _, _]) C dX6_readRank_30 (by decide) rfl rfl ?_
        refine vv_iconst C dX6_readRank_31 ic_0 ?_
        refine vw_istore (lv9 := [_, _, _, _, _, _]) C dX6_readRank_32 (by decide) rfl rfl ?_
        exact loop (pzF j) 0 _ ((pzR (pzO (ah L B) r) (ah L B) j) p) S16 (by omega) p16 ht0 hpo hfin
    · have hfin : pF ((pzR (pzO (ah L B) r) (ah L B) j) p).2.1 = (pzR (pzO (ah L B) r) (ah L B) (j + 1) p) := by rw [pzRS j, if_neg ht0]
      obtain ⟨h17, hw⟩ := p16.2.2.2 ht0
      refine vv_iload_n C dX6_readRank_19 rfl ?_
      refine vv_iconst C dX6_readRank_20 ic_2 ?_
      refine vv_icmp_ne (tgt := 28) C dX6_readRank_21 (by decide) (fun q21 => ?_) (fun q21 => ?_)
      · have hj : ¬ j = 2 := fun z => q21 (by rw [z]; rfl)
        refine vv_bipush C dX6_readRank_28 bp_120 ?_
        refine vs_eqi (v9 := nI (pzF j)) (by unfold pzF; first | rw [if_pos hj]; rfl | rw [if_neg hj]; rfl) ?_
        refine vw_istore_n (lv9 := [_, _, _, _, _, _]) C dX6_readRank_30 (by decide) rfl rfl ?_
        refine vv_iconst C dX6_readRank_31 ic_0 ?_
        refine vw_istore (lv9 := [_, _, _, _, _, _]) C dX6_readRank_32 (by decide) rfl rfl ?_
        refine vv_iload C dX6_readRank_34 rfl ?_
        refine vv_iload_n C dX6_readRank_36 rfl ?_
        refine vv_icmp_ge (tgt := 96) C dX6_readRank_37 (by decide) (fun q37 => ?_) (fun q37 => ?_)
        · exact vs_vret C F dX6_readRank_96 rfl (by rw [← hfin]; exact ⟨p16.1, p16.2.1, fun z => absurd (show false = true from z) (by decide), fun _ => ⟨h17, hw⟩⟩)
        · refine vv_aload_n C dX6_readRank_40 rfl ?_
          refine gf_X6_fault C dX6_readRank_41 fg_X6_28 ?_
          refine vv_iconst C dX6_readRank_44 ic_m1 ?_
          refine vv_icmp_ne (tgt := 96) C dX6_readRank_45 (by decide) (fun q45 => ?_) (fun q45 => ?_)
          · skip
            exact vs_vret C F dX6_readRank_96 rfl (by rw [← hfin]; exact ⟨p16.1, p16.2.1, fun z => absurd (show false = true from z) (by decide), fun _ => ⟨h17, hw⟩⟩)
          · exact absurd (h17.symm.trans q45) (nI_m1 (by have := hpo.1; omega))
      · have hj : j = 2 := by have := (xn_eq (by omega) (by omega)).mp (show nI (5 - (j + 1)) = nI 2 from q21); omega
        refine vv_iconst C dX6_readRank_24 ic_1 ?_
        refine vv_goto (tgt := 30) C dX6_readRank_25 (by decide) ?_
        refine vs_eqi (v9 := nI (pzF j)) (by unfold pzF; first | rw [if_pos hj]; rfl | rw [if_neg hj]; rfl) ?_
        refine vw_istore_n (lv9 := [_, _, _, _, _, _]) C dX6_readRank_30 (by decide) rfl rfl ?_
        refine vv_iconst C dX6_readRank_31 ic_0 ?_
        refine vw_istore (lv9 := [_, _, _, _, _, _]) C dX6_readRank_32 (by decide) rfl rfl ?_
        refine vv_iload C dX6_readRank_34 rfl ?_
        refine vv_iload_n C dX6_readRank_36 rfl ?_
        refine vv_icmp_ge (tgt := 96) C dX6_readRank_37 (by decide) (fun q37 => ?_) (fun q37 => ?_)
        · exact vs_vret C F dX6_readRank_96 rfl (by rw [← hfin]; exact ⟨p16.1, p16.2.1, fun z => absurd (show false = true from z) (by decide), fun _ => ⟨h17, hw⟩⟩)
        · refine vv_aload_n C dX6_readRank_40 rfl ?_
          refine gf_X6_fault C dX6_readRank_41 fg_X6_28 ?_
          refine vv_iconst C dX6_readRank_44 ic_m1 ?_
          refine vv_icmp_ne (tgt := 96) C dX6_readRank_45 (by decide) (fun q45 => ?_) (fun q45 => ?_)
          · skip
            exact vs_vret C F dX6_readRank_96 rfl (by rw [← hfin]; exact ⟨p16.1, p16.2.1, fun z => absurd (show false = true from z) (by decide), fun _ => ⟨h17, hw⟩⟩)
          · exact absurd (h17.symm.trans q45) (nI_m1 (by have := hpo.1; omega))
  · exact absurd ((xn_eq (by omega) (by omega)).mp (show nI (5 - (j + 1)) = nI 5 from q2)) (by omega)
theorem RkX_all {g : vv_G} {r d : Nat} (hr : r ≤ 6) (hd : 3 ≤ d) (hO : OpX g r d) : ∀ j, j ≤ 5 → RkX g r j (d + 1 + j)
  | 0, _ => fun S L B hT p hp c h => c_X6_readRank5 g r d hO S L B hT p hp c h
  | j + 1, hj => fun S L B hT p hp c h => c_X6_readRankS g r j (d + 1 + j) hr (by omega) (by omega) (RkX_all hr hd hO j (by omega)) S L B hT p hp c h
theorem OpX_all {g : vv_G} : ∀ r, r ≤ 6 → OpX g r (3 + 8 * r)
  | 0, _ => fun S L B hT p hp c h => c_X6_readOperand0 g S L B hT p hp c h
  | r + 1, hr => fun S L B hT p hp c h => c_X6_readOperandS g r (3 + 8 * r) (by omega) (by omega) (OpX_all r (by omega)) (RkX_all (by omega) (by omega) (OpX_all r (by omega)) 5 (by omega)) S L B hT p hp c h
theorem c_X6_expr (g : vv_G) (S : vs_S) (L : Nat) (B : Nat → Int32) (hT : tp S L B) (p : Nat) (hp : p ≤ L) (c : List Int32) (hr : rX S p c) : vs_KV g yX6_readRank cX6_readRank 6 none 57 [vv_r g 48, .int 0, .int 0] S (fun S1 => pX S S1 c (pzE (ah L B) p)) := RkX_all (r := 6) (by omega) (by omega) (OpX_all 6 (by omega)) 5 (by omega) S L B hT p hp c hr
