set_option maxRecDepth 20000 in
theorem c_X12_compared (g : vv_G) (r d : Nat) (hr6 : r ≤ 6) (hd : 3 ≤ d) (hK : RjM g yX12_sums cX12_sums 4 2 r d) (S : vs_S) (L : Nat) (B N : Nat → Int32) (hI : iX S L B N) (p : Nat) (hp : p ≤ L) (hq : qX S p r) : vs_KI g yX12_compared cX12_compared 4 (some .int) (d + 1) [vv_r g 65] S (fun v S1 => zX S S1 (pzR (pzO (ab L B) r) (ab L B) 3 p) ∧ ((pzR (pzO (ab L B) r) (ab L B) 3 p).1 = true → v = (pzR (pzO (ab L B) r) (ab L B) 3 p).2.2.2 N)) := by
  refine vs_ofI (lv := [_, _, _, _]) mb_X12_compared (Nat.le_of_ble_eq_true rfl) rfl (fun x C F => ?_)
  refine vv_aload_n C dX12_compared_0 rfl ?_
  refine vs_calli C dX12_compared_1 (hK S L B N hI p hp hq) mb_X12_sums mv_X12_sums lk_X12_235 ce_65 rfl rfl rfl rfl ⟨by omega, by omega, Nat.le_of_ble_eq_true rfl⟩ (fun r1 S1 p1 => ?_)
  have hL := hI.2.1
  have hpo := pOk_M (B := B) r 2 p hp
  by_cases ht0 : ((pzR (pzO (ab L B) r) (ab L B) 2) p).1 = true
  · have e9 := p1.2 ht0
    subst e9
    have hfin : pzL (pzR (pzO (ab L B) r) (ab L B) 2) (ab L B) 2 1 ((pzR (pzO (ab L B) r) (ab L B) 2) p) = (pzR (pzO (ab L B) r) (ab L B) 3 p) := (if_pos ht0).symm
    rw [pzLS 0] at hfin
    refine vw_istore_n (lv9 := [_, _, _, _]) C dX12_compared_4 (by decide) rfl rfl ?_
    refine vv_aload_n C dX12_compared_5 rfl ?_
    refine vs_caliF C dX12_compared_6 (c_X12_byteAt g S1 L B N (hI.fr p1.1.1) ((pzR (pzO (ab L B) r) (ab L B) 2) p).2.1 hpo.1 p1.1.2.1) mb_X12_byteAt mv_X12_byteAt lk_X12_222 ce_65 rfl rfl rfl rfl ⟨by omega, by omega, Nat.le_of_ble_eq_true rfl⟩ ?_
    refine vw_istore_n (lv9 := [_, _, _, _]) C dX12_compared_9 (by decide) rfl rfl ?_
    refine vv_aload_n C dX12_compared_10 rfl ?_
    refine gf_X12_fault C dX12_compared_11 fg_X12_219 ?_
    refine vv_if_ge (tgt := 35) C dX12_compared_14 (by decide) (fun q14 => ?_) (fun q14 => ?_)
    · exact absurd q14 (nf_m1 (p1.1.2.2.1 ht0).1)
    · skip
      refine vv_iload_n C dX12_compared_17 rfl ?_
      refine vv_bipush C dX12_compared_18 bp_60 ?_
      refine vv_icmp_eq (tgt := 37) C dX12_compared_20 (by decide) (fun q20 => ?_) (fun q20 => ?_)
      · have hk : tkR (ab L B ((pzR (pzO (ab L B) r) (ab L B) 2) p).2.1) = 2 := by rw [q20]; decide
        rw [if_pos hk] at hfin
        have hqL : ((pzR (pzO (ab L B) r) (ab L B) 2) p).2.1 < L := bl_nb ab_bl (tkR_nb (by omega) hk)
        refine vv_aload_n C dX12_compared_37 rfl ?_
        refine vv_dup C dX12_compared_38 rfl ?_
        refine gf_X12_at C dX12_compared_39 fg_X12_210 ?_
        refine vs_eqi (v9 := nI ((pzR (pzO (ab L B) r) (ab L B) 2) p).2.1) (p1.1.2.1) ?_
        refine vv_iconst C dX12_compared_42 ic_1 ?_
        refine vv_iadd C dX12_compared_43 ?_
        refine vs_eqi (v9 := nI (((pzR (pzO (ab L B) r) (ab L B) 2) p).2.1 + 1)) (nI_1 _) ?_
        refine pf_X12_at C dX12_compared_44 fp_X12_210 ?_
        refine vv_aload_n C dX12_compared_47 rfl ?_
        refine vs_calli C dX12_compared_48 (hK (vs_us S1 30 (nI (((pzR (pzO (ab L B) r) (ab L B) 2) p).2.1 + 1))) L B N (hI.fr (p1.1.1.tr (vs_fr.rf.us (by decide)))) (((pzR (pzO (ab L B) r) (ab L B) 2) p).2.1 + 1) hqL ⟨rfl, (p1.1.2.2.1 ht0).1, ((p1.1.2.2.1 ht0).2).trans hq.2.2⟩) mb_X12_sums mv_X12_sums lk_X12_235 ce_65 rfl rfl rfl rfl ⟨by omega, by omega, Nat.le_of_ble_eq_true rfl⟩ (fun r48 S48 p48 => ?_)
        refine vw_istore_n (lv9 := [_, _, _, _]) C dX12_compared_51 (by decide) rfl rfl ?_
        have hyo := pOk_M (B := B) r 2 (((pzR (pzO (ab L B) r) (ab L B) 2) p).2.1 + 1) hqL
        by_cases hy : ((pzR (pzO (ab L B) r) (ab L B) 2) (((pzR (pzO (ab L B) r) (ab L B) 2) p).2.1 + 1)).1 = true
        · rw [if_pos hy] at hfin
          have e9 := p48.2 hy
          subst e9
          refine vv_iload_n C dX12_compared_52 rfl ?_
          refine vv_bipush C dX12_compared_53 bp_60 ?_
          refine vv_icmp_ne (tgt := 66) C dX12_compared_55 (by decide) (fun q55 => ?_) (fun q55 => ?_)
          · refine vv_iload_n C dX12_compared_66 rfl ?_
            refine vv_bipush C dX12_compared_67 bp_61 ?_
            refine vv_icmp_ne (tgt := 80) C dX12_compared_69 (by decide) (fun q69 => ?_) (fun q69 => ?_)
            · refine vv_iload_n C dX12_compared_80 rfl ?_
              refine vv_iload_n C dX12_compared_81 rfl ?_
              refine vv_icmp_le (tgt := 89) C dX12_compared_82 (by decide) (fun q82 => ?_) (fun q82 => ?_)
              · refine vv_iconst C dX12_compared_89 ic_0 ?_
                refine vs_eqi (v9 := tkV (ab L B ((pzR (pzO (ab L B) r) (ab L B) 2) p).2.1) (((pzR (pzO (ab L B) r) (ab L B) 2) p).2.2.2 N) (((pzR (pzO (ab L B) r) (ab L B) 2) (((pzR (pzO (ab L B) r) (ab L B) 2) p).2.1 + 1)).2.2.2 N)) (by
          first
          | exact absurd q20 q55
          | exact absurd q20 q55
          | exact absurd q26 q69
          | exact absurd (q26.symm.trans q55) (by decide)
          | exact absurd (q26.symm.trans q69) (by decide)
          | exact absurd (q32.symm.trans q55) (by decide)
          | exact absurd (q32.symm.trans q69) (by decide)
          | exact (if_neg (Int32.not_lt.mpr q60)).symm.trans (tklt q55)
          | exact (if_pos (Int32.not_le.mp q60)).symm.trans (tklt q55)
          | exact (if_neg q74).symm.trans (tkeq q69)
          | exact (if_pos q74).symm.trans (tkeq q69)
          | exact (if_neg (Int32.not_lt.mpr q82)).symm.trans (tkgt q32)
          | exact (if_pos (Int32.not_le.mp q82)).symm.trans (tkgt q32)) ?_
                exact vs_iret C F dX12_compared_90 rfl ⟨by rw [← hfin]; exact ⟨((p1.1.1.tr (vs_fr.rf.us (by decide))).tr p48.1.1), p48.1.2.1, fun _ => ⟨(p48.1.2.2.1 hy).1, (p48.1.2.2.1 hy).2.trans (p1.1.2.2.1 ht0).2⟩, fun z => absurd rfl z⟩, fun _ => congrArg (fun t9 : pT => t9.2.2.2 N) hfin⟩
              · refine vv_iconst C dX12_compared_85 ic_1 ?_
                refine vv_goto (tgt := 90) C dX12_compared_86 (by decide) ?_
                refine vs_eqi (v9 := tkV (ab L B ((pzR (pzO (ab L B) r) (ab L B) 2) p).2.1) (((pzR (pzO (ab L B) r) (ab L B) 2) p).2.2.2 N) (((pzR (pzO (ab L B) r) (ab L B) 2) (((pzR (pzO (ab L B) r) (ab L B) 2) p).2.1 + 1)).2.2.2 N)) (by
          first
          | exact absurd q20 q55
          | exact absurd q20 q55
          | exact absurd q26 q69
          | exact absurd (q26.symm.trans q55) (by decide)
          | exact absurd (q26.symm.trans q69) (by decide)
          | exact absurd (q32.symm.trans q55) (by decide)
          | exact absurd (q32.symm.trans q69) (by decide)
          | exact (if_neg (Int32.not_lt.mpr q60)).symm.trans (tklt q55)
          | exact (if_pos (Int32.not_le.mp q60)).symm.trans (tklt q55)
          | exact (if_neg q74).symm.trans (tkeq q69)
          | exact (if_pos q74).symm.trans (tkeq q69)
          | exact (if_neg (Int32.not_lt.mpr q82)).symm.trans (tkgt q32)
          | exact (if_pos (Int32.not_le.mp q82)).symm.trans (tkgt q32)) ?_
                exact vs_iret C F dX12_compared_90 rfl ⟨by rw [← hfin]; exact ⟨((p1.1.1.tr (vs_fr.rf.us (by decide))).tr p48.1.1), p48.1.2.1, fun _ => ⟨(p48.1.2.2.1 hy).1, (p48.1.2.2.1 hy).2.trans (p1.1.2.2.1 ht0).2⟩, fun z => absurd rfl z⟩, fun _ => congrArg (fun t9 : pT => t9.2.2.2 N) hfin⟩
            · refine vv_iload_n C dX12_compared_72 rfl ?_
              refine vv_iload_n C dX12_compared_73 rfl ?_
              refine vv_icmp_ne (tgt := 89) C dX12_compared_74 (by decide) (fun q74 => ?_) (fun q74 => ?_)
              · refine vv_iconst C dX12_compared_89 ic_0 ?_
                refine vs_eqi (v9 := tkV (ab L B ((pzR (pzO (ab L B) r) (ab L B) 2) p).2.1) (((pzR (pzO (ab L B) r) (ab L B) 2) p).2.2.2 N) (((pzR (pzO (ab L B) r) (ab L B) 2) (((pzR (pzO (ab L B) r) (ab L B) 2) p).2.1 + 1)).2.2.2 N)) (by
          first
          | exact absurd q20 q55
          | exact absurd q20 q55
          | exact absurd q26 q69
          | exact absurd (q26.symm.trans q55) (by decide)
          | exact absurd (q26.symm.trans q69) (by decide)
          | exact absurd (q32.symm.trans q55) (by decide)
          | exact absurd (q32.symm.trans q69) (by decide)
          | exact (if_neg (Int32.not_lt.mpr q60)).symm.trans (tklt q55)
          | exact (if_pos (Int32.not_le.mp q60)).symm.trans (tklt q55)
          | exact (if_neg q74).symm.trans (tkeq q69)
          | exact (if_pos q74).symm.trans (tkeq q69)
          | exact (if_neg (Int32.not_lt.mpr q82)).symm.trans (tkgt q32)
          | exact (if_pos (Int32.not_le.mp q82)).symm.trans (tkgt q32)) ?_
                exact vs_iret C F dX12_compared_90 rfl ⟨by rw [← hfin]; exact ⟨((p1.1.1.tr (vs_fr.rf.us (by decide))).tr p48.1.1), p48.1.2.1, fun _ => ⟨(p48.1.2.2.1 hy).1, (p48.1.2.2.1 hy).2.trans (p1.1.2.2.1 ht0).2⟩, fun z => absurd rfl z⟩, fun _ => congrArg (fun t9 : pT => t9.2.2.2 N) hfin⟩
              · refine vv_goto (tgt := 85) C dX12_compared_77 (by decide) ?_
                refine vv_iconst C dX12_compared_85 ic_1 ?_
                refine vv_goto (tgt := 90) C dX12_compared_86 (by decide) ?_
                refine vs_eqi (v9 := tkV (ab L B ((pzR (pzO (ab L B) r) (ab L B) 2) p).2.1) (((pzR (pzO (ab L B) r) (ab L B) 2) p).2.2.2 N) (((pzR (pzO (ab L B) r) (ab L B) 2) (((pzR (pzO (ab L B) r) (ab L B) 2) p).2.1 + 1)).2.2.2 N)) (by
          first
          | exact absurd q20 q55
          | exact absurd q20 q55
          | exact absurd q26 q69
          | exact absurd (q26.symm.trans q55) (by decide)
          | exact absurd (q26.symm.trans q69) (by decide)
          | exact absurd (q32.symm.trans q55) (by decide)
          | exact absurd (q32.symm.trans q69) (by decide)
          | exact (if_neg (Int32.not_lt.mpr q60)).symm.trans (tklt q55)
          | exact (if_pos (Int32.not_le.mp q60)).symm.trans (tklt q55)
          | exact (if_neg q74).symm.trans (tkeq q69)
          | exact (if_pos q74).symm.trans (tkeq q69)
          | exact (if_neg (Int32.not_lt.mpr q82)).symm.trans (tkgt q32)
          | exact (if_pos (Int32.not_le.mp q82)).symm.trans (tkgt q32)) ?_
                exact vs_iret C F dX12_compared_90 rfl ⟨by rw [← hfin]; exact ⟨((p1.1.1.tr (vs_fr.rf.us (by decide))).tr p48.1.1), p48.1.2.1, fun _ => ⟨(p48.1.2.2.1 hy).1, (p48.1.2.2.1 hy).2.trans (p1.1.2.2.1 ht0).2⟩, fun z => absurd rfl z⟩, fun _ => congrArg (fun t9 : pT => t9.2.2.2 N) hfin⟩
          · refine vv_iload_n C dX12_compared_58 rfl ?_
            refine vv_iload_n C dX12_compared_59 rfl ?_
            refine vv_icmp_ge (tgt := 89) C dX12_compared_60 (by decide) (fun q60 => ?_) (fun q60 => ?_)
            · refine vv_iconst C dX12_compared_89 ic_0 ?_
              refine vs_eqi (v9 := tkV (ab L B ((pzR (pzO (ab L B) r) (ab L B) 2) p).2.1) (((pzR (pzO (ab L B) r) (ab L B) 2) p).2.2.2 N) (((pzR (pzO (ab L B) r) (ab L B) 2) (((pzR (pzO (ab L B) r) (ab L B) 2) p).2.1 + 1)).2.2.2 N)) (by
          first
          | exact absurd q20 q55
          | exact absurd q20 q55
          | exact absurd q26 q69
          | exact absurd (q26.symm.trans q55) (by decide)
          | exact absurd (q26.symm.trans q69) (by decide)
          | exact absurd (q32.symm.trans q55) (by decide)
          | exact absurd (q32.symm.trans q69) (by decide)
          | exact (if_neg (Int32.not_lt.mpr q60)).symm.trans (tklt q55)
          | exact (if_pos (Int32.not_le.mp q60)).symm.trans (tklt q55)
          | exact (if_neg q74).symm.trans (tkeq q69)
          | exact (if_pos q74).symm.trans (tkeq q69)
          | exact (if_neg (Int32.not_lt.mpr q82)).symm.trans (tkgt q32)
          | exact (if_pos (Int32.not_le.mp q82)).symm.trans (tkgt q32)) ?_
              exact vs_iret C F dX12_compared_90 rfl ⟨by rw [← hfin]; exact ⟨((p1.1.1.tr (vs_fr.rf.us (by decide))).tr p48.1.1), p48.1.2.1, fun _ => ⟨(p48.1.2.2.1 hy).1, (p48.1.2.2.1 hy).2.trans (p1.1.2.2.1 ht0).2⟩, fun z => absurd rfl z⟩, fun _ => congrArg (fun t9 : pT => t9.2.2.2 N) hfin⟩
            · refine vv_goto (tgt := 85) C dX12_compared_63 (by decide) ?_
              refine vv_iconst C dX12_compared_85 ic_1 ?_
              refine vv_goto (tgt := 90) C dX12_compared_86 (by decide) ?_
              refine vs_eqi (v9 := tkV (ab L B ((pzR (pzO (ab L B) r) (ab L B) 2) p).2.1) (((pzR (pzO (ab L B) r) (ab L B) 2) p).2.2.2 N) (((pzR (pzO (ab L B) r) (ab L B) 2) (((pzR (pzO (ab L B) r) (ab L B) 2) p).2.1 + 1)).2.2.2 N)) (by
          first
          | exact absurd q20 q55
          | exact absurd q20 q55
          | exact absurd q26 q69
          | exact absurd (q26.symm.trans q55) (by decide)
          | exact absurd (q26.symm.trans q69) (by decide)
          | exact absurd (q32.symm.trans q55) (by decide)
          | exact absurd (q32.symm.trans q69) (by decide)
          | exact (if_neg (Int32.not_lt.mpr q60)).symm.trans (tklt q55)
          | exact (if_pos (Int32.not_le.mp q60)).symm.trans (tklt q55)
          | exact (if_neg q74).symm.trans (tkeq q69)
          | exact (if_pos q74).symm.trans (tkeq q69)
          | exact (if_neg (Int32.not_lt.mpr q82)).symm.trans (tkgt q32)
          | exact (if_pos (Int32.not_le.mp q82)).symm.trans (tkgt q32)) ?_
              exact vs_iret C F dX12_compared_90 rfl ⟨by rw [← hfin]; exact ⟨((p1.1.1.tr (vs_fr.rf.us (by decide))).tr p48.1.1), p48.1.2.1, fun _ => ⟨(p48.1.2.2.1 hy).1, (p48.1.2.2.1 hy).2.trans (p1.1.2.2.1 ht0).2⟩, fun z => absurd rfl z⟩, fun _ => congrArg (fun t9 : pT => t9.2.2.2 N) hfin⟩
        · rw [if_neg hy] at hfin
          refine vv_iload_n C dX12_compared_52 rfl ?_
          refine vv_bipush C dX12_compared_53 bp_60 ?_
          refine vv_icmp_ne (tgt := 66) C dX12_compared_55 (by decide) (fun q55 => ?_) (fun q55 => ?_)
          · refine vv_iload_n C dX12_compared_66 rfl ?_
            refine vv_bipush C dX12_compared_67 bp_61 ?_
            refine vv_icmp_ne (tgt := 80) C dX12_compared_69 (by decide) (fun q69 => ?_) (fun q69 => ?_)
            · refine vv_iload_n C dX12_compared_80 rfl ?_
              refine vv_iload_n C dX12_compared_81 rfl ?_
              refine vv_icmp_le (tgt := 89) C dX12_compared_82 (by decide) (fun q82 => ?_) (fun q82 => ?_)
              · refine vv_iconst C dX12_compared_89 ic_0 ?_
                exact vs_iret C F dX12_compared_90 rfl ⟨by rw [← hfin]; exact ⟨((p1.1.1.tr (vs_fr.rf.us (by decide))).tr p48.1.1), p48.1.2.1, fun z => absurd (show false = true from z) (by decide), fun _ => p48.1.2.2.2 hy⟩, fun z => by rw [← hfin] at z; cases z⟩
              · refine vv_iconst C dX12_compared_85 ic_1 ?_
                refine vv_goto (tgt := 90) C dX12_compared_86 (by decide) ?_
                exact vs_iret C F dX12_compared_90 rfl ⟨by rw [← hfin]; exact ⟨((p1.1.1.tr (vs_fr.rf.us (by decide))).tr p48.1.1), p48.1.2.1, fun z => absurd (show false = true from z) (by decide), fun _ => p48.1.2.2.2 hy⟩, fun z => by rw [← hfin] at z; cases z⟩
            · refine vv_iload_n C dX12_compared_72 rfl ?_
              refine vv_iload_n C dX12_compared_73 rfl ?_
              refine vv_icmp_ne (tgt := 89) C dX12_compared_74 (by decide) (fun q74 => ?_) (fun q74 => ?_)
              · refine vv_iconst C dX12_compared_89 ic_0 ?_
                exact vs_iret C F dX12_compared_90 rfl ⟨by rw [← hfin]; exact ⟨((p1.1.1.tr (vs_fr.rf.us (by decide))).tr p48.1.1), p48.1.2.1, fun z => absurd (show false = true from z) (by decide), fun _ => p48.1.2.2.2 hy⟩, fun z => by rw [← hfin] at z; cases z⟩
              · refine vv_goto (tgt := 85) C dX12_compared_77 (by decide) ?_
                refine vv_iconst C dX12_compared_85 ic_1 ?_
                refine vv_goto (tgt := 90) C dX12_compared_86 (by decide) ?_
                exact vs_iret C F dX12_compared_90 rfl ⟨by rw [← hfin]; exact ⟨((p1.1.1.tr (vs_fr.rf.us (by decide))).tr p48.1.1), p48.1.2.1, fun z => absurd (show false = true from z) (by decide), fun _ => p48.1.2.2.2 hy⟩, fun z => by rw [← hfin] at z; cases z⟩
          · refine vv_iload_n C dX12_compared_58 rfl ?_
            refine vv_iload_n C dX12_compared_59 rfl ?_
            refine vv_icmp_ge (tgt := 89) C dX12_compared_60 (by decide) (fun q60 => ?_) (fun q60 => ?_)
            · refine vv_iconst C dX12_compared_89 ic_0 ?_
              exact vs_iret C F dX12_compared_90 rfl ⟨by rw [← hfin]; exact ⟨((p1.1.1.tr (vs_fr.rf.us (by decide))).tr p48.1.1), p48.1.2.1, fun z => absurd (show false = true from z) (by decide), fun _ => p48.1.2.2.2 hy⟩, fun z => by rw [← hfin] at z; cases z⟩
            · refine vv_goto (tgt := 85) C dX12_compared_63 (by decide) ?_
              refine vv_iconst C dX12_compared_85 ic_1 ?_
              refine vv_goto (tgt := 90) C dX12_compared_86 (by decide) ?_
              exact vs_iret C F dX12_compared_90 rfl ⟨by rw [← hfin]; exact ⟨((p1.1.1.tr (vs_fr.rf.us (by decide))).tr p48.1.1), p48.1.2.1, fun z => absurd (show false = true from z) (by decide), fun _ => p48.1.2.2.2 hy⟩, fun z => by rw [← hfin] at z; cases z⟩
      · skip
        refine vv_iload_n C dX12_compared_23 rfl ?_
        refine vv_bipush C dX12_compared_24 bp_61 ?_
        refine vv_icmp_eq (tgt := 37) C dX12_compared_26 (by decide) (fun q26 => ?_) (fun q26 => ?_)
        · have hk : tkR (ab L B ((pzR (pzO (ab L B) r) (ab L B) 2) p).2.1) = 2 := by rw [q26]; decide
          rw [if_pos hk] at hfin
          have hqL : ((pzR (pzO (ab L B) r) (ab L B) 2) p).2.1 < L := bl_nb ab_bl (tkR_nb (by omega) hk)
          refine vv_aload_n C dX12_compared_37 rfl ?_
          refine vv_dup C dX12_compared_38 rfl ?_
          refine gf_X12_at C dX12_compared_39 fg_X12_210 ?_
          refine vs_eqi (v9 := nI ((pzR (pzO (ab L B) r) (ab L B) 2) p).2.1) (p1.1.2.1) ?_
          refine vv_iconst C dX12_compared_42 ic_1 ?_
          refine vv_iadd C dX12_compared_43 ?_
          refine vs_eqi (v9 := nI (((pzR (pzO (ab L B) r) (ab L B) 2) p).2.1 + 1)) (nI_1 _) ?_
          refine pf_X12_at C dX12_compared_44 fp_X12_210 ?_
          refine vv_aload_n C dX12_compared_47 rfl ?_
          refine vs_calli C dX12_compared_48 (hK (vs_us S1 30 (nI (((pzR (pzO (ab L B) r) (ab L B) 2) p).2.1 + 1))) L B N (hI.fr (p1.1.1.tr (vs_fr.rf.us (by decide)))) (((pzR (pzO (ab L B) r) (ab L B) 2) p).2.1 + 1) hqL ⟨rfl, (p1.1.2.2.1 ht0).1, ((p1.1.2.2.1 ht0).2).trans hq.2.2⟩) mb_X12_sums mv_X12_sums lk_X12_235 ce_65 rfl rfl rfl rfl ⟨by omega, by omega, Nat.le_of_ble_eq_true rfl⟩ (fun r48 S48 p48 => ?_)
          refine vw_istore_n (lv9 := [_, _, _, _]) C dX12_compared_51 (by decide) rfl rfl ?_
          have hyo := pOk_M (B := B) r 2 (((pzR (pzO (ab L B) r) (ab L B) 2) p).2.1 + 1) hqL
          by_cases hy : ((pzR (pzO (ab L B) r) (ab L B) 2) (((pzR (pzO (ab L B) r) (ab L B) 2) p).2.1 + 1)).1 = true
          · rw [if_pos hy] at hfin
            have e9 := p48.2 hy
            subst e9
            refine vv_iload_n C dX12_compared_52 rfl ?_
            refine vv_bipush C dX12_compared_53 bp_60 ?_
            refine vv_icmp_ne (tgt := 66) C dX12_compared_55 (by decide) (fun q55 => ?_) (fun q55 => ?_)
            · refine vv_iload_n C dX12_compared_66 rfl ?_
              refine vv_bipush C dX12_compared_67 bp_61 ?_
              refine vv_icmp_ne (tgt := 80) C dX12_compared_69 (by decide) (fun q69 => ?_) (fun q69 => ?_)
              · refine vv_iload_n C dX12_compared_80 rfl ?_
                refine vv_iload_n C dX12_compared_81 rfl ?_
                refine vv_icmp_le (tgt := 89) C dX12_compared_82 (by decide) (fun q82 => ?_) (fun q82 => ?_)
                · refine vv_iconst C dX12_compared_89 ic_0 ?_
                  refine vs_eqi (v9 := tkV (ab L B ((pzR (pzO (ab L B) r) (ab L B) 2) p).2.1) (((pzR (pzO (ab L B) r) (ab L B) 2) p).2.2.2 N) (((pzR (pzO (ab L B) r) (ab L B) 2) (((pzR (pzO (ab L B) r) (ab L B) 2) p).2.1 + 1)).2.2.2 N)) (by
            first
            | exact absurd q20 q55
            | exact absurd q20 q55
            | exact absurd q26 q69
            | exact absurd (q26.symm.trans q55) (by decide)
            | exact absurd (q26.symm.trans q69) (by decide)
            | exact absurd (q32.symm.trans q55) (by decide)
            | exact absurd (q32.symm.trans q69) (by decide)
            | exact (if_neg (Int32.not_lt.mpr q60)).symm.trans (tklt q55)
            | exact (if_pos (Int32.not_le.mp q60)).symm.trans (tklt q55)
            | exact (if_neg q74).symm.trans (tkeq q69)
            | exact (if_pos q74).symm.trans (tkeq q69)
            | exact (if_neg (Int32.not_lt.mpr q82)).symm.trans (tkgt q32)
            | exact (if_pos (Int32.not_le.mp q82)).symm.trans (tkgt q32)) ?_
                  exact vs_iret C F dX12_compared_90 rfl ⟨by rw [← hfin]; exact ⟨((p1.1.1.tr (vs_fr.rf.us (by decide))).tr p48.1.1), p48.1.2.1, fun _ => ⟨(p48.1.2.2.1 hy).1, (p48.1.2.2.1 hy).2.trans (p1.1.2.2.1 ht0).2⟩, fun z => absurd rfl z⟩, fun _ => congrArg (fun t9 : pT => t9.2.2.2 N) hfin⟩
                · refine vv_iconst C dX12_compared_85 ic_1 ?_
                  refine vv_goto (tgt := 90) C dX12_compared_86 (by decide) ?_
                  refine vs_eqi (v9 := tkV (ab L B ((pzR (pzO (ab L B) r) (ab L B) 2) p).2.1) (((pzR (pzO (ab L B) r) (ab L B) 2) p).2.2.2 N) (((pzR (pzO (ab L B) r) (ab L B) 2) (((pzR (pzO (ab L B) r) (ab L B) 2) p).2.1 + 1)).2.2.2 N)) (by
            first
            | exact absurd q20 q55
            | exact absurd q20 q55
            | exact absurd q26 q69
            | exact absurd (q26.symm.trans q55) (by decide)
            | exact absurd (q26.symm.trans q69) (by decide)
            | exact absurd (q32.symm.trans q55) (by decide)
            | exact absurd (q32.symm.trans q69) (by decide)
            | exact (if_neg (Int32.not_lt.mpr q60)).symm.trans (tklt q55)
            | exact (if_pos (Int32.not_le.mp q60)).symm.trans (tklt q55)
            | exact (if_neg q74).symm.trans (tkeq q69)
            | exact (if_pos q74).symm.trans (tkeq q69)
            | exact (if_neg (Int32.not_lt.mpr q82)).symm.trans (tkgt q32)
            | exact (if_pos (Int32.not_le.mp q82)).symm.trans (tkgt q32)) ?_
                  exact vs_iret C F dX12_compared_90 rfl ⟨by rw [← hfin]; exact ⟨((p1.1.1.tr (vs_fr.rf.us (by decide))).tr p48.1.1), p48.1.2.1, fun _ => ⟨(p48.1.2.2.1 hy).1, (p48.1.2.2.1 hy).2.trans (p1.1.2.2.1 ht0).2⟩, fun z => absurd rfl z⟩, fun _ => congrArg (fun t9 : pT => t9.2.2.2 N) hfin⟩
              · refine vv_iload_n C dX12_compared_72 rfl ?_
                refine vv_iload_n C dX12_compared_73 rfl ?_
                refine vv_icmp_ne (tgt := 89) C dX12_compared_74 (by decide) (fun q74 => ?_) (fun q74 => ?_)
                · refine vv_iconst C dX12_compared_89 ic_0 ?_
                  refine vs_eqi (v9 := tkV (ab L B ((pzR (pzO (ab L B) r) (ab L B) 2) p).2.1) (((pzR (pzO (ab L B) r) (ab L B) 2) p).2.2.2 N) (((pzR (pzO (ab L B) r) (ab L B) 2) (((pzR (pzO (ab L B) r) (ab L B) 2) p).2.1 + 1)).2.2.2 N)) (by
            first
            | exact absurd q20 q55
            | exact absurd q20 q55
            | exact absurd q26 q69
            | exact absurd (q26.symm.trans q55) (by decide)
            | exact absurd (q26.symm.trans q69) (by decide)
            | exact absurd (q32.symm.trans q55) (by decide)
            | exact absurd (q32.symm.trans q69) (by decide)
            | exact (if_neg (Int32.not_lt.mpr q60)).symm.trans (tklt q55)
            | exact (if_pos (Int32.not_le.mp q60)).symm.trans (tklt q55)
            | exact (if_neg q74).symm.trans (tkeq q69)
            | exact (if_pos q74).symm.trans (tkeq q69)
            | exact (if_neg (Int32.not_lt.mpr q82)).symm.trans (tkgt q32)
            | exact (if_pos (Int32.not_le.mp q82)).symm.trans (tkgt q32)) ?_
                  exact vs_iret C F dX12_compared_90 rfl ⟨by rw [← hfin]; exact ⟨((p1.1.1.tr (vs_fr.rf.us (by decide))).tr p48.1.1), p48.1.2.1, fun _ => ⟨(p48.1.2.2.1 hy).1, (p48.1.2.2.1 hy).2.trans (p1.1.2.2.1 ht0).2⟩, fun z => absurd rfl z⟩, fun _ => congrArg (fun t9 : pT => t9.2.2.2 N) hfin⟩
                · refine vv_goto (tgt := 85) C dX12_compared_77 (by decide) ?_
                  refine vv_iconst C dX12_compared_85 ic_1 ?_
                  refine vv_goto (tgt := 90) C dX12_compared_86 (by decide) ?_
                  refine vs_eqi (v9 := tkV (ab L B ((pzR (pzO (ab L B) r) (ab L B) 2) p).2.1) (((pzR (pzO (ab L B) r) (ab L B) 2) p).2.2.2 N) (((pzR (pzO (ab L B) r) (ab L B) 2) (((pzR (pzO (ab L B) r) (ab L B) 2) p).2.1 + 1)).2.2.2 N)) (by
            first
            | exact absurd q20 q55
            | exact absurd q20 q55
            | exact absurd q26 q69
            | exact absurd (q26.symm.trans q55) (by decide)
            | exact absurd (q26.symm.trans q69) (by decide)
            | exact absurd (q32.symm.trans q55) (by decide)
            | exact absurd (q32.symm.trans q69) (by decide)
            | exact (if_neg (Int32.not_lt.mpr q60)).symm.trans (tklt q55)
            | exact (if_pos (Int32.not_le.mp q60)).symm.trans (tklt q55)
            | exact (if_neg q74).symm.trans (tkeq q69)
            | exact (if_pos q74).symm.trans (tkeq q69)
            | exact (if_neg (Int32.not_lt.mpr q82)).symm.trans (tkgt q32)
            | exact (if_pos (Int32.not_le.mp q82)).symm.trans (tkgt q32)) ?_
                  exact vs_iret C F dX12_compared_90 rfl ⟨by rw [← hfin]; exact ⟨((p1.1.1.tr (vs_fr.rf.us (by decide))).tr p48.1.1), p48.1.2.1, fun _ => ⟨(p48.1.2.2.1 hy).1, (p48.1.2.2.1 hy).2.trans (p1.1.2.2.1 ht0).2⟩, fun z => absurd rfl z⟩, fun _ => congrArg (fun t9 : pT => t9.2.2.2 N) hfin⟩
            · refine vv_iload_n C dX12_compared_58 rfl ?_
              refine vv_iload_n C dX12_compared_59 rfl ?_
              refine vv_icmp_ge (tgt := 89) C dX12_compared_60 (by decide) (fun q60 => ?_) (fun q60 => ?_)
              · refine vv_iconst C dX12_compared_89 ic_0 ?_
                refine vs_eqi (v9 := tkV (ab L B ((pzR (pzO (ab L B) r) (ab L B) 2) p).2.1) (((pzR (pzO (ab L B) r) (ab L B) 2) p).2.2.2 N) (((pzR (pzO (ab L B) r) (ab L B) 2) (((pzR (pzO (ab L B) r) (ab L B) 2) p).2.1 + 1)).2.2.2 N)) (by
            first
            | exact absurd q20 q55
            | exact absurd q20 q55
            | exact absurd q26 q69
            | exact absurd (q26.symm.trans q55) (by decide)
            | exact absurd (q26.symm.trans q69) (by decide)
            | exact absurd (q32.symm.trans q55) (by decide)
            | exact absurd (q32.symm.trans q69) (by decide)
            | exact (if_neg (Int32.not_lt.mpr q60)).symm.trans (tklt q55)
            | exact (if_pos (Int32.not_le.mp q60)).symm.trans (tklt q55)
            | exact (if_neg q74).symm.trans (tkeq q69)
            | exact (if_pos q74).symm.trans (tkeq q69)
            | exact (if_neg (Int32.not_lt.mpr q82)).symm.trans (tkgt q32)
            | exact (if_pos (Int32.not_le.mp q82)).symm.trans (tkgt q32)) ?_
                exact vs_iret C F dX12_compared_90 rfl ⟨by rw [← hfin]; exact ⟨((p1.1.1.tr (vs_fr.rf.us (by decide))).tr p48.1.1), p48.1.2.1, fun _ => ⟨(p48.1.2.2.1 hy).1, (p48.1.2.2.1 hy).2.trans (p1.1.2.2.1 ht0).2⟩, fun z => absurd rfl z⟩, fun _ => congrArg (fun t9 : pT => t9.2.2.2 N) hfin⟩
              · refine vv_goto (tgt := 85) C dX12_compared_63 (by decide) ?_
                refine vv_iconst C dX12_compared_85 ic_1 ?_
                refine vv_goto (tgt := 90) C dX12_compared_86 (by decide) ?_
                refine vs_eqi (v9 := tkV (ab L B ((pzR (pzO (ab L B) r) (ab L B) 2) p).2.1) (((pzR (pzO (ab L B) r) (ab L B) 2) p).2.2.2 N) (((pzR (pzO (ab L B) r) (ab L B) 2) (((pzR (pzO (ab L B) r) (ab L B) 2) p).2.1 + 1)).2.2.2 N)) (by
            first
            | exact absurd q20 q55
            | exact absurd q20 q55
            | exact absurd q26 q69
            | exact absurd (q26.symm.trans q55) (by decide)
            | exact absurd (q26.symm.trans q69) (by decide)
            | exact absurd (q32.symm.trans q55) (by decide)
            | exact absurd (q32.symm.trans q69) (by decide)
            | exact (if_neg (Int32.not_lt.mpr q60)).symm.trans (tklt q55)
            | exact (if_pos (Int32.not_le.mp q60)).symm.trans (tklt q55)
            | exact (if_neg q74).symm.trans (tkeq q69)
            | exact (if_pos q74).symm.trans (tkeq q69)
            | exact (if_neg (Int32.not_lt.mpr q82)).symm.trans (tkgt q32)
            | exact (if_pos (Int32.not_le.mp q82)).symm.trans (tkgt q32)) ?_
                exact vs_iret C F dX12_compared_90 rfl ⟨by rw [← hfin]; exact ⟨((p1.1.1.tr (vs_fr.rf.us (by decide))).tr p48.1.1), p48.1.2.1, fun _ => ⟨(p48.1.2.2.1 hy).1, (p48.1.2.2.1 hy).2.trans (p1.1.2.2.1 ht0).2⟩, fun z => absurd rfl z⟩, fun _ => congrArg (fun t9 : pT => t9.2.2.2 N) hfin⟩
          · rw [if_neg hy] at hfin
            refine vv_iload_n C dX12_compared_52 rfl ?_
            refine vv_bipush C dX12_compared_53 bp_60 ?_
            refine vv_icmp_ne (tgt := 66) C dX12_compared_55 (by decide) (fun q55 => ?_) (fun q55 => ?_)
            · refine vv_iload_n C dX12_compared_66 rfl ?_
              refine vv_bipush C dX12_compared_67 bp_61 ?_
              refine vv_icmp_ne (tgt := 80) C dX12_compared_69 (by decide) (fun q69 => ?_) (fun q69 => ?_)
              · refine vv_iload_n C dX12_compared_80 rfl ?_
                refine vv_iload_n C dX12_compared_81 rfl ?_
                refine vv_icmp_le (tgt := 89) C dX12_compared_82 (by decide) (fun q82 => ?_) (fun q82 => ?_)
                · refine vv_iconst C dX12_compared_89 ic_0 ?_
                  exact vs_iret C F dX12_compared_90 rfl ⟨by rw [← hfin]; exact ⟨((p1.1.1.tr (vs_fr.rf.us (by decide))).tr p48.1.1), p48.1.2.1, fun z => absurd (show false = true from z) (by decide), fun _ => p48.1.2.2.2 hy⟩, fun z => by rw [← hfin] at z; cases z⟩
                · refine vv_iconst C dX12_compared_85 ic_1 ?_
                  refine vv_goto (tgt := 90) C dX12_compared_86 (by decide) ?_
                  exact vs_iret C F dX12_compared_90 rfl ⟨by rw [← hfin]; exact ⟨((p1.1.1.tr (vs_fr.rf.us (by decide))).tr p48.1.1), p48.1.2.1, fun z => absurd (show false = true from z) (by decide), fun _ => p48.1.2.2.2 hy⟩, fun z => by rw [← hfin] at z; cases z⟩
              · refine vv_iload_n C dX12_compared_72 rfl ?_
                refine vv_iload_n C dX12_compared_73 rfl ?_
                refine vv_icmp_ne (tgt := 89) C dX12_compared_74 (by decide) (fun q74 => ?_) (fun q74 => ?_)
                · refine vv_iconst C dX12_compared_89 ic_0 ?_
                  exact vs_iret C F dX12_compared_90 rfl ⟨by rw [← hfin]; exact ⟨((p1.1.1.tr (vs_fr.rf.us (by decide))).tr p48.1.1), p48.1.2.1, fun z => absurd (show false = true from z) (by decide), fun _ => p48.1.2.2.2 hy⟩, fun z => by rw [← hfin] at z; cases z⟩
                · refine vv_goto (tgt := 85) C dX12_compared_77 (by decide) ?_
                  refine vv_iconst C dX12_compared_85 ic_1 ?_
                  refine vv_goto (tgt := 90) C dX12_compared_86 (by decide) ?_
                  exact vs_iret C F dX12_compared_90 rfl ⟨by rw [← hfin]; exact ⟨((p1.1.1.tr (vs_fr.rf.us (by decide))).tr p48.1.1), p48.1.2.1, fun z => absurd (show false = true from z) (by decide), fun _ => p48.1.2.2.2 hy⟩, fun z => by rw [← hfin] at z; cases z⟩
            · refine vv_iload_n C dX12_compared_58 rfl ?_
              refine vv_iload_n C dX12_compared_59 rfl ?_
              refine vv_icmp_ge (tgt := 89) C dX12_compared_60 (by decide) (fun q60 => ?_) (fun q60 => ?_)
              · refine vv_iconst C dX12_compared_89 ic_0 ?_
                exact vs_iret C F dX12_compared_90 rfl ⟨by rw [← hfin]; exact ⟨((p1.1.1.tr (vs_fr.rf.us (by decide))).tr p48.1.1), p48.1.2.1, fun z => absurd (show false = true from z) (by decide), fun _ => p48.1.2.2.2 hy⟩, fun z => by rw [← hfin] at z; cases z⟩
              · refine vv_goto (tgt := 85) C dX12_compared_63 (by decide) ?_
                refine vv_iconst C dX12_compared_85 ic_1 ?_
                refine vv_goto (tgt := 90) C dX12_compared_86 (by decide) ?_
                exact vs_iret C F dX12_compared_90 rfl ⟨by rw [← hfin]; exact ⟨((p1.1.1.tr (vs_fr.rf.us (by decide))).tr p48.1.1), p48.1.2.1, fun z => absurd (show false = true from z) (by decide), fun _ => p48.1.2.2.2 hy⟩, fun z => by rw [← hfin] at z; cases z⟩
        · skip
          refine vv_iload_n C dX12_compared_29 rfl ?_
          refine vv_bipush C dX12_compared_30 bp_62 ?_
          refine vv_icmp_eq (tgt := 37) C dX12_compared_32 (by decide) (fun q32 => ?_) (fun q32 => ?_)
          · have hk : tkR (ab L B ((pzR (pzO (ab L B) r) (ab L B) 2) p).2.1) = 2 := by rw [q32]; decide
            rw [if_pos hk] at hfin
            have hqL : ((pzR (pzO (ab L B) r) (ab L B) 2) p).2.1 < L := bl_nb ab_bl (tkR_nb (by omega) hk)
            refine vv_aload_n C dX12_compared_37 rfl ?_
            refine vv_dup C dX12_compared_38 rfl ?_
            refine gf_X12_at C dX12_compared_39 fg_X12_210 ?_
            refine vs_eqi (v9 := nI ((pzR (pzO (ab L B) r) (ab L B) 2) p).2.1) (p1.1.2.1) ?_
            refine vv_iconst C dX12_compared_42 ic_1 ?_
            refine vv_iadd C dX12_compared_43 ?_
            refine vs_eqi (v9 := nI (((pzR (pzO (ab L B) r) (ab L B) 2) p).2.1 + 1)) (nI_1 _) ?_
            refine pf_X12_at C dX12_compared_44 fp_X12_210 ?_
            refine vv_aload_n C dX12_compared_47 rfl ?_
            refine vs_calli C dX12_compared_48 (hK (vs_us S1 30 (nI (((pzR (pzO (ab L B) r) (ab L B) 2) p).2.1 + 1))) L B N (hI.fr (p1.1.1.tr (vs_fr.rf.us (by decide)))) (((pzR (pzO (ab L B) r) (ab L B) 2) p).2.1 + 1) hqL ⟨rfl, (p1.1.2.2.1 ht0).1, ((p1.1.2.2.1 ht0).2).trans hq.2.2⟩) mb_X12_sums mv_X12_sums lk_X12_235 ce_65 rfl rfl rfl rfl ⟨by omega, by omega, Nat.le_of_ble_eq_true rfl⟩ (fun r48 S48 p48 => ?_)
            refine vw_istore_n (lv9 := [_, _, _, _]) C dX12_compared_51 (by decide) rfl rfl ?_
            have hyo := pOk_M (B := B) r 2 (((pzR (pzO (ab L B) r) (ab L B) 2) p).2.1 + 1) hqL
            by_cases hy : ((pzR (pzO (ab L B) r) (ab L B) 2) (((pzR (pzO (ab L B) r) (ab L B) 2) p).2.1 + 1)).1 = true
            · rw [if_pos hy] at hfin
              have e9 := p48.2 hy
              subst e9
              refine vv_iload_n C dX12_compared_52 rfl ?_
              refine vv_bipush C dX12_compared_53 bp_60 ?_
              refine vv_icmp_ne (tgt := 66) C dX12_compared_55 (by decide) (fun q55 => ?_) (fun q55 => ?_)
              · refine vv_iload_n C dX12_compared_66 rfl ?_
                refine vv_bipush C dX12_compared_67 bp_61 ?_
                refine vv_icmp_ne (tgt := 80) C dX12_compared_69 (by decide) (fun q69 => ?_) (fun q69 => ?_)
                · refine vv_iload_n C dX12_compared_80 rfl ?_
                  refine vv_iload_n C dX12_compared_81 rfl ?_
                  refine vv_icmp_le (tgt := 89) C dX12_compared_82 (by decide) (fun q82 => ?_) (fun q82 => ?_)
                  · refine vv_iconst C dX12_compared_89 ic_0 ?_
                    refine vs_eqi (v9 := tkV (ab L B ((pzR (pzO (ab L B) r) (ab L B) 2) p).2.1) (((pzR (pzO (ab L B) r) (ab L B) 2) p).2.2.2 N) (((pzR (pzO (ab L B) r) (ab L B) 2) (((pzR (pzO (ab L B) r) (ab L B) 2) p).2.1 + 1)).2.2.2 N)) (by
              first
              | exact absurd q20 q55
              | exact absurd q20 q55
              | exact absurd q26 q69
              | exact absurd (q26.symm.trans q55) (by decide)
              | exact absurd (q26.symm.trans q69) (by decide)
              | exact absurd (q32.symm.trans q55) (by decide)
              | exact absurd (q32.symm.trans q69) (by decide)
              | exact (if_neg (Int32.not_lt.mpr q60)).symm.trans (tklt q55)
              | exact (if_pos (Int32.not_le.mp q60)).symm.trans (tklt q55)
              | exact (if_neg q74).symm.trans (tkeq q69)
              | exact (if_pos q74).symm.trans (tkeq q69)
              | exact (if_neg (Int32.not_lt.mpr q82)).symm.trans (tkgt q32)
              | exact (if_pos (Int32.not_le.mp q82)).symm.trans (tkgt q32)) ?_
                    exact vs_iret C F dX12_compared_90 rfl ⟨by rw [← hfin]; exact ⟨((p1.1.1.tr (vs_fr.rf.us (by decide))).tr p48.1.1), p48.1.2.1, fun _ => ⟨(p48.1.2.2.1 hy).1, (p48.1.2.2.1 hy).2.trans (p1.1.2.2.1 ht0).2⟩, fun z => absurd rfl z⟩, fun _ => congrArg (fun t9 : pT => t9.2.2.2 N) hfin⟩
                  · refine vv_iconst C dX12_compared_85 ic_1 ?_
                    refine vv_goto (tgt := 90) C dX12_compared_86 (by decide) ?_
                    refine vs_eqi (v9 := tkV (ab L B ((pzR (pzO (ab L B) r) (ab L B) 2) p).2.1) (((pzR (pzO (ab L B) r) (ab L B) 2) p).2.2.2 N) (((pzR (pzO (ab L B) r) (ab L B) 2) (((pzR (pzO (ab L B) r) (ab L B) 2) p).2.1 + 1)).2.2.2 N)) (by
              first
              | exact absurd q20 q55
              | exact absurd q20 q55
              | exact absurd q26 q69
              | exact absurd (q26.symm.trans q55) (by decide)
              | exact absurd (q26.symm.trans q69) (by decide)
              | exact absurd (q32.symm.trans q55) (by decide)
              | exact absurd (q32.symm.trans q69) (by decide)
              | exact (if_neg (Int32.not_lt.mpr q60)).symm.trans (tklt q55)
              | exact (if_pos (Int32.not_le.mp q60)).symm.trans (tklt q55)
              | exact (if_neg q74).symm.trans (tkeq q69)
              | exact (if_pos q74).symm.trans (tkeq q69)
              | exact (if_neg (Int32.not_lt.mpr q82)).symm.trans (tkgt q32)
              | exact (if_pos (Int32.not_le.mp q82)).symm.trans (tkgt q32)) ?_
                    exact vs_iret C F dX12_compared_90 rfl ⟨by rw [← hfin]; exact ⟨((p1.1.1.tr (vs_fr.rf.us (by decide))).tr p48.1.1), p48.1.2.1, fun _ => ⟨(p48.1.2.2.1 hy).1, (p48.1.2.2.1 hy).2.trans (p1.1.2.2.1 ht0).2⟩, fun z => absurd rfl z⟩, fun _ => congrArg (fun t9 : pT => t9.2.2.2 N) hfin⟩
                · refine vv_iload_n C dX12_compared_72 rfl ?_
                  refine vv_iload_n C dX12_compared_73 rfl ?_
                  refine vv_icmp_ne (tgt := 89) C dX12_compared_74 (by decide) (fun q74 => ?_) (fun q74 => ?_)
                  · refine vv_iconst C dX12_compared_89 ic_0 ?_
                    refine vs_eqi (v9 := tkV (ab L B ((pzR (pzO (ab L B) r) (ab L B) 2) p).2.1) (((pzR (pzO (ab L B) r) (ab L B) 2) p).2.2.2 N) (((pzR (pzO (ab L B) r) (ab L B) 2) (((pzR (pzO (ab L B) r) (ab L B) 2) p).2.1 + 1)).2.2.2 N)) (by
              first
              | exact absurd q20 q55
              | exact absurd q20 q55
              | exact absurd q26 q69
              | exact absurd (q26.symm.trans q55) (by decide)
              | exact absurd (q26.symm.trans q69) (by decide)
              | exact absurd (q32.symm.trans q55) (by decide)
              | exact absurd (q32.symm.trans q69) (by decide)
              | exact (if_neg (Int32.not_lt.mpr q60)).symm.trans (tklt q55)
              | exact (if_pos (Int32.not_le.mp q60)).symm.trans (tklt q55)
              | exact (if_neg q74).symm.trans (tkeq q69)
              | exact (if_pos q74).symm.trans (tkeq q69)
              | exact (if_neg (Int32.not_lt.mpr q82)).symm.trans (tkgt q32)
              | exact (if_pos (Int32.not_le.mp q82)).symm.trans (tkgt q32)) ?_
                    exact vs_iret C F dX12_compared_90 rfl ⟨by rw [← hfin]; exact ⟨((p1.1.1.tr (vs_fr.rf.us (by decide))).tr p48.1.1), p48.1.2.1, fun _ => ⟨(p48.1.2.2.1 hy).1, (p48.1.2.2.1 hy).2.trans (p1.1.2.2.1 ht0).2⟩, fun z => absurd rfl z⟩, fun _ => congrArg (fun t9 : pT => t9.2.2.2 N) hfin⟩
                  · refine vv_goto (tgt := 85) C dX12_compared_77 (by decide) ?_
                    refine vv_iconst C dX12_compared_85 ic_1 ?_
                    refine vv_goto (tgt := 90) C dX12_compared_86 (by decide) ?_
                    refine vs_eqi (v9 := tkV (ab L B ((pzR (pzO (ab L B) r) (ab L B) 2) p).2.1) (((pzR (pzO (ab L B) r) (ab L B) 2) p).2.2.2 N) (((pzR (pzO (ab L B) r) (ab L B) 2) (((pzR (pzO (ab L B) r) (ab L B) 2) p).2.1 + 1)).2.2.2 N)) (by
              first
              | exact absurd q20 q55
              | exact absurd q20 q55
              | exact absurd q26 q69
              | exact absurd (q26.symm.trans q55) (by decide)
              | exact absurd (q26.symm.trans q69) (by decide)
              | exact absurd (q32.symm.trans q55) (by decide)
              | exact absurd (q32.symm.trans q69) (by decide)
              | exact (if_neg (Int32.not_lt.mpr q60)).symm.trans (tklt q55)
              | exact (if_pos (Int32.not_le.mp q60)).symm.trans (tklt q55)
              | exact (if_neg q74).symm.trans (tkeq q69)
              | exact (if_pos q74).symm.trans (tkeq q69)
              | exact (if_neg (Int32.not_lt.mpr q82)).symm.trans (tkgt q32)
              | exact (if_pos (Int32.not_le.mp q82)).symm.trans (tkgt q32)) ?_
                    exact vs_iret C F dX12_compared_90 rfl ⟨by rw [← hfin]; exact ⟨((p1.1.1.tr (vs_fr.rf.us (by decide))).tr p48.1.1), p48.1.2.1, fun _ => ⟨(p48.1.2.2.1 hy).1, (p48.1.2.2.1 hy).2.trans (p1.1.2.2.1 ht0).2⟩, fun z => absurd rfl z⟩, fun _ => congrArg (fun t9 : pT => t9.2.2.2 N) hfin⟩
              · refine vv_iload_n C dX12_compared_58 rfl ?_
                refine vv_iload_n C dX12_compared_59 rfl ?_
                refine vv_icmp_ge (tgt := 89) C dX12_compared_60 (by decide) (fun q60 => ?_) (fun q60 => ?_)
                · refine vv_iconst C dX12_compared_89 ic_0 ?_
                  refine vs_eqi (v9 := tkV (ab L B ((pzR (pzO (ab L B) r) (ab L B) 2) p).2.1) (((pzR (pzO (ab L B) r) (ab L B) 2) p).2.2.2 N) (((pzR (pzO (ab L B) r) (ab L B) 2) (((pzR (pzO (ab L B) r) (ab L B) 2) p).2.1 + 1)).2.2.2 N)) (by
              first
              | exact absurd q20 q55
              | exact absurd q20 q55
              | exact absurd q26 q69
              | exact absurd (q26.symm.trans q55) (by decide)
              | exact absurd (q26.symm.trans q69) (by decide)
              | exact absurd (q32.symm.trans q55) (by decide)
              | exact absurd (q32.symm.trans q69) (by decide)
              | exact (if_neg (Int32.not_lt.mpr q60)).symm.trans (tklt q55)
              | exact (if_pos (Int32.not_le.mp q60)).symm.trans (tklt q55)
              | exact (if_neg q74).symm.trans (tkeq q69)
              | exact (if_pos q74).symm.trans (tkeq q69)
              | exact (if_neg (Int32.not_lt.mpr q82)).symm.trans (tkgt q32)
              | exact (if_pos (Int32.not_le.mp q82)).symm.trans (tkgt q32)) ?_
                  exact vs_iret C F dX12_compared_90 rfl ⟨by rw [← hfin]; exact ⟨((p1.1.1.tr (vs_fr.rf.us (by decide))).tr p48.1.1), p48.1.2.1, fun _ => ⟨(p48.1.2.2.1 hy).1, (p48.1.2.2.1 hy).2.trans (p1.1.2.2.1 ht0).2⟩, fun z => absurd rfl z⟩, fun _ => congrArg (fun t9 : pT => t9.2.2.2 N) hfin⟩
                · refine vv_goto (tgt := 85) C dX12_compared_63 (by decide) ?_
                  refine vv_iconst C dX12_compared_85 ic_1 ?_
                  refine vv_goto (tgt := 90) C dX12_compared_86 (by decide) ?_
                  refine vs_eqi (v9 := tkV (ab L B ((pzR (pzO (ab L B) r) (ab L B) 2) p).2.1) (((pzR (pzO (ab L B) r) (ab L B) 2) p).2.2.2 N) (((pzR (pzO (ab L B) r) (ab L B) 2) (((pzR (pzO (ab L B) r) (ab L B) 2) p).2.1 + 1)).2.2.2 N)) (by
              first
              | exact absurd q20 q55
              | exact absurd q20 q55
              | exact absurd q26 q69
              | exact absurd (q26.symm.trans q55) (by decide)
              | exact absurd (q26.symm.trans q69) (by decide)
              | exact absurd (q32.symm.trans q55) (by decide)
              | exact absurd (q32.symm.trans q69) (by decide)
              | exact (if_neg (Int32.not_lt.mpr q60)).symm.trans (tklt q55)
              | exact (if_pos (Int32.not_le.mp q60)).symm.trans (tklt q55)
              | exact (if_neg q74).symm.trans (tkeq q69)
              | exact (if_pos q74).symm.trans (tkeq q69)
              | exact (if_neg (Int32.not_lt.mpr q82)).symm.trans (tkgt q32)
              | exact (if_pos (Int32.not_le.mp q82)).symm.trans (tkgt q32)) ?_
                  exact vs_iret C F dX12_compared_90 rfl ⟨by rw [← hfin]; exact ⟨((p1.1.1.tr (vs_fr.rf.us (by decide))).tr p48.1.1), p48.1.2.1, fun _ => ⟨(p48.1.2.2.1 hy).1, (p48.1.2.2.1 hy).2.trans (p1.1.2.2.1 ht0).2⟩, fun z => absurd rfl z⟩, fun _ => congrArg (fun t9 : pT => t9.2.2.2 N) hfin⟩
            · rw [if_neg hy] at hfin
              refine vv_iload_n C dX12_compared_52 rfl ?_
              refine vv_bipush C dX12_compared_53 bp_60 ?_
              refine vv_icmp_ne (tgt := 66) C dX12_compared_55 (by decide) (fun q55 => ?_) (fun q55 => ?_)
              · refine vv_iload_n C dX12_compared_66 rfl ?_
                refine vv_bipush C dX12_compared_67 bp_61 ?_
                refine vv_icmp_ne (tgt := 80) C dX12_compared_69 (by decide) (fun q69 => ?_) (fun q69 => ?_)
                · refine vv_iload_n C dX12_compared_80 rfl ?_
                  refine vv_iload_n C dX12_compared_81 rfl ?_
                  refine vv_icmp_le (tgt := 89) C dX12_compared_82 (by decide) (fun q82 => ?_) (fun q82 => ?_)
                  · refine vv_iconst C dX12_compared_89 ic_0 ?_
                    exact vs_iret C F dX12_compared_90 rfl ⟨by rw [← hfin]; exact ⟨((p1.1.1.tr (vs_fr.rf.us (by decide))).tr p48.1.1), p48.1.2.1, fun z => absurd (show false = true from z) (by decide), fun _ => p48.1.2.2.2 hy⟩, fun z => by rw [← hfin] at z; cases z⟩
                  · refine vv_iconst C dX12_compared_85 ic_1 ?_
                    refine vv_goto (tgt := 90) C dX12_compared_86 (by decide) ?_
                    exact vs_iret C F dX12_compared_90 rfl ⟨by rw [← hfin]; exact ⟨((p1.1.1.tr (vs_fr.rf.us (by decide))).tr p48.1.1), p48.1.2.1, fun z => absurd (show false = true from z) (by decide), fun _ => p48.1.2.2.2 hy⟩, fun z => by rw [← hfin] at z; cases z⟩
                · refine vv_iload_n C dX12_compared_72 rfl ?_
                  refine vv_iload_n C dX12_compared_73 rfl ?_
                  refine vv_icmp_ne (tgt := 89) C dX12_compared_74 (by decide) (fun q74 => ?_) (fun q74 => ?_)
                  · refine vv_iconst C dX12_compared_89 ic_0 ?_
                    exact vs_iret C F dX12_compared_90 rfl ⟨by rw [← hfin]; exact ⟨((p1.1.1.tr (vs_fr.rf.us (by decide))).tr p48.1.1), p48.1.2.1, fun z => absurd (show false = true from z) (by decide), fun _ => p48.1.2.2.2 hy⟩, fun z => by rw [← hfin] at z; cases z⟩
                  · refine vv_goto (tgt := 85) C dX12_compared_77 (by decide) ?_
                    refine vv_iconst C dX12_compared_85 ic_1 ?_
                    refine vv_goto (tgt := 90) C dX12_compared_86 (by decide) ?_
                    exact vs_iret C F dX12_compared_90 rfl ⟨by rw [← hfin]; exact ⟨((p1.1.1.tr (vs_fr.rf.us (by decide))).tr p48.1.1), p48.1.2.1, fun z => absurd (show false = true from z) (by decide), fun _ => p48.1.2.2.2 hy⟩, fun z => by rw [← hfin] at z; cases z⟩
              · refine vv_iload_n C dX12_compared_58 rfl ?_
                refine vv_iload_n C dX12_compared_59 rfl ?_
                refine vv_icmp_ge (tgt := 89) C dX12_compared_60 (by decide) (fun q60 => ?_) (fun q60 => ?_)
                · refine vv_iconst C dX12_compared_89 ic_0 ?_
                  exact vs_iret C F dX12_compared_90 rfl ⟨by rw [← hfin]; exact ⟨((p1.1.1.tr (vs_fr.rf.us (by decide))).tr p48.1.1), p48.1.2.1, fun z => absurd (show false = true from z) (by decide), fun _ => p48.1.2.2.2 hy⟩, fun z => by rw [← hfin] at z; cases z⟩
                · refine vv_goto (tgt := 85) C dX12_compared_63 (by decide) ?_
                  refine vv_iconst C dX12_compared_85 ic_1 ?_
                  refine vv_goto (tgt := 90) C dX12_compared_86 (by decide) ?_
                  exact vs_iret C F dX12_compared_90 rfl ⟨by rw [← hfin]; exact ⟨((p1.1.1.tr (vs_fr.rf.us (by decide))).tr p48.1.1), p48.1.2.1, fun z => absurd (show false = true from z) (by decide), fun _ => p48.1.2.2.2 hy⟩, fun z => by rw [← hfin] at z; cases z⟩
          · have hne : ¬ tkR (ab L B ((pzR (pzO (ab L B) r) (ab L B) 2) p).2.1) = 2 := fun z => (tk2 z).elim q20 (fun z => z.elim q26 q32)
            rw [if_neg hne] at hfin
            refine vv_iload_n C dX12_compared_35 rfl ?_
            exact vs_iret C F dX12_compared_36 rfl ⟨by rw [← hfin]; exact p1.1, fun _ => congrArg (fun t9 : pT => t9.2.2.2 N) hfin⟩
  · have h32 := p1.1.2.2.2 ht0
    have hy31 : ((pzR (pzO (ab L B) r) (ab L B) 2) p).2.1 < 2 ^ 31 := by have := hpo.1; omega
    have hfin : (pzR (pzO (ab L B) r) (ab L B) 3 p) = pF ((pzR (pzO (ab L B) r) (ab L B) 2) p).2.1 := if_neg ht0
    refine vw_istore_n (lv9 := [_, _, _, _]) C dX12_compared_4 (by decide) rfl rfl ?_
    refine vv_aload_n C dX12_compared_5 rfl ?_
    refine vs_caliF C dX12_compared_6 (c_X12_byteAt g S1 L B N (hI.fr p1.1.1) ((pzR (pzO (ab L B) r) (ab L B) 2) p).2.1 hpo.1 p1.1.2.1) mb_X12_byteAt mv_X12_byteAt lk_X12_222 ce_65 rfl rfl rfl rfl ⟨by omega, by omega, Nat.le_of_ble_eq_true rfl⟩ ?_
    refine vw_istore_n (lv9 := [_, _, _, _]) C dX12_compared_9 (by decide) rfl rfl ?_
    refine vv_aload_n C dX12_compared_10 rfl ?_
    refine gf_X12_fault C dX12_compared_11 fg_X12_219 ?_
    refine vv_if_ge (tgt := 35) C dX12_compared_14 (by decide) (fun q14 => ?_) (fun q14 => ?_)
    · skip
      refine vv_iload_n C dX12_compared_35 rfl ?_
      exact vs_iret C F dX12_compared_36 rfl ⟨by rw [hfin]; exact ⟨p1.1.1, p1.1.2.1, fun z => absurd (show false = true from z) (by decide), fun _ => h32⟩, fun z => by rw [hfin] at z; cases z⟩
    · exact absurd (nf_ge hy31 h32) q14
set_option maxRecDepth 20000 in
theorem c_X12_both (g : vv_G) (r d : Nat) (hr6 : r ≤ 6) (hd : 3 ≤ d) (hK : RjM g yX12_compared cX12_compared 4 3 r d) (S : vs_S) (L : Nat) (B N : Nat → Int32) (hI : iX S L B N) (p : Nat) (hp : p ≤ L) (hq : qX S p r) : vs_KI g yX12_both cX12_both 3 (some .int) (d + 1) [vv_r g 65] S (fun v S1 => zX S S1 (pzR (pzO (ab L B) r) (ab L B) 4 p) ∧ ((pzR (pzO (ab L B) r) (ab L B) 4 p).1 = true → v = (pzR (pzO (ab L B) r) (ab L B) 4 p).2.2.2 N)) := by
  refine vs_ofI (lv := [_, _, _]) mb_X12_both (Nat.le_of_ble_eq_true rfl) rfl (fun x C F => ?_)
  refine vv_aload_n C dX12_both_0 rfl ?_
  refine vs_calli C dX12_both_1 (hK S L B N hI p hp hq) mb_X12_compared mv_X12_compared lk_X12_232 ce_65 rfl rfl rfl rfl ⟨by omega, by omega, Nat.le_of_ble_eq_true rfl⟩ (fun r1 S1 p1 => ?_)
  have hL := hI.2.1
  have hpo := pOk_M (B := B) r 3 p hp
  have loop : ∀ (f : Nat) (t : pT) (w2 : Option Value) (Sa : vs_S), t.1 = true → zX S Sa t → pOk L p t → 120 ≤ t.2.1 + f → pzL (pzR (pzO (ab L B) r) (ab L B) 3) (ab L B) 1 f t = (pzR (pzO (ab L B) r) (ab L B) 4 p) → vv_V g x 3 0 0 5 [some (vv_r g 65), some (.int (t.2.2.2 N)), w2] [] (vs_cells g Sa) := by
    intro f
    induction f with
    | zero =>
      intro t w2 Sa ht hS hq2 hb9 he
      have hL := hI.2.1
      have hb : bl (ab L B t.2.1) := ab_bl _ (by omega)
      refine vv_aload_n C dX12_both_5 rfl ?_
      refine vv_bipush C dX12_both_6 bp_38 ?_
      refine vs_caliF C dX12_both_8 (c_X12_takesN g Sa L B N (hI.fr hS.1) t.2.1 hq2.1 hS.2.1 38 (fun z => (bl_c hb (by unfold bl; decide)) z.2) (Or.inl (hS.2.2.1 ht).1)) mb_X12_takes mv_X12_takes lk_X12_229 ce_65 rfl rfl rfl rfl ⟨by omega, by omega, Nat.le_of_ble_eq_true rfl⟩ ?_
      refine vv_if_eq (tgt := 36) C dX12_both_11 (by decide) (fun q11 => ?_) (fun q11 => ?_)
      · skip
        refine vv_iload_n C dX12_both_36 rfl ?_
        exact vs_iret C F dX12_both_37 rfl ⟨by rw [← he]; exact hS, fun _ => congrArg (fun t9 : pT => t9.2.2.2 N) he⟩
      · exact absurd rfl q11
    | succ f ih =>
      intro t w2 Sa ht hS hq2 hb9 he
      have hL := hI.2.1
      have hq3 := hq2.2.2 ht
      rw [pzLS f] at he
      by_cases hop : ab L B t.2.1 = 38
      · have hk : tkR (ab L B t.2.1) = 1 := by rw [hop]; decide
        rw [if_pos hk] at he
        have hqL : t.2.1 < L := bl_nb ab_bl (tkR_nb (by omega) hk)
        refine vv_aload_n C dX12_both_5 rfl ?_
        refine vv_bipush C dX12_both_6 bp_38 ?_
        refine vs_caliF C dX12_both_8 (c_X12_takesY g Sa L B N (hI.fr hS.1) t.2.1 hq2.1 hS.2.1 (hS.2.2.1 ht).1 38 hop) mb_X12_takes mv_X12_takes lk_X12_229 ce_65 rfl rfl rfl rfl ⟨by omega, by omega, Nat.le_of_ble_eq_true rfl⟩ ?_
        refine vv_if_eq (tgt := 36) C dX12_both_11 (by decide) (fun q11 => ?_) (fun q11 => ?_)
        · exact absurd q11 (by decide)
        · skip
          refine vv_aload_n C dX12_both_14 rfl ?_
          refine vs_calli C dX12_both_15 (hK (vs_us Sa 30 (nI (t.2.1 + 1))) L B N (hI.fr (hS.1.tr (vs_fr.rf.us (by decide)))) (t.2.1 + 1) hqL ⟨rfl, (hS.2.2.1 ht).1, ((hS.2.2.1 ht).2).trans hq.2.2⟩) mb_X12_compared mv_X12_compared lk_X12_232 ce_65 rfl rfl rfl rfl ⟨by omega, by omega, Nat.le_of_ble_eq_true rfl⟩ (fun r15 S15 p15 => ?_)
          refine vw_istore_n (lv9 := [_, _, _]) C dX12_both_18 (by decide) rfl rfl ?_
          have hyo := pOk_M (B := B) r 3 (t.2.1 + 1) hqL
          by_cases hy : ((pzR (pzO (ab L B) r) (ab L B) 3) (t.2.1 + 1)).1 = true
          · rw [if_pos hy] at he
            have e9 := p15.2 hy
            subst e9
            have hyp := hyo.2.2 hy
            refine vv_iload_n C dX12_both_19 rfl ?_
            refine vv_if_eq (tgt := 31) C dX12_both_20 (by decide) (fun q20 => ?_) (fun q20 => ?_)
            · refine vv_iconst C dX12_both_31 ic_0 ?_
              refine vs_eqi (v9 := tkV (ab L B t.2.1) (t.2.2.2 N) (((pzR (pzO (ab L B) r) (ab L B) 3) (t.2.1 + 1)).2.2.2 N)) (by first | exact (if_pos (Or.inl q20)).symm.trans (tkan hop) | exact (if_pos (Or.inr q24)).symm.trans (tkan hop) | exact (if_neg (fun z => z.elim q20 q24)).symm.trans (tkan hop)) ?_
              refine vw_istore_n (lv9 := [_, _, _]) C dX12_both_32 (by decide) rfl rfl ?_
              refine vv_goto (tgt := 5) C dX12_both_33 (by decide) ?_
              exact ih (true, ((pzR (pzO (ab L B) r) (ab L B) 3) (t.2.1 + 1)).2.1, t.2.2.1 ++ (((pzR (pzO (ab L B) r) (ab L B) 3) (t.2.1 + 1)).2.2.1 ++ [-(ab L B t.2.1)]), fun N => tkV (ab L B t.2.1) (t.2.2.2 N) (((pzR (pzO (ab L B) r) (ab L B) 3) (t.2.1 + 1)).2.2.2 N)) _ S15 rfl ⟨((hS.1.tr (vs_fr.rf.us (by decide))).tr p15.1.1), p15.1.2.1, fun _ => ⟨(p15.1.2.2.1 hy).1, (p15.1.2.2.1 hy).2.trans (hS.2.2.1 ht).2⟩, fun z => absurd rfl z⟩ ⟨hyo.1, by show p ≤ ((pzR (pzO (ab L B) r) (ab L B) 3) (t.2.1 + 1)).2.1; omega, fun _ => ⟨by
                  show p + (t.2.2.1 ++ (((pzR (pzO (ab L B) r) (ab L B) 3) (t.2.1 + 1)).2.2.1 ++ [-(ab L B t.2.1)])).length ≤ ((pzR (pzO (ab L B) r) (ab L B) 3) (t.2.1 + 1)).2.1
                  rw [List.length_append, List.length_append, List.length_singleton]
                  omega, by show p < ((pzR (pzO (ab L B) r) (ab L B) 3) (t.2.1 + 1)).2.1; omega⟩⟩ (by show 120 ≤ ((pzR (pzO (ab L B) r) (ab L B) 3) (t.2.1 + 1)).2.1 + f; omega) he
            · refine vv_iload_n C dX12_both_23 rfl ?_
              refine vv_if_eq (tgt := 31) C dX12_both_24 (by decide) (fun q24 => ?_) (fun q24 => ?_)
              · refine vv_iconst C dX12_both_31 ic_0 ?_
                refine vs_eqi (v9 := tkV (ab L B t.2.1) (t.2.2.2 N) (((pzR (pzO (ab L B) r) (ab L B) 3) (t.2.1 + 1)).2.2.2 N)) (by first | exact (if_pos (Or.inl q20)).symm.trans (tkan hop) | exact (if_pos (Or.inr q24)).symm.trans (tkan hop) | exact (if_neg (fun z => z.elim q20 q24)).symm.trans (tkan hop)) ?_
                refine vw_istore_n (lv9 := [_, _, _]) C dX12_both_32 (by decide) rfl rfl ?_
                refine vv_goto (tgt := 5) C dX12_both_33 (by decide) ?_
                exact ih (true, ((pzR (pzO (ab L B) r) (ab L B) 3) (t.2.1 + 1)).2.1, t.2.2.1 ++ (((pzR (pzO (ab L B) r) (ab L B) 3) (t.2.1 + 1)).2.2.1 ++ [-(ab L B t.2.1)]), fun N => tkV (ab L B t.2.1) (t.2.2.2 N) (((pzR (pzO (ab L B) r) (ab L B) 3) (t.2.1 + 1)).2.2.2 N)) _ S15 rfl ⟨((hS.1.tr (vs_fr.rf.us (by decide))).tr p15.1.1), p15.1.2.1, fun _ => ⟨(p15.1.2.2.1 hy).1, (p15.1.2.2.1 hy).2.trans (hS.2.2.1 ht).2⟩, fun z => absurd rfl z⟩ ⟨hyo.1, by show p ≤ ((pzR (pzO (ab L B) r) (ab L B) 3) (t.2.1 + 1)).2.1; omega, fun _ => ⟨by
                    show p + (t.2.2.1 ++ (((pzR (pzO (ab L B) r) (ab L B) 3) (t.2.1 + 1)).2.2.1 ++ [-(ab L B t.2.1)])).length ≤ ((pzR (pzO (ab L B) r) (ab L B) 3) (t.2.1 + 1)).2.1
                    rw [List.length_append, List.length_append, List.length_singleton]
                    omega, by show p < ((pzR (pzO (ab L B) r) (ab L B) 3) (t.2.1 + 1)).2.1; omega⟩⟩ (by show 120 ≤ ((pzR (pzO (ab L B) r) (ab L B) 3) (t.2.1 + 1)).2.1 + f; omega) he
              · refine vv_iconst C dX12_both_27 ic_1 ?_
                refine vv_goto (tgt := 32) C dX12_both_28 (by decide) ?_
                refine vs_eqi (v9 := tkV (ab L B t.2.1) (t.2.2.2 N) (((pzR (pzO (ab L B) r) (ab L B) 3) (t.2.1 + 1)).2.2.2 N)) (by first | exact (if_pos (Or.inl q20)).symm.trans (tkan hop) | exact (if_pos (Or.inr q24)).symm.trans (tkan hop) | exact (if_neg (fun z => z.elim q20 q24)).symm.trans (tkan hop)) ?_
                refine vw_istore_n (lv9 := [_, _, _]) C dX12_both_32 (by decide) rfl rfl ?_
                refine vv_goto (tgt := 5) C dX12_both_33 (by decide) ?_
                exact ih (true, ((pzR (pzO (ab L B) r) (ab L B) 3) (t.2.1 + 1)).2.1, t.2.2.1 ++ (((pzR (pzO (ab L B) r) (ab L B) 3) (t.2.1 + 1)).2.2.1 ++ [-(ab L B t.2.1)]), fun N => tkV (ab L B t.2.1) (t.2.2.2 N) (((pzR (pzO (ab L B) r) (ab L B) 3) (t.2.1 + 1)).2.2.2 N)) _ S15 rfl ⟨((hS.1.tr (vs_fr.rf.us (by decide))).tr p15.1.1), p15.1.2.1, fun _ => ⟨(p15.1.2.2.1 hy).1, (p15.1.2.2.1 hy).2.trans (hS.2.2.1 ht).2⟩, fun z => absurd rfl z⟩ ⟨hyo.1, by show p ≤ ((pzR (pzO (ab L B) r) (ab L B) 3) (t.2.1 + 1)).2.1; omega, fun _ => ⟨by
                    show p + (t.2.2.1 ++ (((pzR (pzO (ab L B) r) (ab L B) 3) (t.2.1 + 1)).2.2.1 ++ [-(ab L B t.2.1)])).length ≤ ((pzR (pzO (ab L B) r) (ab L B) 3) (t.2.1 + 1)).2.1
                    rw [List.length_append, List.length_append, List.length_singleton]
                    omega, by show p < ((pzR (pzO (ab L B) r) (ab L B) 3) (t.2.1 + 1)).2.1; omega⟩⟩ (by show 120 ≤ ((pzR (pzO (ab L B) r) (ab L B) 3) (t.2.1 + 1)).2.1 + f; omega) he
          · rw [if_neg hy] at he
            have h32 := p15.1.2.2.2 hy
            have hy31 : ((pzR (pzO (ab L B) r) (ab L B) 3) (t.2.1 + 1)).2.1 < 2 ^ 31 := by have := hyo.1; omega
            refine vv_iload_n C dX12_both_19 rfl ?_
            refine vv_if_eq (tgt := 31) C dX12_both_20 (by decide) (fun q20 => ?_) (fun q20 => ?_)
            · refine vv_iconst C dX12_both_31 ic_0 ?_
              refine vw_istore_n (lv9 := [_, _, _]) C dX12_both_32 (by decide) rfl rfl ?_
              refine vv_goto (tgt := 5) C dX12_both_33 (by decide) ?_
              refine vv_aload_n C dX12_both_5 rfl ?_
              refine vv_bipush C dX12_both_6 bp_38 ?_
              refine vs_caliF C dX12_both_8 (c_X12_takesN g S15 L B N (hI.fr ((hS.1.tr (vs_fr.rf.us (by decide))).tr p15.1.1)) ((pzR (pzO (ab L B) r) (ab L B) 3) (t.2.1 + 1)).2.1 hyo.1 p15.1.2.1 38 (fun z => nf_no hy31 h32 z.1) (Or.inr (nf_ge hy31 h32))) mb_X12_takes mv_X12_takes lk_X12_229 ce_65 rfl rfl rfl rfl ⟨by omega, by omega, Nat.le_of_ble_eq_true rfl⟩ ?_
              refine vv_if_eq (tgt := 36) C dX12_both_11 (by decide) (fun q11 => ?_) (fun q11 => ?_)
              · skip
                refine vv_iload_n C dX12_both_36 rfl ?_
                exact vs_iret C F dX12_both_37 rfl ⟨by rw [← he]; exact ⟨((hS.1.tr (vs_fr.rf.us (by decide))).tr p15.1.1), p15.1.2.1, fun z => absurd (show false = true from z) (by decide), fun _ => h32⟩, fun z => by rw [← he] at z; cases z⟩
              · exact absurd rfl q11
            · refine vv_iload_n C dX12_both_23 rfl ?_
              refine vv_if_eq (tgt := 31) C dX12_both_24 (by decide) (fun q24 => ?_) (fun q24 => ?_)
              · refine vv_iconst C dX12_both_31 ic_0 ?_
                refine vw_istore_n (lv9 := [_, _, _]) C dX12_both_32 (by decide) rfl rfl ?_
                refine vv_goto (tgt := 5) C dX12_both_33 (by decide) ?_
                refine vv_aload_n C dX12_both_5 rfl ?_
                refine vv_bipush C dX12_both_6 bp_38 ?_
                refine vs_caliF C dX12_both_8 (c_X12_takesN g S15 L B N (hI.fr ((hS.1.tr (vs_fr.rf.us (by decide))).tr p15.1.1)) ((pzR (pzO (ab L B) r) (ab L B) 3) (t.2.1 + 1)).2.1 hyo.1 p15.1.2.1 38 (fun z => nf_no hy31 h32 z.1) (Or.inr (nf_ge hy31 h32))) mb_X12_takes mv_X12_takes lk_X12_229 ce_65 rfl rfl rfl rfl ⟨by omega, by omega, Nat.le_of_ble_eq_true rfl⟩ ?_
                refine vv_if_eq (tgt := 36) C dX12_both_11 (by decide) (fun q11 => ?_) (fun q11 => ?_)
                · skip
                  refine vv_iload_n C dX12_both_36 rfl ?_
                  exact vs_iret C F dX12_both_37 rfl ⟨by rw [← he]; exact ⟨((hS.1.tr (vs_fr.rf.us (by decide))).tr p15.1.1), p15.1.2.1, fun z => absurd (show false = true from z) (by decide), fun _ => h32⟩, fun z => by rw [← he] at z; cases z⟩
                · exact absurd rfl q11
              · refine vv_iconst C dX12_both_27 ic_1 ?_
                refine vv_goto (tgt := 32) C dX12_both_28 (by decide) ?_
                refine vw_istore_n (lv9 := [_, _, _]) C dX12_both_32 (by decide) rfl rfl ?_
                refine vv_goto (tgt := 5) C dX12_both_33 (by decide) ?_
                refine vv_aload_n C dX12_both_5 rfl ?_
                refine vv_bipush C dX12_both_6 bp_38 ?_
                refine vs_caliF C dX12_both_8 (c_X12_takesN g S15 L B N (hI.fr ((hS.1.tr (vs_fr.rf.us (by decide))).tr p15.1.1)) ((pzR (pzO (ab L B) r) (ab L B) 3) (t.2.1 + 1)).2.1 hyo.1 p15.1.2.1 38 (fun z => nf_no hy31 h32 z.1) (Or.inr (nf_ge hy31 h32))) mb_X12_takes mv_X12_takes lk_X12_229 ce_65 rfl rfl rfl rfl ⟨by omega, by omega, Nat.le_of_ble_eq_true rfl⟩ ?_
                refine vv_if_eq (tgt := 36) C dX12_both_11 (by decide) (fun q11 => ?_) (fun q11 => ?_)
                · skip
                  refine vv_iload_n C dX12_both_36 rfl ?_
                  exact vs_iret C F dX12_both_37 rfl ⟨by rw [← he]; exact ⟨((hS.1.tr (vs_fr.rf.us (by decide))).tr p15.1.1), p15.1.2.1, fun z => absurd (show false = true from z) (by decide), fun _ => h32⟩, fun z => by rw [← he] at z; cases z⟩
                · exact absurd rfl q11
      · have hne : ¬ tkR (ab L B t.2.1) = 1 := fun z => hop (tk1 z)
        rw [if_neg hne] at he
        refine vv_aload_n C dX12_both_5 rfl ?_
        refine vv_bipush C dX12_both_6 bp_38 ?_
        refine vs_caliF C dX12_both_8 (c_X12_takesN g Sa L B N (hI.fr hS.1) t.2.1 hq2.1 hS.2.1 38 (fun z => hop z.2) (Or.inl (hS.2.2.1 ht).1)) mb_X12_takes mv_X12_takes lk_X12_229 ce_65 rfl rfl rfl rfl ⟨by omega, by omega, Nat.le_of_ble_eq_true rfl⟩ ?_
        refine vv_if_eq (tgt := 36) C dX12_both_11 (by decide) (fun q11 => ?_) (fun q11 => ?_)
        · skip
          refine vv_iload_n C dX12_both_36 rfl ?_
          exact vs_iret C F dX12_both_37 rfl ⟨by rw [← he]; exact hS, fun _ => congrArg (fun t9 : pT => t9.2.2.2 N) he⟩
        · exact absurd rfl q11
  by_cases ht0 : ((pzR (pzO (ab L B) r) (ab L B) 3) p).1 = true
  · have e9 := p1.2 ht0
    subst e9
    refine vw_istore_n (lv9 := [_, _, _]) C dX12_both_4 (by decide) rfl rfl ?_
    exact loop 120 ((pzR (pzO (ab L B) r) (ab L B) 3) p) _ S1 ht0 p1.1 hpo (by omega) (by show _ = if ((pzR (pzO (ab L B) r) (ab L B) 3) p).1 = true then _ else _; rw [if_pos ht0]; rfl)
  · have h32 := p1.1.2.2.2 ht0
    have hy31 : ((pzR (pzO (ab L B) r) (ab L B) 3) p).2.1 < 2 ^ 31 := by have := hpo.1; omega
    have hfin : (pzR (pzO (ab L B) r) (ab L B) 4 p) = pF ((pzR (pzO (ab L B) r) (ab L B) 3) p).2.1 := if_neg ht0
    refine vw_istore_n (lv9 := [_, _, _]) C dX12_both_4 (by decide) rfl rfl ?_
    refine vv_aload_n C dX12_both_5 rfl ?_
    refine vv_bipush C dX12_both_6 bp_38 ?_
    refine vs_caliF C dX12_both_8 (c_X12_takesN g S1 L B N (hI.fr p1.1.1) ((pzR (pzO (ab L B) r) (ab L B) 3) p).2.1 hpo.1 p1.1.2.1 38 (fun z => nf_no hy31 h32 z.1) (Or.inr (nf_ge hy31 h32))) mb_X12_takes mv_X12_takes lk_X12_229 ce_65 rfl rfl rfl rfl ⟨by omega, by omega, Nat.le_of_ble_eq_true rfl⟩ ?_
    refine vv_if_eq (tgt := 36) C dX12_both_11 (by decide) (fun q11 => ?_) (fun q11 => ?_)
    · skip
      refine vv_iload_n C dX12_both_36 rfl ?_
      exact vs_iret C F dX12_both_37 rfl ⟨by rw [hfin]; exact ⟨p1.1.1, p1.1.2.1, fun z => absurd (show false = true from z) (by decide), fun _ => h32⟩, fun z => by rw [hfin] at z; cases z⟩
    · exact absurd rfl q11
set_option maxRecDepth 20000 in
theorem c_X12_either (g : vv_G) (r d : Nat) (hr6 : r ≤ 6) (hd : 3 ≤ d) (hK : RjM g yX12_both cX12_both 3 4 r d) (S : vs_S) (L : Nat) (B N : Nat → Int32) (hI : iX S L B N) (p : Nat) (hp : p ≤ L) (hq : qX S p r) : vs_KI g yX12_either cX12_either 3 (some .int) (d + 1) [vv_r g 65] S (fun v S1 => zX S S1 (pzR (pzO (ab L B) r) (ab L B) 5 p) ∧ ((pzR (pzO (ab L B) r) (ab L B) 5 p).1 = true → v = (pzR (pzO (ab L B) r) (ab L B) 5 p).2.2.2 N)) := by
  refine vs_ofI (lv := [_, _, _]) mb_X12_either (Nat.le_of_ble_eq_true rfl) rfl (fun x C F => ?_)
  refine vv_aload_n C dX12_either_0 rfl ?_
  refine vs_calli C dX12_either_1 (hK S L B N hI p hp hq) mb_X12_both mv_X12_both lk_X12_226 ce_65 rfl rfl rfl rfl ⟨by omega, by omega, Nat.le_of_ble_eq_true rfl⟩ (fun r1 S1 p1 => ?_)
  have hL := hI.2.1
  have hpo := pOk_M (B := B) r 4 p hp
  have loop : ∀ (f : Nat) (t : pT) (w2 : Option Value) (Sa : vs_S), t.1 = true → zX S Sa t → pOk L p t → 120 ≤ t.2.1 + f → pzL (pzR (pzO (ab L B) r) (ab L B) 4) (ab L B) 0 f t = (pzR (pzO (ab L B) r) (ab L B) 5 p) → vv_V g x 3 0 0 5 [some (vv_r g 65), some (.int (t.2.2.2 N)), w2] [] (vs_cells g Sa) := by
    intro f
    induction f with
    | zero =>
      intro t w2 Sa ht hS hq2 hb9 he
      have hL := hI.2.1
      have hb : bl (ab L B t.2.1) := ab_bl _ (by omega)
      refine vv_aload_n C dX12_either_5 rfl ?_
      refine vv_bipush C dX12_either_6 bp_124 ?_
      refine vs_caliF C dX12_either_8 (c_X12_takesN g Sa L B N (hI.fr hS.1) t.2.1 hq2.1 hS.2.1 124 (fun z => (bl_c hb (by unfold bl; decide)) z.2) (Or.inl (hS.2.2.1 ht).1)) mb_X12_takes mv_X12_takes lk_X12_229 ce_65 rfl rfl rfl rfl ⟨by omega, by omega, Nat.le_of_ble_eq_true rfl⟩ ?_
      refine vv_if_eq (tgt := 36) C dX12_either_11 (by decide) (fun q11 => ?_) (fun q11 => ?_)
      · skip
        refine vv_iload_n C dX12_either_36 rfl ?_
        exact vs_iret C F dX12_either_37 rfl ⟨by rw [← he]; exact hS, fun _ => congrArg (fun t9 : pT => t9.2.2.2 N) he⟩
      · exact absurd rfl q11
    | succ f ih =>
      intro t w2 Sa ht hS hq2 hb9 he
      have hL := hI.2.1
      have hq3 := hq2.2.2 ht
      rw [pzLS f] at he
      by_cases hop : ab L B t.2.1 = 124
      · have hk : tkR (ab L B t.2.1) = 0 := by rw [hop]; decide
        rw [if_pos hk] at he
        have hqL : t.2.1 < L := bl_nb ab_bl (tkR_nb (by omega) hk)
        refine vv_aload_n C dX12_either_5 rfl ?_
        refine vv_bipush C dX12_either_6 bp_124 ?_
        refine vs_caliF C dX12_either_8 (c_X12_takesY g Sa L B N (hI.fr hS.1) t.2.1 hq2.1 hS.2.1 (hS.2.2.1 ht).1 124 hop) mb_X12_takes mv_X12_takes lk_X12_229 ce_65 rfl rfl rfl rfl ⟨by omega, by omega, Nat.le_of_ble_eq_true rfl⟩ ?_
        refine vv_if_eq (tgt := 36) C dX12_either_11 (by decide) (fun q11 => ?_) (fun q11 => ?_)
        · exact absurd q11 (by decide)
        · skip
          refine vv_aload_n C dX12_either_14 rfl ?_
          refine vs_calli C dX12_either_15 (hK (vs_us Sa 30 (nI (t.2.1 + 1))) L B N (hI.fr (hS.1.tr (vs_fr.rf.us (by decide)))) (t.2.1 + 1) hqL ⟨rfl, (hS.2.2.1 ht).1, ((hS.2.2.1 ht).2).trans hq.2.2⟩) mb_X12_both mv_X12_both lk_X12_226 ce_65 rfl rfl rfl rfl ⟨by omega, by omega, Nat.le_of_ble_eq_true rfl⟩ (fun r15 S15 p15 => ?_)
          refine vw_istore_n (lv9 := [_, _, _]) C dX12_either_18 (by decide) rfl rfl ?_
          have hyo := pOk_M (B := B) r 4 (t.2.1 + 1) hqL
          by_cases hy : ((pzR (pzO (ab L B) r) (ab L B) 4) (t.2.1 + 1)).1 = true
          · rw [if_pos hy] at he
            have e9 := p15.2 hy
            subst e9
            have hyp := hyo.2.2 hy
            refine vv_iload_n C dX12_either_19 rfl ?_
            refine vv_if_ne (tgt := 27) C dX12_either_20 (by decide) (fun q20 => ?_) (fun q20 => ?_)
            · refine vv_iconst C dX12_either_27 ic_1 ?_
              refine vv_goto (tgt := 32) C dX12_either_28 (by decide) ?_
              refine vs_eqi (v9 := tkV (ab L B t.2.1) (t.2.2.2 N) (((pzR (pzO (ab L B) r) (ab L B) 4) (t.2.1 + 1)).2.2.2 N)) (by first | exact (if_neg (fun z => q20 z.1)).symm.trans (tkor hop) | exact (if_neg (fun z => q24 z.2)).symm.trans (tkor hop) | exact (if_pos ⟨q20, q24⟩).symm.trans (tkor hop)) ?_
              refine vw_istore_n (lv9 := [_, _, _]) C dX12_either_32 (by decide) rfl rfl ?_
              refine vv_goto (tgt := 5) C dX12_either_33 (by decide) ?_
              exact ih (true, ((pzR (pzO (ab L B) r) (ab L B) 4) (t.2.1 + 1)).2.1, t.2.2.1 ++ (((pzR (pzO (ab L B) r) (ab L B) 4) (t.2.1 + 1)).2.2.1 ++ [-(ab L B t.2.1)]), fun N => tkV (ab L B t.2.1) (t.2.2.2 N) (((pzR (pzO (ab L B) r) (ab L B) 4) (t.2.1 + 1)).2.2.2 N)) _ S15 rfl ⟨((hS.1.tr (vs_fr.rf.us (by decide))).tr p15.1.1), p15.1.2.1, fun _ => ⟨(p15.1.2.2.1 hy).1, (p15.1.2.2.1 hy).2.trans (hS.2.2.1 ht).2⟩, fun z => absurd rfl z⟩ ⟨hyo.1, by show p ≤ ((pzR (pzO (ab L B) r) (ab L B) 4) (t.2.1 + 1)).2.1; omega, fun _ => ⟨by
                  show p + (t.2.2.1 ++ (((pzR (pzO (ab L B) r) (ab L B) 4) (t.2.1 + 1)).2.2.1 ++ [-(ab L B t.2.1)])).length ≤ ((pzR (pzO (ab L B) r) (ab L B) 4) (t.2.1 + 1)).2.1
                  rw [List.length_append, List.length_append, List.length_singleton]
                  omega, by show p < ((pzR (pzO (ab L B) r) (ab L B) 4) (t.2.1 + 1)).2.1; omega⟩⟩ (by show 120 ≤ ((pzR (pzO (ab L B) r) (ab L B) 4) (t.2.1 + 1)).2.1 + f; omega) he
            · refine vv_iload_n C dX12_either_23 rfl ?_
              refine vv_if_eq (tgt := 31) C dX12_either_24 (by decide) (fun q24 => ?_) (fun q24 => ?_)
              · refine vv_iconst C dX12_either_31 ic_0 ?_
                refine vs_eqi (v9 := tkV (ab L B t.2.1) (t.2.2.2 N) (((pzR (pzO (ab L B) r) (ab L B) 4) (t.2.1 + 1)).2.2.2 N)) (by first | exact (if_neg (fun z => q20 z.1)).symm.trans (tkor hop) | exact (if_neg (fun z => q24 z.2)).symm.trans (tkor hop) | exact (if_pos ⟨q20, q24⟩).symm.trans (tkor hop)) ?_
                refine vw_istore_n (lv9 := [_, _, _]) C dX12_either_32 (by decide) rfl rfl ?_
                refine vv_goto (tgt := 5) C dX12_either_33 (by decide) ?_
                exact ih (true, ((pzR (pzO (ab L B) r) (ab L B) 4) (t.2.1 + 1)).2.1, t.2.2.1 ++ (((pzR (pzO (ab L B) r) (ab L B) 4) (t.2.1 + 1)).2.2.1 ++ [-(ab L B t.2.1)]), fun N => tkV (ab L B t.2.1) (t.2.2.2 N) (((pzR (pzO (ab L B) r) (ab L B) 4) (t.2.1 + 1)).2.2.2 N)) _ S15 rfl ⟨((hS.1.tr (vs_fr.rf.us (by decide))).tr p15.1.1), p15.1.2.1, fun _ => ⟨(p15.1.2.2.1 hy).1, (p15.1.2.2.1 hy).2.trans (hS.2.2.1 ht).2⟩, fun z => absurd rfl z⟩ ⟨hyo.1, by show p ≤ ((pzR (pzO (ab L B) r) (ab L B) 4) (t.2.1 + 1)).2.1; omega, fun _ => ⟨by
                    show p + (t.2.2.1 ++ (((pzR (pzO (ab L B) r) (ab L B) 4) (t.2.1 + 1)).2.2.1 ++ [-(ab L B t.2.1)])).length ≤ ((pzR (pzO (ab L B) r) (ab L B) 4) (t.2.1 + 1)).2.1
                    rw [List.length_append, List.length_append, List.length_singleton]
                    omega, by show p < ((pzR (pzO (ab L B) r) (ab L B) 4) (t.2.1 + 1)).2.1; omega⟩⟩ (by show 120 ≤ ((pzR (pzO (ab L B) r) (ab L B) 4) (t.2.1 + 1)).2.1 + f; omega) he
              · refine vv_iconst C dX12_either_27 ic_1 ?_
                refine vv_goto (tgt := 32) C dX12_either_28 (by decide) ?_
                refine vs_eqi (v9 := tkV (ab L B t.2.1) (t.2.2.2 N) (((pzR (pzO (ab L B) r) (ab L B) 4) (t.2.1 + 1)).2.2.2 N)) (by first | exact (if_neg (fun z => q20 z.1)).symm.trans (tkor hop) | exact (if_neg (fun z => q24 z.2)).symm.trans (tkor hop) | exact (if_pos ⟨q20, q24⟩).symm.trans (tkor hop)) ?_
                refine vw_istore_n (lv9 := [_, _, _]) C dX12_either_32 (by decide) rfl rfl ?_
                refine vv_goto (tgt := 5) C dX12_either_33 (by decide) ?_
                exact ih (true, ((pzR (pzO (ab L B) r) (ab L B) 4) (t.2.1 + 1)).2.1, t.2.2.1 ++ (((pzR (pzO (ab L B) r) (ab L B) 4) (t.2.1 + 1)).2.2.1 ++ [-(ab L B t.2.1)]), fun N => tkV (ab L B t.2.1) (t.2.2.2 N) (((pzR (pzO (ab L B) r) (ab L B) 4) (t.2.1 + 1)).2.2.2 N)) _ S15 rfl ⟨((hS.1.tr (vs_fr.rf.us (by decide))).tr p15.1.1), p15.1.2.1, fun _ => ⟨(p15.1.2.2.1 hy).1, (p15.1.2.2.1 hy).2.trans (hS.2.2.1 ht).2⟩, fun z => absurd rfl z⟩ ⟨hyo.1, by show p ≤ ((pzR (pzO (ab L B) r) (ab L B) 4) (t.2.1 + 1)).2.1; omega, fun _ => ⟨by
                    show p + (t.2.2.1 ++ (((pzR (pzO (ab L B) r) (ab L B) 4) (t.2.1 + 1)).2.2.1 ++ [-(ab L B t.2.1)])).length ≤ ((pzR (pzO (ab L B) r) (ab L B) 4) (t.2.1 + 1)).2.1
                    rw [List.length_append, List.length_append, List.length_singleton]
                    omega, by show p < ((pzR (pzO (ab L B) r) (ab L B) 4) (t.2.1 + 1)).2.1; omega⟩⟩ (by show 120 ≤ ((pzR (pzO (ab L B) r) (ab L B) 4) (t.2.1 + 1)).2.1 + f; omega) he
          · rw [if_neg hy] at he
            have h32 := p15.1.2.2.2 hy
            have hy31 : ((pzR (pzO (ab L B) r) (ab L B) 4) (t.2.1 + 1)).2.1 < 2 ^ 31 := by have := hyo.1; omega
            refine vv_iload_n C dX12_either_19 rfl ?_
            refine vv_if_ne (tgt := 27) C dX12_either_20 (by decide) (fun q20 => ?_) (fun q20 => ?_)
            · refine vv_iconst C dX12_either_27 ic_1 ?_
              refine vv_goto (tgt := 32) C dX12_either_28 (by decide) ?_
              refine vw_istore_n (lv9 := [_, _, _]) C dX12_either_32 (by decide) rfl rfl ?_
              refine vv_goto (tgt := 5) C dX12_either_33 (by decide) ?_
              refine vv_aload_n C dX12_either_5 rfl ?_
              refine vv_bipush C dX12_either_6 bp_124 ?_
              refine vs_caliF C dX12_either_8 (c_X12_takesN g S15 L B N (hI.fr ((hS.1.tr (vs_fr.rf.us (by decide))).tr p15.1.1)) ((pzR (pzO (ab L B) r) (ab L B) 4) (t.2.1 + 1)).2.1 hyo.1 p15.1.2.1 124 (fun z => nf_no hy31 h32 z.1) (Or.inr (nf_ge hy31 h32))) mb_X12_takes mv_X12_takes lk_X12_229 ce_65 rfl rfl rfl rfl ⟨by omega, by omega, Nat.le_of_ble_eq_true rfl⟩ ?_
              refine vv_if_eq (tgt := 36) C dX12_either_11 (by decide) (fun q11 => ?_) (fun q11 => ?_)
              · skip
                refine vv_iload_n C dX12_either_36 rfl ?_
                exact vs_iret C F dX12_either_37 rfl ⟨by rw [← he]; exact ⟨((hS.1.tr (vs_fr.rf.us (by decide))).tr p15.1.1), p15.1.2.1, fun z => absurd (show false = true from z) (by decide), fun _ => h32⟩, fun z => by rw [← he] at z; cases z⟩
              · exact absurd rfl q11
            · refine vv_iload_n C dX12_either_23 rfl ?_
              refine vv_if_eq (tgt := 31) C dX12_either_24 (by decide) (fun q24 => ?_) (fun q24 => ?_)
              · refine vv_iconst C dX12_either_31 ic_0 ?_
                refine vw_istore_n (lv9 := [_, _, _]) C dX12_either_32 (by decide) rfl rfl ?_
                refine vv_goto (tgt := 5) C dX12_either_33 (by decide) ?_
                refine vv_aload_n C dX12_either_5 rfl ?_
                refine vv_bipush C dX12_either_6 bp_124 ?_
                refine vs_caliF C dX12_either_8 (c_X12_takesN g S15 L B N (hI.fr ((hS.1.tr (vs_fr.rf.us (by decide))).tr p15.1.1)) ((pzR (pzO (ab L B) r) (ab L B) 4) (t.2.1 + 1)).2.1 hyo.1 p15.1.2.1 124 (fun z => nf_no hy31 h32 z.1) (Or.inr (nf_ge hy31 h32))) mb_X12_takes mv_X12_takes lk_X12_229 ce_65 rfl rfl rfl rfl ⟨by omega, by omega, Nat.le_of_ble_eq_true rfl⟩ ?_
                refine vv_if_eq (tgt := 36) C dX12_either_11 (by decide) (fun q11 => ?_) (fun q11 => ?_)
                · skip
                  refine vv_iload_n C dX12_either_36 rfl ?_
                  exact vs_iret C F dX12_either_37 rfl ⟨by rw [← he]; exact ⟨((hS.1.tr (vs_fr.rf.us (by decide))).tr p15.1.1), p15.1.2.1, fun z => absurd (show false = true from z) (by decide), fun _ => h32⟩, fun z => by rw [← he] at z; cases z⟩
                · exact absurd rfl q11
              · refine vv_iconst C dX12_either_27 ic_1 ?_
                refine vv_goto (tgt := 32) C dX12_either_28 (by decide) ?_
                refine vw_istore_n (lv9 := [_, _, _]) C dX12_either_32 (by decide) rfl rfl ?_
                refine vv_goto (tgt := 5) C dX12_either_33 (by decide) ?_
                refine vv_aload_n C dX12_either_5 rfl ?_
                refine vv_bipush C dX12_either_6 bp_124 ?_
                refine vs_caliF C dX12_either_8 (c_X12_takesN g S15 L B N (hI.fr ((hS.1.tr (vs_fr.rf.us (by decide))).tr p15.1.1)) ((pzR (pzO (ab L B) r) (ab L B) 4) (t.2.1 + 1)).2.1 hyo.1 p15.1.2.1 124 (fun z => nf_no hy31 h32 z.1) (Or.inr (nf_ge hy31 h32))) mb_X12_takes mv_X12_takes lk_X12_229 ce_65 rfl rfl rfl rfl ⟨by omega, by omega, Nat.le_of_ble_eq_true rfl⟩ ?_
                refine vv_if_eq (tgt := 36) C dX12_either_11 (by decide) (fun q11 => ?_) (fun q11 => ?_)
                · skip
                  refine vv_iload_n C dX12_either_36 rfl ?_
                  exact vs_iret C F dX12_either_37 rfl ⟨by rw [← he]; exact ⟨((hS.1.tr (vs_fr.rf.us (by decide))).tr p15.1.1), p15.1.2.1, fun z => absurd (show false = true from z) (by decide), fun _ => h32⟩, fun z => by rw [← he] at z; cases z⟩
                · exact absurd rfl q11
      · have hne : ¬ tkR (ab L B t.2.1) = 0 := fun z => hop (tk0 z)
        rw [if_neg hne] at he
        refine vv_aload_n C dX12_either_5 rfl ?_
        refine vv_bipush C dX12_either_6 bp_124 ?_
        refine vs_caliF C dX12_either_8 (c_X12_takesN g Sa L B N (hI.fr hS.1) t.2.1 hq2.1 hS.2.1 124 (fun z => hop z.2) (Or.inl (hS.2.2.1 ht).1)) mb_X12_takes mv_X12_takes lk_X12_229 ce_65 rfl rfl rfl rfl ⟨by omega, by omega, Nat.le_of_ble_eq_true rfl⟩ ?_
        refine vv_if_eq (tgt := 36) C dX12_either_11 (by decide) (fun q11 => ?_) (fun q11 => ?_)
        · skip
          refine vv_iload_n C dX12_either_36 rfl ?_
          exact vs_iret C F dX12_either_37 rfl ⟨by rw [← he]; exact hS, fun _ => congrArg (fun t9 : pT => t9.2.2.2 N) he⟩
        · exact absurd rfl q11
  by_cases ht0 : ((pzR (pzO (ab L B) r) (ab L B) 4) p).1 = true
  · have e9 := p1.2 ht0
    subst e9
    refine vw_istore_n (lv9 := [_, _, _]) C dX12_either_4 (by decide) rfl rfl ?_
    exact loop 120 ((pzR (pzO (ab L B) r) (ab L B) 4) p) _ S1 ht0 p1.1 hpo (by omega) (by show _ = if ((pzR (pzO (ab L B) r) (ab L B) 4) p).1 = true then _ else _; rw [if_pos ht0]; rfl)
  · have h32 := p1.1.2.2.2 ht0
    have hy31 : ((pzR (pzO (ab L B) r) (ab L B) 4) p).2.1 < 2 ^ 31 := by have := hpo.1; omega
    have hfin : (pzR (pzO (ab L B) r) (ab L B) 5 p) = pF ((pzR (pzO (ab L B) r) (ab L B) 4) p).2.1 := if_neg ht0
    refine vw_istore_n (lv9 := [_, _, _]) C dX12_either_4 (by decide) rfl rfl ?_
    refine vv_aload_n C dX12_either_5 rfl ?_
    refine vv_bipush C dX12_either_6 bp_124 ?_
    refine vs_caliF C dX12_either_8 (c_X12_takesN g S1 L B N (hI.fr p1.1.1) ((pzR (pzO (ab L B) r) (ab L B) 4) p).2.1 hpo.1 p1.1.2.1 124 (fun z => nf_no hy31 h32 z.1) (Or.inr (nf_ge hy31 h32))) mb_X12_takes mv_X12_takes lk_X12_229 ce_65 rfl rfl rfl rfl ⟨by omega, by omega, Nat.le_of_ble_eq_true rfl⟩ ?_
    refine vv_if_eq (tgt := 36) C dX12_either_11 (by decide) (fun q11 => ?_) (fun q11 => ?_)
    · skip
      refine vv_iload_n C dX12_either_36 rfl ?_
      exact vs_iret C F dX12_either_37 rfl ⟨by rw [hfin]; exact ⟨p1.1.1, p1.1.2.1, fun z => absurd (show false = true from z) (by decide), fun _ => h32⟩, fun z => by rw [hfin] at z; cases z⟩
    · exact absurd rfl q11
