theorem sg_neg {b : Nat} (hb : b ≤ 1000) : (if b = 1000 then (-1 : Int32) else nI b) < 0 ↔ b = 1000 := by
  by_cases z : b = 1000
  · rw [if_pos z]
    exact ⟨fun _ => z, fun _ => by decide⟩
  · rw [if_neg z]
    exact ⟨fun y => absurd y (xn_neg (by omega)), fun y => absurd y z⟩
set_option maxRecDepth 20000 in
theorem c_X12_goesShare (g : vv_G) (law : Nat) (k N : Nat) (hk2 : 2 ≤ k) (hk4 : k ≤ 4) (hN : N ≤ 600) : ∀ (r : Nat) (S : vs_S) (row : Nat → Nat) (j fro left : Nat) (B : sh_B), j + r + 1 = k → 1 ≤ j → (∀ v, v ≤ N → S.2.1 72 v = vs_b (np_lm law v)) → (∀ q, q < j → S.2.1 79 q = nI (row q)) → sg_I k S B → 2 ≤ row 0 → row 0 ≤ fro → fro ≤ left → left ≤ N → vs_KV g yX12_goesShare cX12_goesShare 7 none (1 + r) [vv_r g 65, .int (nI k), .int (nI j), .int (nI fro), .int (nI left)] S (fun S1 => sg_I k S1 (sy (np_lm law) k (row 0) r row fro left B) ∧ (∀ q, q < j → S1.2.1 79 q = S.2.1 79 q) ∧ vs_fr [34] [79, 80] [] S S1) := by
  intro r
  induction r with
  | zero =>
    intro S row j fro left B h0 h1 ht h79 hB hr2 hrf hfl2 hleft
    have hik : j = k - 1 := by omega
    subst hik
    refine vs_ofV (lv := [_, _, _, _, _, _, _]) mb_X12_goesShare (Nat.le_of_ble_eq_true rfl) rfl (fun x C F => ?_)
    have hb := hB.2.1
    have hr0 := h79 0 (by omega)
    have copy : ∀ (f x9 : Nat) (S2 : vs_S), x9 + f = k → vs_fr [34] [79, 80] [] S S2 → S2.2.1 79 = upd (S.2.1 79) (k - 1) (nI left) → S2.1 34 = nI (left - row 0) → (∀ q, q < x9 → S2.2.1 80 q = upd (S.2.1 79) (k - 1) (nI left) q) → (np_lm law left = true ∧ left - row 0 < B.1) → vv_V g x 7 0 0 86 [some (vv_r g 65), some (.int (nI k)), some (.int (nI (k - 1))), some (.int (nI fro)), some (.int (nI left)), some (.int (nI (row 0))), some (.int (nI x9))] [] (vs_cells g S2) := by
      intro f
      induction f with
      | zero =>
        intro x9 S2 h1 fr e79 e34 e80 hv
        have hx : x9 = k := by omega
        subst hx
        refine vv_iload C dX12_goesShare_86 rfl ?_
        refine vv_iload_n C dX12_goesShare_88 rfl ?_
        refine vv_icmp_ge (tgt := 112) C dX12_goesShare_89 (by decide) (fun q89 => ?_) (fun q89 => ?_)
        · refine vs_vret C F dX12_goesShare_112 rfl ⟨?_, ?_, fr⟩
          · unfold sy
            rw [if_pos hv]
            refine ⟨?_, by dsimp only; omega, fun _ q hq => ?_⟩
            · dsimp only
              rw [if_neg (by omega)]
              exact e34
            · dsimp only
              rw [e80 q hq, xn_upd (α := Nat), va_up1]
              split
              · rfl
              · exact h79 q (by omega)
          · intro q hq
            rw [e79, upd_ne (by omega)]
        · exact absurd (Int32.le_refl _) q89
      | succ f ih =>
        intro x9 S2 h1 fr e79 e34 e80 hv
        refine vv_iload C dX12_goesShare_86 rfl ?_
        refine vv_iload_n C dX12_goesShare_88 rfl ?_
        refine vv_icmp_ge (tgt := 112) C dX12_goesShare_89 (by decide) (fun q89 => ?_) (fun q89 => ?_)
        · exact absurd q89 (by rw [xn_le (by omega) (by omega)]; omega)
        · refine vv_aload_n C dX12_goesShare_92 rfl ?_
          refine gf_X12_bestRow C dX12_goesShare_93 fg_X12_56 ?_
          refine vv_iload C dX12_goesShare_96 rfl ?_
          refine vv_aload_n C dX12_goesShare_98 rfl ?_
          refine gf_X12_row1 C dX12_goesShare_99 fg_X12_53 ?_
          refine vv_iload C dX12_goesShare_102 rfl ?_
          refine ld_79 C dX12_goesShare_104 (xn_in (by omega) (by omega)) ?_
          refine vs_eqi (v9 := upd (S.2.1 79) (k - 1) (nI left) x9) (by rw [xn_cl (by omega), e79]) ?_
          refine st_80 C dX12_goesShare_105 (xn_in (by omega) (by omega)) ?_
          refine vw_iinc (lv9 := [_, _, _, _, _, _, _]) C dX12_goesShare_106 rfl ic_1 (by decide) rfl rfl ?_
          refine vv_goto (tgt := 86) C dX12_goesShare_109 (by decide) ?_
          rw [nI_1]
          refine ih (x9 + 1) _ (by omega) (fr.ua (by decide)) e79 e34 (fun q hq => ?_) hv
          show upd (S2.2.1 80) (nI x9).toNatClampNeg _ q = _
          rw [xn_cl (by omega)]
          by_cases z : q = x9
          · rw [z, upd_eq]
          · rw [upd_ne z]
            exact e80 q (by omega)
    refine vv_iload_n C dX12_goesShare_0 rfl ?_
    refine vv_if_ne (tgt := 8) C dX12_goesShare_1 (by decide) (fun q1 => ?_) (fun q1 => ?_)
    · refine vv_aload_n C dX12_goesShare_8 rfl ?_
      refine gf_X12_row1 C dX12_goesShare_9 fg_X12_53 ?_
      refine vv_iconst C dX12_goesShare_12 ic_0 ?_
      refine ld_79 C dX12_goesShare_13 (xn_in (n := 0) (by omega) (by omega)) ?_
      refine vs_eqi (v9 := nI (row 0)) (hr0) ?_
      refine vw_istore (lv9 := [_, _, _, _, _, _, _]) C dX12_goesShare_14 (by decide) rfl rfl ?_
      refine vv_iload_n C dX12_goesShare_16 rfl ?_
      refine vv_iload_n C dX12_goesShare_17 rfl ?_
      refine vv_iconst C dX12_goesShare_18 ic_1 ?_
      refine vv_isub C dX12_goesShare_19 ?_
      refine vs_eqi (v9 := nI (k - 1)) (xn_sub (a := k) (b := 1) (by omega)) ?_
      refine vv_icmp_ne (tgt := 113) C dX12_goesShare_20 (by decide) (fun q20 => ?_) (fun q20 => ?_)
      · exact absurd rfl q20
      · refine vv_iload C dX12_goesShare_23 rfl ?_
        refine vv_iload_n C dX12_goesShare_25 rfl ?_
        refine vv_icmp_lt (tgt := 112) C dX12_goesShare_26 (by decide) (fun q26 => ?_) (fun q26 => ?_)
        · exact absurd q26 (by rw [xn_lt (by omega) (by omega)]; omega)
        · refine vv_iload C dX12_goesShare_29 rfl ?_
          refine vv_sipush C dX12_goesShare_31 sp_600 ?_
          refine vv_icmp_gt (tgt := 112) C dX12_goesShare_34 (by decide) (fun q34 => ?_) (fun q34 => ?_)
          · exact absurd q34 (by rw [xn_lit, xn_lt (by omega) (by omega)]; omega)
          · refine vv_aload_n C dX12_goesShare_37 rfl ?_
            refine gf_X12_lawfulTo C dX12_goesShare_38 fg_X12_30 ?_
            refine vv_iload C dX12_goesShare_41 rfl ?_
            refine ld_72 C dX12_goesShare_43 (xn_in (by omega) (by omega)) ?_
            refine vs_eqi (v9 := vs_b (np_lm law left)) (by rw [xn_cl (by omega)]; exact ht left (by omega)) ?_
            refine vv_if_eq (tgt := 112) C dX12_goesShare_44 (by decide) (fun q44 => ?_) (fun q44 => ?_)
            · have hv : ¬ (np_lm law left = true ∧ left - row 0 < B.1) := fun z => by rw [vs_b0.mp q44] at z; cases z.1
              exact vs_vret C F dX12_goesShare_112 rfl ⟨by unfold sy; rw [if_neg hv]; exact hB, fun q hq => rfl, vs_fr.rf⟩
            · have hp : np_lm law left = true := vs_b1.mp q44
              refine vv_aload_n C dX12_goesShare_47 rfl ?_
              refine gf_X12_bestOff C dX12_goesShare_48 fg_X12_267 ?_
              refine vs_eqi (v9 := if B.1 = 1000 then -1 else nI B.1) (hB.1) ?_
              refine vv_if_lt (tgt := 66) C dX12_goesShare_51 (by decide) (fun q51 => ?_) (fun q51 => ?_)
              · have hz := (sg_neg hb).mp q51
                have hv : np_lm law left = true ∧ left - row 0 < B.1 := ⟨hp, by omega⟩
                refine vv_aload_n C dX12_goesShare_66 rfl ?_
                refine gf_X12_row1 C dX12_goesShare_67 fg_X12_53 ?_
                refine vv_iload_n C dX12_goesShare_70 rfl ?_
                refine vv_iload C dX12_goesShare_71 rfl ?_
                refine st_79 C dX12_goesShare_73 (xn_in (by omega) (by omega)) ?_
                refine vv_aload_n C dX12_goesShare_74 rfl ?_
                refine vv_iload C dX12_goesShare_75 rfl ?_
                refine vv_iload C dX12_goesShare_77 rfl ?_
                refine vv_isub C dX12_goesShare_79 ?_
                refine vs_eqi (v9 := nI (left - row 0)) (xn_sub (by omega)) ?_
                refine pf_X12_bestOff C dX12_goesShare_80 fp_X12_267 ?_
                refine vv_iconst C dX12_goesShare_83 ic_0 ?_
                refine vw_istore (lv9 := [_, _, _, _, _, _, _]) C dX12_goesShare_84 (by decide) rfl rfl ?_
                exact copy k 0 _ (by omega) (((vs_fr.rf.ua (by decide)).us (by decide))) (by show upd (S.2.1 79) (nI (k - 1)).toNatClampNeg (nI left) = _; rw [xn_cl (by omega)]) rfl (fun q hq => by omega) hv
              · have hz9 : ¬ B.1 = 1000 := fun z => q51 ((sg_neg hb).mpr z)
                refine vv_iload C dX12_goesShare_54 rfl ?_
                refine vv_iload C dX12_goesShare_56 rfl ?_
                refine vv_isub C dX12_goesShare_58 ?_
                refine vs_eqi (v9 := nI (left - row 0)) (xn_sub (by omega)) ?_
                refine vv_aload_n C dX12_goesShare_59 rfl ?_
                refine gf_X12_bestOff C dX12_goesShare_60 fg_X12_267 ?_
                refine vs_eqi (v9 := nI B.1) (hB.1.trans (if_neg (fun z => q51 ((sg_neg hb).mpr z)))) ?_
                refine vv_icmp_ge (tgt := 112) C dX12_goesShare_63 (by decide) (fun q63 => ?_) (fun q63 => ?_)
                · have hv : ¬ (np_lm law left = true ∧ left - row 0 < B.1) := fun z => by rw [xn_le (by omega) (by omega)] at q63; omega
                  exact vs_vret C F dX12_goesShare_112 rfl ⟨by unfold sy; rw [if_neg hv]; exact hB, fun q hq => rfl, vs_fr.rf⟩
                · have hv : np_lm law left = true ∧ left - row 0 < B.1 := ⟨hp, by rw [xn_le (by omega) (by omega)] at q63; omega⟩
                  refine vv_aload_n C dX12_goesShare_66 rfl ?_
                  refine gf_X12_row1 C dX12_goesShare_67 fg_X12_53 ?_
                  refine vv_iload_n C dX12_goesShare_70 rfl ?_
                  refine vv_iload C dX12_goesShare_71 rfl ?_
                  refine st_79 C dX12_goesShare_73 (xn_in (by omega) (by omega)) ?_
                  refine vv_aload_n C dX12_goesShare_74 rfl ?_
                  refine vv_iload C dX12_goesShare_75 rfl ?_
                  refine vv_iload C dX12_goesShare_77 rfl ?_
                  refine vv_isub C dX12_goesShare_79 ?_
                  refine vs_eqi (v9 := nI (left - row 0)) (xn_sub (by omega)) ?_
                  refine pf_X12_bestOff C dX12_goesShare_80 fp_X12_267 ?_
                  refine vv_iconst C dX12_goesShare_83 ic_0 ?_
                  refine vw_istore (lv9 := [_, _, _, _, _, _, _]) C dX12_goesShare_84 (by decide) rfl rfl ?_
                  exact copy k 0 _ (by omega) (((vs_fr.rf.ua (by decide)).us (by decide))) (by show upd (S.2.1 79) (nI (k - 1)).toNatClampNeg (nI left) = _; rw [xn_cl (by omega)]) rfl (fun q hq => by omega) hv
    · exact absurd ((xn_eq (b := 0) (by omega) (by omega)).mp q1) (by omega)
  | succ r ih =>
    intro S row j fro left B h0 h1 ht h79 hB hr2 hrf hfl2 hleft
    refine vs_ofV (lv := [_, _, _, _, _, _, _]) mb_X12_goesShare (Nat.le_of_ble_eq_true rfl) rfl (fun x C F => ?_)
    have hr0 := h79 0 (by omega)
    have loop : ∀ (f a : Nat) (S2 : vs_S) (B2 : sh_B), left + 1 ≤ a + f → a ≤ left + 1 → fro ≤ a → sg_I k S2 B2 → (∀ q, q < j → S2.2.1 79 q = nI (row q)) → vs_fr [34] [79, 80] [] S S2 → sf (sy_g (np_lm law) k (row 0) r row left) (r + 2) left f a B2 = sy (np_lm law) k (row 0) (r + 1) row fro left B → vv_V g x 7 0 0 116 [some (vv_r g 65), some (.int (nI k)), some (.int (nI j)), some (.int (nI fro)), some (.int (nI left)), some (.int (nI (row 0))), some (.int (nI a))] [] (vs_cells g S2) := by
      intro f
      induction f with
      | zero =>
        intro a S2 B2 h2 h3 h5 hI2 h792 fr2 he
        have ha : a = left + 1 := by omega
        subst ha
        have hlt : left < (left + 1) * (r + 2) := by
          have := Nat.le_mul_of_pos_right (left + 1) (show 0 < r + 2 by omega)
          omega
        have hmu : (left + 1) * (r + 2) ≤ 601 * 4 := Nat.mul_le_mul (by omega) (by omega)
        have hfin : B2 = sy (np_lm law) k (row 0) (r + 1) row fro left B := he
        refine vv_iload C dX12_goesShare_116 rfl ?_
        refine vv_iload_n C dX12_goesShare_118 rfl ?_
        refine vv_iload_n C dX12_goesShare_119 rfl ?_
        refine vv_isub C dX12_goesShare_120 ?_
        refine vs_eqi (v9 := nI (r + 2)) ((xn_sub (by omega)).trans (congrArg nI (by omega))) ?_
        refine vv_imul C dX12_goesShare_121 ?_
        refine vs_eqi (v9 := nI ((left + 1) * (r + 2))) (xn_mul _ _) ?_
        refine vv_iload C dX12_goesShare_122 rfl ?_
        refine vv_icmp_gt (tgt := 189) C dX12_goesShare_124 (by decide) (fun q124 => ?_) (fun q124 => ?_)
        · exact vs_vret C F dX12_goesShare_189 rfl ⟨by rw [← hfin]; exact hI2, fun q hq => (h792 q hq).trans (h79 q hq).symm, fr2⟩
        · exact absurd ((xn_lt (by omega) (by omega)).mpr hlt) q124
      | succ f ihf =>
        intro a S2 B2 h2 h3 h5 hI2 h792 fr2 he
        have hmu : a * (r + 2) ≤ 601 * 4 := Nat.mul_le_mul (by omega) (by omega)
        refine vv_iload C dX12_goesShare_116 rfl ?_
        refine vv_iload_n C dX12_goesShare_118 rfl ?_
        refine vv_iload_n C dX12_goesShare_119 rfl ?_
        refine vv_isub C dX12_goesShare_120 ?_
        refine vs_eqi (v9 := nI (r + 2)) ((xn_sub (by omega)).trans (congrArg nI (by omega))) ?_
        refine vv_imul C dX12_goesShare_121 ?_
        refine vs_eqi (v9 := nI (a * (r + 2))) (xn_mul _ _) ?_
        refine vv_iload C dX12_goesShare_122 rfl ?_
        refine vv_icmp_gt (tgt := 189) C dX12_goesShare_124 (by decide) (fun q124 => ?_) (fun q124 => ?_)
        · have hz : ¬ a * (r + 2) ≤ left := by rw [xn_lt (by omega) (by omega)] at q124; omega
          have hfin : B2 = sy (np_lm law) k (row 0) (r + 1) row fro left B := by rw [← he, sf1, if_neg hz]
          exact vs_vret C F dX12_goesShare_189 rfl ⟨by rw [← hfin]; exact hI2, fun q hq => (h792 q hq).trans (h79 q hq).symm, fr2⟩
        · have hz : a * (r + 2) ≤ left := by rw [xn_lt (by omega) (by omega)] at q124; omega
          have hm := sh_mul hz
          have hb := hI2.2.1
          refine vv_aload_n C dX12_goesShare_127 rfl ?_
          refine gf_X12_lawfulTo C dX12_goesShare_128 fg_X12_30 ?_
          refine vv_iload C dX12_goesShare_131 rfl ?_
          refine ld_72 C dX12_goesShare_133 (xn_in (by omega) (by omega)) ?_
          refine vs_eqi (v9 := vs_b (np_lm law a)) (by rw [xn_cl (by omega), fr2.2.1 72 (by decide)]; exact ht a (by omega)) ?_
          refine vv_if_eq (tgt := 183) C dX12_goesShare_134 (by decide) (fun q134 => ?_) (fun q134 => ?_)
          · have hno : sy_g (np_lm law) k (row 0) r row left a B2 = B2 := by unfold sy_g; rw [if_neg (by rw [vs_b0.mp q134]; decide)]
            refine vw_iinc (lv9 := [_, _, _, _, _, _, _]) C dX12_goesShare_183 rfl ic_1 (by decide) rfl rfl ?_
            refine vv_goto (tgt := 116) C dX12_goesShare_186 (by decide) ?_
            rw [nI_1]
            first
            | exact ihf (a + 1) S2 B2 (by omega) (by omega) (by omega) hI2 h792 fr2 (by rw [← he, sf1, if_pos hz, hno])
            | (obtain ⟨p1, p2, p3⟩ := p180
               have fr3 : vs_fr [34] [79, 80] [] S S180 := (fr2.ua (by decide)).tr p3
               refine ihf (a + 1) S180 _ (by omega) (by omega) (by omega) p1 (fun q hq => ?_) fr3 ?_
               · rw [p2 q (by omega)]
                 show upd (S2.2.1 79) (nI j).toNatClampNeg (nI a) q = _
                 rw [xn_cl (by omega), upd_ne (by omega)]
                 exact h792 q hq
               · rw [← he, sf1, if_pos hz]
                 unfold sy_g
                 rw [if_pos hp, show k - 2 - r = j by omega, show va_up row j a 0 = row 0 from by rw [va_up1, if_neg (by omega)]])
          · have hp : np_lm law a = true := vs_b1.mp q134
            refine vv_iload_n C dX12_goesShare_137 rfl ?_
            refine vv_if_eq (tgt := 160) C dX12_goesShare_138 (by decide) (fun q138 => ?_) (fun q138 => ?_)
            · exact absurd ((xn_eq (b := 0) (by omega) (by omega)).mp q138) (by omega)
            · refine vv_aload_n C dX12_goesShare_141 rfl ?_
              refine gf_X12_bestOff C dX12_goesShare_142 fg_X12_267 ?_
              refine vs_eqi (v9 := if B2.1 = 1000 then -1 else nI B2.1) (hI2.1) ?_
              refine vv_if_lt (tgt := 160) C dX12_goesShare_145 (by decide) (fun q145 => ?_) (fun q145 => ?_)
              · refine vv_aload_n C dX12_goesShare_160 rfl ?_
                refine gf_X12_row1 C dX12_goesShare_161 fg_X12_53 ?_
                refine vv_iload_n C dX12_goesShare_164 rfl ?_
                refine vv_iload C dX12_goesShare_165 rfl ?_
                refine st_79 C dX12_goesShare_167 (xn_in (by omega) (by omega)) ?_
                refine vv_aload_n C dX12_goesShare_168 rfl ?_
                refine vv_iload_n C dX12_goesShare_169 rfl ?_
                refine vv_iload_n C dX12_goesShare_170 rfl ?_
                refine vv_iconst C dX12_goesShare_171 ic_1 ?_
                refine vv_iadd C dX12_goesShare_172 ?_
                refine vs_eqi (v9 := nI (j + 1)) (nI_1 _) ?_
                refine vv_iload C dX12_goesShare_173 rfl ?_
                refine vv_iload C dX12_goesShare_175 rfl ?_
                refine vv_iload C dX12_goesShare_177 rfl ?_
                refine vv_isub C dX12_goesShare_179 ?_
                refine vs_eqi (v9 := nI (left - a)) (xn_sub (by omega)) ?_
                refine vs_callv C dX12_goesShare_180 (ih (vs_ua S2 79 (upd (S2.2.1 79) (nI j).toNatClampNeg (nI a))) (va_up row j a) (j + 1) a (left - a) B2 (by omega) (by omega) (fun v hv => by
          show S2.2.1 72 v = _
          rw [fr2.2.1 72 (by decide)]
          exact ht v hv) (fun q hq => by
          show upd (S2.2.1 79) (nI j).toNatClampNeg (nI a) q = nI (va_up row j a q)
          rw [xn_cl (by omega), xn_upd (α := Nat), va_up1]
          split
          · rfl
          · exact h792 q (by omega)) hI2 (by rw [va_up1, if_neg (by omega)]; exact hr2) (by rw [va_up1, if_neg (by omega)]; omega) hm.1 (by omega)) mb_X12_goesShare mv_X12_goesShare lk_X12_270 ce_65 rfl rfl rfl rfl ⟨by omega, by omega, Nat.le_of_ble_eq_true rfl⟩ (fun S180 p180 => ?_)
                refine vw_iinc (lv9 := [_, _, _, _, _, _, _]) C dX12_goesShare_183 rfl ic_1 (by decide) rfl rfl ?_
                refine vv_goto (tgt := 116) C dX12_goesShare_186 (by decide) ?_
                rw [nI_1]
                first
                | exact ihf (a + 1) S2 B2 (by omega) (by omega) (by omega) hI2 h792 fr2 (by rw [← he, sf1, if_pos hz, hno])
                | (obtain ⟨p1, p2, p3⟩ := p180
                   have fr3 : vs_fr [34] [79, 80] [] S S180 := (fr2.ua (by decide)).tr p3
                   refine ihf (a + 1) S180 _ (by omega) (by omega) (by omega) p1 (fun q hq => ?_) fr3 ?_
                   · rw [p2 q (by omega)]
                     show upd (S2.2.1 79) (nI j).toNatClampNeg (nI a) q = _
                     rw [xn_cl (by omega), upd_ne (by omega)]
                     exact h792 q hq
                   · rw [← he, sf1, if_pos hz]
                     unfold sy_g
                     rw [if_pos hp, show k - 2 - r = j by omega, show va_up row j a 0 = row 0 from by rw [va_up1, if_neg (by omega)]])
              · have hz9 : ¬ B2.1 = 1000 := fun z => q145 ((sg_neg hb).mpr z)
                refine vv_iload C dX12_goesShare_148 rfl ?_
                refine vv_iload C dX12_goesShare_150 rfl ?_
                refine vv_isub C dX12_goesShare_152 ?_
                refine vs_eqi (v9 := nI (a - row 0)) (xn_sub (by omega)) ?_
                refine vv_aload_n C dX12_goesShare_153 rfl ?_
                refine gf_X12_bestOff C dX12_goesShare_154 fg_X12_267 ?_
                refine vs_eqi (v9 := nI B2.1) (hI2.1.trans (if_neg hz9)) ?_
                refine vv_icmp_ge (tgt := 183) C dX12_goesShare_157 (by decide) (fun q157 => ?_) (fun q157 => ?_)
                · have hno : sy_g (np_lm law) k (row 0) r row left a B2 = B2 := by
                    unfold sy_g
                    rw [if_pos hp]
                    refine sy_no r _ a (left - a) B2 (by omega) (by omega) hm.1 (Or.inl ?_)
                    rw [xn_le (by omega) (by omega)] at q157
                    omega
                  refine vw_iinc (lv9 := [_, _, _, _, _, _, _]) C dX12_goesShare_183 rfl ic_1 (by decide) rfl rfl ?_
                  refine vv_goto (tgt := 116) C dX12_goesShare_186 (by decide) ?_
                  rw [nI_1]
                  first
                  | exact ihf (a + 1) S2 B2 (by omega) (by omega) (by omega) hI2 h792 fr2 (by rw [← he, sf1, if_pos hz, hno])
                  | (obtain ⟨p1, p2, p3⟩ := p180
                     have fr3 : vs_fr [34] [79, 80] [] S S180 := (fr2.ua (by decide)).tr p3
                     refine ihf (a + 1) S180 _ (by omega) (by omega) (by omega) p1 (fun q hq => ?_) fr3 ?_
                     · rw [p2 q (by omega)]
                       show upd (S2.2.1 79) (nI j).toNatClampNeg (nI a) q = _
                       rw [xn_cl (by omega), upd_ne (by omega)]
                       exact h792 q hq
                     · rw [← he, sf1, if_pos hz]
                       unfold sy_g
                       rw [if_pos hp, show k - 2 - r = j by omega, show va_up row j a 0 = row 0 from by rw [va_up1, if_neg (by omega)]])
                · refine vv_aload_n C dX12_goesShare_160 rfl ?_
                  refine gf_X12_row1 C dX12_goesShare_161 fg_X12_53 ?_
                  refine vv_iload_n C dX12_goesShare_164 rfl ?_
                  refine vv_iload C dX12_goesShare_165 rfl ?_
                  refine st_79 C dX12_goesShare_167 (xn_in (by omega) (by omega)) ?_
                  refine vv_aload_n C dX12_goesShare_168 rfl ?_
                  refine vv_iload_n C dX12_goesShare_169 rfl ?_
                  refine vv_iload_n C dX12_goesShare_170 rfl ?_
                  refine vv_iconst C dX12_goesShare_171 ic_1 ?_
                  refine vv_iadd C dX12_goesShare_172 ?_
                  refine vs_eqi (v9 := nI (j + 1)) (nI_1 _) ?_
                  refine vv_iload C dX12_goesShare_173 rfl ?_
                  refine vv_iload C dX12_goesShare_175 rfl ?_
                  refine vv_iload C dX12_goesShare_177 rfl ?_
                  refine vv_isub C dX12_goesShare_179 ?_
                  refine vs_eqi (v9 := nI (left - a)) (xn_sub (by omega)) ?_
                  refine vs_callv C dX12_goesShare_180 (ih (vs_ua S2 79 (upd (S2.2.1 79) (nI j).toNatClampNeg (nI a))) (va_up row j a) (j + 1) a (left - a) B2 (by omega) (by omega) (fun v hv => by
          show S2.2.1 72 v = _
          rw [fr2.2.1 72 (by decide)]
          exact ht v hv) (fun q hq => by
          show upd (S2.2.1 79) (nI j).toNatClampNeg (nI a) q = nI (va_up row j a q)
          rw [xn_cl (by omega), xn_upd (α := Nat), va_up1]
          split
          · rfl
          · exact h792 q (by omega)) hI2 (by rw [va_up1, if_neg (by omega)]; exact hr2) (by rw [va_up1, if_neg (by omega)]; omega) hm.1 (by omega)) mb_X12_goesShare mv_X12_goesShare lk_X12_270 ce_65 rfl rfl rfl rfl ⟨by omega, by omega, Nat.le_of_ble_eq_true rfl⟩ (fun S180 p180 => ?_)
                  refine vw_iinc (lv9 := [_, _, _, _, _, _, _]) C dX12_goesShare_183 rfl ic_1 (by decide) rfl rfl ?_
                  refine vv_goto (tgt := 116) C dX12_goesShare_186 (by decide) ?_
                  rw [nI_1]
                  first
                  | exact ihf (a + 1) S2 B2 (by omega) (by omega) (by omega) hI2 h792 fr2 (by rw [← he, sf1, if_pos hz, hno])
                  | (obtain ⟨p1, p2, p3⟩ := p180
                     have fr3 : vs_fr [34] [79, 80] [] S S180 := (fr2.ua (by decide)).tr p3
                     refine ihf (a + 1) S180 _ (by omega) (by omega) (by omega) p1 (fun q hq => ?_) fr3 ?_
                     · rw [p2 q (by omega)]
                       show upd (S2.2.1 79) (nI j).toNatClampNeg (nI a) q = _
                       rw [xn_cl (by omega), upd_ne (by omega)]
                       exact h792 q hq
                     · rw [← he, sf1, if_pos hz]
                       unfold sy_g
                       rw [if_pos hp, show k - 2 - r = j by omega, show va_up row j a 0 = row 0 from by rw [va_up1, if_neg (by omega)]])
    refine vv_iload_n C dX12_goesShare_0 rfl ?_
    refine vv_if_ne (tgt := 8) C dX12_goesShare_1 (by decide) (fun q1 => ?_) (fun q1 => ?_)
    · refine vv_aload_n C dX12_goesShare_8 rfl ?_
      refine gf_X12_row1 C dX12_goesShare_9 fg_X12_53 ?_
      refine vv_iconst C dX12_goesShare_12 ic_0 ?_
      refine ld_79 C dX12_goesShare_13 (xn_in (n := 0) (by omega) (by omega)) ?_
      refine vs_eqi (v9 := nI (row 0)) (hr0) ?_
      refine vw_istore (lv9 := [_, _, _, _, _, _, _]) C dX12_goesShare_14 (by decide) rfl rfl ?_
      refine vv_iload_n C dX12_goesShare_16 rfl ?_
      refine vv_iload_n C dX12_goesShare_17 rfl ?_
      refine vv_iconst C dX12_goesShare_18 ic_1 ?_
      refine vv_isub C dX12_goesShare_19 ?_
      refine vs_eqi (v9 := nI (k - 1)) (xn_sub (a := k) (b := 1) (by omega)) ?_
      refine vv_icmp_ne (tgt := 113) C dX12_goesShare_20 (by decide) (fun q20 => ?_) (fun q20 => ?_)
      · refine vv_iload_n C dX12_goesShare_113 rfl ?_
        refine vw_istore (lv9 := [_, _, _, _, _, _, _]) C dX12_goesShare_114 (by decide) rfl rfl ?_
        exact loop (left + 1) fro S B (by omega) (by omega) (Nat.le_refl _) hB h79 vs_fr.rf rfl
      · exact absurd ((xn_eq (by omega) (by omega)).mp q20) (by omega)
    · exact absurd ((xn_eq (b := 0) (by omega) (by omega)).mp q1) (by omega)
set_option maxRecDepth 20000 in
theorem c_X12_goesShare0 (g : vv_G) (S : vs_S) (law k n : Nat) (hk2 : 2 ≤ k) (hk4 : k ≤ 4) (hn1 : 1 ≤ n) (hn : n ≤ 600) (ht : ∀ v, v ≤ n → S.2.1 72 v = vs_b (np_lm law v)) (hI : sg_I k S (1000, fun _ => 0)) : vs_KV g yX12_goesShare cX12_goesShare 7 none 4 [vv_r g 65, .int (nI k), .int 0, .int 2, .int (nI n)] S (fun S1 => sg_I k S1 (sz (np_lm law) k n) ∧ vs_fr [34] [79, 80] [] S S1) := by
  refine vs_ofV (lv := [_, _, _, _, _, _, _]) mb_X12_goesShare (Nat.le_of_ble_eq_true rfl) rfl (fun x C F => ?_)
  have loop : ∀ (f a : Nat) (S2 : vs_S) (B2 : sh_B), n + 1 ≤ a + f → a ≤ n + 1 → 2 ≤ a → sg_I k S2 B2 → vs_fr [34] [79, 80] [] S S2 → sf (sy_t (np_lm law) k n) k n f a B2 = sz (np_lm law) k n → vv_V g x 7 0 0 116 [some (vv_r g 65), some (.int (nI k)), some (.int 0), some (.int 2), some (.int (nI n)), some (.int 2), some (.int (nI a))] [] (vs_cells g S2) := by
    intro f
    induction f with
    | zero =>
      intro a S2 B2 h2 h3 h5 hI2 fr2 he
      have ha : a = n + 1 := by omega
      subst ha
      have hlt : n < (n + 1) * k := by
        have := Nat.le_mul_of_pos_right (n + 1) (show 0 < k by omega)
        omega
      have hmu : (n + 1) * k ≤ 601 * 4 := Nat.mul_le_mul (by omega) (by omega)
      have hfin : B2 = sz (np_lm law) k n := he
      refine vv_iload C dX12_goesShare_116 rfl ?_
      refine vv_iload_n C dX12_goesShare_118 rfl ?_
      refine vv_iload_n C dX12_goesShare_119 rfl ?_
      refine vv_isub C dX12_goesShare_120 ?_
      refine vs_eqi (v9 := nI k) (xn_sub (a := k) (b := 0) (by omega)) ?_
      refine vv_imul C dX12_goesShare_121 ?_
      refine vs_eqi (v9 := nI ((n + 1) * k)) (xn_mul _ _) ?_
      refine vv_iload C dX12_goesShare_122 rfl ?_
      refine vv_icmp_gt (tgt := 189) C dX12_goesShare_124 (by decide) (fun q124 => ?_) (fun q124 => ?_)
      · exact vs_vret C F dX12_goesShare_189 rfl ⟨by rw [← hfin]; exact hI2, fr2⟩
      · exact absurd ((xn_lt (by omega) (by omega)).mpr hlt) q124
    | succ f ihf =>
      intro a S2 B2 h2 h3 h5 hI2 fr2 he
      have hmu : a * k ≤ 601 * 4 := Nat.mul_le_mul (by omega) (by omega)
      refine vv_iload C dX12_goesShare_116 rfl ?_
      refine vv_iload_n C dX12_goesShare_118 rfl ?_
      refine vv_iload_n C dX12_goesShare_119 rfl ?_
      refine vv_isub C dX12_goesShare_120 ?_
      refine vs_eqi (v9 := nI k) (xn_sub (a := k) (b := 0) (by omega)) ?_
      refine vv_imul C dX12_goesShare_121 ?_
      refine vs_eqi (v9 := nI (a * k)) (xn_mul _ _) ?_
      refine vv_iload C dX12_goesShare_122 rfl ?_
      refine vv_icmp_gt (tgt := 189) C dX12_goesShare_124 (by decide) (fun q124 => ?_) (fun q124 => ?_)
      · have hz : ¬ a * k ≤ n := by rw [xn_lt (by omega) (by omega)] at q124; omega
        have hfin : B2 = sz (np_lm law) k n := by rw [← he, sf1, if_neg hz]
        exact vs_vret C F dX12_goesShare_189 rfl ⟨by rw [← hfin]; exact hI2, fr2⟩
      · have hz : a * k ≤ n := by rw [xn_lt (by omega) (by omega)] at q124; omega
        have hm := sh_mul (a := a) (r := k - 2) (left := n) (by rw [show k - 2 + 2 = k by omega]; exact hz)
        refine vv_aload_n C dX12_goesShare_127 rfl ?_
        refine gf_X12_lawfulTo C dX12_goesShare_128 fg_X12_30 ?_
        refine vv_iload C dX12_goesShare_131 rfl ?_
        refine ld_72 C dX12_goesShare_133 (xn_in (by omega) (by omega)) ?_
        refine vs_eqi (v9 := vs_b (np_lm law a)) (by rw [xn_cl (by omega), fr2.2.1 72 (by decide)]; exact ht a (by omega)) ?_
        refine vv_if_eq (tgt := 183) C dX12_goesShare_134 (by decide) (fun q134 => ?_) (fun q134 => ?_)
        · have hno : sy_t (np_lm law) k n a B2 = B2 := by unfold sy_t; rw [if_neg (by rw [vs_b0.mp q134]; decide)]
          refine vw_iinc (lv9 := [_, _, _, _, _, _, _]) C dX12_goesShare_183 rfl ic_1 (by decide) rfl rfl ?_
          refine vv_goto (tgt := 116) C dX12_goesShare_186 (by decide) ?_
          rw [nI_1]
          first
          | exact ihf (a + 1) S2 B2 (by omega) (by omega) (by omega) hI2 fr2 (by rw [← he, sf1, if_pos hz, hno])
          | (obtain ⟨p1, p2, p3⟩ := p180
             refine ihf (a + 1) S180 _ (by omega) (by omega) (by omega) p1 ((fr2.ua (by decide)).tr p3) ?_
             rw [← he, sf1, if_pos hz]
             unfold sy_t
             rw [if_pos hp]
             rfl)
        · have hp : np_lm law a = true := vs_b1.mp q134
          refine vv_iload_n C dX12_goesShare_137 rfl ?_
          refine vv_if_eq (tgt := 160) C dX12_goesShare_138 (by decide) (fun q138 => ?_) (fun q138 => ?_)
          · refine vv_aload_n C dX12_goesShare_160 rfl ?_
            refine gf_X12_row1 C dX12_goesShare_161 fg_X12_53 ?_
            refine vv_iload_n C dX12_goesShare_164 rfl ?_
            refine vv_iload C dX12_goesShare_165 rfl ?_
            refine st_79 C dX12_goesShare_167 (xn_in (n := 0) (by omega) (by omega)) ?_
            refine vv_aload_n C dX12_goesShare_168 rfl ?_
            refine vv_iload_n C dX12_goesShare_169 rfl ?_
            refine vv_iload_n C dX12_goesShare_170 rfl ?_
            refine vv_iconst C dX12_goesShare_171 ic_1 ?_
            refine vv_iadd C dX12_goesShare_172 ?_
            refine vs_eqi (v9 := nI 1) (rfl) ?_
            refine vv_iload C dX12_goesShare_173 rfl ?_
            refine vv_iload C dX12_goesShare_175 rfl ?_
            refine vv_iload C dX12_goesShare_177 rfl ?_
            refine vv_isub C dX12_goesShare_179 ?_
            refine vs_eqi (v9 := nI (n - a)) (xn_sub (by omega)) ?_
            refine vs_callv C dX12_goesShare_180 (c_X12_goesShare g law k n hk2 hk4 hn (k - 2) (vs_ua S2 79 (upd (S2.2.1 79) 0 (nI a))) (va_up (fun _ => 0) 0 a) 1 a (n - a) B2 (by omega) (by omega) (fun v hv => by
          show S2.2.1 72 v = _
          rw [fr2.2.1 72 (by decide)]
          exact ht v hv) (fun q hq => by
          show upd (S2.2.1 79) 0 (nI a) q = nI (va_up (fun _ => 0) 0 a q)
          rw [xn_upd (α := Nat), va_up1]
          rw [if_pos (by omega), if_pos (by omega)]) hI2 (by show 2 ≤ a; exact h5) (Nat.le_refl _) hm.1 (by omega)) mb_X12_goesShare mv_X12_goesShare lk_X12_270 ce_65 rfl rfl rfl rfl ⟨by omega, by omega, Nat.le_of_ble_eq_true rfl⟩ (fun S180 p180 => ?_)
            refine vw_iinc (lv9 := [_, _, _, _, _, _, _]) C dX12_goesShare_183 rfl ic_1 (by decide) rfl rfl ?_
            refine vv_goto (tgt := 116) C dX12_goesShare_186 (by decide) ?_
            rw [nI_1]
            first
            | exact ihf (a + 1) S2 B2 (by omega) (by omega) (by omega) hI2 fr2 (by rw [← he, sf1, if_pos hz, hno])
            | (obtain ⟨p1, p2, p3⟩ := p180
               refine ihf (a + 1) S180 _ (by omega) (by omega) (by omega) p1 ((fr2.ua (by decide)).tr p3) ?_
               rw [← he, sf1, if_pos hz]
               unfold sy_t
               rw [if_pos hp]
               rfl)
          · exact absurd rfl q138
  refine vv_iload_n C dX12_goesShare_0 rfl ?_
  refine vv_if_ne (tgt := 8) C dX12_goesShare_1 (by decide) (fun q1 => ?_) (fun q1 => ?_)
  · exact absurd rfl q1
  · refine vv_iload_n C dX12_goesShare_4 rfl ?_
    refine vv_goto (tgt := 14) C dX12_goesShare_5 (by decide) ?_
    refine vw_istore (lv9 := [_, _, _, _, _, _, _]) C dX12_goesShare_14 (by decide) rfl rfl ?_
    refine vv_iload_n C dX12_goesShare_16 rfl ?_
    refine vv_iload_n C dX12_goesShare_17 rfl ?_
    refine vv_iconst C dX12_goesShare_18 ic_1 ?_
    refine vv_isub C dX12_goesShare_19 ?_
    refine vs_eqi (v9 := nI (k - 1)) (xn_sub (a := k) (b := 1) (by omega)) ?_
    refine vv_icmp_ne (tgt := 113) C dX12_goesShare_20 (by decide) (fun q20 => ?_) (fun q20 => ?_)
    · refine vv_iload_n C dX12_goesShare_113 rfl ?_
      refine vw_istore (lv9 := [_, _, _, _, _, _, _]) C dX12_goesShare_114 (by decide) rfl rfl ?_
      exact loop (n + 1) 2 S _ (by omega) (by omega) (Nat.le_refl _) hI vs_fr.rf rfl
    · exact absurd ((xn_eq (a := 0) (by omega) (by omega)).mp q20) (by omega)
set_option maxRecDepth 20000 in
theorem c_X12_shares (g : vv_G) (S : vs_S) (hfl : vv_fl g = false) (hS : nm_ok S) (law : Nat) (hl : law ≤ 3) (hs : S.1 23 = nI law) (n k i : Int32) : vs_KI g yX12_shares cX12_shares 4 (some .int) 6 [vv_r g 65, .int n, .int k, .int i] S (fun r S1 => r = (if ((vs_w n 1 600 && vs_w k 2 4) && vs_w i (-1) (k - 1)) = true then shv (np_lm law) n.toNatClampNeg k.toNatClampNeg i else -1) ∧ vs_fr [24, 34] [70, 72, 73, 79, 80] [] S S1 ∧ nm_ok S1) := by
  refine vs_ofI (lv := [_, _, _, _]) mb_X12_shares (Nat.le_of_ble_eq_true rfl) rfl (fun x C F => ?_)
  refine vv_iload_n C dX12_shares_0 rfl ?_
  refine vv_i2l C dX12_shares_1 ?_
  refine vv_lconst C dX12_shares_2 lc_1 ?_
  refine vs_eql (v9 := (1 : Int32).toInt64) (by decide +kernel) ?_
  refine vv_ldc2 C dX12_shares_3 kc_X12_274 ?_
  refine vs_eql (v9 := (600 : Int32).toInt64) (by decide +kernel) ?_
  refine vs_calsiF C dX12_shares_6 (c_X12_within g S _ _ _) mb_X12_within ms_X12_within lk_X12_123 rfl rfl ⟨Nat.le_of_ble_eq_true rfl, Nat.le_of_ble_eq_true rfl, Nat.le_of_ble_eq_true rfl⟩ ?_
  refine vv_if_eq (tgt := 41) C dX12_shares_9 (by decide) (fun q9 => ?_) (fun q9 => ?_)
  · have hw : ¬ ((vs_w n 1 600 && vs_w k 2 4) && vs_w i (-1) (k - 1)) = true := by rw [show vs_w n 1 600 = false from vs_b0.mp q9, Bool.false_and, Bool.false_and]; decide
    refine vv_iconst C dX12_shares_41 ic_m1 ?_
    exact vs_iret C F dX12_shares_42 rfl ⟨by rw [if_neg hw], vs_fr.rf, hS⟩
  · have w1 : vs_w n 1 600 = true := vs_b1.mp q9
    refine vv_iload_n C dX12_shares_12 rfl ?_
    refine vv_i2l C dX12_shares_13 ?_
    refine vv_ldc2 C dX12_shares_14 kc_X12_90 ?_
    refine vs_eql (v9 := (2 : Int32).toInt64) (by decide +kernel) ?_
    refine vv_ldc2 C dX12_shares_17 kc_X12_115 ?_
    refine vs_eql (v9 := (4 : Int32).toInt64) (by decide +kernel) ?_
    refine vs_calsiF C dX12_shares_20 (c_X12_within g S _ _ _) mb_X12_within ms_X12_within lk_X12_123 rfl rfl ⟨Nat.le_of_ble_eq_true rfl, Nat.le_of_ble_eq_true rfl, Nat.le_of_ble_eq_true rfl⟩ ?_
    refine vv_if_eq (tgt := 41) C dX12_shares_23 (by decide) (fun q23 => ?_) (fun q23 => ?_)
    · have hw : ¬ ((vs_w n 1 600 && vs_w k 2 4) && vs_w i (-1) (k - 1)) = true := by rw [show vs_w k 2 4 = false from vs_b0.mp q23, Bool.and_false, Bool.false_and]; decide
      refine vv_iconst C dX12_shares_41 ic_m1 ?_
      exact vs_iret C F dX12_shares_42 rfl ⟨by rw [if_neg hw], vs_fr.rf, hS⟩
    · have w2 : vs_w k 2 4 = true := vs_b1.mp q23
      refine vv_iload_n C dX12_shares_26 rfl ?_
      refine vv_i2l C dX12_shares_27 ?_
      refine vv_ldc2 C dX12_shares_28 kc_X12_276 ?_
      refine vs_eql (v9 := (-1 : Int32).toInt64) (by decide +kernel) ?_
      refine vv_iload_n C dX12_shares_31 rfl ?_
      refine vv_iconst C dX12_shares_32 ic_1 ?_
      refine vv_isub C dX12_shares_33 ?_
      refine vv_i2l C dX12_shares_34 ?_
      refine vs_calsiF C dX12_shares_35 (c_X12_within g S _ _ _) mb_X12_within ms_X12_within lk_X12_123 rfl rfl ⟨Nat.le_of_ble_eq_true rfl, Nat.le_of_ble_eq_true rfl, Nat.le_of_ble_eq_true rfl⟩ ?_
      refine vv_if_ne (tgt := 43) C dX12_shares_38 (by decide) (fun q38 => ?_) (fun q38 => ?_)
      · have w3 : vs_w i (-1) (k - 1) = true := vs_b1.mp q38
        have hw : ((vs_w n 1 600 && vs_w k 2 4) && vs_w i (-1) (k - 1)) = true := by rw [w1, w2, w3]; rfl
        obtain ⟨n1, hn1, hn2, en1⟩ := vs_wN (a := 1) (b := 600) (by omega) (by omega) w1
        obtain ⟨k1, hk1, hk2, ek1⟩ := vs_wN (a := 2) (b := 4) (by omega) (by omega) w2
        subst en1
        subst ek1
        refine vv_aload_n C dX12_shares_43 rfl ?_
        refine vv_iload_n C dX12_shares_44 rfl ?_
        refine vs_callv C dX12_shares_45 (c_X12_findLawful g S hfl hS law hl hs n1 (by omega)) mb_X12_findLawful mv_X12_findLawful lk_X12_159 ce_65 rfl rfl rfl rfl ⟨Nat.le_of_ble_eq_true rfl, Nat.le_of_ble_eq_true rfl, Nat.le_of_ble_eq_true rfl⟩ (fun S45 p45 => ?_)
        obtain ⟨t, h72⟩ := p45
        refine vv_aload_n C dX12_shares_48 rfl ?_
        refine vv_iconst C dX12_shares_49 ic_m1 ?_
        refine pf_X12_bestOff C dX12_shares_50 fp_X12_267 ?_
        refine vv_aload_n C dX12_shares_53 rfl ?_
        refine vv_iload_n C dX12_shares_54 rfl ?_
        refine vv_iconst C dX12_shares_55 ic_0 ?_
        refine vv_iconst C dX12_shares_56 ic_2 ?_
        refine vv_iload_n C dX12_shares_57 rfl ?_
        refine vs_callv C dX12_shares_58 (c_X12_goesShare0 g (vs_us S45 34 (-1)) law k1 n1 hk1 hk2 hn1 hn2 h72 ⟨rfl, Nat.le_refl _, fun z => absurd z (Nat.lt_irrefl _)⟩) mb_X12_goesShare mv_X12_goesShare lk_X12_270 ce_65 rfl rfl rfl rfl ⟨Nat.le_of_ble_eq_true rfl, Nat.le_of_ble_eq_true rfl, Nat.le_of_ble_eq_true rfl⟩ (fun S58 p58 => ?_)
        obtain ⟨hI, fr⟩ := p58
        have hb := hI.2.1
        have fa : vs_fr [24, 34] [70, 72, 73, 79, 80] [] S S58 := ((t.1.wd (by decide) (by decide) (by decide)).us (by decide)).tr (fr.wd (by decide) (by decide) (by decide))
        have hm : nm_ok S58 := nm_ok_of t.2.1 (fr.1 24 (by decide)) (fr.2.1 70 (by decide))
        refine vv_aload_n C dX12_shares_61 rfl ?_
        refine gf_X12_bestOff C dX12_shares_62 fg_X12_267 ?_
        refine vs_eqi (v9 := if (sz (np_lm law) k1 n1).1 = 1000 then -1 else nI (sz (np_lm law) k1 n1).1) (hI.1) ?_
        refine vv_if_ge (tgt := 73) C dX12_shares_65 (by decide) (fun q65 => ?_) (fun q65 => ?_)
        · have hz : ¬ (sz (np_lm law) k1 n1).1 = 1000 := fun z => absurd ((sg_neg hb).mpr z) (Int32.not_lt.mpr q65)
          refine vv_iload_n C dX12_shares_73 rfl ?_
          refine vv_iconst C dX12_shares_74 ic_m1 ?_
          refine vv_icmp_ne (tgt := 85) C dX12_shares_75 (by decide) (fun q75 => ?_) (fun q75 => ?_)
          · obtain ⟨j, hj, ej⟩ := sh_i (by omega) (by omega) w3 q75
            subst ej
            refine vv_aload_n C dX12_shares_85 rfl ?_
            refine gf_X12_bestRow C dX12_shares_86 fg_X12_56 ?_
            refine vv_iload_n C dX12_shares_89 rfl ?_
            refine ld_80 C dX12_shares_90 (xn_in (by omega) (by omega)) ?_
            refine vs_iret C F dX12_shares_91 rfl ⟨?_, fa, hm⟩
            rw [if_pos hw, xn_cl (n := n1) (by omega), xn_cl (n := k1) (by omega)]
            unfold shv
            first
            | rw [if_pos hz]
            | (rw [if_neg hz, if_pos q75]; exact hI.1.trans (if_neg hz))
            | (rw [if_neg hz, if_neg q75, xn_cl (n := j) (by omega)]; exact hI.2.2 (by omega) j hj)
          · refine vv_aload_n C dX12_shares_78 rfl ?_
            refine gf_X12_bestOff C dX12_shares_79 fg_X12_267 ?_
            refine vv_goto (tgt := 91) C dX12_shares_82 (by decide) ?_
            refine vs_iret C F dX12_shares_91 rfl ⟨?_, fa, hm⟩
            rw [if_pos hw, xn_cl (n := n1) (by omega), xn_cl (n := k1) (by omega)]
            unfold shv
            first
            | rw [if_pos hz]
            | (rw [if_neg hz, if_pos q75]; exact hI.1.trans (if_neg hz))
            | (rw [if_neg hz, if_neg q75, xn_cl (n := j) (by omega)]; exact hI.2.2 (by omega) j hj)
        · have hz : (sz (np_lm law) k1 n1).1 = 1000 := (sg_neg hb).mp (Int32.not_le.mp q65)
          refine vv_bipush C dX12_shares_68 bp_m2 ?_
          refine vv_goto (tgt := 91) C dX12_shares_70 (by decide) ?_
          refine vs_iret C F dX12_shares_91 rfl ⟨?_, fa, hm⟩
          rw [if_pos hw, xn_cl (n := n1) (by omega), xn_cl (n := k1) (by omega)]
          unfold shv
          first
          | rw [if_pos hz]
          | (rw [if_neg hz, if_pos q75]; exact hI.1.trans (if_neg hz))
          | (rw [if_neg hz, if_neg q75, xn_cl (n := j) (by omega)]; exact hI.2.2 (by omega) j hj)
      · have hw : ¬ ((vs_w n 1 600 && vs_w k 2 4) && vs_w i (-1) (k - 1)) = true := by rw [show vs_w i (-1) (k - 1) = false from vs_b0.mp q38, Bool.and_false]; decide
        refine vv_iconst C dX12_shares_41 ic_m1 ?_
        exact vs_iret C F dX12_shares_42 rfl ⟨by rw [if_neg hw], vs_fr.rf, hS⟩
