set_option maxRecDepth 20000 in
theorem c_X12_shift (g : vv_G) (S : vs_S) (m : Nat) (h : hT) (hX : sM S m h) (hm5 : m ≤ 50) (hfl : vv_fl g = false) (d i e j n : Int32) : vs_KI g yX12_shift cX12_shift 7 (some .int) 3 [vv_r g 65, .int d, .int i, .int e, .int j, .int n] S (fun r S1 => r = (k_sh h d i e j n).1 ∧ sM S1 m (k_sh h d i e j n).2 ∧ vs_fr [] [] [86, 87] S S1) := by
  refine vs_ofI (lv := [_, _, _, _, _, _, _]) mb_X12_shift (Nat.le_of_ble_eq_true rfl) rfl (fun x C F => ?_)
  refine vv_iload_n C dX12_shift_0 rfl ?_
  refine vs_calsiF C dX12_shift_1 (c_X12_isShelf g S _) mb_X12_isShelf ms_X12_isShelf lk_X12_307 rfl rfl ⟨Nat.le_of_ble_eq_true rfl, Nat.le_of_ble_eq_true rfl, Nat.le_of_ble_eq_true rfl⟩ ?_
  refine vv_if_eq (tgt := 14) C dX12_shift_4 (by decide) (fun q4 => ?_) (fun q4 => ?_)
  · have w0 : shw d = false := vs_b0.mp q4
    have hv : k_sh h d i e j n = (-1, h) := by unfold k_sh; rw [w0]; rfl
    refine vv_iconst C dX12_shift_14 ic_m1 ?_
    exact vs_iret C F dX12_shift_15 rfl ⟨by rw [hv], by rw [hv]; exact hX, vs_fr.rf⟩
  · have w1 : shw d = true := vs_b1.mp q4
    obtain ⟨k, hk, ek⟩ := shw_d w1
    subst ek
    obtain ⟨ht6, h84, h1b, h57⟩ := hX k hk
    have hb5 : h.1 k = 1 → h.2.1 k < 50 := fun z => by have := h1b z; omega
    have hc1 : (nI k).toNatClampNeg = k := xn_cl (by omega)
    refine vv_iload_n C dX12_shift_7 rfl ?_
    refine vs_calsiF C dX12_shift_8 (c_X12_isShelf g S _) mb_X12_isShelf ms_X12_isShelf lk_X12_307 rfl rfl ⟨Nat.le_of_ble_eq_true rfl, Nat.le_of_ble_eq_true rfl, Nat.le_of_ble_eq_true rfl⟩ ?_
    refine vv_if_ne (tgt := 16) C dX12_shift_11 (by decide) (fun q11 => ?_) (fun q11 => ?_)
    · have w2 : shw e = true := vs_b1.mp q11
      obtain ⟨k2, hk2, ek2⟩ := shw_d w2
      subst ek2
      obtain ⟨gt6, g84, g1b, g57⟩ := hX k2 hk2
      have gb5 : h.1 k2 = 1 → h.2.1 k2 < 50 := fun z => by have := g1b z; omega
      have hc2 : (nI k2).toNatClampNeg = k2 := xn_cl (by omega)
      have hs : k_sh h (nI k) i (nI k2) j n = cpv h k i k2 j n := by unfold k_sh; rw [w1, w2, if_pos vs_tt, hc1, hc2]
      refine vv_aload_n C dX12_shift_16 rfl ?_
      refine gf_X12_shelf C dX12_shift_17 fg_X12_68 ?_
      refine vv_iload_n C dX12_shift_20 rfl ?_
      refine ld_84 C dX12_shift_21 (xn_in (by omega) (by omega)) ?_
      refine vs_eqi (v9 := hm (h.1 k) (h.2.1 k)) (by rw [hc1]; exact h84) ?_
      refine vv_if_lt (tgt := 34) C dX12_shift_22 (by decide) (fun q22 => ?_) (fun q22 => ?_)
      · have e0 := (hm_n hb5 ht6).mp q22
        have hv : k_sh h (nI k) i (nI k2) j n = (-11, h) := hs.trans (if_pos (Or.inl e0))
        refine vv_bipush C dX12_shift_34 bp_m11 ?_
        exact vs_iret C F dX12_shift_36 rfl ⟨by rw [hv], by rw [hv]; exact hX, vs_fr.rf⟩
      · have e0 : ¬ h.1 k = 0 := fun z => q22 ((hm_n hb5 ht6).mpr z)
        refine vv_aload_n C dX12_shift_25 rfl ?_
        refine gf_X12_shelf C dX12_shift_26 fg_X12_68 ?_
        refine vv_iload_n C dX12_shift_29 rfl ?_
        refine ld_84 C dX12_shift_30 (xn_in (by omega) (by omega)) ?_
        refine vs_eqi (v9 := hm (h.1 k2) (h.2.1 k2)) (by rw [hc2]; exact g84) ?_
        refine vv_if_ge (tgt := 37) C dX12_shift_31 (by decide) (fun q31 => ?_) (fun q31 => ?_)
        · have e1 : ¬ h.1 k2 = 0 := fun z => Int32.not_lt.mpr q31 ((hm_n gb5 gt6).mpr z)
          refine vv_aload_n C dX12_shift_37 rfl ?_
          refine gf_X12_shelf C dX12_shift_38 fg_X12_68 ?_
          refine vv_iload_n C dX12_shift_41 rfl ?_
          refine ld_84 C dX12_shift_42 (xn_in (by omega) (by omega)) ?_
          refine vs_eqi (v9 := hm (h.1 k) (h.2.1 k)) (by rw [hc1]; exact h84) ?_
          refine vv_bipush C dX12_shift_43 bp_50 ?_
          refine vv_icmp_lt (tgt := 63) C dX12_shift_45 (by decide) (fun q45 => ?_) (fun q45 => ?_)
          · have e2 : h.1 k = 1 := by
              have : ¬ 2 ≤ h.1 k := fun z => Int32.not_le.mpr q45 ((hm_g hb5 ht6 e0).mpr z)
              omega
            have hv : k_sh h (nI k) i (nI k2) j n = (-12, h) := hs.trans (by unfold cpv; rw [if_neg (by omega), if_pos (by omega)])
            refine vv_bipush C dX12_shift_63 bp_m12 ?_
            exact vs_iret C F dX12_shift_65 rfl ⟨by rw [hv], by rw [hv]; exact hX, vs_fr.rf⟩
          · have e2 : 2 ≤ h.1 k := (hm_g hb5 ht6 e0).mp (Int32.not_lt.mp q45)
            obtain ⟨h57N, hN60, h57E⟩ := h57 e2
            refine vv_aload_n C dX12_shift_48 rfl ?_
            refine gf_X12_shelf C dX12_shift_49 fg_X12_68 ?_
            refine vv_iload_n C dX12_shift_52 rfl ?_
            refine ld_84 C dX12_shift_53 (xn_in (by omega) (by omega)) ?_
            refine vs_eqi (v9 := hm (h.1 k) (h.2.1 k)) (by rw [hc1]; exact h84) ?_
            refine vv_aload_n C dX12_shift_54 rfl ?_
            refine gf_X12_shelf C dX12_shift_55 fg_X12_68 ?_
            refine vv_iload_n C dX12_shift_58 rfl ?_
            refine ld_84 C dX12_shift_59 (xn_in (by omega) (by omega)) ?_
            refine vs_eqi (v9 := hm (h.1 k2) (h.2.1 k2)) (by rw [hc2]; exact g84) ?_
            refine vv_icmp_eq (tgt := 66) C dX12_shift_60 (by decide) (fun q60 => ?_) (fun q60 => ?_)
            · have e3 : h.1 k = h.1 k2 := (hm_e e2 ht6 gt6 gb5).mp q60
              obtain ⟨g57N, gN60, g57E⟩ := g57 (by omega)
              have hv0 : k_sh h (nI k) i (nI k2) j n = if (st_ok (h.2.2.1 k) i n && st_ok (h.2.2.1 k2) j n) = true then (n, h_cpy h k i.toNatClampNeg k2 j.toNatClampNeg n.toNatClampNeg) else (-13, h) := hs.trans (by unfold cpv; rw [if_neg (by omega), if_neg (by omega)])
              refine vv_iload C dX12_shift_66 rfl ?_
              refine vv_if_lt (tgt := 107) C dX12_shift_68 (by decide) (fun q68 => ?_) (fun q68 => ?_)
              · have hv : k_sh h (nI k) i (nI k2) j n = (-13, h) := by rw [hv0, if_neg (by rw [Bool.and_eq_true]; exact fun z => by have y := z.1; unfold st_ok at y; rw [decide_eq_false (Int32.not_le.mpr q68)] at y; cases y)]
                refine vv_bipush C dX12_shift_107 bp_m13 ?_
                exact vs_iret C F dX12_shift_109 rfl ⟨by rw [hv], by rw [hv]; exact hX, vs_fr.rf⟩
              · have hn0 : 0 ≤ n := Int32.not_lt.mp q68
                refine vv_iload_n C dX12_shift_71 rfl ?_
                refine vv_if_lt (tgt := 107) C dX12_shift_72 (by decide) (fun q72 => ?_) (fun q72 => ?_)
                · have hv : k_sh h (nI k) i (nI k2) j n = (-13, h) := by rw [hv0, if_neg (by rw [Bool.and_eq_true]; exact fun z => by have y := z.1; unfold st_ok at y; rw [decide_eq_false (p := 0 ≤ i) (Int32.not_le.mpr q72), Bool.and_false] at y; cases y)]
                  refine vv_bipush C dX12_shift_107 bp_m13 ?_
                  exact vs_iret C F dX12_shift_109 rfl ⟨by rw [hv], by rw [hv]; exact hX, vs_fr.rf⟩
                · have hi0 : 0 ≤ i := Int32.not_lt.mp q72
                  refine vv_iload C dX12_shift_75 rfl ?_
                  refine vv_if_lt (tgt := 107) C dX12_shift_77 (by decide) (fun q77 => ?_) (fun q77 => ?_)
                  · have hv : k_sh h (nI k) i (nI k2) j n = (-13, h) := by rw [hv0, if_neg (by rw [Bool.and_eq_true]; exact fun z => by have y := z.2; unfold st_ok at y; rw [decide_eq_false (p := 0 ≤ j) (Int32.not_le.mpr q77), Bool.and_false] at y; cases y)]
                    refine vv_bipush C dX12_shift_107 bp_m13 ?_
                    exact vs_iret C F dX12_shift_109 rfl ⟨by rw [hv], by rw [hv]; exact hX, vs_fr.rf⟩
                  · have hj0 : 0 ≤ j := Int32.not_lt.mp q77
                    refine vv_iload_n C dX12_shift_80 rfl ?_
                    refine vv_aload_n C dX12_shift_81 rfl ?_
                    refine gf_X12_many C dX12_shift_82 fg_X12_71 ?_
                    refine vv_iload_n C dX12_shift_85 rfl ?_
                    refine ld_85 C dX12_shift_86 (xn_in (by omega) (by omega)) ?_
                    refine vs_eqi (v9 := nI (h.2.2.1 k)) (by rw [hc1]; exact h57N) ?_
                    refine vv_iload C dX12_shift_87 rfl ?_
                    refine vv_isub C dX12_shift_89 ?_
                    refine vv_icmp_gt (tgt := 107) C dX12_shift_90 (by decide) (fun q90 => ?_) (fun q90 => ?_)
                    · have hv : k_sh h (nI k) i (nI k2) j n = (-13, h) := by rw [hv0, if_neg (by rw [Bool.and_eq_true]; exact fun z => Int32.not_le.mpr q90 ((st_o hN60 hn0 hi0).mpr z.1))]
                      refine vv_bipush C dX12_shift_107 bp_m13 ?_
                      exact vs_iret C F dX12_shift_109 rfl ⟨by rw [hv], by rw [hv]; exact hX, vs_fr.rf⟩
                    · have hA : st_ok (h.2.2.1 k) i n = true := (st_o hN60 hn0 hi0).mp (Int32.not_lt.mp q90)
                      refine vv_iload C dX12_shift_93 rfl ?_
                      refine vv_aload_n C dX12_shift_95 rfl ?_
                      refine gf_X12_many C dX12_shift_96 fg_X12_71 ?_
                      refine vv_iload_n C dX12_shift_99 rfl ?_
                      refine ld_85 C dX12_shift_100 (xn_in (by omega) (by omega)) ?_
                      refine vs_eqi (v9 := nI (h.2.2.1 k2)) (by rw [hc2]; exact g57N) ?_
                      refine vv_iload C dX12_shift_101 rfl ?_
                      refine vv_isub C dX12_shift_103 ?_
                      refine vv_icmp_le (tgt := 110) C dX12_shift_104 (by decide) (fun q104 => ?_) (fun q104 => ?_)
                      · have hB : st_ok (h.2.2.1 k2) j n = true := (st_o gN60 hn0 hj0).mp q104
                        obtain ⟨a, c, ea, ec, hac⟩ := st_okN hN60 hA
                        obtain ⟨b, c8, eb, ec8, hbc⟩ := st_okN gN60 hB
                        subst ea ec eb
                        have ecc : c8 = c := (xn_eq (by omega) (by omega)).mp ec8.symm
                        subst ecc
                        have hv : k_sh h (nI k) (nI a) (nI k2) (nI b) (nI c8) = (nI c8, h_cpy h k a k2 b c8) := by
                          rw [hv0, hA, hB, if_pos vs_tt, xn_cl (n := a) (by omega), xn_cl (n := b) (by omega), xn_cl (n := c8) (by omega)]
                        refine vv_iconst C dX12_shift_110 ic_0 ?_
                        refine vw_istore (lv9 := [_, _, _, _, _, _, _]) C dX12_shift_111 (by decide) rfl rfl ?_
                        have loop : ∀ (f t : Nat) (S1 : vs_S), t + f = c8 → vs_fr [] [] [87] S S1 → (∀ p, p < t → S1.2.2 87 p = S.2.2 86 (60 * k + a + p)) → vv_V g x 7 0 0 113 [some (vv_r g 65), some (.int (nI k)), some (.int (nI a)), some (.int (nI k2)), some (.int (nI b)), some (.int (nI c8)), some (.int (nI t))] [] (vs_cells g S1) := by
                          intro f
                          induction f with
                          | zero =>
                            intro t S1 ht hS1 hf1
                            have e60 : c8 = t := by omega
                            subst e60
                            refine vv_iload C dX12_shift_113 rfl ?_
                            refine vv_iload C dX12_shift_115 rfl ?_
                            refine vv_icmp_ge (tgt := 147) C dX12_shift_117 (by decide) (fun q117 => ?_) (fun q117 => ?_)
                            · refine vv_iconst C dX12_shift_147 ic_0 ?_
                              refine vw_istore (lv9 := [_, _, _, _, _, _, _]) C dX12_shift_148 (by decide) rfl rfl ?_
                              have loop2 : ∀ (f t : Nat) (S2 : vs_S), t + f = c8 → vs_fr [] [] [86, 87] S S2 → S2.2.2 87 = S1.2.2 87 → (∀ p, S2.2.2 86 p = if 60 * k2 + b ≤ p ∧ p < 60 * k2 + b + t then S1.2.2 87 (p - (60 * k2 + b)) else S.2.2 86 p) → vv_V g x 7 0 0 150 [some (vv_r g 65), some (.int (nI k)), some (.int (nI a)), some (.int (nI k2)), some (.int (nI b)), some (.int (nI c8)), some (.int (nI t))] [] (vs_cells g S2) := by
                                intro f
                                induction f with
                                | zero =>
                                  intro t S2 ht hS2 h87 hf2
                                  have e60 : c8 = t := by omega
                                  subst e60
                                  refine vv_iload C dX12_shift_150 rfl ?_
                                  refine vv_iload C dX12_shift_152 rfl ?_
                                  refine vv_icmp_ge (tgt := 185) C dX12_shift_154 (by decide) (fun q154 => ?_) (fun q154 => ?_)
                                  · refine vv_iload C dX12_shift_185 rfl ?_
                                    refine vs_iret C F dX12_shift_187 rfl ⟨by rw [hv], ?_, hS2⟩
                                    rw [hv]
                                    intro z hz
                                    obtain ⟨g1, g2, g3, g4⟩ := hX z hz
                                    rw [hS2.2.1 84 (by decide), hS2.2.1 85 (by decide)]
                                    refine ⟨g1, g2, g3, fun y => ⟨(g4 y).1, (g4 y).2.1, fun q hq => ?_⟩⟩
                                    have hq6 := (g4 y).2.1
                                    have hq' : q < h.2.2.1 z := hq
                                    rw [hf2]
                                    show _ = (if z = k2 then va_cpy (h.2.2.2 k) (h.2.2.2 k2) a b c8 else h.2.2.2 z) q
                                    by_cases w : z = k2
                                    · subst w
                                      rw [if_pos rfl]
                                      show _ = (if b ≤ q ∧ q < b + c8 then h.2.2.2 k (a + (q - b)) else h.2.2.2 z q)
                                      by_cases u : b ≤ q ∧ q < b + c8
                                      · rw [if_pos (by omega), if_pos u, show 60 * z + q - (60 * z + b) = q - b by omega, hf1 _ (by omega)]
                                        rw [Nat.add_assoc]
                                        exact h57E _ (by omega)
                                      · rw [if_neg (by omega), if_neg u]
                                        exact (g4 y).2.2 q hq'
                                    · rw [if_neg w, if_neg (by omega)]
                                      exact (g4 y).2.2 q hq'
                                  · exact absurd (Int32.le_refl _) q154
                                | succ f ih =>
                                  intro t S2 ht hS2 h87 hf2
                                  refine vv_iload C dX12_shift_150 rfl ?_
                                  refine vv_iload C dX12_shift_152 rfl ?_
                                  refine vv_icmp_ge (tgt := 185) C dX12_shift_154 (by decide) (fun q154 => ?_) (fun q154 => ?_)
                                  · exact absurd q154 (by rw [xn_le (by omega) (by omega)]; omega)
                                  · refine vv_aload_n C dX12_shift_157 rfl ?_
                                    refine gf_X12_items C dX12_shift_158 fg_X12_74 ?_
                                    refine vv_bipush C dX12_shift_161 bp_60 ?_
                                    refine vv_iload_n C dX12_shift_163 rfl ?_
                                    refine vv_imul C dX12_shift_164 ?_
                                    refine vs_eqi (v9 := nI (60 * k2)) (by rw [xn_lit, xn_mul]) ?_
                                    refine vv_iload C dX12_shift_165 rfl ?_
                                    refine vv_iadd C dX12_shift_167 ?_
                                    refine vs_eqi (v9 := nI (60 * k2 + b)) (nI_add _ _) ?_
                                    refine vv_iload C dX12_shift_168 rfl ?_
                                    refine vv_iadd C dX12_shift_170 ?_
                                    refine vs_eqi (v9 := nI (60 * k2 + b + t)) (nI_add _ _) ?_
                                    refine vv_aload_n C dX12_shift_171 rfl ?_
                                    refine gf_X12_carried C dX12_shift_172 fg_X12_77 ?_
                                    refine vv_iload C dX12_shift_175 rfl ?_
                                    refine ld_87 C dX12_shift_177 (xn_in (by omega) (by omega)) ?_
                                    refine st_86 hfl C dX12_shift_178 (xn_in (by omega) (by omega)) ?_
                                    refine vw_iinc (lv9 := [_, _, _, _, _, _, _]) C dX12_shift_179 rfl ic_1 (by decide) rfl rfl ?_
                                    refine vv_goto (tgt := 150) C dX12_shift_182 (by decide) ?_
                                    rw [nI_1]
                                    refine ih (t + 1) _ (by omega) (hS2.ul (by decide)) (by rw [vs_ul3, if_neg (by decide)]; exact h87) (fun p => ?_)
                                    rw [vs_ul3, if_pos rfl, xn_updL, xn_cl (n := 60 * k2 + b + t) (by omega), xn_cl (n := t) (by omega), hf2 p, h87]
                                    by_cases z : p = 60 * k2 + b + t
                                    · rw [if_pos z, if_pos (by omega), show p - (60 * k2 + b) = t by omega]
                                    · rw [if_neg z]
                                      by_cases y : 60 * k2 + b ≤ p ∧ p < 60 * k2 + b + t
                                      · rw [if_pos y, if_pos (by omega)]
                                      · rw [if_neg y, if_neg (by omega)]
                              exact loop2 c8 0 S1 (by omega) (hS1.wd (by decide) (by decide) (by decide)) rfl (fun p => by rw [if_neg (by omega), hS1.2.2 86 (by decide)])
                            · exact absurd (Int32.le_refl _) q117
                          | succ f ih =>
                            intro t S1 ht hS1 hf1
                            refine vv_iload C dX12_shift_113 rfl ?_
                            refine vv_iload C dX12_shift_115 rfl ?_
                            refine vv_icmp_ge (tgt := 147) C dX12_shift_117 (by decide) (fun q117 => ?_) (fun q117 => ?_)
                            · exact absurd q117 (by rw [xn_le (by omega) (by omega)]; omega)
                            · refine vv_aload_n C dX12_shift_120 rfl ?_
                              refine gf_X12_carried C dX12_shift_121 fg_X12_77 ?_
                              refine vv_iload C dX12_shift_124 rfl ?_
                              refine vv_aload_n C dX12_shift_126 rfl ?_
                              refine gf_X12_items C dX12_shift_127 fg_X12_74 ?_
                              refine vv_bipush C dX12_shift_130 bp_60 ?_
                              refine vv_iload_n C dX12_shift_132 rfl ?_
                              refine vv_imul C dX12_shift_133 ?_
                              refine vs_eqi (v9 := nI (60 * k)) (by rw [xn_lit, xn_mul]) ?_
                              refine vv_iload_n C dX12_shift_134 rfl ?_
                              refine vv_iadd C dX12_shift_135 ?_
                              refine vs_eqi (v9 := nI (60 * k + a)) (nI_add _ _) ?_
                              refine vv_iload C dX12_shift_136 rfl ?_
                              refine vv_iadd C dX12_shift_138 ?_
                              refine vs_eqi (v9 := nI (60 * k + a + t)) (nI_add _ _) ?_
                              refine ld_86 C dX12_shift_139 (xn_in (by omega) (by omega)) ?_
                              refine st_87 hfl C dX12_shift_140 (xn_in (by omega) (by omega)) ?_
                              refine vw_iinc (lv9 := [_, _, _, _, _, _, _]) C dX12_shift_141 rfl ic_1 (by decide) rfl rfl ?_
                              refine vv_goto (tgt := 113) C dX12_shift_144 (by decide) ?_
                              rw [nI_1]
                              refine ih (t + 1) _ (by omega) (hS1.ul (by decide)) (fun p hp => ?_)
                              rw [vs_ul3, if_pos rfl, xn_updL, xn_cl (n := 60 * k + a + t) (by omega), xn_cl (n := t) (by omega), hS1.2.2 86 (by decide)]
                              by_cases z : p = t
                              · rw [if_pos z, z]
                              · rw [if_neg z]
                                exact hf1 p (by omega)
                        exact loop c8 0 S (by omega) vs_fr.rf (fun p hp => by omega)
                      · have hv : k_sh h (nI k) i (nI k2) j n = (-13, h) := by rw [hv0, if_neg (by rw [Bool.and_eq_true]; exact fun z => q104 ((st_o gN60 hn0 hj0).mpr z.2))]
                        refine vv_bipush C dX12_shift_107 bp_m13 ?_
                        exact vs_iret C F dX12_shift_109 rfl ⟨by rw [hv], by rw [hv]; exact hX, vs_fr.rf⟩
            · have e3 : ¬ h.1 k = h.1 k2 := fun z => q60 ((hm_e e2 ht6 gt6 gb5).mpr z)
              have hv : k_sh h (nI k) i (nI k2) j n = (-12, h) := hs.trans (by unfold cpv; rw [if_neg (by omega), if_pos (by omega)])
              refine vv_bipush C dX12_shift_63 bp_m12 ?_
              exact vs_iret C F dX12_shift_65 rfl ⟨by rw [hv], by rw [hv]; exact hX, vs_fr.rf⟩
        · have e1 := (hm_n gb5 gt6).mp (Int32.not_le.mp q31)
          have hv : k_sh h (nI k) i (nI k2) j n = (-11, h) := hs.trans (if_pos (Or.inr e1))
          refine vv_bipush C dX12_shift_34 bp_m11 ?_
          exact vs_iret C F dX12_shift_36 rfl ⟨by rw [hv], by rw [hv]; exact hX, vs_fr.rf⟩
    · have w0 : shw e = false := vs_b0.mp q11
      have hv : k_sh h (nI k) i e j n = (-1, h) := by unfold k_sh; rw [w1, w0]; rfl
      refine vv_iconst C dX12_shift_14 ic_m1 ?_
      exact vs_iret C F dX12_shift_15 rfl ⟨by rw [hv], by rw [hv]; exact hX, vs_fr.rf⟩
