/-- the reference's ways: the law is in force, all else is as it was -/
def rj (law : Nat) (S S2 : vs_S) : Prop := vs_fr [24] [70] [74] S S2 ∧ nm_ok S2 ∧ S2.1 23 = nI law
theorem rj.ul {law : Nat} {S S2 : vs_S} (h : rj law S S2) (f : Nat → Int64) : rj law S (vs_ul S2 74 f) := ⟨h.1.ul (by decide), nm_ok_of h.2.1 rfl rfl, h.2.2⟩
theorem rj.go {law : Nat} {S S2 S3 : vs_S} (h : rj law S S2) (h2 : nm_to S2 S3) : rj law S S3 := ⟨h.1.tr (h2.1.wd (by decide) (by decide) (by decide)), h2.2, by rw [h2.1.1 23 (by decide)]; exact h.2.2⟩
theorem xn_updL {f : Nat → Int64} {k j : Nat} {v : Int64} : vp_updL f k v j = if j = k then v else f j := rfl
/-- a comes in, done ahead of (j, v) -/
def rm_I (W : Nat → Nat → Nat) (a K N : Nat) (f : Nat → Int64) (j v : Nat) : Prop := ∀ j' v', j' ≤ K → v' ≤ N → f (401 * j' + v') = lN (if j' < j ∨ (j' = j ∧ v' < v) then cw_n W a j' v' else W j' v')
theorem rm_0 {W : Nat → Nat → Nat} {a K N : Nat} {f : Nat → Int64} (h : ∀ j' v', j' ≤ K → v' ≤ N → f (401 * j' + v') = lN (W j' v')) : rm_I W a K N f 1 a := by
  intro j' v' hj hv
  rw [h j' v' hj hv]
  split
  · next z =>
    rcases z with z | ⟨z1, z2⟩
    · rw [show j' = 0 by omega]; rfl
    · rw [cw_nlt z2]
  · rfl
theorem rm_n {W : Nat → Nat → Nat} {a K N : Nat} {f : Nat → Int64} {j : Nat} (h : rm_I W a K N f j (N + 1)) : rm_I W a K N f (j + 1) a := by
  intro j' v' hj hv
  rw [h j' v' hj hv]
  by_cases z : j' < j + 1
  · rw [if_pos (by omega), if_pos (by omega)]
  · rw [if_neg (by omega)]
    by_cases y : j' = j + 1 ∧ v' < a
    · rw [if_pos (by omega), cw_nlt y.2]
    · rw [if_neg (by omega)]
theorem rm_s {W : Nat → Nat → Nat} {a K N : Nat} {f f' : Nat → Int64} {j v : Nat} (hN : N ≤ 400) (h : rm_I W a K N f (j + 1) v) (hav : a ≤ v) (hvN : v ≤ N) (hf : ∀ i, f' i = if i = 401 * (j + 1) + v then lN (W (j + 1) v + cw_n W a j (v - a)) else f i) : rm_I W a K N f' (j + 1) (v + 1) := by
  intro j' v' hj hv
  rw [hf]
  by_cases e : 401 * j' + v' = 401 * (j + 1) + v
  · have e1 : j' = j + 1 := by omega
    have e2 : v' = v := by omega
    subst e1
    subst e2
    rw [if_pos e, if_pos (by omega), cw_n1, if_pos hav]
  · rw [if_neg e, h j' v' hj hv]
    by_cases t : j' < j + 1 ∨ (j' = j + 1 ∧ v' < v)
    · rw [if_pos t, if_pos (by omega)]
    · rw [if_neg t, if_neg (by omega)]

set_option maxRecDepth 20000 in
theorem c_X12_counted (g : vv_G) (S : vs_S) (hfl : vv_fl g = false) (hS : nm_ok S) (law : Nat) (hl : law ≤ 3) (hs : S.1 23 = nI law) (n k : Int32) : vs_KI g yX12_counted cX12_counted 6 (some .int) 5 [vv_r g 65, .int n, .int k] S (fun r S1 => r = (if (vs_w n 0 400 && vs_w k 1 5) = true then cv (np_lm law) n.toNatClampNeg k.toNatClampNeg else -1) ∧ rj law S S1) := by
  refine vs_ofI (lv := [_, _, _, _, _, _]) mb_X12_counted (Nat.le_of_ble_eq_true rfl) rfl (fun x C F => ?_)
  refine vv_iload_n C dX12_counted_0 rfl ?_
  refine vv_i2l C dX12_counted_1 ?_
  refine vv_lconst C dX12_counted_2 lc_0 ?_
  refine vs_eql (v9 := (0 : Int32).toInt64) (by decide +kernel) ?_
  refine vv_ldc2 C dX12_counted_3 kc_X12_167 ?_
  refine vs_eql (v9 := (400 : Int32).toInt64) (by decide +kernel) ?_
  refine vs_calsiF C dX12_counted_6 (c_X12_within g S _ _ _) mb_X12_within ms_X12_within lk_X12_123 rfl rfl ⟨Nat.le_of_ble_eq_true rfl, Nat.le_of_ble_eq_true rfl, Nat.le_of_ble_eq_true rfl⟩ ?_
  refine vv_if_eq (tgt := 24) C dX12_counted_9 (by decide) (fun q9 => ?_) (fun q9 => ?_)
  · have hw : ¬ (vs_w n 0 400 && vs_w k 1 5) = true := by rw [show vs_w n 0 400 = false from vs_b0.mp q9, Bool.false_and]; decide
    refine vv_iconst C dX12_counted_24 ic_m1 ?_
    exact vs_iret C F dX12_counted_25 rfl ⟨by rw [if_neg hw], vs_fr.rf, hS, hs⟩
  · have w1 : vs_w n 0 400 = true := vs_b1.mp q9
    refine vv_iload_n C dX12_counted_12 rfl ?_
    refine vv_i2l C dX12_counted_13 ?_
    refine vv_lconst C dX12_counted_14 lc_1 ?_
    refine vs_eql (v9 := (1 : Int32).toInt64) (by decide +kernel) ?_
    refine vv_ldc2 C dX12_counted_15 kc_X12_94 ?_
    refine vs_eql (v9 := (5 : Int32).toInt64) (by decide +kernel) ?_
    refine vs_calsiF C dX12_counted_18 (c_X12_within g S _ _ _) mb_X12_within ms_X12_within lk_X12_123 rfl rfl ⟨Nat.le_of_ble_eq_true rfl, Nat.le_of_ble_eq_true rfl, Nat.le_of_ble_eq_true rfl⟩ ?_
    refine vv_if_ne (tgt := 26) C dX12_counted_21 (by decide) (fun q21 => ?_) (fun q21 => ?_)
    · have w2 : vs_w k 1 5 = true := vs_b1.mp q21
      have hw : (vs_w n 0 400 && vs_w k 1 5) = true := by rw [w1, w2]; rfl
      obtain ⟨N, _, hn2, en⟩ := vs_wN (a := 0) (b := 400) (by omega) (by omega) w1
      obtain ⟨K, hk1, hk2, ek⟩ := vs_wN (a := 1) (b := 5) (by omega) (by omega) w2
      subst en
      subst ek
      have la : ∀ (m a : Nat) (S2 : vs_S) (w4 w5 : Option Value), (a + m = N + 1 ∨ (m = 0 ∧ N < a)) → 2 ≤ a → rj law S S2 → (∀ j' v', j' ≤ K → v' ≤ N → S2.2.2 74 (401 * j' + v') = lN (cw (np_lm law) (a - 1) j' v')) → a ≤ 401 → vv_V g x 6 0 0 59 [some (vv_r g 65), some (.int (nI N)), some (.int (nI K)), some (.int (nI a)), w4, w5] [] (vs_cells g S2) := by
        intro m
        induction m with
        | zero =>
          intro a S2 w4 w5 h1 h2 t hW ha4
          have hv := hW K N (Nat.le_refl _) (Nat.le_refl _)
          rw [cw_hi (a - 1) (by omega)] at hv
          have hb : cw (np_lm law) N K N < 2 ^ 62 := by
            have b1 := cw_b (P := np_lm law) N K N
            have b2 : N ^ K ≤ 400 ^ K := Nat.pow_le_pow_left (by omega) K
            have b3 : 400 ^ K ≤ 400 ^ 5 := Nat.pow_le_pow_right (by omega) (by omega)
            have b4 : 400 ^ 5 < 2 ^ 62 := by decide
            omega
          refine vv_iload_n C dX12_counted_59 rfl ?_
          refine vv_iload_n C dX12_counted_60 rfl ?_
          refine vv_icmp_gt (tgt := 147) C dX12_counted_61 (by decide) (fun q61 => ?_) (fun q61 => ?_)
          · refine vv_aload_n C dX12_counted_147 rfl ?_
            refine gf_X12_ways C dX12_counted_148 fg_X12_36 ?_
            refine vv_sipush C dX12_counted_151 sp_401 ?_
            refine vv_iload_n C dX12_counted_154 rfl ?_
            refine vv_imul C dX12_counted_155 ?_
            refine vs_eqi (v9 := nI (401 * K)) (by rw [xn_lit, xn_mul]) ?_
            refine vv_iload_n C dX12_counted_156 rfl ?_
            refine vv_iadd C dX12_counted_157 ?_
            refine vs_eqi (v9 := nI (401 * K + N)) (nI_add _ _) ?_
            refine ld_74 C dX12_counted_158 (xn_in (by omega) (by omega)) ?_
            refine vs_eql (v9 := lN (cw (np_lm law) N K N)) (by rw [xn_cl (by omega)]; exact hv) ?_
            refine vw_lstore_n (lv9 := [_, _, _, _, _, _]) C dX12_counted_159 (by decide) rfl rfl ?_
            refine vv_lload_n C dX12_counted_160 rfl ?_
            refine vv_ldc2 C dX12_counted_161 kc_X12_145 ?_
            refine vv_lcmp C dX12_counted_164 ?_
            refine vv_if_le (tgt := 173) C dX12_counted_165 (by decide) (fun q165 => ?_) (fun q165 => ?_)
            · have hz : cw (np_lm law) N K N ≤ 1000000000 := by rw [lg_cmp_le, xn_lit64, xn_lle (by omega) (by omega)] at q165; exact q165
              refine vv_lload_n C dX12_counted_173 rfl ?_
              refine vv_l2i C dX12_counted_174 ?_
              refine vs_eqi (v9 := nI (cs (cw (np_lm law) N K N))) (by first | (rw [xn_l2i]; exact congrArg nI (by unfold cs; omega)) | exact congrArg nI (by unfold cs; omega : 1000000000 = _)) ?_
              exact vs_iret C F dX12_counted_175 rfl ⟨by rw [if_pos hw, xn_cl (by omega), xn_cl (by omega)]; rfl, t⟩
            · have hz : ¬ cw (np_lm law) N K N ≤ 1000000000 := fun z => q165 (by rw [lg_cmp_le, xn_lit64, xn_lle (by omega) (by omega)]; exact z)
              refine vv_ldc C dX12_counted_168 kc_X12_169 ?_
              refine vv_goto (tgt := 175) C dX12_counted_170 (by decide) ?_
              refine vs_eqi (v9 := nI (cs (cw (np_lm law) N K N))) (by first | (rw [xn_l2i]; exact congrArg nI (by unfold cs; omega)) | exact congrArg nI (by unfold cs; omega : 1000000000 = _)) ?_
              exact vs_iret C F dX12_counted_175 rfl ⟨by rw [if_pos hw, xn_cl (by omega), xn_cl (by omega)]; rfl, t⟩
          · exact absurd ((xn_lt (by omega) (by omega)).mpr (by omega)) q61
        | succ m iha =>
          intro a S2 w4 w5 h1 h2 t hW ha4
          have ea : cw (np_lm law) a = if np_lm law a = true then cw_n (cw (np_lm law) (a - 1)) a else cw (np_lm law) (a - 1) := by
            obtain ⟨b, rfl⟩ : ∃ b, a = b + 1 := ⟨a - 1, by omega⟩
            exact cw_up
          refine vv_iload_n C dX12_counted_59 rfl ?_
          refine vv_iload_n C dX12_counted_60 rfl ?_
          refine vv_icmp_gt (tgt := 147) C dX12_counted_61 (by decide) (fun q61 => ?_) (fun q61 => ?_)
          · exact absurd q61 (by rw [xn_lt (by omega) (by omega)]; omega)
          · refine vv_aload_n C dX12_counted_64 rfl ?_
            refine vv_iload_n C dX12_counted_65 rfl ?_
            refine vv_i2l C dX12_counted_66 ?_
            refine vs_eql (v9 := lN a) (xn_i2l (by omega)) ?_
            refine vs_calli C dX12_counted_67 (c_X12_isLawful g S2 hfl t.2.1 law hl t.2.2 a (by omega)) mb_X12_isLawful mv_X12_isLawful lk_X12_135 ce_65 rfl rfl rfl rfl ⟨Nat.le_of_ble_eq_true rfl, Nat.le_of_ble_eq_true rfl, Nat.le_of_ble_eq_true rfl⟩ (fun r67 S67 p67 => ?_)
            obtain ⟨e67, u67⟩ := p67
            subst e67
            have t67 := t.go u67
            have e74 : S67.2.2 74 = S2.2.2 74 := u67.1.2.2 74 (by decide)
            refine vv_if_ne (tgt := 76) C dX12_counted_70 (by decide) (fun q70 => ?_) (fun q70 => ?_)
            · have hp : np_lm law a = true := vs_b1.mp q70
              have lj : ∀ (m j : Nat) (S2 : vs_S) (w5 : Option Value), j + m = K + 1 → 1 ≤ j → rj law S S2 → rm_I (cw (np_lm law) (a - 1)) a K N (S2.2.2 74) j a → vv_V g x 6 0 0 79 [some (vv_r g 65), some (.int (nI N)), some (.int (nI K)), some (.int (nI a)), some (.int (nI j)), w5] [] (vs_cells g S2) := by
                intro m
                induction m with
                | zero =>
                  intro j S2 w5 h1 hj1 t hI
                  have hj : j = K + 1 := by omega
                  subst hj
                  refine vv_iload C dX12_counted_79 rfl ?_
                  refine vv_iload_n C dX12_counted_81 rfl ?_
                  refine vv_icmp_gt (tgt := 141) C dX12_counted_82 (by decide) (fun q82 => ?_) (fun q82 => ?_)
                  · refine vw_iinc (lv9 := [_, _, _, _, _, _]) C dX12_counted_141 rfl ic_1 (by decide) rfl rfl ?_
                    refine vv_goto (tgt := 59) C dX12_counted_144 (by decide) ?_
                    rw [nI_1]
                    refine iha (a + 1) S2 _ _ (by omega) (by omega) t (fun j' v' hj hv => ?_) (by omega)
                    rw [hI j' v' hj hv, if_pos (by omega), Nat.add_sub_cancel, ea, if_pos hp]
                  · exact absurd ((xn_lt (by omega) (by omega)).mpr (Nat.lt_succ_self K)) q82
                | succ m ihj =>
                  intro j S2 w5 h1 hj1 t hI
                  have lv : ∀ (m v : Nat) (S2 : vs_S), v + m = N + 1 → a ≤ v → rj law S S2 → rm_I (cw (np_lm law) (a - 1)) a K N (S2.2.2 74) j v → vv_V g x 6 0 0 88 [some (vv_r g 65), some (.int (nI N)), some (.int (nI K)), some (.int (nI a)), some (.int (nI j)), some (.int (nI v))] [] (vs_cells g S2) := by
                    intro m
                    induction m with
                    | zero =>
                      intro v S2 h1 hav t hI
                      have hv : v = N + 1 := by omega
                      subst hv
                      refine vv_iload C dX12_counted_88 rfl ?_
                      refine vv_iload_n C dX12_counted_90 rfl ?_
                      refine vv_icmp_gt (tgt := 135) C dX12_counted_91 (by decide) (fun q91 => ?_) (fun q91 => ?_)
                      · refine vw_iinc (lv9 := [_, _, _, _, _, _]) C dX12_counted_135 rfl ic_1 (by decide) rfl rfl ?_
                        refine vv_goto (tgt := 79) C dX12_counted_138 (by decide) ?_
                        rw [nI_1]
                        exact ihj (j + 1) S2 _ (by omega) (by omega) t (rm_n hI)
                      · exact absurd ((xn_lt (by omega) (by omega)).mpr (Nat.lt_succ_self N)) q91
                    | succ m ihv =>
                      intro v S2 h1 hav t hI
                      obtain ⟨j, rfl⟩ : ∃ j9, j = j9 + 1 := ⟨j - 1, by omega⟩
                      have e1 := hI (j + 1) v (by omega) (by omega)
                      rw [if_neg (by omega)] at e1
                      have e2 := hI j (v - a) (by omega) (by omega)
                      rw [if_pos (by omega)] at e2
                      refine vv_iload C dX12_counted_88 rfl ?_
                      refine vv_iload_n C dX12_counted_90 rfl ?_
                      refine vv_icmp_gt (tgt := 135) C dX12_counted_91 (by decide) (fun q91 => ?_) (fun q91 => ?_)
                      · exact absurd q91 (by rw [xn_lt (by omega) (by omega)]; omega)
                      · refine vv_aload_n C dX12_counted_94 rfl ?_
                        refine gf_X12_ways C dX12_counted_95 fg_X12_36 ?_
                        refine vv_sipush C dX12_counted_98 sp_401 ?_
                        refine vv_iload C dX12_counted_101 rfl ?_
                        refine vv_imul C dX12_counted_103 ?_
                        refine vs_eqi (v9 := nI (401 * (j + 1))) (by rw [xn_lit, xn_mul]) ?_
                        refine vv_iload C dX12_counted_104 rfl ?_
                        refine vv_iadd C dX12_counted_106 ?_
                        refine vs_eqi (v9 := nI (401 * (j + 1) + v)) (nI_add _ _) ?_
                        refine vv_dup2 C dX12_counted_107 rfl rfl ?_
                        refine ld_74 C dX12_counted_108 (xn_in (by omega) (by omega)) ?_
                        refine vs_eql (v9 := lN (cw (np_lm law) (a - 1) (j + 1) v)) (by rw [xn_cl (by omega)]; exact e1) ?_
                        refine vv_aload_n C dX12_counted_109 rfl ?_
                        refine gf_X12_ways C dX12_counted_110 fg_X12_36 ?_
                        refine vv_sipush C dX12_counted_113 sp_401 ?_
                        refine vv_iload C dX12_counted_116 rfl ?_
                        refine vv_iconst C dX12_counted_118 ic_1 ?_
                        refine vv_isub C dX12_counted_119 ?_
                        refine vs_eqi (v9 := nI j) (nI_pred j) ?_
                        refine vv_imul C dX12_counted_120 ?_
                        refine vs_eqi (v9 := nI (401 * j)) (by rw [xn_lit, xn_mul]) ?_
                        refine vv_iload C dX12_counted_121 rfl ?_
                        refine vv_iadd C dX12_counted_123 ?_
                        refine vs_eqi (v9 := nI (401 * j + v)) (nI_add _ _) ?_
                        refine vv_iload_n C dX12_counted_124 rfl ?_
                        refine vv_isub C dX12_counted_125 ?_
                        refine vs_eqi (v9 := nI (401 * j + (v - a))) ((xn_sub (by omega)).trans (congrArg nI (by omega))) ?_
                        refine ld_74 C dX12_counted_126 (xn_in (by omega) (by omega)) ?_
                        refine vs_eql (v9 := lN (cw_n (cw (np_lm law) (a - 1)) a j (v - a))) (by rw [xn_cl (by omega)]; exact e2) ?_
                        refine vv_ladd C dX12_counted_127 ?_
                        refine vs_eql (v9 := lN (cw (np_lm law) (a - 1) (j + 1) v + cw_n (cw (np_lm law) (a - 1)) a j (v - a))) (lN_add _ _) ?_
                        refine st_74 hfl C dX12_counted_128 (xn_in (by omega) (by omega)) ?_
                        refine vw_iinc (lv9 := [_, _, _, _, _, _]) C dX12_counted_129 rfl ic_1 (by decide) rfl rfl ?_
                        refine vv_goto (tgt := 88) C dX12_counted_132 (by decide) ?_
                        rw [nI_1]
                        refine ihv (v + 1) _ (by omega) (by omega) (t.ul _) (rm_s (by omega) hI hav (by omega) (fun i => ?_))
                        show vp_updL (S2.2.2 74) (nI (401 * (j + 1) + v)).toNatClampNeg _ i = _
                        rw [xn_cl (by omega), xn_updL]
                  refine vv_iload C dX12_counted_79 rfl ?_
                  refine vv_iload_n C dX12_counted_81 rfl ?_
                  refine vv_icmp_gt (tgt := 141) C dX12_counted_82 (by decide) (fun q82 => ?_) (fun q82 => ?_)
                  · exact absurd q82 (by rw [xn_lt (by omega) (by omega)]; omega)
                  · refine vv_iload_n C dX12_counted_85 rfl ?_
                    refine vw_istore (lv9 := [_, _, _, _, _, _]) C dX12_counted_86 (by decide) rfl rfl ?_
                    exact lv (N + 1 - a) a S2 (by omega) (Nat.le_refl _) t hI
              refine vv_iconst C dX12_counted_76 ic_1 ?_
              refine vw_istore (lv9 := [_, _, _, _, _, _]) C dX12_counted_77 (by decide) rfl rfl ?_
              refine lj K 1 S67 _ (by omega) (Nat.le_refl _) t67 (rm_0 ?_)
              rw [e74]
              exact hW
            · have hp : np_lm law a = false := vs_b0.mp q70
              refine vv_goto (tgt := 141) C dX12_counted_73 (by decide) ?_
              refine vw_iinc (lv9 := [_, _, _, _, _, _]) C dX12_counted_141 rfl ic_1 (by decide) rfl rfl ?_
              refine vv_goto (tgt := 59) C dX12_counted_144 (by decide) ?_
              rw [nI_1]
              refine iha (a + 1) S67 _ _ (by omega) (by omega) t67 (fun j' v' hj hv => ?_) (by omega)
              rw [e74, hW j' v' hj hv, Nat.add_sub_cancel, ea, if_neg (by rw [hp]; decide)]
      have lx : ∀ (m i : Nat) (S2 : vs_S) (w4 w5 : Option Value), i + m = 2406 → rj law S S2 → (∀ q, q < i → S2.2.2 74 q = 0) → vv_V g x 6 0 0 28 [some (vv_r g 65), some (.int (nI N)), some (.int (nI K)), some (.int (nI i)), w4, w5] [] (vs_cells g S2) := by
        intro m
        induction m with
        | zero =>
          intro i S2 w4 w5 h1 t hZ
          have hk : i = 2406 := by omega
          subst hk
          refine vv_iload_n C dX12_counted_28 rfl ?_
          refine vv_aload_n C dX12_counted_29 rfl ?_
          refine gf_X12_ways C dX12_counted_30 fg_X12_36 ?_
          refine ln_74 C dX12_counted_33 ?_
          refine vv_icmp_ge (tgt := 50) C dX12_counted_34 (by decide) (fun q34 => ?_) (fun q34 => ?_)
          · refine vv_aload_n C dX12_counted_50 rfl ?_
            refine gf_X12_ways C dX12_counted_51 fg_X12_36 ?_
            refine vv_iconst C dX12_counted_54 ic_0 ?_
            refine vv_lconst C dX12_counted_55 lc_1 ?_
            refine st_74 hfl C dX12_counted_56 (xn_in (n := 0) (by omega) (by omega)) ?_
            refine vv_iconst C dX12_counted_57 ic_2 ?_
            refine vw_istore_n (lv9 := [_, _, _, _, _, _]) C dX12_counted_58 (by decide) rfl rfl ?_
            refine la (N + 1 - 2) 2 _ _ _ (by omega) (Nat.le_refl _) (t.ul _) (fun j' v' hj hv => ?_) (by omega)
            have ep : cw (np_lm law) 1 j' v' = cw (np_lm law) 0 j' v' := by
              rw [cw_up, if_neg (fun z => absurd (np_lm2 z) (by omega))]
            show vp_updL (S2.2.2 74) 0 1 (401 * j' + v') = lN (cw (np_lm law) 1 j' v')
            rw [ep, xn_updL]
            show _ = lN (if j' = 0 ∧ v' = 0 then 1 else 0)
            by_cases e : 401 * j' + v' = 0
            · rw [if_pos e, if_pos (by omega)]; rfl
            · rw [if_neg e, if_neg (by omega)]
              exact hZ _ (by omega)
          · exact absurd (by decide +kernel) q34
        | succ m ih =>
          intro i S2 w4 w5 h1 t hZ
          refine vv_iload_n C dX12_counted_28 rfl ?_
          refine vv_aload_n C dX12_counted_29 rfl ?_
          refine gf_X12_ways C dX12_counted_30 fg_X12_36 ?_
          refine ln_74 C dX12_counted_33 ?_
          refine vv_icmp_ge (tgt := 50) C dX12_counted_34 (by decide) (fun q34 => ?_) (fun q34 => ?_)
          · exact absurd q34 (by rw [xn_lit, xn_le (by omega) (by omega)]; omega)
          · refine vv_aload_n C dX12_counted_37 rfl ?_
            refine gf_X12_ways C dX12_counted_38 fg_X12_36 ?_
            refine vv_iload_n C dX12_counted_41 rfl ?_
            refine vv_lconst C dX12_counted_42 lc_0 ?_
            refine st_74 hfl C dX12_counted_43 (xn_in (by omega) (by omega)) ?_
            refine vw_iinc (lv9 := [_, _, _, _, _, _]) C dX12_counted_44 rfl ic_1 (by decide) rfl rfl ?_
            refine vv_goto (tgt := 28) C dX12_counted_47 (by decide) ?_
            rw [nI_1]
            refine ih (i + 1) _ _ _ (by omega) (t.ul _) (fun q hq => ?_)
            show vp_updL (S2.2.2 74) (nI i).toNatClampNeg 0 q = 0
            rw [xn_cl (by omega), xn_updL]
            split
            · rfl
            · exact hZ q (by omega)
      refine vv_iconst C dX12_counted_26 ic_0 ?_
      refine vw_istore_n (lv9 := [_, _, _, _, _, _]) C dX12_counted_27 (by decide) rfl rfl ?_
      exact lx 2406 0 S none none rfl ⟨vs_fr.rf, hS, hs⟩ (fun q hq => by omega)
    · have hw : ¬ (vs_w n 0 400 && vs_w k 1 5) = true := by rw [show vs_w k 1 5 = false from vs_b0.mp q21, Bool.and_false]; decide
      refine vv_iconst C dX12_counted_24 ic_m1 ?_
      exact vs_iret C F dX12_counted_25 rfl ⟨by rw [if_neg hw], vs_fr.rf, hS, hs⟩
