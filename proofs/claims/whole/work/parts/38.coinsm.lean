def kj (law : Nat) (S S2 : vs_S) : Prop := vs_fr [24] [70, 75] [] S S2 ∧ nm_ok S2 ∧ S2.1 23 = nI law
theorem kj.ua {law : Nat} {S S2 : vs_S} (h : kj law S S2) (f : Nat → Int32) : kj law S (vs_ua S2 75 f) := ⟨h.1.ua (by decide), nm_ok_of h.2.1 rfl rfl, h.2.2⟩
theorem kj.go {law : Nat} {S S2 S3 : vs_S} (h : kj law S S2) (h2 : nm_to S2 S3) : kj law S S3 := ⟨h.1.tr (h2.1.wd (by decide) (by decide) (by decide)), h2.2, by rw [h2.1.1 23 (by decide)]; exact h.2.2⟩
def pc_R (sz : Nat) (W M : Nat → Nat) (n i : Nat) (S : vs_S) : Prop := ∀ j m, i ≤ j → j ≤ sz → m ≤ n → S.2.1 75 (2001 * j + m) = nI (en 1000 (cF sz W M (sz - j) m))
theorem pc_Rgo {sz : Nat} {W M : Nat → Nat} {n i : Nat} {S S2 : vs_S} (h : pc_R sz W M n i S) (h2 : nm_to S S2) : pc_R sz W M n i S2 := by
  unfold pc_R
  rw [h2.1.2.1 75 (by decide)]
  exact h
theorem en_b2 {sz d u : Nat} {W M : Nat → Nat} (hM : ∀ i, M i ≤ 9) (hd : d ≤ 16) : en 1000 (cF sz W M d u) ≤ 1000 := by
  cases e : cF sz W M d u with
  | none => exact Nat.le_refl _
  | some y =>
    have := cF_le hM d u y e
    show y ≤ 1000
    omega
theorem co_b2 {sz d v w K : Nat} {W M : Nat → Nat} (hM : ∀ i, M i ≤ 9) (hd : d ≤ 16) (hK : K ≤ 9) {x : Nat} (h : co_m (cF sz W M d) w v K = some x) : x ≤ 1000 := by
  have := co_le (B := 9 * d) (fun u y h => cF_le hM d u y h) K x h
  omega
theorem cn_none2 {sz n : Nat} {W M : Nat → Nat} (hM : ∀ i, M i ≤ 9) (hsz : sz ≤ 16) (h : ¬ en 1000 (cF sz W M sz n) < 1000) : cF sz W M sz n = none := by
  cases e : cF sz W M sz n with
  | none => rfl
  | some y =>
    have h1 := cF_le hM sz n y e
    rw [e] at h
    exact absurd (show y < 1000 by omega) h
theorem cn_some2 {sz n : Nat} {W M : Nat → Nat} (h : en 1000 (cF sz W M sz n) < 1000) : ∃ y, cF sz W M sz n = some y := by
  cases e : cF sz W M sz n with
  | none =>
    rw [e] at h
    exact absurd h (Nat.lt_irrefl _)
  | some y => exact ⟨y, rfl⟩
theorem cn_i2 {sz : Nat} {i : Int32} (hsz : sz ≤ 16) (h : vs_w i 0 (nI sz - 1) = true) : ∃ k, k < sz ∧ i = nI k := lg_mcq hsz h
theorem vs_w1 {i hi : Int32} (h : -1 ≤ hi) : vs_w i (-1) hi = (decide (i = -1) || vs_w i 0 hi) := by
  unfold vs_w
  have h1 := Int32.le_iff_toInt_le.mp h
  have e1 : (-1 : Int32).toInt = -1 := rfl
  have e0 : (0 : Int32).toInt = 0 := rfl
  by_cases z : i = -1
  · subst z
    rw [decide_eq_true (Int32.le_refl _), decide_eq_true h, decide_eq_true rfl]
    rfl
  · rw [decide_eq_false z, Bool.false_or]
    by_cases y : 0 ≤ i
    · have h2 := Int32.le_iff_toInt_le.mp y
      rw [decide_eq_true y, decide_eq_true (Int32.le_iff_toInt_le.mpr (by omega))]
    · have h2 : ¬ (0 : Int32).toInt ≤ i.toInt := fun t => y (Int32.le_iff_toInt_le.mpr t)
      rw [decide_eq_false y, decide_eq_false (fun t => z (by
        have h3 := Int32.le_iff_toInt_le.mp t
        apply Int32.toInt_inj.mp
        omega))]
theorem sz_m1 {sz : Nat} (h : sz ≤ 16) : (-1 : Int32) ≤ nI sz - 1 := by
  cases sz with
  | zero => decide +kernel
  | succ m =>
    rw [nI_pred]
    exact Int32.le_trans (by decide) (nI_pos' (show m < 2 ^ 31 by omega))
set_option maxRecDepth 20000 in
theorem c_X12_usable (g : vv_G) (S : vs_S) (hfl : vv_fl g = false) (hS : nm_ok S) (law : Nat) (hl : law ≤ 3) (hs : S.1 23 = nI law) (L : lg_L) (hL : lg_M S L) (hi : lg_in L) (i : Nat) (h16 : i < 16) : vs_KI g yX12_usable cX12_usable 2 (some .int) 5 [vv_r g 65, .int (nI i)] S (fun r S1 => r = nI ((cnM (np_lm law) L) i) ∧ nm_to S S1) := by
  have hWi := cnW_le hi h16
  have e66 := lg_HM hL
  refine vs_ofI (lv := [_, _]) mb_X12_usable (Nat.le_of_ble_eq_true rfl) rfl (fun x C F => ?_)
  refine vv_aload_n C dX12_usable_0 rfl ?_
  refine vv_aload_n C dX12_usable_1 rfl ?_
  refine gf_X12_may C dX12_usable_2 fg_X12_9 ?_
  refine vv_bipush C dX12_usable_5 bp_64 ?_
  refine vv_iload_n C dX12_usable_7 rfl ?_
  refine vv_iadd C dX12_usable_8 ?_
  refine vs_eqi (v9 := nI (64 + i)) (nI_add 64 _) ?_
  refine ld_66 C dX12_usable_9 (xn_in (by omega) (by omega)) ?_
  refine vs_eqi (v9 := nI (cnW L i)) (by rw [xn_cl (by omega), ← e66]; exact (lg_inD hi (p := 64 + i) (by omega)).1) ?_
  refine vv_i2l C dX12_usable_10 ?_
  refine vs_eql (v9 := lN (cnW L i)) (xn_i2l (by omega)) ?_
  refine vs_calli C dX12_usable_11 (c_X12_isLawful g S hfl hS law hl hs (cnW L i) (by omega)) mb_X12_isLawful mv_X12_isLawful lk_X12_135 ce_65 rfl rfl rfl rfl ⟨Nat.le_of_ble_eq_true rfl, Nat.le_of_ble_eq_true rfl, Nat.le_of_ble_eq_true rfl⟩ (fun r11 S11 p11 => ?_)
  obtain ⟨e11, u11⟩ := p11
  subst e11
  refine vv_if_eq (tgt := 29) C dX12_usable_14 (by decide) (fun q14 => ?_) (fun q14 => ?_)
  · have hp : np_lm law (cnW L i) = false := vs_b0.mp q14
    refine vv_iconst C dX12_usable_29 ic_0 ?_
    refine vs_eqi (v9 := nI ((cnM (np_lm law) L) i)) (by first | (rw [xn_cl (by omega), u11.1.2.1 66 (by decide), ← e66]; unfold cnM; rw [if_pos (by omega), if_pos (show np_lm law (lgD L (64 + i)) = true from hp)]; exact (lg_inD hi (p := 80 + i) (by omega)).1) | (unfold cnM; rw [if_pos (by omega), if_neg (by rw [show lgD L (64 + i) = cnW L i from rfl, hp]; decide)]; rfl)) ?_
    exact vs_iret C F dX12_usable_30 rfl ⟨rfl, u11⟩
  · have hp : np_lm law (cnW L i) = true := vs_b1.mp q14
    refine vv_aload_n C dX12_usable_17 rfl ?_
    refine gf_X12_may C dX12_usable_18 fg_X12_9 ?_
    refine vv_bipush C dX12_usable_21 bp_80 ?_
    refine vv_iload_n C dX12_usable_23 rfl ?_
    refine vv_iadd C dX12_usable_24 ?_
    refine vs_eqi (v9 := nI (80 + i)) (nI_add 80 _) ?_
    refine ld_66 C dX12_usable_25 (xn_in (by omega) (by omega)) ?_
    refine vv_goto (tgt := 30) C dX12_usable_26 (by decide) ?_
    refine vs_eqi (v9 := nI ((cnM (np_lm law) L) i)) (by first | (rw [xn_cl (by omega), u11.1.2.1 66 (by decide), ← e66]; unfold cnM; rw [if_pos (by omega), if_pos (show np_lm law (lgD L (64 + i)) = true from hp)]; exact (lg_inD hi (p := 80 + i) (by omega)).1) | (unfold cnM; rw [if_pos (by omega), if_neg (by rw [show lgD L (64 + i) = cnW L i from rfl, hp]; decide)]; rfl)) ?_
    exact vs_iret C F dX12_usable_30 rfl ⟨rfl, u11⟩
set_option maxRecDepth 20000 in
theorem c_X12_findCoins (g : vv_G) (S : vs_S) (hfl : vv_fl g = false) (hS : nm_ok S) (law : Nat) (hl : law ≤ 3) (hs : S.1 23 = nI law) (L : lg_L) (hL : lg_M S L) (hi : lg_in L) (sz : Nat) (hsz : sz ≤ 16) (hz9 : S.1 26 = nI sz) (n : Nat) (hn : n ≤ 2000) : vs_KV g yX12_findCoins cX12_findCoins 9 none 6 [vv_r g 65, .int (nI n)] S (fun S1 => kj law S S1 ∧ pc_R sz (cnW L) (cnM (np_lm law) L) n 0 S1) := by
  refine vs_ofV (lv := [_, _, _, _, _, _, _, _, _]) mb_X12_findCoins (Nat.le_of_ble_eq_true rfl) rfl (fun x C F => ?_)
  have hM := cnM_le (P := np_lm law) hi
  have l2 : ∀ (k : Nat) (w3 w4 w5 w6 w7 w8 : Option Value) (S2 : vs_S), k ≤ sz → kj law S S2 → pc_R sz (cnW L) (cnM (np_lm law) L) n k S2 → vv_V g x 9 0 0 46 [some (vv_r g 65), some (.int (nI n)), some (.int (nI k - 1)), w3, w4, w5, w6, w7, w8] [] (vs_cells g S2) := by
    intro k
    induction k with
    | zero =>
      intro w3 w4 w5 w6 w7 w8 S2 hk t hR
      refine vv_iload_n C dX12_findCoins_46 rfl ?_
      refine vv_if_lt (tgt := 169) C dX12_findCoins_47 (by decide) (fun q47 => ?_) (fun q47 => ?_)
      · exact vs_vret C F dX12_findCoins_169 rfl ⟨t, hR⟩
      · exact absurd (by decide +kernel) q47
    | succ i ih2 =>
      intro w3 w4 w5 w6 w7 w8 S2 hk t hR
      rw [nI_pred]
      have hWi := cnW_le hi (i := i) (by omega)
      have hMi := hM i
      have l3 : ∀ (f v : Nat) (w6 w7 w8 : Option Value) (S2 : vs_S), v + f = n + 1 → kj law S S2 → pc_R sz (cnW L) (cnM (np_lm law) L) n (i + 1) S2 → (∀ m, m < v → S2.2.1 75 (2001 * i + m) = nI (en 1000 (cF sz (cnW L) (cnM (np_lm law) L) (sz - i) m))) → vv_V g x 9 0 0 70 [some (vv_r g 65), some (.int (nI n)), some (.int (nI i)), some (.int (nI ((cnM (np_lm law) L) i))), some (.int (nI (cnW L i))), some (.int (nI v)), w6, w7, w8] [] (vs_cells g S2) := by
        intro f
        induction f with
        | zero =>
          intro v w6 w7 w8 S2 h1 t hR hrow
          have hm : v = n + 1 := by omega
          subst hm
          refine vv_iload C dX12_findCoins_70 rfl ?_
          refine vv_iload_n C dX12_findCoins_72 rfl ?_
          refine vv_icmp_gt (tgt := 163) C dX12_findCoins_73 (by decide) (fun q73 => ?_) (fun q73 => ?_)
          · refine vw_iinc (lv9 := [_, _, _, _, _, _, _, _, _]) C dX12_findCoins_163 rfl ic_m1 (by decide) rfl rfl ?_
            refine vv_goto (tgt := 46) C dX12_findCoins_166 (by decide) ?_
            show vv_V g x 9 0 0 46 [_, _, some (.int (nI i + -1)), _, _, _, _, _, _] _ _
            rw [xm1]
            refine ih2 _ _ _ _ _ _ S2 (by omega) t (fun j m hj hj2 hm => ?_)
            by_cases e : j = i
            · subst e; exact hrow m (by omega)
            · exact hR j m (by omega) hj2 hm
          · exact absurd ((xn_lt (by omega) (by omega)).mpr (Nat.lt_succ_self _)) q73
        | succ f ih3 =>
          intro v w6 w7 w8 S2 h1 t hR hrow
          have hbv := en_b2 (sz := sz) (u := v) (W := (cnW L)) hM (show sz - (i + 1) ≤ 16 by omega)
          have fin : ∀ (w7 w8 : Option Value) (e9 : Nat), en 1000 (co_m (cF sz (cnW L) (cnM (np_lm law) L) (sz - (i + 1))) (cnW L i) v ((cnM (np_lm law) L) i)) = e9 → vv_V g x 9 0 0 142 [some (vv_r g 65), some (.int (nI n)), some (.int (nI i)), some (.int (nI ((cnM (np_lm law) L) i))), some (.int (nI (cnW L i))), some (.int (nI v)), some (.int (nI e9)), w7, w8] [] (vs_cells g S2) := by
            intro w7 w8 e9 h9
            subst h9
            refine vv_aload_n C dX12_findCoins_142 rfl ?_
            refine gf_X12_fewestCoins C dX12_findCoins_143 fg_X12_41 ?_
            refine vv_sipush C dX12_findCoins_146 sp_2001 ?_
            refine vv_iload_n C dX12_findCoins_149 rfl ?_
            refine vv_imul C dX12_findCoins_150 ?_
            refine vs_eqi (v9 := nI (2001 * i)) (by rw [xn_lit, xn_mul]) ?_
            refine vv_iload C dX12_findCoins_151 rfl ?_
            refine vv_iadd C dX12_findCoins_153 ?_
            refine vs_eqi (v9 := nI (2001 * i + v)) (nI_add _ _) ?_
            refine vv_iload C dX12_findCoins_154 rfl ?_
            refine st_75 C dX12_findCoins_156 (xn_in (by omega) (by omega)) ?_
            refine vw_iinc (lv9 := [_, _, _, _, _, _, _, _, _]) C dX12_findCoins_157 rfl ic_1 (by decide) rfl rfl ?_
            refine vv_goto (tgt := 70) C dX12_findCoins_160 (by decide) ?_
            rw [nI_1]
            refine ih3 (v + 1) _ _ _ _ (by omega) (t.ua _) (fun j m hj hj2 hm => ?_) (fun m hm => ?_)
            · rw [vs_ua2, if_pos rfl, xn_cl (by omega), upd_ne (by omega)]
              exact hR j m hj hj2 hm
            · rw [vs_ua2, if_pos rfl, xn_cl (by omega)]
              by_cases z : m = v
              · subst z
                rw [upd_eq, cF_i (by omega)]
              · rw [upd_ne (by omega)]
                exact hrow m (by omega)
          have l4 : ∀ (f k : Nat) (w8 : Option Value), k + f = (cnM (np_lm law) L) i → vv_V g x 9 0 0 84 [some (vv_r g 65), some (.int (nI n)), some (.int (nI i)), some (.int (nI ((cnM (np_lm law) L) i))), some (.int (nI (cnW L i))), some (.int (nI v)), some (.int (nI (en 1000 (co_m (cF sz (cnW L) (cnM (np_lm law) L) (sz - (i + 1))) (cnW L i) v k)))), some (.int (nI (k + 1))), w8] [] (vs_cells g S2) := by
            intro f
            induction f with
            | zero =>
              intro k w8 h1
              have hk : k = (cnM (np_lm law) L) i := by omega
              subst hk
              refine vv_iload C dX12_findCoins_84 rfl ?_
              refine vv_iload_n C dX12_findCoins_86 rfl ?_
              refine vv_icmp_gt (tgt := 142) C dX12_findCoins_87 (by decide) (fun q87 => ?_) (fun q87 => ?_)
              · exact fin _ _ _ rfl
              · exact absurd ((xn_lt (by omega) (by omega)).mpr (Nat.lt_succ_self _)) q87
            | succ f ih4 =>
              intro k w8 h1
              have hkw := pu_mul (a := k + 1) (b := cnW L i) (by omega) (by omega)
              have hb1 : en 1000 (co_m (cF sz (cnW L) (cnM (np_lm law) L) (sz - (i + 1))) (cnW L i) v k) ≤ 1000 := by
                cases e : co_m (cF sz (cnW L) (cnM (np_lm law) L) (sz - (i + 1))) (cnW L i) v k with
                | none => exact Nat.le_refl _
                | some y => exact co_b2 hM (by omega) (by omega) e
              have hb2 := en_b2 (sz := sz) (u := v - (k + 1) * cnW L i) (W := (cnW L)) hM (show sz - (i + 1) ≤ 16 by omega)
              have hmin := en_min (Z := 1000) (c := k + 1) (a := co_m (cF sz (cnW L) (cnM (np_lm law) L) (sz - (i + 1))) (cnW L i) v k) (b := cF sz (cnW L) (cnM (np_lm law) L) (sz - (i + 1)) (v - (k + 1) * cnW L i)) (fun x hx => co_b2 hM (by omega) (by omega) hx) (fun y hy => by have := cF_le hM _ _ y hy; omega)
              refine vv_iload C dX12_findCoins_84 rfl ?_
              refine vv_iload_n C dX12_findCoins_86 rfl ?_
              refine vv_icmp_gt (tgt := 142) C dX12_findCoins_87 (by decide) (fun q87 => ?_) (fun q87 => ?_)
              · exact absurd q87 (by rw [xn_lt (by omega) (by omega)]; omega)
              · refine vv_iload C dX12_findCoins_90 rfl ?_
                refine vv_iload C dX12_findCoins_92 rfl ?_
                refine vv_imul C dX12_findCoins_94 ?_
                refine vs_eqi (v9 := nI ((k + 1) * cnW L i)) (xn_mul _ _) ?_
                refine vv_iload C dX12_findCoins_95 rfl ?_
                refine vv_icmp_gt (tgt := 142) C dX12_findCoins_97 (by decide) (fun q97 => ?_) (fun q97 => ?_)
                · have hz : v < (k + 1) * cnW L i := by rw [xn_lt (by omega) (by omega)] at q97; exact q97
                  exact fin _ _ _ (by rw [co_stop hz ((cnM (np_lm law) L) i) (by omega)])
                · have hz : (k + 1) * cnW L i ≤ v := by rw [xn_lt (by omega) (by omega)] at q97; omega
                  refine vv_iload C dX12_findCoins_100 rfl ?_
                  refine vv_aload_n C dX12_findCoins_102 rfl ?_
                  refine vv_iload_n C dX12_findCoins_103 rfl ?_
                  refine vv_iconst C dX12_findCoins_104 ic_1 ?_
                  refine vv_iadd C dX12_findCoins_105 ?_
                  refine vs_eqi (v9 := nI (i + 1)) (nI_1 _) ?_
                  refine vv_iload C dX12_findCoins_106 rfl ?_
                  refine vv_iload C dX12_findCoins_108 rfl ?_
                  refine vv_iload C dX12_findCoins_110 rfl ?_
                  refine vv_imul C dX12_findCoins_112 ?_
                  refine vs_eqi (v9 := nI ((k + 1) * cnW L i)) (xn_mul _ _) ?_
                  refine vv_isub C dX12_findCoins_113 ?_
                  refine vs_eqi (v9 := nI (v - (k + 1) * cnW L i)) (xn_sub (by omega)) ?_
                  refine vs_caliF C dX12_findCoins_114 (c_X12_fewestFrom g S2 (nI (i + 1)) (nI (v - (k + 1) * cnW L i)) (by rw [xn_lit, xn_mul, nI_add]; exact xn_in (by omega) (by omega))) mb_X12_fewestFrom mv_X12_fewestFrom lk_X12_188 ce_65 rfl rfl rfl rfl ⟨Nat.le_of_ble_eq_true rfl, Nat.le_of_ble_eq_true rfl, Nat.le_of_ble_eq_true rfl⟩ ?_
                  refine vs_eqi (v9 := nI (en 1000 (cF sz (cnW L) (cnM (np_lm law) L) (sz - (i + 1)) (v - (k + 1) * cnW L i)))) (by rw [xn_lit, xn_mul, nI_add, xn_cl (by omega)]; exact hR (i + 1) _ (Nat.le_refl _) (by omega) (by omega)) ?_
                  refine vv_iadd C dX12_findCoins_117 ?_
                  refine vs_eqi (v9 := nI (k + 1 + en 1000 (cF sz (cnW L) (cnM (np_lm law) L) (sz - (i + 1)) (v - (k + 1) * cnW L i)))) (nI_add _ _) ?_
                  refine vw_istore (lv9 := [_, _, _, _, _, _, _, _, _]) C dX12_findCoins_118 (by decide) rfl rfl ?_
                  refine vv_iload C dX12_findCoins_120 rfl ?_
                  refine vv_iload C dX12_findCoins_122 rfl ?_
                  refine vv_icmp_ge (tgt := 132) C dX12_findCoins_124 (by decide) (fun q124 => ?_) (fun q124 => ?_)
                  · rw [xn_le (by omega) (by omega)] at q124
                    refine vv_iload C dX12_findCoins_132 rfl ?_
                    refine vs_eqi (v9 := nI (en 1000 (co_m (cF sz (cnW L) (cnM (np_lm law) L) (sz - (i + 1))) (cnW L i) v (k + 1)))) (congrArg nI (by rw [co_m1, if_pos hz, hmin]; omega)) ?_
                    refine vw_istore (lv9 := [_, _, _, _, _, _, _, _, _]) C dX12_findCoins_134 (by decide) rfl rfl ?_
                    refine vw_iinc (lv9 := [_, _, _, _, _, _, _, _, _]) C dX12_findCoins_136 rfl ic_1 (by decide) rfl rfl ?_
                    refine vv_goto (tgt := 84) C dX12_findCoins_139 (by decide) ?_
                    rw [nI_1]
                    exact ih4 (k + 1) _ (by omega)
                  · rw [xn_le (by omega) (by omega)] at q124
                    refine vv_iload C dX12_findCoins_127 rfl ?_
                    refine vv_goto (tgt := 134) C dX12_findCoins_129 (by decide) ?_
                    refine vs_eqi (v9 := nI (en 1000 (co_m (cF sz (cnW L) (cnM (np_lm law) L) (sz - (i + 1))) (cnW L i) v (k + 1)))) (congrArg nI (by rw [co_m1, if_pos hz, hmin]; omega)) ?_
                    refine vw_istore (lv9 := [_, _, _, _, _, _, _, _, _]) C dX12_findCoins_134 (by decide) rfl rfl ?_
                    refine vw_iinc (lv9 := [_, _, _, _, _, _, _, _, _]) C dX12_findCoins_136 rfl ic_1 (by decide) rfl rfl ?_
                    refine vv_goto (tgt := 84) C dX12_findCoins_139 (by decide) ?_
                    rw [nI_1]
                    exact ih4 (k + 1) _ (by omega)
          refine vv_iload C dX12_findCoins_70 rfl ?_
          refine vv_iload_n C dX12_findCoins_72 rfl ?_
          refine vv_icmp_gt (tgt := 163) C dX12_findCoins_73 (by decide) (fun q73 => ?_) (fun q73 => ?_)
          · exact absurd q73 (by rw [xn_lt (by omega) (by omega)]; omega)
          · refine vv_sipush C dX12_findCoins_76 sp_1000 ?_
            refine vw_istore (lv9 := [_, _, _, _, _, _, _, _, _]) C dX12_findCoins_79 (by decide) rfl rfl ?_
            refine vv_iconst C dX12_findCoins_81 ic_0 ?_
            refine vw_istore (lv9 := [_, _, _, _, _, _, _, _, _]) C dX12_findCoins_82 (by decide) rfl rfl ?_
            refine vv_iload C dX12_findCoins_84 rfl ?_
            refine vv_iload_n C dX12_findCoins_86 rfl ?_
            refine vv_icmp_gt (tgt := 142) C dX12_findCoins_87 (by decide) (fun q87 => ?_) (fun q87 => ?_)
            · exact absurd q87 (by rw [xn_lit, xn_lt (by omega) (by omega)]; omega)
            · refine vv_iload C dX12_findCoins_90 rfl ?_
              refine vv_iload C dX12_findCoins_92 rfl ?_
              refine vv_imul C dX12_findCoins_94 ?_
              refine vs_eqi (v9 := nI 0) (by rw [xn_lit, xn_mul, Nat.zero_mul]) ?_
              refine vv_iload C dX12_findCoins_95 rfl ?_
              refine vv_icmp_gt (tgt := 142) C dX12_findCoins_97 (by decide) (fun q97 => ?_) (fun q97 => ?_)
              · exact absurd q97 (by rw [xn_lt (by omega) (by omega)]; omega)
              · refine vv_iload C dX12_findCoins_100 rfl ?_
                refine vv_aload_n C dX12_findCoins_102 rfl ?_
                refine vv_iload_n C dX12_findCoins_103 rfl ?_
                refine vv_iconst C dX12_findCoins_104 ic_1 ?_
                refine vv_iadd C dX12_findCoins_105 ?_
                refine vs_eqi (v9 := nI (i + 1)) (nI_1 _) ?_
                refine vv_iload C dX12_findCoins_106 rfl ?_
                refine vv_iload C dX12_findCoins_108 rfl ?_
                refine vv_iload C dX12_findCoins_110 rfl ?_
                refine vv_imul C dX12_findCoins_112 ?_
                refine vs_eqi (v9 := nI 0) (by rw [xn_lit, xn_mul, Nat.zero_mul]) ?_
                refine vv_isub C dX12_findCoins_113 ?_
                refine vs_eqi (v9 := nI v) (xn_sub (a := v) (b := 0) (by omega)) ?_
                refine vs_caliF C dX12_findCoins_114 (c_X12_fewestFrom g S2 (nI (i + 1)) (nI (v)) (by rw [xn_lit, xn_mul, nI_add]; exact xn_in (by omega) (by omega))) mb_X12_fewestFrom mv_X12_fewestFrom lk_X12_188 ce_65 rfl rfl rfl rfl ⟨Nat.le_of_ble_eq_true rfl, Nat.le_of_ble_eq_true rfl, Nat.le_of_ble_eq_true rfl⟩ ?_
                refine vs_eqi (v9 := nI (en 1000 (cF sz (cnW L) (cnM (np_lm law) L) (sz - (i + 1)) v))) (by rw [xn_lit, xn_mul, nI_add, xn_cl (by omega)]; exact hR (i + 1) _ (Nat.le_refl _) (by omega) (by omega)) ?_
                refine vv_iadd C dX12_findCoins_117 ?_
                refine vs_eqi (v9 := nI (en 1000 (cF sz (cnW L) (cnM (np_lm law) L) (sz - (i + 1)) v))) (by rw [xn_lit, nI_add, Nat.zero_add]) ?_
                refine vw_istore (lv9 := [_, _, _, _, _, _, _, _, _]) C dX12_findCoins_118 (by decide) rfl rfl ?_
                refine vv_iload C dX12_findCoins_120 rfl ?_
                refine vv_iload C dX12_findCoins_122 rfl ?_
                refine vv_icmp_ge (tgt := 132) C dX12_findCoins_124 (by decide) (fun q124 => ?_) (fun q124 => ?_)
                · rw [xn_lit, xn_le (by omega) (by omega)] at q124
                  refine vv_iload C dX12_findCoins_132 rfl ?_
                  refine vs_eqi (v9 := nI (en 1000 (co_m (cF sz (cnW L) (cnM (np_lm law) L) (sz - (i + 1))) (cnW L i) v 0))) (by first | exact (congrArg nI (show 1000 = _ by show 1000 = en 1000 (cF sz (cnW L) (cnM (np_lm law) L) (sz - (i + 1)) v); omega)) | rfl) ?_
                  refine vw_istore (lv9 := [_, _, _, _, _, _, _, _, _]) C dX12_findCoins_134 (by decide) rfl rfl ?_
                  refine vw_iinc (lv9 := [_, _, _, _, _, _, _, _, _]) C dX12_findCoins_136 rfl ic_1 (by decide) rfl rfl ?_
                  refine vv_goto (tgt := 84) C dX12_findCoins_139 (by decide) ?_
                  exact l4 ((cnM (np_lm law) L) i) 0 _ (Nat.zero_add _)
                · rw [xn_lit, xn_le (by omega) (by omega)] at q124
                  refine vv_iload C dX12_findCoins_127 rfl ?_
                  refine vv_goto (tgt := 134) C dX12_findCoins_129 (by decide) ?_
                  refine vs_eqi (v9 := nI (en 1000 (co_m (cF sz (cnW L) (cnM (np_lm law) L) (sz - (i + 1))) (cnW L i) v 0))) (by first | exact (congrArg nI (show 1000 = _ by show 1000 = en 1000 (cF sz (cnW L) (cnM (np_lm law) L) (sz - (i + 1)) v); omega)) | rfl) ?_
                  refine vw_istore (lv9 := [_, _, _, _, _, _, _, _, _]) C dX12_findCoins_134 (by decide) rfl rfl ?_
                  refine vw_iinc (lv9 := [_, _, _, _, _, _, _, _, _]) C dX12_findCoins_136 rfl ic_1 (by decide) rfl rfl ?_
                  refine vv_goto (tgt := 84) C dX12_findCoins_139 (by decide) ?_
                  exact l4 ((cnM (np_lm law) L) i) 0 _ (Nat.zero_add _)
      refine vv_iload_n C dX12_findCoins_46 rfl ?_
      refine vv_if_lt (tgt := 169) C dX12_findCoins_47 (by decide) (fun q47 => ?_) (fun q47 => ?_)
      · exact absurd q47 (xn_neg (by omega))
      · refine vv_aload_n C dX12_findCoins_50 rfl ?_
        refine vv_iload_n C dX12_findCoins_51 rfl ?_
        refine vs_calli C dX12_findCoins_52 (c_X12_usable g S2 hfl t.2.1 law hl t.2.2 L (lg_M_fr hL t.1 (by decide) (by decide)) hi i (by omega)) mb_X12_usable mv_X12_usable lk_X12_184 ce_65 rfl rfl rfl rfl ⟨Nat.le_of_ble_eq_true rfl, Nat.le_of_ble_eq_true rfl, Nat.le_of_ble_eq_true rfl⟩ (fun r52 S52 p52 => ?_)
        obtain ⟨e52, u52⟩ := p52
        subst e52
        refine vw_istore_n (lv9 := [_, _, _, _, _, _, _, _, _]) C dX12_findCoins_55 (by decide) rfl rfl ?_
        refine vv_aload_n C dX12_findCoins_56 rfl ?_
        refine gf_X12_may C dX12_findCoins_57 fg_X12_9 ?_
        refine vv_bipush C dX12_findCoins_60 bp_64 ?_
        refine vv_iload_n C dX12_findCoins_62 rfl ?_
        refine vv_iadd C dX12_findCoins_63 ?_
        refine vs_eqi (v9 := nI (64 + i)) (nI_add 64 _) ?_
        refine ld_66 C dX12_findCoins_64 (xn_in (by omega) (by omega)) ?_
        refine vs_eqi (v9 := nI (cnW L i)) (by rw [xn_cl (by omega), u52.1.2.1 66 (by decide), t.1.2.1 66 (by decide), ← lg_HM hL]; exact (lg_inD hi (p := 64 + i) (by omega)).1) ?_
        refine vw_istore (lv9 := [_, _, _, _, _, _, _, _, _]) C dX12_findCoins_65 (by decide) rfl rfl ?_
        refine vv_iconst C dX12_findCoins_67 ic_0 ?_
        refine vw_istore (lv9 := [_, _, _, _, _, _, _, _, _]) C dX12_findCoins_68 (by decide) rfl rfl ?_
        exact l3 (n + 1) 0 _ _ _ S52 (by omega) (t.go u52) (pc_Rgo hR u52) (fun m hm => by omega)
  have l1 : ∀ (f v : Nat) (w3 w4 w5 w6 w7 w8 : Option Value) (S2 : vs_S), v + f = n + 1 → kj law S S2 → (∀ m, m < v → S2.2.1 75 (2001 * sz + m) = nI (en 1000 (if m = 0 then some 0 else none))) → vv_V g x 9 0 0 2 [some (vv_r g 65), some (.int (nI n)), some (.int (nI v)), w3, w4, w5, w6, w7, w8] [] (vs_cells g S2) := by
    intro f
    induction f with
    | zero =>
      intro v w3 w4 w5 w6 w7 w8 S2 h1 t hrow
      have hm : v = n + 1 := by omega
      subst hm
      refine vv_iload_n C dX12_findCoins_2 rfl ?_
      refine vv_iload_n C dX12_findCoins_3 rfl ?_
      refine vv_icmp_gt (tgt := 39) C dX12_findCoins_4 (by decide) (fun q4 => ?_) (fun q4 => ?_)
      · refine vv_aload_n C dX12_findCoins_39 rfl ?_
        refine gf_X12_coinMany C dX12_findCoins_40 fg_X12_174 ?_
        refine vs_eqi (v9 := nI sz) ((t.1.1 26 (by decide)).trans hz9) ?_
        refine vv_iconst C dX12_findCoins_43 ic_1 ?_
        refine vv_isub C dX12_findCoins_44 ?_
        refine vw_istore_n (lv9 := [_, _, _, _, _, _, _, _, _]) C dX12_findCoins_45 (by decide) rfl rfl ?_
        refine l2 sz _ _ _ _ _ _ S2 (Nat.le_refl _) t (fun j m hj hj2 hm => ?_)
        have e : j = sz := by omega
        subst e
        rw [Nat.sub_self]
        exact hrow m (by omega)
      · exact absurd ((xn_lt (by omega) (by omega)).mpr (Nat.lt_succ_self _)) q4
    | succ f ih =>
      intro v w3 w4 w5 w6 w7 w8 S2 h1 t hrow
      refine vv_iload_n C dX12_findCoins_2 rfl ?_
      refine vv_iload_n C dX12_findCoins_3 rfl ?_
      refine vv_icmp_gt (tgt := 39) C dX12_findCoins_4 (by decide) (fun q4 => ?_) (fun q4 => ?_)
      · exact absurd q4 (by rw [xn_lt (by omega) (by omega)]; omega)
      · refine vv_aload_n C dX12_findCoins_7 rfl ?_
        refine gf_X12_fewestCoins C dX12_findCoins_8 fg_X12_41 ?_
        refine vv_sipush C dX12_findCoins_11 sp_2001 ?_
        refine vv_aload_n C dX12_findCoins_14 rfl ?_
        refine gf_X12_coinMany C dX12_findCoins_15 fg_X12_174 ?_
        refine vs_eqi (v9 := nI sz) ((t.1.1 26 (by decide)).trans hz9) ?_
        refine vv_imul C dX12_findCoins_18 ?_
        refine vs_eqi (v9 := nI (2001 * sz)) (by rw [xn_lit, xn_mul]) ?_
        refine vv_iload_n C dX12_findCoins_19 rfl ?_
        refine vv_iadd C dX12_findCoins_20 ?_
        refine vs_eqi (v9 := nI (2001 * sz + v)) (nI_add _ _) ?_
        refine vv_iload_n C dX12_findCoins_21 rfl ?_
        refine vv_if_ne (tgt := 29) C dX12_findCoins_22 (by decide) (fun q22 => ?_) (fun q22 => ?_)
        · have hv : ¬ v = 0 := fun z => q22 (by rw [z]; rfl)
          refine vv_sipush C dX12_findCoins_29 sp_1000 ?_
          refine vs_eqi (v9 := nI (en 1000 (if v = 0 then some 0 else none))) (by first | (rw [if_pos hv]; rfl) | (rw [if_neg hv]; rfl)) ?_
          refine st_75 C dX12_findCoins_32 (xn_in (by omega) (by omega)) ?_
          refine vw_iinc (lv9 := [_, _, _, _, _, _, _, _, _]) C dX12_findCoins_33 rfl ic_1 (by decide) rfl rfl ?_
          refine vv_goto (tgt := 2) C dX12_findCoins_36 (by decide) ?_
          rw [nI_1]
          refine ih (v + 1) _ _ _ _ _ _ _ (by omega) (t.ua _) (fun m hm => ?_)
          rw [vs_ua2, if_pos rfl, xn_cl (by omega)]
          by_cases z : m = v
          · rw [z, upd_eq]
          · rw [upd_ne (by omega)]
            exact hrow m (by omega)
        · have hv : v = 0 := (xn_eq (b := 0) (by omega) (by omega)).mp q22
          refine vv_iconst C dX12_findCoins_25 ic_0 ?_
          refine vv_goto (tgt := 32) C dX12_findCoins_26 (by decide) ?_
          refine vs_eqi (v9 := nI (en 1000 (if v = 0 then some 0 else none))) (by first | (rw [if_pos hv]; rfl) | (rw [if_neg hv]; rfl)) ?_
          refine st_75 C dX12_findCoins_32 (xn_in (by omega) (by omega)) ?_
          refine vw_iinc (lv9 := [_, _, _, _, _, _, _, _, _]) C dX12_findCoins_33 rfl ic_1 (by decide) rfl rfl ?_
          refine vv_goto (tgt := 2) C dX12_findCoins_36 (by decide) ?_
          rw [nI_1]
          refine ih (v + 1) _ _ _ _ _ _ _ (by omega) (t.ua _) (fun m hm => ?_)
          rw [vs_ua2, if_pos rfl, xn_cl (by omega)]
          by_cases z : m = v
          · rw [z, upd_eq]
          · rw [upd_ne (by omega)]
            exact hrow m (by omega)
  refine vv_iconst C dX12_findCoins_0 ic_0 ?_
  refine vw_istore_n (lv9 := [_, _, _, _, _, _, _, _, _]) C dX12_findCoins_1 (by decide) rfl rfl ?_
  exact l1 (n + 1) 0 none none none none none none S (by omega) ⟨vs_fr.rf, hS, hs⟩ (fun m hm => by omega)
theorem cn_eq2 {sz j t q x : Nat} {W M : Nat → Nat} (hx : x < 1000) : t + en 1000 (cF sz W M (sz - (j + 1)) (q - t * W j)) = x ↔ (cF sz W M (sz - (j + 1)) (q - t * W j)).map (· + t) = some x := by
  rw [Nat.add_comm]
  exact en_eq hx
set_option maxRecDepth 20000 in
theorem c_X12_coins (g : vv_G) (S : vs_S) (hfl : vv_fl g = false) (hS : nm_ok S) (law : Nat) (hl : law ≤ 3) (hs : S.1 23 = nI law) (L : lg_L) (hL : lg_M S L) (hi : lg_in L) (sz : Nat) (hsz : sz ≤ 16) (hz9 : S.1 26 = nI sz) (n i : Int32) : vs_KI g yX12_coins cX12_coins 7 (some .int) 7 [vv_r g 65, .int n, .int i] S (fun r S1 => r = (if (vs_w n 0 2000 && vs_w i (-1) (nI sz - 1)) = true then cnv sz (cnW L) (cnM (np_lm law) L) n.toNatClampNeg i else -1) ∧ kj law S S1) := by
  refine vs_ofI (lv := [_, _, _, _, _, _, _]) mb_X12_coins (Nat.le_of_ble_eq_true rfl) rfl (fun x C F => ?_)
  refine vv_iload_n C dX12_coins_0 rfl ?_
  refine vv_i2l C dX12_coins_1 ?_
  refine vv_lconst C dX12_coins_2 lc_0 ?_
  refine vs_eql (v9 := (0 : Int32).toInt64) (by decide +kernel) ?_
  refine vv_ldc2 C dX12_coins_3 kc_X12_162 ?_
  refine vs_eql (v9 := (2000 : Int32).toInt64) (by decide +kernel) ?_
  refine vs_calsiF C dX12_coins_6 (c_X12_within g S _ _ _) mb_X12_within ms_X12_within lk_X12_123 rfl rfl ⟨Nat.le_of_ble_eq_true rfl, Nat.le_of_ble_eq_true rfl, Nat.le_of_ble_eq_true rfl⟩ ?_
  refine vv_if_eq (tgt := 25) C dX12_coins_9 (by decide) (fun q9 => ?_) (fun q9 => ?_)
  · have hw : ¬ (vs_w n 0 2000 && vs_w i (-1) (nI sz - 1)) = true := by rw [show vs_w n 0 2000 = false from vs_b0.mp q9, Bool.false_and]; decide
    refine vv_iconst C dX12_coins_25 ic_m1 ?_
    exact vs_iret C F dX12_coins_26 rfl ⟨by rw [if_neg hw], vs_fr.rf, hS, hs⟩
  · have w1 : vs_w n 0 2000 = true := vs_b1.mp q9
    obtain ⟨n1, _, hn2, en1⟩ := vs_wN (a := 0) (b := 2000) (by omega) (by omega) w1
    subst en1
    refine vv_iload_n C dX12_coins_12 rfl ?_
    refine vv_iconst C dX12_coins_13 ic_m1 ?_
    refine vv_icmp_eq (tgt := 27) C dX12_coins_14 (by decide) (fun q14 => ?_) (fun q14 => ?_)
    · have hw : (vs_w (nI n1) 0 2000 && vs_w i (-1) (nI sz - 1)) = true := by rw [w1, vs_w1 (sz_m1 hsz), decide_eq_true q14]; rfl
      have hb := en_b2 (sz := sz) (u := n1) (W := (cnW L)) (cnM_le (P := np_lm law) hi) hsz
      refine vv_aload_n C dX12_coins_27 rfl ?_
      refine vv_iload_n C dX12_coins_28 rfl ?_
      refine vs_callv C dX12_coins_29 (c_X12_findCoins g S hfl hS law hl hs L hL hi sz hsz hz9 n1 hn2) mb_X12_findCoins mv_X12_findCoins lk_X12_191 ce_65 rfl rfl rfl rfl ⟨Nat.le_of_ble_eq_true rfl, Nat.le_of_ble_eq_true rfl, Nat.le_of_ble_eq_true rfl⟩ (fun S29 p29 => ?_)
      obtain ⟨t, hR⟩ := p29
      refine vv_aload_n C dX12_coins_32 rfl ?_
      refine vv_iconst C dX12_coins_33 ic_0 ?_
      refine vv_iload_n C dX12_coins_34 rfl ?_
      refine vs_caliF C dX12_coins_35 (c_X12_fewestFrom g S29 (nI 0) (nI n1) (by rw [xn_lit, xn_mul, nI_add]; exact xn_in (by omega) (by omega))) mb_X12_fewestFrom mv_X12_fewestFrom lk_X12_188 ce_65 rfl rfl rfl rfl ⟨Nat.le_of_ble_eq_true rfl, Nat.le_of_ble_eq_true rfl, Nat.le_of_ble_eq_true rfl⟩ ?_
      refine vs_eqi (v9 := nI (en 1000 (cF sz (cnW L) (cnM (np_lm law) L) sz n1))) (by rw [xn_lit, xn_mul, nI_add, xn_cl (by omega)]; exact hR 0 n1 (Nat.le_refl _) (by omega) (Nat.le_refl _)) ?_
      refine vv_sipush C dX12_coins_38 sp_1000 ?_
      refine vv_icmp_lt (tgt := 47) C dX12_coins_41 (by decide) (fun q41 => ?_) (fun q41 => ?_)
      · obtain ⟨x0, ex⟩ := cn_some2 (by rw [xn_lit, xn_lt (by omega) (by omega)] at q41; exact q41)
        refine vv_iload_n C dX12_coins_47 rfl ?_
        refine vv_iconst C dX12_coins_48 ic_m1 ?_
        refine vv_icmp_ne (tgt := 59) C dX12_coins_49 (by decide) (fun q49 => ?_) (fun q49 => ?_)
        · obtain ⟨k1, hk1, ek1⟩ := cn_i hsz (by rw [vs_w1 (sz_m1 hsz), Bool.and_eq_true] at hw; rw [vs_w1 (sz_m1 hsz)]; exact hw.2) q49
          subst ek1
          have hM := cnM_le (P := np_lm law) hi
          have outer : ∀ (f c q x9 : Nat) (w4 : Int32) (w6 : Option Value) (S2 : vs_S), c + f = k1 → q ≤ n1 → cF sz (cnW L) (cnM (np_lm law) L) (sz - c) q = some x9 → kj law S S2 → pc_R sz (cnW L) (cnM (np_lm law) L) n1 0 S2 → ct sz (cnW L) (cnM (np_lm law) L) f c q = ct sz (cnW L) (cnM (np_lm law) L) k1 0 n1 → vv_V g x 7 0 0 67 [some (vv_r g 65), some (.int (nI n1)), some (.int (nI k1)), some (.int (nI q)), some (.int w4), some (.int (nI c)), w6] [] (vs_cells g S2) := by
            intro f
            induction f with
            | zero =>
              intro c q x9 w4 w6 S2 h1 hq hp t hR he
              have hc := cm_sp (show c < sz by omega) hp
              obtain ⟨y9, hy⟩ := cm_ne (show c < sz by omega) hp
              have hMc := hM c
              have hWc := cnW_le hi (i := c) (by omega)
              have hkw := pu_mul (a := cm sz (cnW L) (cnM (np_lm law) L) c q) (b := cnW L c) (by omega) hWc
              have hx9 := cF_le hM _ _ _ hp
              have ecm : cm sz (cnW L) (cnM (np_lm law) L) c q = mo (cF sz (cnW L) (cnM (np_lm law) L) (sz - (c + 1))) (cnW L c) q x9 ((cnM (np_lm law) L) c) := by
                show mo _ _ _ (en 0 (cF sz (cnW L) (cnM (np_lm law) L) (sz - c) q)) _ = _
                rw [hp]
                rfl
              have go : ∀ S3 : vs_S, kj law S S3 → pc_R sz (cnW L) (cnM (np_lm law) L) n1 0 S3 → ∀ (b : Nat), b ≤ (cnM (np_lm law) L) c → cm sz (cnW L) (cnM (np_lm law) L) c q = mo (cF sz (cnW L) (cnM (np_lm law) L) (sz - (c + 1))) (cnW L c) q x9 b → ∀ a, a = b → vv_V g x 7 0 0 93 [some (vv_r g 65), some (.int (nI n1)), some (.int (nI k1)), some (.int (nI q)), some (.int (nI a)), some (.int (nI c)), some (.int (nI (cnW L c)))] [] (vs_cells g S3) := by
                intro S3 t hR
                have fin : ∀ a, cm sz (cnW L) (cnM (np_lm law) L) c q = a → vv_V g x 7 0 0 136 [some (vv_r g 65), some (.int (nI n1)), some (.int (nI k1)), some (.int (nI q)), some (.int (nI a)), some (.int (nI c)), some (.int (nI (cnW L c)))] [] (vs_cells g S3) := by
                  intro a ea
                  subst ea
                  refine vv_iload_n C dX12_coins_136 rfl ?_
                  refine vv_iload C dX12_coins_137 rfl ?_
                  refine vv_iload C dX12_coins_139 rfl ?_
                  refine vv_imul C dX12_coins_141 ?_
                  refine vs_eqi (v9 := nI (cm sz (cnW L) (cnM (np_lm law) L) c q * cnW L c)) (xn_mul _ _) ?_
                  refine vv_isub C dX12_coins_142 ?_
                  refine vs_eqi (v9 := nI (q - cm sz (cnW L) (cnM (np_lm law) L) c q * cnW L c)) (xn_sub hc.2.1) ?_
                  refine vw_istore_n (lv9 := [_, _, _, _, _, _, _]) C dX12_coins_143 (by decide) rfl rfl ?_
                  refine vw_iinc (lv9 := [_, _, _, _, _, _, _]) C dX12_coins_144 rfl ic_1 (by decide) rfl rfl ?_
                  refine vv_goto (tgt := 67) C dX12_coins_147 (by decide) ?_
                  rw [nI_1]
                  have hk : c = k1 := by omega
                  subst hk
                  refine vv_iload C dX12_coins_67 rfl ?_
                  refine vv_iload_n C dX12_coins_69 rfl ?_
                  refine vv_icmp_gt (tgt := 150) C dX12_coins_70 (by decide) (fun q70 => ?_) (fun q70 => ?_)
                  · refine vv_iload C dX12_coins_150 rfl ?_
                    exact vs_iret C F dX12_coins_152 rfl ⟨by rw [if_pos hw, xn_cl (by omega)]; unfold cnv; rw [ex]; show _ = (if nI c = -1 then _ else _); rw [if_neg q49, xn_cl (by omega), ← he]; rfl, t⟩
                  · exact absurd ((xn_lt (by omega) (by omega)).mpr (Nat.lt_succ_self c)) q70
                have inner : ∀ (b : Nat), b ≤ (cnM (np_lm law) L) c → cm sz (cnW L) (cnM (np_lm law) L) c q = mo (cF sz (cnW L) (cnM (np_lm law) L) (sz - (c + 1))) (cnW L c) q x9 b → ∀ a, a = b → vv_V g x 7 0 0 93 [some (vv_r g 65), some (.int (nI n1)), some (.int (nI k1)), some (.int (nI q)), some (.int (nI a)), some (.int (nI c)), some (.int (nI (cnW L c)))] [] (vs_cells g S3) := by
                  intro b
                  induction b with
                  | zero =>
                    intro hb he a ea
                    subst ea
                    have hc0 : cm sz (cnW L) (cnM (np_lm law) L) c q = 0 := he
                    rw [hc0] at hc
                    have hb2 := en_b2 (sz := sz) (u := q - 0 * cnW L c) (W := (cnW L)) hM (show sz - (c + 1) ≤ 16 by omega)
                    have hmm := (cn_eq2 (j := c) (t := 0) (q := q) (x := x9) (sz := sz) (W := (cnW L)) (M := (cnM (np_lm law) L)) (by omega)).mpr hc.2.2
                    refine vv_iload C dX12_coins_93 rfl ?_
                    refine vv_iload C dX12_coins_95 rfl ?_
                    refine vv_imul C dX12_coins_97 ?_
                    refine vs_eqi (v9 := nI (0 * cnW L c)) (xn_mul 0 _) ?_
                    refine vv_iload_n C dX12_coins_98 rfl ?_
                    refine vv_icmp_gt (tgt := 130) C dX12_coins_99 (by decide) (fun q99 => ?_) (fun q99 => ?_)
                    · exact absurd q99 (by rw [xn_lt (by omega) (by omega)]; omega)
                    · refine vv_iload C dX12_coins_102 rfl ?_
                      refine vv_aload_n C dX12_coins_104 rfl ?_
                      refine vv_iload C dX12_coins_105 rfl ?_
                      refine vv_iconst C dX12_coins_107 ic_1 ?_
                      refine vv_iadd C dX12_coins_108 ?_
                      refine vs_eqi (v9 := nI (c + 1)) (nI_1 _) ?_
                      refine vv_iload_n C dX12_coins_109 rfl ?_
                      refine vv_iload C dX12_coins_110 rfl ?_
                      refine vv_iload C dX12_coins_112 rfl ?_
                      refine vv_imul C dX12_coins_114 ?_
                      refine vs_eqi (v9 := nI (0 * cnW L c)) (xn_mul 0 _) ?_
                      refine vv_isub C dX12_coins_115 ?_
                      refine vs_eqi (v9 := nI (q - 0 * cnW L c)) (xn_sub (by omega)) ?_
                      refine vs_caliF C dX12_coins_116 (c_X12_fewestFrom g S3 (nI (c + 1)) (nI (q - 0 * cnW L c)) (by rw [xn_lit, xn_mul, nI_add]; exact xn_in (by omega) (by omega))) mb_X12_fewestFrom mv_X12_fewestFrom lk_X12_188 ce_65 rfl rfl rfl rfl ⟨Nat.le_of_ble_eq_true rfl, Nat.le_of_ble_eq_true rfl, Nat.le_of_ble_eq_true rfl⟩ ?_
                      refine vs_eqi (v9 := nI (en 1000 (cF sz (cnW L) (cnM (np_lm law) L) (sz - (c + 1)) (q - 0 * cnW L c)))) (by rw [xn_lit, xn_mul, nI_add, xn_cl (by omega)]; exact hR (c + 1) _ (by omega) (by omega) (by omega)) ?_
                      refine vv_iadd C dX12_coins_119 ?_
                      refine vs_eqi (v9 := nI (0 + en 1000 (cF sz (cnW L) (cnM (np_lm law) L) (sz - (c + 1)) (q - 0 * cnW L c)))) (nI_add 0 _) ?_
                      refine vv_aload_n C dX12_coins_120 rfl ?_
                      refine vv_iload C dX12_coins_121 rfl ?_
                      refine vv_iload_n C dX12_coins_123 rfl ?_
                      refine vs_caliF C dX12_coins_124 (c_X12_fewestFrom g S3 (nI (c)) (nI (q)) (by rw [xn_lit, xn_mul, nI_add]; exact xn_in (by omega) (by omega))) mb_X12_fewestFrom mv_X12_fewestFrom lk_X12_188 ce_65 rfl rfl rfl rfl ⟨Nat.le_of_ble_eq_true rfl, Nat.le_of_ble_eq_true rfl, Nat.le_of_ble_eq_true rfl⟩ ?_
                      refine vs_eqi (v9 := nI x9) (by rw [xn_lit, xn_mul, nI_add, xn_cl (by omega), hR c q (by omega) (by omega) (by omega), hp]; rfl) ?_
                      refine vv_icmp_eq (tgt := 136) C dX12_coins_127 (by decide) (fun q127 => ?_) (fun q127 => ?_)
                      · exact fin 0 hc0
                      · exact absurd (by rw [xn_eq (by omega) (by omega)]; exact hmm) q127
                  | succ b ihb =>
                    intro hb he a ea
                    subst ea
                    rw [mo1] at he
                    have hkw := pu_mul (a := b + 1) (b := cnW L c) (by omega) (by omega)
                    have hb2 := en_b2 (sz := sz) (u := q - (b + 1) * cnW L c) (W := (cnW L)) hM (show sz - (c + 1) ≤ 16 by omega)
                    have hmm := cn_eq2 (j := c) (t := b + 1) (q := q) (x := x9) (sz := sz) (W := (cnW L)) (M := (cnM (np_lm law) L)) (by omega)
                    refine vv_iload C dX12_coins_93 rfl ?_
                    refine vv_iload C dX12_coins_95 rfl ?_
                    refine vv_imul C dX12_coins_97 ?_
                    refine vs_eqi (v9 := nI ((b + 1) * cnW L c)) (xn_mul _ _) ?_
                    refine vv_iload_n C dX12_coins_98 rfl ?_
                    refine vv_icmp_gt (tgt := 130) C dX12_coins_99 (by decide) (fun q99 => ?_) (fun q99 => ?_)
                    · have hz : ¬ ((b + 1) * cnW L c ≤ q ∧ (cF sz (cnW L) (cnM (np_lm law) L) (sz - (c + 1)) (q - (b + 1) * cnW L c)).map (· + (b + 1)) = some x9) := fun z => by rw [xn_lt (by omega) (by omega)] at q99; omega
                      rw [if_neg hz] at he
                      refine vw_iinc (lv9 := [_, _, _, _, _, _, _]) C dX12_coins_130 rfl ic_m1 (by decide) rfl rfl ?_
                      refine vv_goto (tgt := 93) C dX12_coins_133 (by decide) ?_
                      show vv_V g x 7 0 0 93 [_, _, _, _, some (.int (nI (b + 1) + -1)), _, _] _ _
                      rw [xm1, nI_pred]
                      exact ihb (by omega) he b rfl
                    · have hz1 : (b + 1) * cnW L c ≤ q := by rw [xn_lt (by omega) (by omega)] at q99; omega
                      refine vv_iload C dX12_coins_102 rfl ?_
                      refine vv_aload_n C dX12_coins_104 rfl ?_
                      refine vv_iload C dX12_coins_105 rfl ?_
                      refine vv_iconst C dX12_coins_107 ic_1 ?_
                      refine vv_iadd C dX12_coins_108 ?_
                      refine vs_eqi (v9 := nI (c + 1)) (nI_1 _) ?_
                      refine vv_iload_n C dX12_coins_109 rfl ?_
                      refine vv_iload C dX12_coins_110 rfl ?_
                      refine vv_iload C dX12_coins_112 rfl ?_
                      refine vv_imul C dX12_coins_114 ?_
                      refine vs_eqi (v9 := nI ((b + 1) * cnW L c)) (xn_mul _ _) ?_
                      refine vv_isub C dX12_coins_115 ?_
                      refine vs_eqi (v9 := nI (q - (b + 1) * cnW L c)) (xn_sub (by omega)) ?_
                      refine vs_caliF C dX12_coins_116 (c_X12_fewestFrom g S3 (nI (c + 1)) (nI (q - (b + 1) * cnW L c)) (by rw [xn_lit, xn_mul, nI_add]; exact xn_in (by omega) (by omega))) mb_X12_fewestFrom mv_X12_fewestFrom lk_X12_188 ce_65 rfl rfl rfl rfl ⟨Nat.le_of_ble_eq_true rfl, Nat.le_of_ble_eq_true rfl, Nat.le_of_ble_eq_true rfl⟩ ?_
                      refine vs_eqi (v9 := nI (en 1000 (cF sz (cnW L) (cnM (np_lm law) L) (sz - (c + 1)) (q - (b + 1) * cnW L c)))) (by rw [xn_lit, xn_mul, nI_add, xn_cl (by omega)]; exact hR (c + 1) _ (by omega) (by omega) (by omega)) ?_
                      refine vv_iadd C dX12_coins_119 ?_
                      refine vs_eqi (v9 := nI (b + 1 + en 1000 (cF sz (cnW L) (cnM (np_lm law) L) (sz - (c + 1)) (q - (b + 1) * cnW L c)))) (nI_add _ _) ?_
                      refine vv_aload_n C dX12_coins_120 rfl ?_
                      refine vv_iload C dX12_coins_121 rfl ?_
                      refine vv_iload_n C dX12_coins_123 rfl ?_
                      refine vs_caliF C dX12_coins_124 (c_X12_fewestFrom g S3 (nI (c)) (nI (q)) (by rw [xn_lit, xn_mul, nI_add]; exact xn_in (by omega) (by omega))) mb_X12_fewestFrom mv_X12_fewestFrom lk_X12_188 ce_65 rfl rfl rfl rfl ⟨Nat.le_of_ble_eq_true rfl, Nat.le_of_ble_eq_true rfl, Nat.le_of_ble_eq_true rfl⟩ ?_
                      refine vs_eqi (v9 := nI x9) (by rw [xn_lit, xn_mul, nI_add, xn_cl (by omega), hR c q (by omega) (by omega) (by omega), hp]; rfl) ?_
                      refine vv_icmp_eq (tgt := 136) C dX12_coins_127 (by decide) (fun q127 => ?_) (fun q127 => ?_)
                      · have hz : (b + 1) * cnW L c ≤ q ∧ (cF sz (cnW L) (cnM (np_lm law) L) (sz - (c + 1)) (q - (b + 1) * cnW L c)).map (· + (b + 1)) = some x9 := ⟨hz1, hmm.mp (by rw [xn_eq (by omega) (by omega)] at q127; exact q127)⟩
                        rw [if_pos hz] at he
                        exact fin _ he
                      · have hz : ¬ ((b + 1) * cnW L c ≤ q ∧ (cF sz (cnW L) (cnM (np_lm law) L) (sz - (c + 1)) (q - (b + 1) * cnW L c)).map (· + (b + 1)) = some x9) := fun z => q127 (by rw [xn_eq (by omega) (by omega)]; exact hmm.mpr z.2)
                        rw [if_neg hz] at he
                        refine vw_iinc (lv9 := [_, _, _, _, _, _, _]) C dX12_coins_130 rfl ic_m1 (by decide) rfl rfl ?_
                        refine vv_goto (tgt := 93) C dX12_coins_133 (by decide) ?_
                        show vv_V g x 7 0 0 93 [_, _, _, _, some (.int (nI (b + 1) + -1)), _, _] _ _
                        rw [xm1, nI_pred]
                        exact ihb (by omega) he b rfl
                exact inner
              refine vv_iload C dX12_coins_67 rfl ?_
              refine vv_iload_n C dX12_coins_69 rfl ?_
              refine vv_icmp_gt (tgt := 150) C dX12_coins_70 (by decide) (fun q70 => ?_) (fun q70 => ?_)
              · exact absurd q70 (by rw [xn_lt (by omega) (by omega)]; omega)
              · refine vv_aload_n C dX12_coins_73 rfl ?_
                refine gf_X12_may C dX12_coins_74 fg_X12_9 ?_
                refine vv_bipush C dX12_coins_77 bp_64 ?_
                refine vv_iload C dX12_coins_79 rfl ?_
                refine vv_iadd C dX12_coins_81 ?_
                refine vs_eqi (v9 := nI (64 + c)) (nI_add 64 _) ?_
                refine ld_66 C dX12_coins_82 (xn_in (by omega) (by omega)) ?_
                refine vs_eqi (v9 := nI (cnW L c)) (by rw [xn_cl (by omega), t.1.2.1 66 (by decide), ← lg_HM hL]; exact (lg_inD hi (p := 64 + c) (by omega)).1) ?_
                refine vw_istore (lv9 := [_, _, _, _, _, _, _]) C dX12_coins_83 (by decide) rfl rfl ?_
                refine vv_aload_n C dX12_coins_85 rfl ?_
                refine vv_iload C dX12_coins_86 rfl ?_
                refine vs_calli C dX12_coins_88 (c_X12_usable g S2 hfl t.2.1 law hl t.2.2 L (lg_M_fr hL t.1 (by decide) (by decide)) hi c (by omega)) mb_X12_usable mv_X12_usable lk_X12_184 ce_65 rfl rfl rfl rfl ⟨Nat.le_of_ble_eq_true rfl, Nat.le_of_ble_eq_true rfl, Nat.le_of_ble_eq_true rfl⟩ (fun r88 S88 p88 => ?_)
                obtain ⟨e88, u88⟩ := p88
                subst e88
                refine vw_istore (lv9 := [_, _, _, _, _, _, _]) C dX12_coins_91 (by decide) rfl rfl ?_
                exact go S88 (t.go u88) (pc_Rgo hR u88) ((cnM (np_lm law) L) c) (Nat.le_refl _) ecm _ rfl
            | succ f ih =>
              intro c q x9 w4 w6 S2 h1 hq hp t hR he
              have hc := cm_sp (show c < sz by omega) hp
              obtain ⟨y9, hy⟩ := cm_ne (show c < sz by omega) hp
              have hMc := hM c
              have hWc := cnW_le hi (i := c) (by omega)
              have hkw := pu_mul (a := cm sz (cnW L) (cnM (np_lm law) L) c q) (b := cnW L c) (by omega) hWc
              have hx9 := cF_le hM _ _ _ hp
              have ecm : cm sz (cnW L) (cnM (np_lm law) L) c q = mo (cF sz (cnW L) (cnM (np_lm law) L) (sz - (c + 1))) (cnW L c) q x9 ((cnM (np_lm law) L) c) := by
                show mo _ _ _ (en 0 (cF sz (cnW L) (cnM (np_lm law) L) (sz - c) q)) _ = _
                rw [hp]
                rfl
              have go : ∀ S3 : vs_S, kj law S S3 → pc_R sz (cnW L) (cnM (np_lm law) L) n1 0 S3 → ∀ (b : Nat), b ≤ (cnM (np_lm law) L) c → cm sz (cnW L) (cnM (np_lm law) L) c q = mo (cF sz (cnW L) (cnM (np_lm law) L) (sz - (c + 1))) (cnW L c) q x9 b → ∀ a, a = b → vv_V g x 7 0 0 93 [some (vv_r g 65), some (.int (nI n1)), some (.int (nI k1)), some (.int (nI q)), some (.int (nI a)), some (.int (nI c)), some (.int (nI (cnW L c)))] [] (vs_cells g S3) := by
                intro S3 t hR
                have fin : ∀ a, cm sz (cnW L) (cnM (np_lm law) L) c q = a → vv_V g x 7 0 0 136 [some (vv_r g 65), some (.int (nI n1)), some (.int (nI k1)), some (.int (nI q)), some (.int (nI a)), some (.int (nI c)), some (.int (nI (cnW L c)))] [] (vs_cells g S3) := by
                  intro a ea
                  subst ea
                  refine vv_iload_n C dX12_coins_136 rfl ?_
                  refine vv_iload C dX12_coins_137 rfl ?_
                  refine vv_iload C dX12_coins_139 rfl ?_
                  refine vv_imul C dX12_coins_141 ?_
                  refine vs_eqi (v9 := nI (cm sz (cnW L) (cnM (np_lm law) L) c q * cnW L c)) (xn_mul _ _) ?_
                  refine vv_isub C dX12_coins_142 ?_
                  refine vs_eqi (v9 := nI (q - cm sz (cnW L) (cnM (np_lm law) L) c q * cnW L c)) (xn_sub hc.2.1) ?_
                  refine vw_istore_n (lv9 := [_, _, _, _, _, _, _]) C dX12_coins_143 (by decide) rfl rfl ?_
                  refine vw_iinc (lv9 := [_, _, _, _, _, _, _]) C dX12_coins_144 rfl ic_1 (by decide) rfl rfl ?_
                  refine vv_goto (tgt := 67) C dX12_coins_147 (by decide) ?_
                  rw [nI_1]
                  exact ih (c + 1) _ y9 _ _ S3 (by omega) (by omega) hy t hR he
                have inner : ∀ (b : Nat), b ≤ (cnM (np_lm law) L) c → cm sz (cnW L) (cnM (np_lm law) L) c q = mo (cF sz (cnW L) (cnM (np_lm law) L) (sz - (c + 1))) (cnW L c) q x9 b → ∀ a, a = b → vv_V g x 7 0 0 93 [some (vv_r g 65), some (.int (nI n1)), some (.int (nI k1)), some (.int (nI q)), some (.int (nI a)), some (.int (nI c)), some (.int (nI (cnW L c)))] [] (vs_cells g S3) := by
                  intro b
                  induction b with
                  | zero =>
                    intro hb he a ea
                    subst ea
                    have hc0 : cm sz (cnW L) (cnM (np_lm law) L) c q = 0 := he
                    rw [hc0] at hc
                    have hb2 := en_b2 (sz := sz) (u := q - 0 * cnW L c) (W := (cnW L)) hM (show sz - (c + 1) ≤ 16 by omega)
                    have hmm := (cn_eq2 (j := c) (t := 0) (q := q) (x := x9) (sz := sz) (W := (cnW L)) (M := (cnM (np_lm law) L)) (by omega)).mpr hc.2.2
                    refine vv_iload C dX12_coins_93 rfl ?_
                    refine vv_iload C dX12_coins_95 rfl ?_
                    refine vv_imul C dX12_coins_97 ?_
                    refine vs_eqi (v9 := nI (0 * cnW L c)) (xn_mul 0 _) ?_
                    refine vv_iload_n C dX12_coins_98 rfl ?_
                    refine vv_icmp_gt (tgt := 130) C dX12_coins_99 (by decide) (fun q99 => ?_) (fun q99 => ?_)
                    · exact absurd q99 (by rw [xn_lt (by omega) (by omega)]; omega)
                    · refine vv_iload C dX12_coins_102 rfl ?_
                      refine vv_aload_n C dX12_coins_104 rfl ?_
                      refine vv_iload C dX12_coins_105 rfl ?_
                      refine vv_iconst C dX12_coins_107 ic_1 ?_
                      refine vv_iadd C dX12_coins_108 ?_
                      refine vs_eqi (v9 := nI (c + 1)) (nI_1 _) ?_
                      refine vv_iload_n C dX12_coins_109 rfl ?_
                      refine vv_iload C dX12_coins_110 rfl ?_
                      refine vv_iload C dX12_coins_112 rfl ?_
                      refine vv_imul C dX12_coins_114 ?_
                      refine vs_eqi (v9 := nI (0 * cnW L c)) (xn_mul 0 _) ?_
                      refine vv_isub C dX12_coins_115 ?_
                      refine vs_eqi (v9 := nI (q - 0 * cnW L c)) (xn_sub (by omega)) ?_
                      refine vs_caliF C dX12_coins_116 (c_X12_fewestFrom g S3 (nI (c + 1)) (nI (q - 0 * cnW L c)) (by rw [xn_lit, xn_mul, nI_add]; exact xn_in (by omega) (by omega))) mb_X12_fewestFrom mv_X12_fewestFrom lk_X12_188 ce_65 rfl rfl rfl rfl ⟨Nat.le_of_ble_eq_true rfl, Nat.le_of_ble_eq_true rfl, Nat.le_of_ble_eq_true rfl⟩ ?_
                      refine vs_eqi (v9 := nI (en 1000 (cF sz (cnW L) (cnM (np_lm law) L) (sz - (c + 1)) (q - 0 * cnW L c)))) (by rw [xn_lit, xn_mul, nI_add, xn_cl (by omega)]; exact hR (c + 1) _ (by omega) (by omega) (by omega)) ?_
                      refine vv_iadd C dX12_coins_119 ?_
                      refine vs_eqi (v9 := nI (0 + en 1000 (cF sz (cnW L) (cnM (np_lm law) L) (sz - (c + 1)) (q - 0 * cnW L c)))) (nI_add 0 _) ?_
                      refine vv_aload_n C dX12_coins_120 rfl ?_
                      refine vv_iload C dX12_coins_121 rfl ?_
                      refine vv_iload_n C dX12_coins_123 rfl ?_
                      refine vs_caliF C dX12_coins_124 (c_X12_fewestFrom g S3 (nI (c)) (nI (q)) (by rw [xn_lit, xn_mul, nI_add]; exact xn_in (by omega) (by omega))) mb_X12_fewestFrom mv_X12_fewestFrom lk_X12_188 ce_65 rfl rfl rfl rfl ⟨Nat.le_of_ble_eq_true rfl, Nat.le_of_ble_eq_true rfl, Nat.le_of_ble_eq_true rfl⟩ ?_
                      refine vs_eqi (v9 := nI x9) (by rw [xn_lit, xn_mul, nI_add, xn_cl (by omega), hR c q (by omega) (by omega) (by omega), hp]; rfl) ?_
                      refine vv_icmp_eq (tgt := 136) C dX12_coins_127 (by decide) (fun q127 => ?_) (fun q127 => ?_)
                      · exact fin 0 hc0
                      · exact absurd (by rw [xn_eq (by omega) (by omega)]; exact hmm) q127
                  | succ b ihb =>
                    intro hb he a ea
                    subst ea
                    rw [mo1] at he
                    have hkw := pu_mul (a := b + 1) (b := cnW L c) (by omega) (by omega)
                    have hb2 := en_b2 (sz := sz) (u := q - (b + 1) * cnW L c) (W := (cnW L)) hM (show sz - (c + 1) ≤ 16 by omega)
                    have hmm := cn_eq2 (j := c) (t := b + 1) (q := q) (x := x9) (sz := sz) (W := (cnW L)) (M := (cnM (np_lm law) L)) (by omega)
                    refine vv_iload C dX12_coins_93 rfl ?_
                    refine vv_iload C dX12_coins_95 rfl ?_
                    refine vv_imul C dX12_coins_97 ?_
                    refine vs_eqi (v9 := nI ((b + 1) * cnW L c)) (xn_mul _ _) ?_
                    refine vv_iload_n C dX12_coins_98 rfl ?_
                    refine vv_icmp_gt (tgt := 130) C dX12_coins_99 (by decide) (fun q99 => ?_) (fun q99 => ?_)
                    · have hz : ¬ ((b + 1) * cnW L c ≤ q ∧ (cF sz (cnW L) (cnM (np_lm law) L) (sz - (c + 1)) (q - (b + 1) * cnW L c)).map (· + (b + 1)) = some x9) := fun z => by rw [xn_lt (by omega) (by omega)] at q99; omega
                      rw [if_neg hz] at he
                      refine vw_iinc (lv9 := [_, _, _, _, _, _, _]) C dX12_coins_130 rfl ic_m1 (by decide) rfl rfl ?_
                      refine vv_goto (tgt := 93) C dX12_coins_133 (by decide) ?_
                      show vv_V g x 7 0 0 93 [_, _, _, _, some (.int (nI (b + 1) + -1)), _, _] _ _
                      rw [xm1, nI_pred]
                      exact ihb (by omega) he b rfl
                    · have hz1 : (b + 1) * cnW L c ≤ q := by rw [xn_lt (by omega) (by omega)] at q99; omega
                      refine vv_iload C dX12_coins_102 rfl ?_
                      refine vv_aload_n C dX12_coins_104 rfl ?_
                      refine vv_iload C dX12_coins_105 rfl ?_
                      refine vv_iconst C dX12_coins_107 ic_1 ?_
                      refine vv_iadd C dX12_coins_108 ?_
                      refine vs_eqi (v9 := nI (c + 1)) (nI_1 _) ?_
                      refine vv_iload_n C dX12_coins_109 rfl ?_
                      refine vv_iload C dX12_coins_110 rfl ?_
                      refine vv_iload C dX12_coins_112 rfl ?_
                      refine vv_imul C dX12_coins_114 ?_
                      refine vs_eqi (v9 := nI ((b + 1) * cnW L c)) (xn_mul _ _) ?_
                      refine vv_isub C dX12_coins_115 ?_
                      refine vs_eqi (v9 := nI (q - (b + 1) * cnW L c)) (xn_sub (by omega)) ?_
                      refine vs_caliF C dX12_coins_116 (c_X12_fewestFrom g S3 (nI (c + 1)) (nI (q - (b + 1) * cnW L c)) (by rw [xn_lit, xn_mul, nI_add]; exact xn_in (by omega) (by omega))) mb_X12_fewestFrom mv_X12_fewestFrom lk_X12_188 ce_65 rfl rfl rfl rfl ⟨Nat.le_of_ble_eq_true rfl, Nat.le_of_ble_eq_true rfl, Nat.le_of_ble_eq_true rfl⟩ ?_
                      refine vs_eqi (v9 := nI (en 1000 (cF sz (cnW L) (cnM (np_lm law) L) (sz - (c + 1)) (q - (b + 1) * cnW L c)))) (by rw [xn_lit, xn_mul, nI_add, xn_cl (by omega)]; exact hR (c + 1) _ (by omega) (by omega) (by omega)) ?_
                      refine vv_iadd C dX12_coins_119 ?_
                      refine vs_eqi (v9 := nI (b + 1 + en 1000 (cF sz (cnW L) (cnM (np_lm law) L) (sz - (c + 1)) (q - (b + 1) * cnW L c)))) (nI_add _ _) ?_
                      refine vv_aload_n C dX12_coins_120 rfl ?_
                      refine vv_iload C dX12_coins_121 rfl ?_
                      refine vv_iload_n C dX12_coins_123 rfl ?_
                      refine vs_caliF C dX12_coins_124 (c_X12_fewestFrom g S3 (nI (c)) (nI (q)) (by rw [xn_lit, xn_mul, nI_add]; exact xn_in (by omega) (by omega))) mb_X12_fewestFrom mv_X12_fewestFrom lk_X12_188 ce_65 rfl rfl rfl rfl ⟨Nat.le_of_ble_eq_true rfl, Nat.le_of_ble_eq_true rfl, Nat.le_of_ble_eq_true rfl⟩ ?_
                      refine vs_eqi (v9 := nI x9) (by rw [xn_lit, xn_mul, nI_add, xn_cl (by omega), hR c q (by omega) (by omega) (by omega), hp]; rfl) ?_
                      refine vv_icmp_eq (tgt := 136) C dX12_coins_127 (by decide) (fun q127 => ?_) (fun q127 => ?_)
                      · have hz : (b + 1) * cnW L c ≤ q ∧ (cF sz (cnW L) (cnM (np_lm law) L) (sz - (c + 1)) (q - (b + 1) * cnW L c)).map (· + (b + 1)) = some x9 := ⟨hz1, hmm.mp (by rw [xn_eq (by omega) (by omega)] at q127; exact q127)⟩
                        rw [if_pos hz] at he
                        exact fin _ he
                      · have hz : ¬ ((b + 1) * cnW L c ≤ q ∧ (cF sz (cnW L) (cnM (np_lm law) L) (sz - (c + 1)) (q - (b + 1) * cnW L c)).map (· + (b + 1)) = some x9) := fun z => q127 (by rw [xn_eq (by omega) (by omega)]; exact hmm.mpr z.2)
                        rw [if_neg hz] at he
                        refine vw_iinc (lv9 := [_, _, _, _, _, _, _]) C dX12_coins_130 rfl ic_m1 (by decide) rfl rfl ?_
                        refine vv_goto (tgt := 93) C dX12_coins_133 (by decide) ?_
                        show vv_V g x 7 0 0 93 [_, _, _, _, some (.int (nI (b + 1) + -1)), _, _] _ _
                        rw [xm1, nI_pred]
                        exact ihb (by omega) he b rfl
                exact inner
              refine vv_iload C dX12_coins_67 rfl ?_
              refine vv_iload_n C dX12_coins_69 rfl ?_
              refine vv_icmp_gt (tgt := 150) C dX12_coins_70 (by decide) (fun q70 => ?_) (fun q70 => ?_)
              · exact absurd q70 (by rw [xn_lt (by omega) (by omega)]; omega)
              · refine vv_aload_n C dX12_coins_73 rfl ?_
                refine gf_X12_may C dX12_coins_74 fg_X12_9 ?_
                refine vv_bipush C dX12_coins_77 bp_64 ?_
                refine vv_iload C dX12_coins_79 rfl ?_
                refine vv_iadd C dX12_coins_81 ?_
                refine vs_eqi (v9 := nI (64 + c)) (nI_add 64 _) ?_
                refine ld_66 C dX12_coins_82 (xn_in (by omega) (by omega)) ?_
                refine vs_eqi (v9 := nI (cnW L c)) (by rw [xn_cl (by omega), t.1.2.1 66 (by decide), ← lg_HM hL]; exact (lg_inD hi (p := 64 + c) (by omega)).1) ?_
                refine vw_istore (lv9 := [_, _, _, _, _, _, _]) C dX12_coins_83 (by decide) rfl rfl ?_
                refine vv_aload_n C dX12_coins_85 rfl ?_
                refine vv_iload C dX12_coins_86 rfl ?_
                refine vs_calli C dX12_coins_88 (c_X12_usable g S2 hfl t.2.1 law hl t.2.2 L (lg_M_fr hL t.1 (by decide) (by decide)) hi c (by omega)) mb_X12_usable mv_X12_usable lk_X12_184 ce_65 rfl rfl rfl rfl ⟨Nat.le_of_ble_eq_true rfl, Nat.le_of_ble_eq_true rfl, Nat.le_of_ble_eq_true rfl⟩ (fun r88 S88 p88 => ?_)
                obtain ⟨e88, u88⟩ := p88
                subst e88
                refine vw_istore (lv9 := [_, _, _, _, _, _, _]) C dX12_coins_91 (by decide) rfl rfl ?_
                exact go S88 (t.go u88) (pc_Rgo hR u88) ((cnM (np_lm law) L) c) (Nat.le_refl _) ecm _ rfl
          refine vv_iload_n C dX12_coins_59 rfl ?_
          refine vw_istore_n (lv9 := [_, _, _, _, _, _, _]) C dX12_coins_60 (by decide) rfl rfl ?_
          refine vv_iconst C dX12_coins_61 ic_0 ?_
          refine vw_istore (lv9 := [_, _, _, _, _, _, _]) C dX12_coins_62 (by decide) rfl rfl ?_
          refine vv_iconst C dX12_coins_64 ic_0 ?_
          refine vw_istore (lv9 := [_, _, _, _, _, _, _]) C dX12_coins_65 (by decide) rfl rfl ?_
          exact outer k1 0 n1 x0 0 _ S29 (Nat.zero_add _) (Nat.le_refl _) ex t hR rfl
        · refine vv_aload_n C dX12_coins_52 rfl ?_
          refine vv_iconst C dX12_coins_53 ic_0 ?_
          refine vv_iload_n C dX12_coins_54 rfl ?_
          refine vs_caliF C dX12_coins_55 (c_X12_fewestFrom g S29 (nI 0) (nI n1) (by rw [xn_lit, xn_mul, nI_add]; exact xn_in (by omega) (by omega))) mb_X12_fewestFrom mv_X12_fewestFrom lk_X12_188 ce_65 rfl rfl rfl rfl ⟨Nat.le_of_ble_eq_true rfl, Nat.le_of_ble_eq_true rfl, Nat.le_of_ble_eq_true rfl⟩ ?_
          refine vs_eqi (v9 := nI (en 1000 (cF sz (cnW L) (cnM (np_lm law) L) sz n1))) (by rw [xn_lit, xn_mul, nI_add, xn_cl (by omega)]; exact hR 0 n1 (Nat.le_refl _) (by omega) (Nat.le_refl _)) ?_
          exact vs_iret C F dX12_coins_58 rfl ⟨by rw [if_pos hw, xn_cl (by omega)]; unfold cnv; rw [ex]; exact (if_pos q49).symm, t⟩
      · have ex : cF sz (cnW L) (cnM (np_lm law) L) sz n1 = none := cn_none2 (cnM_le hi) hsz (by rw [xn_lit, xn_lt (by omega) (by omega)] at q41; exact q41)
        refine vv_bipush C dX12_coins_44 bp_m2 ?_
        exact vs_iret C F dX12_coins_46 rfl ⟨by rw [if_pos hw, xn_cl (by omega)]; unfold cnv; rw [ex], t⟩
    · refine vv_aload_n C dX12_coins_17 rfl ?_
      refine vv_iload_n C dX12_coins_18 rfl ?_
      refine vs_caliF C dX12_coins_19 (c_X12_isCoin g S _) mb_X12_isCoin mv_X12_isCoin lk_X12_177 ce_65 rfl rfl rfl rfl ⟨Nat.le_of_ble_eq_true rfl, Nat.le_of_ble_eq_true rfl, Nat.le_of_ble_eq_true rfl⟩ ?_
      refine vv_if_ne (tgt := 27) C dX12_coins_22 (by decide) (fun q22 => ?_) (fun q22 => ?_)
      · have w2 : vs_w i 0 (nI sz - 1) = true := by rw [← hz9]; exact vs_b1.mp q22
        have hw : (vs_w (nI n1) 0 2000 && vs_w i (-1) (nI sz - 1)) = true := by rw [w1, vs_w1 (sz_m1 hsz), w2, Bool.or_true]; rfl
        have hb := en_b2 (sz := sz) (u := n1) (W := (cnW L)) (cnM_le (P := np_lm law) hi) hsz
        refine vv_aload_n C dX12_coins_27 rfl ?_
        refine vv_iload_n C dX12_coins_28 rfl ?_
        refine vs_callv C dX12_coins_29 (c_X12_findCoins g S hfl hS law hl hs L hL hi sz hsz hz9 n1 hn2) mb_X12_findCoins mv_X12_findCoins lk_X12_191 ce_65 rfl rfl rfl rfl ⟨Nat.le_of_ble_eq_true rfl, Nat.le_of_ble_eq_true rfl, Nat.le_of_ble_eq_true rfl⟩ (fun S29 p29 => ?_)
        obtain ⟨t, hR⟩ := p29
        refine vv_aload_n C dX12_coins_32 rfl ?_
        refine vv_iconst C dX12_coins_33 ic_0 ?_
        refine vv_iload_n C dX12_coins_34 rfl ?_
        refine vs_caliF C dX12_coins_35 (c_X12_fewestFrom g S29 (nI 0) (nI n1) (by rw [xn_lit, xn_mul, nI_add]; exact xn_in (by omega) (by omega))) mb_X12_fewestFrom mv_X12_fewestFrom lk_X12_188 ce_65 rfl rfl rfl rfl ⟨Nat.le_of_ble_eq_true rfl, Nat.le_of_ble_eq_true rfl, Nat.le_of_ble_eq_true rfl⟩ ?_
        refine vs_eqi (v9 := nI (en 1000 (cF sz (cnW L) (cnM (np_lm law) L) sz n1))) (by rw [xn_lit, xn_mul, nI_add, xn_cl (by omega)]; exact hR 0 n1 (Nat.le_refl _) (by omega) (Nat.le_refl _)) ?_
        refine vv_sipush C dX12_coins_38 sp_1000 ?_
        refine vv_icmp_lt (tgt := 47) C dX12_coins_41 (by decide) (fun q41 => ?_) (fun q41 => ?_)
        · obtain ⟨x0, ex⟩ := cn_some2 (by rw [xn_lit, xn_lt (by omega) (by omega)] at q41; exact q41)
          refine vv_iload_n C dX12_coins_47 rfl ?_
          refine vv_iconst C dX12_coins_48 ic_m1 ?_
          refine vv_icmp_ne (tgt := 59) C dX12_coins_49 (by decide) (fun q49 => ?_) (fun q49 => ?_)
          · obtain ⟨k1, hk1, ek1⟩ := cn_i hsz (by rw [vs_w1 (sz_m1 hsz), Bool.and_eq_true] at hw; rw [vs_w1 (sz_m1 hsz)]; exact hw.2) q49
            subst ek1
            have hM := cnM_le (P := np_lm law) hi
            have outer : ∀ (f c q x9 : Nat) (w4 : Int32) (w6 : Option Value) (S2 : vs_S), c + f = k1 → q ≤ n1 → cF sz (cnW L) (cnM (np_lm law) L) (sz - c) q = some x9 → kj law S S2 → pc_R sz (cnW L) (cnM (np_lm law) L) n1 0 S2 → ct sz (cnW L) (cnM (np_lm law) L) f c q = ct sz (cnW L) (cnM (np_lm law) L) k1 0 n1 → vv_V g x 7 0 0 67 [some (vv_r g 65), some (.int (nI n1)), some (.int (nI k1)), some (.int (nI q)), some (.int w4), some (.int (nI c)), w6] [] (vs_cells g S2) := by
              intro f
              induction f with
              | zero =>
                intro c q x9 w4 w6 S2 h1 hq hp t hR he
                have hc := cm_sp (show c < sz by omega) hp
                obtain ⟨y9, hy⟩ := cm_ne (show c < sz by omega) hp
                have hMc := hM c
                have hWc := cnW_le hi (i := c) (by omega)
                have hkw := pu_mul (a := cm sz (cnW L) (cnM (np_lm law) L) c q) (b := cnW L c) (by omega) hWc
                have hx9 := cF_le hM _ _ _ hp
                have ecm : cm sz (cnW L) (cnM (np_lm law) L) c q = mo (cF sz (cnW L) (cnM (np_lm law) L) (sz - (c + 1))) (cnW L c) q x9 ((cnM (np_lm law) L) c) := by
                  show mo _ _ _ (en 0 (cF sz (cnW L) (cnM (np_lm law) L) (sz - c) q)) _ = _
                  rw [hp]
                  rfl
                have go : ∀ S3 : vs_S, kj law S S3 → pc_R sz (cnW L) (cnM (np_lm law) L) n1 0 S3 → ∀ (b : Nat), b ≤ (cnM (np_lm law) L) c → cm sz (cnW L) (cnM (np_lm law) L) c q = mo (cF sz (cnW L) (cnM (np_lm law) L) (sz - (c + 1))) (cnW L c) q x9 b → ∀ a, a = b → vv_V g x 7 0 0 93 [some (vv_r g 65), some (.int (nI n1)), some (.int (nI k1)), some (.int (nI q)), some (.int (nI a)), some (.int (nI c)), some (.int (nI (cnW L c)))] [] (vs_cells g S3) := by
                  intro S3 t hR
                  have fin : ∀ a, cm sz (cnW L) (cnM (np_lm law) L) c q = a → vv_V g x 7 0 0 136 [some (vv_r g 65), some (.int (nI n1)), some (.int (nI k1)), some (.int (nI q)), some (.int (nI a)), some (.int (nI c)), some (.int (nI (cnW L c)))] [] (vs_cells g S3) := by
                    intro a ea
                    subst ea
                    refine vv_iload_n C dX12_coins_136 rfl ?_
                    refine vv_iload C dX12_coins_137 rfl ?_
                    refine vv_iload C dX12_coins_139 rfl ?_
                    refine vv_imul C dX12_coins_141 ?_
                    refine vs_eqi (v9 := nI (cm sz (cnW L) (cnM (np_lm law) L) c q * cnW L c)) (xn_mul _ _) ?_
                    refine vv_isub C dX12_coins_142 ?_
                    refine vs_eqi (v9 := nI (q - cm sz (cnW L) (cnM (np_lm law) L) c q * cnW L c)) (xn_sub hc.2.1) ?_
                    refine vw_istore_n (lv9 := [_, _, _, _, _, _, _]) C dX12_coins_143 (by decide) rfl rfl ?_
                    refine vw_iinc (lv9 := [_, _, _, _, _, _, _]) C dX12_coins_144 rfl ic_1 (by decide) rfl rfl ?_
                    refine vv_goto (tgt := 67) C dX12_coins_147 (by decide) ?_
                    rw [nI_1]
                    have hk : c = k1 := by omega
                    subst hk
                    refine vv_iload C dX12_coins_67 rfl ?_
                    refine vv_iload_n C dX12_coins_69 rfl ?_
                    refine vv_icmp_gt (tgt := 150) C dX12_coins_70 (by decide) (fun q70 => ?_) (fun q70 => ?_)
                    · refine vv_iload C dX12_coins_150 rfl ?_
                      exact vs_iret C F dX12_coins_152 rfl ⟨by rw [if_pos hw, xn_cl (by omega)]; unfold cnv; rw [ex]; show _ = (if nI c = -1 then _ else _); rw [if_neg q49, xn_cl (by omega), ← he]; rfl, t⟩
                    · exact absurd ((xn_lt (by omega) (by omega)).mpr (Nat.lt_succ_self c)) q70
                  have inner : ∀ (b : Nat), b ≤ (cnM (np_lm law) L) c → cm sz (cnW L) (cnM (np_lm law) L) c q = mo (cF sz (cnW L) (cnM (np_lm law) L) (sz - (c + 1))) (cnW L c) q x9 b → ∀ a, a = b → vv_V g x 7 0 0 93 [some (vv_r g 65), some (.int (nI n1)), some (.int (nI k1)), some (.int (nI q)), some (.int (nI a)), some (.int (nI c)), some (.int (nI (cnW L c)))] [] (vs_cells g S3) := by
                    intro b
                    induction b with
                    | zero =>
                      intro hb he a ea
                      subst ea
                      have hc0 : cm sz (cnW L) (cnM (np_lm law) L) c q = 0 := he
                      rw [hc0] at hc
                      have hb2 := en_b2 (sz := sz) (u := q - 0 * cnW L c) (W := (cnW L)) hM (show sz - (c + 1) ≤ 16 by omega)
                      have hmm := (cn_eq2 (j := c) (t := 0) (q := q) (x := x9) (sz := sz) (W := (cnW L)) (M := (cnM (np_lm law) L)) (by omega)).mpr hc.2.2
                      refine vv_iload C dX12_coins_93 rfl ?_
                      refine vv_iload C dX12_coins_95 rfl ?_
                      refine vv_imul C dX12_coins_97 ?_
                      refine vs_eqi (v9 := nI (0 * cnW L c)) (xn_mul 0 _) ?_
                      refine vv_iload_n C dX12_coins_98 rfl ?_
                      refine vv_icmp_gt (tgt := 130) C dX12_coins_99 (by decide) (fun q99 => ?_) (fun q99 => ?_)
                      · exact absurd q99 (by rw [xn_lt (by omega) (by omega)]; omega)
                      · refine vv_iload C dX12_coins_102 rfl ?_
                        refine vv_aload_n C dX12_coins_104 rfl ?_
                        refine vv_iload C dX12_coins_105 rfl ?_
                        refine vv_iconst C dX12_coins_107 ic_1 ?_
                        refine vv_iadd C dX12_coins_108 ?_
                        refine vs_eqi (v9 := nI (c + 1)) (nI_1 _) ?_
                        refine vv_iload_n C dX12_coins_109 rfl ?_
                        refine vv_iload C dX12_coins_110 rfl ?_
                        refine vv_iload C dX12_coins_112 rfl ?_
                        refine vv_imul C dX12_coins_114 ?_
                        refine vs_eqi (v9 := nI (0 * cnW L c)) (xn_mul 0 _) ?_
                        refine vv_isub C dX12_coins_115 ?_
                        refine vs_eqi (v9 := nI (q - 0 * cnW L c)) (xn_sub (by omega)) ?_
                        refine vs_caliF C dX12_coins_116 (c_X12_fewestFrom g S3 (nI (c + 1)) (nI (q - 0 * cnW L c)) (by rw [xn_lit, xn_mul, nI_add]; exact xn_in (by omega) (by omega))) mb_X12_fewestFrom mv_X12_fewestFrom lk_X12_188 ce_65 rfl rfl rfl rfl ⟨Nat.le_of_ble_eq_true rfl, Nat.le_of_ble_eq_true rfl, Nat.le_of_ble_eq_true rfl⟩ ?_
                        refine vs_eqi (v9 := nI (en 1000 (cF sz (cnW L) (cnM (np_lm law) L) (sz - (c + 1)) (q - 0 * cnW L c)))) (by rw [xn_lit, xn_mul, nI_add, xn_cl (by omega)]; exact hR (c + 1) _ (by omega) (by omega) (by omega)) ?_
                        refine vv_iadd C dX12_coins_119 ?_
                        refine vs_eqi (v9 := nI (0 + en 1000 (cF sz (cnW L) (cnM (np_lm law) L) (sz - (c + 1)) (q - 0 * cnW L c)))) (nI_add 0 _) ?_
                        refine vv_aload_n C dX12_coins_120 rfl ?_
                        refine vv_iload C dX12_coins_121 rfl ?_
                        refine vv_iload_n C dX12_coins_123 rfl ?_
                        refine vs_caliF C dX12_coins_124 (c_X12_fewestFrom g S3 (nI (c)) (nI (q)) (by rw [xn_lit, xn_mul, nI_add]; exact xn_in (by omega) (by omega))) mb_X12_fewestFrom mv_X12_fewestFrom lk_X12_188 ce_65 rfl rfl rfl rfl ⟨Nat.le_of_ble_eq_true rfl, Nat.le_of_ble_eq_true rfl, Nat.le_of_ble_eq_true rfl⟩ ?_
                        refine vs_eqi (v9 := nI x9) (by rw [xn_lit, xn_mul, nI_add, xn_cl (by omega), hR c q (by omega) (by omega) (by omega), hp]; rfl) ?_
                        refine vv_icmp_eq (tgt := 136) C dX12_coins_127 (by decide) (fun q127 => ?_) (fun q127 => ?_)
                        · exact fin 0 hc0
                        · exact absurd (by rw [xn_eq (by omega) (by omega)]; exact hmm) q127
                    | succ b ihb =>
                      intro hb he a ea
                      subst ea
                      rw [mo1] at he
                      have hkw := pu_mul (a := b + 1) (b := cnW L c) (by omega) (by omega)
                      have hb2 := en_b2 (sz := sz) (u := q - (b + 1) * cnW L c) (W := (cnW L)) hM (show sz - (c + 1) ≤ 16 by omega)
                      have hmm := cn_eq2 (j := c) (t := b + 1) (q := q) (x := x9) (sz := sz) (W := (cnW L)) (M := (cnM (np_lm law) L)) (by omega)
                      refine vv_iload C dX12_coins_93 rfl ?_
                      refine vv_iload C dX12_coins_95 rfl ?_
                      refine vv_imul C dX12_coins_97 ?_
                      refine vs_eqi (v9 := nI ((b + 1) * cnW L c)) (xn_mul _ _) ?_
                      refine vv_iload_n C dX12_coins_98 rfl ?_
                      refine vv_icmp_gt (tgt := 130) C dX12_coins_99 (by decide) (fun q99 => ?_) (fun q99 => ?_)
                      · have hz : ¬ ((b + 1) * cnW L c ≤ q ∧ (cF sz (cnW L) (cnM (np_lm law) L) (sz - (c + 1)) (q - (b + 1) * cnW L c)).map (· + (b + 1)) = some x9) := fun z => by rw [xn_lt (by omega) (by omega)] at q99; omega
                        rw [if_neg hz] at he
                        refine vw_iinc (lv9 := [_, _, _, _, _, _, _]) C dX12_coins_130 rfl ic_m1 (by decide) rfl rfl ?_
                        refine vv_goto (tgt := 93) C dX12_coins_133 (by decide) ?_
                        show vv_V g x 7 0 0 93 [_, _, _, _, some (.int (nI (b + 1) + -1)), _, _] _ _
                        rw [xm1, nI_pred]
                        exact ihb (by omega) he b rfl
                      · have hz1 : (b + 1) * cnW L c ≤ q := by rw [xn_lt (by omega) (by omega)] at q99; omega
                        refine vv_iload C dX12_coins_102 rfl ?_
                        refine vv_aload_n C dX12_coins_104 rfl ?_
                        refine vv_iload C dX12_coins_105 rfl ?_
                        refine vv_iconst C dX12_coins_107 ic_1 ?_
                        refine vv_iadd C dX12_coins_108 ?_
                        refine vs_eqi (v9 := nI (c + 1)) (nI_1 _) ?_
                        refine vv_iload_n C dX12_coins_109 rfl ?_
                        refine vv_iload C dX12_coins_110 rfl ?_
                        refine vv_iload C dX12_coins_112 rfl ?_
                        refine vv_imul C dX12_coins_114 ?_
                        refine vs_eqi (v9 := nI ((b + 1) * cnW L c)) (xn_mul _ _) ?_
                        refine vv_isub C dX12_coins_115 ?_
                        refine vs_eqi (v9 := nI (q - (b + 1) * cnW L c)) (xn_sub (by omega)) ?_
                        refine vs_caliF C dX12_coins_116 (c_X12_fewestFrom g S3 (nI (c + 1)) (nI (q - (b + 1) * cnW L c)) (by rw [xn_lit, xn_mul, nI_add]; exact xn_in (by omega) (by omega))) mb_X12_fewestFrom mv_X12_fewestFrom lk_X12_188 ce_65 rfl rfl rfl rfl ⟨Nat.le_of_ble_eq_true rfl, Nat.le_of_ble_eq_true rfl, Nat.le_of_ble_eq_true rfl⟩ ?_
                        refine vs_eqi (v9 := nI (en 1000 (cF sz (cnW L) (cnM (np_lm law) L) (sz - (c + 1)) (q - (b + 1) * cnW L c)))) (by rw [xn_lit, xn_mul, nI_add, xn_cl (by omega)]; exact hR (c + 1) _ (by omega) (by omega) (by omega)) ?_
                        refine vv_iadd C dX12_coins_119 ?_
                        refine vs_eqi (v9 := nI (b + 1 + en 1000 (cF sz (cnW L) (cnM (np_lm law) L) (sz - (c + 1)) (q - (b + 1) * cnW L c)))) (nI_add _ _) ?_
                        refine vv_aload_n C dX12_coins_120 rfl ?_
                        refine vv_iload C dX12_coins_121 rfl ?_
                        refine vv_iload_n C dX12_coins_123 rfl ?_
                        refine vs_caliF C dX12_coins_124 (c_X12_fewestFrom g S3 (nI (c)) (nI (q)) (by rw [xn_lit, xn_mul, nI_add]; exact xn_in (by omega) (by omega))) mb_X12_fewestFrom mv_X12_fewestFrom lk_X12_188 ce_65 rfl rfl rfl rfl ⟨Nat.le_of_ble_eq_true rfl, Nat.le_of_ble_eq_true rfl, Nat.le_of_ble_eq_true rfl⟩ ?_
                        refine vs_eqi (v9 := nI x9) (by rw [xn_lit, xn_mul, nI_add, xn_cl (by omega), hR c q (by omega) (by omega) (by omega), hp]; rfl) ?_
                        refine vv_icmp_eq (tgt := 136) C dX12_coins_127 (by decide) (fun q127 => ?_) (fun q127 => ?_)
                        · have hz : (b + 1) * cnW L c ≤ q ∧ (cF sz (cnW L) (cnM (np_lm law) L) (sz - (c + 1)) (q - (b + 1) * cnW L c)).map (· + (b + 1)) = some x9 := ⟨hz1, hmm.mp (by rw [xn_eq (by omega) (by omega)] at q127; exact q127)⟩
                          rw [if_pos hz] at he
                          exact fin _ he
                        · have hz : ¬ ((b + 1) * cnW L c ≤ q ∧ (cF sz (cnW L) (cnM (np_lm law) L) (sz - (c + 1)) (q - (b + 1) * cnW L c)).map (· + (b + 1)) = some x9) := fun z => q127 (by rw [xn_eq (by omega) (by omega)]; exact hmm.mpr z.2)
                          rw [if_neg hz] at he
                          refine vw_iinc (lv9 := [_, _, _, _, _, _, _]) C dX12_coins_130 rfl ic_m1 (by decide) rfl rfl ?_
                          refine vv_goto (tgt := 93) C dX12_coins_133 (by decide) ?_
                          show vv_V g x 7 0 0 93 [_, _, _, _, some (.int (nI (b + 1) + -1)), _, _] _ _
                          rw [xm1, nI_pred]
                          exact ihb (by omega) he b rfl
                  exact inner
                refine vv_iload C dX12_coins_67 rfl ?_
                refine vv_iload_n C dX12_coins_69 rfl ?_
                refine vv_icmp_gt (tgt := 150) C dX12_coins_70 (by decide) (fun q70 => ?_) (fun q70 => ?_)
                · exact absurd q70 (by rw [xn_lt (by omega) (by omega)]; omega)
                · refine vv_aload_n C dX12_coins_73 rfl ?_
                  refine gf_X12_may C dX12_coins_74 fg_X12_9 ?_
                  refine vv_bipush C dX12_coins_77 bp_64 ?_
                  refine vv_iload C dX12_coins_79 rfl ?_
                  refine vv_iadd C dX12_coins_81 ?_
                  refine vs_eqi (v9 := nI (64 + c)) (nI_add 64 _) ?_
                  refine ld_66 C dX12_coins_82 (xn_in (by omega) (by omega)) ?_
                  refine vs_eqi (v9 := nI (cnW L c)) (by rw [xn_cl (by omega), t.1.2.1 66 (by decide), ← lg_HM hL]; exact (lg_inD hi (p := 64 + c) (by omega)).1) ?_
                  refine vw_istore (lv9 := [_, _, _, _, _, _, _]) C dX12_coins_83 (by decide) rfl rfl ?_
                  refine vv_aload_n C dX12_coins_85 rfl ?_
                  refine vv_iload C dX12_coins_86 rfl ?_
                  refine vs_calli C dX12_coins_88 (c_X12_usable g S2 hfl t.2.1 law hl t.2.2 L (lg_M_fr hL t.1 (by decide) (by decide)) hi c (by omega)) mb_X12_usable mv_X12_usable lk_X12_184 ce_65 rfl rfl rfl rfl ⟨Nat.le_of_ble_eq_true rfl, Nat.le_of_ble_eq_true rfl, Nat.le_of_ble_eq_true rfl⟩ (fun r88 S88 p88 => ?_)
                  obtain ⟨e88, u88⟩ := p88
                  subst e88
                  refine vw_istore (lv9 := [_, _, _, _, _, _, _]) C dX12_coins_91 (by decide) rfl rfl ?_
                  exact go S88 (t.go u88) (pc_Rgo hR u88) ((cnM (np_lm law) L) c) (Nat.le_refl _) ecm _ rfl
              | succ f ih =>
                intro c q x9 w4 w6 S2 h1 hq hp t hR he
                have hc := cm_sp (show c < sz by omega) hp
                obtain ⟨y9, hy⟩ := cm_ne (show c < sz by omega) hp
                have hMc := hM c
                have hWc := cnW_le hi (i := c) (by omega)
                have hkw := pu_mul (a := cm sz (cnW L) (cnM (np_lm law) L) c q) (b := cnW L c) (by omega) hWc
                have hx9 := cF_le hM _ _ _ hp
                have ecm : cm sz (cnW L) (cnM (np_lm law) L) c q = mo (cF sz (cnW L) (cnM (np_lm law) L) (sz - (c + 1))) (cnW L c) q x9 ((cnM (np_lm law) L) c) := by
                  show mo _ _ _ (en 0 (cF sz (cnW L) (cnM (np_lm law) L) (sz - c) q)) _ = _
                  rw [hp]
                  rfl
                have go : ∀ S3 : vs_S, kj law S S3 → pc_R sz (cnW L) (cnM (np_lm law) L) n1 0 S3 → ∀ (b : Nat), b ≤ (cnM (np_lm law) L) c → cm sz (cnW L) (cnM (np_lm law) L) c q = mo (cF sz (cnW L) (cnM (np_lm law) L) (sz - (c + 1))) (cnW L c) q x9 b → ∀ a, a = b → vv_V g x 7 0 0 93 [some (vv_r g 65), some (.int (nI n1)), some (.int (nI k1)), some (.int (nI q)), some (.int (nI a)), some (.int (nI c)), some (.int (nI (cnW L c)))] [] (vs_cells g S3) := by
                  intro S3 t hR
                  have fin : ∀ a, cm sz (cnW L) (cnM (np_lm law) L) c q = a → vv_V g x 7 0 0 136 [some (vv_r g 65), some (.int (nI n1)), some (.int (nI k1)), some (.int (nI q)), some (.int (nI a)), some (.int (nI c)), some (.int (nI (cnW L c)))] [] (vs_cells g S3) := by
                    intro a ea
                    subst ea
                    refine vv_iload_n C dX12_coins_136 rfl ?_
                    refine vv_iload C dX12_coins_137 rfl ?_
                    refine vv_iload C dX12_coins_139 rfl ?_
                    refine vv_imul C dX12_coins_141 ?_
                    refine vs_eqi (v9 := nI (cm sz (cnW L) (cnM (np_lm law) L) c q * cnW L c)) (xn_mul _ _) ?_
                    refine vv_isub C dX12_coins_142 ?_
                    refine vs_eqi (v9 := nI (q - cm sz (cnW L) (cnM (np_lm law) L) c q * cnW L c)) (xn_sub hc.2.1) ?_
                    refine vw_istore_n (lv9 := [_, _, _, _, _, _, _]) C dX12_coins_143 (by decide) rfl rfl ?_
                    refine vw_iinc (lv9 := [_, _, _, _, _, _, _]) C dX12_coins_144 rfl ic_1 (by decide) rfl rfl ?_
                    refine vv_goto (tgt := 67) C dX12_coins_147 (by decide) ?_
                    rw [nI_1]
                    exact ih (c + 1) _ y9 _ _ S3 (by omega) (by omega) hy t hR he
                  have inner : ∀ (b : Nat), b ≤ (cnM (np_lm law) L) c → cm sz (cnW L) (cnM (np_lm law) L) c q = mo (cF sz (cnW L) (cnM (np_lm law) L) (sz - (c + 1))) (cnW L c) q x9 b → ∀ a, a = b → vv_V g x 7 0 0 93 [some (vv_r g 65), some (.int (nI n1)), some (.int (nI k1)), some (.int (nI q)), some (.int (nI a)), some (.int (nI c)), some (.int (nI (cnW L c)))] [] (vs_cells g S3) := by
                    intro b
                    induction b with
                    | zero =>
                      intro hb he a ea
                      subst ea
                      have hc0 : cm sz (cnW L) (cnM (np_lm law) L) c q = 0 := he
                      rw [hc0] at hc
                      have hb2 := en_b2 (sz := sz) (u := q - 0 * cnW L c) (W := (cnW L)) hM (show sz - (c + 1) ≤ 16 by omega)
                      have hmm := (cn_eq2 (j := c) (t := 0) (q := q) (x := x9) (sz := sz) (W := (cnW L)) (M := (cnM (np_lm law) L)) (by omega)).mpr hc.2.2
                      refine vv_iload C dX12_coins_93 rfl ?_
                      refine vv_iload C dX12_coins_95 rfl ?_
                      refine vv_imul C dX12_coins_97 ?_
                      refine vs_eqi (v9 := nI (0 * cnW L c)) (xn_mul 0 _) ?_
                      refine vv_iload_n C dX12_coins_98 rfl ?_
                      refine vv_icmp_gt (tgt := 130) C dX12_coins_99 (by decide) (fun q99 => ?_) (fun q99 => ?_)
                      · exact absurd q99 (by rw [xn_lt (by omega) (by omega)]; omega)
                      · refine vv_iload C dX12_coins_102 rfl ?_
                        refine vv_aload_n C dX12_coins_104 rfl ?_
                        refine vv_iload C dX12_coins_105 rfl ?_
                        refine vv_iconst C dX12_coins_107 ic_1 ?_
                        refine vv_iadd C dX12_coins_108 ?_
                        refine vs_eqi (v9 := nI (c + 1)) (nI_1 _) ?_
                        refine vv_iload_n C dX12_coins_109 rfl ?_
                        refine vv_iload C dX12_coins_110 rfl ?_
                        refine vv_iload C dX12_coins_112 rfl ?_
                        refine vv_imul C dX12_coins_114 ?_
                        refine vs_eqi (v9 := nI (0 * cnW L c)) (xn_mul 0 _) ?_
                        refine vv_isub C dX12_coins_115 ?_
                        refine vs_eqi (v9 := nI (q - 0 * cnW L c)) (xn_sub (by omega)) ?_
                        refine vs_caliF C dX12_coins_116 (c_X12_fewestFrom g S3 (nI (c + 1)) (nI (q - 0 * cnW L c)) (by rw [xn_lit, xn_mul, nI_add]; exact xn_in (by omega) (by omega))) mb_X12_fewestFrom mv_X12_fewestFrom lk_X12_188 ce_65 rfl rfl rfl rfl ⟨Nat.le_of_ble_eq_true rfl, Nat.le_of_ble_eq_true rfl, Nat.le_of_ble_eq_true rfl⟩ ?_
                        refine vs_eqi (v9 := nI (en 1000 (cF sz (cnW L) (cnM (np_lm law) L) (sz - (c + 1)) (q - 0 * cnW L c)))) (by rw [xn_lit, xn_mul, nI_add, xn_cl (by omega)]; exact hR (c + 1) _ (by omega) (by omega) (by omega)) ?_
                        refine vv_iadd C dX12_coins_119 ?_
                        refine vs_eqi (v9 := nI (0 + en 1000 (cF sz (cnW L) (cnM (np_lm law) L) (sz - (c + 1)) (q - 0 * cnW L c)))) (nI_add 0 _) ?_
                        refine vv_aload_n C dX12_coins_120 rfl ?_
                        refine vv_iload C dX12_coins_121 rfl ?_
                        refine vv_iload_n C dX12_coins_123 rfl ?_
                        refine vs_caliF C dX12_coins_124 (c_X12_fewestFrom g S3 (nI (c)) (nI (q)) (by rw [xn_lit, xn_mul, nI_add]; exact xn_in (by omega) (by omega))) mb_X12_fewestFrom mv_X12_fewestFrom lk_X12_188 ce_65 rfl rfl rfl rfl ⟨Nat.le_of_ble_eq_true rfl, Nat.le_of_ble_eq_true rfl, Nat.le_of_ble_eq_true rfl⟩ ?_
                        refine vs_eqi (v9 := nI x9) (by rw [xn_lit, xn_mul, nI_add, xn_cl (by omega), hR c q (by omega) (by omega) (by omega), hp]; rfl) ?_
                        refine vv_icmp_eq (tgt := 136) C dX12_coins_127 (by decide) (fun q127 => ?_) (fun q127 => ?_)
                        · exact fin 0 hc0
                        · exact absurd (by rw [xn_eq (by omega) (by omega)]; exact hmm) q127
                    | succ b ihb =>
                      intro hb he a ea
                      subst ea
                      rw [mo1] at he
                      have hkw := pu_mul (a := b + 1) (b := cnW L c) (by omega) (by omega)
                      have hb2 := en_b2 (sz := sz) (u := q - (b + 1) * cnW L c) (W := (cnW L)) hM (show sz - (c + 1) ≤ 16 by omega)
                      have hmm := cn_eq2 (j := c) (t := b + 1) (q := q) (x := x9) (sz := sz) (W := (cnW L)) (M := (cnM (np_lm law) L)) (by omega)
                      refine vv_iload C dX12_coins_93 rfl ?_
                      refine vv_iload C dX12_coins_95 rfl ?_
                      refine vv_imul C dX12_coins_97 ?_
                      refine vs_eqi (v9 := nI ((b + 1) * cnW L c)) (xn_mul _ _) ?_
                      refine vv_iload_n C dX12_coins_98 rfl ?_
                      refine vv_icmp_gt (tgt := 130) C dX12_coins_99 (by decide) (fun q99 => ?_) (fun q99 => ?_)
                      · have hz : ¬ ((b + 1) * cnW L c ≤ q ∧ (cF sz (cnW L) (cnM (np_lm law) L) (sz - (c + 1)) (q - (b + 1) * cnW L c)).map (· + (b + 1)) = some x9) := fun z => by rw [xn_lt (by omega) (by omega)] at q99; omega
                        rw [if_neg hz] at he
                        refine vw_iinc (lv9 := [_, _, _, _, _, _, _]) C dX12_coins_130 rfl ic_m1 (by decide) rfl rfl ?_
                        refine vv_goto (tgt := 93) C dX12_coins_133 (by decide) ?_
                        show vv_V g x 7 0 0 93 [_, _, _, _, some (.int (nI (b + 1) + -1)), _, _] _ _
                        rw [xm1, nI_pred]
                        exact ihb (by omega) he b rfl
                      · have hz1 : (b + 1) * cnW L c ≤ q := by rw [xn_lt (by omega) (by omega)] at q99; omega
                        refine vv_iload C dX12_coins_102 rfl ?_
                        refine vv_aload_n C dX12_coins_104 rfl ?_
                        refine vv_iload C dX12_coins_105 rfl ?_
                        refine vv_iconst C dX12_coins_107 ic_1 ?_
                        refine vv_iadd C dX12_coins_108 ?_
                        refine vs_eqi (v9 := nI (c + 1)) (nI_1 _) ?_
                        refine vv_iload_n C dX12_coins_109 rfl ?_
                        refine vv_iload C dX12_coins_110 rfl ?_
                        refine vv_iload C dX12_coins_112 rfl ?_
                        refine vv_imul C dX12_coins_114 ?_
                        refine vs_eqi (v9 := nI ((b + 1) * cnW L c)) (xn_mul _ _) ?_
                        refine vv_isub C dX12_coins_115 ?_
                        refine vs_eqi (v9 := nI (q - (b + 1) * cnW L c)) (xn_sub (by omega)) ?_
                        refine vs_caliF C dX12_coins_116 (c_X12_fewestFrom g S3 (nI (c + 1)) (nI (q - (b + 1) * cnW L c)) (by rw [xn_lit, xn_mul, nI_add]; exact xn_in (by omega) (by omega))) mb_X12_fewestFrom mv_X12_fewestFrom lk_X12_188 ce_65 rfl rfl rfl rfl ⟨Nat.le_of_ble_eq_true rfl, Nat.le_of_ble_eq_true rfl, Nat.le_of_ble_eq_true rfl⟩ ?_
                        refine vs_eqi (v9 := nI (en 1000 (cF sz (cnW L) (cnM (np_lm law) L) (sz - (c + 1)) (q - (b + 1) * cnW L c)))) (by rw [xn_lit, xn_mul, nI_add, xn_cl (by omega)]; exact hR (c + 1) _ (by omega) (by omega) (by omega)) ?_
                        refine vv_iadd C dX12_coins_119 ?_
                        refine vs_eqi (v9 := nI (b + 1 + en 1000 (cF sz (cnW L) (cnM (np_lm law) L) (sz - (c + 1)) (q - (b + 1) * cnW L c)))) (nI_add _ _) ?_
                        refine vv_aload_n C dX12_coins_120 rfl ?_
                        refine vv_iload C dX12_coins_121 rfl ?_
                        refine vv_iload_n C dX12_coins_123 rfl ?_
                        refine vs_caliF C dX12_coins_124 (c_X12_fewestFrom g S3 (nI (c)) (nI (q)) (by rw [xn_lit, xn_mul, nI_add]; exact xn_in (by omega) (by omega))) mb_X12_fewestFrom mv_X12_fewestFrom lk_X12_188 ce_65 rfl rfl rfl rfl ⟨Nat.le_of_ble_eq_true rfl, Nat.le_of_ble_eq_true rfl, Nat.le_of_ble_eq_true rfl⟩ ?_
                        refine vs_eqi (v9 := nI x9) (by rw [xn_lit, xn_mul, nI_add, xn_cl (by omega), hR c q (by omega) (by omega) (by omega), hp]; rfl) ?_
                        refine vv_icmp_eq (tgt := 136) C dX12_coins_127 (by decide) (fun q127 => ?_) (fun q127 => ?_)
                        · have hz : (b + 1) * cnW L c ≤ q ∧ (cF sz (cnW L) (cnM (np_lm law) L) (sz - (c + 1)) (q - (b + 1) * cnW L c)).map (· + (b + 1)) = some x9 := ⟨hz1, hmm.mp (by rw [xn_eq (by omega) (by omega)] at q127; exact q127)⟩
                          rw [if_pos hz] at he
                          exact fin _ he
                        · have hz : ¬ ((b + 1) * cnW L c ≤ q ∧ (cF sz (cnW L) (cnM (np_lm law) L) (sz - (c + 1)) (q - (b + 1) * cnW L c)).map (· + (b + 1)) = some x9) := fun z => q127 (by rw [xn_eq (by omega) (by omega)]; exact hmm.mpr z.2)
                          rw [if_neg hz] at he
                          refine vw_iinc (lv9 := [_, _, _, _, _, _, _]) C dX12_coins_130 rfl ic_m1 (by decide) rfl rfl ?_
                          refine vv_goto (tgt := 93) C dX12_coins_133 (by decide) ?_
                          show vv_V g x 7 0 0 93 [_, _, _, _, some (.int (nI (b + 1) + -1)), _, _] _ _
                          rw [xm1, nI_pred]
                          exact ihb (by omega) he b rfl
                  exact inner
                refine vv_iload C dX12_coins_67 rfl ?_
                refine vv_iload_n C dX12_coins_69 rfl ?_
                refine vv_icmp_gt (tgt := 150) C dX12_coins_70 (by decide) (fun q70 => ?_) (fun q70 => ?_)
                · exact absurd q70 (by rw [xn_lt (by omega) (by omega)]; omega)
                · refine vv_aload_n C dX12_coins_73 rfl ?_
                  refine gf_X12_may C dX12_coins_74 fg_X12_9 ?_
                  refine vv_bipush C dX12_coins_77 bp_64 ?_
                  refine vv_iload C dX12_coins_79 rfl ?_
                  refine vv_iadd C dX12_coins_81 ?_
                  refine vs_eqi (v9 := nI (64 + c)) (nI_add 64 _) ?_
                  refine ld_66 C dX12_coins_82 (xn_in (by omega) (by omega)) ?_
                  refine vs_eqi (v9 := nI (cnW L c)) (by rw [xn_cl (by omega), t.1.2.1 66 (by decide), ← lg_HM hL]; exact (lg_inD hi (p := 64 + c) (by omega)).1) ?_
                  refine vw_istore (lv9 := [_, _, _, _, _, _, _]) C dX12_coins_83 (by decide) rfl rfl ?_
                  refine vv_aload_n C dX12_coins_85 rfl ?_
                  refine vv_iload C dX12_coins_86 rfl ?_
                  refine vs_calli C dX12_coins_88 (c_X12_usable g S2 hfl t.2.1 law hl t.2.2 L (lg_M_fr hL t.1 (by decide) (by decide)) hi c (by omega)) mb_X12_usable mv_X12_usable lk_X12_184 ce_65 rfl rfl rfl rfl ⟨Nat.le_of_ble_eq_true rfl, Nat.le_of_ble_eq_true rfl, Nat.le_of_ble_eq_true rfl⟩ (fun r88 S88 p88 => ?_)
                  obtain ⟨e88, u88⟩ := p88
                  subst e88
                  refine vw_istore (lv9 := [_, _, _, _, _, _, _]) C dX12_coins_91 (by decide) rfl rfl ?_
                  exact go S88 (t.go u88) (pc_Rgo hR u88) ((cnM (np_lm law) L) c) (Nat.le_refl _) ecm _ rfl
            refine vv_iload_n C dX12_coins_59 rfl ?_
            refine vw_istore_n (lv9 := [_, _, _, _, _, _, _]) C dX12_coins_60 (by decide) rfl rfl ?_
            refine vv_iconst C dX12_coins_61 ic_0 ?_
            refine vw_istore (lv9 := [_, _, _, _, _, _, _]) C dX12_coins_62 (by decide) rfl rfl ?_
            refine vv_iconst C dX12_coins_64 ic_0 ?_
            refine vw_istore (lv9 := [_, _, _, _, _, _, _]) C dX12_coins_65 (by decide) rfl rfl ?_
            exact outer k1 0 n1 x0 0 _ S29 (Nat.zero_add _) (Nat.le_refl _) ex t hR rfl
          · refine vv_aload_n C dX12_coins_52 rfl ?_
            refine vv_iconst C dX12_coins_53 ic_0 ?_
            refine vv_iload_n C dX12_coins_54 rfl ?_
            refine vs_caliF C dX12_coins_55 (c_X12_fewestFrom g S29 (nI 0) (nI n1) (by rw [xn_lit, xn_mul, nI_add]; exact xn_in (by omega) (by omega))) mb_X12_fewestFrom mv_X12_fewestFrom lk_X12_188 ce_65 rfl rfl rfl rfl ⟨Nat.le_of_ble_eq_true rfl, Nat.le_of_ble_eq_true rfl, Nat.le_of_ble_eq_true rfl⟩ ?_
            refine vs_eqi (v9 := nI (en 1000 (cF sz (cnW L) (cnM (np_lm law) L) sz n1))) (by rw [xn_lit, xn_mul, nI_add, xn_cl (by omega)]; exact hR 0 n1 (Nat.le_refl _) (by omega) (Nat.le_refl _)) ?_
            exact vs_iret C F dX12_coins_58 rfl ⟨by rw [if_pos hw, xn_cl (by omega)]; unfold cnv; rw [ex]; exact (if_pos q49).symm, t⟩
        · have ex : cF sz (cnW L) (cnM (np_lm law) L) sz n1 = none := cn_none2 (cnM_le hi) hsz (by rw [xn_lit, xn_lt (by omega) (by omega)] at q41; exact q41)
          refine vv_bipush C dX12_coins_44 bp_m2 ?_
          exact vs_iret C F dX12_coins_46 rfl ⟨by rw [if_pos hw, xn_cl (by omega)]; unfold cnv; rw [ex], t⟩
      · have hw : ¬ (vs_w (nI n1) 0 2000 && vs_w i (-1) (nI sz - 1)) = true := by rw [vs_w1 (sz_m1 hsz), decide_eq_false q14, show vs_w i 0 (nI sz - 1) = false by rw [← hz9]; exact vs_b0.mp q22]; rw [Bool.or_false, Bool.and_false]; decide
        refine vv_iconst C dX12_coins_25 ic_m1 ?_
        exact vs_iret C F dX12_coins_26 rfl ⟨by rw [if_neg hw], vs_fr.rf, hS, hs⟩
