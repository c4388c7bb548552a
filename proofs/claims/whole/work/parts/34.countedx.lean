theorem ca_fr {S S2 : vs_S} (h : vs_fr [] [9, 10, 11, 12, 13, 14] [] S S2) {k : Nat} (hk : k ≤ 5) (f : Nat → Int32) : vs_fr [] [9, 10, 11, 12, 13, 14] [] S (vs_ua S2 (9 + k) f) := h.ua (by
  have : k = 0 ∨ k = 1 ∨ k = 2 ∨ k = 3 ∨ k = 4 ∨ k = 5 := by omega
  rcases this with e | e | e | e | e | e <;> subst e <;> decide)
theorem cw_up {P : Nat → Bool} {a : Nat} : cw P (a + 1) = if P (a + 1) = true then cw_n (cw P a) (a + 1) else cw P a := rfl
set_option maxRecDepth 20000 in
theorem c_X10_addWays (g : vv_G) (S : vs_S) (W : Nat → Nat → Nat) (hW : ∀ k n, k ≤ 5 → n ≤ 400 → S.2.1 (9 + k) n = nI (cs (W k n))) (a : Nat) (h2a : 2 ≤ a) (ha : a ≤ 400) : vs_KV g yX10_addWays cX10_addWays 4 none 2 [vv_r g 5, .int (nI a)] S (fun S1 => (∀ k n, k ≤ 5 → n ≤ 400 → S1.2.1 (9 + k) n = nI (cs (cw_n W a k n))) ∧ vs_fr [] [9, 10, 11, 12, 13, 14] [] S S1) := by
  refine vs_ofV (lv := [_, _, _, _]) mb_X10_addWays (Nat.le_of_ble_eq_true rfl) rfl (fun x C F => ?_)
  have outer : ∀ (m n : Nat) (S2 : vs_S) (w3 : Option Value), n + m = 401 → a ≤ n → vs_fr [] [9, 10, 11, 12, 13, 14] [] S S2 → ca_I W a S2 n 1 → vv_V g x 4 0 0 2 [some (vv_r g 5), some (.int (nI a)), some (.int (nI n)), w3] [] (vs_cells g S2) := by
    intro m
    induction m with
    | zero =>
      intro n S2 w3 h1 han fr hI
      have hn : n = 401 := by omega
      subst hn
      refine vv_iload_n C dX10_addWays_2 rfl ?_
      refine vv_sipush C dX10_addWays_3 sp_400 ?_
      refine vv_icmp_gt (tgt := 62) C dX10_addWays_6 (by decide) (fun q6 => ?_) (fun q6 => ?_)
      · exact vs_vret C F dX10_addWays_62 rfl ⟨fun k n hk hn => (hI k n hk hn).trans (by rw [if_pos (by omega)]), fr⟩
      · exact absurd (by decide +kernel) q6
    | succ m ih =>
      intro n S2 w3 h1 han fr hI
      have inner : ∀ (m k : Nat) (S2 : vs_S), k + m = 6 → 1 ≤ k → vs_fr [] [9, 10, 11, 12, 13, 14] [] S S2 → ca_I W a S2 n k → vv_V g x 4 0 0 11 [some (vv_r g 5), some (.int (nI a)), some (.int (nI n)), some (.int (nI k))] [] (vs_cells g S2) := by
        intro m
        induction m with
        | zero =>
          intro k S2 h1 hk1 fr hI
          have hk : k = 6 := by omega
          subst hk
          refine vv_iload_n C dX10_addWays_11 rfl ?_
          refine vv_iconst C dX10_addWays_12 ic_5 ?_
          refine vv_icmp_gt (tgt := 56) C dX10_addWays_13 (by decide) (fun q13 => ?_) (fun q13 => ?_)
          · refine vw_iinc (lv9 := [_, _, _, _]) C dX10_addWays_56 rfl ic_1 (by decide) rfl rfl ?_
            refine vv_goto (tgt := 2) C dX10_addWays_59 (by decide) ?_
            rw [nI_1]
            exact ih (n + 1) S2 _ (by omega) (by omega) fr (ca_n hI)
          · exact absurd (by decide +kernel) q13
        | succ m ih2 =>
          intro k S2 h1 hk1 fr hI
          obtain ⟨k, rfl⟩ : ∃ k9, k = k9 + 1 := ⟨k - 1, by omega⟩
          have e1 := hI (k + 1) n (by omega) (by omega)
          rw [if_neg (by omega)] at e1
          have e2 := hI k (n - a) (by omega) (by omega)
          rw [if_pos (by omega)] at e2
          have c1 : cs (W (k + 1) n) ≤ 1000000000 := cs_le
          have c2 : cs (cw_n W a k (n - a)) ≤ 1000000000 := cs_le
          refine vv_iload_n C dX10_addWays_11 rfl ?_
          refine vv_iconst C dX10_addWays_12 ic_5 ?_
          refine vv_icmp_gt (tgt := 56) C dX10_addWays_13 (by decide) (fun q13 => ?_) (fun q13 => ?_)
          · exact absurd q13 (by rw [xn_lit, xn_lt (by omega) (by omega)]; omega)
          · refine vv_aload_n C dX10_addWays_16 rfl ?_
            refine gf_X10_ways C dX10_addWays_17 fg_X10_20 ?_
            refine vv_iload_n C dX10_addWays_20 rfl ?_
            refine aa_ways C dX10_addWays_21 (xn_in (by omega) (by omega)) ?_
            refine vs_eqr (v9 := 9 + (k + 1)) (by rw [xn_cl (by omega)]) ?_
            refine vv_iload_n C dX10_addWays_22 rfl ?_
            refine vv_ldc C dX10_addWays_23 kc_X10_76 ?_
            refine vv_aload_n C dX10_addWays_25 rfl ?_
            refine gf_X10_ways C dX10_addWays_26 fg_X10_20 ?_
            refine vv_iload_n C dX10_addWays_29 rfl ?_
            refine aa_ways C dX10_addWays_30 (xn_in (by omega) (by omega)) ?_
            refine vs_eqr (v9 := 9 + (k + 1)) (by rw [xn_cl (by omega)]) ?_
            refine vv_iload_n C dX10_addWays_31 rfl ?_
            refine ld_ways C dX10_addWays_32 (by omega) (xn_in (by omega) (by omega)) ?_
            refine vs_eqi (v9 := nI (cs (W (k + 1) n))) (by rw [xn_cl (by omega)]; exact e1) ?_
            refine vv_aload_n C dX10_addWays_33 rfl ?_
            refine gf_X10_ways C dX10_addWays_34 fg_X10_20 ?_
            refine vv_iload_n C dX10_addWays_37 rfl ?_
            refine vv_iconst C dX10_addWays_38 ic_1 ?_
            refine vv_isub C dX10_addWays_39 ?_
            refine vs_eqi (v9 := nI k) (nI_pred k) ?_
            refine aa_ways C dX10_addWays_40 (xn_in (by omega) (by omega)) ?_
            refine vs_eqr (v9 := 9 + k) (by rw [xn_cl (by omega)]) ?_
            refine vv_iload_n C dX10_addWays_41 rfl ?_
            refine vv_iload_n C dX10_addWays_42 rfl ?_
            refine vv_isub C dX10_addWays_43 ?_
            refine vs_eqi (v9 := nI (n - a)) (xn_sub (by omega)) ?_
            refine ld_ways C dX10_addWays_44 (by omega) (xn_in (by omega) (by omega)) ?_
            refine vs_eqi (v9 := nI (cs (cw_n W a k (n - a)))) (by rw [xn_cl (by omega)]; exact e2) ?_
            refine vv_iadd C dX10_addWays_45 ?_
            refine vs_eqi (v9 := nI (cs (W (k + 1) n) + cs (cw_n W a k (n - a)))) (nI_add _ _) ?_
            refine vv_mmin C dX10_addWays_46 lk_X10_54 ⟨Nat.le_of_ble_eq_true rfl, Nat.le_of_ble_eq_true rfl, Nat.zero_le _, Nat.zero_le _⟩ ?_
            refine vs_eqi (v9 := nI (cs (W (k + 1) n + cw_n W a k (n - a)))) ((xn_min (a := 1000000000) (by omega) (by omega)).trans (congrArg nI cs_add)) ?_
            refine st_ways C dX10_addWays_49 (by omega) (xn_in (by omega) (by omega)) ?_
            refine vw_iinc (lv9 := [_, _, _, _]) C dX10_addWays_50 rfl ic_1 (by decide) rfl rfl ?_
            refine vv_goto (tgt := 11) C dX10_addWays_53 (by decide) ?_
            rw [nI_1]
            refine ih2 (k + 2) _ (by omega) (by omega) (ca_fr fr (by omega) _) (ca_s hI (by omega) _ (fun n' hn' => ?_))
            rw [xn_cl (by omega), xn_upd (α := Nat)]
      refine vv_iload_n C dX10_addWays_2 rfl ?_
      refine vv_sipush C dX10_addWays_3 sp_400 ?_
      refine vv_icmp_gt (tgt := 62) C dX10_addWays_6 (by decide) (fun q6 => ?_) (fun q6 => ?_)
      · exact absurd q6 (by rw [xn_lit, xn_lt (by omega) (by omega)]; omega)
      · refine vv_iconst C dX10_addWays_9 ic_1 ?_
        refine vw_istore_n (lv9 := [_, _, _, _]) C dX10_addWays_10 (by decide) rfl rfl ?_
        exact inner 5 1 S2 rfl (Nat.le_refl _) fr hI
  refine vv_iload_n C dX10_addWays_0 rfl ?_
  refine vw_istore_n (lv9 := [_, _, _, _]) C dX10_addWays_1 (by decide) rfl rfl ?_
  exact outer (401 - a) a S none (by omega) (Nat.le_refl _) vs_fr.rf (ca_0 hW)
set_option maxRecDepth 20000 in
theorem c_X10_makeWays (g : vv_G) (S : vs_S) (hS : nx_ok S) (law : Nat) (hl : law ≤ 3) (hs : S.1 0 = nI law) : vs_KV g yX10_makeWays cX10_makeWays 2 none 5 [vv_r g 5] S (fun S1 => cx_D (np_lx law) S1 ∧ vs_fr [] [9, 10, 11, 12, 13, 14] [] S S1) := by
  refine vs_ofV (lv := [_, _]) mb_X10_makeWays (Nat.le_of_ble_eq_true rfl) rfl (fun x C F => ?_)
  have loop2 : ∀ (m a : Nat) (S2 : vs_S), a + 1 + m = 401 → 1 ≤ a → vs_fr [] [9, 10, 11, 12, 13, 14] [] S S2 → (∀ k n, k ≤ 5 → n ≤ 400 → S2.2.1 (9 + k) n = nI (cs (cw (np_lx law) a k n))) → vv_V g x 2 0 0 34 [some (vv_r g 5), some (.int (nI (a + 1)))] [] (vs_cells g S2) := by
    intro m
    induction m with
    | zero =>
      intro a S2 h1 ha fr hW
      have hn : a = 400 := by omega
      subst hn
      refine vv_iload_n C dX10_makeWays_34 rfl ?_
      refine vv_sipush C dX10_makeWays_35 sp_400 ?_
      refine vv_icmp_gt (tgt := 64) C dX10_makeWays_38 (by decide) (fun q38 => ?_) (fun q38 => ?_)
      · exact vs_vret C F dX10_makeWays_64 rfl ⟨hW, fr⟩
      · exact absurd (by decide +kernel) q38
    | succ m ih =>
      intro a S2 h1 ha fr hW
      refine vv_iload_n C dX10_makeWays_34 rfl ?_
      refine vv_sipush C dX10_makeWays_35 sp_400 ?_
      refine vv_icmp_gt (tgt := 64) C dX10_makeWays_38 (by decide) (fun q38 => ?_) (fun q38 => ?_)
      · exact absurd q38 (by rw [xn_lit, xn_lt (by omega) (by omega)]; omega)
      · refine vv_aload_n C dX10_makeWays_41 rfl ?_
        refine gf_X10_laws C dX10_makeWays_42 fg_X10_30 ?_
        refine vv_iload_n C dX10_makeWays_45 rfl ?_
        refine vv_i2l C dX10_makeWays_46 ?_
        refine vs_eql (v9 := lN (a + 1)) (xn_i2l (by omega)) ?_
        refine vs_caliF C dX10_makeWays_47 (c_X1_isLawful g S2 (nx_fr hS fr (by decide)) law hl ((fr.1 0 (by decide)).trans hs) (a + 1) (by omega)) mb_X1_isLawful mv_X1_isLawful lk_X10_46 ce_4 rfl rfl rfl rfl ⟨Nat.le_of_ble_eq_true rfl, Nat.le_of_ble_eq_true rfl, Nat.le_of_ble_eq_true rfl⟩ ?_
        refine vv_if_eq (tgt := 58) C dX10_makeWays_50 (by decide) (fun q50 => ?_) (fun q50 => ?_)
        · have hp : np_lx law (a + 1) = false := vs_b0.mp q50
          refine vw_iinc (lv9 := [_, _]) C dX10_makeWays_58 rfl ic_1 (by decide) rfl rfl ?_
          refine vv_goto (tgt := 34) C dX10_makeWays_61 (by decide) ?_
          rw [nI_1]
          first
          | exact ih (a + 1) _ (by omega) (by omega) (fr.tr p55.2) (fun k n hk hn => by rw [cw_up, if_pos hp]; exact p55.1 k n hk hn)
          | exact ih (a + 1) _ (by omega) (by omega) fr (fun k n hk hn => by rw [cw_up, if_neg (by rw [hp]; decide)]; exact hW k n hk hn)
        · have hp : np_lx law (a + 1) = true := vs_b1.mp q50
          refine vv_aload_n C dX10_makeWays_53 rfl ?_
          refine vv_iload_n C dX10_makeWays_54 rfl ?_
          refine vs_callv C dX10_makeWays_55 (c_X10_addWays g S2 (cw (np_lx law) a) hW (a + 1) (by omega) (by omega)) mb_X10_addWays mv_X10_addWays lk_X10_72 ce_5 rfl rfl rfl rfl ⟨Nat.le_of_ble_eq_true rfl, Nat.le_of_ble_eq_true rfl, Nat.le_of_ble_eq_true rfl⟩ (fun S55 p55 => ?_)
          refine vw_iinc (lv9 := [_, _]) C dX10_makeWays_58 rfl ic_1 (by decide) rfl rfl ?_
          refine vv_goto (tgt := 34) C dX10_makeWays_61 (by decide) ?_
          rw [nI_1]
          first
          | exact ih (a + 1) _ (by omega) (by omega) (fr.tr p55.2) (fun k n hk hn => by rw [cw_up, if_pos hp]; exact p55.1 k n hk hn)
          | exact ih (a + 1) _ (by omega) (by omega) fr (fun k n hk hn => by rw [cw_up, if_neg (by rw [hp]; decide)]; exact hW k n hk hn)
  have loop1 : ∀ (m k : Nat) (S2 : vs_S), k + m = 6 → vs_fr [] [9, 10, 11, 12, 13, 14] [] S S2 → (∀ k' n, k' < k → n ≤ 400 → S2.2.1 (9 + k') n = 0) → vv_V g x 2 0 0 2 [some (vv_r g 5), some (.int (nI k))] [] (vs_cells g S2) := by
    intro m
    induction m with
    | zero =>
      intro k S2 h1 fr hZ
      have hk : k = 6 := by omega
      subst hk
      refine vv_iload_n C dX10_makeWays_2 rfl ?_
      refine vv_iconst C dX10_makeWays_3 ic_5 ?_
      refine vv_icmp_gt (tgt := 23) C dX10_makeWays_4 (by decide) (fun q4 => ?_) (fun q4 => ?_)
      · refine vv_aload_n C dX10_makeWays_23 rfl ?_
        refine gf_X10_ways C dX10_makeWays_24 fg_X10_20 ?_
        refine vv_iconst C dX10_makeWays_27 ic_0 ?_
        refine aa_ways C dX10_makeWays_28 (xn_in (n := 0) (by omega) (by omega)) ?_
        refine vs_eqr (v9 := 9 + 0) (rfl) ?_
        refine vv_iconst C dX10_makeWays_29 ic_0 ?_
        refine vv_iconst C dX10_makeWays_30 ic_1 ?_
        refine st_ways C dX10_makeWays_31 (by omega) (xn_in (n := 0) (by omega) (by omega)) ?_
        refine vv_iconst C dX10_makeWays_32 ic_2 ?_
        refine vw_istore_n (lv9 := [_, _]) C dX10_makeWays_33 (by decide) rfl rfl ?_
        refine loop2 399 1 _ rfl (Nat.le_refl _) (ca_fr fr (by omega) _) (fun k n hk hn => ?_)
        have ep : ∀ k n, cw (np_lx law) 1 k n = cw (np_lx law) 0 k n := by
          intro k n
          rw [cw_up, if_neg (fun z => absurd (np_lx2 z) (by omega))]
        rw [ep, vs_ua2]
        show _ = nI (cs (if k = 0 ∧ n = 0 then 1 else 0))
        by_cases e : k = 0
        · subst e
          rw [if_pos rfl]
          show upd (S2.2.1 9) 0 1 n = _
          rw [xn_upd (α := Nat)]
          by_cases y : n = 0
          · rw [if_pos y, if_pos ⟨rfl, y⟩]; rfl
          · rw [if_neg y, if_neg (fun z => y z.2)]
            exact hZ 0 n (by omega) hn
        · rw [if_neg (by omega), if_neg (fun z => e z.1)]
          exact hZ k n (by omega) hn
      · exact absurd (by decide +kernel) q4
    | succ m ih =>
      intro k S2 h1 fr hZ
      refine vv_iload_n C dX10_makeWays_2 rfl ?_
      refine vv_iconst C dX10_makeWays_3 ic_5 ?_
      refine vv_icmp_gt (tgt := 23) C dX10_makeWays_4 (by decide) (fun q4 => ?_) (fun q4 => ?_)
      · exact absurd q4 (by rw [xn_lit, xn_lt (by omega) (by omega)]; omega)
      · refine vv_aload_n C dX10_makeWays_7 rfl ?_
        refine gf_X10_ways C dX10_makeWays_8 fg_X10_20 ?_
        refine vv_iload_n C dX10_makeWays_11 rfl ?_
        refine aa_ways C dX10_makeWays_12 (xn_in (by omega) (by omega)) ?_
        refine vs_eqr (v9 := 9 + k) (by rw [xn_cl (by omega)]) ?_
        refine vv_iconst C dX10_makeWays_13 ic_0 ?_
        refine vs_callsv C dX10_makeWays_14 (c_fill_ways g S2 k (by omega) 0) mb_J7_fill_53178 ms_J7_fill_53178 lk_X10_66 rfl rfl ⟨Nat.le_of_ble_eq_true rfl, Nat.le_of_ble_eq_true rfl, Nat.le_of_ble_eq_true rfl⟩ (fun S14 p14 => ?_)
        obtain ⟨f1, e14, h14⟩ := p14
        subst e14
        refine vw_iinc (lv9 := [_, _]) C dX10_makeWays_17 rfl ic_1 (by decide) rfl rfl ?_
        refine vv_goto (tgt := 2) C dX10_makeWays_20 (by decide) ?_
        rw [nI_1]
        refine ih (k + 1) _ (by omega) (ca_fr fr (by omega) f1) (fun k' n hk hn => ?_)
        rw [vs_ua2]
        by_cases e : k' = k
        · rw [if_pos (by omega)]; exact h14 n (by omega)
        · rw [if_neg (by omega)]; exact hZ k' n (by omega) hn
  refine vv_iconst C dX10_makeWays_0 ic_0 ?_
  refine vw_istore_n (lv9 := [_, _]) C dX10_makeWays_1 (by decide) rfl rfl ?_
  exact loop1 6 0 S rfl vs_fr.rf (fun k' n hk hn => by omega)
set_option maxRecDepth 20000 in
theorem c_X10_waysFor (g : vv_G) (S : vs_S) (hS : nx_ok S) (law : Nat) (hl : law ≤ 3) (hs : S.1 0 = nI law) (hc : cx_ok S) (n k : Nat) (hn : n ≤ 400) (hk : k ≤ 5) : vs_KI g yX10_waysFor cX10_waysFor 3 (some .int) 6 [vv_r g 5, .int (nI n), .int (nI k)] S (fun r S1 => r = cv (np_lx law) n k ∧ cx_ok S1 ∧ vs_fr [3] [9, 10, 11, 12, 13, 14] [] S S1) := by
  refine vs_ofI (lv := [_, _, _]) mb_X10_waysFor (Nat.le_of_ble_eq_true rfl) rfl (fun x C F => ?_)
  have fin : ∀ (S2 : vs_S), cx_D (np_lx law) S2 → cx_ok S2 → vs_fr [3] [9, 10, 11, 12, 13, 14] [] S S2 → vv_V g x 3 0 0 29 [some (vv_r g 5), some (.int (nI n)), some (.int (nI k))] [] (vs_cells g S2) := by
    intro S2 hD ok2 fr
    refine vv_aload_n C dX10_waysFor_29 rfl ?_
    refine gf_X10_ways C dX10_waysFor_30 fg_X10_20 ?_
    refine vv_iload_n C dX10_waysFor_33 rfl ?_
    refine aa_ways C dX10_waysFor_34 (xn_in (by omega) (by omega)) ?_
    refine vs_eqr (v9 := 9 + k) (by rw [xn_cl (by omega)]) ?_
    refine vv_iload_n C dX10_waysFor_35 rfl ?_
    refine ld_ways C dX10_waysFor_36 (by omega) (xn_in (by omega) (by omega)) ?_
    refine vs_eqi (v9 := cv (np_lx law) n k) (by rw [xn_cl (by omega), hD k n (by omega) hn, cw_hi 400 hn]; rfl) ?_
    exact vs_iret C F dX10_waysFor_37 rfl ⟨rfl, ok2, fr⟩
  refine vv_aload_n C dX10_waysFor_0 rfl ?_
  refine gf_X10_waysLaw C dX10_waysFor_1 fg_X10_27 ?_
  refine vv_aload_n C dX10_waysFor_4 rfl ?_
  refine gf_X10_laws C dX10_waysFor_5 fg_X10_30 ?_
  refine vs_caliF C dX10_waysFor_8 (c_X1_inForce g S) mb_X1_inForce mv_X1_inForce lk_X10_34 ce_4 rfl rfl rfl rfl ⟨Nat.le_of_ble_eq_true rfl, Nat.le_of_ble_eq_true rfl, Nat.le_of_ble_eq_true rfl⟩ ?_
  refine vv_icmp_eq (tgt := 29) C dX10_waysFor_11 (by decide) (fun q11 => ?_) (fun q11 => ?_)
  · rcases hc with h2 | ⟨l, h3, h4, h5⟩
    · exact absurd (h2.symm.trans (q11.trans hs)) (by
        intro z
        have := congrArg Int32.toInt z
        rw [xn_toInt (by omega)] at this
        have e2 : (-2 : Int32).toInt = -2 := rfl
        omega)
    · have e : l = law := (xn_eq (by omega) (by omega)).mp (h4.symm.trans (q11.trans hs))
      subst e
      exact fin S h5 (Or.inr ⟨l, h3, h4, h5⟩) vs_fr.rf
  · skip
    refine vv_aload_n C dX10_waysFor_14 rfl ?_
    refine vv_aload_n C dX10_waysFor_15 rfl ?_
    refine gf_X10_laws C dX10_waysFor_16 fg_X10_30 ?_
    refine vs_caliF C dX10_waysFor_19 (c_X1_inForce g S) mb_X1_inForce mv_X1_inForce lk_X10_34 ce_4 rfl rfl rfl rfl ⟨Nat.le_of_ble_eq_true rfl, Nat.le_of_ble_eq_true rfl, Nat.le_of_ble_eq_true rfl⟩ ?_
    refine pf_X10_waysLaw C dX10_waysFor_22 fp_X10_27 ?_
    refine vv_aload_n C dX10_waysFor_25 rfl ?_
    refine vs_callv C dX10_waysFor_26 (c_X10_makeWays g (vs_us S 3 (S.1 0)) hS law hl hs) mb_X10_makeWays mv_X10_makeWays lk_X10_63 ce_5 rfl rfl rfl rfl ⟨Nat.le_of_ble_eq_true rfl, Nat.le_of_ble_eq_true rfl, Nat.le_of_ble_eq_true rfl⟩ (fun S26 p26 => ?_)
    obtain ⟨hD, f26⟩ := p26
    have e2 : S26.1 3 = nI law := (f26.1 3 (by decide)).trans hs
    exact fin S26 hD (Or.inr ⟨law, hl, e2, hD⟩) ((vs_fr.rf.us (by decide)).tr (f26.wd (by decide) (by decide) (by decide)))
      
set_option maxRecDepth 20000 in
theorem c_X11_counted (g : vv_G) (S : vs_S) (hS : nx_ok S) (law : Nat) (hl : law ≤ 3) (hs : S.1 0 = nI law) (hc : cx_ok S) (n k : Int32) : vs_KI g yX11_counted cX11_counted 3 (some .int) 7 [vv_r g 0, .int n, .int k] S (fun r S1 => r = (if (vs_w n 0 400 && vs_w k 1 5) = true then cv (np_lx law) n.toNatClampNeg k.toNatClampNeg else -1) ∧ cx_ok S1 ∧ vs_fr [3] [9, 10, 11, 12, 13, 14] [] S S1) := by
  refine vs_ofI (lv := [_, _, _]) mb_X11_counted (Nat.le_of_ble_eq_true rfl) rfl (fun x C F => ?_)
  refine vv_iload_n C dX11_counted_0 rfl ?_
  refine vv_iconst C dX11_counted_1 ic_0 ?_
  refine vv_sipush C dX11_counted_2 sp_400 ?_
  refine vs_calsiF C dX11_counted_5 (c_X11_within g S _ _ _) mb_X11_within ms_X11_within lk_X11_94 rfl rfl ⟨Nat.le_of_ble_eq_true rfl, Nat.le_of_ble_eq_true rfl, Nat.le_of_ble_eq_true rfl⟩ ?_
  refine vv_if_eq (tgt := 20) C dX11_counted_8 (by decide) (fun q8 => ?_) (fun q8 => ?_)
  · have hw : ¬ (vs_w n 0 400 && vs_w k 1 5) = true := by rw [show vs_w n 0 400 = false from vs_b0.mp q8, Bool.false_and]; decide
    refine vv_iconst C dX11_counted_20 ic_m1 ?_
    exact vs_iret C F dX11_counted_21 rfl ⟨by rw [if_neg hw], hc, vs_fr.rf⟩
  · have w1 : vs_w n 0 400 = true := vs_b1.mp q8
    refine vv_iload_n C dX11_counted_11 rfl ?_
    refine vv_iconst C dX11_counted_12 ic_1 ?_
    refine vv_iconst C dX11_counted_13 ic_5 ?_
    refine vs_calsiF C dX11_counted_14 (c_X11_within g S _ _ _) mb_X11_within ms_X11_within lk_X11_94 rfl rfl ⟨Nat.le_of_ble_eq_true rfl, Nat.le_of_ble_eq_true rfl, Nat.le_of_ble_eq_true rfl⟩ ?_
    refine vv_if_ne (tgt := 22) C dX11_counted_17 (by decide) (fun q17 => ?_) (fun q17 => ?_)
    · have w2 : vs_w k 1 5 = true := vs_b1.mp q17
      have hw : (vs_w n 0 400 && vs_w k 1 5) = true := by rw [w1, w2]; rfl
      obtain ⟨n1, _, hn2, en⟩ := vs_wN (a := 0) (b := 400) (by omega) (by omega) w1
      obtain ⟨k1, hk1, hk2, ek⟩ := vs_wN (a := 1) (b := 5) (by omega) (by omega) w2
      subst en
      subst ek
      refine vv_aload_n C dX11_counted_22 rfl ?_
      refine gf_X11_sums C dX11_counted_23 fg_X11_30 ?_
      refine vv_iload_n C dX11_counted_26 rfl ?_
      refine vv_iload_n C dX11_counted_27 rfl ?_
      refine vs_calli C dX11_counted_28 (c_X10_waysFor g S hS law hl hs hc n1 k1 (by omega) (by omega)) mb_X10_waysFor mv_X10_waysFor lk_X11_152 ce_5 rfl rfl rfl rfl ⟨Nat.le_of_ble_eq_true rfl, Nat.le_of_ble_eq_true rfl, Nat.le_of_ble_eq_true rfl⟩ (fun r28 S28 p28 => ?_)
      exact vs_iret C F dX11_counted_31 rfl ⟨by rw [if_pos hw, xn_cl (by omega), xn_cl (by omega)]; exact p28.1, p28.2⟩
    · have hw : ¬ (vs_w n 0 400 && vs_w k 1 5) = true := by rw [show vs_w k 1 5 = false from vs_b0.mp q17, Bool.and_false]; decide
      refine vv_iconst C dX11_counted_20 ic_m1 ?_
      exact vs_iret C F dX11_counted_21 rfl ⟨by rw [if_neg hw], hc, vs_fr.rf⟩
