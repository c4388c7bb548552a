theorem np_dr {l : List Nat} {i x : Nat} (h : l[i]? = some x) : l.drop i = x :: l.drop (i + 1) := by
  have h1 := (List.getElem?_eq_some_iff.mp h)
  obtain ⟨h2, h3⟩ := h1
  rw [List.drop_eq_getElem_cons h2, h3]
def np_ent (l : List Nat) (n : Nat) : Prop := ∀ x ∈ l, 2 ≤ x ∧ x ≤ n
theorem xn_if1 {a : Nat} {v : Int64} (ha : a < 2 ^ 63) (hv : v = lN a) : lg_cmp v 1 = 0 ↔ a = 1 := by rw [hv]; exact xn_ieq1 ha
set_option maxRecDepth 20000 in
theorem c_X3_proves (g : vv_G) (S : vs_S) (n a : Nat) (l : List Nat) (h3 : 3 ≤ n) (hn : n ≤ 1000000000) (ha : a < 2 ^ 31) (hl32 : l.length ≤ 32) (hent : np_ent l n) (hf : np_has (S.2.1 3) l) : vs_FI g yX3_proves cX3_proves 5 (some .boolean) 3 [vv_r g 1, .int (nI n), .int (nI a), .int (nI l.length)] S (vs_b (np_pg l n a)) S := by
  have hml0 : a ^ (n - 1) % n < n := Nat.mod_lt _ (by omega)
  refine vs_ofI (lv := [_, _, _, _, _]) mb_X3_proves (Nat.le_of_ble_eq_true rfl) rfl (fun x C F => ?_)
  refine vv_iload_n C dX3_proves_0 rfl ?_
  refine vv_i2l C dX3_proves_1 ?_
  refine vs_eql (v9 := lN a) (xn_i2l (by omega)) ?_
  refine vv_iload_n C dX3_proves_2 rfl ?_
  refine vv_iconst C dX3_proves_3 ic_1 ?_
  refine vv_isub C dX3_proves_4 ?_
  refine vs_eqi (v9 := nI (n - 1)) (by rw [xn_lit, xn_sub (by omega)]) ?_
  refine vv_i2l C dX3_proves_5 ?_
  refine vs_eql (v9 := lN (n - 1)) (xn_i2l (by omega)) ?_
  refine vv_iload_n C dX3_proves_6 rfl ?_
  refine vv_i2l C dX3_proves_7 ?_
  refine vs_eql (v9 := lN n) (xn_i2l (by omega)) ?_
  refine vs_calslF C dX3_proves_8 (c_X3_power g S a (n - 1) n (by omega) (by omega) (by omega) (by omega)) mb_X3_power ms_X3_power lk_X3_68 rfl rfl ⟨Nat.le_of_ble_eq_true rfl, Nat.le_of_ble_eq_true rfl, Nat.le_of_ble_eq_true rfl⟩ ?_
  refine vv_lconst C dX3_proves_11 lc_1 ?_
  refine vv_lcmp C dX3_proves_12 ?_
  refine vv_if_eq (tgt := 18) C dX3_proves_13 (by decide) (fun q13 => ?_) (fun q13 => ?_)
  · have hpw := (xn_ieq1 (by omega)).mp q13
    have loop : ∀ (m i : Nat), i + m = l.length → np_pg l n a = (l.drop i).all (fun q => !(a ^ ((n - 1) / q) % n == 1)) → vv_V g x 5 0 0 21 [some (vv_r g 1), some (.int (nI n)), some (.int (nI a)), some (.int (nI l.length)), some (.int (nI i))] [] (vs_cells g S) := by
      intro m
      induction m with
      | zero =>
        intro i h1 he
        have hi : i = l.length := by omega
        subst hi
        refine vv_iload C dX3_proves_21 rfl ?_
        refine vv_iload_n C dX3_proves_23 rfl ?_
        refine vv_icmp_ge (tgt := 79) C dX3_proves_24 (by decide) (fun q24 => ?_) (fun q24 => ?_)
        · refine vv_iconst C dX3_proves_79 ic_1 ?_
          exact vs_zret C F dX3_proves_80 rfl rfl ⟨by rw [he, List.drop_length]; rfl, rfl⟩
        · exact absurd (Int32.le_refl _) q24
      | succ m ih =>
        intro i h1 he
        obtain ⟨q, hq0⟩ : ∃ q, l[i]? = some q := ⟨l[i], List.getElem?_eq_getElem (by omega)⟩
        have hq := hf i q hq0
        have hqe := hent q (List.mem_of_getElem? hq0)
        have hdl := Nat.div_le_self (n - 1) q
        have hml : a ^ ((n - 1) / q) % n < n := Nat.mod_lt _ (by omega)
        rw [np_dr hq0, List.all_cons] at he
        refine vv_iload C dX3_proves_21 rfl ?_
        refine vv_iload_n C dX3_proves_23 rfl ?_
        refine vv_icmp_ge (tgt := 79) C dX3_proves_24 (by decide) (fun q24 => ?_) (fun q24 => ?_)
        · exact absurd q24 (by rw [xn_le (by omega) (by omega)]; omega)
        · refine vv_iload C dX3_proves_27 rfl ?_
          refine vv_aload_n C dX3_proves_29 rfl ?_
          refine gf_X3_list C dX3_proves_30 fg_X3_15 ?_
          refine ln_3 C dX3_proves_33 ?_
          refine vv_icmp_ge (tgt := 79) C dX3_proves_34 (by decide) (fun q34 => ?_) (fun q34 => ?_)
          · exact absurd q34 (by rw [xn_lit, xn_le (by omega) (by omega)]; omega)
          · refine vv_aload_n C dX3_proves_37 rfl ?_
            refine gf_X3_list C dX3_proves_38 fg_X3_15 ?_
            refine vv_iload C dX3_proves_41 rfl ?_
            refine ld_3 C dX3_proves_43 (xn_in (by omega) (by omega)) ?_
            refine vs_eqi (v9 := nI q) (by rw [xn_cl (by omega)]; exact hq) ?_
            refine vv_if_le (tgt := 73) C dX3_proves_44 (by decide) (fun q44 => ?_) (fun q44 => ?_)
            · exact absurd q44 (by rw [xn_lit, xn_le (by omega) (by omega)]; omega)
            · refine vv_iload_n C dX3_proves_47 rfl ?_
              refine vv_i2l C dX3_proves_48 ?_
              refine vs_eql (v9 := lN a) (xn_i2l (by omega)) ?_
              refine vv_iload_n C dX3_proves_49 rfl ?_
              refine vv_iconst C dX3_proves_50 ic_1 ?_
              refine vv_isub C dX3_proves_51 ?_
              refine vs_eqi (v9 := nI (n - 1)) (by rw [xn_lit, xn_sub (by omega)]) ?_
              refine vv_aload_n C dX3_proves_52 rfl ?_
              refine gf_X3_list C dX3_proves_53 fg_X3_15 ?_
              refine vv_iload C dX3_proves_56 rfl ?_
              refine ld_3 C dX3_proves_58 (xn_in (by omega) (by omega)) ?_
              refine vs_eqi (v9 := nI q) (by rw [xn_cl (by omega)]; exact hq) ?_
              refine vv_idiv C dX3_proves_59 (by rw [xn_lit, xn_eq (by omega) (by omega)]; omega) ?_
              refine vs_eqi (v9 := nI ((n - 1) / q)) (xn_div (by omega) (by omega)) ?_
              refine vv_i2l C dX3_proves_60 ?_
              refine vs_eql (v9 := lN ((n - 1) / q)) (xn_i2l (by omega)) ?_
              refine vv_iload_n C dX3_proves_61 rfl ?_
              refine vv_i2l C dX3_proves_62 ?_
              refine vs_eql (v9 := lN n) (xn_i2l (by omega)) ?_
              refine vs_calslF C dX3_proves_63 (c_X3_power g S a ((n - 1) / q) n (by omega) (by omega) (by omega) (by omega)) mb_X3_power ms_X3_power lk_X3_68 rfl rfl ⟨Nat.le_of_ble_eq_true rfl, Nat.le_of_ble_eq_true rfl, Nat.le_of_ble_eq_true rfl⟩ ?_
              refine vv_lconst C dX3_proves_66 lc_1 ?_
              refine vv_lcmp C dX3_proves_67 ?_
              refine vv_if_ne (tgt := 73) C dX3_proves_68 (by decide) (fun q68 => ?_) (fun q68 => ?_)
              · refine vw_iinc (lv9 := [_, _, _, _, _]) C dX3_proves_73 rfl ic_1 (by decide) rfl rfl ?_
                refine vv_goto (tgt := 21) C dX3_proves_76 (by decide) ?_
                rw [nI_1]
                exact ih (i + 1) (by omega) (by rw [he, beq_false_of_ne (fun z => q68 ((xn_ieq1 (by omega)).mpr z))]; rfl)
              · refine vv_iconst C dX3_proves_71 ic_0 ?_
                exact vs_zret C F dX3_proves_72 rfl rfl ⟨by rw [he, (xn_ieq1 (by omega)).mp q68]; rfl, rfl⟩
    refine vv_iconst C dX3_proves_18 ic_0 ?_
    refine vw_istore (lv9 := [_, _, _, _, _]) C dX3_proves_19 (by decide) rfl rfl ?_
    exact loop l.length 0 (by omega) (by unfold np_pg; rw [hpw]; rfl)
  · refine vv_iconst C dX3_proves_16 ic_0 ?_
    exact vs_zret C F dX3_proves_17 rfl rfl ⟨by unfold np_pg; rw [beq_false_of_ne (fun z => q13 ((xn_ieq1 (by omega)).mpr z))]; rfl, rfl⟩
set_option maxRecDepth 20000 in
theorem c_X12_isProof (g : vv_G) (S : vs_S) (n a : Nat) (l : List Nat) (h3 : 3 ≤ n) (hn : n ≤ 1000000000) (ha : a < 2 ^ 31) (hl32 : l.length ≤ 32) (hent : np_ent l n) (hf : np_has (S.2.1 71) l) (hln : S.1 25 = nI l.length) : vs_FI g yX12_isProof cX12_isProof 4 (some .boolean) 2 [vv_r g 65, .int (nI n), .int (nI a)] S (vs_b (np_pg l n a)) S := by
  have hml0 : a ^ (n - 1) % n < n := Nat.mod_lt _ (by omega)
  refine vs_ofI (lv := [_, _, _, _]) mb_X12_isProof (Nat.le_of_ble_eq_true rfl) rfl (fun x C F => ?_)
  refine vv_iload_n C dX12_isProof_0 rfl ?_
  refine vv_i2l C dX12_isProof_1 ?_
  refine vs_eql (v9 := lN a) (xn_i2l (by omega)) ?_
  refine vv_iload_n C dX12_isProof_2 rfl ?_
  refine vv_iconst C dX12_isProof_3 ic_1 ?_
  refine vv_isub C dX12_isProof_4 ?_
  refine vs_eqi (v9 := nI (n - 1)) (by rw [xn_lit, xn_sub (by omega)]) ?_
  refine vv_iload_n C dX12_isProof_5 rfl ?_
  refine vv_i2l C dX12_isProof_6 ?_
  refine vs_eql (v9 := lN n) (xn_i2l (by omega)) ?_
  refine vs_calslF C dX12_isProof_7 (c_X12_power g S a (n - 1) n (by omega) hn (by omega) (by omega)) mb_X12_power ms_X12_power lk_X12_151 rfl rfl ⟨Nat.le_of_ble_eq_true rfl, Nat.le_of_ble_eq_true rfl, Nat.le_of_ble_eq_true rfl⟩ ?_
  refine vv_lconst C dX12_isProof_10 lc_1 ?_
  refine vv_lcmp C dX12_isProof_11 ?_
  refine vv_if_eq (tgt := 17) C dX12_isProof_12 (by decide) (fun q12 => ?_) (fun q12 => ?_)
  · have hpw := (xn_ieq1 (by omega)).mp q12
    have loop : ∀ (m i : Nat), i + m = l.length → np_pg l n a = (l.drop i).all (fun q => !(a ^ ((n - 1) / q) % n == 1)) → vv_V g x 4 0 0 19 [some (vv_r g 65), some (.int (nI n)), some (.int (nI a)), some (.int (nI i))] [] (vs_cells g S) := by
      intro m
      induction m with
      | zero =>
        intro i h1 he
        have hi : i = l.length := by omega
        subst hi
        refine vv_iload_n C dX12_isProof_19 rfl ?_
        refine vv_aload_n C dX12_isProof_20 rfl ?_
        refine gf_X12_partMany C dX12_isProof_21 fg_X12_142 ?_
        refine vs_eqi (v9 := nI l.length) (hln) ?_
        refine vv_icmp_ge (tgt := 57) C dX12_isProof_24 (by decide) (fun q24 => ?_) (fun q24 => ?_)
        · refine vv_iconst C dX12_isProof_57 ic_1 ?_
          exact vs_zret C F dX12_isProof_58 rfl rfl ⟨by rw [he, List.drop_length]; rfl, rfl⟩
        · exact absurd (Int32.le_refl _) q24
      | succ m ih =>
        intro i h1 he
        obtain ⟨q, hq0⟩ : ∃ q, l[i]? = some q := ⟨l[i], List.getElem?_eq_getElem (by omega)⟩
        have hq := hf i q hq0
        have hqe := hent q (List.mem_of_getElem? hq0)
        have hdl := Nat.div_le_self (n - 1) q
        have hml : a ^ ((n - 1) / q) % n < n := Nat.mod_lt _ (by omega)
        rw [np_dr hq0, List.all_cons] at he
        refine vv_iload_n C dX12_isProof_19 rfl ?_
        refine vv_aload_n C dX12_isProof_20 rfl ?_
        refine gf_X12_partMany C dX12_isProof_21 fg_X12_142 ?_
        refine vs_eqi (v9 := nI l.length) (hln) ?_
        refine vv_icmp_ge (tgt := 57) C dX12_isProof_24 (by decide) (fun q24 => ?_) (fun q24 => ?_)
        · exact absurd q24 (by rw [xn_le (by omega) (by omega)]; omega)
        · refine vv_iload_n C dX12_isProof_27 rfl ?_
          refine vv_i2l C dX12_isProof_28 ?_
          refine vs_eql (v9 := lN a) (xn_i2l (by omega)) ?_
          refine vv_iload_n C dX12_isProof_29 rfl ?_
          refine vv_iconst C dX12_isProof_30 ic_1 ?_
          refine vv_isub C dX12_isProof_31 ?_
          refine vs_eqi (v9 := nI (n - 1)) (by rw [xn_lit, xn_sub (by omega)]) ?_
          refine vv_aload_n C dX12_isProof_32 rfl ?_
          refine gf_X12_partOf C dX12_isProof_33 fg_X12_27 ?_
          refine vv_iload_n C dX12_isProof_36 rfl ?_
          refine ld_71 C dX12_isProof_37 (xn_in (by omega) (by omega)) ?_
          refine vs_eqi (v9 := nI q) (by rw [xn_cl (by omega)]; exact hq) ?_
          refine vv_idiv C dX12_isProof_38 (by rw [xn_lit, xn_eq (by omega) (by omega)]; omega) ?_
          refine vs_eqi (v9 := nI ((n - 1) / q)) (xn_div (by omega) (by omega)) ?_
          refine vv_iload_n C dX12_isProof_39 rfl ?_
          refine vv_i2l C dX12_isProof_40 ?_
          refine vs_eql (v9 := lN n) (xn_i2l (by omega)) ?_
          refine vs_calslF C dX12_isProof_41 (c_X12_power g S a ((n - 1) / q) n (by omega) hn (by omega) (by omega)) mb_X12_power ms_X12_power lk_X12_151 rfl rfl ⟨Nat.le_of_ble_eq_true rfl, Nat.le_of_ble_eq_true rfl, Nat.le_of_ble_eq_true rfl⟩ ?_
          refine vv_lconst C dX12_isProof_44 lc_1 ?_
          refine vv_lcmp C dX12_isProof_45 ?_
          refine vv_if_ne (tgt := 51) C dX12_isProof_46 (by decide) (fun q46 => ?_) (fun q46 => ?_)
          · refine vw_iinc (lv9 := [_, _, _, _]) C dX12_isProof_51 rfl ic_1 (by decide) rfl rfl ?_
            refine vv_goto (tgt := 19) C dX12_isProof_54 (by decide) ?_
            rw [nI_1]
            exact ih (i + 1) (by omega) (by rw [he, beq_false_of_ne (fun z => q46 ((xn_ieq1 (by omega)).mpr z))]; rfl)
          · refine vv_iconst C dX12_isProof_49 ic_0 ?_
            exact vs_zret C F dX12_isProof_50 rfl rfl ⟨by rw [he, (xn_ieq1 (by omega)).mp q46]; rfl, rfl⟩
    refine vv_iconst C dX12_isProof_17 ic_0 ?_
    refine vw_istore_n (lv9 := [_, _, _, _]) C dX12_isProof_18 (by decide) rfl rfl ?_
    exact loop l.length 0 (by omega) (by unfold np_pg; rw [hpw]; rfl)
  · refine vv_iconst C dX12_isProof_15 ic_0 ?_
    exact vs_zret C F dX12_isProof_16 rfl rfl ⟨by unfold np_pg; rw [beq_false_of_ne (fun z => q12 ((xn_ieq1 (by omega)).mpr z))]; rfl, rfl⟩
set_option maxRecDepth 20000 in
theorem c_X3_leastProof (g : vv_G) (S : vs_S) (hS : nx_ok S) (n : Nat) (h3 : 3 ≤ n) (hn : n ≤ 1000000000) : vs_KI g yX3_leastProof cX3_leastProof 4 (some .int) 6 [vv_r g 1, .int (nI n)] S (fun r S1 => r = (if np_wx n = true then np_fp (np_pg (np_li np_xl 32 (n - 1)) n) (n - 2) 2 else -2) ∧ ∃ fa, S1 = vs_ua S 3 fa) := by
  refine vs_ofI (lv := [_, _, _, _]) mb_X3_leastProof (Nat.le_of_ble_eq_true rfl) rfl (fun x C F => ?_)
  refine vv_aload_n C dX3_leastProof_0 rfl ?_
  refine vv_iload_n C dX3_leastProof_1 rfl ?_
  refine vv_i2l C dX3_leastProof_2 ?_
  refine vs_eql (v9 := lN n) (xn_i2l (by omega)) ?_
  refine vs_caliF C dX3_leastProof_3 (c_X3_isWhole g S hS n (by omega)) mb_X3_isWhole mv_X3_isWhole lk_X3_49 ce_1 rfl rfl rfl rfl ⟨Nat.le_of_ble_eq_true rfl, Nat.le_of_ble_eq_true rfl, Nat.le_of_ble_eq_true rfl⟩ ?_
  refine vv_if_ne (tgt := 12) C dX3_leastProof_6 (by decide) (fun q6 => ?_) (fun q6 => ?_)
  · have hw := vs_b1.mp q6
    refine vv_aload_n C dX3_leastProof_12 rfl ?_
    refine vv_iload_n C dX3_leastProof_13 rfl ?_
    refine vv_iconst C dX3_leastProof_14 ic_1 ?_
    refine vv_isub C dX3_leastProof_15 ?_
    refine vs_eqi (v9 := nI (n - 1)) (by rw [xn_lit, xn_sub (by omega)]) ?_
    refine vs_calli C dX3_leastProof_16 (c_X3_listParts g S hS (n - 1) (by omega) (by omega)) mb_X3_listParts mv_X3_listParts lk_X3_60 ce_1 rfl rfl rfl rfl ⟨Nat.le_of_ble_eq_true rfl, Nat.le_of_ble_eq_true rfl, Nat.le_of_ble_eq_true rfl⟩ (fun r16 S16 p16 => ?_)
    obtain ⟨e1, fa, e2, hf⟩ := p16
    subst e1 e2
    have hl32 := np_li_len (Q := np_xl) 32 (n - 1)
    have hent : np_ent (np_li np_xl 32 (n - 1)) n := fun x hx => np_li_ge (fun n h => np_xl_b h) 32 (n - 1) (by omega : n - 1 ≤ n) x hx
    generalize hll : (np_li np_xl 32 (n - 1)) = l at hl32 hent hf F
    have loop : ∀ (f a : Nat), a + f = n → 2 ≤ a → np_fp (np_pg l n) f a = np_fp (np_pg l n) (n - 2) 2 → vv_V g x 4 0 0 22 [some (vv_r g 1), some (.int (nI n)), some (.int (nI l.length)), some (.int (nI a))] [] (vs_cells g (vs_ua S 3 fa)) := by
      intro f
      induction f with
      | zero =>
        intro a h1 h2 he
        have ha : a = n := by omega
        subst ha
        refine vv_iload_n C dX3_leastProof_22 rfl ?_
        refine vv_iload_n C dX3_leastProof_23 rfl ?_
        refine vv_icmp_ge (tgt := 45) C dX3_leastProof_24 (by decide) (fun q24 => ?_) (fun q24 => ?_)
        · refine vv_bipush C dX3_leastProof_45 bp_m2 ?_
          exact vs_iret C F dX3_leastProof_47 rfl ⟨by rw [hw, if_pos rfl, ← he]; rfl, fa, rfl⟩
        · exact absurd (Int32.le_refl _) q24
      | succ f ih =>
        intro a h1 h2 he
        rw [np_fp1] at he
        refine vv_iload_n C dX3_leastProof_22 rfl ?_
        refine vv_iload_n C dX3_leastProof_23 rfl ?_
        refine vv_icmp_ge (tgt := 45) C dX3_leastProof_24 (by decide) (fun q24 => ?_) (fun q24 => ?_)
        · exact absurd q24 (by rw [xn_le (by omega) (by omega)]; omega)
        · refine vv_aload_n C dX3_leastProof_27 rfl ?_
          refine vv_iload_n C dX3_leastProof_28 rfl ?_
          refine vv_iload_n C dX3_leastProof_29 rfl ?_
          refine vv_iload_n C dX3_leastProof_30 rfl ?_
          refine vs_caliF C dX3_leastProof_31 (c_X3_proves g (vs_ua S 3 fa) n a l h3 hn (by omega) hl32 hent hf) mb_X3_proves mv_X3_proves lk_X3_64 ce_1 rfl rfl rfl rfl ⟨Nat.le_of_ble_eq_true rfl, Nat.le_of_ble_eq_true rfl, Nat.le_of_ble_eq_true rfl⟩ ?_
          refine vv_if_eq (tgt := 39) C dX3_leastProof_34 (by decide) (fun q34 => ?_) (fun q34 => ?_)
          · rw [if_neg (by rw [vs_b0.mp q34]; decide)] at he
            refine vw_iinc (lv9 := [_, _, _, _]) C dX3_leastProof_39 rfl ic_1 (by decide) rfl rfl ?_
            refine vv_goto (tgt := 22) C dX3_leastProof_42 (by decide) ?_
            rw [nI_1]
            exact ih (a + 1) (by omega) (by omega) he
          · rw [if_pos (vs_b1.mp q34)] at he
            refine vv_iload_n C dX3_leastProof_37 rfl ?_
            exact vs_iret C F dX3_leastProof_38 rfl ⟨by rw [hw, if_pos rfl, ← he], fa, rfl⟩
    refine vw_istore_n (lv9 := [_, _, _, _]) C dX3_leastProof_19 (by decide) rfl rfl ?_
    refine vv_iconst C dX3_leastProof_20 ic_2 ?_
    refine vw_istore_n (lv9 := [_, _, _, _]) C dX3_leastProof_21 (by decide) rfl rfl ?_
    exact loop (n - 2) 2 (by omega) (Nat.le_refl _) rfl
  · have hw := vs_b0.mp q6
    refine vv_bipush C dX3_leastProof_9 bp_m2 ?_
    exact vs_iret C F dX3_leastProof_11 rfl ⟨by rw [hw]; rfl, S.2.1 3, by rw [vs_ua0]⟩
