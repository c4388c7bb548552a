def nm_pl (S : vs_S) (fa : Nat → Int32) (m : Nat) : vs_S := vs_us (vs_ua S 71 fa) 25 (nI m)
/-- halving ends the list -/
theorem np_li_more : ∀ (f n : Nat), n < 2 ^ f → np_li np_lp (f + 1) n = np_li np_lp f n
  | 0, n, h => by
    have hn : n ≤ 1 := by omega
    rw [np_li0 hn, np_li0 hn]
  | f + 1, n, h => by
    by_cases h1 : n ≤ 1
    · rw [np_li0 h1, np_li0 h1]
    · obtain ⟨b1, b2⟩ := np_lp_b (n := n) (by omega)
      have hmul : 2 * (n / np_lp n) ≤ n := Nat.le_trans (Nat.mul_le_mul_right _ b1) (Nat.mul_div_le n (np_lp n))
      rw [np_li1 h1, np_li1 h1, np_li_more f (n / np_lp n) (by rw [Nat.pow_succ] at h; omega)]
theorem np_li_st {n : Nat} (h : n < 2 ^ 31) : np_li np_lp 32 n = np_li np_lp 31 n := np_li_more 31 n h
set_option maxRecDepth 20000 in
theorem c_X12_findParts (g : vv_G) (S : vs_S) (n : Nat) (h1n : 1 ≤ n) (hn : n ≤ 1000000000) : vs_KV g yX12_findParts cX12_findParts 3 none 2 [vv_r g 65, .int (nI n)] S (fun S1 => vs_fr [25] [71] [] S S1 ∧ S1.1 25 = nI (np_li np_lp 32 n).length ∧ np_has (S1.2.1 71) (np_li np_lp 32 n)) := by
  refine vs_ofV (lv := [_, _, _]) mb_X12_findParts (Nat.le_of_ble_eq_true rfl) rfl (fun x C F => ?_)
  have loop : ∀ (f k : Nat) (l : List Nat) (fa : Nat → Int32) (S2 : vs_S), S2.1 25 = nI l.length → S2.2.1 71 = fa → vs_fr [25] [71] [] S S2 → l.length + f = 31 → 1 ≤ k → k < 2 ^ f → k ≤ 1000000000 → np_has fa l → np_li np_lp 32 n = l ++ np_li np_lp f k → vv_V g x 3 0 0 7 [some (vv_r g 65), some (.int (nI n)), some (.int (nI k))] [] (vs_cells g S2) := by
    intro f
    induction f with
    | zero =>
      intro k l fa S2 s1 s2 s4 h1 h2 hf h3 h4 he
      have hk : k = 1 := by omega
      subst hk
      refine vv_iload_n C dX12_findParts_7 rfl ?_
      refine vv_iconst C dX12_findParts_8 ic_1 ?_
      refine vv_icmp_le (tgt := 52) C dX12_findParts_9 (by decide) (fun q9 => ?_) (fun q9 => ?_)
      · exact vs_vret C F dX12_findParts_52 rfl ⟨s4, by rw [he]; show S2.1 25 = nI (l ++ []).length; rw [List.append_nil]; exact s1, by rw [he, s2]; show np_has fa (l ++ []); rw [List.append_nil]; exact h4⟩
      · exact absurd (by decide +kernel) q9
    | succ f ih =>
      intro k l fa S2 s1 s2 s4 h1 h2 hf h3 h4 he
      refine vv_iload_n C dX12_findParts_7 rfl ?_
      refine vv_iconst C dX12_findParts_8 ic_1 ?_
      refine vv_icmp_le (tgt := 52) C dX12_findParts_9 (by decide) (fun q9 => ?_) (fun q9 => ?_)
      · have hk : k ≤ 1 := by rw [xn_lit, xn_le (by omega) (by omega)] at q9; exact q9
        rw [np_li0 hk, List.append_nil] at he
        exact vs_vret C F dX12_findParts_52 rfl ⟨s4, by rw [he]; exact s1, by rw [he, s2]; exact h4⟩
      · have hk : ¬ k ≤ 1 := fun z => q9 (by rw [xn_lit, xn_le (by omega) (by omega)]; exact z)
        obtain ⟨b1, b2⟩ := np_lp_b (n := k) (by omega)
        have hmul : 2 * (k / np_lp k) ≤ k := Nat.le_trans (Nat.mul_le_mul_right _ b1) (Nat.mul_div_le k (np_lp k))
        rw [np_li1 hk] at he
        refine vv_aload_n C dX12_findParts_12 rfl ?_
        refine gf_X12_partOf C dX12_findParts_13 fg_X12_27 ?_
        refine vv_aload_n C dX12_findParts_16 rfl ?_
        refine gf_X12_partMany C dX12_findParts_17 fg_X12_142 ?_
        refine vs_eqi (v9 := nI l.length) (s1) ?_
        refine vv_iload_n C dX12_findParts_20 rfl ?_
        refine vv_i2l C dX12_findParts_21 ?_
        refine vs_eql (v9 := lN k) (xn_i2l (by omega)) ?_
        refine vs_calslF C dX12_findParts_22 (c_X12_leastPart g S2 k (by omega) (by omega)) mb_X12_leastPart ms_X12_leastPart lk_X12_104 rfl rfl ⟨Nat.le_of_ble_eq_true rfl, Nat.le_of_ble_eq_true rfl, Nat.le_of_ble_eq_true rfl⟩ ?_
        refine vv_l2i C dX12_findParts_25 ?_
        refine vs_eqi (v9 := nI (np_lp k)) (xn_l2i _) ?_
        refine st_71 C dX12_findParts_26 (xn_in (by omega) (by omega)) ?_
        refine vv_iload_n C dX12_findParts_27 rfl ?_
        refine vv_aload_n C dX12_findParts_28 rfl ?_
        refine gf_X12_partOf C dX12_findParts_29 fg_X12_27 ?_
        refine vv_aload_n C dX12_findParts_32 rfl ?_
        refine gf_X12_partMany C dX12_findParts_33 fg_X12_142 ?_
        refine vs_eqi (v9 := nI l.length) (s1) ?_
        refine ld_71 C dX12_findParts_36 (xn_in (n := l.length) (by omega) (by omega)) ?_
        refine vs_eqi (v9 := nI (np_lp k)) (by rw [xn_cl (show l.length < 2 ^ 31 by omega)]; exact pk_us) ?_
        refine vv_idiv C dX12_findParts_37 (by rw [xn_lit, xn_eq (by omega) (by omega)]; omega) ?_
        refine vs_eqi (v9 := nI (k / np_lp k)) (xn_div (by omega) (by omega)) ?_
        refine vw_istore_n (lv9 := [_, _, _]) C dX12_findParts_38 (by decide) rfl rfl ?_
        refine vv_aload_n C dX12_findParts_39 rfl ?_
        refine vv_dup C dX12_findParts_40 rfl ?_
        refine gf_X12_partMany C dX12_findParts_41 fg_X12_142 ?_
        refine vs_eqi (v9 := nI l.length) (s1) ?_
        refine vv_iconst C dX12_findParts_44 ic_1 ?_
        refine vv_iadd C dX12_findParts_45 ?_
        refine vs_eqi (v9 := nI (l.length + 1)) (nI_1 _) ?_
        refine pf_X12_partMany C dX12_findParts_46 fp_X12_142 ?_
        refine vv_goto (tgt := 7) C dX12_findParts_49 (by decide) ?_
        have hle := Nat.div_le_self k (np_lp k)
        have h9 := Nat.div_pos b2 (by omega : 0 < np_lp k)
        have hfa : S2.2.1 71 = fa := s2
        refine ih (k / np_lp k) (l ++ [np_lp k]) (upd fa l.length (nI (np_lp k))) _ ?_ ?_ ?_ (by rw [List.length_append]; show l.length + 1 + f = 31; omega) h9 (by rw [Nat.pow_succ] at hf; omega) (by omega) h4.push (by rw [he, List.append_assoc]; rfl)
        · rw [List.length_append]; rfl
        · show upd (S2.2.1 71) (nI l.length).toNatClampNeg _ = _
          rw [xn_cl (by omega), hfa]
        · exact (s4.ua (by decide)).us (by decide)
  refine vv_aload_n C dX12_findParts_0 rfl ?_
  refine vv_iconst C dX12_findParts_1 ic_0 ?_
  refine pf_X12_partMany C dX12_findParts_2 fp_X12_142 ?_
  refine vv_iload_n C dX12_findParts_5 rfl ?_
  refine vw_istore_n (lv9 := [_, _, _]) C dX12_findParts_6 (by decide) rfl rfl ?_
  have h32 : np_li np_lp 32 n = np_li np_lp 31 n := np_li_st (by omega)
  exact loop 31 n [] (S.2.1 71) _ rfl rfl (vs_fr.rf.us (by decide)) rfl h1n (by omega) hn (fun i x h => by simp at h) h32
