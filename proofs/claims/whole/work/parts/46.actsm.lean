theorem ac_eq {k : Nat} (hk : k < 8) (c : Nat) (hc : c < 8) (h : nI k = nI c) : k = c := (xn_eq (by omega) (by omega)).mp h
set_option maxRecDepth 20000 in
theorem c_X12_paysB (g : vv_G) (S : vs_S) (own : Nat) (self : Int32) (hown : own < 8) (h39 : S.1 39 = nI own) (h40 : S.1 40 = self) (l : List Nat) (ht : tM S l) (hlen : l.length < 2 ^ 28 + 64) (k : Nat) (hk8 : k < 8) (h1 : ¬ (k = 1 ∨ k = 4)) (h2 : ¬ (k = 5 ∨ k = 6)) (v : Int32) : vs_KI g yX12_paysAs cX12_paysAs 3 (some .int) 2 [vv_r g 65, .int (nI k), .int v] S (fun r S1 => r = ((v + self, [1])).1 ∧ tM S1 (l ++ ((v + self, [1])).2) ∧ vs_fr [38] [83] [] S S1) := by
  refine vs_ofI (lv := [_, _, _]) mb_X12_paysAs (Nat.le_of_ble_eq_true rfl) rfl (fun x C F => ?_)
  refine vv_iload_n C dX12_paysAs_0 rfl ?_
  refine vv_iconst C dX12_paysAs_1 ic_1 ?_
  refine vv_icmp_eq (tgt := 10) C dX12_paysAs_2 (by decide) (fun q2 => ?_) (fun q2 => ?_)
  · exact absurd (ac_eq hk8 1 (by omega) q2) (by omega)
  · skip
    refine vv_iload_n C dX12_paysAs_5 rfl ?_
    refine vv_iconst C dX12_paysAs_6 ic_4 ?_
    refine vv_icmp_ne (tgt := 25) C dX12_paysAs_7 (by decide) (fun q7 => ?_) (fun q7 => ?_)
    · skip
      refine vv_iload_n C dX12_paysAs_25 rfl ?_
      refine vv_iconst C dX12_paysAs_26 ic_5 ?_
      refine vv_icmp_eq (tgt := 36) C dX12_paysAs_27 (by decide) (fun q27 => ?_) (fun q27 => ?_)
      · exact absurd (ac_eq hk8 5 (by omega) q27) (by omega)
      · skip
        refine vv_iload_n C dX12_paysAs_30 rfl ?_
        refine vv_bipush C dX12_paysAs_31 bp_6 ?_
        refine vv_icmp_ne (tgt := 51) C dX12_paysAs_33 (by decide) (fun q33 => ?_) (fun q33 => ?_)
        · skip
          refine vv_aload_n C dX12_paysAs_51 rfl ?_
          refine vv_iconst C dX12_paysAs_52 ic_1 ?_
          refine vs_callv C dX12_paysAs_53 (c_X12_begins g S (l) ht (by omega) 1) mb_X12_begins mv_X12_begins lk_X12_320 ce_65 rfl rfl rfl rfl ⟨Nat.le_of_ble_eq_true rfl, Nat.le_of_ble_eq_true rfl, Nat.le_of_ble_eq_true rfl⟩ (fun S53 p53 => ?_)
          refine vv_iload_n C dX12_paysAs_56 rfl ?_
          refine vv_aload_n C dX12_paysAs_57 rfl ?_
          refine gf_X12_ownNumber C dX12_paysAs_58 fg_X12_326 ?_
          refine vs_eqi (v9 := self) ((p53.2.1 40 (by decide)).trans h40) ?_
          refine vv_iadd C dX12_paysAs_61 ?_
          exact vs_iret C F dX12_paysAs_62 rfl ⟨rfl, p53.1, p53.2⟩
        · exact absurd (ac_eq hk8 6 (by omega) q33) (by omega)
    · exact absurd (ac_eq hk8 4 (by omega) q7) (by omega)
set_option maxRecDepth 20000 in
theorem c_X12_paysAs (g : vv_G) (S : vs_S) (own : Nat) (self : Int32) (hown : own < 8) (h39 : S.1 39 = nI own) (h40 : S.1 40 = self) (l : List Nat) (ht : tM S l) (hlen : l.length < 2 ^ 28 + 48) (k : Nat) (hk8 : k < 8) (v : Int32) : vs_KI g yX12_paysAs cX12_paysAs 3 (some .int) 3 [vv_r g 65, .int (nI k), .int v] S (fun r S1 => r = (pS self k v).1 ∧ tM S1 (l ++ (pS self k v).2) ∧ vs_fr [38] [83] [] S S1) := by
  refine vs_ofI (lv := [_, _, _]) mb_X12_paysAs (Nat.le_of_ble_eq_true rfl) rfl (fun x C F => ?_)
  refine vv_iload_n C dX12_paysAs_0 rfl ?_
  refine vv_iconst C dX12_paysAs_1 ic_1 ?_
  refine vv_icmp_eq (tgt := 10) C dX12_paysAs_2 (by decide) (fun q2 => ?_) (fun q2 => ?_)
  · have hk : k = 1 := ac_eq hk8 1 (by omega) q2
    have hv : pS self k v = (v + self + 3, [20, 1]) := if_pos (by omega)
    refine vv_aload_n C dX12_paysAs_10 rfl ?_
    refine vv_bipush C dX12_paysAs_11 bp_20 ?_
    refine vs_callv C dX12_paysAs_13 (c_X12_begins g S (l) ht (by omega) 20) mb_X12_begins mv_X12_begins lk_X12_320 ce_65 rfl rfl rfl rfl ⟨Nat.le_of_ble_eq_true rfl, Nat.le_of_ble_eq_true rfl, Nat.le_of_ble_eq_true rfl⟩ (fun S13 p13 => ?_)
    refine vv_aload_n C dX12_paysAs_16 rfl ?_
    refine vv_iconst C dX12_paysAs_17 ic_0 ?_
    refine vv_iload_n C dX12_paysAs_18 rfl ?_
    refine vs_calli C dX12_paysAs_19 (c_X12_paysB g S13 own self hown (p13.2.1 39 (by decide) |>.trans h39) (p13.2.1 40 (by decide) |>.trans h40) _ p13.1 (by simp only [List.length_append, List.length_singleton]; omega) 0 (by omega) (by omega) (by omega) v) mb_X12_paysAs mv_X12_paysAs lk_X12_323 ce_65 rfl rfl rfl rfl ⟨Nat.le_of_ble_eq_true rfl, Nat.le_of_ble_eq_true rfl, Nat.le_of_ble_eq_true rfl⟩ (fun r19 S19 p19 => ?_)
    refine vv_iconst C dX12_paysAs_22 ic_3 ?_
    refine vv_iadd C dX12_paysAs_23 ?_
    exact vs_iret C F dX12_paysAs_24 rfl ⟨by rw [hv, p19.1], by rw [hv]; exact (by have t9 := p19.2.1; simpa only [List.append_assoc, List.singleton_append, List.cons_append, List.nil_append] using t9), p13.2.tr p19.2.2⟩
  · have hk1 : ¬ k = 1 := fun z => q2 (by rw [z]; rfl)
    refine vv_iload_n C dX12_paysAs_5 rfl ?_
    refine vv_iconst C dX12_paysAs_6 ic_4 ?_
    refine vv_icmp_ne (tgt := 25) C dX12_paysAs_7 (by decide) (fun q7 => ?_) (fun q7 => ?_)
    · have hk4 : ¬ k = 4 := fun z => q7 (by rw [z]; rfl)
      refine vv_iload_n C dX12_paysAs_25 rfl ?_
      refine vv_iconst C dX12_paysAs_26 ic_5 ?_
      refine vv_icmp_eq (tgt := 36) C dX12_paysAs_27 (by decide) (fun q27 => ?_) (fun q27 => ?_)
      · have hk : k = 5 := ac_eq hk8 5 (by omega) q27
        have hv : pS self k v = ((v + self) * 2, [60, 1]) := by unfold pS; rw [if_neg (by omega), if_pos (by omega)]
        refine vv_aload_n C dX12_paysAs_36 rfl ?_
        refine vv_bipush C dX12_paysAs_37 bp_60 ?_
        refine vs_callv C dX12_paysAs_39 (c_X12_begins g S (l) ht (by omega) 60) mb_X12_begins mv_X12_begins lk_X12_320 ce_65 rfl rfl rfl rfl ⟨Nat.le_of_ble_eq_true rfl, Nat.le_of_ble_eq_true rfl, Nat.le_of_ble_eq_true rfl⟩ (fun S39 p39 => ?_)
        refine vv_aload_n C dX12_paysAs_42 rfl ?_
        refine vv_iconst C dX12_paysAs_43 ic_0 ?_
        refine vv_iload_n C dX12_paysAs_44 rfl ?_
        refine vs_calli C dX12_paysAs_45 (c_X12_paysB g S39 own self hown (p39.2.1 39 (by decide) |>.trans h39) (p39.2.1 40 (by decide) |>.trans h40) _ p39.1 (by simp only [List.length_append, List.length_singleton]; omega) 0 (by omega) (by omega) (by omega) v) mb_X12_paysAs mv_X12_paysAs lk_X12_323 ce_65 rfl rfl rfl rfl ⟨Nat.le_of_ble_eq_true rfl, Nat.le_of_ble_eq_true rfl, Nat.le_of_ble_eq_true rfl⟩ (fun r45 S45 p45 => ?_)
        refine vv_iconst C dX12_paysAs_48 ic_2 ?_
        refine vv_imul C dX12_paysAs_49 ?_
        exact vs_iret C F dX12_paysAs_50 rfl ⟨by rw [hv, p45.1], by rw [hv]; exact (by have t9 := p45.2.1; simpa only [List.append_assoc, List.singleton_append, List.cons_append, List.nil_append] using t9), p39.2.tr p45.2.2⟩
      · have hk5 : ¬ k = 5 := fun z => q27 (by rw [z]; rfl)
        refine vv_iload_n C dX12_paysAs_30 rfl ?_
        refine vv_bipush C dX12_paysAs_31 bp_6 ?_
        refine vv_icmp_ne (tgt := 51) C dX12_paysAs_33 (by decide) (fun q33 => ?_) (fun q33 => ?_)
        · have hk6 : ¬ k = 6 := fun z => q33 (by rw [z]; rfl)
          have hv : pS self k v = (v + self, [1]) := by unfold pS; rw [if_neg (by omega), if_neg (by omega)]
          refine vv_aload_n C dX12_paysAs_51 rfl ?_
          refine vv_iconst C dX12_paysAs_52 ic_1 ?_
          refine vs_callv C dX12_paysAs_53 (c_X12_begins g S (l) ht (by omega) 1) mb_X12_begins mv_X12_begins lk_X12_320 ce_65 rfl rfl rfl rfl ⟨Nat.le_of_ble_eq_true rfl, Nat.le_of_ble_eq_true rfl, Nat.le_of_ble_eq_true rfl⟩ (fun S53 p53 => ?_)
          refine vv_iload_n C dX12_paysAs_56 rfl ?_
          refine vv_aload_n C dX12_paysAs_57 rfl ?_
          refine gf_X12_ownNumber C dX12_paysAs_58 fg_X12_326 ?_
          refine vs_eqi (v9 := self) ((p53.2.1 40 (by decide)).trans h40) ?_
          refine vv_iadd C dX12_paysAs_61 ?_
          exact vs_iret C F dX12_paysAs_62 rfl ⟨by rw [hv], by rw [hv]; exact p53.1, p53.2⟩
        · have hk : k = 6 := ac_eq hk8 6 (by omega) q33
          have hv : pS self k v = ((v + self) * 2, [60, 1]) := by unfold pS; rw [if_neg (by omega), if_pos (by omega)]
          refine vv_aload_n C dX12_paysAs_36 rfl ?_
          refine vv_bipush C dX12_paysAs_37 bp_60 ?_
          refine vs_callv C dX12_paysAs_39 (c_X12_begins g S (l) ht (by omega) 60) mb_X12_begins mv_X12_begins lk_X12_320 ce_65 rfl rfl rfl rfl ⟨Nat.le_of_ble_eq_true rfl, Nat.le_of_ble_eq_true rfl, Nat.le_of_ble_eq_true rfl⟩ (fun S39 p39 => ?_)
          refine vv_aload_n C dX12_paysAs_42 rfl ?_
          refine vv_iconst C dX12_paysAs_43 ic_0 ?_
          refine vv_iload_n C dX12_paysAs_44 rfl ?_
          refine vs_calli C dX12_paysAs_45 (c_X12_paysB g S39 own self hown (p39.2.1 39 (by decide) |>.trans h39) (p39.2.1 40 (by decide) |>.trans h40) _ p39.1 (by simp only [List.length_append, List.length_singleton]; omega) 0 (by omega) (by omega) (by omega) v) mb_X12_paysAs mv_X12_paysAs lk_X12_323 ce_65 rfl rfl rfl rfl ⟨Nat.le_of_ble_eq_true rfl, Nat.le_of_ble_eq_true rfl, Nat.le_of_ble_eq_true rfl⟩ (fun r45 S45 p45 => ?_)
          refine vv_iconst C dX12_paysAs_48 ic_2 ?_
          refine vv_imul C dX12_paysAs_49 ?_
          exact vs_iret C F dX12_paysAs_50 rfl ⟨by rw [hv, p45.1], by rw [hv]; exact (by have t9 := p45.2.1; simpa only [List.append_assoc, List.singleton_append, List.cons_append, List.nil_append] using t9), p39.2.tr p45.2.2⟩
    · have hk : k = 4 := ac_eq hk8 4 (by omega) q7
      have hv : pS self k v = (v + self + 3, [20, 1]) := if_pos (by omega)
      refine vv_aload_n C dX12_paysAs_10 rfl ?_
      refine vv_bipush C dX12_paysAs_11 bp_20 ?_
      refine vs_callv C dX12_paysAs_13 (c_X12_begins g S (l) ht (by omega) 20) mb_X12_begins mv_X12_begins lk_X12_320 ce_65 rfl rfl rfl rfl ⟨Nat.le_of_ble_eq_true rfl, Nat.le_of_ble_eq_true rfl, Nat.le_of_ble_eq_true rfl⟩ (fun S13 p13 => ?_)
      refine vv_aload_n C dX12_paysAs_16 rfl ?_
      refine vv_iconst C dX12_paysAs_17 ic_0 ?_
      refine vv_iload_n C dX12_paysAs_18 rfl ?_
      refine vs_calli C dX12_paysAs_19 (c_X12_paysB g S13 own self hown (p13.2.1 39 (by decide) |>.trans h39) (p13.2.1 40 (by decide) |>.trans h40) _ p13.1 (by simp only [List.length_append, List.length_singleton]; omega) 0 (by omega) (by omega) (by omega) v) mb_X12_paysAs mv_X12_paysAs lk_X12_323 ce_65 rfl rfl rfl rfl ⟨Nat.le_of_ble_eq_true rfl, Nat.le_of_ble_eq_true rfl, Nat.le_of_ble_eq_true rfl⟩ (fun r19 S19 p19 => ?_)
      refine vv_iconst C dX12_paysAs_22 ic_3 ?_
      refine vv_iadd C dX12_paysAs_23 ?_
      exact vs_iret C F dX12_paysAs_24 rfl ⟨by rw [hv, p19.1], by rw [hv]; exact (by have t9 := p19.2.1; simpa only [List.append_assoc, List.singleton_append, List.cons_append, List.nil_append] using t9), p13.2.tr p19.2.2⟩
set_option maxRecDepth 20000 in
theorem c_X12_partsB (g : vv_G) (S : vs_S) (own : Nat) (self : Int32) (hown : own < 8) (h39 : S.1 39 = nI own) (h40 : S.1 40 = self) (l : List Nat) (ht : tM S l) (hlen : l.length < 2 ^ 28 + 64) (k : Nat) (hk8 : k < 8) (h1 : ¬ k = 3) (h2 : ¬ k = 4) (v : Int32) : vs_KI g yX12_partsAs cX12_partsAs 4 (some .int) 2 [vv_r g 65, .int (nI k), .int v] S (fun r S1 => r = ((v ^^^ self, [11])).1 ∧ tM S1 (l ++ ((v ^^^ self, [11])).2) ∧ vs_fr [38] [83] [] S S1) := by
  refine vs_ofI (lv := [_, _, _, _]) mb_X12_partsAs (Nat.le_of_ble_eq_true rfl) rfl (fun x C F => ?_)
  refine vv_iload_n C dX12_partsAs_0 rfl ?_
  refine vv_iconst C dX12_partsAs_1 ic_3 ?_
  refine vv_icmp_ne (tgt := 20) C dX12_partsAs_2 (by decide) (fun q2 => ?_) (fun q2 => ?_)
  · skip
    refine vv_iload_n C dX12_partsAs_20 rfl ?_
    refine vv_iconst C dX12_partsAs_21 ic_4 ?_
    refine vv_icmp_ne (tgt := 50) C dX12_partsAs_22 (by decide) (fun q22 => ?_) (fun q22 => ?_)
    · skip
      refine vv_aload_n C dX12_partsAs_50 rfl ?_
      refine vv_bipush C dX12_partsAs_51 bp_11 ?_
      refine vs_callv C dX12_partsAs_53 (c_X12_begins g S (l) ht (by omega) 11) mb_X12_begins mv_X12_begins lk_X12_320 ce_65 rfl rfl rfl rfl ⟨Nat.le_of_ble_eq_true rfl, Nat.le_of_ble_eq_true rfl, Nat.le_of_ble_eq_true rfl⟩ (fun S53 p53 => ?_)
      refine vv_iload_n C dX12_partsAs_56 rfl ?_
      refine vv_aload_n C dX12_partsAs_57 rfl ?_
      refine gf_X12_ownNumber C dX12_partsAs_58 fg_X12_326 ?_
      refine vs_eqi (v9 := self) ((p53.2.1 40 (by decide)).trans h40) ?_
      refine vv_ixor C dX12_partsAs_61 ?_
      exact vs_iret C F dX12_partsAs_62 rfl ⟨rfl, p53.1, p53.2⟩
    · exact absurd (ac_eq hk8 4 (by omega) q22) (by omega)
  · exact absurd (ac_eq hk8 3 (by omega) q2) (by omega)
set_option maxRecDepth 20000 in
theorem c_X12_partsAs (g : vv_G) (S : vs_S) (own : Nat) (self : Int32) (hown : own < 8) (h39 : S.1 39 = nI own) (h40 : S.1 40 = self) (l : List Nat) (ht : tM S l) (hlen : l.length < 2 ^ 28 + 40) (k : Nat) (hk8 : k < 8) (v : Int32) : vs_KI g yX12_partsAs cX12_partsAs 4 (some .int) 4 [vv_r g 65, .int (nI k), .int v] S (fun r S1 => r = (qS own self k v).1 ∧ tM S1 (l ++ (qS own self k v).2) ∧ vs_fr [38] [83] [] S S1) := by
  refine vs_ofI (lv := [_, _, _, _]) mb_X12_partsAs (Nat.le_of_ble_eq_true rfl) rfl (fun x C F => ?_)
  refine vv_iload_n C dX12_partsAs_0 rfl ?_
  refine vv_iconst C dX12_partsAs_1 ic_3 ?_
  refine vv_icmp_ne (tgt := 20) C dX12_partsAs_2 (by decide) (fun q2 => ?_) (fun q2 => ?_)
  · have hk3 : ¬ k = 3 := fun z => q2 (by rw [z]; rfl)
    refine vv_iload_n C dX12_partsAs_20 rfl ?_
    refine vv_iconst C dX12_partsAs_21 ic_4 ?_
    refine vv_icmp_ne (tgt := 50) C dX12_partsAs_22 (by decide) (fun q22 => ?_) (fun q22 => ?_)
    · have hk4 : ¬ k = 4 := fun z => q22 (by rw [z]; rfl)
      have hv : qS own self k v = (v ^^^ self, [11]) := by unfold qS; rw [if_neg hk3, if_neg hk4]
      refine vv_aload_n C dX12_partsAs_50 rfl ?_
      refine vv_bipush C dX12_partsAs_51 bp_11 ?_
      refine vs_callv C dX12_partsAs_53 (c_X12_begins g S (l) ht (by omega) 11) mb_X12_begins mv_X12_begins lk_X12_320 ce_65 rfl rfl rfl rfl ⟨Nat.le_of_ble_eq_true rfl, Nat.le_of_ble_eq_true rfl, Nat.le_of_ble_eq_true rfl⟩ (fun S53 p53 => ?_)
      refine vv_iload_n C dX12_partsAs_56 rfl ?_
      refine vv_aload_n C dX12_partsAs_57 rfl ?_
      refine gf_X12_ownNumber C dX12_partsAs_58 fg_X12_326 ?_
      refine vs_eqi (v9 := self) ((p53.2.1 40 (by decide)).trans h40) ?_
      refine vv_ixor C dX12_partsAs_61 ?_
      exact vs_iret C F dX12_partsAs_62 rfl ⟨by rw [hv], by rw [hv]; exact p53.1, p53.2⟩
    · have hk : k = 4 := ac_eq hk8 4 (by omega) q22
      have hv : qS own self k v = ((v ^^^ self) - (pS self own 2).1, 50 :: 11 :: (pS self own 2).2) := by unfold qS; rw [if_neg hk3, if_pos hk]
      refine vv_aload_n C dX12_partsAs_25 rfl ?_
      refine vv_bipush C dX12_partsAs_26 bp_50 ?_
      refine vs_callv C dX12_partsAs_28 (c_X12_begins g S (l) ht (by omega) 50) mb_X12_begins mv_X12_begins lk_X12_320 ce_65 rfl rfl rfl rfl ⟨Nat.le_of_ble_eq_true rfl, Nat.le_of_ble_eq_true rfl, Nat.le_of_ble_eq_true rfl⟩ (fun S28 p28 => ?_)
      refine vv_aload_n C dX12_partsAs_31 rfl ?_
      refine vv_iconst C dX12_partsAs_32 ic_1 ?_
      refine vv_iload_n C dX12_partsAs_33 rfl ?_
      refine vs_calli C dX12_partsAs_34 (c_X12_partsB g S28 own self hown (p28.2.1 39 (by decide) |>.trans h39) (p28.2.1 40 (by decide) |>.trans h40) _ p28.1 (by simp only [List.length_append, List.length_singleton]; omega) 1 (by omega) (by omega) (by omega) v) mb_X12_partsAs mv_X12_partsAs lk_X12_335 ce_65 rfl rfl rfl rfl ⟨Nat.le_of_ble_eq_true rfl, Nat.le_of_ble_eq_true rfl, Nat.le_of_ble_eq_true rfl⟩ (fun r34 S34 p34 => ?_)
      refine vw_istore_n (lv9 := [_, _, _, _]) C dX12_partsAs_37 (by decide) rfl rfl ?_
      refine vv_iload_n C dX12_partsAs_38 rfl ?_
      refine vv_aload_n C dX12_partsAs_39 rfl ?_
      refine vv_aload_n C dX12_partsAs_40 rfl ?_
      refine gf_X12_ownKind C dX12_partsAs_41 fg_X12_332 ?_
      refine vs_eqi (v9 := nI own) (p34.2.2.1 39 (by decide) |>.trans (p28.2.1 39 (by decide) |>.trans h39)) ?_
      refine vv_iconst C dX12_partsAs_44 ic_2 ?_
      refine vs_calli C dX12_partsAs_45 (c_X12_paysAs g S34 own self hown (p34.2.2.1 39 (by decide) |>.trans (p28.2.1 39 (by decide) |>.trans h39)) (p34.2.2.1 40 (by decide) |>.trans (p28.2.1 40 (by decide) |>.trans h40)) _ p34.2.1 (by simp only [List.length_append, List.length_singleton]; omega) own hown 2) mb_X12_paysAs mv_X12_paysAs lk_X12_323 ce_65 rfl rfl rfl rfl ⟨Nat.le_of_ble_eq_true rfl, Nat.le_of_ble_eq_true rfl, Nat.le_of_ble_eq_true rfl⟩ (fun r45 S45 p45 => ?_)
      refine vv_isub C dX12_partsAs_48 ?_
      exact vs_iret C F dX12_partsAs_49 rfl ⟨by rw [hv, p34.1, p45.1], by rw [hv]; exact (by have t9 := p45.2.1; simpa only [List.append_assoc, List.singleton_append, List.cons_append, List.nil_append] using t9), (p28.2.tr p34.2.2).tr p45.2.2⟩
  · have hk : k = 3 := ac_eq hk8 3 (by omega) q2
    have hv : qS own self k v = ((v ^^^ self) * 3, [40, 11]) := if_pos hk
    refine vv_aload_n C dX12_partsAs_5 rfl ?_
    refine vv_bipush C dX12_partsAs_6 bp_40 ?_
    refine vs_callv C dX12_partsAs_8 (c_X12_begins g S (l) ht (by omega) 40) mb_X12_begins mv_X12_begins lk_X12_320 ce_65 rfl rfl rfl rfl ⟨Nat.le_of_ble_eq_true rfl, Nat.le_of_ble_eq_true rfl, Nat.le_of_ble_eq_true rfl⟩ (fun S8 p8 => ?_)
    refine vv_aload_n C dX12_partsAs_11 rfl ?_
    refine vv_iconst C dX12_partsAs_12 ic_2 ?_
    refine vv_iload_n C dX12_partsAs_13 rfl ?_
    refine vs_calli C dX12_partsAs_14 (c_X12_partsB g S8 own self hown (p8.2.1 39 (by decide) |>.trans h39) (p8.2.1 40 (by decide) |>.trans h40) _ p8.1 (by simp only [List.length_append, List.length_singleton]; omega) 2 (by omega) (by omega) (by omega) v) mb_X12_partsAs mv_X12_partsAs lk_X12_335 ce_65 rfl rfl rfl rfl ⟨Nat.le_of_ble_eq_true rfl, Nat.le_of_ble_eq_true rfl, Nat.le_of_ble_eq_true rfl⟩ (fun r14 S14 p14 => ?_)
    refine vv_iconst C dX12_partsAs_17 ic_3 ?_
    refine vv_imul C dX12_partsAs_18 ?_
    exact vs_iret C F dX12_partsAs_19 rfl ⟨by rw [hv, p14.1], by rw [hv]; exact (by have t9 := p14.2.1; simpa only [List.append_assoc, List.singleton_append, List.cons_append, List.nil_append] using t9), p8.2.tr p14.2.2⟩
set_option maxRecDepth 20000 in
theorem c_X12_owesB (g : vv_G) (S : vs_S) (own : Nat) (self : Int32) (hown : own < 8) (h39 : S.1 39 = nI own) (h40 : S.1 40 = self) (l : List Nat) (ht : tM S l) (hlen : l.length < 2 ^ 28 + 32) (k : Nat) (hk8 : k < 8) (h1 : ¬ k = 3) (h2 : ¬ k = 2) (h3 : ¬ k = 7) (v : Int32) : vs_KI g yX12_owesAs cX12_owesAs 4 (some .int) 4 [vv_r g 65, .int (nI k), .int v] S (fun r S1 => r = (oB own self v).1 ∧ tM S1 (l ++ (oB own self v).2) ∧ vs_fr [38] [83] [] S S1) := by
  refine vs_ofI (lv := [_, _, _, _]) mb_X12_owesAs (Nat.le_of_ble_eq_true rfl) rfl (fun x C F => ?_)
  refine vv_iload_n C dX12_owesAs_0 rfl ?_
  refine vv_iconst C dX12_owesAs_1 ic_3 ?_
  refine vv_icmp_ne (tgt := 20) C dX12_owesAs_2 (by decide) (fun q2 => ?_) (fun q2 => ?_)
  · skip
    refine vv_iload_n C dX12_owesAs_20 rfl ?_
    refine vv_iconst C dX12_owesAs_21 ic_2 ?_
    refine vv_icmp_ne (tgt := 39) C dX12_owesAs_22 (by decide) (fun q22 => ?_) (fun q22 => ?_)
    · skip
      refine vv_iload_n C dX12_owesAs_39 rfl ?_
      refine vv_bipush C dX12_owesAs_40 bp_7 ?_
      refine vv_icmp_ne (tgt := 70) C dX12_owesAs_42 (by decide) (fun q42 => ?_) (fun q42 => ?_)
      · skip
        refine vv_aload_n C dX12_owesAs_70 rfl ?_
        refine vv_bipush C dX12_owesAs_71 bp_10 ?_
        refine vs_callv C dX12_owesAs_73 (c_X12_begins g S (l) ht (by omega) 10) mb_X12_begins mv_X12_begins lk_X12_320 ce_65 rfl rfl rfl rfl ⟨Nat.le_of_ble_eq_true rfl, Nat.le_of_ble_eq_true rfl, Nat.le_of_ble_eq_true rfl⟩ (fun S73 p73 => ?_)
        refine vv_aload_n C dX12_owesAs_76 rfl ?_
        refine vv_aload_n C dX12_owesAs_77 rfl ?_
        refine gf_X12_ownKind C dX12_owesAs_78 fg_X12_332 ?_
        refine vs_eqi (v9 := nI own) (p73.2.1 39 (by decide) |>.trans h39) ?_
        refine vv_iload_n C dX12_owesAs_81 rfl ?_
        refine vs_calli C dX12_owesAs_82 (c_X12_paysAs g S73 own self hown (p73.2.1 39 (by decide) |>.trans h39) (p73.2.1 40 (by decide) |>.trans h40) _ p73.1 (by simp only [List.length_append, List.length_singleton]; omega) own hown v) mb_X12_paysAs mv_X12_paysAs lk_X12_323 ce_65 rfl rfl rfl rfl ⟨Nat.le_of_ble_eq_true rfl, Nat.le_of_ble_eq_true rfl, Nat.le_of_ble_eq_true rfl⟩ (fun r82 S82 p82 => ?_)
        refine vv_iconst C dX12_owesAs_85 ic_2 ?_
        refine vv_imul C dX12_owesAs_86 ?_
        exact vs_iret C F dX12_owesAs_87 rfl ⟨by rw [p82.1]; rfl, (by unfold oB; have t9 := p82.2.1; simpa only [List.append_assoc, List.singleton_append, List.cons_append, List.nil_append] using t9), p73.2.tr p82.2.2⟩
      · exact absurd (ac_eq hk8 7 (by omega) q42) (by omega)
    · exact absurd (ac_eq hk8 2 (by omega) q22) (by omega)
  · exact absurd (ac_eq hk8 3 (by omega) q2) (by omega)
set_option maxRecDepth 20000 in
theorem c_X12_owes2 (g : vv_G) (S : vs_S) (own : Nat) (self : Int32) (hown : own < 8) (h39 : S.1 39 = nI own) (h40 : S.1 40 = self) (l : List Nat) (ht : tM S l) (hlen : l.length < 2 ^ 28 + 24) (v : Int32) : vs_KI g yX12_owesAs cX12_owesAs 4 (some .int) 5 [vv_r g 65, .int (nI 2), .int v] S (fun r S1 => r = ((-(oB own self v).1, 30 :: (oB own self v).2)).1 ∧ tM S1 (l ++ ((-(oB own self v).1, 30 :: (oB own self v).2)).2) ∧ vs_fr [38] [83] [] S S1) := by
  refine vs_ofI (lv := [_, _, _, _]) mb_X12_owesAs (Nat.le_of_ble_eq_true rfl) rfl (fun x C F => ?_)
  refine vv_iload_n C dX12_owesAs_0 rfl ?_
  refine vv_iconst C dX12_owesAs_1 ic_3 ?_
  refine vv_icmp_ne (tgt := 20) C dX12_owesAs_2 (by decide) (fun q2 => ?_) (fun q2 => ?_)
  · skip
    refine vv_iload_n C dX12_owesAs_20 rfl ?_
    refine vv_iconst C dX12_owesAs_21 ic_2 ?_
    refine vv_icmp_ne (tgt := 39) C dX12_owesAs_22 (by decide) (fun q22 => ?_) (fun q22 => ?_)
    · exact absurd rfl q22
    · refine vv_aload_n C dX12_owesAs_25 rfl ?_
      refine vv_bipush C dX12_owesAs_26 bp_30 ?_
      refine vs_callv C dX12_owesAs_28 (c_X12_begins g S (l) ht (by omega) 30) mb_X12_begins mv_X12_begins lk_X12_320 ce_65 rfl rfl rfl rfl ⟨Nat.le_of_ble_eq_true rfl, Nat.le_of_ble_eq_true rfl, Nat.le_of_ble_eq_true rfl⟩ (fun S28 p28 => ?_)
      refine vv_aload_n C dX12_owesAs_31 rfl ?_
      refine vv_iconst C dX12_owesAs_32 ic_0 ?_
      refine vv_iload_n C dX12_owesAs_33 rfl ?_
      refine vs_calli C dX12_owesAs_34 (c_X12_owesB g S28 own self hown (p28.2.1 39 (by decide) |>.trans h39) (p28.2.1 40 (by decide) |>.trans h40) _ p28.1 (by simp only [List.length_append, List.length_singleton]; omega) 0 (by omega) (by omega) (by omega) (by omega) v) mb_X12_owesAs mv_X12_owesAs lk_X12_329 ce_65 rfl rfl rfl rfl ⟨Nat.le_of_ble_eq_true rfl, Nat.le_of_ble_eq_true rfl, Nat.le_of_ble_eq_true rfl⟩ (fun r34 S34 p34 => ?_)
      refine vv_ineg C dX12_owesAs_37 ?_
      exact vs_iret C F dX12_owesAs_38 rfl ⟨by rw [p34.1], (by have t9 := p34.2.1; simpa only [List.append_assoc, List.singleton_append, List.cons_append, List.nil_append] using t9), p28.2.tr p34.2.2⟩
  · exact absurd q2 (by decide)
set_option maxRecDepth 20000 in
theorem c_X12_owesAs (g : vv_G) (S : vs_S) (own : Nat) (self : Int32) (hown : own < 8) (h39 : S.1 39 = nI own) (h40 : S.1 40 = self) (l : List Nat) (ht : tM S l) (hlen : l.length < 2 ^ 28 + 16) (k : Nat) (hk8 : k < 8) (v : Int32) : vs_KI g yX12_owesAs cX12_owesAs 4 (some .int) 6 [vv_r g 65, .int (nI k), .int v] S (fun r S1 => r = (oS own self k v).1 ∧ tM S1 (l ++ (oS own self k v).2) ∧ vs_fr [38] [83] [] S S1) := by
  refine vs_ofI (lv := [_, _, _, _]) mb_X12_owesAs (Nat.le_of_ble_eq_true rfl) rfl (fun x C F => ?_)
  refine vv_iload_n C dX12_owesAs_0 rfl ?_
  refine vv_iconst C dX12_owesAs_1 ic_3 ?_
  refine vv_icmp_ne (tgt := 20) C dX12_owesAs_2 (by decide) (fun q2 => ?_) (fun q2 => ?_)
  · have hk3 : ¬ k = 3 := fun z => q2 (by rw [z]; rfl)
    refine vv_iload_n C dX12_owesAs_20 rfl ?_
    refine vv_iconst C dX12_owesAs_21 ic_2 ?_
    refine vv_icmp_ne (tgt := 39) C dX12_owesAs_22 (by decide) (fun q22 => ?_) (fun q22 => ?_)
    · have hk2 : ¬ k = 2 := fun z => q22 (by rw [z]; rfl)
      refine vv_iload_n C dX12_owesAs_39 rfl ?_
      refine vv_bipush C dX12_owesAs_40 bp_7 ?_
      refine vv_icmp_ne (tgt := 70) C dX12_owesAs_42 (by decide) (fun q42 => ?_) (fun q42 => ?_)
      · have hk7 : ¬ k = 7 := fun z => q42 (by rw [z]; rfl)
        have hv : oS own self k v = oB own self v := by unfold oS; rw [if_neg hk3, if_neg hk2, if_neg hk7]
        refine vv_aload_n C dX12_owesAs_70 rfl ?_
        refine vv_bipush C dX12_owesAs_71 bp_10 ?_
        refine vs_callv C dX12_owesAs_73 (c_X12_begins g S (l) ht (by omega) 10) mb_X12_begins mv_X12_begins lk_X12_320 ce_65 rfl rfl rfl rfl ⟨Nat.le_of_ble_eq_true rfl, Nat.le_of_ble_eq_true rfl, Nat.le_of_ble_eq_true rfl⟩ (fun S73 p73 => ?_)
        refine vv_aload_n C dX12_owesAs_76 rfl ?_
        refine vv_aload_n C dX12_owesAs_77 rfl ?_
        refine gf_X12_ownKind C dX12_owesAs_78 fg_X12_332 ?_
        refine vs_eqi (v9 := nI own) (p73.2.1 39 (by decide) |>.trans h39) ?_
        refine vv_iload_n C dX12_owesAs_81 rfl ?_
        refine vs_calli C dX12_owesAs_82 (c_X12_paysAs g S73 own self hown (p73.2.1 39 (by decide) |>.trans h39) (p73.2.1 40 (by decide) |>.trans h40) _ p73.1 (by simp only [List.length_append, List.length_singleton]; omega) own hown v) mb_X12_paysAs mv_X12_paysAs lk_X12_323 ce_65 rfl rfl rfl rfl ⟨Nat.le_of_ble_eq_true rfl, Nat.le_of_ble_eq_true rfl, Nat.le_of_ble_eq_true rfl⟩ (fun r82 S82 p82 => ?_)
        refine vv_iconst C dX12_owesAs_85 ic_2 ?_
        refine vv_imul C dX12_owesAs_86 ?_
        exact vs_iret C F dX12_owesAs_87 rfl ⟨by rw [hv, p82.1]; rfl, by rw [hv]; exact (by unfold oB; have t9 := p82.2.1; simpa only [List.append_assoc, List.singleton_append, List.cons_append, List.nil_append] using t9), p73.2.tr p82.2.2⟩
      · have hk : k = 7 := ac_eq hk8 7 (by omega) q42
        have hv : oS own self k v = ((oB own self v).1 + (qS own self own 2).1, 80 :: ((oB own self v).2 ++ (qS own self own 2).2)) := by unfold oS; rw [if_neg hk3, if_neg hk2, if_pos hk]
        refine vv_aload_n C dX12_owesAs_45 rfl ?_
        refine vv_bipush C dX12_owesAs_46 bp_80 ?_
        refine vs_callv C dX12_owesAs_48 (c_X12_begins g S (l) ht (by omega) 80) mb_X12_begins mv_X12_begins lk_X12_320 ce_65 rfl rfl rfl rfl ⟨Nat.le_of_ble_eq_true rfl, Nat.le_of_ble_eq_true rfl, Nat.le_of_ble_eq_true rfl⟩ (fun S48 p48 => ?_)
        refine vv_aload_n C dX12_owesAs_51 rfl ?_
        refine vv_iconst C dX12_owesAs_52 ic_0 ?_
        refine vv_iload_n C dX12_owesAs_53 rfl ?_
        refine vs_calli C dX12_owesAs_54 (c_X12_owesB g S48 own self hown (p48.2.1 39 (by decide) |>.trans h39) (p48.2.1 40 (by decide) |>.trans h40) _ p48.1 (by simp only [List.length_append, List.length_singleton]; omega) 0 (by omega) (by omega) (by omega) (by omega) v) mb_X12_owesAs mv_X12_owesAs lk_X12_329 ce_65 rfl rfl rfl rfl ⟨Nat.le_of_ble_eq_true rfl, Nat.le_of_ble_eq_true rfl, Nat.le_of_ble_eq_true rfl⟩ (fun r54 S54 p54 => ?_)
        refine vw_istore_n (lv9 := [_, _, _, _]) C dX12_owesAs_57 (by decide) rfl rfl ?_
        refine vv_iload_n C dX12_owesAs_58 rfl ?_
        refine vv_aload_n C dX12_owesAs_59 rfl ?_
        refine vv_aload_n C dX12_owesAs_60 rfl ?_
        refine gf_X12_ownKind C dX12_owesAs_61 fg_X12_332 ?_
        refine vs_eqi (v9 := nI own) (p54.2.2.1 39 (by decide) |>.trans (p48.2.1 39 (by decide) |>.trans h39)) ?_
        refine vv_iconst C dX12_owesAs_64 ic_2 ?_
        refine vs_calli C dX12_owesAs_65 (c_X12_partsAs g S54 own self hown (p54.2.2.1 39 (by decide) |>.trans (p48.2.1 39 (by decide) |>.trans h39)) (p54.2.2.1 40 (by decide) |>.trans (p48.2.1 40 (by decide) |>.trans h40)) _ p54.2.1 (by have := oB_len (own := own) (self := self) (v := v); simp only [List.length_append, List.length_singleton, List.length_cons, List.length_nil] at *; omega) own hown 2) mb_X12_partsAs mv_X12_partsAs lk_X12_335 ce_65 rfl rfl rfl rfl ⟨Nat.le_of_ble_eq_true rfl, Nat.le_of_ble_eq_true rfl, Nat.le_of_ble_eq_true rfl⟩ (fun r65 S65 p65 => ?_)
        refine vv_iadd C dX12_owesAs_68 ?_
        exact vs_iret C F dX12_owesAs_69 rfl ⟨by rw [hv, p54.1, p65.1], by rw [hv]; exact (by have t9 := p65.2.1; simpa only [List.append_assoc, List.singleton_append, List.cons_append, List.nil_append] using t9), (p48.2.tr p54.2.2).tr p65.2.2⟩
    · have hk : k = 2 := ac_eq hk8 2 (by omega) q22
      have hv : oS own self k v = (-(oB own self v).1, 30 :: (oB own self v).2) := by unfold oS; rw [if_neg hk3, if_pos hk]
      refine vv_aload_n C dX12_owesAs_25 rfl ?_
      refine vv_bipush C dX12_owesAs_26 bp_30 ?_
      refine vs_callv C dX12_owesAs_28 (c_X12_begins g S (l) ht (by omega) 30) mb_X12_begins mv_X12_begins lk_X12_320 ce_65 rfl rfl rfl rfl ⟨Nat.le_of_ble_eq_true rfl, Nat.le_of_ble_eq_true rfl, Nat.le_of_ble_eq_true rfl⟩ (fun S28 p28 => ?_)
      refine vv_aload_n C dX12_owesAs_31 rfl ?_
      refine vv_iconst C dX12_owesAs_32 ic_0 ?_
      refine vv_iload_n C dX12_owesAs_33 rfl ?_
      refine vs_calli C dX12_owesAs_34 (c_X12_owesB g S28 own self hown (p28.2.1 39 (by decide) |>.trans h39) (p28.2.1 40 (by decide) |>.trans h40) _ p28.1 (by simp only [List.length_append, List.length_singleton]; omega) 0 (by omega) (by omega) (by omega) (by omega) v) mb_X12_owesAs mv_X12_owesAs lk_X12_329 ce_65 rfl rfl rfl rfl ⟨Nat.le_of_ble_eq_true rfl, Nat.le_of_ble_eq_true rfl, Nat.le_of_ble_eq_true rfl⟩ (fun r34 S34 p34 => ?_)
      refine vv_ineg C dX12_owesAs_37 ?_
      exact vs_iret C F dX12_owesAs_38 rfl ⟨by rw [hv, p34.1], by rw [hv]; exact (by have t9 := p34.2.1; simpa only [List.append_assoc, List.singleton_append, List.cons_append, List.nil_append] using t9), p28.2.tr p34.2.2⟩
  · have hk : k = 3 := ac_eq hk8 3 (by omega) q2
    have hv : oS own self k v = (-(oB own self (v + 1)).1, 41 :: 30 :: (oB own self (v + 1)).2) := if_pos hk
    refine vv_aload_n C dX12_owesAs_5 rfl ?_
    refine vv_bipush C dX12_owesAs_6 bp_41 ?_
    refine vs_callv C dX12_owesAs_8 (c_X12_begins g S (l) ht (by omega) 41) mb_X12_begins mv_X12_begins lk_X12_320 ce_65 rfl rfl rfl rfl ⟨Nat.le_of_ble_eq_true rfl, Nat.le_of_ble_eq_true rfl, Nat.le_of_ble_eq_true rfl⟩ (fun S8 p8 => ?_)
    refine vv_aload_n C dX12_owesAs_11 rfl ?_
    refine vv_iconst C dX12_owesAs_12 ic_2 ?_
    refine vv_iload_n C dX12_owesAs_13 rfl ?_
    refine vv_iconst C dX12_owesAs_14 ic_1 ?_
    refine vv_iadd C dX12_owesAs_15 ?_
    refine vs_calli C dX12_owesAs_16 (c_X12_owes2 g S8 own self hown (p8.2.1 39 (by decide) |>.trans h39) (p8.2.1 40 (by decide) |>.trans h40) _ p8.1 (by simp only [List.length_append, List.length_singleton]; omega) (v + 1)) mb_X12_owesAs mv_X12_owesAs lk_X12_329 ce_65 rfl rfl rfl rfl ⟨Nat.le_of_ble_eq_true rfl, Nat.le_of_ble_eq_true rfl, Nat.le_of_ble_eq_true rfl⟩ (fun r16 S16 p16 => ?_)
    exact vs_iret C F dX12_owesAs_19 rfl ⟨by rw [hv, p16.1], by rw [hv]; exact (by have t9 := p16.2.1; simpa only [List.append_assoc, List.singleton_append, List.cons_append, List.nil_append] using t9), p8.2.tr p16.2.2⟩
set_option maxRecDepth 20000 in
theorem c_X12_tellsB (g : vv_G) (S : vs_S) (own : Nat) (self : Int32) (hown : own < 8) (h39 : S.1 39 = nI own) (h40 : S.1 40 = self) (l : List Nat) (ht : tM S l) (hlen : l.length < 2 ^ 28 + 8) (k : Nat) (hk8 : k < 8) (h1 : ¬ k = 6) (h2 : ¬ k = 7) (v : Int32) : vs_KI g yX12_tellsAs cX12_tellsAs 4 (some .int) 7 [vv_r g 65, .int (nI k), .int v] S (fun r S1 => r = (tB own self v).1 ∧ tM S1 (l ++ (tB own self v).2) ∧ vs_fr [38] [83] [] S S1) := by
  refine vs_ofI (lv := [_, _, _, _]) mb_X12_tellsAs (Nat.le_of_ble_eq_true rfl) rfl (fun x C F => ?_)
  refine vv_iload_n C dX12_tellsAs_0 rfl ?_
  refine vv_bipush C dX12_tellsAs_1 bp_6 ?_
  refine vv_icmp_ne (tgt := 21) C dX12_tellsAs_3 (by decide) (fun q3 => ?_) (fun q3 => ?_)
  · skip
    refine vv_iload_n C dX12_tellsAs_21 rfl ?_
    refine vv_bipush C dX12_tellsAs_22 bp_7 ?_
    refine vv_icmp_ne (tgt := 42) C dX12_tellsAs_24 (by decide) (fun q24 => ?_) (fun q24 => ?_)
    · skip
      refine vv_aload_n C dX12_tellsAs_42 rfl ?_
      refine vv_iconst C dX12_tellsAs_43 ic_2 ?_
      refine vs_callv C dX12_tellsAs_44 (c_X12_begins g S (l) ht (by omega) 2) mb_X12_begins mv_X12_begins lk_X12_320 ce_65 rfl rfl rfl rfl ⟨Nat.le_of_ble_eq_true rfl, Nat.le_of_ble_eq_true rfl, Nat.le_of_ble_eq_true rfl⟩ (fun S44 p44 => ?_)
      refine vv_aload_n C dX12_tellsAs_47 rfl ?_
      refine vv_aload_n C dX12_tellsAs_48 rfl ?_
      refine gf_X12_ownKind C dX12_tellsAs_49 fg_X12_332 ?_
      refine vs_eqi (v9 := nI own) (p44.2.1 39 (by decide) |>.trans h39) ?_
      refine vv_iload_n C dX12_tellsAs_52 rfl ?_
      refine vs_calli C dX12_tellsAs_53 (c_X12_owesAs g S44 own self hown (p44.2.1 39 (by decide) |>.trans h39) (p44.2.1 40 (by decide) |>.trans h40) _ p44.1 (by simp only [List.length_append, List.length_singleton]; omega) own hown v) mb_X12_owesAs mv_X12_owesAs lk_X12_329 ce_65 rfl rfl rfl rfl ⟨Nat.le_of_ble_eq_true rfl, Nat.le_of_ble_eq_true rfl, Nat.le_of_ble_eq_true rfl⟩ (fun r53 S53 p53 => ?_)
      refine vw_istore_n (lv9 := [_, _, _, _]) C dX12_tellsAs_56 (by decide) rfl rfl ?_
      refine vv_iload_n C dX12_tellsAs_57 rfl ?_
      refine vv_aload_n C dX12_tellsAs_58 rfl ?_
      refine vv_aload_n C dX12_tellsAs_59 rfl ?_
      refine gf_X12_ownKind C dX12_tellsAs_60 fg_X12_332 ?_
      refine vs_eqi (v9 := nI own) (p53.2.2.1 39 (by decide) |>.trans (p44.2.1 39 (by decide) |>.trans h39)) ?_
      refine vv_iconst C dX12_tellsAs_63 ic_1 ?_
      refine vs_calli C dX12_tellsAs_64 (c_X12_partsAs g S53 own self hown (p53.2.2.1 39 (by decide) |>.trans (p44.2.1 39 (by decide) |>.trans h39)) (p53.2.2.1 40 (by decide) |>.trans (p44.2.1 40 (by decide) |>.trans h40)) _ p53.2.1 (by have := oS_len (own := own) (self := self) (k := own) (v := v); simp only [List.length_append, List.length_singleton, List.length_cons, List.length_nil] at *; omega) own hown 1) mb_X12_partsAs mv_X12_partsAs lk_X12_335 ce_65 rfl rfl rfl rfl ⟨Nat.le_of_ble_eq_true rfl, Nat.le_of_ble_eq_true rfl, Nat.le_of_ble_eq_true rfl⟩ (fun r64 S64 p64 => ?_)
      refine vv_isub C dX12_tellsAs_67 ?_
      exact vs_iret C F dX12_tellsAs_68 rfl ⟨by rw [p53.1, p64.1]; rfl, (by unfold tB; have t9 := p64.2.1; simpa only [List.append_assoc, List.singleton_append, List.cons_append, List.nil_append] using t9), (p44.2.tr p53.2.2).tr p64.2.2⟩
    · exact absurd (ac_eq hk8 7 (by omega) q24) (by omega)
  · exact absurd (ac_eq hk8 6 (by omega) q3) (by omega)
set_option maxRecDepth 20000 in
theorem c_X12_tellsAs (g : vv_G) (S : vs_S) (own : Nat) (self : Int32) (hown : own < 8) (h39 : S.1 39 = nI own) (h40 : S.1 40 = self) (l : List Nat) (ht : tM S l) (hlen : l.length < 2 ^ 28 + 0) (k : Nat) (hk8 : k < 8) (v : Int32) : vs_KI g yX12_tellsAs cX12_tellsAs 4 (some .int) 8 [vv_r g 65, .int (nI k), .int v] S (fun r S1 => r = (tS own self k v).1 ∧ tM S1 (l ++ (tS own self k v).2) ∧ vs_fr [38] [83] [] S S1) := by
  refine vs_ofI (lv := [_, _, _, _]) mb_X12_tellsAs (Nat.le_of_ble_eq_true rfl) rfl (fun x C F => ?_)
  refine vv_iload_n C dX12_tellsAs_0 rfl ?_
  refine vv_bipush C dX12_tellsAs_1 bp_6 ?_
  refine vv_icmp_ne (tgt := 21) C dX12_tellsAs_3 (by decide) (fun q3 => ?_) (fun q3 => ?_)
  · have hk6 : ¬ k = 6 := fun z => q3 (by rw [z]; rfl)
    refine vv_iload_n C dX12_tellsAs_21 rfl ?_
    refine vv_bipush C dX12_tellsAs_22 bp_7 ?_
    refine vv_icmp_ne (tgt := 42) C dX12_tellsAs_24 (by decide) (fun q24 => ?_) (fun q24 => ?_)
    · have hk7 : ¬ k = 7 := fun z => q24 (by rw [z]; rfl)
      have hv : tS own self k v = tB own self v := by unfold tS; rw [if_neg hk6, if_neg hk7]
      refine vv_aload_n C dX12_tellsAs_42 rfl ?_
      refine vv_iconst C dX12_tellsAs_43 ic_2 ?_
      refine vs_callv C dX12_tellsAs_44 (c_X12_begins g S (l) ht (by omega) 2) mb_X12_begins mv_X12_begins lk_X12_320 ce_65 rfl rfl rfl rfl ⟨Nat.le_of_ble_eq_true rfl, Nat.le_of_ble_eq_true rfl, Nat.le_of_ble_eq_true rfl⟩ (fun S44 p44 => ?_)
      refine vv_aload_n C dX12_tellsAs_47 rfl ?_
      refine vv_aload_n C dX12_tellsAs_48 rfl ?_
      refine gf_X12_ownKind C dX12_tellsAs_49 fg_X12_332 ?_
      refine vs_eqi (v9 := nI own) (p44.2.1 39 (by decide) |>.trans h39) ?_
      refine vv_iload_n C dX12_tellsAs_52 rfl ?_
      refine vs_calli C dX12_tellsAs_53 (c_X12_owesAs g S44 own self hown (p44.2.1 39 (by decide) |>.trans h39) (p44.2.1 40 (by decide) |>.trans h40) _ p44.1 (by simp only [List.length_append, List.length_singleton]; omega) own hown v) mb_X12_owesAs mv_X12_owesAs lk_X12_329 ce_65 rfl rfl rfl rfl ⟨Nat.le_of_ble_eq_true rfl, Nat.le_of_ble_eq_true rfl, Nat.le_of_ble_eq_true rfl⟩ (fun r53 S53 p53 => ?_)
      refine vw_istore_n (lv9 := [_, _, _, _]) C dX12_tellsAs_56 (by decide) rfl rfl ?_
      refine vv_iload_n C dX12_tellsAs_57 rfl ?_
      refine vv_aload_n C dX12_tellsAs_58 rfl ?_
      refine vv_aload_n C dX12_tellsAs_59 rfl ?_
      refine gf_X12_ownKind C dX12_tellsAs_60 fg_X12_332 ?_
      refine vs_eqi (v9 := nI own) (p53.2.2.1 39 (by decide) |>.trans (p44.2.1 39 (by decide) |>.trans h39)) ?_
      refine vv_iconst C dX12_tellsAs_63 ic_1 ?_
      refine vs_calli C dX12_tellsAs_64 (c_X12_partsAs g S53 own self hown (p53.2.2.1 39 (by decide) |>.trans (p44.2.1 39 (by decide) |>.trans h39)) (p53.2.2.1 40 (by decide) |>.trans (p44.2.1 40 (by decide) |>.trans h40)) _ p53.2.1 (by have := oS_len (own := own) (self := self) (k := own) (v := v); simp only [List.length_append, List.length_singleton, List.length_cons, List.length_nil] at *; omega) own hown 1) mb_X12_partsAs mv_X12_partsAs lk_X12_335 ce_65 rfl rfl rfl rfl ⟨Nat.le_of_ble_eq_true rfl, Nat.le_of_ble_eq_true rfl, Nat.le_of_ble_eq_true rfl⟩ (fun r64 S64 p64 => ?_)
      refine vv_isub C dX12_tellsAs_67 ?_
      exact vs_iret C F dX12_tellsAs_68 rfl ⟨by rw [hv, p53.1, p64.1]; rfl, by rw [hv]; exact (by unfold tB; have t9 := p64.2.1; simpa only [List.append_assoc, List.singleton_append, List.cons_append, List.nil_append] using t9), (p44.2.tr p53.2.2).tr p64.2.2⟩
    · have hk : k = 7 := ac_eq hk8 7 (by omega) q24
      have hv : tS own self k v = ((tB own self v).1 - 1, 81 :: (tB own self v).2) := by unfold tS; rw [if_neg hk6, if_pos hk]
      refine vv_aload_n C dX12_tellsAs_27 rfl ?_
      refine vv_bipush C dX12_tellsAs_28 bp_81 ?_
      refine vs_callv C dX12_tellsAs_30 (c_X12_begins g S (l) ht (by omega) 81) mb_X12_begins mv_X12_begins lk_X12_320 ce_65 rfl rfl rfl rfl ⟨Nat.le_of_ble_eq_true rfl, Nat.le_of_ble_eq_true rfl, Nat.le_of_ble_eq_true rfl⟩ (fun S30 p30 => ?_)
      refine vv_aload_n C dX12_tellsAs_33 rfl ?_
      refine vv_iconst C dX12_tellsAs_34 ic_0 ?_
      refine vv_iload_n C dX12_tellsAs_35 rfl ?_
      refine vs_calli C dX12_tellsAs_36 (c_X12_tellsB g S30 own self hown (p30.2.1 39 (by decide) |>.trans h39) (p30.2.1 40 (by decide) |>.trans h40) _ p30.1 (by simp only [List.length_append, List.length_singleton]; omega) 0 (by omega) (by omega) (by omega) v) mb_X12_tellsAs mv_X12_tellsAs lk_X12_338 ce_65 rfl rfl rfl rfl ⟨Nat.le_of_ble_eq_true rfl, Nat.le_of_ble_eq_true rfl, Nat.le_of_ble_eq_true rfl⟩ (fun r36 S36 p36 => ?_)
      refine vv_iconst C dX12_tellsAs_39 ic_1 ?_
      refine vv_isub C dX12_tellsAs_40 ?_
      exact vs_iret C F dX12_tellsAs_41 rfl ⟨by rw [hv, p36.1], by rw [hv]; exact (by have t9 := p36.2.1; simpa only [List.append_assoc, List.singleton_append, List.cons_append, List.nil_append] using t9), p30.2.tr p36.2.2⟩
  · have hk : k = 6 := ac_eq hk8 6 (by omega) q3
    have hv : tS own self k v = ((tB own self v).1 ^^^ 5, 70 :: (tB own self v).2) := if_pos hk
    refine vv_aload_n C dX12_tellsAs_6 rfl ?_
    refine vv_bipush C dX12_tellsAs_7 bp_70 ?_
    refine vs_callv C dX12_tellsAs_9 (c_X12_begins g S (l) ht (by omega) 70) mb_X12_begins mv_X12_begins lk_X12_320 ce_65 rfl rfl rfl rfl ⟨Nat.le_of_ble_eq_true rfl, Nat.le_of_ble_eq_true rfl, Nat.le_of_ble_eq_true rfl⟩ (fun S9 p9 => ?_)
    refine vv_aload_n C dX12_tellsAs_12 rfl ?_
    refine vv_iconst C dX12_tellsAs_13 ic_5 ?_
    refine vv_iload_n C dX12_tellsAs_14 rfl ?_
    refine vs_calli C dX12_tellsAs_15 (c_X12_tellsB g S9 own self hown (p9.2.1 39 (by decide) |>.trans h39) (p9.2.1 40 (by decide) |>.trans h40) _ p9.1 (by simp only [List.length_append, List.length_singleton]; omega) 5 (by omega) (by omega) (by omega) v) mb_X12_tellsAs mv_X12_tellsAs lk_X12_338 ce_65 rfl rfl rfl rfl ⟨Nat.le_of_ble_eq_true rfl, Nat.le_of_ble_eq_true rfl, Nat.le_of_ble_eq_true rfl⟩ (fun r15 S15 p15 => ?_)
    refine vv_iconst C dX12_tellsAs_18 ic_5 ?_
    refine vv_ixor C dX12_tellsAs_19 ?_
    exact vs_iret C F dX12_tellsAs_20 rfl ⟨by rw [hv, p15.1], by rw [hv]; exact (by have t9 := p15.2.1; simpa only [List.append_assoc, List.singleton_append, List.cons_append, List.nil_append] using t9), p9.2.tr p15.2.2⟩
set_option maxRecDepth 20000 in
theorem c_X12_act (g : vv_G) (S : vs_S) (m : Nat) (K : Nat → Nat) (hp : plM S m K) (b act v : Int32) : vs_KI g yX12_act cX12_act 4 (some .int) 9 [vv_r g 65, .int b, .int act, .int v] S (fun r S1 => r = (aV m K b act v).1 ∧ tM S1 (aV m K b act v).2 ∧ vs_fr [38, 39, 40] [83] [] S S1) := by
  have hm5 := hp.2.1
  refine vs_ofI (lv := [_, _, _, _]) mb_X12_act (Nat.le_of_ble_eq_true rfl) rfl (fun x C F => ?_)
  refine vv_aload_n C dX12_act_0 rfl ?_
  refine vv_iconst C dX12_act_1 ic_0 ?_
  refine pf_X12_ran C dX12_act_2 fp_X12_317 ?_
  refine vv_aload_n C dX12_act_5 rfl ?_
  refine vv_iload_n C dX12_act_6 rfl ?_
  refine vs_caliF C dX12_act_7 (c_X12_isBody g (vs_us S 38 0) _) mb_X12_isBody mv_X12_isBody lk_X12_341 ce_65 rfl rfl rfl rfl ⟨Nat.le_of_ble_eq_true rfl, Nat.le_of_ble_eq_true rfl, Nat.le_of_ble_eq_true rfl⟩ ?_
  refine vv_if_ne (tgt := 15) C dX12_act_10 (by decide) (fun q10 => ?_) (fun q10 => ?_)
  · have w1 : vs_w b 0 (nI m - 1) = true := by rw [← hp.1]; exact vs_b1.mp q10
    obtain ⟨k, hk, ek⟩ := plX_i hm5 w1
    subst ek
    refine vv_aload_n C dX12_act_15 rfl ?_
    refine vv_aload_n C dX12_act_16 rfl ?_
    refine gf_X12_bodyKind C dX12_act_17 fg_X12_62 ?_
    refine vv_iload_n C dX12_act_20 rfl ?_
    refine ld_82 C dX12_act_21 (xn_in (by omega) (by omega)) ?_
    refine vs_eqi (v9 := nI (K k)) (by rw [xn_cl (by omega)]; exact (hp.2.2 k hk).1) ?_
    refine pf_X12_ownKind C dX12_act_22 fp_X12_332 ?_
    refine vv_aload_n C dX12_act_25 rfl ?_
    refine vv_iload_n C dX12_act_26 rfl ?_
    refine pf_X12_ownNumber C dX12_act_27 fp_X12_326 ?_
    refine vv_iload_n C dX12_act_30 rfl ?_
    have ha4 : act = 0 ∨ act = 1 ∨ act = 2 ∨ act = 3 ∨ ¬ vs_w act 0 3 = true := by
      by_cases w2 : vs_w act 0 3 = true
      · obtain ⟨a, _, ha, ea⟩ := vs_wN (a := 0) (b := 3) (by omega) (by omega) w2
        have h9 : a = 0 ∨ a = 1 ∨ a = 2 ∨ a = 3 := by omega
        rcases h9 with e | e | e | e
        · exact Or.inl (by rw [ea, e]; rfl)
        · exact Or.inr (Or.inl (by rw [ea, e]; rfl))
        · exact Or.inr (Or.inr (Or.inl (by rw [ea, e]; rfl)))
        · exact Or.inr (Or.inr (Or.inr (Or.inl (by rw [ea, e]; rfl))))
      · exact Or.inr (Or.inr (Or.inr (Or.inr w2)))
    rcases ha4 with ea | ea | ea | ea | ea
    · have hw : (vs_w (nI k) 0 (nI m - 1) && vs_w act 0 3) = true := by rw [w1, ea]; decide
      have hv : aV m K (nI k) act v = pS (nI k) (K k) v := by
        unfold aV
        rw [if_pos hw, xn_cl (n := k) (by omega), ea]
        rfl
      subst ea
      refine vv_tableIn (tgt := 60) (off := 29) C dX12_act_31 (by decide +kernel) (by decide +kernel) (by decide +kernel) (by decide) ?_
      refine vv_aload_n C dX12_act_60 rfl ?_
      refine vv_aload_n C dX12_act_61 rfl ?_
      refine gf_X12_ownKind C dX12_act_62 fg_X12_332 ?_
      refine vv_iload_n C dX12_act_65 rfl ?_
      refine vs_calli C dX12_act_66 (c_X12_paysAs g (vs_us (vs_us (vs_us S 38 0) 39 (nI (K k))) 40 (nI k)) (K k) (nI k) (hp.2.2 k hk).2 rfl rfl [] ⟨rfl, fun i h1 h2 => absurd h2 (Nat.not_lt_zero i)⟩ (by decide) (K k) (hp.2.2 k hk).2 v) mb_X12_paysAs mv_X12_paysAs lk_X12_323 ce_65 rfl rfl rfl rfl ⟨Nat.le_of_ble_eq_true rfl, Nat.le_of_ble_eq_true rfl, Nat.le_of_ble_eq_true rfl⟩ (fun r66 S66 p66 => ?_)
      exact vs_iret C F dX12_act_69 rfl ⟨by rw [hv]; exact p66.1, by rw [hv]; exact p66.2.1, (((vs_fr.rf.us (by decide)).us (by decide)).us (by decide)).tr (p66.2.2.wd (by decide) (by decide) (by decide))⟩
    · have hw : (vs_w (nI k) 0 (nI m - 1) && vs_w act 0 3) = true := by rw [w1, ea]; decide
      have hv : aV m K (nI k) act v = oS (K k) (nI k) (K k) v := by
        unfold aV
        rw [if_pos hw, xn_cl (n := k) (by omega), ea]
        rfl
      subst ea
      refine vv_tableIn (tgt := 70) (off := 39) C dX12_act_31 (by decide +kernel) (by decide +kernel) (by decide +kernel) (by decide) ?_
      refine vv_aload_n C dX12_act_70 rfl ?_
      refine vv_aload_n C dX12_act_71 rfl ?_
      refine gf_X12_ownKind C dX12_act_72 fg_X12_332 ?_
      refine vv_iload_n C dX12_act_75 rfl ?_
      refine vs_calli C dX12_act_76 (c_X12_owesAs g (vs_us (vs_us (vs_us S 38 0) 39 (nI (K k))) 40 (nI k)) (K k) (nI k) (hp.2.2 k hk).2 rfl rfl [] ⟨rfl, fun i h1 h2 => absurd h2 (Nat.not_lt_zero i)⟩ (by decide) (K k) (hp.2.2 k hk).2 v) mb_X12_owesAs mv_X12_owesAs lk_X12_329 ce_65 rfl rfl rfl rfl ⟨Nat.le_of_ble_eq_true rfl, Nat.le_of_ble_eq_true rfl, Nat.le_of_ble_eq_true rfl⟩ (fun r76 S76 p76 => ?_)
      exact vs_iret C F dX12_act_79 rfl ⟨by rw [hv]; exact p76.1, by rw [hv]; exact p76.2.1, (((vs_fr.rf.us (by decide)).us (by decide)).us (by decide)).tr (p76.2.2.wd (by decide) (by decide) (by decide))⟩
    · have hw : (vs_w (nI k) 0 (nI m - 1) && vs_w act 0 3) = true := by rw [w1, ea]; decide
      have hv : aV m K (nI k) act v = qS (K k) (nI k) (K k) v := by
        unfold aV
        rw [if_pos hw, xn_cl (n := k) (by omega), ea]
        rfl
      subst ea
      refine vv_tableIn (tgt := 80) (off := 49) C dX12_act_31 (by decide +kernel) (by decide +kernel) (by decide +kernel) (by decide) ?_
      refine vv_aload_n C dX12_act_80 rfl ?_
      refine vv_aload_n C dX12_act_81 rfl ?_
      refine gf_X12_ownKind C dX12_act_82 fg_X12_332 ?_
      refine vv_iload_n C dX12_act_85 rfl ?_
      refine vs_calli C dX12_act_86 (c_X12_partsAs g (vs_us (vs_us (vs_us S 38 0) 39 (nI (K k))) 40 (nI k)) (K k) (nI k) (hp.2.2 k hk).2 rfl rfl [] ⟨rfl, fun i h1 h2 => absurd h2 (Nat.not_lt_zero i)⟩ (by decide) (K k) (hp.2.2 k hk).2 v) mb_X12_partsAs mv_X12_partsAs lk_X12_335 ce_65 rfl rfl rfl rfl ⟨Nat.le_of_ble_eq_true rfl, Nat.le_of_ble_eq_true rfl, Nat.le_of_ble_eq_true rfl⟩ (fun r86 S86 p86 => ?_)
      exact vs_iret C F dX12_act_89 rfl ⟨by rw [hv]; exact p86.1, by rw [hv]; exact p86.2.1, (((vs_fr.rf.us (by decide)).us (by decide)).us (by decide)).tr (p86.2.2.wd (by decide) (by decide) (by decide))⟩
    · have hw : (vs_w (nI k) 0 (nI m - 1) && vs_w act 0 3) = true := by rw [w1, ea]; decide
      have hv : aV m K (nI k) act v = tS (K k) (nI k) (K k) v := by
        unfold aV
        rw [if_pos hw, xn_cl (n := k) (by omega), ea]
        rfl
      subst ea
      refine vv_tableIn (tgt := 90) (off := 59) C dX12_act_31 (by decide +kernel) (by decide +kernel) (by decide +kernel) (by decide) ?_
      refine vv_aload_n C dX12_act_90 rfl ?_
      refine vv_aload_n C dX12_act_91 rfl ?_
      refine gf_X12_ownKind C dX12_act_92 fg_X12_332 ?_
      refine vv_iload_n C dX12_act_95 rfl ?_
      refine vs_calli C dX12_act_96 (c_X12_tellsAs g (vs_us (vs_us (vs_us S 38 0) 39 (nI (K k))) 40 (nI k)) (K k) (nI k) (hp.2.2 k hk).2 rfl rfl [] ⟨rfl, fun i h1 h2 => absurd h2 (Nat.not_lt_zero i)⟩ (by decide) (K k) (hp.2.2 k hk).2 v) mb_X12_tellsAs mv_X12_tellsAs lk_X12_338 ce_65 rfl rfl rfl rfl ⟨Nat.le_of_ble_eq_true rfl, Nat.le_of_ble_eq_true rfl, Nat.le_of_ble_eq_true rfl⟩ (fun r96 S96 p96 => ?_)
      exact vs_iret C F dX12_act_99 rfl ⟨by rw [hv]; exact p96.1, by rw [hv]; exact p96.2.1, (((vs_fr.rf.us (by decide)).us (by decide)).us (by decide)).tr (p96.2.2.wd (by decide) (by decide) (by decide))⟩
    · have hw : ¬ (vs_w (nI k) 0 (nI m - 1) && vs_w act 0 3) = true := by rw [w1, Bool.true_and]; exact ea
      refine vv_tableOut (tgt := 100) C dX12_act_31 (by
        have e3 : (3 : Int32).toInt = 3 := rfl
        have e0 : (0 : Int32).toInt = 0 := rfl
        apply Decidable.byContradiction
        intro z
        apply ea
        unfold vs_w
        rw [decide_eq_true (Int32.le_iff_toInt_le.mpr (by omega)), decide_eq_true (Int32.le_iff_toInt_le.mpr (by omega))]
        rfl) (by decide) ?_
      refine vv_iconst C dX12_act_100 ic_0 ?_
      exact vs_iret C F dX12_act_101 rfl ⟨by unfold aV; rw [if_neg hw], by unfold aV; rw [if_neg hw]; exact ⟨rfl, fun i h1 h2 => absurd h2 (Nat.not_lt_zero i)⟩, ((vs_fr.rf.us (by decide)).us (by decide)).us (by decide)⟩
  · have w1 : vs_w b 0 (nI m - 1) = false := by rw [← hp.1]; exact vs_b0.mp q10
    have hw : ¬ (vs_w b 0 (nI m - 1) && vs_w act 0 3) = true := by rw [w1, Bool.false_and]; decide
    refine vv_iconst C dX12_act_13 ic_0 ?_
    exact vs_iret C F dX12_act_14 rfl ⟨by unfold aV; rw [if_neg hw], by unfold aV; rw [if_neg hw]; exact ⟨rfl, fun i h1 h2 => absurd h2 (Nat.not_lt_zero i)⟩, vs_fr.rf.us (by decide)⟩
